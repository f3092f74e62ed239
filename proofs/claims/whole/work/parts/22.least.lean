/-! THE CLASS: values, aims, least sizes -/
theorem i64_add {x y : Int64} (h : -(2 ^ 62) ≤ x.toInt ∧ x.toInt ≤ 2 ^ 62) (h2 : -(2 ^ 61) ≤ y.toInt ∧ y.toInt ≤ 2 ^ 61) : (x + y).toInt = x.toInt + y.toInt := by
  rw [Int64.toInt_add, Int.bmod_def]
  split <;> omega
theorem i64_sub {x y : Int64} (h : -(2 ^ 62) ≤ x.toInt ∧ x.toInt ≤ 2 ^ 62) (h2 : -(2 ^ 61) ≤ y.toInt ∧ y.toInt ≤ 2 ^ 61) : (x - y).toInt = x.toInt - y.toInt := by
  rw [Int64.toInt_sub, Int.bmod_def]
  split <;> omega
theorem i64_and1 (x : Int64) : (x &&& 1 = 0) = (x.toInt % 2 = 0) := by
  have h1 : (x &&& 1).toBitVec.toNat = x.toBitVec.toNat % 2 := by
    rw [Int64.toBitVec_and, BitVec.toNat_and]
    exact Nat.and_one_is_mod _
  have h2 : x.toInt = if 2 * x.toBitVec.toNat < 2 ^ 64 then (x.toBitVec.toNat : Int) else (x.toBitVec.toNat : Int) - (2 ^ 64 : Nat) := BitVec.toInt_eq_toNat_cond x.toBitVec
  have h3 : (x &&& 1 = 0) = ((x &&& 1).toBitVec.toNat = 0) := by
    apply propext
    constructor
    · intro h; rw [h]; rfl
    · intro h
      apply Int64.toBitVec_inj.mp
      apply BitVec.eq_of_toNat_eq
      rw [h]; rfl
  rw [h3, h1, h2]
  apply propext
  split <;> omega
-- the aim, as a long; NOTHING where there is none
def oAimL (M : mT) (k : Nat) : Int64 := if mhas M k = true then (nI (mval M (M 18 k))).toInt64 + (nI (M 19 k)).toInt64 else 1099511627776
def oVal (M : mT) (j : Nat) : Int32 := if mhv M j = true then nI (mval M j) else -1
theorem mval_le {M : mT} (h : mWF M) {j : Nat} (hj : j < M 25 0) (hv : mhv M j = true) : mval M j ≤ 1080000000 := by
  simp only [mhv, Bool.and_eq_true, decide_eq_true_eq] at hv
  have h1 := h.2.2.2.2.2.2.2 j hj
  have hk : M 26 j - 1 < M 12 0 := by omega
  have h2 := mpl_le h hk hv.2
  have h3 := h1.2 hv.1
  unfold mval
  split
  · rename_i z
    rcases z with z | z
    · rw [if_pos z] at h3
      have := (h.2.2.2.2.1 _ hk z).2
      omega
    · omega
  · omega
theorem oAimL_toInt {M : mT} (h : mWF M) {k : Nat} (hk : k < M 12 0) (ha : mhas M k = true) : (oAimL M k).toInt = maimv M k ∧ -2147483648 ≤ maimv M k ∧ maimv M k ≤ 3300000000 := by
  have ha' := ha
  simp only [mhas, Bool.and_eq_true] at ha'
  have hl := (h.2.2.2.2.2.1 k hk ha'.1).2.2.1
  have hv := mval_le h hl ha'.2
  have e1 : ((nI (mval M (M 18 k))).toInt64).toInt = mval M (M 18 k) := by rw [Int32.toInt_toInt64, nI_toInt (by omega)]
  have e2 : ((nI (M 19 k)).toInt64).toInt = mcon M k := by rw [Int32.toInt_toInt64]; rfl
  have b1 := Int32.toInt_lt (nI (M 19 k))
  have b2 := Int32.le_toInt (nI (M 19 k))
  have e3 : mcon M k = (nI (M 19 k)).toInt := rfl
  unfold oAimL maimv
  rw [if_pos ha, i64_add (by omega) (by omega), e1, e2]
  omega
/-- the places are as they are to be -/
def kS (S : xS) (ar pa qa : Nat → Nat) (M : mT) : Prop := kO S ar pa qa M 4 0
section LEAST
variable {l : Launch} {D : va_G} {n0 : Nat} {S S' : xS} {th : Nat} {ar pa qa la : Nat → Nat} {M : mT}
theorem kS.at (h : rC S th ar pa qa la M) (hs : kS S ar pa qa M) {k : Nat} (hk : k < M 12 0) (hn : mnot M k = true) : xi S (qa k) 9 = nI (mpl M k) ∧ xi S (qa k) 8 = nI (msize M k) := by
  have hg : M 8 (M 14 k) = 0 := by simpa [mnot] using hn
  have hp := (h.1.2.2.2.1 k hk).2.1
  have := (h.1.2.2.1 _ hp).1
  exact (hs.1 (M 14 k) hp hg (Or.inl (by omega))).2.2 k hk rfl
set_option maxHeartbeats 4000000 in
set_option maxRecDepth 100000 in
theorem c_valueOf (h : rC S th ar pa qa la M) (hs : kS S ar pa qa M) {j : Nat} (hj : j < M 25 0) : xMet l D n0 mS_valueOf 0 0 [.inr (.inr (some (la j)))] S (fun r S' => r = some (.inl (oVal M j)) ∧ S' = S) := by
  refine xMet.of (k := mS_valueOf) (own := 3) (ini := false) xm_S_valueOf (by decide +kernel) (by decide +kernel) (by decide) (Nat.le_of_ble_eq_true rfl) ?_
  intro V hV
  show V 0 [some (.inr (.inr (some (la j)))), none] [] S 0 0
  obtain ⟨⟨b1, -⟩, b2, b3⟩ := h.2.2.2.2.2.1 j hj
  have hw := h.1.2.2.2.2.2.2.2 j hj
  by_cases z : M 26 j = 0
  · rw [if_pos z] at b2
    refine xrun_ok hV [] 30 _ _ _ _ _ _ ?_
    simp (maxDischargeDepth := 60) only [xrun, xisc, ↓xstep, xget, xtgt, xcmp, xacmp, xprev, xisR, xnt, List.set, List.length, xsw, xlk, true_or, or_true, if_true, if_false, true_and, and_true, List.mem_cons, List.not_mem_nil, or_false, false_or, Bool.false_eq_true, reduceCtorEq, not_false_eq_true, forall_const, Nat.zero_add, Nat.reduceAdd, Nat.reduceSub, Int.reduceAdd, Int.reduceNeg, Int.reduceToNat, Nat.reduceEqDiff, Nat.reduceLT, Nat.reduceLeDiff, Int.reduceLE, Int.reduceLT, reduceIte, Int.cast_ofNat_Int, Int.natCast_zero, Int.natCast_one, Int.reduceAdd, eq_self, Int.reduceSub, List.length_cons, List.length_nil, xli_m1, xli_0, xli_1, xli_2, xli_3, xli_4, xli_5, xlb_8, xlb_12, xlb_31, xlb_32, xlb_64, xls_256, xls_513, xls_2048, xls_4096, xll_0, xll_1, xnr_i, xnr_0, xnr_1, xnr_ite, xft_i, xft_0, xft_1, xat_999, xat_1001, xat_1002, xat_1003, xat_2001, xat_2002, xat_2003, List.getElem?_cons_succ, List.getElem?_cons_zero, xfn_0, xfn_1, xfn_2, xfn_3, x10, x01, not_true_eq_false, false_implies, implies_true, true_implies, xrm_c, xrm_s, xnl_4, xnl_32, xnl_64, xnl_256, xtn_4, xtn_32, xtn_64, xtn_256, Option.some.injEq, Sum.inl.injEq, Sum.inr.injEq, exists_eq_left', exists_eq_right, Option.toList_some, Option.toList_none, List.cons_append, List.nil_append, xE, lg_cmp_ge, lg_cmp_le, lg_cmp_gt, lg_cmp_lt, lg_cmp_eq, Nat.le_refl, Nat.zero_le, ne_eq, Nat.add_zero, dS_valueOf_0, dS_valueOf_1, dS_valueOf_4, dS_valueOf_5, dS_valueOf_6, dS_valueOf_9, dS_valueOf_10, dS_valueOf_13, dS_valueOf_16, dS_valueOf_19, dS_valueOf_20, dS_valueOf_21, dS_valueOf_22, dS_valueOf_25, dS_valueOf_28, dS_valueOf_29, dS_valueOf_32, dS_valueOf_33, dS_valueOf_36, dS_valueOf_37, dS_valueOf_38, dS_valueOf_39, dS_valueOf_42, dS_valueOf_45, dS_valueOf_46, dS_valueOf_49, dS_valueOf_52, dS_valueOf_53, dS_valueOf_56, dS_valueOf_57, dS_valueOf_60, dS_valueOf_61, xf_3_92, xf_3_144, xf_3_108, xf_3_86, xf_3_151, xf_3_96, xf_3_135, b1, b2]
    simp [oVal, mhv, z]
  · rw [if_neg z] at b2
    have hk : M 26 j - 1 < M 12 0 := by omega
    obtain ⟨⟨q1, -⟩, ⟨q2, q3, -⟩, -⟩ := h.2.2.2.2.1 _ hk
    have hp := (h.1.2.2.2.1 _ hk).2.1
    have hk4 := (h.1.2.2.2.1 _ hk).1
    obtain ⟨⟨p1, -⟩, ⟨-, -, -, p2, -⟩, -⟩ := h.2.2.2.1 _ hp
    have hw8 := (h.1.2.2.1 _ hp).2.2.2
    have e8 : (nI (M 8 (M 14 (M 26 j - 1))) = 0) = (M 8 (M 14 (M 26 j - 1)) = 0) := propext (nI_eq (b := 0) (by omega) (by decide))
    have e13 : (nI (M 13 (M 26 j - 1)) = 0) = (M 13 (M 26 j - 1) = 0) := propext (nI_eq (b := 0) (by omega) (by decide))
    have hw27 : M 27 j ≤ 4194304 := by
      have h9 := hw.2 z
      split at h9
      · rename_i y
        have := (h.1.2.2.2.2.1 _ hk y).2
        omega
      · omega
    have e27 : (nI (M 27 j) = 0) = (M 27 j = 0) := propext (nI_eq (b := 0) (by omega) (by decide))
    by_cases g : M 8 (M 14 (M 26 j - 1)) = 0
    · obtain ⟨s1, s2⟩ := hs.at h hk (by simp [mnot, g])
      refine xrun_ok hV [] 30 _ _ _ _ _ _ ?_
      simp (maxDischargeDepth := 60) only [xrun, xisc, ↓xstep, xget, xtgt, xcmp, xacmp, xprev, xisR, xnt, List.set, List.length, xsw, xlk, true_or, or_true, if_true, if_false, true_and, and_true, List.mem_cons, List.not_mem_nil, or_false, false_or, Bool.false_eq_true, reduceCtorEq, not_false_eq_true, forall_const, Nat.zero_add, Nat.reduceAdd, Nat.reduceSub, Int.reduceAdd, Int.reduceNeg, Int.reduceToNat, Nat.reduceEqDiff, Nat.reduceLT, Nat.reduceLeDiff, Int.reduceLE, Int.reduceLT, reduceIte, Int.cast_ofNat_Int, Int.natCast_zero, Int.natCast_one, Int.reduceAdd, eq_self, Int.reduceSub, List.length_cons, List.length_nil, xli_m1, xli_0, xli_1, xli_2, xli_3, xli_4, xli_5, xlb_8, xlb_12, xlb_31, xlb_32, xlb_64, xls_256, xls_513, xls_2048, xls_4096, xll_0, xll_1, xnr_i, xnr_0, xnr_1, xnr_ite, xft_i, xft_0, xft_1, xat_999, xat_1001, xat_1002, xat_1003, xat_2001, xat_2002, xat_2003, List.getElem?_cons_succ, List.getElem?_cons_zero, xfn_0, xfn_1, xfn_2, xfn_3, x10, x01, not_true_eq_false, false_implies, implies_true, true_implies, xrm_c, xrm_s, xnl_4, xnl_32, xnl_64, xnl_256, xtn_4, xtn_32, xtn_64, xtn_256, Option.some.injEq, Sum.inl.injEq, Sum.inr.injEq, exists_eq_left', exists_eq_right, Option.toList_some, Option.toList_none, List.cons_append, List.nil_append, xE, lg_cmp_ge, lg_cmp_le, lg_cmp_gt, lg_cmp_lt, lg_cmp_eq, Nat.le_refl, Nat.zero_le, ne_eq, Nat.add_zero, dS_valueOf_0, dS_valueOf_1, dS_valueOf_4, dS_valueOf_5, dS_valueOf_6, dS_valueOf_9, dS_valueOf_10, dS_valueOf_13, dS_valueOf_16, dS_valueOf_19, dS_valueOf_20, dS_valueOf_21, dS_valueOf_22, dS_valueOf_25, dS_valueOf_28, dS_valueOf_29, dS_valueOf_32, dS_valueOf_33, dS_valueOf_36, dS_valueOf_37, dS_valueOf_38, dS_valueOf_39, dS_valueOf_42, dS_valueOf_45, dS_valueOf_46, dS_valueOf_49, dS_valueOf_52, dS_valueOf_53, dS_valueOf_56, dS_valueOf_57, dS_valueOf_60, dS_valueOf_61, xf_3_92, xf_3_144, xf_3_108, xf_3_86, xf_3_151, xf_3_96, xf_3_135, b1, b2, b3, q1, q2, q3, p1, p2, e8, e13, e27, s1, s2, g, nI_0]
      have ht : (decide (M 26 j ≠ 0) && mnot M (M 26 j - 1)) = true := by simp [z, mnot, g]
      unfold oVal mhv
      rw [if_pos ht]
      unfold mval
      refine ⟨fun y => ⟨fun y2 => ?_, fun y2 => ?_⟩, fun y => ?_⟩
      · rw [if_neg (by simp [y, y2]), nI_add]
      · rw [if_pos (Or.inr y2), y2, Nat.add_zero]
      · rw [if_pos (Or.inl y), nI_add]
    · refine xrun_ok hV [] 30 _ _ _ _ _ _ ?_
      simp (maxDischargeDepth := 60) only [xrun, xisc, ↓xstep, xget, xtgt, xcmp, xacmp, xprev, xisR, xnt, List.set, List.length, xsw, xlk, true_or, or_true, if_true, if_false, true_and, and_true, List.mem_cons, List.not_mem_nil, or_false, false_or, Bool.false_eq_true, reduceCtorEq, not_false_eq_true, forall_const, Nat.zero_add, Nat.reduceAdd, Nat.reduceSub, Int.reduceAdd, Int.reduceNeg, Int.reduceToNat, Nat.reduceEqDiff, Nat.reduceLT, Nat.reduceLeDiff, Int.reduceLE, Int.reduceLT, reduceIte, Int.cast_ofNat_Int, Int.natCast_zero, Int.natCast_one, Int.reduceAdd, eq_self, Int.reduceSub, List.length_cons, List.length_nil, xli_m1, xli_0, xli_1, xli_2, xli_3, xli_4, xli_5, xlb_8, xlb_12, xlb_31, xlb_32, xlb_64, xls_256, xls_513, xls_2048, xls_4096, xll_0, xll_1, xnr_i, xnr_0, xnr_1, xnr_ite, xft_i, xft_0, xft_1, xat_999, xat_1001, xat_1002, xat_1003, xat_2001, xat_2002, xat_2003, List.getElem?_cons_succ, List.getElem?_cons_zero, xfn_0, xfn_1, xfn_2, xfn_3, x10, x01, not_true_eq_false, false_implies, implies_true, true_implies, xrm_c, xrm_s, xnl_4, xnl_32, xnl_64, xnl_256, xtn_4, xtn_32, xtn_64, xtn_256, Option.some.injEq, Sum.inl.injEq, Sum.inr.injEq, exists_eq_left', exists_eq_right, Option.toList_some, Option.toList_none, List.cons_append, List.nil_append, xE, lg_cmp_ge, lg_cmp_le, lg_cmp_gt, lg_cmp_lt, lg_cmp_eq, Nat.le_refl, Nat.zero_le, ne_eq, Nat.add_zero, dS_valueOf_0, dS_valueOf_1, dS_valueOf_4, dS_valueOf_5, dS_valueOf_6, dS_valueOf_9, dS_valueOf_10, dS_valueOf_13, dS_valueOf_16, dS_valueOf_19, dS_valueOf_20, dS_valueOf_21, dS_valueOf_22, dS_valueOf_25, dS_valueOf_28, dS_valueOf_29, dS_valueOf_32, dS_valueOf_33, dS_valueOf_36, dS_valueOf_37, dS_valueOf_38, dS_valueOf_39, dS_valueOf_42, dS_valueOf_45, dS_valueOf_46, dS_valueOf_49, dS_valueOf_52, dS_valueOf_53, dS_valueOf_56, dS_valueOf_57, dS_valueOf_60, dS_valueOf_61, xf_3_92, xf_3_144, xf_3_108, xf_3_86, xf_3_151, xf_3_96, xf_3_135, b1, b2, b3, q1, q2, q3, p1, p2, e8, e13, e27, g]
      have ht : ¬ (decide (M 26 j ≠ 0) && mnot M (M 26 j - 1)) = true := by simp [mnot, g]
      unfold oVal mhv
      rw [if_neg ht]
set_option maxHeartbeats 4000000 in
set_option maxRecDepth 100000 in
theorem c_aimOf (h : rC S th ar pa qa la M) (hs : kS S ar pa qa M) {k : Nat} (hk : k < M 12 0) : xMet l D n0 mS_aimOf 0 0 [.inr (.inr (some (qa k)))] S (fun r S' => r = some (.inr (.inl (oAimL M k))) ∧ S' = S) := by
  refine xMet.of (k := mS_aimOf) (own := 3) (ini := false) xm_S_aimOf (by decide +kernel) (by decide +kernel) (by decide) (Nat.le_of_ble_eq_true rfl) ?_
  intro V hV
  show V 0 [some (.inr (.inr (some (qa k)))), none] [] S 0 0
  obtain ⟨⟨q1, -⟩, ⟨-, -, q2, q3, -⟩, -⟩ := h.2.2.2.2.1 k hk
  by_cases z : maim M k = true
  · rw [if_pos z] at q2
    have hl := (h.1.2.2.2.2.2.1 k hk z).2.2.1
    refine xrun_ok hV [] 30 _ _ _ _ _ _ ?_
    simp (maxDischargeDepth := 60) only [xrun, xisc, ↓xstep, xget, xtgt, xcmp, xacmp, xprev, xisR, xnt, List.set, List.length, xsw, xlk, true_or, or_true, if_true, if_false, true_and, and_true, List.mem_cons, List.not_mem_nil, or_false, false_or, Bool.false_eq_true, reduceCtorEq, not_false_eq_true, forall_const, Nat.zero_add, Nat.reduceAdd, Nat.reduceSub, Int.reduceAdd, Int.reduceNeg, Int.reduceToNat, Nat.reduceEqDiff, Nat.reduceLT, Nat.reduceLeDiff, Int.reduceLE, Int.reduceLT, reduceIte, Int.cast_ofNat_Int, Int.natCast_zero, Int.natCast_one, Int.reduceAdd, eq_self, Int.reduceSub, List.length_cons, List.length_nil, xli_m1, xli_0, xli_1, xli_2, xli_3, xli_4, xli_5, xlb_8, xlb_12, xlb_31, xlb_32, xlb_64, xls_256, xls_513, xls_2048, xls_4096, xll_0, xll_1, xnr_i, xnr_0, xnr_1, xnr_ite, xft_i, xft_0, xft_1, xat_999, xat_1001, xat_1002, xat_1003, xat_2001, xat_2002, xat_2003, List.getElem?_cons_succ, List.getElem?_cons_zero, xfn_0, xfn_1, xfn_2, xfn_3, x10, x01, not_true_eq_false, false_implies, implies_true, true_implies, xrm_c, xrm_s, xnl_4, xnl_32, xnl_64, xnl_256, xtn_4, xtn_32, xtn_64, xtn_256, Option.some.injEq, Sum.inl.injEq, Sum.inr.injEq, exists_eq_left', exists_eq_right, Option.toList_some, Option.toList_none, List.cons_append, List.nil_append, xE, lg_cmp_ge, lg_cmp_le, lg_cmp_gt, lg_cmp_lt, lg_cmp_eq, Nat.le_refl, Nat.zero_le, ne_eq, Nat.add_zero, dS_aimOf_0, dS_aimOf_1, dS_aimOf_4, dS_aimOf_7, dS_aimOf_10, dS_aimOf_11, dS_aimOf_12, dS_aimOf_15, dS_aimOf_18, dS_aimOf_19, dS_aimOf_20, dS_aimOf_21, dS_aimOf_24, dS_aimOf_27, dS_aimOf_30, dS_aimOf_31, dS_aimOf_32, dS_aimOf_33, dS_aimOf_36, dS_aimOf_37, dS_aimOf_38, xf_3_128, xj_3_164, xf_3_248, q1, q2, q3]
    refine hV.call [] xh_3_170 dS_aimOf_15 (c_valueOf h hs hl) (Or.inl rfl) rfl rfl (by decide) (by decide) (by decide) ?_
    rintro r S' ⟨rfl, rfl⟩
    by_cases y : mhv M (M 18 k) = true
    · have hv := mval_le h.1 hl y
      have e : oVal M (M 18 k) = nI (mval M (M 18 k)) := by unfold oVal; rw [if_pos y]
      have ne : ¬ nI (mval M (M 18 k)) = -1 := by
        intro w
        have := congrArg Int32.toInt w
        rw [nI_toInt (by omega)] at this
        have e2 : (-1 : Int32).toInt = -1 := by decide
        omega
      refine xrun_ok hV [] 30 _ _ _ _ _ _ ?_
      simp (maxDischargeDepth := 60) only [xrun, xisc, ↓xstep, xget, xtgt, xcmp, xacmp, xprev, xisR, xnt, List.set, List.length, xsw, xlk, true_or, or_true, if_true, if_false, true_and, and_true, List.mem_cons, List.not_mem_nil, or_false, false_or, Bool.false_eq_true, reduceCtorEq, not_false_eq_true, forall_const, Nat.zero_add, Nat.reduceAdd, Nat.reduceSub, Int.reduceAdd, Int.reduceNeg, Int.reduceToNat, Nat.reduceEqDiff, Nat.reduceLT, Nat.reduceLeDiff, Int.reduceLE, Int.reduceLT, reduceIte, Int.cast_ofNat_Int, Int.natCast_zero, Int.natCast_one, Int.reduceAdd, eq_self, Int.reduceSub, List.length_cons, List.length_nil, xli_m1, xli_0, xli_1, xli_2, xli_3, xli_4, xli_5, xlb_8, xlb_12, xlb_31, xlb_32, xlb_64, xls_256, xls_513, xls_2048, xls_4096, xll_0, xll_1, xnr_i, xnr_0, xnr_1, xnr_ite, xft_i, xft_0, xft_1, xat_999, xat_1001, xat_1002, xat_1003, xat_2001, xat_2002, xat_2003, List.getElem?_cons_succ, List.getElem?_cons_zero, xfn_0, xfn_1, xfn_2, xfn_3, x10, x01, not_true_eq_false, false_implies, implies_true, true_implies, xrm_c, xrm_s, xnl_4, xnl_32, xnl_64, xnl_256, xtn_4, xtn_32, xtn_64, xtn_256, Option.some.injEq, Sum.inl.injEq, Sum.inr.injEq, exists_eq_left', exists_eq_right, Option.toList_some, Option.toList_none, List.cons_append, List.nil_append, xE, lg_cmp_ge, lg_cmp_le, lg_cmp_gt, lg_cmp_lt, lg_cmp_eq, Nat.le_refl, Nat.zero_le, ne_eq, Nat.add_zero, dS_aimOf_0, dS_aimOf_1, dS_aimOf_4, dS_aimOf_7, dS_aimOf_10, dS_aimOf_11, dS_aimOf_12, dS_aimOf_15, dS_aimOf_18, dS_aimOf_19, dS_aimOf_20, dS_aimOf_21, dS_aimOf_24, dS_aimOf_27, dS_aimOf_30, dS_aimOf_31, dS_aimOf_32, dS_aimOf_33, dS_aimOf_36, dS_aimOf_37, dS_aimOf_38, xf_3_128, xj_3_164, xf_3_248, q1, q2, q3, e, ne]
      unfold oAimL mhas
      rw [if_pos (by simp [z, y])]
    · have e : oVal M (M 18 k) = -1 := by unfold oVal; rw [if_neg y]
      refine xrun_ok hV [] 30 _ _ _ _ _ _ ?_
      simp (maxDischargeDepth := 60) only [xrun, xisc, ↓xstep, xget, xtgt, xcmp, xacmp, xprev, xisR, xnt, List.set, List.length, xsw, xlk, true_or, or_true, if_true, if_false, true_and, and_true, List.mem_cons, List.not_mem_nil, or_false, false_or, Bool.false_eq_true, reduceCtorEq, not_false_eq_true, forall_const, Nat.zero_add, Nat.reduceAdd, Nat.reduceSub, Int.reduceAdd, Int.reduceNeg, Int.reduceToNat, Nat.reduceEqDiff, Nat.reduceLT, Nat.reduceLeDiff, Int.reduceLE, Int.reduceLT, reduceIte, Int.cast_ofNat_Int, Int.natCast_zero, Int.natCast_one, Int.reduceAdd, eq_self, Int.reduceSub, List.length_cons, List.length_nil, xli_m1, xli_0, xli_1, xli_2, xli_3, xli_4, xli_5, xlb_8, xlb_12, xlb_31, xlb_32, xlb_64, xls_256, xls_513, xls_2048, xls_4096, xll_0, xll_1, xnr_i, xnr_0, xnr_1, xnr_ite, xft_i, xft_0, xft_1, xat_999, xat_1001, xat_1002, xat_1003, xat_2001, xat_2002, xat_2003, List.getElem?_cons_succ, List.getElem?_cons_zero, xfn_0, xfn_1, xfn_2, xfn_3, x10, x01, not_true_eq_false, false_implies, implies_true, true_implies, xrm_c, xrm_s, xnl_4, xnl_32, xnl_64, xnl_256, xtn_4, xtn_32, xtn_64, xtn_256, Option.some.injEq, Sum.inl.injEq, Sum.inr.injEq, exists_eq_left', exists_eq_right, Option.toList_some, Option.toList_none, List.cons_append, List.nil_append, xE, lg_cmp_ge, lg_cmp_le, lg_cmp_gt, lg_cmp_lt, lg_cmp_eq, Nat.le_refl, Nat.zero_le, ne_eq, Nat.add_zero, dS_aimOf_0, dS_aimOf_1, dS_aimOf_4, dS_aimOf_7, dS_aimOf_10, dS_aimOf_11, dS_aimOf_12, dS_aimOf_15, dS_aimOf_18, dS_aimOf_19, dS_aimOf_20, dS_aimOf_21, dS_aimOf_24, dS_aimOf_27, dS_aimOf_30, dS_aimOf_31, dS_aimOf_32, dS_aimOf_33, dS_aimOf_36, dS_aimOf_37, dS_aimOf_38, xf_3_128, xj_3_164, xf_3_248, q1, q2, q3, e]
      unfold oAimL mhas
      rw [if_neg (by simp [y])]
  · rw [if_neg z] at q2
    refine xrun_ok hV [] 30 _ _ _ _ _ _ ?_
    simp (maxDischargeDepth := 60) only [xrun, xisc, ↓xstep, xget, xtgt, xcmp, xacmp, xprev, xisR, xnt, List.set, List.length, xsw, xlk, true_or, or_true, if_true, if_false, true_and, and_true, List.mem_cons, List.not_mem_nil, or_false, false_or, Bool.false_eq_true, reduceCtorEq, not_false_eq_true, forall_const, Nat.zero_add, Nat.reduceAdd, Nat.reduceSub, Int.reduceAdd, Int.reduceNeg, Int.reduceToNat, Nat.reduceEqDiff, Nat.reduceLT, Nat.reduceLeDiff, Int.reduceLE, Int.reduceLT, reduceIte, Int.cast_ofNat_Int, Int.natCast_zero, Int.natCast_one, Int.reduceAdd, eq_self, Int.reduceSub, List.length_cons, List.length_nil, xli_m1, xli_0, xli_1, xli_2, xli_3, xli_4, xli_5, xlb_8, xlb_12, xlb_31, xlb_32, xlb_64, xls_256, xls_513, xls_2048, xls_4096, xll_0, xll_1, xnr_i, xnr_0, xnr_1, xnr_ite, xft_i, xft_0, xft_1, xat_999, xat_1001, xat_1002, xat_1003, xat_2001, xat_2002, xat_2003, List.getElem?_cons_succ, List.getElem?_cons_zero, xfn_0, xfn_1, xfn_2, xfn_3, x10, x01, not_true_eq_false, false_implies, implies_true, true_implies, xrm_c, xrm_s, xnl_4, xnl_32, xnl_64, xnl_256, xtn_4, xtn_32, xtn_64, xtn_256, Option.some.injEq, Sum.inl.injEq, Sum.inr.injEq, exists_eq_left', exists_eq_right, Option.toList_some, Option.toList_none, List.cons_append, List.nil_append, xE, lg_cmp_ge, lg_cmp_le, lg_cmp_gt, lg_cmp_lt, lg_cmp_eq, Nat.le_refl, Nat.zero_le, ne_eq, Nat.add_zero, dS_aimOf_0, dS_aimOf_1, dS_aimOf_4, dS_aimOf_7, dS_aimOf_10, dS_aimOf_11, dS_aimOf_12, dS_aimOf_15, dS_aimOf_18, dS_aimOf_19, dS_aimOf_20, dS_aimOf_21, dS_aimOf_24, dS_aimOf_27, dS_aimOf_30, dS_aimOf_31, dS_aimOf_32, dS_aimOf_33, dS_aimOf_36, dS_aimOf_37, dS_aimOf_38, xf_3_128, xj_3_164, xf_3_248, q1, q2]
    unfold oAimL mhas
    rw [if_neg (by simp [z])]
theorem nI_ite (c : Prop) [Decidable c] (a b : Nat) : (if c then nI a else nI b) = nI (if c then a else b) := by split <;> rfl
set_option maxHeartbeats 4000000 in
set_option maxRecDepth 100000 in
theorem c_leastCall (S : xS) (d : Int64) {t : Nat} (ht : t ≤ 1) : xMet l D n0 mS_leastCall 0 0 [.inr (.inl d), .inl (nI t)] S (fun r S' => r = some (.inl (nI (mlc d.toInt (decide (t = 1))))) ∧ S' = S) := by
  refine xMet.of (k := mS_leastCall) (own := 3) (ini := false) xm_S_leastCall (by decide +kernel) (by decide +kernel) (by decide) (Nat.le_of_ble_eq_true rfl) ?_
  intro V hV
  show V 0 [some (.inr (.inl d)), none, some (.inl (nI t)), none] [] S 0 0
  have et : (nI t = 0) = (t = 0) := propext (nI_eq (b := 0) (by omega) (by decide))
  have f1 : (-2048 : Int64).toInt = -2048 := by decide +kernel
  have f2 : (2046 : Int64).toInt = 2046 := by decide +kernel
  have f3 : (-1048576 : Int64).toInt = -1048576 := by decide +kernel
  have f4 : (1048574 : Int64).toInt = 1048574 := by decide +kernel
  -- an odd distance
  by_cases he : d.toInt % 2 = 0
  · have late : V 37 [some (.inr (.inl d)), none, some (.inl (nI t)), some (.inl 1)] [] S 0 0 ∨ True := Or.inr trivial
    have fin : (¬ (t = 1 ∧ -2048 ≤ d.toInt ∧ d.toInt ≤ 2047)) → V 37 [some (.inr (.inl d)), none, some (.inl (nI t)), some (.inl 1)] [] S 0 0 := by
      intro hno
      refine xrun_ok hV [] 30 _ _ _ _ _ _ ?_
      simp (maxDischargeDepth := 60) only [xrun, xisc, ↓xstep, xget, xtgt, xcmp, xacmp, xprev, xisR, xnt, List.set, List.length, xsw, xlk, true_or, or_true, if_true, if_false, true_and, and_true, List.mem_cons, List.not_mem_nil, or_false, false_or, Bool.false_eq_true, reduceCtorEq, not_false_eq_true, forall_const, Nat.zero_add, Nat.reduceAdd, Nat.reduceSub, Int.reduceAdd, Int.reduceNeg, Int.reduceToNat, Nat.reduceEqDiff, Nat.reduceLT, Nat.reduceLeDiff, Int.reduceLE, Int.reduceLT, reduceIte, Int.cast_ofNat_Int, Int.natCast_zero, Int.natCast_one, Int.reduceAdd, eq_self, Int.reduceSub, List.length_cons, List.length_nil, xli_m1, xli_0, xli_1, xli_2, xli_3, xli_4, xli_5, xlb_8, xlb_12, xlb_31, xlb_32, xlb_64, xls_256, xls_513, xls_2048, xls_4096, xll_0, xll_1, xnr_i, xnr_0, xnr_1, xnr_ite, xft_i, xft_0, xft_1, xat_999, xat_1001, xat_1002, xat_1003, xat_2001, xat_2002, xat_2003, List.getElem?_cons_succ, List.getElem?_cons_zero, xfn_0, xfn_1, xfn_2, xfn_3, x10, x01, not_true_eq_false, false_implies, implies_true, true_implies, xrm_c, xrm_s, xnl_4, xnl_32, xnl_64, xnl_256, xtn_4, xtn_32, xtn_64, xtn_256, Option.some.injEq, Sum.inl.injEq, Sum.inr.injEq, exists_eq_left', exists_eq_right, Option.toList_some, Option.toList_none, List.cons_append, List.nil_append, xE, lg_cmp_ge, lg_cmp_le, lg_cmp_gt, lg_cmp_lt, lg_cmp_eq, Nat.le_refl, Nat.zero_le, ne_eq, Nat.add_zero, dS_leastCall_0, dS_leastCall_1, dS_leastCall_2, dS_leastCall_3, dS_leastCall_4, dS_leastCall_5, dS_leastCall_8, dS_leastCall_9, dS_leastCall_12, dS_leastCall_13, dS_leastCall_14, dS_leastCall_15, dS_leastCall_18, dS_leastCall_19, dS_leastCall_22, dS_leastCall_23, dS_leastCall_26, dS_leastCall_29, dS_leastCall_32, dS_leastCall_35, dS_leastCall_36, dS_leastCall_37, dS_leastCall_38, dS_leastCall_41, dS_leastCall_42, dS_leastCall_45, dS_leastCall_48, dS_leastCall_51, dS_leastCall_54, dS_leastCall_55, dS_leastCall_58, dS_leastCall_60, xj_3_230, xj_3_232, xj_3_234, xj_3_236]
      refine hV.call [] xh_3_57 dS_leastCall_48 (c_isWithin S d (-1048576) 1048574) (Or.inl rfl) rfl rfl (by decide) (by decide) (by decide) ?_
      rintro r S' ⟨rfl, rfl⟩
      rw [f3, f4]
      have e1 : ¬ (decide (t = 1) = true ∧ d.toInt % 2 = 0 ∧ mnear d.toInt = true) := fun w => hno ⟨by simpa using w.1, by have := w.2.2; simp [mnear] at this; exact this⟩
      by_cases hr : -1048576 ≤ d.toInt ∧ d.toInt ≤ 1048574
      · rw [if_pos hr]
        refine xrun_ok hV [] 30 _ _ _ _ _ _ ?_
        simp (maxDischargeDepth := 60) only [xrun, xisc, ↓xstep, xget, xtgt, xcmp, xacmp, xprev, xisR, xnt, List.set, List.length, xsw, xlk, true_or, or_true, if_true, if_false, true_and, and_true, List.mem_cons, List.not_mem_nil, or_false, false_or, Bool.false_eq_true, reduceCtorEq, not_false_eq_true, forall_const, Nat.zero_add, Nat.reduceAdd, Nat.reduceSub, Int.reduceAdd, Int.reduceNeg, Int.reduceToNat, Nat.reduceEqDiff, Nat.reduceLT, Nat.reduceLeDiff, Int.reduceLE, Int.reduceLT, reduceIte, Int.cast_ofNat_Int, Int.natCast_zero, Int.natCast_one, Int.reduceAdd, eq_self, Int.reduceSub, List.length_cons, List.length_nil, xli_m1, xli_0, xli_1, xli_2, xli_3, xli_4, xli_5, xlb_8, xlb_12, xlb_31, xlb_32, xlb_64, xls_256, xls_513, xls_2048, xls_4096, xll_0, xll_1, xnr_i, xnr_0, xnr_1, xnr_ite, xft_i, xft_0, xft_1, xat_999, xat_1001, xat_1002, xat_1003, xat_2001, xat_2002, xat_2003, List.getElem?_cons_succ, List.getElem?_cons_zero, xfn_0, xfn_1, xfn_2, xfn_3, x10, x01, not_true_eq_false, false_implies, implies_true, true_implies, xrm_c, xrm_s, xnl_4, xnl_32, xnl_64, xnl_256, xtn_4, xtn_32, xtn_64, xtn_256, Option.some.injEq, Sum.inl.injEq, Sum.inr.injEq, exists_eq_left', exists_eq_right, Option.toList_some, Option.toList_none, List.cons_append, List.nil_append, xE, lg_cmp_ge, lg_cmp_le, lg_cmp_gt, lg_cmp_lt, lg_cmp_eq, Nat.le_refl, Nat.zero_le, ne_eq, Nat.add_zero, dS_leastCall_0, dS_leastCall_1, dS_leastCall_2, dS_leastCall_3, dS_leastCall_4, dS_leastCall_5, dS_leastCall_8, dS_leastCall_9, dS_leastCall_12, dS_leastCall_13, dS_leastCall_14, dS_leastCall_15, dS_leastCall_18, dS_leastCall_19, dS_leastCall_22, dS_leastCall_23, dS_leastCall_26, dS_leastCall_29, dS_leastCall_32, dS_leastCall_35, dS_leastCall_36, dS_leastCall_37, dS_leastCall_38, dS_leastCall_41, dS_leastCall_42, dS_leastCall_45, dS_leastCall_48, dS_leastCall_51, dS_leastCall_54, dS_leastCall_55, dS_leastCall_58, dS_leastCall_60, xj_3_230, xj_3_232, xj_3_234, xj_3_236]
        unfold mlc
        rw [if_neg e1, if_pos ⟨he, hr⟩]
        rfl
      · rw [if_neg hr]
        refine xrun_ok hV [] 30 _ _ _ _ _ _ ?_
        simp (maxDischargeDepth := 60) only [xrun, xisc, ↓xstep, xget, xtgt, xcmp, xacmp, xprev, xisR, xnt, List.set, List.length, xsw, xlk, true_or, or_true, if_true, if_false, true_and, and_true, List.mem_cons, List.not_mem_nil, or_false, false_or, Bool.false_eq_true, reduceCtorEq, not_false_eq_true, forall_const, Nat.zero_add, Nat.reduceAdd, Nat.reduceSub, Int.reduceAdd, Int.reduceNeg, Int.reduceToNat, Nat.reduceEqDiff, Nat.reduceLT, Nat.reduceLeDiff, Int.reduceLE, Int.reduceLT, reduceIte, Int.cast_ofNat_Int, Int.natCast_zero, Int.natCast_one, Int.reduceAdd, eq_self, Int.reduceSub, List.length_cons, List.length_nil, xli_m1, xli_0, xli_1, xli_2, xli_3, xli_4, xli_5, xlb_8, xlb_12, xlb_31, xlb_32, xlb_64, xls_256, xls_513, xls_2048, xls_4096, xll_0, xll_1, xnr_i, xnr_0, xnr_1, xnr_ite, xft_i, xft_0, xft_1, xat_999, xat_1001, xat_1002, xat_1003, xat_2001, xat_2002, xat_2003, List.getElem?_cons_succ, List.getElem?_cons_zero, xfn_0, xfn_1, xfn_2, xfn_3, x10, x01, not_true_eq_false, false_implies, implies_true, true_implies, xrm_c, xrm_s, xnl_4, xnl_32, xnl_64, xnl_256, xtn_4, xtn_32, xtn_64, xtn_256, Option.some.injEq, Sum.inl.injEq, Sum.inr.injEq, exists_eq_left', exists_eq_right, Option.toList_some, Option.toList_none, List.cons_append, List.nil_append, xE, lg_cmp_ge, lg_cmp_le, lg_cmp_gt, lg_cmp_lt, lg_cmp_eq, Nat.le_refl, Nat.zero_le, ne_eq, Nat.add_zero, dS_leastCall_0, dS_leastCall_1, dS_leastCall_2, dS_leastCall_3, dS_leastCall_4, dS_leastCall_5, dS_leastCall_8, dS_leastCall_9, dS_leastCall_12, dS_leastCall_13, dS_leastCall_14, dS_leastCall_15, dS_leastCall_18, dS_leastCall_19, dS_leastCall_22, dS_leastCall_23, dS_leastCall_26, dS_leastCall_29, dS_leastCall_32, dS_leastCall_35, dS_leastCall_36, dS_leastCall_37, dS_leastCall_38, dS_leastCall_41, dS_leastCall_42, dS_leastCall_45, dS_leastCall_48, dS_leastCall_51, dS_leastCall_54, dS_leastCall_55, dS_leastCall_58, dS_leastCall_60, xj_3_230, xj_3_232, xj_3_234, xj_3_236]
        unfold mlc
        rw [if_neg e1, if_neg (fun w => hr w.2)]
        rfl
    have ha : (d &&& 1 = 0) = True := by rw [i64_and1]; simp [he]
    refine xrun_ok hV [37] 30 _ _ _ _ _ _ ?_
    simp (maxDischargeDepth := 60) only [xrun, xisc, ↓xstep, xget, xtgt, xcmp, xacmp, xprev, xisR, xnt, List.set, List.length, xsw, xlk, true_or, or_true, if_true, if_false, true_and, and_true, List.mem_cons, List.not_mem_nil, or_false, false_or, Bool.false_eq_true, reduceCtorEq, not_false_eq_true, forall_const, Nat.zero_add, Nat.reduceAdd, Nat.reduceSub, Int.reduceAdd, Int.reduceNeg, Int.reduceToNat, Nat.reduceEqDiff, Nat.reduceLT, Nat.reduceLeDiff, Int.reduceLE, Int.reduceLT, reduceIte, Int.cast_ofNat_Int, Int.natCast_zero, Int.natCast_one, Int.reduceAdd, eq_self, Int.reduceSub, List.length_cons, List.length_nil, xli_m1, xli_0, xli_1, xli_2, xli_3, xli_4, xli_5, xlb_8, xlb_12, xlb_31, xlb_32, xlb_64, xls_256, xls_513, xls_2048, xls_4096, xll_0, xll_1, xnr_i, xnr_0, xnr_1, xnr_ite, xft_i, xft_0, xft_1, xat_999, xat_1001, xat_1002, xat_1003, xat_2001, xat_2002, xat_2003, List.getElem?_cons_succ, List.getElem?_cons_zero, xfn_0, xfn_1, xfn_2, xfn_3, x10, x01, not_true_eq_false, false_implies, implies_true, true_implies, xrm_c, xrm_s, xnl_4, xnl_32, xnl_64, xnl_256, xtn_4, xtn_32, xtn_64, xtn_256, Option.some.injEq, Sum.inl.injEq, Sum.inr.injEq, exists_eq_left', exists_eq_right, Option.toList_some, Option.toList_none, List.cons_append, List.nil_append, xE, lg_cmp_ge, lg_cmp_le, lg_cmp_gt, lg_cmp_lt, lg_cmp_eq, Nat.le_refl, Nat.zero_le, ne_eq, Nat.add_zero, dS_leastCall_0, dS_leastCall_1, dS_leastCall_2, dS_leastCall_3, dS_leastCall_4, dS_leastCall_5, dS_leastCall_8, dS_leastCall_9, dS_leastCall_12, dS_leastCall_13, dS_leastCall_14, dS_leastCall_15, dS_leastCall_18, dS_leastCall_19, dS_leastCall_22, dS_leastCall_23, dS_leastCall_26, dS_leastCall_29, dS_leastCall_32, dS_leastCall_35, dS_leastCall_36, dS_leastCall_37, dS_leastCall_38, dS_leastCall_41, dS_leastCall_42, dS_leastCall_45, dS_leastCall_48, dS_leastCall_51, dS_leastCall_54, dS_leastCall_55, dS_leastCall_58, dS_leastCall_60, xj_3_230, xj_3_232, xj_3_234, xj_3_236, ha, et]
    refine ⟨fun z => fin (fun w => by omega), fun z => ?_⟩
    refine hV.call [] xh_3_57 dS_leastCall_29 (c_isWithin S d (-2048) 2046) (Or.inl rfl) rfl rfl (by decide) (by decide) (by decide) ?_
    rintro r S' ⟨rfl, rfl⟩
    rw [f1, f2]
    by_cases hr : -2048 ≤ d.toInt ∧ d.toInt ≤ 2046
    · rw [if_pos hr]
      refine xrun_ok hV [37] 30 _ _ _ _ _ _ ?_
      simp (maxDischargeDepth := 60) only [xrun, xisc, ↓xstep, xget, xtgt, xcmp, xacmp, xprev, xisR, xnt, List.set, List.length, xsw, xlk, true_or, or_true, if_true, if_false, true_and, and_true, List.mem_cons, List.not_mem_nil, or_false, false_or, Bool.false_eq_true, reduceCtorEq, not_false_eq_true, forall_const, Nat.zero_add, Nat.reduceAdd, Nat.reduceSub, Int.reduceAdd, Int.reduceNeg, Int.reduceToNat, Nat.reduceEqDiff, Nat.reduceLT, Nat.reduceLeDiff, Int.reduceLE, Int.reduceLT, reduceIte, Int.cast_ofNat_Int, Int.natCast_zero, Int.natCast_one, Int.reduceAdd, eq_self, Int.reduceSub, List.length_cons, List.length_nil, xli_m1, xli_0, xli_1, xli_2, xli_3, xli_4, xli_5, xlb_8, xlb_12, xlb_31, xlb_32, xlb_64, xls_256, xls_513, xls_2048, xls_4096, xll_0, xll_1, xnr_i, xnr_0, xnr_1, xnr_ite, xft_i, xft_0, xft_1, xat_999, xat_1001, xat_1002, xat_1003, xat_2001, xat_2002, xat_2003, List.getElem?_cons_succ, List.getElem?_cons_zero, xfn_0, xfn_1, xfn_2, xfn_3, x10, x01, not_true_eq_false, false_implies, implies_true, true_implies, xrm_c, xrm_s, xnl_4, xnl_32, xnl_64, xnl_256, xtn_4, xtn_32, xtn_64, xtn_256, Option.some.injEq, Sum.inl.injEq, Sum.inr.injEq, exists_eq_left', exists_eq_right, Option.toList_some, Option.toList_none, List.cons_append, List.nil_append, xE, lg_cmp_ge, lg_cmp_le, lg_cmp_gt, lg_cmp_lt, lg_cmp_eq, Nat.le_refl, Nat.zero_le, ne_eq, Nat.add_zero, dS_leastCall_0, dS_leastCall_1, dS_leastCall_2, dS_leastCall_3, dS_leastCall_4, dS_leastCall_5, dS_leastCall_8, dS_leastCall_9, dS_leastCall_12, dS_leastCall_13, dS_leastCall_14, dS_leastCall_15, dS_leastCall_18, dS_leastCall_19, dS_leastCall_22, dS_leastCall_23, dS_leastCall_26, dS_leastCall_29, dS_leastCall_32, dS_leastCall_35, dS_leastCall_36, dS_leastCall_37, dS_leastCall_38, dS_leastCall_41, dS_leastCall_42, dS_leastCall_45, dS_leastCall_48, dS_leastCall_51, dS_leastCall_54, dS_leastCall_55, dS_leastCall_58, dS_leastCall_60, xj_3_230, xj_3_232, xj_3_234, xj_3_236]
      unfold mlc
      rw [if_pos ⟨by simp; omega, he, by simp [mnear]; omega⟩]
      rfl
    · rw [if_neg hr]
      refine xrun_ok hV [37] 30 _ _ _ _ _ _ ?_
      simp (maxDischargeDepth := 60) only [xrun, xisc, ↓xstep, xget, xtgt, xcmp, xacmp, xprev, xisR, xnt, List.set, List.length, xsw, xlk, true_or, or_true, if_true, if_false, true_and, and_true, List.mem_cons, List.not_mem_nil, or_false, false_or, Bool.false_eq_true, reduceCtorEq, not_false_eq_true, forall_const, Nat.zero_add, Nat.reduceAdd, Nat.reduceSub, Int.reduceAdd, Int.reduceNeg, Int.reduceToNat, Nat.reduceEqDiff, Nat.reduceLT, Nat.reduceLeDiff, Int.reduceLE, Int.reduceLT, reduceIte, Int.cast_ofNat_Int, Int.natCast_zero, Int.natCast_one, Int.reduceAdd, eq_self, Int.reduceSub, List.length_cons, List.length_nil, xli_m1, xli_0, xli_1, xli_2, xli_3, xli_4, xli_5, xlb_8, xlb_12, xlb_31, xlb_32, xlb_64, xls_256, xls_513, xls_2048, xls_4096, xll_0, xll_1, xnr_i, xnr_0, xnr_1, xnr_ite, xft_i, xft_0, xft_1, xat_999, xat_1001, xat_1002, xat_1003, xat_2001, xat_2002, xat_2003, List.getElem?_cons_succ, List.getElem?_cons_zero, xfn_0, xfn_1, xfn_2, xfn_3, x10, x01, not_true_eq_false, false_implies, implies_true, true_implies, xrm_c, xrm_s, xnl_4, xnl_32, xnl_64, xnl_256, xtn_4, xtn_32, xtn_64, xtn_256, Option.some.injEq, Sum.inl.injEq, Sum.inr.injEq, exists_eq_left', exists_eq_right, Option.toList_some, Option.toList_none, List.cons_append, List.nil_append, xE, lg_cmp_ge, lg_cmp_le, lg_cmp_gt, lg_cmp_lt, lg_cmp_eq, Nat.le_refl, Nat.zero_le, ne_eq, Nat.add_zero, dS_leastCall_0, dS_leastCall_1, dS_leastCall_2, dS_leastCall_3, dS_leastCall_4, dS_leastCall_5, dS_leastCall_8, dS_leastCall_9, dS_leastCall_12, dS_leastCall_13, dS_leastCall_14, dS_leastCall_15, dS_leastCall_18, dS_leastCall_19, dS_leastCall_22, dS_leastCall_23, dS_leastCall_26, dS_leastCall_29, dS_leastCall_32, dS_leastCall_35, dS_leastCall_36, dS_leastCall_37, dS_leastCall_38, dS_leastCall_41, dS_leastCall_42, dS_leastCall_45, dS_leastCall_48, dS_leastCall_51, dS_leastCall_54, dS_leastCall_55, dS_leastCall_58, dS_leastCall_60, xj_3_230, xj_3_232, xj_3_234, xj_3_236]
      exact fin (fun w => by omega)
  · have ha : (d &&& 1 = 0) = False := by rw [i64_and1]; simp [he]
    refine xrun_ok hV [] 60 _ _ _ _ _ _ ?_
    simp (maxDischargeDepth := 60) only [xrun, xisc, ↓xstep, xget, xtgt, xcmp, xacmp, xprev, xisR, xnt, List.set, List.length, xsw, xlk, true_or, or_true, if_true, if_false, true_and, and_true, List.mem_cons, List.not_mem_nil, or_false, false_or, Bool.false_eq_true, reduceCtorEq, not_false_eq_true, forall_const, Nat.zero_add, Nat.reduceAdd, Nat.reduceSub, Int.reduceAdd, Int.reduceNeg, Int.reduceToNat, Nat.reduceEqDiff, Nat.reduceLT, Nat.reduceLeDiff, Int.reduceLE, Int.reduceLT, reduceIte, Int.cast_ofNat_Int, Int.natCast_zero, Int.natCast_one, Int.reduceAdd, eq_self, Int.reduceSub, List.length_cons, List.length_nil, xli_m1, xli_0, xli_1, xli_2, xli_3, xli_4, xli_5, xlb_8, xlb_12, xlb_31, xlb_32, xlb_64, xls_256, xls_513, xls_2048, xls_4096, xll_0, xll_1, xnr_i, xnr_0, xnr_1, xnr_ite, xft_i, xft_0, xft_1, xat_999, xat_1001, xat_1002, xat_1003, xat_2001, xat_2002, xat_2003, List.getElem?_cons_succ, List.getElem?_cons_zero, xfn_0, xfn_1, xfn_2, xfn_3, x10, x01, not_true_eq_false, false_implies, implies_true, true_implies, xrm_c, xrm_s, xnl_4, xnl_32, xnl_64, xnl_256, xtn_4, xtn_32, xtn_64, xtn_256, Option.some.injEq, Sum.inl.injEq, Sum.inr.injEq, exists_eq_left', exists_eq_right, Option.toList_some, Option.toList_none, List.cons_append, List.nil_append, xE, lg_cmp_ge, lg_cmp_le, lg_cmp_gt, lg_cmp_lt, lg_cmp_eq, Nat.le_refl, Nat.zero_le, ne_eq, Nat.add_zero, dS_leastCall_0, dS_leastCall_1, dS_leastCall_2, dS_leastCall_3, dS_leastCall_4, dS_leastCall_5, dS_leastCall_8, dS_leastCall_9, dS_leastCall_12, dS_leastCall_13, dS_leastCall_14, dS_leastCall_15, dS_leastCall_18, dS_leastCall_19, dS_leastCall_22, dS_leastCall_23, dS_leastCall_26, dS_leastCall_29, dS_leastCall_32, dS_leastCall_35, dS_leastCall_36, dS_leastCall_37, dS_leastCall_38, dS_leastCall_41, dS_leastCall_42, dS_leastCall_45, dS_leastCall_48, dS_leastCall_51, dS_leastCall_54, dS_leastCall_55, dS_leastCall_58, dS_leastCall_60, xj_3_230, xj_3_232, xj_3_234, xj_3_236, ha, et]
    unfold mlc
    rw [if_neg (fun w => he w.2.1), if_neg (fun w => he w.1)]
    exact ⟨fun _ => rfl, fun _ => rfl⟩
theorem i64_xor_neg (x : Int64) : (0 ≤ x ^^^ 4096) = (0 ≤ x.toInt) := by
  have h1 : (x ^^^ 4096).toBitVec.msb = x.toBitVec.msb := by
    rw [Int64.toBitVec_xor, BitVec.msb_xor]
    have : (4096 : Int64).toBitVec.msb = false := by decide +kernel
    rw [this, Bool.xor_false]
  have h2 : ∀ y : Int64, y.toBitVec.msb = decide (y.toInt < 0) := fun y => BitVec.msb_eq_toInt
  rw [h2, h2] at h1
  have h3 : (0 ≤ x ^^^ 4096) = (0 ≤ (x ^^^ 4096).toInt) := propext Int64.le_iff_toInt_le
  rw [h3]
  have h4 : ((x ^^^ 4096).toInt < 0) ↔ (x.toInt < 0) := by simpa using h1
  apply propext
  omega
theorem i64_div4096 {x : Int64} (h : -(2 ^ 61) ≤ x.toInt ∧ x.toInt ≤ 2 ^ 61) : (x / 4096).toInt = if 0 ≤ x.toInt then x.toInt / 4096 else -((-x.toInt) / 4096) := by
  rw [Int64.toInt_div]
  have e : (4096 : Int64).toInt = 4096 := by decide +kernel
  rw [e]
  have h1 : x.toInt.tdiv 4096 = if 0 ≤ x.toInt then x.toInt / 4096 else -((-x.toInt) / 4096) := by
    split
    · rename_i z
      exact Int.tdiv_eq_ediv_of_nonneg z
    · rename_i z
      rw [← Int.tdiv_eq_ediv_of_nonneg (show 0 ≤ -x.toInt by omega), Int.neg_tdiv, Int.neg_neg]
  rw [h1, Int.bmod_def]
  split <;> split <;> omega
set_option maxHeartbeats 4000000 in
set_option maxRecDepth 100000 in
theorem c_floorDiv (S : xS) (x : Int64) (h : -(2 ^ 61) ≤ x.toInt ∧ x.toInt ≤ 2 ^ 61) : xMet l D n0 mA_floorDiv 0 0 [.inr (.inl x), .inr (.inl 4096)] S (fun r S' => (∃ q : Int64, r = some (.inr (.inl q)) ∧ q.toInt = x.toInt / 4096) ∧ S' = S) := by
  refine xMet.of (k := mA_floorDiv) (own := 6) (ini := false) xm_A_floorDiv (by decide +kernel) (by decide +kernel) (by decide) (Nat.le_of_ble_eq_true rfl) ?_
  intro V hV
  show V 0 [some (.inr (.inl x)), none, some (.inr (.inl 4096)), none, none, none] [] S 0 0
  have hd := i64_div4096 h
  have n0 : ((4096 : Int64) = 0) = False := by decide +kernel
  have e : (4096 : Int64).toInt = 4096 := by decide +kernel
  have hx := i64_xor_neg x
  refine xrun_ok hV [] 60 _ _ _ _ _ _ ?_
  simp (maxDischargeDepth := 60) only [xrun, xisc, ↓xstep, xget, xtgt, xcmp, xacmp, xprev, xisR, xnt, List.set, List.length, xsw, xlk, true_or, or_true, if_true, if_false, true_and, and_true, List.mem_cons, List.not_mem_nil, or_false, false_or, Bool.false_eq_true, reduceCtorEq, not_false_eq_true, forall_const, Nat.zero_add, Nat.reduceAdd, Nat.reduceSub, Int.reduceAdd, Int.reduceNeg, Int.reduceToNat, Nat.reduceEqDiff, Nat.reduceLT, Nat.reduceLeDiff, Int.reduceLE, Int.reduceLT, reduceIte, Int.cast_ofNat_Int, Int.natCast_zero, Int.natCast_one, Int.reduceAdd, eq_self, Int.reduceSub, List.length_cons, List.length_nil, xli_m1, xli_0, xli_1, xli_2, xli_3, xli_4, xli_5, xlb_8, xlb_12, xlb_31, xlb_32, xlb_64, xls_256, xls_513, xls_2048, xls_4096, xll_0, xll_1, xnr_i, xnr_0, xnr_1, xnr_ite, xft_i, xft_0, xft_1, xat_999, xat_1001, xat_1002, xat_1003, xat_2001, xat_2002, xat_2003, List.getElem?_cons_succ, List.getElem?_cons_zero, xfn_0, xfn_1, xfn_2, xfn_3, x10, x01, not_true_eq_false, false_implies, implies_true, true_implies, xrm_c, xrm_s, xnl_4, xnl_32, xnl_64, xnl_256, xtn_4, xtn_32, xtn_64, xtn_256, Option.some.injEq, Sum.inl.injEq, Sum.inr.injEq, exists_eq_left', exists_eq_right, Option.toList_some, Option.toList_none, List.cons_append, List.nil_append, xE, lg_cmp_ge, lg_cmp_le, lg_cmp_gt, lg_cmp_lt, lg_cmp_eq, Nat.le_refl, Nat.zero_le, ne_eq, Nat.add_zero, dA_floorDiv_0, dA_floorDiv_1, dA_floorDiv_2, dA_floorDiv_3, dA_floorDiv_5, dA_floorDiv_6, dA_floorDiv_7, dA_floorDiv_8, dA_floorDiv_9, dA_floorDiv_10, dA_floorDiv_13, dA_floorDiv_15, dA_floorDiv_16, dA_floorDiv_17, dA_floorDiv_18, dA_floorDiv_19, dA_floorDiv_22, dA_floorDiv_24, dA_floorDiv_25, dA_floorDiv_26, dA_floorDiv_27, dA_floorDiv_29, n0, hx]
  have hm : (x / 4096 * 4096).toInt = (x / 4096).toInt * 4096 := by
    rw [Int64.toInt_mul, e, Int.bmod_def, hd]
    split <;> split <;> omega
  refine ⟨fun z => ?_, fun z => ⟨fun y => ?_, fun y => ?_⟩⟩
  · rw [hd, if_pos z]
  · have := congrArg Int64.toInt y
    rw [hm] at this
    omega
  · have h1 : (1 : Int64).toInt = 1 := by decide +kernel
    have ne : (x / 4096).toInt * 4096 ≠ x.toInt := fun w => y (Int64.toInt_inj.mp (hm.trans w))
    rw [if_neg z] at hd
    rw [i64_sub (by omega) (by omega), h1, hd]
    rw [hd] at ne
    omega
set_option maxHeartbeats 4000000 in
set_option maxRecDepth 100000 in
theorem c_leastLoad (S : xS) (a g : Int64) {t : Nat} (ht : t ≤ 1) (ha : -(2 ^ 60) ≤ a.toInt ∧ a.toInt ≤ 2 ^ 60) (hg : -(2 ^ 60) ≤ g.toInt ∧ g.toInt ≤ 2 ^ 60) : xMet l D n0 mS_leastLoad 0 0 [.inr (.inl a), .inr (.inl g), .inl (nI t)] S (fun r S' => r = some (.inl (nI (mll a.toInt g.toInt (decide (t = 1))))) ∧ S' = S) := by
  refine xMet.of (k := mS_leastLoad) (own := 3) (ini := false) xm_S_leastLoad (by decide +kernel) (by decide +kernel) (by decide) (Nat.le_of_ble_eq_true rfl) ?_
  intro V hV
  show V 0 [some (.inr (.inl a)), none, some (.inr (.inl g)), none, some (.inl (nI t))] [] S 0 0
  have et : (nI t = 0) = (t = 0) := propext (nI_eq (b := 0) (by omega) (by decide))
  have f1 : (-2048 : Int64).toInt = -2048 := by decide +kernel
  have f2 : (2047 : Int64).toInt = 2047 := by decide +kernel
  have f3 : (2048 : Int64).toInt = 2048 := by decide +kernel
  have f4 : (1 : Int64).toInt = 1 := by decide +kernel
  have f5 : (31 : Int64).toInt = 31 := by decide +kernel
  refine xrun_ok hV [] 30 _ _ _ _ _ _ ?_
  simp (maxDischargeDepth := 60) only [xrun, xisc, ↓xstep, xget, xtgt, xcmp, xacmp, xprev, xisR, xnt, List.set, List.length, xsw, xlk, true_or, or_true, if_true, if_false, true_and, and_true, List.mem_cons, List.not_mem_nil, or_false, false_or, Bool.false_eq_true, reduceCtorEq, not_false_eq_true, forall_const, Nat.zero_add, Nat.reduceAdd, Nat.reduceSub, Int.reduceAdd, Int.reduceNeg, Int.reduceToNat, Nat.reduceEqDiff, Nat.reduceLT, Nat.reduceLeDiff, Int.reduceLE, Int.reduceLT, reduceIte, Int.cast_ofNat_Int, Int.natCast_zero, Int.natCast_one, Int.reduceAdd, eq_self, Int.reduceSub, List.length_cons, List.length_nil, xli_m1, xli_0, xli_1, xli_2, xli_3, xli_4, xli_5, xlb_8, xlb_12, xlb_31, xlb_32, xlb_64, xls_256, xls_513, xls_2048, xls_4096, xll_0, xll_1, xnr_i, xnr_0, xnr_1, xnr_ite, xft_i, xft_0, xft_1, xat_999, xat_1001, xat_1002, xat_1003, xat_2001, xat_2002, xat_2003, List.getElem?_cons_succ, List.getElem?_cons_zero, xfn_0, xfn_1, xfn_2, xfn_3, x10, x01, not_true_eq_false, false_implies, implies_true, true_implies, xrm_c, xrm_s, xnl_4, xnl_32, xnl_64, xnl_256, xtn_4, xtn_32, xtn_64, xtn_256, Option.some.injEq, Sum.inl.injEq, Sum.inr.injEq, exists_eq_left', exists_eq_right, Option.toList_some, Option.toList_none, List.cons_append, List.nil_append, xE, lg_cmp_ge, lg_cmp_le, lg_cmp_gt, lg_cmp_lt, lg_cmp_eq, Nat.le_refl, Nat.zero_le, ne_eq, Nat.add_zero, dS_leastLoad_0, dS_leastLoad_1, dS_leastLoad_4, dS_leastLoad_7, dS_leastLoad_10, dS_leastLoad_13, dS_leastLoad_14, dS_leastLoad_15, dS_leastLoad_16, dS_leastLoad_19, dS_leastLoad_22, dS_leastLoad_25, dS_leastLoad_28, dS_leastLoad_29, dS_leastLoad_30, dS_leastLoad_32, dS_leastLoad_35, dS_leastLoad_36, dS_leastLoad_39, dS_leastLoad_40, dS_leastLoad_43, dS_leastLoad_46, dS_leastLoad_47, dS_leastLoad_50, dS_leastLoad_53, dS_leastLoad_56, dS_leastLoad_57, dS_leastLoad_60, dS_leastLoad_61, xj_3_230, xj_3_238, xj_3_240, xj_3_72, xj_3_246]
  refine hV.call [] xh_3_57 dS_leastLoad_7 (c_isWithin S a (-2048) 2047) (Or.inl rfl) rfl rfl (by decide) (by decide) (by decide) ?_
  rintro r S' ⟨rfl, rfl⟩
  rw [f1, f2]
  by_cases h1 : -2048 ≤ a.toInt ∧ a.toInt ≤ 2047
  · rw [if_pos h1]
    refine xrun_ok hV [] 30 _ _ _ _ _ _ ?_
    simp (maxDischargeDepth := 60) only [xrun, xisc, ↓xstep, xget, xtgt, xcmp, xacmp, xprev, xisR, xnt, List.set, List.length, xsw, xlk, true_or, or_true, if_true, if_false, true_and, and_true, List.mem_cons, List.not_mem_nil, or_false, false_or, Bool.false_eq_true, reduceCtorEq, not_false_eq_true, forall_const, Nat.zero_add, Nat.reduceAdd, Nat.reduceSub, Int.reduceAdd, Int.reduceNeg, Int.reduceToNat, Nat.reduceEqDiff, Nat.reduceLT, Nat.reduceLeDiff, Int.reduceLE, Int.reduceLT, reduceIte, Int.cast_ofNat_Int, Int.natCast_zero, Int.natCast_one, Int.reduceAdd, eq_self, Int.reduceSub, List.length_cons, List.length_nil, xli_m1, xli_0, xli_1, xli_2, xli_3, xli_4, xli_5, xlb_8, xlb_12, xlb_31, xlb_32, xlb_64, xls_256, xls_513, xls_2048, xls_4096, xll_0, xll_1, xnr_i, xnr_0, xnr_1, xnr_ite, xft_i, xft_0, xft_1, xat_999, xat_1001, xat_1002, xat_1003, xat_2001, xat_2002, xat_2003, List.getElem?_cons_succ, List.getElem?_cons_zero, xfn_0, xfn_1, xfn_2, xfn_3, x10, x01, not_true_eq_false, false_implies, implies_true, true_implies, xrm_c, xrm_s, xnl_4, xnl_32, xnl_64, xnl_256, xtn_4, xtn_32, xtn_64, xtn_256, Option.some.injEq, Sum.inl.injEq, Sum.inr.injEq, exists_eq_left', exists_eq_right, Option.toList_some, Option.toList_none, List.cons_append, List.nil_append, xE, lg_cmp_ge, lg_cmp_le, lg_cmp_gt, lg_cmp_lt, lg_cmp_eq, Nat.le_refl, Nat.zero_le, ne_eq, Nat.add_zero, dS_leastLoad_0, dS_leastLoad_1, dS_leastLoad_4, dS_leastLoad_7, dS_leastLoad_10, dS_leastLoad_13, dS_leastLoad_14, dS_leastLoad_15, dS_leastLoad_16, dS_leastLoad_19, dS_leastLoad_22, dS_leastLoad_25, dS_leastLoad_28, dS_leastLoad_29, dS_leastLoad_30, dS_leastLoad_32, dS_leastLoad_35, dS_leastLoad_36, dS_leastLoad_39, dS_leastLoad_40, dS_leastLoad_43, dS_leastLoad_46, dS_leastLoad_47, dS_leastLoad_50, dS_leastLoad_53, dS_leastLoad_56, dS_leastLoad_57, dS_leastLoad_60, dS_leastLoad_61, xj_3_230, xj_3_238, xj_3_240, xj_3_72, xj_3_246]
    unfold mll
    rw [if_pos (Or.inl (by simp [mnear]; exact h1))]
    rfl
  rw [if_neg h1]
  refine xrun_ok hV [] 30 _ _ _ _ _ _ ?_
  simp (maxDischargeDepth := 60) only [xrun, xisc, ↓xstep, xget, xtgt, xcmp, xacmp, xprev, xisR, xnt, List.set, List.length, xsw, xlk, true_or, or_true, if_true, if_false, true_and, and_true, List.mem_cons, List.not_mem_nil, or_false, false_or, Bool.false_eq_true, reduceCtorEq, not_false_eq_true, forall_const, Nat.zero_add, Nat.reduceAdd, Nat.reduceSub, Int.reduceAdd, Int.reduceNeg, Int.reduceToNat, Nat.reduceEqDiff, Nat.reduceLT, Nat.reduceLeDiff, Int.reduceLE, Int.reduceLT, reduceIte, Int.cast_ofNat_Int, Int.natCast_zero, Int.natCast_one, Int.reduceAdd, eq_self, Int.reduceSub, List.length_cons, List.length_nil, xli_m1, xli_0, xli_1, xli_2, xli_3, xli_4, xli_5, xlb_8, xlb_12, xlb_31, xlb_32, xlb_64, xls_256, xls_513, xls_2048, xls_4096, xll_0, xll_1, xnr_i, xnr_0, xnr_1, xnr_ite, xft_i, xft_0, xft_1, xat_999, xat_1001, xat_1002, xat_1003, xat_2001, xat_2002, xat_2003, List.getElem?_cons_succ, List.getElem?_cons_zero, xfn_0, xfn_1, xfn_2, xfn_3, x10, x01, not_true_eq_false, false_implies, implies_true, true_implies, xrm_c, xrm_s, xnl_4, xnl_32, xnl_64, xnl_256, xtn_4, xtn_32, xtn_64, xtn_256, Option.some.injEq, Sum.inl.injEq, Sum.inr.injEq, exists_eq_left', exists_eq_right, Option.toList_some, Option.toList_none, List.cons_append, List.nil_append, xE, lg_cmp_ge, lg_cmp_le, lg_cmp_gt, lg_cmp_lt, lg_cmp_eq, Nat.le_refl, Nat.zero_le, ne_eq, Nat.add_zero, dS_leastLoad_0, dS_leastLoad_1, dS_leastLoad_4, dS_leastLoad_7, dS_leastLoad_10, dS_leastLoad_13, dS_leastLoad_14, dS_leastLoad_15, dS_leastLoad_16, dS_leastLoad_19, dS_leastLoad_22, dS_leastLoad_25, dS_leastLoad_28, dS_leastLoad_29, dS_leastLoad_30, dS_leastLoad_32, dS_leastLoad_35, dS_leastLoad_36, dS_leastLoad_39, dS_leastLoad_40, dS_leastLoad_43, dS_leastLoad_46, dS_leastLoad_47, dS_leastLoad_50, dS_leastLoad_53, dS_leastLoad_56, dS_leastLoad_57, dS_leastLoad_60, dS_leastLoad_61, xj_3_230, xj_3_238, xj_3_240, xj_3_72, xj_3_246]
  refine hV.call [] xh_3_57 dS_leastLoad_22 (c_isWithin S' (a - g) (-2048) 2047) (Or.inl rfl) rfl rfl (by decide) (by decide) (by decide) ?_
  rintro r S' ⟨rfl, rfl⟩
  rw [f1, f2, i64_sub (by omega) (by omega)]
  by_cases h2 : -2048 ≤ a.toInt - g.toInt ∧ a.toInt - g.toInt ≤ 2047
  · rw [if_pos h2]
    refine xrun_ok hV [] 30 _ _ _ _ _ _ ?_
    simp (maxDischargeDepth := 60) only [xrun, xisc, ↓xstep, xget, xtgt, xcmp, xacmp, xprev, xisR, xnt, List.set, List.length, xsw, xlk, true_or, or_true, if_true, if_false, true_and, and_true, List.mem_cons, List.not_mem_nil, or_false, false_or, Bool.false_eq_true, reduceCtorEq, not_false_eq_true, forall_const, Nat.zero_add, Nat.reduceAdd, Nat.reduceSub, Int.reduceAdd, Int.reduceNeg, Int.reduceToNat, Nat.reduceEqDiff, Nat.reduceLT, Nat.reduceLeDiff, Int.reduceLE, Int.reduceLT, reduceIte, Int.cast_ofNat_Int, Int.natCast_zero, Int.natCast_one, Int.reduceAdd, eq_self, Int.reduceSub, List.length_cons, List.length_nil, xli_m1, xli_0, xli_1, xli_2, xli_3, xli_4, xli_5, xlb_8, xlb_12, xlb_31, xlb_32, xlb_64, xls_256, xls_513, xls_2048, xls_4096, xll_0, xll_1, xnr_i, xnr_0, xnr_1, xnr_ite, xft_i, xft_0, xft_1, xat_999, xat_1001, xat_1002, xat_1003, xat_2001, xat_2002, xat_2003, List.getElem?_cons_succ, List.getElem?_cons_zero, xfn_0, xfn_1, xfn_2, xfn_3, x10, x01, not_true_eq_false, false_implies, implies_true, true_implies, xrm_c, xrm_s, xnl_4, xnl_32, xnl_64, xnl_256, xtn_4, xtn_32, xtn_64, xtn_256, Option.some.injEq, Sum.inl.injEq, Sum.inr.injEq, exists_eq_left', exists_eq_right, Option.toList_some, Option.toList_none, List.cons_append, List.nil_append, xE, lg_cmp_ge, lg_cmp_le, lg_cmp_gt, lg_cmp_lt, lg_cmp_eq, Nat.le_refl, Nat.zero_le, ne_eq, Nat.add_zero, dS_leastLoad_0, dS_leastLoad_1, dS_leastLoad_4, dS_leastLoad_7, dS_leastLoad_10, dS_leastLoad_13, dS_leastLoad_14, dS_leastLoad_15, dS_leastLoad_16, dS_leastLoad_19, dS_leastLoad_22, dS_leastLoad_25, dS_leastLoad_28, dS_leastLoad_29, dS_leastLoad_30, dS_leastLoad_32, dS_leastLoad_35, dS_leastLoad_36, dS_leastLoad_39, dS_leastLoad_40, dS_leastLoad_43, dS_leastLoad_46, dS_leastLoad_47, dS_leastLoad_50, dS_leastLoad_53, dS_leastLoad_56, dS_leastLoad_57, dS_leastLoad_60, dS_leastLoad_61, xj_3_230, xj_3_238, xj_3_240, xj_3_72, xj_3_246]
    unfold mll
    rw [if_pos (Or.inr (by simp [mnear]; exact h2))]
    rfl
  rw [if_neg h2]
  have hno : ¬ (mnear a.toInt = true ∨ mnear (a.toInt - g.toInt) = true) := by
    simp only [mnear, Bool.and_eq_true, decide_eq_true_eq]
    exact fun w => w.elim h1 h2
  refine xrun_ok hV [] 30 _ _ _ _ _ _ ?_
  simp (maxDischargeDepth := 60) only [xrun, xisc, ↓xstep, xget, xtgt, xcmp, xacmp, xprev, xisR, xnt, List.set, List.length, xsw, xlk, true_or, or_true, if_true, if_false, true_and, and_true, List.mem_cons, List.not_mem_nil, or_false, false_or, Bool.false_eq_true, reduceCtorEq, not_false_eq_true, forall_const, Nat.zero_add, Nat.reduceAdd, Nat.reduceSub, Int.reduceAdd, Int.reduceNeg, Int.reduceToNat, Nat.reduceEqDiff, Nat.reduceLT, Nat.reduceLeDiff, Int.reduceLE, Int.reduceLT, reduceIte, Int.cast_ofNat_Int, Int.natCast_zero, Int.natCast_one, Int.reduceAdd, eq_self, Int.reduceSub, List.length_cons, List.length_nil, xli_m1, xli_0, xli_1, xli_2, xli_3, xli_4, xli_5, xlb_8, xlb_12, xlb_31, xlb_32, xlb_64, xls_256, xls_513, xls_2048, xls_4096, xll_0, xll_1, xnr_i, xnr_0, xnr_1, xnr_ite, xft_i, xft_0, xft_1, xat_999, xat_1001, xat_1002, xat_1003, xat_2001, xat_2002, xat_2003, List.getElem?_cons_succ, List.getElem?_cons_zero, xfn_0, xfn_1, xfn_2, xfn_3, x10, x01, not_true_eq_false, false_implies, implies_true, true_implies, xrm_c, xrm_s, xnl_4, xnl_32, xnl_64, xnl_256, xtn_4, xtn_32, xtn_64, xtn_256, Option.some.injEq, Sum.inl.injEq, Sum.inr.injEq, exists_eq_left', exists_eq_right, Option.toList_some, Option.toList_none, List.cons_append, List.nil_append, xE, lg_cmp_ge, lg_cmp_le, lg_cmp_gt, lg_cmp_lt, lg_cmp_eq, Nat.le_refl, Nat.zero_le, ne_eq, Nat.add_zero, dS_leastLoad_0, dS_leastLoad_1, dS_leastLoad_4, dS_leastLoad_7, dS_leastLoad_10, dS_leastLoad_13, dS_leastLoad_14, dS_leastLoad_15, dS_leastLoad_16, dS_leastLoad_19, dS_leastLoad_22, dS_leastLoad_25, dS_leastLoad_28, dS_leastLoad_29, dS_leastLoad_30, dS_leastLoad_32, dS_leastLoad_35, dS_leastLoad_36, dS_leastLoad_39, dS_leastLoad_40, dS_leastLoad_43, dS_leastLoad_46, dS_leastLoad_47, dS_leastLoad_50, dS_leastLoad_53, dS_leastLoad_56, dS_leastLoad_57, dS_leastLoad_60, dS_leastLoad_61, xj_3_230, xj_3_238, xj_3_240, xj_3_72, xj_3_246, et]
  refine ⟨fun z => ?_, fun z => ?_⟩
  · unfold mll
    rw [if_neg hno, if_neg (fun w => by have := w.1; simp at this; omega)]
    rfl
  have hadd : (a + 2048).toInt = a.toInt + 2048 := by rw [i64_add (by omega) (by omega), f3]
  refine hV.call [] xh_3_242 dS_leastLoad_43 (c_floorDiv S' (a + 2048) (by omega)) (Or.inl rfl) rfl rfl (by decide) (by decide) (by decide) ?_
  rintro r S' ⟨⟨q, rfl, hq⟩, rfl⟩
  refine xrun_ok hV [] 30 _ _ _ _ _ _ ?_
  simp (maxDischargeDepth := 60) only [xrun, xisc, ↓xstep, xget, xtgt, xcmp, xacmp, xprev, xisR, xnt, List.set, List.length, xsw, xlk, true_or, or_true, if_true, if_false, true_and, and_true, List.mem_cons, List.not_mem_nil, or_false, false_or, Bool.false_eq_true, reduceCtorEq, not_false_eq_true, forall_const, Nat.zero_add, Nat.reduceAdd, Nat.reduceSub, Int.reduceAdd, Int.reduceNeg, Int.reduceToNat, Nat.reduceEqDiff, Nat.reduceLT, Nat.reduceLeDiff, Int.reduceLE, Int.reduceLT, reduceIte, Int.cast_ofNat_Int, Int.natCast_zero, Int.natCast_one, Int.reduceAdd, eq_self, Int.reduceSub, List.length_cons, List.length_nil, xli_m1, xli_0, xli_1, xli_2, xli_3, xli_4, xli_5, xlb_8, xlb_12, xlb_31, xlb_32, xlb_64, xls_256, xls_513, xls_2048, xls_4096, xll_0, xll_1, xnr_i, xnr_0, xnr_1, xnr_ite, xft_i, xft_0, xft_1, xat_999, xat_1001, xat_1002, xat_1003, xat_2001, xat_2002, xat_2003, List.getElem?_cons_succ, List.getElem?_cons_zero, xfn_0, xfn_1, xfn_2, xfn_3, x10, x01, not_true_eq_false, false_implies, implies_true, true_implies, xrm_c, xrm_s, xnl_4, xnl_32, xnl_64, xnl_256, xtn_4, xtn_32, xtn_64, xtn_256, Option.some.injEq, Sum.inl.injEq, Sum.inr.injEq, exists_eq_left', exists_eq_right, Option.toList_some, Option.toList_none, List.cons_append, List.nil_append, xE, lg_cmp_ge, lg_cmp_le, lg_cmp_gt, lg_cmp_lt, lg_cmp_eq, Nat.le_refl, Nat.zero_le, ne_eq, Nat.add_zero, dS_leastLoad_0, dS_leastLoad_1, dS_leastLoad_4, dS_leastLoad_7, dS_leastLoad_10, dS_leastLoad_13, dS_leastLoad_14, dS_leastLoad_15, dS_leastLoad_16, dS_leastLoad_19, dS_leastLoad_22, dS_leastLoad_25, dS_leastLoad_28, dS_leastLoad_29, dS_leastLoad_30, dS_leastLoad_32, dS_leastLoad_35, dS_leastLoad_36, dS_leastLoad_39, dS_leastLoad_40, dS_leastLoad_43, dS_leastLoad_46, dS_leastLoad_47, dS_leastLoad_50, dS_leastLoad_53, dS_leastLoad_56, dS_leastLoad_57, dS_leastLoad_60, dS_leastLoad_61, xj_3_230, xj_3_238, xj_3_240, xj_3_72, xj_3_246]
  refine hV.call [] xh_3_57 dS_leastLoad_50 (c_isWithin S' q 1 31) (Or.inl rfl) rfl rfl (by decide) (by decide) (by decide) ?_
  rintro r S' ⟨rfl, rfl⟩
  rw [f4, f5, hq, hadd]
  by_cases h3 : 1 ≤ (a.toInt + 2048) / 4096 ∧ (a.toInt + 2048) / 4096 ≤ 31
  · rw [if_pos h3]
    refine xrun_ok hV [] 30 _ _ _ _ _ _ ?_
    simp (maxDischargeDepth := 60) only [xrun, xisc, ↓xstep, xget, xtgt, xcmp, xacmp, xprev, xisR, xnt, List.set, List.length, xsw, xlk, true_or, or_true, if_true, if_false, true_and, and_true, List.mem_cons, List.not_mem_nil, or_false, false_or, Bool.false_eq_true, reduceCtorEq, not_false_eq_true, forall_const, Nat.zero_add, Nat.reduceAdd, Nat.reduceSub, Int.reduceAdd, Int.reduceNeg, Int.reduceToNat, Nat.reduceEqDiff, Nat.reduceLT, Nat.reduceLeDiff, Int.reduceLE, Int.reduceLT, reduceIte, Int.cast_ofNat_Int, Int.natCast_zero, Int.natCast_one, Int.reduceAdd, eq_self, Int.reduceSub, List.length_cons, List.length_nil, xli_m1, xli_0, xli_1, xli_2, xli_3, xli_4, xli_5, xlb_8, xlb_12, xlb_31, xlb_32, xlb_64, xls_256, xls_513, xls_2048, xls_4096, xll_0, xll_1, xnr_i, xnr_0, xnr_1, xnr_ite, xft_i, xft_0, xft_1, xat_999, xat_1001, xat_1002, xat_1003, xat_2001, xat_2002, xat_2003, List.getElem?_cons_succ, List.getElem?_cons_zero, xfn_0, xfn_1, xfn_2, xfn_3, x10, x01, not_true_eq_false, false_implies, implies_true, true_implies, xrm_c, xrm_s, xnl_4, xnl_32, xnl_64, xnl_256, xtn_4, xtn_32, xtn_64, xtn_256, Option.some.injEq, Sum.inl.injEq, Sum.inr.injEq, exists_eq_left', exists_eq_right, Option.toList_some, Option.toList_none, List.cons_append, List.nil_append, xE, lg_cmp_ge, lg_cmp_le, lg_cmp_gt, lg_cmp_lt, lg_cmp_eq, Nat.le_refl, Nat.zero_le, ne_eq, Nat.add_zero, dS_leastLoad_0, dS_leastLoad_1, dS_leastLoad_4, dS_leastLoad_7, dS_leastLoad_10, dS_leastLoad_13, dS_leastLoad_14, dS_leastLoad_15, dS_leastLoad_16, dS_leastLoad_19, dS_leastLoad_22, dS_leastLoad_25, dS_leastLoad_28, dS_leastLoad_29, dS_leastLoad_30, dS_leastLoad_32, dS_leastLoad_35, dS_leastLoad_36, dS_leastLoad_39, dS_leastLoad_40, dS_leastLoad_43, dS_leastLoad_46, dS_leastLoad_47, dS_leastLoad_50, dS_leastLoad_53, dS_leastLoad_56, dS_leastLoad_57, dS_leastLoad_60, dS_leastLoad_61, xj_3_230, xj_3_238, xj_3_240, xj_3_72, xj_3_246]
    unfold mll
    rw [if_neg hno, if_pos ⟨by simp; omega, by omega, by omega⟩]
    rfl
  · rw [if_neg h3]
    refine xrun_ok hV [] 30 _ _ _ _ _ _ ?_
    simp (maxDischargeDepth := 60) only [xrun, xisc, ↓xstep, xget, xtgt, xcmp, xacmp, xprev, xisR, xnt, List.set, List.length, xsw, xlk, true_or, or_true, if_true, if_false, true_and, and_true, List.mem_cons, List.not_mem_nil, or_false, false_or, Bool.false_eq_true, reduceCtorEq, not_false_eq_true, forall_const, Nat.zero_add, Nat.reduceAdd, Nat.reduceSub, Int.reduceAdd, Int.reduceNeg, Int.reduceToNat, Nat.reduceEqDiff, Nat.reduceLT, Nat.reduceLeDiff, Int.reduceLE, Int.reduceLT, reduceIte, Int.cast_ofNat_Int, Int.natCast_zero, Int.natCast_one, Int.reduceAdd, eq_self, Int.reduceSub, List.length_cons, List.length_nil, xli_m1, xli_0, xli_1, xli_2, xli_3, xli_4, xli_5, xlb_8, xlb_12, xlb_31, xlb_32, xlb_64, xls_256, xls_513, xls_2048, xls_4096, xll_0, xll_1, xnr_i, xnr_0, xnr_1, xnr_ite, xft_i, xft_0, xft_1, xat_999, xat_1001, xat_1002, xat_1003, xat_2001, xat_2002, xat_2003, List.getElem?_cons_succ, List.getElem?_cons_zero, xfn_0, xfn_1, xfn_2, xfn_3, x10, x01, not_true_eq_false, false_implies, implies_true, true_implies, xrm_c, xrm_s, xnl_4, xnl_32, xnl_64, xnl_256, xtn_4, xtn_32, xtn_64, xtn_256, Option.some.injEq, Sum.inl.injEq, Sum.inr.injEq, exists_eq_left', exists_eq_right, Option.toList_some, Option.toList_none, List.cons_append, List.nil_append, xE, lg_cmp_ge, lg_cmp_le, lg_cmp_gt, lg_cmp_lt, lg_cmp_eq, Nat.le_refl, Nat.zero_le, ne_eq, Nat.add_zero, dS_leastLoad_0, dS_leastLoad_1, dS_leastLoad_4, dS_leastLoad_7, dS_leastLoad_10, dS_leastLoad_13, dS_leastLoad_14, dS_leastLoad_15, dS_leastLoad_16, dS_leastLoad_19, dS_leastLoad_22, dS_leastLoad_25, dS_leastLoad_28, dS_leastLoad_29, dS_leastLoad_30, dS_leastLoad_32, dS_leastLoad_35, dS_leastLoad_36, dS_leastLoad_39, dS_leastLoad_40, dS_leastLoad_43, dS_leastLoad_46, dS_leastLoad_47, dS_leastLoad_50, dS_leastLoad_53, dS_leastLoad_56, dS_leastLoad_57, dS_leastLoad_60, dS_leastLoad_61, xj_3_230, xj_3_238, xj_3_240, xj_3_72, xj_3_246]
    unfold mll
    rw [if_neg hno, if_neg (fun w => h3 (by omega))]
    rfl
end LEAST
