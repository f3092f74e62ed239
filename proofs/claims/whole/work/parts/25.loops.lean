/-! THE CLASS: loops over its pieces and parts -/
-- the first k below n, from i on, of which P holds
def ffind (P : Nat → Bool) : Nat → Nat → Option Nat
  | _, 0 => none
  | i, d + 1 => if P i = true then some i else ffind P (i + 1) d
def oFind (o : Option Nat) : Int32 := match o with
  | some k => nI k
  | none => -1
def mtight (M : mT) (k : Nat) : Bool := maim M k && mnot M k && decide (M 15 k < mleast M k)
def mshort (M : mT) (k : Nat) : Bool := decide (M 13 k = 4) && mnot M k && decide (M 16 k < mpad (mpl M k) (M 17 k))
def oHolds (M : mT) : Int32 × mT := (oFind (ffind (mtight M) 0 (M 12 0)), M)
def oLacks (M : mT) : Int32 × mT := (oFind (ffind (mshort M) 0 (M 12 0)), M)
def msav (M : mT) (k : Nat) : Nat := if (maim M k && mnot M k) = true then mgr (M 13 k) - M 15 k else 0
def oSaved (M : mT) : Int32 × mT := (nI (nsum (msav M) (M 12 0)), M)
theorem mleast_le {M : mT} (h : mWF M) {k : Nat} (hk : k < M 12 0) (ha : maim M k = true) : mleast M k ≤ mgr (M 13 k) := by
  unfold mleast
  rw [if_pos ha]
  split
  · split
    · rename_i z
      unfold mlc mgr
      rw [if_pos z]
      repeat' split
      all_goals decide
    · rename_i z
      unfold mll mgr
      rw [if_neg z]
      repeat' split
      all_goals decide
  · exact Nat.le_refl _
theorem mgr_le (s : Nat) : mgr s ≤ 8 := by unfold mgr; split <;> decide
theorem msize_aim {M : mT} {k : Nat} (ha : maim M k = true) : msize M k = M 15 k := by
  simp only [maim, Bool.and_eq_true, decide_eq_true_eq] at ha
  unfold msize msz
  rw [if_neg (by omega)]
theorem mleast_no {M : mT} {k : Nat} (ha : maim M k = false) : mleast M k = msize M k := by
  unfold mleast
  rw [if_neg (by simp [ha])]
theorem msize_lt {M : mT} (h : mWF M) {k : Nat} (hk : k < M 12 0) : msize M k ≤ 4194304 := msz_le h hk _
section LOOPS
variable {l : Launch} {D : va_G} {n0 : Nat} {S S' : xS} {th : Nat} {ar pa qa la : Nat → Nat} {M : mT}
set_option maxHeartbeats 4000000 in
set_option maxRecDepth 100000 in
theorem holds_loop (h : rC S th ar pa qa la M) (hL : kL S ar pa qa M) {V : xKt} {Q : Option xVal → xS → Prop}
    (hV : xCl l D n0 3 cS_holds false (some .int) (xrm mS_holds 0 0) V (xE 0 0 Q)) :
    ∀ (n k : Nat), k ≤ M 12 0 → M 12 0 - k = n → Q (some (.inl (oFind (ffind (mtight M) k n)))) S → V 6 [some (.inr (.inr (some th))), some (.inl (nI k)), none] [] S 0 0 := by
  have h1 := h.th
  have h2 := (h.2.1.2.1 1 (by decide)).1
  have h3 := h.2.1.2.2.1.2.1
  have h4 := h.2.1.2.2.2.1.2.1
  have hw := h.1.1.2.2.1
  have e256 : Int32.ofNat 256 = 256 := rfl
  intro n
  induction n with
  | zero =>
    intro k hk hn hq
    have : k = M 12 0 := by omega
    subst this
    have h6 : ((256 : Int32) ≤ nI (M 12 0)) = (256 ≤ M 12 0) := xI_le_nI (by omega) 256 (by decide)
    have e0 : (nI (M 12 0)).toNatClampNeg = M 12 0 := nI_clamp (by omega)
    by_cases h32 : 256 ≤ M 12 0
    · refine xrun_ok hV [] 20 _ _ _ _ _ _ ?_
      simp (maxDischargeDepth := 60) only [xrun, xisc, ↓xstep, xget, xtgt, xcmp, xacmp, xprev, xisR, xnt, List.set, List.length, xsw, xlk, true_or, or_true, if_true, if_false, true_and, and_true, List.mem_cons, List.not_mem_nil, or_false, false_or, Bool.false_eq_true, reduceCtorEq, not_false_eq_true, forall_const, Nat.zero_add, Nat.reduceAdd, Nat.reduceSub, Int.reduceAdd, Int.reduceNeg, Int.reduceToNat, Nat.reduceEqDiff, Nat.reduceLT, Nat.reduceLeDiff, Int.reduceLE, Int.reduceLT, reduceIte, Int.cast_ofNat_Int, Int.natCast_zero, Int.natCast_one, Int.reduceAdd, eq_self, Int.reduceSub, List.length_cons, List.length_nil, xli_m1, xli_0, xli_1, xli_2, xli_3, xli_4, xli_5, xlb_8, xlb_12, xlb_31, xlb_32, xlb_64, xls_256, xls_513, xls_2048, xls_4096, xll_0, xll_1, xnr_i, xnr_0, xnr_1, xnr_ite, xft_i, xft_0, xft_1, xat_999, xat_1001, xat_1002, xat_1003, xat_2001, xat_2002, xat_2003, List.getElem?_cons_succ, List.getElem?_cons_zero, xfn_0, xfn_1, xfn_2, xfn_3, x10, x01, not_true_eq_false, false_implies, implies_true, true_implies, xrm_c, xrm_s, xnl_4, xnl_32, xnl_64, xnl_256, xtn_4, xtn_32, xtn_64, xtn_256, Option.some.injEq, Sum.inl.injEq, Sum.inr.injEq, exists_eq_left', exists_eq_right, Option.toList_some, Option.toList_none, List.cons_append, List.nil_append, xE, lg_cmp_ge, lg_cmp_le, lg_cmp_gt, lg_cmp_lt, lg_cmp_eq, Nat.le_refl, Nat.zero_le, ne_eq, Nat.add_zero, dS_holds_0, dS_holds_1, dS_holds_4, dS_holds_5, dS_holds_6, dS_holds_7, dS_holds_8, dS_holds_11, dS_holds_12, dS_holds_15, dS_holds_16, dS_holds_19, dS_holds_20, dS_holds_21, dS_holds_22, dS_holds_23, dS_holds_26, dS_holds_29, dS_holds_30, dS_holds_33, dS_holds_36, dS_holds_39, dS_holds_40, dS_holds_43, dS_holds_44, dS_holds_47, dS_holds_50, dS_holds_51, dS_holds_52, dS_holds_55, dS_holds_58, dS_holds_59, xf_3_17, xf_3_144, xf_3_108, xf_3_135, xf_3_148, h1, h2, h3, h4, h6, e256]
      exact ⟨⟨_, rfl⟩, fun _ => hq, fun z => absurd h32 z⟩
    · have hr := h.2.2.1.2.1 (M 12 0) (by omega)
      rw [if_neg (by omega)] at hr
      refine xrun_ok hV [] 20 _ _ _ _ _ _ ?_
      simp (maxDischargeDepth := 60) only [xrun, xisc, ↓xstep, xget, xtgt, xcmp, xacmp, xprev, xisR, xnt, List.set, List.length, xsw, xlk, true_or, or_true, if_true, if_false, true_and, and_true, List.mem_cons, List.not_mem_nil, or_false, false_or, Bool.false_eq_true, reduceCtorEq, not_false_eq_true, forall_const, Nat.zero_add, Nat.reduceAdd, Nat.reduceSub, Int.reduceAdd, Int.reduceNeg, Int.reduceToNat, Nat.reduceEqDiff, Nat.reduceLT, Nat.reduceLeDiff, Int.reduceLE, Int.reduceLT, reduceIte, Int.cast_ofNat_Int, Int.natCast_zero, Int.natCast_one, Int.reduceAdd, eq_self, Int.reduceSub, List.length_cons, List.length_nil, xli_m1, xli_0, xli_1, xli_2, xli_3, xli_4, xli_5, xlb_8, xlb_12, xlb_31, xlb_32, xlb_64, xls_256, xls_513, xls_2048, xls_4096, xll_0, xll_1, xnr_i, xnr_0, xnr_1, xnr_ite, xft_i, xft_0, xft_1, xat_999, xat_1001, xat_1002, xat_1003, xat_2001, xat_2002, xat_2003, List.getElem?_cons_succ, List.getElem?_cons_zero, xfn_0, xfn_1, xfn_2, xfn_3, x10, x01, not_true_eq_false, false_implies, implies_true, true_implies, xrm_c, xrm_s, xnl_4, xnl_32, xnl_64, xnl_256, xtn_4, xtn_32, xtn_64, xtn_256, Option.some.injEq, Sum.inl.injEq, Sum.inr.injEq, exists_eq_left', exists_eq_right, Option.toList_some, Option.toList_none, List.cons_append, List.nil_append, xE, lg_cmp_ge, lg_cmp_le, lg_cmp_gt, lg_cmp_lt, lg_cmp_eq, Nat.le_refl, Nat.zero_le, ne_eq, Nat.add_zero, dS_holds_0, dS_holds_1, dS_holds_4, dS_holds_5, dS_holds_6, dS_holds_7, dS_holds_8, dS_holds_11, dS_holds_12, dS_holds_15, dS_holds_16, dS_holds_19, dS_holds_20, dS_holds_21, dS_holds_22, dS_holds_23, dS_holds_26, dS_holds_29, dS_holds_30, dS_holds_33, dS_holds_36, dS_holds_39, dS_holds_40, dS_holds_43, dS_holds_44, dS_holds_47, dS_holds_50, dS_holds_51, dS_holds_52, dS_holds_55, dS_holds_58, dS_holds_59, xf_3_17, xf_3_144, xf_3_108, xf_3_135, xf_3_148, h1, h2, h3, h4, h6, e0, hr, e256]
      exact ⟨⟨_, rfl⟩, fun z => absurd z h32, fun _ => ⟨⟨_, rfl⟩, vp_in_nI (by omega) (by decide), hq⟩⟩
  | succ n ih =>
    intro k hk hn hq
    have hkl : k < M 12 0 := by omega
    have h6 : ((256 : Int32) ≤ nI k) = (256 ≤ k) := xI_le_nI (by omega) 256 (by decide)
    have e0 : (nI k).toNatClampNeg = k := nI_clamp (by omega)
    have n32 : ¬ 256 ≤ k := by omega
    have hr := h.2.2.1.2.1 k (by omega)
    rw [if_pos hkl] at hr
    obtain ⟨⟨q1, -⟩, ⟨-, q2, -⟩, -⟩ := h.2.2.2.2.1 k hkl
    have hp := (h.1.2.2.2.1 k hkl).2.1
    obtain ⟨⟨p1, -⟩, ⟨-, -, -, p2, -⟩, -⟩ := h.2.2.2.1 _ hp
    have hw8 := (h.1.2.2.1 _ hp).2.2.2
    have e8 : (nI (M 8 (M 14 k)) = 0) = (M 8 (M 14 k) = 0) := propext (nI_eq (b := 0) (by omega) (by decide))
    rw [ffind] at hq
    have next : mtight M k = false → V 52 [some (.inr (.inr (some th))), some (.inl (nI k)), some (.inr (.inr (some (qa k))))] [] S 0 0 := by
      intro ht
      rw [if_neg (by simp [ht])] at hq
      refine xrun_ok hV [6] 20 _ _ _ _ _ _ ?_
      simp (maxDischargeDepth := 60) only [xrun, xisc, ↓xstep, xget, xtgt, xcmp, xacmp, xprev, xisR, xnt, List.set, List.length, xsw, xlk, true_or, or_true, if_true, if_false, true_and, and_true, List.mem_cons, List.not_mem_nil, or_false, false_or, Bool.false_eq_true, reduceCtorEq, not_false_eq_true, forall_const, Nat.zero_add, Nat.reduceAdd, Nat.reduceSub, Int.reduceAdd, Int.reduceNeg, Int.reduceToNat, Nat.reduceEqDiff, Nat.reduceLT, Nat.reduceLeDiff, Int.reduceLE, Int.reduceLT, reduceIte, Int.cast_ofNat_Int, Int.natCast_zero, Int.natCast_one, Int.reduceAdd, eq_self, Int.reduceSub, List.length_cons, List.length_nil, xli_m1, xli_0, xli_1, xli_2, xli_3, xli_4, xli_5, xlb_8, xlb_12, xlb_31, xlb_32, xlb_64, xls_256, xls_513, xls_2048, xls_4096, xll_0, xll_1, xnr_i, xnr_0, xnr_1, xnr_ite, xft_i, xft_0, xft_1, xat_999, xat_1001, xat_1002, xat_1003, xat_2001, xat_2002, xat_2003, List.getElem?_cons_succ, List.getElem?_cons_zero, xfn_0, xfn_1, xfn_2, xfn_3, x10, x01, not_true_eq_false, false_implies, implies_true, true_implies, xrm_c, xrm_s, xnl_4, xnl_32, xnl_64, xnl_256, xtn_4, xtn_32, xtn_64, xtn_256, Option.some.injEq, Sum.inl.injEq, Sum.inr.injEq, exists_eq_left', exists_eq_right, Option.toList_some, Option.toList_none, List.cons_append, List.nil_append, xE, lg_cmp_ge, lg_cmp_le, lg_cmp_gt, lg_cmp_lt, lg_cmp_eq, Nat.le_refl, Nat.zero_le, ne_eq, Nat.add_zero, dS_holds_0, dS_holds_1, dS_holds_4, dS_holds_5, dS_holds_6, dS_holds_7, dS_holds_8, dS_holds_11, dS_holds_12, dS_holds_15, dS_holds_16, dS_holds_19, dS_holds_20, dS_holds_21, dS_holds_22, dS_holds_23, dS_holds_26, dS_holds_29, dS_holds_30, dS_holds_33, dS_holds_36, dS_holds_39, dS_holds_40, dS_holds_43, dS_holds_44, dS_holds_47, dS_holds_50, dS_holds_51, dS_holds_52, dS_holds_55, dS_holds_58, dS_holds_59, xf_3_17, xf_3_144, xf_3_108, xf_3_135, xf_3_148, nI_1]
      exact hV.weak [some (.inr (.inr (some th))), some (.inl (nI (k + 1))), none] ⟨rfl, rfl, trivial⟩ (ih (k + 1) (by omega) (by omega) hq)
    by_cases hg : M 8 (M 14 k) = 0
    · have hn' : mnot M k = true := by simp [mnot, hg]
      obtain ⟨-, s2⟩ := hL.1.at h hkl hn'
      have s3 := hL.2 k hkl hn'
      have b1 := msize_lt h.1 hkl
      have b2 : mleast M k ≤ 4194304 := by
        cases ha : maim M k with
        | true =>
          have w1 := mleast_le h.1 hkl ha
          have w2 := mgr_le (M 13 k)
          omega
        | false => rw [mleast_no ha]; exact b1
      have hle : (nI (mleast M k) ≤ nI (msize M k)) = (mleast M k ≤ msize M k) := xI_le_nI (by omega) _ (by omega)
      refine xrun_ok hV [52] 30 _ _ _ _ _ _ ?_
      simp (maxDischargeDepth := 60) only [xrun, xisc, ↓xstep, xget, xtgt, xcmp, xacmp, xprev, xisR, xnt, List.set, List.length, xsw, xlk, true_or, or_true, if_true, if_false, true_and, and_true, List.mem_cons, List.not_mem_nil, or_false, false_or, Bool.false_eq_true, reduceCtorEq, not_false_eq_true, forall_const, Nat.zero_add, Nat.reduceAdd, Nat.reduceSub, Int.reduceAdd, Int.reduceNeg, Int.reduceToNat, Nat.reduceEqDiff, Nat.reduceLT, Nat.reduceLeDiff, Int.reduceLE, Int.reduceLT, reduceIte, Int.cast_ofNat_Int, Int.natCast_zero, Int.natCast_one, Int.reduceAdd, eq_self, Int.reduceSub, List.length_cons, List.length_nil, xli_m1, xli_0, xli_1, xli_2, xli_3, xli_4, xli_5, xlb_8, xlb_12, xlb_31, xlb_32, xlb_64, xls_256, xls_513, xls_2048, xls_4096, xll_0, xll_1, xnr_i, xnr_0, xnr_1, xnr_ite, xft_i, xft_0, xft_1, xat_999, xat_1001, xat_1002, xat_1003, xat_2001, xat_2002, xat_2003, List.getElem?_cons_succ, List.getElem?_cons_zero, xfn_0, xfn_1, xfn_2, xfn_3, x10, x01, not_true_eq_false, false_implies, implies_true, true_implies, xrm_c, xrm_s, xnl_4, xnl_32, xnl_64, xnl_256, xtn_4, xtn_32, xtn_64, xtn_256, Option.some.injEq, Sum.inl.injEq, Sum.inr.injEq, exists_eq_left', exists_eq_right, Option.toList_some, Option.toList_none, List.cons_append, List.nil_append, xE, lg_cmp_ge, lg_cmp_le, lg_cmp_gt, lg_cmp_lt, lg_cmp_eq, Nat.le_refl, Nat.zero_le, ne_eq, Nat.add_zero, dS_holds_0, dS_holds_1, dS_holds_4, dS_holds_5, dS_holds_6, dS_holds_7, dS_holds_8, dS_holds_11, dS_holds_12, dS_holds_15, dS_holds_16, dS_holds_19, dS_holds_20, dS_holds_21, dS_holds_22, dS_holds_23, dS_holds_26, dS_holds_29, dS_holds_30, dS_holds_33, dS_holds_36, dS_holds_39, dS_holds_40, dS_holds_43, dS_holds_44, dS_holds_47, dS_holds_50, dS_holds_51, dS_holds_52, dS_holds_55, dS_holds_58, dS_holds_59, xf_3_17, xf_3_144, xf_3_108, xf_3_135, xf_3_148, h1, h2, h3, h4, h6, e0, hr, e256, q1, q2, p1, p2, e8, n32, hg, nI_0, s2, s3, hle]
      refine ⟨⟨_, rfl⟩, ⟨_, rfl⟩, vp_in_nI (by omega) (by decide), fun z => next ?_, fun z => ?_⟩
      · cases ha : maim M k with
        | false => simp [mtight, ha]
        | true => rw [msize_aim ha] at z; simp [mtight]; omega
      · cases ha : maim M k with
        | false => rw [mleast_no ha] at z; omega
        | true =>
          rw [msize_aim ha] at z
          rw [if_pos (by simp [mtight, ha, hn']; omega)] at hq
          exact hq
    · refine xrun_ok hV [52] 30 _ _ _ _ _ _ ?_
      simp (maxDischargeDepth := 60) only [xrun, xisc, ↓xstep, xget, xtgt, xcmp, xacmp, xprev, xisR, xnt, List.set, List.length, xsw, xlk, true_or, or_true, if_true, if_false, true_and, and_true, List.mem_cons, List.not_mem_nil, or_false, false_or, Bool.false_eq_true, reduceCtorEq, not_false_eq_true, forall_const, Nat.zero_add, Nat.reduceAdd, Nat.reduceSub, Int.reduceAdd, Int.reduceNeg, Int.reduceToNat, Nat.reduceEqDiff, Nat.reduceLT, Nat.reduceLeDiff, Int.reduceLE, Int.reduceLT, reduceIte, Int.cast_ofNat_Int, Int.natCast_zero, Int.natCast_one, Int.reduceAdd, eq_self, Int.reduceSub, List.length_cons, List.length_nil, xli_m1, xli_0, xli_1, xli_2, xli_3, xli_4, xli_5, xlb_8, xlb_12, xlb_31, xlb_32, xlb_64, xls_256, xls_513, xls_2048, xls_4096, xll_0, xll_1, xnr_i, xnr_0, xnr_1, xnr_ite, xft_i, xft_0, xft_1, xat_999, xat_1001, xat_1002, xat_1003, xat_2001, xat_2002, xat_2003, List.getElem?_cons_succ, List.getElem?_cons_zero, xfn_0, xfn_1, xfn_2, xfn_3, x10, x01, not_true_eq_false, false_implies, implies_true, true_implies, xrm_c, xrm_s, xnl_4, xnl_32, xnl_64, xnl_256, xtn_4, xtn_32, xtn_64, xtn_256, Option.some.injEq, Sum.inl.injEq, Sum.inr.injEq, exists_eq_left', exists_eq_right, Option.toList_some, Option.toList_none, List.cons_append, List.nil_append, xE, lg_cmp_ge, lg_cmp_le, lg_cmp_gt, lg_cmp_lt, lg_cmp_eq, Nat.le_refl, Nat.zero_le, ne_eq, Nat.add_zero, dS_holds_0, dS_holds_1, dS_holds_4, dS_holds_5, dS_holds_6, dS_holds_7, dS_holds_8, dS_holds_11, dS_holds_12, dS_holds_15, dS_holds_16, dS_holds_19, dS_holds_20, dS_holds_21, dS_holds_22, dS_holds_23, dS_holds_26, dS_holds_29, dS_holds_30, dS_holds_33, dS_holds_36, dS_holds_39, dS_holds_40, dS_holds_43, dS_holds_44, dS_holds_47, dS_holds_50, dS_holds_51, dS_holds_52, dS_holds_55, dS_holds_58, dS_holds_59, xf_3_17, xf_3_144, xf_3_108, xf_3_135, xf_3_148, h1, h2, h3, h4, h6, e0, hr, e256, q1, q2, p1, p2, e8, n32, hg]
      exact ⟨⟨_, rfl⟩, ⟨_, rfl⟩, vp_in_nI (by omega) (by decide), next (by simp [mtight, mnot, hg])⟩
set_option maxHeartbeats 4000000 in
set_option maxRecDepth 100000 in
theorem c_holds (h : rCx S th M) : xMet l D n0 mS_holds 0 0 [.inr (.inr (some th))] S (oC S th (oHolds M)) := by
  obtain ⟨ar, pa, qa, la, h⟩ := h
  refine xMet.of (k := mS_holds) (own := 3) (ini := false) xm_S_holds (by decide +kernel) (by decide +kernel) (by decide) (Nat.le_of_ble_eq_true rfl) ?_
  intro V hV
  show V 0 [some (.inr (.inr (some th))), none, none] [] S 0 0
  have h1 := h.th
  refine xrun_ok hV [] 20 _ _ _ _ _ _ ?_
  simp (maxDischargeDepth := 60) only [xrun, xisc, ↓xstep, xget, xtgt, xcmp, xacmp, xprev, xisR, xnt, List.set, List.length, xsw, xlk, true_or, or_true, if_true, if_false, true_and, and_true, List.mem_cons, List.not_mem_nil, or_false, false_or, Bool.false_eq_true, reduceCtorEq, not_false_eq_true, forall_const, Nat.zero_add, Nat.reduceAdd, Nat.reduceSub, Int.reduceAdd, Int.reduceNeg, Int.reduceToNat, Nat.reduceEqDiff, Nat.reduceLT, Nat.reduceLeDiff, Int.reduceLE, Int.reduceLT, reduceIte, Int.cast_ofNat_Int, Int.natCast_zero, Int.natCast_one, Int.reduceAdd, eq_self, Int.reduceSub, List.length_cons, List.length_nil, xli_m1, xli_0, xli_1, xli_2, xli_3, xli_4, xli_5, xlb_8, xlb_12, xlb_31, xlb_32, xlb_64, xls_256, xls_513, xls_2048, xls_4096, xll_0, xll_1, xnr_i, xnr_0, xnr_1, xnr_ite, xft_i, xft_0, xft_1, xat_999, xat_1001, xat_1002, xat_1003, xat_2001, xat_2002, xat_2003, List.getElem?_cons_succ, List.getElem?_cons_zero, xfn_0, xfn_1, xfn_2, xfn_3, x10, x01, not_true_eq_false, false_implies, implies_true, true_implies, xrm_c, xrm_s, xnl_4, xnl_32, xnl_64, xnl_256, xtn_4, xtn_32, xtn_64, xtn_256, Option.some.injEq, Sum.inl.injEq, Sum.inr.injEq, exists_eq_left', exists_eq_right, Option.toList_some, Option.toList_none, List.cons_append, List.nil_append, xE, lg_cmp_ge, lg_cmp_le, lg_cmp_gt, lg_cmp_lt, lg_cmp_eq, Nat.le_refl, Nat.zero_le, ne_eq, Nat.add_zero, dS_holds_0, dS_holds_1, dS_holds_4, dS_holds_5, dS_holds_6, dS_holds_7, dS_holds_8, dS_holds_11, dS_holds_12, dS_holds_15, dS_holds_16, dS_holds_19, dS_holds_20, dS_holds_21, dS_holds_22, dS_holds_23, dS_holds_26, dS_holds_29, dS_holds_30, dS_holds_33, dS_holds_36, dS_holds_39, dS_holds_40, dS_holds_43, dS_holds_44, dS_holds_47, dS_holds_50, dS_holds_51, dS_holds_52, dS_holds_55, dS_holds_58, dS_holds_59, xf_3_17, xf_3_144, xf_3_108, xf_3_135, xf_3_148]
  refine hV.call [] (As := [.inr (.inr (some th))]) xh_3_141 dS_holds_1 (c_survey h) (Or.inr ⟨_, _, rfl, fun _ => h1⟩) rfl rfl (by decide) (by decide) (by decide) ?_
  rintro r S1 ⟨rfl, g1, g2⟩
  refine xrun_ok hV [6] 20 _ _ _ _ _ _ ?_
  simp (maxDischargeDepth := 60) only [xrun, xisc, ↓xstep, xget, xtgt, xcmp, xacmp, xprev, xisR, xnt, List.set, List.length, xsw, xlk, true_or, or_true, if_true, if_false, true_and, and_true, List.mem_cons, List.not_mem_nil, or_false, false_or, Bool.false_eq_true, reduceCtorEq, not_false_eq_true, forall_const, Nat.zero_add, Nat.reduceAdd, Nat.reduceSub, Int.reduceAdd, Int.reduceNeg, Int.reduceToNat, Nat.reduceEqDiff, Nat.reduceLT, Nat.reduceLeDiff, Int.reduceLE, Int.reduceLT, reduceIte, Int.cast_ofNat_Int, Int.natCast_zero, Int.natCast_one, Int.reduceAdd, eq_self, Int.reduceSub, List.length_cons, List.length_nil, xli_m1, xli_0, xli_1, xli_2, xli_3, xli_4, xli_5, xlb_8, xlb_12, xlb_31, xlb_32, xlb_64, xls_256, xls_513, xls_2048, xls_4096, xll_0, xll_1, xnr_i, xnr_0, xnr_1, xnr_ite, xft_i, xft_0, xft_1, xat_999, xat_1001, xat_1002, xat_1003, xat_2001, xat_2002, xat_2003, List.getElem?_cons_succ, List.getElem?_cons_zero, xfn_0, xfn_1, xfn_2, xfn_3, x10, x01, not_true_eq_false, false_implies, implies_true, true_implies, xrm_c, xrm_s, xnl_4, xnl_32, xnl_64, xnl_256, xtn_4, xtn_32, xtn_64, xtn_256, Option.some.injEq, Sum.inl.injEq, Sum.inr.injEq, exists_eq_left', exists_eq_right, Option.toList_some, Option.toList_none, List.cons_append, List.nil_append, xE, lg_cmp_ge, lg_cmp_le, lg_cmp_gt, lg_cmp_lt, lg_cmp_eq, Nat.le_refl, Nat.zero_le, ne_eq, Nat.add_zero, dS_holds_0, dS_holds_1, dS_holds_4, dS_holds_5, dS_holds_6, dS_holds_7, dS_holds_8, dS_holds_11, dS_holds_12, dS_holds_15, dS_holds_16, dS_holds_19, dS_holds_20, dS_holds_21, dS_holds_22, dS_holds_23, dS_holds_26, dS_holds_29, dS_holds_30, dS_holds_33, dS_holds_36, dS_holds_39, dS_holds_40, dS_holds_43, dS_holds_44, dS_holds_47, dS_holds_50, dS_holds_51, dS_holds_52, dS_holds_55, dS_holds_58, dS_holds_59, xf_3_17, xf_3_144, xf_3_108, xf_3_135, xf_3_148]
  exact holds_loop (h.ca g1) g2 hV (M 12 0) 0 (Nat.zero_le _) (by omega) ⟨rfl, ⟨_, _, _, _, h.ca g1⟩, g1.fr h⟩
set_option maxHeartbeats 4000000 in
set_option maxRecDepth 100000 in
theorem lacks_loop (h : rC S th ar pa qa la M) (hL : kL S ar pa qa M) {V : xKt} {Q : Option xVal → xS → Prop}
    (hV : xCl l D n0 3 cS_lacks false (some .int) (xrm mS_lacks 0 0) V (xE 0 0 Q)) :
    ∀ (n k : Nat), k ≤ M 12 0 → M 12 0 - k = n → Q (some (.inl (oFind (ffind (mshort M) k n)))) S → V 6 [some (.inr (.inr (some th))), some (.inl (nI k)), none] [] S 0 0 := by
  have h1 := h.th
  have h2 := (h.2.1.2.1 1 (by decide)).1
  have h3 := h.2.1.2.2.1.2.1
  have h4 := h.2.1.2.2.2.1.2.1
  have hw := h.1.1.2.2.1
  have e256 : Int32.ofNat 256 = 256 := rfl
  intro n
  induction n with
  | zero =>
    intro k hk hn hq
    have : k = M 12 0 := by omega
    subst this
    have h6 : ((256 : Int32) ≤ nI (M 12 0)) = (256 ≤ M 12 0) := xI_le_nI (by omega) 256 (by decide)
    have e0 : (nI (M 12 0)).toNatClampNeg = M 12 0 := nI_clamp (by omega)
    by_cases h32 : 256 ≤ M 12 0
    · refine xrun_ok hV [] 20 _ _ _ _ _ _ ?_
      simp (maxDischargeDepth := 60) only [xrun, xisc, ↓xstep, xget, xtgt, xcmp, xacmp, xprev, xisR, xnt, List.set, List.length, xsw, xlk, true_or, or_true, if_true, if_false, true_and, and_true, List.mem_cons, List.not_mem_nil, or_false, false_or, Bool.false_eq_true, reduceCtorEq, not_false_eq_true, forall_const, Nat.zero_add, Nat.reduceAdd, Nat.reduceSub, Int.reduceAdd, Int.reduceNeg, Int.reduceToNat, Nat.reduceEqDiff, Nat.reduceLT, Nat.reduceLeDiff, Int.reduceLE, Int.reduceLT, reduceIte, Int.cast_ofNat_Int, Int.natCast_zero, Int.natCast_one, Int.reduceAdd, eq_self, Int.reduceSub, List.length_cons, List.length_nil, xli_m1, xli_0, xli_1, xli_2, xli_3, xli_4, xli_5, xlb_8, xlb_12, xlb_31, xlb_32, xlb_64, xls_256, xls_513, xls_2048, xls_4096, xll_0, xll_1, xnr_i, xnr_0, xnr_1, xnr_ite, xft_i, xft_0, xft_1, xat_999, xat_1001, xat_1002, xat_1003, xat_2001, xat_2002, xat_2003, List.getElem?_cons_succ, List.getElem?_cons_zero, xfn_0, xfn_1, xfn_2, xfn_3, x10, x01, not_true_eq_false, false_implies, implies_true, true_implies, xrm_c, xrm_s, xnl_4, xnl_32, xnl_64, xnl_256, xtn_4, xtn_32, xtn_64, xtn_256, Option.some.injEq, Sum.inl.injEq, Sum.inr.injEq, exists_eq_left', exists_eq_right, Option.toList_some, Option.toList_none, List.cons_append, List.nil_append, xE, lg_cmp_ge, lg_cmp_le, lg_cmp_gt, lg_cmp_lt, lg_cmp_eq, Nat.le_refl, Nat.zero_le, ne_eq, Nat.add_zero, dS_lacks_0, dS_lacks_1, dS_lacks_4, dS_lacks_5, dS_lacks_6, dS_lacks_7, dS_lacks_8, dS_lacks_11, dS_lacks_12, dS_lacks_15, dS_lacks_16, dS_lacks_19, dS_lacks_20, dS_lacks_21, dS_lacks_22, dS_lacks_23, dS_lacks_26, dS_lacks_29, dS_lacks_30, dS_lacks_33, dS_lacks_34, dS_lacks_37, dS_lacks_38, dS_lacks_41, dS_lacks_44, dS_lacks_47, dS_lacks_48, dS_lacks_51, dS_lacks_52, dS_lacks_55, dS_lacks_58, dS_lacks_59, dS_lacks_62, dS_lacks_65, dS_lacks_66, dS_lacks_67, dS_lacks_70, dS_lacks_73, dS_lacks_74, xf_3_17, xf_3_86, xf_3_144, xf_3_108, xf_3_151, xf_3_154, xf_3_89, h1, h2, h3, h4, h6, e256]
      exact ⟨⟨_, rfl⟩, fun _ => hq, fun z => absurd h32 z⟩
    · have hr := h.2.2.1.2.1 (M 12 0) (by omega)
      rw [if_neg (by omega)] at hr
      refine xrun_ok hV [] 20 _ _ _ _ _ _ ?_
      simp (maxDischargeDepth := 60) only [xrun, xisc, ↓xstep, xget, xtgt, xcmp, xacmp, xprev, xisR, xnt, List.set, List.length, xsw, xlk, true_or, or_true, if_true, if_false, true_and, and_true, List.mem_cons, List.not_mem_nil, or_false, false_or, Bool.false_eq_true, reduceCtorEq, not_false_eq_true, forall_const, Nat.zero_add, Nat.reduceAdd, Nat.reduceSub, Int.reduceAdd, Int.reduceNeg, Int.reduceToNat, Nat.reduceEqDiff, Nat.reduceLT, Nat.reduceLeDiff, Int.reduceLE, Int.reduceLT, reduceIte, Int.cast_ofNat_Int, Int.natCast_zero, Int.natCast_one, Int.reduceAdd, eq_self, Int.reduceSub, List.length_cons, List.length_nil, xli_m1, xli_0, xli_1, xli_2, xli_3, xli_4, xli_5, xlb_8, xlb_12, xlb_31, xlb_32, xlb_64, xls_256, xls_513, xls_2048, xls_4096, xll_0, xll_1, xnr_i, xnr_0, xnr_1, xnr_ite, xft_i, xft_0, xft_1, xat_999, xat_1001, xat_1002, xat_1003, xat_2001, xat_2002, xat_2003, List.getElem?_cons_succ, List.getElem?_cons_zero, xfn_0, xfn_1, xfn_2, xfn_3, x10, x01, not_true_eq_false, false_implies, implies_true, true_implies, xrm_c, xrm_s, xnl_4, xnl_32, xnl_64, xnl_256, xtn_4, xtn_32, xtn_64, xtn_256, Option.some.injEq, Sum.inl.injEq, Sum.inr.injEq, exists_eq_left', exists_eq_right, Option.toList_some, Option.toList_none, List.cons_append, List.nil_append, xE, lg_cmp_ge, lg_cmp_le, lg_cmp_gt, lg_cmp_lt, lg_cmp_eq, Nat.le_refl, Nat.zero_le, ne_eq, Nat.add_zero, dS_lacks_0, dS_lacks_1, dS_lacks_4, dS_lacks_5, dS_lacks_6, dS_lacks_7, dS_lacks_8, dS_lacks_11, dS_lacks_12, dS_lacks_15, dS_lacks_16, dS_lacks_19, dS_lacks_20, dS_lacks_21, dS_lacks_22, dS_lacks_23, dS_lacks_26, dS_lacks_29, dS_lacks_30, dS_lacks_33, dS_lacks_34, dS_lacks_37, dS_lacks_38, dS_lacks_41, dS_lacks_44, dS_lacks_47, dS_lacks_48, dS_lacks_51, dS_lacks_52, dS_lacks_55, dS_lacks_58, dS_lacks_59, dS_lacks_62, dS_lacks_65, dS_lacks_66, dS_lacks_67, dS_lacks_70, dS_lacks_73, dS_lacks_74, xf_3_17, xf_3_86, xf_3_144, xf_3_108, xf_3_151, xf_3_154, xf_3_89, h1, h2, h3, h4, h6, e0, hr, e256]
      exact ⟨⟨_, rfl⟩, fun z => absurd z h32, fun _ => ⟨⟨_, rfl⟩, vp_in_nI (by omega) (by decide), hq⟩⟩
  | succ n ih =>
    intro k hk hn hq
    have hkl : k < M 12 0 := by omega
    have h6 : ((256 : Int32) ≤ nI k) = (256 ≤ k) := xI_le_nI (by omega) 256 (by decide)
    have e0 : (nI k).toNatClampNeg = k := nI_clamp (by omega)
    have n32 : ¬ 256 ≤ k := by omega
    have hr := h.2.2.1.2.1 k (by omega)
    rw [if_pos hkl] at hr
    obtain ⟨⟨q1, -⟩, ⟨q0, q2, -, -, -, q5, q6, -⟩, -⟩ := h.2.2.2.2.1 k hkl
    have hw7 := h.1.2.2.2.1 k hkl
    have hp := hw7.2.1
    obtain ⟨⟨p1, -⟩, ⟨-, -, -, p2, -⟩, -⟩ := h.2.2.2.1 _ hp
    have hw8 := (h.1.2.2.1 _ hp).2.2.2
    have e8 : (nI (M 8 (M 14 k)) = 0) = (M 8 (M 14 k) = 0) := propext (nI_eq (b := 0) (by omega) (by decide))
    have e4 : (nI (M 13 k) = 4) = (M 13 k = 4) := propext (nI_eq (b := 4) (by omega) (by decide))
    have n4 : nI 4 = (4 : Int32) := rfl
    rw [ffind] at hq
    have next : mshort M k = false → V 67 [some (.inr (.inr (some th))), some (.inl (nI k)), some (.inr (.inr (some (qa k))))] [] S 0 0 := by
      intro ht
      rw [if_neg (by simp [ht])] at hq
      refine xrun_ok hV [6] 20 _ _ _ _ _ _ ?_
      simp (maxDischargeDepth := 60) only [xrun, xisc, ↓xstep, xget, xtgt, xcmp, xacmp, xprev, xisR, xnt, List.set, List.length, xsw, xlk, true_or, or_true, if_true, if_false, true_and, and_true, List.mem_cons, List.not_mem_nil, or_false, false_or, Bool.false_eq_true, reduceCtorEq, not_false_eq_true, forall_const, Nat.zero_add, Nat.reduceAdd, Nat.reduceSub, Int.reduceAdd, Int.reduceNeg, Int.reduceToNat, Nat.reduceEqDiff, Nat.reduceLT, Nat.reduceLeDiff, Int.reduceLE, Int.reduceLT, reduceIte, Int.cast_ofNat_Int, Int.natCast_zero, Int.natCast_one, Int.reduceAdd, eq_self, Int.reduceSub, List.length_cons, List.length_nil, xli_m1, xli_0, xli_1, xli_2, xli_3, xli_4, xli_5, xlb_8, xlb_12, xlb_31, xlb_32, xlb_64, xls_256, xls_513, xls_2048, xls_4096, xll_0, xll_1, xnr_i, xnr_0, xnr_1, xnr_ite, xft_i, xft_0, xft_1, xat_999, xat_1001, xat_1002, xat_1003, xat_2001, xat_2002, xat_2003, List.getElem?_cons_succ, List.getElem?_cons_zero, xfn_0, xfn_1, xfn_2, xfn_3, x10, x01, not_true_eq_false, false_implies, implies_true, true_implies, xrm_c, xrm_s, xnl_4, xnl_32, xnl_64, xnl_256, xtn_4, xtn_32, xtn_64, xtn_256, Option.some.injEq, Sum.inl.injEq, Sum.inr.injEq, exists_eq_left', exists_eq_right, Option.toList_some, Option.toList_none, List.cons_append, List.nil_append, xE, lg_cmp_ge, lg_cmp_le, lg_cmp_gt, lg_cmp_lt, lg_cmp_eq, Nat.le_refl, Nat.zero_le, ne_eq, Nat.add_zero, dS_lacks_0, dS_lacks_1, dS_lacks_4, dS_lacks_5, dS_lacks_6, dS_lacks_7, dS_lacks_8, dS_lacks_11, dS_lacks_12, dS_lacks_15, dS_lacks_16, dS_lacks_19, dS_lacks_20, dS_lacks_21, dS_lacks_22, dS_lacks_23, dS_lacks_26, dS_lacks_29, dS_lacks_30, dS_lacks_33, dS_lacks_34, dS_lacks_37, dS_lacks_38, dS_lacks_41, dS_lacks_44, dS_lacks_47, dS_lacks_48, dS_lacks_51, dS_lacks_52, dS_lacks_55, dS_lacks_58, dS_lacks_59, dS_lacks_62, dS_lacks_65, dS_lacks_66, dS_lacks_67, dS_lacks_70, dS_lacks_73, dS_lacks_74, xf_3_17, xf_3_86, xf_3_144, xf_3_108, xf_3_151, xf_3_154, xf_3_89, nI_1]
      exact hV.weak [some (.inr (.inr (some th))), some (.inl (nI (k + 1))), none] ⟨rfl, rfl, trivial⟩ (ih (k + 1) (by omega) (by omega) hq)
    by_cases hf : M 13 k = 4
    · by_cases hg : M 8 (M 14 k) = 0
      · have hn' : mnot M k = true := by simp [mnot, hg]
        obtain ⟨s1, -⟩ := hL.1.at h hkl hn'
        have b1 := (mpl_le h.1 hkl hn').2
        have hmo := h.1.2.2.2.2.2.2.1 k hkl hf
        have q6' := q6 (by simp [maim, hf])
        refine xrun_ok hV [67] 30 _ _ _ _ _ _ ?_
        simp (maxDischargeDepth := 60) only [xrun, xisc, ↓xstep, xget, xtgt, xcmp, xacmp, xprev, xisR, xnt, List.set, List.length, xsw, xlk, true_or, or_true, if_true, if_false, true_and, and_true, List.mem_cons, List.not_mem_nil, or_false, false_or, Bool.false_eq_true, reduceCtorEq, not_false_eq_true, forall_const, Nat.zero_add, Nat.reduceAdd, Nat.reduceSub, Int.reduceAdd, Int.reduceNeg, Int.reduceToNat, Nat.reduceEqDiff, Nat.reduceLT, Nat.reduceLeDiff, Int.reduceLE, Int.reduceLT, reduceIte, Int.cast_ofNat_Int, Int.natCast_zero, Int.natCast_one, Int.reduceAdd, eq_self, Int.reduceSub, List.length_cons, List.length_nil, xli_m1, xli_0, xli_1, xli_2, xli_3, xli_4, xli_5, xlb_8, xlb_12, xlb_31, xlb_32, xlb_64, xls_256, xls_513, xls_2048, xls_4096, xll_0, xll_1, xnr_i, xnr_0, xnr_1, xnr_ite, xft_i, xft_0, xft_1, xat_999, xat_1001, xat_1002, xat_1003, xat_2001, xat_2002, xat_2003, List.getElem?_cons_succ, List.getElem?_cons_zero, xfn_0, xfn_1, xfn_2, xfn_3, x10, x01, not_true_eq_false, false_implies, implies_true, true_implies, xrm_c, xrm_s, xnl_4, xnl_32, xnl_64, xnl_256, xtn_4, xtn_32, xtn_64, xtn_256, Option.some.injEq, Sum.inl.injEq, Sum.inr.injEq, exists_eq_left', exists_eq_right, Option.toList_some, Option.toList_none, List.cons_append, List.nil_append, xE, lg_cmp_ge, lg_cmp_le, lg_cmp_gt, lg_cmp_lt, lg_cmp_eq, Nat.le_refl, Nat.zero_le, ne_eq, Nat.add_zero, dS_lacks_0, dS_lacks_1, dS_lacks_4, dS_lacks_5, dS_lacks_6, dS_lacks_7, dS_lacks_8, dS_lacks_11, dS_lacks_12, dS_lacks_15, dS_lacks_16, dS_lacks_19, dS_lacks_20, dS_lacks_21, dS_lacks_22, dS_lacks_23, dS_lacks_26, dS_lacks_29, dS_lacks_30, dS_lacks_33, dS_lacks_34, dS_lacks_37, dS_lacks_38, dS_lacks_41, dS_lacks_44, dS_lacks_47, dS_lacks_48, dS_lacks_51, dS_lacks_52, dS_lacks_55, dS_lacks_58, dS_lacks_59, dS_lacks_62, dS_lacks_65, dS_lacks_66, dS_lacks_67, dS_lacks_70, dS_lacks_73, dS_lacks_74, xf_3_17, xf_3_86, xf_3_144, xf_3_108, xf_3_151, xf_3_154, xf_3_89, h1, h2, h3, h4, h6, e0, hr, e256, q0, q1, q2, q5, p1, p2, e8, e4, n32, hg, hf, n4, nI_0, s1]
        refine ⟨⟨_, rfl⟩, ⟨_, rfl⟩, vp_in_nI (by omega) (by decide), ?_⟩
        refine hV.call [] xh_3_157 dS_lacks_55 (c_bytes S (x := mpl M k) (p := M 17 k) (by omega) hw7.2.2.2.2.2) (Or.inl rfl) rfl rfl (by decide) (by decide) (by decide) ?_
        rintro r S' ⟨rfl, rfl⟩
        have b2 := mpad_lt (x := mpl M k) hw7.2.2.2.2.2
        have hle : (nI (mpad (mpl M k) (M 17 k)) ≤ nI (M 16 k)) = (mpad (mpl M k) (M 17 k) ≤ M 16 k) := xI_le_nI (by omega) _ (by omega)
        refine xrun_ok hV [67] 30 _ _ _ _ _ _ ?_
        simp (maxDischargeDepth := 60) only [xrun, xisc, ↓xstep, xget, xtgt, xcmp, xacmp, xprev, xisR, xnt, List.set, List.length, xsw, xlk, true_or, or_true, if_true, if_false, true_and, and_true, List.mem_cons, List.not_mem_nil, or_false, false_or, Bool.false_eq_true, reduceCtorEq, not_false_eq_true, forall_const, Nat.zero_add, Nat.reduceAdd, Nat.reduceSub, Int.reduceAdd, Int.reduceNeg, Int.reduceToNat, Nat.reduceEqDiff, Nat.reduceLT, Nat.reduceLeDiff, Int.reduceLE, Int.reduceLT, reduceIte, Int.cast_ofNat_Int, Int.natCast_zero, Int.natCast_one, Int.reduceAdd, eq_self, Int.reduceSub, List.length_cons, List.length_nil, xli_m1, xli_0, xli_1, xli_2, xli_3, xli_4, xli_5, xlb_8, xlb_12, xlb_31, xlb_32, xlb_64, xls_256, xls_513, xls_2048, xls_4096, xll_0, xll_1, xnr_i, xnr_0, xnr_1, xnr_ite, xft_i, xft_0, xft_1, xat_999, xat_1001, xat_1002, xat_1003, xat_2001, xat_2002, xat_2003, List.getElem?_cons_succ, List.getElem?_cons_zero, xfn_0, xfn_1, xfn_2, xfn_3, x10, x01, not_true_eq_false, false_implies, implies_true, true_implies, xrm_c, xrm_s, xnl_4, xnl_32, xnl_64, xnl_256, xtn_4, xtn_32, xtn_64, xtn_256, Option.some.injEq, Sum.inl.injEq, Sum.inr.injEq, exists_eq_left', exists_eq_right, Option.toList_some, Option.toList_none, List.cons_append, List.nil_append, xE, lg_cmp_ge, lg_cmp_le, lg_cmp_gt, lg_cmp_lt, lg_cmp_eq, Nat.le_refl, Nat.zero_le, ne_eq, Nat.add_zero, dS_lacks_0, dS_lacks_1, dS_lacks_4, dS_lacks_5, dS_lacks_6, dS_lacks_7, dS_lacks_8, dS_lacks_11, dS_lacks_12, dS_lacks_15, dS_lacks_16, dS_lacks_19, dS_lacks_20, dS_lacks_21, dS_lacks_22, dS_lacks_23, dS_lacks_26, dS_lacks_29, dS_lacks_30, dS_lacks_33, dS_lacks_34, dS_lacks_37, dS_lacks_38, dS_lacks_41, dS_lacks_44, dS_lacks_47, dS_lacks_48, dS_lacks_51, dS_lacks_52, dS_lacks_55, dS_lacks_58, dS_lacks_59, dS_lacks_62, dS_lacks_65, dS_lacks_66, dS_lacks_67, dS_lacks_70, dS_lacks_73, dS_lacks_74, xf_3_17, xf_3_86, xf_3_144, xf_3_108, xf_3_151, xf_3_154, xf_3_89, q1, q6', hle]
        refine ⟨fun z => next (by simp [mshort]; omega), fun z => ?_⟩
        rw [if_pos (by simp [mshort, hf, hn']; omega)] at hq
        exact hq
      · refine xrun_ok hV [67] 30 _ _ _ _ _ _ ?_
        simp (maxDischargeDepth := 60) only [xrun, xisc, ↓xstep, xget, xtgt, xcmp, xacmp, xprev, xisR, xnt, List.set, List.length, xsw, xlk, true_or, or_true, if_true, if_false, true_and, and_true, List.mem_cons, List.not_mem_nil, or_false, false_or, Bool.false_eq_true, reduceCtorEq, not_false_eq_true, forall_const, Nat.zero_add, Nat.reduceAdd, Nat.reduceSub, Int.reduceAdd, Int.reduceNeg, Int.reduceToNat, Nat.reduceEqDiff, Nat.reduceLT, Nat.reduceLeDiff, Int.reduceLE, Int.reduceLT, reduceIte, Int.cast_ofNat_Int, Int.natCast_zero, Int.natCast_one, Int.reduceAdd, eq_self, Int.reduceSub, List.length_cons, List.length_nil, xli_m1, xli_0, xli_1, xli_2, xli_3, xli_4, xli_5, xlb_8, xlb_12, xlb_31, xlb_32, xlb_64, xls_256, xls_513, xls_2048, xls_4096, xll_0, xll_1, xnr_i, xnr_0, xnr_1, xnr_ite, xft_i, xft_0, xft_1, xat_999, xat_1001, xat_1002, xat_1003, xat_2001, xat_2002, xat_2003, List.getElem?_cons_succ, List.getElem?_cons_zero, xfn_0, xfn_1, xfn_2, xfn_3, x10, x01, not_true_eq_false, false_implies, implies_true, true_implies, xrm_c, xrm_s, xnl_4, xnl_32, xnl_64, xnl_256, xtn_4, xtn_32, xtn_64, xtn_256, Option.some.injEq, Sum.inl.injEq, Sum.inr.injEq, exists_eq_left', exists_eq_right, Option.toList_some, Option.toList_none, List.cons_append, List.nil_append, xE, lg_cmp_ge, lg_cmp_le, lg_cmp_gt, lg_cmp_lt, lg_cmp_eq, Nat.le_refl, Nat.zero_le, ne_eq, Nat.add_zero, dS_lacks_0, dS_lacks_1, dS_lacks_4, dS_lacks_5, dS_lacks_6, dS_lacks_7, dS_lacks_8, dS_lacks_11, dS_lacks_12, dS_lacks_15, dS_lacks_16, dS_lacks_19, dS_lacks_20, dS_lacks_21, dS_lacks_22, dS_lacks_23, dS_lacks_26, dS_lacks_29, dS_lacks_30, dS_lacks_33, dS_lacks_34, dS_lacks_37, dS_lacks_38, dS_lacks_41, dS_lacks_44, dS_lacks_47, dS_lacks_48, dS_lacks_51, dS_lacks_52, dS_lacks_55, dS_lacks_58, dS_lacks_59, dS_lacks_62, dS_lacks_65, dS_lacks_66, dS_lacks_67, dS_lacks_70, dS_lacks_73, dS_lacks_74, xf_3_17, xf_3_86, xf_3_144, xf_3_108, xf_3_151, xf_3_154, xf_3_89, h1, h2, h3, h4, h6, e0, hr, e256, q0, q1, q2, p1, p2, e8, e4, n32, hg, hf, n4]
        exact ⟨⟨_, rfl⟩, ⟨_, rfl⟩, vp_in_nI (by omega) (by decide), next (by simp [mshort, mnot, hg])⟩
    · refine xrun_ok hV [67] 30 _ _ _ _ _ _ ?_
      simp (maxDischargeDepth := 60) only [xrun, xisc, ↓xstep, xget, xtgt, xcmp, xacmp, xprev, xisR, xnt, List.set, List.length, xsw, xlk, true_or, or_true, if_true, if_false, true_and, and_true, List.mem_cons, List.not_mem_nil, or_false, false_or, Bool.false_eq_true, reduceCtorEq, not_false_eq_true, forall_const, Nat.zero_add, Nat.reduceAdd, Nat.reduceSub, Int.reduceAdd, Int.reduceNeg, Int.reduceToNat, Nat.reduceEqDiff, Nat.reduceLT, Nat.reduceLeDiff, Int.reduceLE, Int.reduceLT, reduceIte, Int.cast_ofNat_Int, Int.natCast_zero, Int.natCast_one, Int.reduceAdd, eq_self, Int.reduceSub, List.length_cons, List.length_nil, xli_m1, xli_0, xli_1, xli_2, xli_3, xli_4, xli_5, xlb_8, xlb_12, xlb_31, xlb_32, xlb_64, xls_256, xls_513, xls_2048, xls_4096, xll_0, xll_1, xnr_i, xnr_0, xnr_1, xnr_ite, xft_i, xft_0, xft_1, xat_999, xat_1001, xat_1002, xat_1003, xat_2001, xat_2002, xat_2003, List.getElem?_cons_succ, List.getElem?_cons_zero, xfn_0, xfn_1, xfn_2, xfn_3, x10, x01, not_true_eq_false, false_implies, implies_true, true_implies, xrm_c, xrm_s, xnl_4, xnl_32, xnl_64, xnl_256, xtn_4, xtn_32, xtn_64, xtn_256, Option.some.injEq, Sum.inl.injEq, Sum.inr.injEq, exists_eq_left', exists_eq_right, Option.toList_some, Option.toList_none, List.cons_append, List.nil_append, xE, lg_cmp_ge, lg_cmp_le, lg_cmp_gt, lg_cmp_lt, lg_cmp_eq, Nat.le_refl, Nat.zero_le, ne_eq, Nat.add_zero, dS_lacks_0, dS_lacks_1, dS_lacks_4, dS_lacks_5, dS_lacks_6, dS_lacks_7, dS_lacks_8, dS_lacks_11, dS_lacks_12, dS_lacks_15, dS_lacks_16, dS_lacks_19, dS_lacks_20, dS_lacks_21, dS_lacks_22, dS_lacks_23, dS_lacks_26, dS_lacks_29, dS_lacks_30, dS_lacks_33, dS_lacks_34, dS_lacks_37, dS_lacks_38, dS_lacks_41, dS_lacks_44, dS_lacks_47, dS_lacks_48, dS_lacks_51, dS_lacks_52, dS_lacks_55, dS_lacks_58, dS_lacks_59, dS_lacks_62, dS_lacks_65, dS_lacks_66, dS_lacks_67, dS_lacks_70, dS_lacks_73, dS_lacks_74, xf_3_17, xf_3_86, xf_3_144, xf_3_108, xf_3_151, xf_3_154, xf_3_89, h1, h2, h3, h4, h6, e0, hr, e256, q0, q1, q2, p1, p2, e8, e4, n32, hf]
      exact ⟨⟨_, rfl⟩, ⟨_, rfl⟩, vp_in_nI (by omega) (by decide), next (by simp [mshort, hf])⟩
set_option maxHeartbeats 4000000 in
set_option maxRecDepth 100000 in
theorem c_lacks (h : rCx S th M) : xMet l D n0 mS_lacks 0 0 [.inr (.inr (some th))] S (oC S th (oLacks M)) := by
  obtain ⟨ar, pa, qa, la, h⟩ := h
  refine xMet.of (k := mS_lacks) (own := 3) (ini := false) xm_S_lacks (by decide +kernel) (by decide +kernel) (by decide) (Nat.le_of_ble_eq_true rfl) ?_
  intro V hV
  show V 0 [some (.inr (.inr (some th))), none, none] [] S 0 0
  have h1 := h.th
  refine xrun_ok hV [] 20 _ _ _ _ _ _ ?_
  simp (maxDischargeDepth := 60) only [xrun, xisc, ↓xstep, xget, xtgt, xcmp, xacmp, xprev, xisR, xnt, List.set, List.length, xsw, xlk, true_or, or_true, if_true, if_false, true_and, and_true, List.mem_cons, List.not_mem_nil, or_false, false_or, Bool.false_eq_true, reduceCtorEq, not_false_eq_true, forall_const, Nat.zero_add, Nat.reduceAdd, Nat.reduceSub, Int.reduceAdd, Int.reduceNeg, Int.reduceToNat, Nat.reduceEqDiff, Nat.reduceLT, Nat.reduceLeDiff, Int.reduceLE, Int.reduceLT, reduceIte, Int.cast_ofNat_Int, Int.natCast_zero, Int.natCast_one, Int.reduceAdd, eq_self, Int.reduceSub, List.length_cons, List.length_nil, xli_m1, xli_0, xli_1, xli_2, xli_3, xli_4, xli_5, xlb_8, xlb_12, xlb_31, xlb_32, xlb_64, xls_256, xls_513, xls_2048, xls_4096, xll_0, xll_1, xnr_i, xnr_0, xnr_1, xnr_ite, xft_i, xft_0, xft_1, xat_999, xat_1001, xat_1002, xat_1003, xat_2001, xat_2002, xat_2003, List.getElem?_cons_succ, List.getElem?_cons_zero, xfn_0, xfn_1, xfn_2, xfn_3, x10, x01, not_true_eq_false, false_implies, implies_true, true_implies, xrm_c, xrm_s, xnl_4, xnl_32, xnl_64, xnl_256, xtn_4, xtn_32, xtn_64, xtn_256, Option.some.injEq, Sum.inl.injEq, Sum.inr.injEq, exists_eq_left', exists_eq_right, Option.toList_some, Option.toList_none, List.cons_append, List.nil_append, xE, lg_cmp_ge, lg_cmp_le, lg_cmp_gt, lg_cmp_lt, lg_cmp_eq, Nat.le_refl, Nat.zero_le, ne_eq, Nat.add_zero, dS_lacks_0, dS_lacks_1, dS_lacks_4, dS_lacks_5, dS_lacks_6, dS_lacks_7, dS_lacks_8, dS_lacks_11, dS_lacks_12, dS_lacks_15, dS_lacks_16, dS_lacks_19, dS_lacks_20, dS_lacks_21, dS_lacks_22, dS_lacks_23, dS_lacks_26, dS_lacks_29, dS_lacks_30, dS_lacks_33, dS_lacks_34, dS_lacks_37, dS_lacks_38, dS_lacks_41, dS_lacks_44, dS_lacks_47, dS_lacks_48, dS_lacks_51, dS_lacks_52, dS_lacks_55, dS_lacks_58, dS_lacks_59, dS_lacks_62, dS_lacks_65, dS_lacks_66, dS_lacks_67, dS_lacks_70, dS_lacks_73, dS_lacks_74, xf_3_17, xf_3_86, xf_3_144, xf_3_108, xf_3_151, xf_3_154, xf_3_89]
  refine hV.call [] (As := [.inr (.inr (some th))]) xh_3_141 dS_lacks_1 (c_survey h) (Or.inr ⟨_, _, rfl, fun _ => h1⟩) rfl rfl (by decide) (by decide) (by decide) ?_
  rintro r S1 ⟨rfl, g1, g2⟩
  refine xrun_ok hV [6] 20 _ _ _ _ _ _ ?_
  simp (maxDischargeDepth := 60) only [xrun, xisc, ↓xstep, xget, xtgt, xcmp, xacmp, xprev, xisR, xnt, List.set, List.length, xsw, xlk, true_or, or_true, if_true, if_false, true_and, and_true, List.mem_cons, List.not_mem_nil, or_false, false_or, Bool.false_eq_true, reduceCtorEq, not_false_eq_true, forall_const, Nat.zero_add, Nat.reduceAdd, Nat.reduceSub, Int.reduceAdd, Int.reduceNeg, Int.reduceToNat, Nat.reduceEqDiff, Nat.reduceLT, Nat.reduceLeDiff, Int.reduceLE, Int.reduceLT, reduceIte, Int.cast_ofNat_Int, Int.natCast_zero, Int.natCast_one, Int.reduceAdd, eq_self, Int.reduceSub, List.length_cons, List.length_nil, xli_m1, xli_0, xli_1, xli_2, xli_3, xli_4, xli_5, xlb_8, xlb_12, xlb_31, xlb_32, xlb_64, xls_256, xls_513, xls_2048, xls_4096, xll_0, xll_1, xnr_i, xnr_0, xnr_1, xnr_ite, xft_i, xft_0, xft_1, xat_999, xat_1001, xat_1002, xat_1003, xat_2001, xat_2002, xat_2003, List.getElem?_cons_succ, List.getElem?_cons_zero, xfn_0, xfn_1, xfn_2, xfn_3, x10, x01, not_true_eq_false, false_implies, implies_true, true_implies, xrm_c, xrm_s, xnl_4, xnl_32, xnl_64, xnl_256, xtn_4, xtn_32, xtn_64, xtn_256, Option.some.injEq, Sum.inl.injEq, Sum.inr.injEq, exists_eq_left', exists_eq_right, Option.toList_some, Option.toList_none, List.cons_append, List.nil_append, xE, lg_cmp_ge, lg_cmp_le, lg_cmp_gt, lg_cmp_lt, lg_cmp_eq, Nat.le_refl, Nat.zero_le, ne_eq, Nat.add_zero, dS_lacks_0, dS_lacks_1, dS_lacks_4, dS_lacks_5, dS_lacks_6, dS_lacks_7, dS_lacks_8, dS_lacks_11, dS_lacks_12, dS_lacks_15, dS_lacks_16, dS_lacks_19, dS_lacks_20, dS_lacks_21, dS_lacks_22, dS_lacks_23, dS_lacks_26, dS_lacks_29, dS_lacks_30, dS_lacks_33, dS_lacks_34, dS_lacks_37, dS_lacks_38, dS_lacks_41, dS_lacks_44, dS_lacks_47, dS_lacks_48, dS_lacks_51, dS_lacks_52, dS_lacks_55, dS_lacks_58, dS_lacks_59, dS_lacks_62, dS_lacks_65, dS_lacks_66, dS_lacks_67, dS_lacks_70, dS_lacks_73, dS_lacks_74, xf_3_17, xf_3_86, xf_3_144, xf_3_108, xf_3_151, xf_3_154, xf_3_89]
  exact lacks_loop (h.ca g1) g2 hV (M 12 0) 0 (Nat.zero_le _) (by omega) ⟨rfl, ⟨_, _, _, _, h.ca g1⟩, g1.fr h⟩
end LOOPS
