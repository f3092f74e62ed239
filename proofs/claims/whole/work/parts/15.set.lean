/-! THE CLASS: base, align, root, put -/
theorem rC.th {S : xS} {th : Nat} {ar pa qa la : Nat → Nat} {M : mT} (h : rC S th ar pa qa la M) : xc S th = 4 := h.2.1.1.1
theorem rC.nP {S : xS} {th : Nat} {ar pa qa la : Nat → Nat} {M : mT} (h : rC S th ar pa qa la M) {p t a : Nat} (hp : p < M 4 0) (ha : xc S a = t) (ht : 2 ≠ t) : pa p ≠ a := xne (h.2.2.2.1 p hp).1.1 ha ht
theorem rC.nQ {S : xS} {th : Nat} {ar pa qa la : Nat → Nat} {M : mT} (h : rC S th ar pa qa la M) {p t a : Nat} (hp : p < M 12 0) (ha : xc S a = t) (ht : 3 ≠ t) : qa p ≠ a := xne (h.2.2.2.2.1 p hp).1.1 ha ht
theorem rC.nB {S : xS} {th : Nat} {ar pa qa la : Nat → Nat} {M : mT} (h : rC S th ar pa qa la M) {p t a : Nat} (hp : p < M 25 0) (ha : xc S a = t) (ht : 1 ≠ t) : la p ≠ a := xne (h.2.2.2.2.2.1 p hp).1.1 ha ht
theorem toInt_le_nI {x : Int32} {n : Nat} (h0 : 0 ≤ x.toInt) (h1 : x.toInt ≤ n) (hn : n < 2 ^ 31) : ∃ j : Nat, j ≤ n ∧ x = nI j := by
  refine ⟨x.toInt.toNat, by omega, ?_⟩
  apply Int32.toInt_inj.mp
  rw [nI_toInt (by omega)]
  omega
section SET
variable {l : Launch} {D : va_G} {n0 : Nat} {S : xS} {th : Nat} {ar pa qa la : Nat → Nat} {M : mT}
theorem rC_base (h : rC S th ar pa qa la M) {b : Nat} (hb : b ≤ 1048576) : rC (xpi S th 9 (nI b)) th ar pa qa la (mset M 0 0 b) := by
  have h0 := h
  obtain ⟨hW, hT, hA, hP, hQ, hB, i1, i2, i3⟩ := h
  refine ⟨?_, ?_, hA, fun p hp => ?_, fun k hk => ?_, fun j hj => ?_, i1, i2, i3⟩
  · obtain ⟨⟨w1, w2⟩, w3⟩ := hW
    exact ⟨⟨hb, w2⟩, w3⟩
  · obtain ⟨t1, t2, t3, t4, t5, ⟨t6, t7, t8, t9⟩, t10⟩ := hT
    refine ⟨t1, t2, t3, t4, t5, ⟨?_, ?_, ?_, ?_⟩, fun o ho => ?_⟩
    · rw [xi_pi, if_neg (by simp)]; exact t6
    · rw [xi_pi, if_neg (by simp)]; exact t7
    · rw [xi_pi, if_neg (by simp)]; exact t8
    · rw [xi_pi, if_pos ⟨rfl, rfl⟩]; rfl
    · rw [xi_pi, if_neg (fun z => xne t3.2.2.2.1 t1.1 (by decide) z.1)]
      exact t10 o ho
  · exact ((hP p hp).pi (h0.nP hp h0.th (by decide))).to rfl (fun _ _ => rfl) rfl (fun _ _ => rfl) ⟨rfl, rfl, rfl, rfl⟩
  · exact ((hQ k hk).pi (h0.nQ hk h0.th (by decide))).to hk rfl (fun _ _ => rfl) (fun _ => rfl) rfl (fun _ _ => rfl) ⟨rfl, fun _ => rfl, rfl, rfl, rfl, rfl, rfl, rfl⟩
  · exact ((hB j hj).pi (h0.nB hj h0.th (by decide))).to rfl rfl rfl (fun _ => rfl)
set_option maxHeartbeats 4000000 in
set_option maxRecDepth 100000 in
theorem c_base (h : rCx S th M) (x : Int32) : xMet l D n0 mS_base 0 0 [.inr (.inr (some th)), .inl x] S (oC S th (oBase M x)) := by
  obtain ⟨ar, pa, qa, la, h⟩ := h
  refine xMet.of (k := mS_base) (own := 3) (ini := false) xm_S_base (by decide +kernel) (by decide +kernel) (by decide) (Nat.le_of_ble_eq_true rfl) ?_
  intro V hV
  show V 0 [some (.inr (.inr (some th))), some (.inl x)] [] S 0 0
  refine xrun_ok hV [] 20 _ _ _ _ _ _ ?_
  simp (maxDischargeDepth := 60) only [xrun, xisc, ↓xstep, xget, xtgt, xcmp, xacmp, xprev, xisR, xnt, List.set, List.length, xsw, xlk, true_or, or_true, if_true, if_false, true_and, and_true, List.mem_cons, List.not_mem_nil, or_false, false_or, Bool.false_eq_true, reduceCtorEq, not_false_eq_true, forall_const, Nat.zero_add, Nat.reduceAdd, Nat.reduceSub, Int.reduceAdd, Int.reduceNeg, Int.reduceToNat, Nat.reduceEqDiff, Nat.reduceLT, Nat.reduceLeDiff, Int.reduceLE, Int.reduceLT, reduceIte, Int.cast_ofNat_Int, Int.natCast_zero, Int.natCast_one, Int.reduceAdd, eq_self, Int.reduceSub, List.length_cons, List.length_nil, xli_m1, xli_0, xli_1, xli_2, xli_3, xli_4, xli_5, xlb_8, xlb_12, xlb_31, xlb_32, xlb_64, xls_256, xls_513, xls_2048, xls_4096, xll_0, xll_1, xnr_i, xnr_0, xnr_1, xnr_ite, xft_i, xft_0, xft_1, xat_999, xat_1001, xat_1002, xat_1003, xat_2001, xat_2002, xat_2003, List.getElem?_cons_succ, List.getElem?_cons_zero, xfn_0, xfn_1, xfn_2, xfn_3, x10, x01, not_true_eq_false, false_implies, implies_true, true_implies, xrm_c, xrm_s, xnl_4, xnl_32, xnl_64, xnl_256, xtn_4, xtn_32, xtn_64, xtn_256, Option.some.injEq, Sum.inl.injEq, Sum.inr.injEq, exists_eq_left', exists_eq_right, Option.toList_some, Option.toList_none, List.cons_append, List.nil_append, xE, lg_cmp_ge, lg_cmp_le, lg_cmp_gt, lg_cmp_lt, lg_cmp_eq, Nat.le_refl, Nat.zero_le, ne_eq, Nat.add_zero, dS_base_0, dS_base_1, dS_base_2, dS_base_3, dS_base_6, dS_base_9, dS_base_12, dS_base_13, dS_base_14, dS_base_15, dS_base_16, dS_base_19, dS_base_20, xj_3_99, xf_3_101]
  refine hV.call [] xh_3_57 dS_base_6 (c_isWithin S x.toInt64 0 1048576) (Or.inl rfl) rfl rfl (by decide) (by decide) (by decide) ?_
  rintro r S' ⟨rfl, rfl⟩
  have hth := h.th
  simp only [Int32.toInt_toInt64]
  rw [show (0 : Int64).toInt = 0 from rfl, show (1048576 : Int64).toInt = 1048576 from rfl]
  by_cases hz : 0 ≤ x.toInt ∧ x.toInt ≤ 1048576
  · rw [if_pos hz]
    refine xrun_ok hV [] 20 _ _ _ _ _ _ ?_
    simp (maxDischargeDepth := 60) only [xrun, xisc, ↓xstep, xget, xtgt, xcmp, xacmp, xprev, xisR, xnt, List.set, List.length, xsw, xlk, true_or, or_true, if_true, if_false, true_and, and_true, List.mem_cons, List.not_mem_nil, or_false, false_or, Bool.false_eq_true, reduceCtorEq, not_false_eq_true, forall_const, Nat.zero_add, Nat.reduceAdd, Nat.reduceSub, Int.reduceAdd, Int.reduceNeg, Int.reduceToNat, Nat.reduceEqDiff, Nat.reduceLT, Nat.reduceLeDiff, Int.reduceLE, Int.reduceLT, reduceIte, Int.cast_ofNat_Int, Int.natCast_zero, Int.natCast_one, Int.reduceAdd, eq_self, Int.reduceSub, List.length_cons, List.length_nil, xli_m1, xli_0, xli_1, xli_2, xli_3, xli_4, xli_5, xlb_8, xlb_12, xlb_31, xlb_32, xlb_64, xls_256, xls_513, xls_2048, xls_4096, xll_0, xll_1, xnr_i, xnr_0, xnr_1, xnr_ite, xft_i, xft_0, xft_1, xat_999, xat_1001, xat_1002, xat_1003, xat_2001, xat_2002, xat_2003, List.getElem?_cons_succ, List.getElem?_cons_zero, xfn_0, xfn_1, xfn_2, xfn_3, x10, x01, not_true_eq_false, false_implies, implies_true, true_implies, xrm_c, xrm_s, xnl_4, xnl_32, xnl_64, xnl_256, xtn_4, xtn_32, xtn_64, xtn_256, Option.some.injEq, Sum.inl.injEq, Sum.inr.injEq, exists_eq_left', exists_eq_right, Option.toList_some, Option.toList_none, List.cons_append, List.nil_append, xE, lg_cmp_ge, lg_cmp_le, lg_cmp_gt, lg_cmp_lt, lg_cmp_eq, Nat.le_refl, Nat.zero_le, ne_eq, Nat.add_zero, dS_base_0, dS_base_1, dS_base_2, dS_base_3, dS_base_6, dS_base_9, dS_base_12, dS_base_13, dS_base_14, dS_base_15, dS_base_16, dS_base_19, dS_base_20, xj_3_99, xf_3_101, hth]
    unfold oBase
    rw [if_pos (inR_iff.mpr hz)]
    have hb := rC_base h (b := x.toNatClampNeg) (by have e : x.toNatClampNeg = x.toInt.toNat := rfl; omega)
    rw [nI_cl hz.1] at hb
    exact ⟨rfl, ⟨ar, pa, qa, la, hb⟩, xFr.pi (by rw [hth]; rfl)⟩
  · rw [if_neg hz]
    refine xrun_ok hV [] 20 _ _ _ _ _ _ ?_
    simp (maxDischargeDepth := 60) only [xrun, xisc, ↓xstep, xget, xtgt, xcmp, xacmp, xprev, xisR, xnt, List.set, List.length, xsw, xlk, true_or, or_true, if_true, if_false, true_and, and_true, List.mem_cons, List.not_mem_nil, or_false, false_or, Bool.false_eq_true, reduceCtorEq, not_false_eq_true, forall_const, Nat.zero_add, Nat.reduceAdd, Nat.reduceSub, Int.reduceAdd, Int.reduceNeg, Int.reduceToNat, Nat.reduceEqDiff, Nat.reduceLT, Nat.reduceLeDiff, Int.reduceLE, Int.reduceLT, reduceIte, Int.cast_ofNat_Int, Int.natCast_zero, Int.natCast_one, Int.reduceAdd, eq_self, Int.reduceSub, List.length_cons, List.length_nil, xli_m1, xli_0, xli_1, xli_2, xli_3, xli_4, xli_5, xlb_8, xlb_12, xlb_31, xlb_32, xlb_64, xls_256, xls_513, xls_2048, xls_4096, xll_0, xll_1, xnr_i, xnr_0, xnr_1, xnr_ite, xft_i, xft_0, xft_1, xat_999, xat_1001, xat_1002, xat_1003, xat_2001, xat_2002, xat_2003, List.getElem?_cons_succ, List.getElem?_cons_zero, xfn_0, xfn_1, xfn_2, xfn_3, x10, x01, not_true_eq_false, false_implies, implies_true, true_implies, xrm_c, xrm_s, xnl_4, xnl_32, xnl_64, xnl_256, xtn_4, xtn_32, xtn_64, xtn_256, Option.some.injEq, Sum.inl.injEq, Sum.inr.injEq, exists_eq_left', exists_eq_right, Option.toList_some, Option.toList_none, List.cons_append, List.nil_append, xE, lg_cmp_ge, lg_cmp_le, lg_cmp_gt, lg_cmp_lt, lg_cmp_eq, Nat.le_refl, Nat.zero_le, ne_eq, Nat.add_zero, dS_base_0, dS_base_1, dS_base_2, dS_base_3, dS_base_6, dS_base_9, dS_base_12, dS_base_13, dS_base_14, dS_base_15, dS_base_16, dS_base_19, dS_base_20, xj_3_99, xf_3_101, hth]
    unfold oBase
    rw [if_neg (fun q => hz (inR_iff.mp q))]
    exact ⟨rfl, ⟨ar, pa, qa, la, h⟩, xFr.rf _ _⟩
theorem rC_align (h : rC S th ar pa qa la M) {o b : Nat} (ho : o < 4) (hb : b ≤ 12) : rC (xpi S (ar 3) o (nI b)) th ar pa qa la (mset M 1 o b) := by
  have h0 := h
  have h3 := h.2.1.2.2.1.2.2.2.1
  obtain ⟨hW, hT, hA, hP, hQ, hB, i1, i2, i3⟩ := h
  refine ⟨?_, ?_, hA, fun p hp => ?_, fun k hk => ?_, fun j hj => ?_, i1, i2, i3⟩
  · obtain ⟨w1, w2, w3⟩ := hW
    refine ⟨w1, fun o' ho' => ?_, w3⟩
    rw [mset_eq]
    split
    · exact hb
    · exact w2 o' ho'
  · obtain ⟨t1, t2, t3, t4, t5, ⟨t6, t7, t8, t9⟩, t10⟩ := hT
    have hne : th ≠ ar 3 := xne t1.1 h3 (by decide)
    refine ⟨t1, t2, t3, t4, t5, ⟨?_, ?_, ?_, ?_⟩, fun o' ho' => ?_⟩
    · rw [xi_pi, if_neg (fun z => hne z.1)]; exact t6
    · rw [xi_pi, if_neg (fun z => hne z.1)]; exact t7
    · rw [xi_pi, if_neg (fun z => hne z.1)]; exact t8
    · rw [xi_pi, if_neg (fun z => hne z.1)]; exact t9
    · rw [xi_pi, mset_eq]
      by_cases e : o' = o
      · rw [if_pos ⟨rfl, e⟩, if_pos ⟨rfl, e⟩]
      · rw [if_neg (fun z => e z.2), if_neg (fun z => e z.2)]
        exact t10 o' ho'
  · exact ((hP p hp).pi (h0.nP hp h3 (by decide))).to rfl (fun _ _ => rfl) rfl (fun _ _ => rfl) ⟨rfl, rfl, rfl, rfl⟩
  · exact ((hQ k hk).pi (h0.nQ hk h3 (by decide))).to hk rfl (fun _ _ => rfl) (fun _ => rfl) rfl (fun _ _ => rfl) ⟨rfl, fun _ => rfl, rfl, rfl, rfl, rfl, rfl, rfl⟩
  · exact ((hB j hj).pi (h0.nB hj h3 (by decide))).to rfl rfl rfl (fun _ => rfl)
set_option maxHeartbeats 4000000 in
set_option maxRecDepth 100000 in
theorem c_align (h : rCx S th M) (x y : Int32) : xMet l D n0 mS_align 0 0 [.inr (.inr (some th)), .inl x, .inl y] S (oC S th (oAlign M x y)) := by
  obtain ⟨ar, pa, qa, la, h⟩ := h
  refine xMet.of (k := mS_align) (own := 3) (ini := false) xm_S_align (by decide +kernel) (by decide +kernel) (by decide) (Nat.le_of_ble_eq_true rfl) ?_
  intro V hV
  show V 0 [some (.inr (.inr (some th))), some (.inl x), some (.inl y)] [] S 0 0
  have h1 := h.th
  have h2 := (h.2.1.2.1 3 (by decide)).1
  have h3 := h.2.1.2.2.1.2.2.2.1
  have h4 := h.2.1.2.2.2.1.2.2.2.1
  refine xrun_ok hV [] 20 _ _ _ _ _ _ ?_
  simp (maxDischargeDepth := 60) only [xrun, xisc, ↓xstep, xget, xtgt, xcmp, xacmp, xprev, xisR, xnt, List.set, List.length, xsw, xlk, true_or, or_true, if_true, if_false, true_and, and_true, List.mem_cons, List.not_mem_nil, or_false, false_or, Bool.false_eq_true, reduceCtorEq, not_false_eq_true, forall_const, Nat.zero_add, Nat.reduceAdd, Nat.reduceSub, Int.reduceAdd, Int.reduceNeg, Int.reduceToNat, Nat.reduceEqDiff, Nat.reduceLT, Nat.reduceLeDiff, Int.reduceLE, Int.reduceLT, reduceIte, Int.cast_ofNat_Int, Int.natCast_zero, Int.natCast_one, Int.reduceAdd, eq_self, Int.reduceSub, List.length_cons, List.length_nil, xli_m1, xli_0, xli_1, xli_2, xli_3, xli_4, xli_5, xlb_8, xlb_12, xlb_31, xlb_32, xlb_64, xls_256, xls_513, xls_2048, xls_4096, xll_0, xll_1, xnr_i, xnr_0, xnr_1, xnr_ite, xft_i, xft_0, xft_1, xat_999, xat_1001, xat_1002, xat_1003, xat_2001, xat_2002, xat_2003, List.getElem?_cons_succ, List.getElem?_cons_zero, xfn_0, xfn_1, xfn_2, xfn_3, x10, x01, not_true_eq_false, false_implies, implies_true, true_implies, xrm_c, xrm_s, xnl_4, xnl_32, xnl_64, xnl_256, xtn_4, xtn_32, xtn_64, xtn_256, Option.some.injEq, Sum.inl.injEq, Sum.inr.injEq, exists_eq_left', exists_eq_right, Option.toList_some, Option.toList_none, List.cons_append, List.nil_append, xE, lg_cmp_ge, lg_cmp_le, lg_cmp_gt, lg_cmp_lt, lg_cmp_eq, Nat.le_refl, Nat.zero_le, ne_eq, Nat.add_zero, dS_align_0, dS_align_1, dS_align_4, dS_align_7, dS_align_8, dS_align_11, dS_align_14, dS_align_15, dS_align_16, dS_align_17, dS_align_20, dS_align_21, dS_align_22, dS_align_23, dS_align_24, xf_3_27]
  refine hV.call [] xh_3_41 dS_align_1 (c_isOutput S x) (Or.inl rfl) rfl rfl (by decide) (by decide) (by decide) ?_
  rintro r S' ⟨rfl, rfl⟩
  by_cases hz : 0 ≤ x.toInt ∧ x.toInt ≤ 3
  · rw [if_pos hz]
    refine xrun_ok hV [] 20 _ _ _ _ _ _ ?_
    simp (maxDischargeDepth := 60) only [xrun, xisc, ↓xstep, xget, xtgt, xcmp, xacmp, xprev, xisR, xnt, List.set, List.length, xsw, xlk, true_or, or_true, if_true, if_false, true_and, and_true, List.mem_cons, List.not_mem_nil, or_false, false_or, Bool.false_eq_true, reduceCtorEq, not_false_eq_true, forall_const, Nat.zero_add, Nat.reduceAdd, Nat.reduceSub, Int.reduceAdd, Int.reduceNeg, Int.reduceToNat, Nat.reduceEqDiff, Nat.reduceLT, Nat.reduceLeDiff, Int.reduceLE, Int.reduceLT, reduceIte, Int.cast_ofNat_Int, Int.natCast_zero, Int.natCast_one, Int.reduceAdd, eq_self, Int.reduceSub, List.length_cons, List.length_nil, xli_m1, xli_0, xli_1, xli_2, xli_3, xli_4, xli_5, xlb_8, xlb_12, xlb_31, xlb_32, xlb_64, xls_256, xls_513, xls_2048, xls_4096, xll_0, xll_1, xnr_i, xnr_0, xnr_1, xnr_ite, xft_i, xft_0, xft_1, xat_999, xat_1001, xat_1002, xat_1003, xat_2001, xat_2002, xat_2003, List.getElem?_cons_succ, List.getElem?_cons_zero, xfn_0, xfn_1, xfn_2, xfn_3, x10, x01, not_true_eq_false, false_implies, implies_true, true_implies, xrm_c, xrm_s, xnl_4, xnl_32, xnl_64, xnl_256, xtn_4, xtn_32, xtn_64, xtn_256, Option.some.injEq, Sum.inl.injEq, Sum.inr.injEq, exists_eq_left', exists_eq_right, Option.toList_some, Option.toList_none, List.cons_append, List.nil_append, xE, lg_cmp_ge, lg_cmp_le, lg_cmp_gt, lg_cmp_lt, lg_cmp_eq, Nat.le_refl, Nat.zero_le, ne_eq, Nat.add_zero, dS_align_0, dS_align_1, dS_align_4, dS_align_7, dS_align_8, dS_align_11, dS_align_14, dS_align_15, dS_align_16, dS_align_17, dS_align_20, dS_align_21, dS_align_22, dS_align_23, dS_align_24, xf_3_27]
    refine hV.call [] xh_3_45 dS_align_8 (c_isPower S' y) (Or.inl rfl) rfl rfl (by decide) (by decide) (by decide) ?_
    rintro r S' ⟨rfl, rfl⟩
    by_cases hy : 0 ≤ y.toInt ∧ y.toInt ≤ 12
    · rw [if_pos hy]
      refine xrun_ok hV [] 20 _ _ _ _ _ _ ?_
      simp (maxDischargeDepth := 60) only [xrun, xisc, ↓xstep, xget, xtgt, xcmp, xacmp, xprev, xisR, xnt, List.set, List.length, xsw, xlk, true_or, or_true, if_true, if_false, true_and, and_true, List.mem_cons, List.not_mem_nil, or_false, false_or, Bool.false_eq_true, reduceCtorEq, not_false_eq_true, forall_const, Nat.zero_add, Nat.reduceAdd, Nat.reduceSub, Int.reduceAdd, Int.reduceNeg, Int.reduceToNat, Nat.reduceEqDiff, Nat.reduceLT, Nat.reduceLeDiff, Int.reduceLE, Int.reduceLT, reduceIte, Int.cast_ofNat_Int, Int.natCast_zero, Int.natCast_one, Int.reduceAdd, eq_self, Int.reduceSub, List.length_cons, List.length_nil, xli_m1, xli_0, xli_1, xli_2, xli_3, xli_4, xli_5, xlb_8, xlb_12, xlb_31, xlb_32, xlb_64, xls_256, xls_513, xls_2048, xls_4096, xll_0, xll_1, xnr_i, xnr_0, xnr_1, xnr_ite, xft_i, xft_0, xft_1, xat_999, xat_1001, xat_1002, xat_1003, xat_2001, xat_2002, xat_2003, List.getElem?_cons_succ, List.getElem?_cons_zero, xfn_0, xfn_1, xfn_2, xfn_3, x10, x01, not_true_eq_false, false_implies, implies_true, true_implies, xrm_c, xrm_s, xnl_4, xnl_32, xnl_64, xnl_256, xtn_4, xtn_32, xtn_64, xtn_256, Option.some.injEq, Sum.inl.injEq, Sum.inr.injEq, exists_eq_left', exists_eq_right, Option.toList_some, Option.toList_none, List.cons_append, List.nil_append, xE, lg_cmp_ge, lg_cmp_le, lg_cmp_gt, lg_cmp_lt, lg_cmp_eq, Nat.le_refl, Nat.zero_le, ne_eq, Nat.add_zero, dS_align_0, dS_align_1, dS_align_4, dS_align_7, dS_align_8, dS_align_11, dS_align_14, dS_align_15, dS_align_16, dS_align_17, dS_align_20, dS_align_21, dS_align_22, dS_align_23, dS_align_24, xf_3_27, h1, h2, h3, h4]
      have e : x.toNatClampNeg = x.toInt.toNat := rfl
      have e2 : y.toNatClampNeg = y.toInt.toNat := rfl
      unfold oAlign
      rw [if_pos ⟨inR_iff.mpr hz, inR_iff.mpr hy⟩]
      have hb := rC_align h (o := x.toNatClampNeg) (b := y.toNatClampNeg) (by omega) (by omega)
      rw [nI_cl hy.1] at hb
      exact ⟨vp_in_iff.mpr ⟨hz.1, by omega⟩, rfl, ⟨ar, pa, qa, la, hb⟩, xFr.pi (by rw [h3]; rfl)⟩
    · rw [if_neg hy]
      refine xrun_ok hV [] 20 _ _ _ _ _ _ ?_
      simp (maxDischargeDepth := 60) only [xrun, xisc, ↓xstep, xget, xtgt, xcmp, xacmp, xprev, xisR, xnt, List.set, List.length, xsw, xlk, true_or, or_true, if_true, if_false, true_and, and_true, List.mem_cons, List.not_mem_nil, or_false, false_or, Bool.false_eq_true, reduceCtorEq, not_false_eq_true, forall_const, Nat.zero_add, Nat.reduceAdd, Nat.reduceSub, Int.reduceAdd, Int.reduceNeg, Int.reduceToNat, Nat.reduceEqDiff, Nat.reduceLT, Nat.reduceLeDiff, Int.reduceLE, Int.reduceLT, reduceIte, Int.cast_ofNat_Int, Int.natCast_zero, Int.natCast_one, Int.reduceAdd, eq_self, Int.reduceSub, List.length_cons, List.length_nil, xli_m1, xli_0, xli_1, xli_2, xli_3, xli_4, xli_5, xlb_8, xlb_12, xlb_31, xlb_32, xlb_64, xls_256, xls_513, xls_2048, xls_4096, xll_0, xll_1, xnr_i, xnr_0, xnr_1, xnr_ite, xft_i, xft_0, xft_1, xat_999, xat_1001, xat_1002, xat_1003, xat_2001, xat_2002, xat_2003, List.getElem?_cons_succ, List.getElem?_cons_zero, xfn_0, xfn_1, xfn_2, xfn_3, x10, x01, not_true_eq_false, false_implies, implies_true, true_implies, xrm_c, xrm_s, xnl_4, xnl_32, xnl_64, xnl_256, xtn_4, xtn_32, xtn_64, xtn_256, Option.some.injEq, Sum.inl.injEq, Sum.inr.injEq, exists_eq_left', exists_eq_right, Option.toList_some, Option.toList_none, List.cons_append, List.nil_append, xE, lg_cmp_ge, lg_cmp_le, lg_cmp_gt, lg_cmp_lt, lg_cmp_eq, Nat.le_refl, Nat.zero_le, ne_eq, Nat.add_zero, dS_align_0, dS_align_1, dS_align_4, dS_align_7, dS_align_8, dS_align_11, dS_align_14, dS_align_15, dS_align_16, dS_align_17, dS_align_20, dS_align_21, dS_align_22, dS_align_23, dS_align_24, xf_3_27, h1, h2, h3, h4]
      unfold oAlign
      rw [if_neg (fun q => hy (inR_iff.mp q.2))]
      exact ⟨rfl, ⟨ar, pa, qa, la, h⟩, xFr.rf _ _⟩
  · rw [if_neg hz]
    refine xrun_ok hV [] 20 _ _ _ _ _ _ ?_
    simp (maxDischargeDepth := 60) only [xrun, xisc, ↓xstep, xget, xtgt, xcmp, xacmp, xprev, xisR, xnt, List.set, List.length, xsw, xlk, true_or, or_true, if_true, if_false, true_and, and_true, List.mem_cons, List.not_mem_nil, or_false, false_or, Bool.false_eq_true, reduceCtorEq, not_false_eq_true, forall_const, Nat.zero_add, Nat.reduceAdd, Nat.reduceSub, Int.reduceAdd, Int.reduceNeg, Int.reduceToNat, Nat.reduceEqDiff, Nat.reduceLT, Nat.reduceLeDiff, Int.reduceLE, Int.reduceLT, reduceIte, Int.cast_ofNat_Int, Int.natCast_zero, Int.natCast_one, Int.reduceAdd, eq_self, Int.reduceSub, List.length_cons, List.length_nil, xli_m1, xli_0, xli_1, xli_2, xli_3, xli_4, xli_5, xlb_8, xlb_12, xlb_31, xlb_32, xlb_64, xls_256, xls_513, xls_2048, xls_4096, xll_0, xll_1, xnr_i, xnr_0, xnr_1, xnr_ite, xft_i, xft_0, xft_1, xat_999, xat_1001, xat_1002, xat_1003, xat_2001, xat_2002, xat_2003, List.getElem?_cons_succ, List.getElem?_cons_zero, xfn_0, xfn_1, xfn_2, xfn_3, x10, x01, not_true_eq_false, false_implies, implies_true, true_implies, xrm_c, xrm_s, xnl_4, xnl_32, xnl_64, xnl_256, xtn_4, xtn_32, xtn_64, xtn_256, Option.some.injEq, Sum.inl.injEq, Sum.inr.injEq, exists_eq_left', exists_eq_right, Option.toList_some, Option.toList_none, List.cons_append, List.nil_append, xE, lg_cmp_ge, lg_cmp_le, lg_cmp_gt, lg_cmp_lt, lg_cmp_eq, Nat.le_refl, Nat.zero_le, ne_eq, Nat.add_zero, dS_align_0, dS_align_1, dS_align_4, dS_align_7, dS_align_8, dS_align_11, dS_align_14, dS_align_15, dS_align_16, dS_align_17, dS_align_20, dS_align_21, dS_align_22, dS_align_23, dS_align_24, xf_3_27, h1, h2, h3, h4]
    unfold oAlign
    rw [if_neg (fun q => hz (inR_iff.mp q.1))]
    exact ⟨rfl, ⟨ar, pa, qa, la, h⟩, xFr.rf _ _⟩
theorem rC_root (h : rC S th ar pa qa la M) {p on : Nat} (hp : p < M 4 0) (ho : on ≤ 1) : rC (xpi S (pa p) 4 (nI on)) th ar pa qa la (mset M 7 p on) := by
  have h0 := h
  have h3 : xc S (pa p) = 2 := (h.2.2.2.1 p hp).1.1
  obtain ⟨hW, hT, hA, hP, hQ, hB, i1, i2, i3⟩ := h
  refine ⟨?_, ?_, hA, fun p' hp' => ?_, fun k hk => ?_, fun j hj => ?_, i1, i2, i3⟩
  · obtain ⟨w1, w2, w3, w4⟩ := hW
    refine ⟨w1, w2, fun p' hp' => ?_, w4⟩
    obtain ⟨a1, a2, a3, a4⟩ := w3 p' hp'
    refine ⟨a1, a2, ?_, a4⟩
    rw [mset_eq]
    split
    · exact ho
    · exact a3
  · obtain ⟨t1, t2, t3, t4, t5, ⟨t6, t7, t8, t9⟩, t10⟩ := hT
    have hne : th ≠ pa p := xne t1.1 h3 (by decide)
    have hne2 : ar 3 ≠ pa p := xne t3.2.2.2.1 h3 (by decide)
    refine ⟨t1, t2, t3, t4, t5, ⟨?_, ?_, ?_, ?_⟩, fun o' ho' => ?_⟩
    · rw [xi_pi, if_neg (fun z => hne z.1)]; exact t6
    · rw [xi_pi, if_neg (fun z => hne z.1)]; exact t7
    · rw [xi_pi, if_neg (fun z => hne z.1)]; exact t8
    · rw [xi_pi, if_neg (fun z => hne z.1)]; exact t9
    · rw [xi_pi, if_neg (fun z => hne2 z.1)]
      exact t10 o' ho'
  · by_cases e : p' = p
    · subst e
      obtain ⟨q1, ⟨q2, q3, q4, q5, q6⟩, q7, q8⟩ := hP p' hp'
      refine ⟨q1, ⟨?_, ?_, ?_, ?_, ?_⟩, q7.trans (congrArg _ (mnx_congr (M := M) (M' := mset M 7 p' on) _ _ (fun _ _ => rfl)).symm), q8.trans (congrArg _ (mla_congr (M := M) (M' := mset M 7 p' on) _ (fun _ _ => rfl)).symm)⟩
      · rw [xi_pi, if_neg (by simp)]; exact q2
      · rw [xi_pi, if_neg (by simp)]; exact q3
      · rw [xi_pi, if_neg (by simp)]; exact q4
      · rw [xi_pi, if_neg (by simp)]; exact q5
      · rw [xi_pi, if_pos ⟨rfl, rfl⟩, mset_eq, if_pos ⟨rfl, rfl⟩]
    · refine ((hP p' hp').pi (fun z => e (i1 p' p hp' hp z))).to rfl (fun _ _ => rfl) rfl (fun _ _ => rfl) ⟨rfl, rfl, ?_, rfl⟩
      rw [mset_eq, if_neg (fun z => e z.2)]
  · exact ((hQ k hk).pi (h0.nQ hk h3 (by decide))).to hk rfl (fun _ _ => rfl) (fun _ => rfl) rfl (fun _ _ => rfl) ⟨rfl, fun _ => rfl, rfl, rfl, rfl, rfl, rfl, rfl⟩
  · exact ((hB j hj).pi (h0.nB hj h3 (by decide))).to rfl rfl rfl (fun _ => rfl)
theorem nI_b {n : Nat} (h : n ≤ 1) : narrow .boolean (.int (nI n)) = .int (nI n) ∧ xfit .boolean (nI n) := by
  rcases (show n = 0 ∨ n = 1 by omega) with rfl | rfl
  · exact ⟨xnr_0, xft_0⟩
  · exact ⟨xnr_1, xft_1⟩
set_option maxHeartbeats 4000000 in
set_option maxRecDepth 100000 in
theorem c_root (h : rCx S th M) (x : Int32) {on : Nat} (ho : on ≤ 1) : xMet l D n0 mS_root 0 0 [.inr (.inr (some th)), .inl x, .inl (nI on)] S (oC S th (oRoot M x on)) := by
  obtain ⟨ar, pa, qa, la, h⟩ := h
  refine xMet.of (k := mS_root) (own := 3) (ini := false) xm_S_root (by decide +kernel) (by decide +kernel) (by decide) (Nat.le_of_ble_eq_true rfl) ?_
  intro V hV
  show V 0 [some (.inr (.inr (some th))), some (.inl x), some (.inl (nI on)), none] [] S 0 0
  have h1 := h.th
  refine xrun_ok hV [] 20 _ _ _ _ _ _ ?_
  simp (maxDischargeDepth := 60) only [xrun, xisc, ↓xstep, xget, xtgt, xcmp, xacmp, xprev, xisR, xnt, List.set, List.length, xsw, xlk, true_or, or_true, if_true, if_false, true_and, and_true, List.mem_cons, List.not_mem_nil, or_false, false_or, Bool.false_eq_true, reduceCtorEq, not_false_eq_true, forall_const, Nat.zero_add, Nat.reduceAdd, Nat.reduceSub, Int.reduceAdd, Int.reduceNeg, Int.reduceToNat, Nat.reduceEqDiff, Nat.reduceLT, Nat.reduceLeDiff, Int.reduceLE, Int.reduceLT, reduceIte, Int.cast_ofNat_Int, Int.natCast_zero, Int.natCast_one, Int.reduceAdd, eq_self, Int.reduceSub, List.length_cons, List.length_nil, xli_m1, xli_0, xli_1, xli_2, xli_3, xli_4, xli_5, xlb_8, xlb_12, xlb_31, xlb_32, xlb_64, xls_256, xls_513, xls_2048, xls_4096, xll_0, xll_1, xnr_i, xnr_0, xnr_1, xnr_ite, xft_i, xft_0, xft_1, xat_999, xat_1001, xat_1002, xat_1003, xat_2001, xat_2002, xat_2003, List.getElem?_cons_succ, List.getElem?_cons_zero, xfn_0, xfn_1, xfn_2, xfn_3, x10, x01, not_true_eq_false, false_implies, implies_true, true_implies, xrm_c, xrm_s, xnl_4, xnl_32, xnl_64, xnl_256, xtn_4, xtn_32, xtn_64, xtn_256, Option.some.injEq, Sum.inl.injEq, Sum.inr.injEq, exists_eq_left', exists_eq_right, Option.toList_some, Option.toList_none, List.cons_append, List.nil_append, xE, lg_cmp_ge, lg_cmp_le, lg_cmp_gt, lg_cmp_lt, lg_cmp_eq, Nat.le_refl, Nat.zero_le, ne_eq, Nat.add_zero, dS_root_0, dS_root_1, dS_root_2, dS_root_5, dS_root_6, dS_root_7, dS_root_10, dS_root_11, dS_root_14, dS_root_15, dS_root_18, dS_root_19, dS_root_20, dS_root_21, dS_root_22, dS_root_25, dS_root_26, xf_3_104]
  refine hV.call [] xh_3_51 dS_root_2 (c_partAt h x) (Or.inr ⟨_, _, rfl, fun _ => h1⟩) rfl rfl (by decide) (by decide) (by decide) ?_
  rintro r S' ⟨rfl, rfl⟩
  have e : x.toNatClampNeg = x.toInt.toNat := rfl
  by_cases hz : 0 ≤ x.toInt ∧ x.toInt < M 4 0
  · rw [if_pos hz]
    have hlt : x.toNatClampNeg < M 4 0 := by omega
    obtain ⟨⟨p1, -⟩, ⟨-, -, -, -, p2⟩, -⟩ := h.2.2.2.1 _ hlt
    have hb := nI_b ho
    have hm := (h.1.2.2.1 _ hlt).2.2.1
    have hnn := nI_eq (show M 7 x.toNatClampNeg < 2 ^ 31 by omega) (show on < 2 ^ 31 by omega)
    refine xrun_ok hV [] 20 _ _ _ _ _ _ ?_
    simp (maxDischargeDepth := 60) only [xrun, xisc, ↓xstep, xget, xtgt, xcmp, xacmp, xprev, xisR, xnt, List.set, List.length, xsw, xlk, true_or, or_true, if_true, if_false, true_and, and_true, List.mem_cons, List.not_mem_nil, or_false, false_or, Bool.false_eq_true, reduceCtorEq, not_false_eq_true, forall_const, Nat.zero_add, Nat.reduceAdd, Nat.reduceSub, Int.reduceAdd, Int.reduceNeg, Int.reduceToNat, Nat.reduceEqDiff, Nat.reduceLT, Nat.reduceLeDiff, Int.reduceLE, Int.reduceLT, reduceIte, Int.cast_ofNat_Int, Int.natCast_zero, Int.natCast_one, Int.reduceAdd, eq_self, Int.reduceSub, List.length_cons, List.length_nil, xli_m1, xli_0, xli_1, xli_2, xli_3, xli_4, xli_5, xlb_8, xlb_12, xlb_31, xlb_32, xlb_64, xls_256, xls_513, xls_2048, xls_4096, xll_0, xll_1, xnr_i, xnr_0, xnr_1, xnr_ite, xft_i, xft_0, xft_1, xat_999, xat_1001, xat_1002, xat_1003, xat_2001, xat_2002, xat_2003, List.getElem?_cons_succ, List.getElem?_cons_zero, xfn_0, xfn_1, xfn_2, xfn_3, x10, x01, not_true_eq_false, false_implies, implies_true, true_implies, xrm_c, xrm_s, xnl_4, xnl_32, xnl_64, xnl_256, xtn_4, xtn_32, xtn_64, xtn_256, Option.some.injEq, Sum.inl.injEq, Sum.inr.injEq, exists_eq_left', exists_eq_right, Option.toList_some, Option.toList_none, List.cons_append, List.nil_append, xE, lg_cmp_ge, lg_cmp_le, lg_cmp_gt, lg_cmp_lt, lg_cmp_eq, Nat.le_refl, Nat.zero_le, ne_eq, Nat.add_zero, dS_root_0, dS_root_1, dS_root_2, dS_root_5, dS_root_6, dS_root_7, dS_root_10, dS_root_11, dS_root_14, dS_root_15, dS_root_18, dS_root_19, dS_root_20, dS_root_21, dS_root_22, dS_root_25, dS_root_26, xf_3_104, p1, p2, hb, hnn]
    unfold oRoot
    refine ⟨fun q => ?_, fun q => ?_⟩
    · rw [if_pos ⟨isP_iff.mpr hz, q⟩]
      exact ⟨rfl, ⟨ar, pa, qa, la, rC_root h hlt ho⟩, xFr.pi (by rw [p1]; rfl)⟩
    · rw [if_neg (fun z => z.2 q)]
      exact ⟨rfl, ⟨ar, pa, qa, la, h⟩, xFr.rf _ _⟩
  · rw [if_neg hz]
    refine xrun_ok hV [] 20 _ _ _ _ _ _ ?_
    simp (maxDischargeDepth := 60) only [xrun, xisc, ↓xstep, xget, xtgt, xcmp, xacmp, xprev, xisR, xnt, List.set, List.length, xsw, xlk, true_or, or_true, if_true, if_false, true_and, and_true, List.mem_cons, List.not_mem_nil, or_false, false_or, Bool.false_eq_true, reduceCtorEq, not_false_eq_true, forall_const, Nat.zero_add, Nat.reduceAdd, Nat.reduceSub, Int.reduceAdd, Int.reduceNeg, Int.reduceToNat, Nat.reduceEqDiff, Nat.reduceLT, Nat.reduceLeDiff, Int.reduceLE, Int.reduceLT, reduceIte, Int.cast_ofNat_Int, Int.natCast_zero, Int.natCast_one, Int.reduceAdd, eq_self, Int.reduceSub, List.length_cons, List.length_nil, xli_m1, xli_0, xli_1, xli_2, xli_3, xli_4, xli_5, xlb_8, xlb_12, xlb_31, xlb_32, xlb_64, xls_256, xls_513, xls_2048, xls_4096, xll_0, xll_1, xnr_i, xnr_0, xnr_1, xnr_ite, xft_i, xft_0, xft_1, xat_999, xat_1001, xat_1002, xat_1003, xat_2001, xat_2002, xat_2003, List.getElem?_cons_succ, List.getElem?_cons_zero, xfn_0, xfn_1, xfn_2, xfn_3, x10, x01, not_true_eq_false, false_implies, implies_true, true_implies, xrm_c, xrm_s, xnl_4, xnl_32, xnl_64, xnl_256, xtn_4, xtn_32, xtn_64, xtn_256, Option.some.injEq, Sum.inl.injEq, Sum.inr.injEq, exists_eq_left', exists_eq_right, Option.toList_some, Option.toList_none, List.cons_append, List.nil_append, xE, lg_cmp_ge, lg_cmp_le, lg_cmp_gt, lg_cmp_lt, lg_cmp_eq, Nat.le_refl, Nat.zero_le, ne_eq, Nat.add_zero, dS_root_0, dS_root_1, dS_root_2, dS_root_5, dS_root_6, dS_root_7, dS_root_10, dS_root_11, dS_root_14, dS_root_15, dS_root_18, dS_root_19, dS_root_20, dS_root_21, dS_root_22, dS_root_25, dS_root_26, xf_3_104]
    unfold oRoot
    rw [if_neg (fun z => hz (isP_iff.mp z.1))]
    exact ⟨rfl, ⟨ar, pa, qa, la, h⟩, xFr.rf _ _⟩
end SET
