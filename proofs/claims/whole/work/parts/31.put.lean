/-! THE REFERENCE: what sets and adds -/
theorem rS.ar {S : xS} {mo : Nat} {A : Nat → Nat} (h : rS S mo A) (f : Nat) (hf : mar f = true) : xr S mo f = some (A f) := (h.2.1 f hf).1
theorem rS.tg {S : xS} {mo : Nat} {A : Nat → Nat} (h : rS S mo A) (f : Nat) (hf : mar f = true) : xc S (A f) = mtg f := (h.2.1 f hf).2.2.1
theorem rS.ln {S : xS} {mo : Nat} {A : Nat → Nat} (h : rS S mo A) (f : Nat) (hf : mar f = true) : xl S (A f) = ml f := (h.2.1 f hf).2.2.2
theorem rS.nm {S : xS} {mo : Nat} {A : Nat → Nat} (h : rS S mo A) {f : Nat} (hf : mar f = true) : A f ≠ mo := h.ne hf
theorem rF.nm {S : xS} {mo : Nat} {A : Nat → Nat} {M : mT} (h : rF S mo A M) {f : Nat} (hf : mar f = true) : A f ≠ mo := h.2.1.ne hf
theorem rS.nn {S : xS} {mo : Nat} {A : Nat → Nat} (h : rS S mo A) (f g : Nat) (hf : mar f = true) (hg : mar g = true) (hn : f ≠ g) : (A f = A g) = False := eq_false (fun e => hn (h.2.2 f g hf hg e))
theorem rFx.mo {S : xS} {o : Nat} {M : mT} (h : rFx S o M) : xc S o = 5 := by obtain ⟨_, h⟩ := h; exact h.mo
theorem rFx.wf {S : xS} {o : Nat} {M : mT} (h : rFx S o M) : mWF M := by obtain ⟨_, h⟩ := h; exact h.1
theorem mWF_base {M : mT} (h : mWF M) {b : Nat} (hb : b ≤ 1048576) : mWF (mset M 0 0 b) := by
  obtain ⟨⟨_, w1⟩, w2⟩ := h
  exact ⟨⟨hb, w1⟩, w2⟩
theorem mWF_align {M : mT} (h : mWF M) {o b : Nat} (hb : b ≤ 12) : mWF (mset M 1 o b) := by
  obtain ⟨w1, w2, w3⟩ := h
  refine ⟨w1, fun o' ho' => ?_, w3⟩
  rw [mset_eq]
  split
  · exact hb
  · exact w2 o' ho'
theorem mWF_root {M : mT} (h : mWF M) {p on : Nat} (ho : on ≤ 1) : mWF (mset M 7 p on) := by
  obtain ⟨w1, w2, w3, w4⟩ := h
  refine ⟨w1, w2, fun p' hp' => ?_, w4⟩
  obtain ⟨a1, a2, a3, a4⟩ := w3 p' hp'
  refine ⟨a1, a2, ?_, a4⟩
  rw [mset_eq]
  split
  · exact ho
  · exact a3
section PUT
variable {l : Launch} {D : va_G} {n0 : Nat} {S : xS} {mo : Nat} {A : Nat → Nat} {M : mT}
theorem d_in (S : xS) (x lo hi : Int32) {a b : Int} (ha : lo.toInt = a) (hb : hi.toInt = b) : xMet l D n0 mM_within 0 0 [.inl x, .inl lo, .inl hi] S (fun r S' => r = some (.inl (if inR x a b = true then 1 else 0)) ∧ S' = S) := by
  have := d_within (l := l) (D := D) (n0 := n0) S x lo hi
  rw [ha, hb] at this
  have e : (inR x a b = true) = (a ≤ x.toInt ∧ x.toInt ≤ b) := propext inR_iff
  simp only [e]
  exact this
set_option maxHeartbeats 4000000 in
set_option maxRecDepth 100000 in
theorem d_base (h : rFx S mo M) (x : Int32) : xMet l D n0 mM_base 0 0 [.inr (.inr (some mo)), .inl x] S (oN S mo (oBase M x)) := by
  obtain ⟨A, h⟩ := h
  have hmo := h.mo
  refine xMet.of (k := mM_base) (own := 4) (ini := false) xm_M_base (by decide +kernel) (by decide +kernel) (by decide) (Nat.le_of_ble_eq_true rfl) ?_
  intro V hV
  show V 0 [some (.inr (.inr (some mo))), some (.inl x)] [] S 0 0
  refine xrun_ok hV [] 20 _ _ _ _ _ _ ?_
  simp (maxDischargeDepth := 60) only [xrun, xisc, ↓xstep, xget, xtgt, xcmp, xacmp, xprev, xisR, xnt, List.set, List.length, xsw, xlk, true_or, or_true, if_true, if_false, true_and, and_true, List.mem_cons, List.not_mem_nil, or_false, false_or, Bool.false_eq_true, reduceCtorEq, not_false_eq_true, forall_const, Nat.zero_add, Nat.reduceAdd, Nat.reduceSub, Int.reduceAdd, Int.reduceNeg, Int.reduceToNat, Nat.reduceEqDiff, Nat.reduceLT, Nat.reduceLeDiff, Int.reduceLE, Int.reduceLT, reduceIte, Int.cast_ofNat_Int, Int.natCast_zero, Int.natCast_one, Int.reduceAdd, eq_self, Int.reduceSub, List.length_cons, List.length_nil, xli_m1, xli_0, xli_1, xli_2, xli_3, xli_4, xli_5, xlb_8, xlb_12, xlb_31, xlb_32, xlb_64, xls_256, xls_513, xls_2048, xls_4096, xll_0, xll_1, xnr_i, xnr_0, xnr_1, xnr_ite, xft_i, xft_0, xft_1, xat_999, xat_1001, xat_1002, xat_1003, xat_2001, xat_2002, xat_2003, List.getElem?_cons_succ, List.getElem?_cons_zero, xfn_0, xfn_1, xfn_2, xfn_3, x10, x01, not_true_eq_false, false_implies, implies_true, true_implies, xrm_c, xrm_s, xnl_4, xnl_32, xnl_64, xnl_256, xtn_4, xtn_32, xtn_64, xtn_256, Option.some.injEq, Sum.inl.injEq, Sum.inr.injEq, exists_eq_left', exists_eq_right, Option.toList_some, Option.toList_none, List.cons_append, List.nil_append, xE, lg_cmp_ge, lg_cmp_le, lg_cmp_gt, lg_cmp_lt, lg_cmp_eq, Nat.le_refl, Nat.zero_le, ne_eq, Nat.add_zero, dM_base_0, dM_base_1, dM_base_2, dM_base_4, dM_base_7, dM_base_10, dM_base_11, dM_base_12, dM_base_13, dM_base_14, dM_base_17, dM_base_18, xk_4_169, xf_4_97]
  refine hV.call [] xh_4_87 dM_base_4 (d_in S x 0 1048576 (a := 0) (b := 1048576) rfl rfl) (Or.inl rfl) rfl rfl (by decide) (by decide) (by decide) ?_
  rintro r S' ⟨rfl, rfl⟩
  by_cases hz : inR x 0 1048576 = true
  · rw [if_pos hz]
    refine xrun_ok hV [] 20 _ _ _ _ _ _ ?_
    simp (maxDischargeDepth := 60) only [xrun, xisc, ↓xstep, xget, xtgt, xcmp, xacmp, xprev, xisR, xnt, List.set, List.length, xsw, xlk, true_or, or_true, if_true, if_false, true_and, and_true, List.mem_cons, List.not_mem_nil, or_false, false_or, Bool.false_eq_true, reduceCtorEq, not_false_eq_true, forall_const, Nat.zero_add, Nat.reduceAdd, Nat.reduceSub, Int.reduceAdd, Int.reduceNeg, Int.reduceToNat, Nat.reduceEqDiff, Nat.reduceLT, Nat.reduceLeDiff, Int.reduceLE, Int.reduceLT, reduceIte, Int.cast_ofNat_Int, Int.natCast_zero, Int.natCast_one, Int.reduceAdd, eq_self, Int.reduceSub, List.length_cons, List.length_nil, xli_m1, xli_0, xli_1, xli_2, xli_3, xli_4, xli_5, xlb_8, xlb_12, xlb_31, xlb_32, xlb_64, xls_256, xls_513, xls_2048, xls_4096, xll_0, xll_1, xnr_i, xnr_0, xnr_1, xnr_ite, xft_i, xft_0, xft_1, xat_999, xat_1001, xat_1002, xat_1003, xat_2001, xat_2002, xat_2003, List.getElem?_cons_succ, List.getElem?_cons_zero, xfn_0, xfn_1, xfn_2, xfn_3, x10, x01, not_true_eq_false, false_implies, implies_true, true_implies, xrm_c, xrm_s, xnl_4, xnl_32, xnl_64, xnl_256, xtn_4, xtn_32, xtn_64, xtn_256, Option.some.injEq, Sum.inl.injEq, Sum.inr.injEq, exists_eq_left', exists_eq_right, Option.toList_some, Option.toList_none, List.cons_append, List.nil_append, xE, lg_cmp_ge, lg_cmp_le, lg_cmp_gt, lg_cmp_lt, lg_cmp_eq, Nat.le_refl, Nat.zero_le, ne_eq, Nat.add_zero, dM_base_0, dM_base_1, dM_base_2, dM_base_4, dM_base_7, dM_base_10, dM_base_11, dM_base_12, dM_base_13, dM_base_14, dM_base_17, dM_base_18, xk_4_169, xf_4_97, hmo]
    unfold oBase
    rw [if_pos hz]
    have hz' := inR_iff.mp hz
    have e : x.toNatClampNeg = x.toInt.toNat := rfl
    have g := h.ws (M' := mset M 0 0 x.toNatClampNeg) (f := 0) (x := x) rfl (mWF_base h.1 (by omega)) (fun i => by show x = nI (mset M 0 0 x.toNatClampNeg 0 0); rw [mset_eq, if_pos ⟨rfl, rfl⟩, nI_cl hz'.1]) (fun g j y hg hy => vOK_to hy (fun _ => rfl) (fun _ => rfl) (fun _ => rfl) (fun _ => rfl) (fun _ => by rw [mset_eq, if_neg (fun z => hg z.1)]) (by rw [mset_eq, if_neg (fun z => hg z.1)]))
    exact ⟨rfl, ⟨A, g⟩, xFr.sc h.2.1 _ _⟩
  · rw [if_neg hz]
    refine xrun_ok hV [] 20 _ _ _ _ _ _ ?_
    simp (maxDischargeDepth := 60) only [xrun, xisc, ↓xstep, xget, xtgt, xcmp, xacmp, xprev, xisR, xnt, List.set, List.length, xsw, xlk, true_or, or_true, if_true, if_false, true_and, and_true, List.mem_cons, List.not_mem_nil, or_false, false_or, Bool.false_eq_true, reduceCtorEq, not_false_eq_true, forall_const, Nat.zero_add, Nat.reduceAdd, Nat.reduceSub, Int.reduceAdd, Int.reduceNeg, Int.reduceToNat, Nat.reduceEqDiff, Nat.reduceLT, Nat.reduceLeDiff, Int.reduceLE, Int.reduceLT, reduceIte, Int.cast_ofNat_Int, Int.natCast_zero, Int.natCast_one, Int.reduceAdd, eq_self, Int.reduceSub, List.length_cons, List.length_nil, xli_m1, xli_0, xli_1, xli_2, xli_3, xli_4, xli_5, xlb_8, xlb_12, xlb_31, xlb_32, xlb_64, xls_256, xls_513, xls_2048, xls_4096, xll_0, xll_1, xnr_i, xnr_0, xnr_1, xnr_ite, xft_i, xft_0, xft_1, xat_999, xat_1001, xat_1002, xat_1003, xat_2001, xat_2002, xat_2003, List.getElem?_cons_succ, List.getElem?_cons_zero, xfn_0, xfn_1, xfn_2, xfn_3, x10, x01, not_true_eq_false, false_implies, implies_true, true_implies, xrm_c, xrm_s, xnl_4, xnl_32, xnl_64, xnl_256, xtn_4, xtn_32, xtn_64, xtn_256, Option.some.injEq, Sum.inl.injEq, Sum.inr.injEq, exists_eq_left', exists_eq_right, Option.toList_some, Option.toList_none, List.cons_append, List.nil_append, xE, lg_cmp_ge, lg_cmp_le, lg_cmp_gt, lg_cmp_lt, lg_cmp_eq, Nat.le_refl, Nat.zero_le, ne_eq, Nat.add_zero, dM_base_0, dM_base_1, dM_base_2, dM_base_4, dM_base_7, dM_base_10, dM_base_11, dM_base_12, dM_base_13, dM_base_14, dM_base_17, dM_base_18, xk_4_169, xf_4_97, hmo]
    unfold oBase
    rw [if_neg hz]
    exact ⟨rfl, ⟨A, h⟩, xFr.rf _ _⟩
set_option maxHeartbeats 4000000 in
set_option maxRecDepth 100000 in
theorem d_align (h : rFx S mo M) (x y : Int32) : xMet l D n0 mM_align 0 0 [.inr (.inr (some mo)), .inl x, .inl y] S (oN S mo (oAlign M x y)) := by
  obtain ⟨A, h⟩ := h
  have hmo := h.mo
  have r1 : xr S mo 1 = some (A 1) := h.ar 1 rfl
  have c1 : xc S (A 1) = 1002 := h.tg 1 rfl
  have l1 : xl S (A 1) = 4 := h.ln 1 rfl
  have n1 : (mo = A 1) = False := eq_false (fun e => h.nm (f := 1) rfl e.symm)
  refine xMet.of (k := mM_align) (own := 4) (ini := false) xm_M_align (by decide +kernel) (by decide +kernel) (by decide) (Nat.le_of_ble_eq_true rfl) ?_
  intro V hV
  show V 0 [some (.inr (.inr (some mo))), some (.inl x), some (.inl y)] [] S 0 0
  refine xrun_ok hV [] 20 _ _ _ _ _ _ ?_
  simp (maxDischargeDepth := 60) only [xrun, xisc, ↓xstep, xget, xtgt, xcmp, xacmp, xprev, xisR, xnt, List.set, List.length, xsw, xlk, true_or, or_true, if_true, if_false, true_and, and_true, List.mem_cons, List.not_mem_nil, or_false, false_or, Bool.false_eq_true, reduceCtorEq, not_false_eq_true, forall_const, Nat.zero_add, Nat.reduceAdd, Nat.reduceSub, Int.reduceAdd, Int.reduceNeg, Int.reduceToNat, Nat.reduceEqDiff, Nat.reduceLT, Nat.reduceLeDiff, Int.reduceLE, Int.reduceLT, reduceIte, Int.cast_ofNat_Int, Int.natCast_zero, Int.natCast_one, Int.reduceAdd, eq_self, Int.reduceSub, List.length_cons, List.length_nil, xli_m1, xli_0, xli_1, xli_2, xli_3, xli_4, xli_5, xlb_8, xlb_12, xlb_31, xlb_32, xlb_64, xls_256, xls_513, xls_2048, xls_4096, xll_0, xll_1, xnr_i, xnr_0, xnr_1, xnr_ite, xft_i, xft_0, xft_1, xat_999, xat_1001, xat_1002, xat_1003, xat_2001, xat_2002, xat_2003, List.getElem?_cons_succ, List.getElem?_cons_zero, xfn_0, xfn_1, xfn_2, xfn_3, x10, x01, not_true_eq_false, false_implies, implies_true, true_implies, xrm_c, xrm_s, xnl_4, xnl_32, xnl_64, xnl_256, xtn_4, xtn_32, xtn_64, xtn_256, Option.some.injEq, Sum.inl.injEq, Sum.inr.injEq, exists_eq_left', exists_eq_right, Option.toList_some, Option.toList_none, List.cons_append, List.nil_append, xE, lg_cmp_ge, lg_cmp_le, lg_cmp_gt, lg_cmp_lt, lg_cmp_eq, Nat.le_refl, Nat.zero_le, ne_eq, Nat.add_zero, dM_align_0, dM_align_1, dM_align_2, dM_align_3, dM_align_6, dM_align_9, dM_align_10, dM_align_11, dM_align_13, dM_align_16, dM_align_19, dM_align_20, dM_align_21, dM_align_22, dM_align_25, dM_align_26, dM_align_27, dM_align_28, dM_align_29, dM_align_30, dM_align_31, xf_4_7]
  refine hV.call [] xh_4_87 dM_align_3 (d_in S x 0 3 (a := 0) (b := 3) rfl rfl) (Or.inl rfl) rfl rfl (by decide) (by decide) (by decide) ?_
  rintro r S' ⟨rfl, rfl⟩
  by_cases hz : inR x 0 3 = true
  · rw [if_pos hz]
    refine xrun_ok hV [] 20 _ _ _ _ _ _ ?_
    simp (maxDischargeDepth := 60) only [xrun, xisc, ↓xstep, xget, xtgt, xcmp, xacmp, xprev, xisR, xnt, List.set, List.length, xsw, xlk, true_or, or_true, if_true, if_false, true_and, and_true, List.mem_cons, List.not_mem_nil, or_false, false_or, Bool.false_eq_true, reduceCtorEq, not_false_eq_true, forall_const, Nat.zero_add, Nat.reduceAdd, Nat.reduceSub, Int.reduceAdd, Int.reduceNeg, Int.reduceToNat, Nat.reduceEqDiff, Nat.reduceLT, Nat.reduceLeDiff, Int.reduceLE, Int.reduceLT, reduceIte, Int.cast_ofNat_Int, Int.natCast_zero, Int.natCast_one, Int.reduceAdd, eq_self, Int.reduceSub, List.length_cons, List.length_nil, xli_m1, xli_0, xli_1, xli_2, xli_3, xli_4, xli_5, xlb_8, xlb_12, xlb_31, xlb_32, xlb_64, xls_256, xls_513, xls_2048, xls_4096, xll_0, xll_1, xnr_i, xnr_0, xnr_1, xnr_ite, xft_i, xft_0, xft_1, xat_999, xat_1001, xat_1002, xat_1003, xat_2001, xat_2002, xat_2003, List.getElem?_cons_succ, List.getElem?_cons_zero, xfn_0, xfn_1, xfn_2, xfn_3, x10, x01, not_true_eq_false, false_implies, implies_true, true_implies, xrm_c, xrm_s, xnl_4, xnl_32, xnl_64, xnl_256, xtn_4, xtn_32, xtn_64, xtn_256, Option.some.injEq, Sum.inl.injEq, Sum.inr.injEq, exists_eq_left', exists_eq_right, Option.toList_some, Option.toList_none, List.cons_append, List.nil_append, xE, lg_cmp_ge, lg_cmp_le, lg_cmp_gt, lg_cmp_lt, lg_cmp_eq, Nat.le_refl, Nat.zero_le, ne_eq, Nat.add_zero, dM_align_0, dM_align_1, dM_align_2, dM_align_3, dM_align_6, dM_align_9, dM_align_10, dM_align_11, dM_align_13, dM_align_16, dM_align_19, dM_align_20, dM_align_21, dM_align_22, dM_align_25, dM_align_26, dM_align_27, dM_align_28, dM_align_29, dM_align_30, dM_align_31, xf_4_7]
    refine hV.call [] xh_4_87 dM_align_13 (d_in S' y 0 12 (a := 0) (b := 12) rfl rfl) (Or.inl rfl) rfl rfl (by decide) (by decide) (by decide) ?_
    rintro r S' ⟨rfl, rfl⟩
    by_cases hy : inR y 0 12 = true
    · rw [if_pos hy]
      refine xrun_ok hV [] 20 _ _ _ _ _ _ ?_
      simp (maxDischargeDepth := 60) only [xrun, xisc, ↓xstep, xget, xtgt, xcmp, xacmp, xprev, xisR, xnt, List.set, List.length, xsw, xlk, true_or, or_true, if_true, if_false, true_and, and_true, List.mem_cons, List.not_mem_nil, or_false, false_or, Bool.false_eq_true, reduceCtorEq, not_false_eq_true, forall_const, Nat.zero_add, Nat.reduceAdd, Nat.reduceSub, Int.reduceAdd, Int.reduceNeg, Int.reduceToNat, Nat.reduceEqDiff, Nat.reduceLT, Nat.reduceLeDiff, Int.reduceLE, Int.reduceLT, reduceIte, Int.cast_ofNat_Int, Int.natCast_zero, Int.natCast_one, Int.reduceAdd, eq_self, Int.reduceSub, List.length_cons, List.length_nil, xli_m1, xli_0, xli_1, xli_2, xli_3, xli_4, xli_5, xlb_8, xlb_12, xlb_31, xlb_32, xlb_64, xls_256, xls_513, xls_2048, xls_4096, xll_0, xll_1, xnr_i, xnr_0, xnr_1, xnr_ite, xft_i, xft_0, xft_1, xat_999, xat_1001, xat_1002, xat_1003, xat_2001, xat_2002, xat_2003, List.getElem?_cons_succ, List.getElem?_cons_zero, xfn_0, xfn_1, xfn_2, xfn_3, x10, x01, not_true_eq_false, false_implies, implies_true, true_implies, xrm_c, xrm_s, xnl_4, xnl_32, xnl_64, xnl_256, xtn_4, xtn_32, xtn_64, xtn_256, Option.some.injEq, Sum.inl.injEq, Sum.inr.injEq, exists_eq_left', exists_eq_right, Option.toList_some, Option.toList_none, List.cons_append, List.nil_append, xE, lg_cmp_ge, lg_cmp_le, lg_cmp_gt, lg_cmp_lt, lg_cmp_eq, Nat.le_refl, Nat.zero_le, ne_eq, Nat.add_zero, dM_align_0, dM_align_1, dM_align_2, dM_align_3, dM_align_6, dM_align_9, dM_align_10, dM_align_11, dM_align_13, dM_align_16, dM_align_19, dM_align_20, dM_align_21, dM_align_22, dM_align_25, dM_align_26, dM_align_27, dM_align_28, dM_align_29, dM_align_30, dM_align_31, xf_4_7, hmo, r1, c1, l1, n1]
      unfold oAlign
      rw [if_pos ⟨hz, hy⟩]
      have hz' := inR_iff.mp hz
      have hy' := inR_iff.mp hy
      have e : x.toNatClampNeg = x.toInt.toNat := rfl
      have e2 : y.toNatClampNeg = y.toInt.toNat := rfl
      have es : (1 : Int32) <<< (y &&& 31) = nI (2 ^ y.toNatClampNeg) := by
        have := xshl y.toNatClampNeg (by omega)
        rw [nI_cl hy'.1] at this
        exact this
      refine ⟨vp_in_iff.mpr ⟨hz'.1, by omega⟩, rfl, ⟨A, ?_⟩, xFr.ar h.2.1 (f := 1) rfl _ _⟩
      refine h.wr (M' := mset M 1 x.toNatClampNeg y.toNatClampNeg) (f := 1) rfl (mWF_align h.1 (by omega)) (fun _ => ?_) (fun g j y' hg hv => vOK_to hv (fun _ => rfl) (fun _ => rfl) (fun _ => rfl) (fun _ => rfl) (fun w => by rw [mset_eq, if_neg (fun z => by omega)]) (by rw [mset_eq, if_neg hg]))
      rw [es, mset_eq, if_pos ⟨rfl, rfl⟩]
    · rw [if_neg hy]
      refine xrun_ok hV [] 20 _ _ _ _ _ _ ?_
      simp (maxDischargeDepth := 60) only [xrun, xisc, ↓xstep, xget, xtgt, xcmp, xacmp, xprev, xisR, xnt, List.set, List.length, xsw, xlk, true_or, or_true, if_true, if_false, true_and, and_true, List.mem_cons, List.not_mem_nil, or_false, false_or, Bool.false_eq_true, reduceCtorEq, not_false_eq_true, forall_const, Nat.zero_add, Nat.reduceAdd, Nat.reduceSub, Int.reduceAdd, Int.reduceNeg, Int.reduceToNat, Nat.reduceEqDiff, Nat.reduceLT, Nat.reduceLeDiff, Int.reduceLE, Int.reduceLT, reduceIte, Int.cast_ofNat_Int, Int.natCast_zero, Int.natCast_one, Int.reduceAdd, eq_self, Int.reduceSub, List.length_cons, List.length_nil, xli_m1, xli_0, xli_1, xli_2, xli_3, xli_4, xli_5, xlb_8, xlb_12, xlb_31, xlb_32, xlb_64, xls_256, xls_513, xls_2048, xls_4096, xll_0, xll_1, xnr_i, xnr_0, xnr_1, xnr_ite, xft_i, xft_0, xft_1, xat_999, xat_1001, xat_1002, xat_1003, xat_2001, xat_2002, xat_2003, List.getElem?_cons_succ, List.getElem?_cons_zero, xfn_0, xfn_1, xfn_2, xfn_3, x10, x01, not_true_eq_false, false_implies, implies_true, true_implies, xrm_c, xrm_s, xnl_4, xnl_32, xnl_64, xnl_256, xtn_4, xtn_32, xtn_64, xtn_256, Option.some.injEq, Sum.inl.injEq, Sum.inr.injEq, exists_eq_left', exists_eq_right, Option.toList_some, Option.toList_none, List.cons_append, List.nil_append, xE, lg_cmp_ge, lg_cmp_le, lg_cmp_gt, lg_cmp_lt, lg_cmp_eq, Nat.le_refl, Nat.zero_le, ne_eq, Nat.add_zero, dM_align_0, dM_align_1, dM_align_2, dM_align_3, dM_align_6, dM_align_9, dM_align_10, dM_align_11, dM_align_13, dM_align_16, dM_align_19, dM_align_20, dM_align_21, dM_align_22, dM_align_25, dM_align_26, dM_align_27, dM_align_28, dM_align_29, dM_align_30, dM_align_31, xf_4_7]
      unfold oAlign
      rw [if_neg (fun q => hy q.2)]
      exact ⟨rfl, ⟨A, h⟩, xFr.rf _ _⟩
  · rw [if_neg hz]
    refine xrun_ok hV [] 20 _ _ _ _ _ _ ?_
    simp (maxDischargeDepth := 60) only [xrun, xisc, ↓xstep, xget, xtgt, xcmp, xacmp, xprev, xisR, xnt, List.set, List.length, xsw, xlk, true_or, or_true, if_true, if_false, true_and, and_true, List.mem_cons, List.not_mem_nil, or_false, false_or, Bool.false_eq_true, reduceCtorEq, not_false_eq_true, forall_const, Nat.zero_add, Nat.reduceAdd, Nat.reduceSub, Int.reduceAdd, Int.reduceNeg, Int.reduceToNat, Nat.reduceEqDiff, Nat.reduceLT, Nat.reduceLeDiff, Int.reduceLE, Int.reduceLT, reduceIte, Int.cast_ofNat_Int, Int.natCast_zero, Int.natCast_one, Int.reduceAdd, eq_self, Int.reduceSub, List.length_cons, List.length_nil, xli_m1, xli_0, xli_1, xli_2, xli_3, xli_4, xli_5, xlb_8, xlb_12, xlb_31, xlb_32, xlb_64, xls_256, xls_513, xls_2048, xls_4096, xll_0, xll_1, xnr_i, xnr_0, xnr_1, xnr_ite, xft_i, xft_0, xft_1, xat_999, xat_1001, xat_1002, xat_1003, xat_2001, xat_2002, xat_2003, List.getElem?_cons_succ, List.getElem?_cons_zero, xfn_0, xfn_1, xfn_2, xfn_3, x10, x01, not_true_eq_false, false_implies, implies_true, true_implies, xrm_c, xrm_s, xnl_4, xnl_32, xnl_64, xnl_256, xtn_4, xtn_32, xtn_64, xtn_256, Option.some.injEq, Sum.inl.injEq, Sum.inr.injEq, exists_eq_left', exists_eq_right, Option.toList_some, Option.toList_none, List.cons_append, List.nil_append, xE, lg_cmp_ge, lg_cmp_le, lg_cmp_gt, lg_cmp_lt, lg_cmp_eq, Nat.le_refl, Nat.zero_le, ne_eq, Nat.add_zero, dM_align_0, dM_align_1, dM_align_2, dM_align_3, dM_align_6, dM_align_9, dM_align_10, dM_align_11, dM_align_13, dM_align_16, dM_align_19, dM_align_20, dM_align_21, dM_align_22, dM_align_25, dM_align_26, dM_align_27, dM_align_28, dM_align_29, dM_align_30, dM_align_31, xf_4_7]
    unfold oAlign
    rw [if_neg (fun q => hz q.1)]
    exact ⟨rfl, ⟨A, h⟩, xFr.rf _ _⟩
set_option maxHeartbeats 4000000 in
set_option maxRecDepth 100000 in
theorem d_root (h : rFx S mo M) (x : Int32) {on : Nat} (ho : on ≤ 1) : xMet l D n0 mM_root 0 0 [.inr (.inr (some mo)), .inl x, .inl (nI on)] S (oN S mo (oRoot M x on)) := by
  obtain ⟨A, h⟩ := h
  have hmo := h.mo
  have r7 : xr S mo 7 = some (A 7) := h.ar 7 rfl
  have c7 : xc S (A 7) = 1003 := h.tg 7 rfl
  have l7 : xl S (A 7) = 32 := h.ln 7 rfl
  have n7 : (mo = A 7) = False := eq_false (fun e => h.nm (f := 7) rfl e.symm)
  refine xMet.of (k := mM_root) (own := 4) (ini := false) xm_M_root (by decide +kernel) (by decide +kernel) (by decide) (Nat.le_of_ble_eq_true rfl) ?_
  intro V hV
  show V 0 [some (.inr (.inr (some mo))), some (.inl x), some (.inl (nI on))] [] S 0 0
  refine xrun_ok hV [] 20 _ _ _ _ _ _ ?_
  simp (maxDischargeDepth := 60) only [xrun, xisc, ↓xstep, xget, xtgt, xcmp, xacmp, xprev, xisR, xnt, List.set, List.length, xsw, xlk, true_or, or_true, if_true, if_false, true_and, and_true, List.mem_cons, List.not_mem_nil, or_false, false_or, Bool.false_eq_true, reduceCtorEq, not_false_eq_true, forall_const, Nat.zero_add, Nat.reduceAdd, Nat.reduceSub, Int.reduceAdd, Int.reduceNeg, Int.reduceToNat, Nat.reduceEqDiff, Nat.reduceLT, Nat.reduceLeDiff, Int.reduceLE, Int.reduceLT, reduceIte, Int.cast_ofNat_Int, Int.natCast_zero, Int.natCast_one, Int.reduceAdd, eq_self, Int.reduceSub, List.length_cons, List.length_nil, xli_m1, xli_0, xli_1, xli_2, xli_3, xli_4, xli_5, xlb_8, xlb_12, xlb_31, xlb_32, xlb_64, xls_256, xls_513, xls_2048, xls_4096, xll_0, xll_1, xnr_i, xnr_0, xnr_1, xnr_ite, xft_i, xft_0, xft_1, xat_999, xat_1001, xat_1002, xat_1003, xat_2001, xat_2002, xat_2003, List.getElem?_cons_succ, List.getElem?_cons_zero, xfn_0, xfn_1, xfn_2, xfn_3, x10, x01, not_true_eq_false, false_implies, implies_true, true_implies, xrm_c, xrm_s, xnl_4, xnl_32, xnl_64, xnl_256, xtn_4, xtn_32, xtn_64, xtn_256, Option.some.injEq, Sum.inl.injEq, Sum.inr.injEq, exists_eq_left', exists_eq_right, Option.toList_some, Option.toList_none, List.cons_append, List.nil_append, xE, lg_cmp_ge, lg_cmp_le, lg_cmp_gt, lg_cmp_lt, lg_cmp_eq, Nat.le_refl, Nat.zero_le, ne_eq, Nat.add_zero, dM_root_0, dM_root_1, dM_root_2, dM_root_5, dM_root_8, dM_root_9, dM_root_12, dM_root_13, dM_root_14, dM_root_15, dM_root_18, dM_root_19, dM_root_20, dM_root_21, dM_root_24, dM_root_25, dM_root_26, dM_root_27, dM_root_28, xf_4_25]
  refine hV.call [] xh_4_154 dM_root_2 (d_isPart h x) (Or.inr ⟨_, _, rfl, fun _ => hmo⟩) rfl rfl (by decide) (by decide) (by decide) ?_
  rintro r S' ⟨rfl, rfl⟩
  by_cases hz : isP M x = true
  · rw [if_pos hz]
    have hz' := isP_iff.mp hz
    have hw := h.1.1.2.1
    have e : x.toNatClampNeg = x.toInt.toNat := rfl
    have hlt : x.toNatClampNeg < M 4 0 := by omega
    have v7 := h.v7 hlt
    have hb := nI_b ho
    have hm := (h.1.2.2.1 _ hlt).2.2.1
    have hnn := nI_eq (show M 7 x.toNatClampNeg < 2 ^ 31 by omega) (show on < 2 ^ 31 by omega)
    have hin : vp_in x 32 := vp_in_iff.mpr ⟨hz'.1, by omega⟩
    refine xrun_ok hV [] 20 _ _ _ _ _ _ ?_
    simp (maxDischargeDepth := 60) only [xrun, xisc, ↓xstep, xget, xtgt, xcmp, xacmp, xprev, xisR, xnt, List.set, List.length, xsw, xlk, true_or, or_true, if_true, if_false, true_and, and_true, List.mem_cons, List.not_mem_nil, or_false, false_or, Bool.false_eq_true, reduceCtorEq, not_false_eq_true, forall_const, Nat.zero_add, Nat.reduceAdd, Nat.reduceSub, Int.reduceAdd, Int.reduceNeg, Int.reduceToNat, Nat.reduceEqDiff, Nat.reduceLT, Nat.reduceLeDiff, Int.reduceLE, Int.reduceLT, reduceIte, Int.cast_ofNat_Int, Int.natCast_zero, Int.natCast_one, Int.reduceAdd, eq_self, Int.reduceSub, List.length_cons, List.length_nil, xli_m1, xli_0, xli_1, xli_2, xli_3, xli_4, xli_5, xlb_8, xlb_12, xlb_31, xlb_32, xlb_64, xls_256, xls_513, xls_2048, xls_4096, xll_0, xll_1, xnr_i, xnr_0, xnr_1, xnr_ite, xft_i, xft_0, xft_1, xat_999, xat_1001, xat_1002, xat_1003, xat_2001, xat_2002, xat_2003, List.getElem?_cons_succ, List.getElem?_cons_zero, xfn_0, xfn_1, xfn_2, xfn_3, x10, x01, not_true_eq_false, false_implies, implies_true, true_implies, xrm_c, xrm_s, xnl_4, xnl_32, xnl_64, xnl_256, xtn_4, xtn_32, xtn_64, xtn_256, Option.some.injEq, Sum.inl.injEq, Sum.inr.injEq, exists_eq_left', exists_eq_right, Option.toList_some, Option.toList_none, List.cons_append, List.nil_append, xE, lg_cmp_ge, lg_cmp_le, lg_cmp_gt, lg_cmp_lt, lg_cmp_eq, Nat.le_refl, Nat.zero_le, ne_eq, Nat.add_zero, dM_root_0, dM_root_1, dM_root_2, dM_root_5, dM_root_8, dM_root_9, dM_root_12, dM_root_13, dM_root_14, dM_root_15, dM_root_18, dM_root_19, dM_root_20, dM_root_21, dM_root_24, dM_root_25, dM_root_26, dM_root_27, dM_root_28, xf_4_25, hmo, r7, c7, l7, n7, v7, hb, hnn, hin]
    unfold oRoot
    refine ⟨fun q => ?_, fun q => ?_⟩
    · rw [if_pos ⟨hz, q⟩]
      refine ⟨rfl, ⟨A, ?_⟩, xFr.ar h.2.1 (f := 7) rfl _ _⟩
      refine h.wr (M' := mset M 7 x.toNatClampNeg on) (f := 7) rfl (mWF_root h.1 ho) ?_ (fun g j y' hg hv => vOK_to hv (fun _ => rfl) (fun _ => rfl) (fun _ => rfl) (fun _ => rfl) (fun w => by rw [mset_eq, if_neg (fun z => by omega)]) (by rw [mset_eq, if_neg hg]))
      show nI on = nI (if x.toNatClampNeg < M 4 0 then mset M 7 x.toNatClampNeg on 7 x.toNatClampNeg else 0)
      rw [if_pos hlt, mset_eq, if_pos ⟨rfl, rfl⟩]
    · rw [if_neg (fun z => z.2 q)]
      exact ⟨rfl, ⟨A, h⟩, xFr.rf _ _⟩
  · rw [if_neg hz]
    refine xrun_ok hV [] 20 _ _ _ _ _ _ ?_
    simp (maxDischargeDepth := 60) only [xrun, xisc, ↓xstep, xget, xtgt, xcmp, xacmp, xprev, xisR, xnt, List.set, List.length, xsw, xlk, true_or, or_true, if_true, if_false, true_and, and_true, List.mem_cons, List.not_mem_nil, or_false, false_or, Bool.false_eq_true, reduceCtorEq, not_false_eq_true, forall_const, Nat.zero_add, Nat.reduceAdd, Nat.reduceSub, Int.reduceAdd, Int.reduceNeg, Int.reduceToNat, Nat.reduceEqDiff, Nat.reduceLT, Nat.reduceLeDiff, Int.reduceLE, Int.reduceLT, reduceIte, Int.cast_ofNat_Int, Int.natCast_zero, Int.natCast_one, Int.reduceAdd, eq_self, Int.reduceSub, List.length_cons, List.length_nil, xli_m1, xli_0, xli_1, xli_2, xli_3, xli_4, xli_5, xlb_8, xlb_12, xlb_31, xlb_32, xlb_64, xls_256, xls_513, xls_2048, xls_4096, xll_0, xll_1, xnr_i, xnr_0, xnr_1, xnr_ite, xft_i, xft_0, xft_1, xat_999, xat_1001, xat_1002, xat_1003, xat_2001, xat_2002, xat_2003, List.getElem?_cons_succ, List.getElem?_cons_zero, xfn_0, xfn_1, xfn_2, xfn_3, x10, x01, not_true_eq_false, false_implies, implies_true, true_implies, xrm_c, xrm_s, xnl_4, xnl_32, xnl_64, xnl_256, xtn_4, xtn_32, xtn_64, xtn_256, Option.some.injEq, Sum.inl.injEq, Sum.inr.injEq, exists_eq_left', exists_eq_right, Option.toList_some, Option.toList_none, List.cons_append, List.nil_append, xE, lg_cmp_ge, lg_cmp_le, lg_cmp_gt, lg_cmp_lt, lg_cmp_eq, Nat.le_refl, Nat.zero_le, ne_eq, Nat.add_zero, dM_root_0, dM_root_1, dM_root_2, dM_root_5, dM_root_8, dM_root_9, dM_root_12, dM_root_13, dM_root_14, dM_root_15, dM_root_18, dM_root_19, dM_root_20, dM_root_21, dM_root_24, dM_root_25, dM_root_26, dM_root_27, dM_root_28, xf_4_25]
    unfold oRoot
    rw [if_neg (fun z => hz z.1)]
    exact ⟨rfl, ⟨A, h⟩, xFr.rf _ _⟩
theorem rF_part (h : rF S mo A M) {o b : Nat} (hn : M 4 0 < 32) (ho : o ≤ 3) (hb : b ≤ 12) : rF (xpi (xpi (xpi S (A 5) (M 4 0) (nI o)) (A 6) (M 4 0) (nI (2 ^ b))) mo 4 (nI (M 4 0 + 1))) mo A (mpart M o b) := by
  refine ⟨mWF_part h.1 hn ho hb, h.2.1, fun g j => ?_⟩
  rw [xW_s (f := 4) ((h.2.1.pi _ _ _).pi _ _ _) rfl, xW_a (f := 6) (h.2.1.pi _ _ _) rfl, xW_a (f := 5) h.2.1 rfl]
  have hv := h.v g j
  generalize xW S mo A g j = w at hv ⊢
  by_cases g4 : g = 4
  · subst g4; rw [if_pos rfl]; show _ = nI (mpart M o b 4 0); rw [mpart_4]
  rw [if_neg g4]
  by_cases g5 : g = 5
  · subst g5
    rw [if_neg (by simp)]
    show j < mpart M o b 4 0 → _ = nI (mpart M o b 5 j)
    rw [mpart_4]
    intro hj
    by_cases e : j = M 4 0
    · rw [if_pos ⟨rfl, e⟩, e, mpart_5]
    · rw [if_neg (fun z => e z.2), mpart_o _ _ _ _ _ (by omega) (by decide)]; exact hv (by omega)
  by_cases g6 : g = 6
  · subst g6
    show j < mpart M o b 4 0 → _ = nI (2 ^ mpart M o b 6 j)
    rw [mpart_4]
    intro hj
    by_cases e : j = M 4 0
    · rw [if_pos ⟨rfl, e⟩, e, mpart_6]
    · rw [if_neg (fun z => e z.2), if_neg (by simp), mpart_o _ _ _ _ _ (by omega) (by decide)]; exact hv (by omega)
  rw [if_neg (fun z => g6 z.1), if_neg (fun z => g5 z.1)]
  by_cases g7 : g = 7
  · subst g7
    show w = nI (if j < mpart M o b 4 0 then mpart M o b 7 j else 0)
    have hv' : w = nI (if j < M 4 0 then M 7 j else 0) := hv
    rw [hv', mpart_4]
    by_cases e : j < M 4 0
    · rw [if_pos e, if_pos (by omega), mpart_o _ _ _ _ _ e (by decide)]
    · rw [if_neg e]
      by_cases e2 : j = M 4 0
      · rw [if_pos (by omega), e2, mpart_7]
      · rw [if_neg (by omega)]
  by_cases g8 : g = 8
  · subst g8
    show w = nI (if j < mpart M o b 4 0 then mpart M o b 8 j else 0)
    have hv' : w = nI (if j < M 4 0 then M 8 j else 0) := hv
    rw [hv', mpart_4]
    by_cases e : j < M 4 0
    · rw [if_pos e, if_pos (by omega), mpart_o _ _ _ _ _ e (by decide)]
    · rw [if_neg e]
      by_cases e2 : j = M 4 0
      · rw [if_pos (by omega), e2, mpart_8]
      · rw [if_neg (by omega)]
  have hf : ∀ i, mpart M o b g i = M g i := fun i => mpart_f _ _ _ _ _ ⟨g4, g5, g6, g7, g8⟩
  exact vOK_to hv (fun z => by omega) (fun _ => mpart_f _ _ _ _ _ (by decide)) (fun _ => mpart_f _ _ _ _ _ (by decide)) (fun _ => mpart_f _ _ _ _ _ (by decide)) (fun _ => hf 0) (hf j)
set_option maxHeartbeats 4000000 in
set_option maxRecDepth 100000 in
theorem d_part (h : rFx S mo M) (x y : Int32) : xMet l D n0 mM_part 0 0 [.inr (.inr (some mo)), .inl x, .inl y] S (oN S mo (oPart M x y)) := by
  obtain ⟨A, h⟩ := h
  have hmo := h.mo
  have hs := h.s4
  have hw := h.1.1.2.1
  have e32 : (nI (M 4 0) = 32) = (M 4 0 = 32) := propext (nI_eq (b := 32) (by omega) (by decide))
  have r5 : xr S mo 5 = some (A 5) := h.ar 5 rfl
  have c5 : xc S (A 5) = 1002 := h.tg 5 rfl
  have l5 : xl S (A 5) = 32 := h.ln 5 rfl
  have n5 : (mo = A 5) = False := eq_false (fun e => h.nm (f := 5) rfl e.symm)
  have r6 : xr S mo 6 = some (A 6) := h.ar 6 rfl
  have c6 : xc S (A 6) = 1002 := h.tg 6 rfl
  have l6 : xl S (A 6) = 32 := h.ln 6 rfl
  have n6 : (mo = A 6) = False := eq_false (fun e => h.nm (f := 6) rfl e.symm)
  refine xMet.of (k := mM_part) (own := 4) (ini := false) xm_M_part (by decide +kernel) (by decide +kernel) (by decide) (Nat.le_of_ble_eq_true rfl) ?_
  intro V hV
  show V 0 [some (.inr (.inr (some mo))), some (.inl x), some (.inl y)] [] S 0 0
  refine xrun_ok hV [] 20 _ _ _ _ _ _ ?_
  simp (maxDischargeDepth := 60) only [xrun, xisc, ↓xstep, xget, xtgt, xcmp, xacmp, xprev, xisR, xnt, List.set, List.length, xsw, xlk, true_or, or_true, if_true, if_false, true_and, and_true, List.mem_cons, List.not_mem_nil, or_false, false_or, Bool.false_eq_true, reduceCtorEq, not_false_eq_true, forall_const, Nat.zero_add, Nat.reduceAdd, Nat.reduceSub, Int.reduceAdd, Int.reduceNeg, Int.reduceToNat, Nat.reduceEqDiff, Nat.reduceLT, Nat.reduceLeDiff, Int.reduceLE, Int.reduceLT, reduceIte, Int.cast_ofNat_Int, Int.natCast_zero, Int.natCast_one, Int.reduceAdd, eq_self, Int.reduceSub, List.length_cons, List.length_nil, xli_m1, xli_0, xli_1, xli_2, xli_3, xli_4, xli_5, xlb_8, xlb_12, xlb_31, xlb_32, xlb_64, xls_256, xls_513, xls_2048, xls_4096, xll_0, xll_1, xnr_i, xnr_0, xnr_1, xnr_ite, xft_i, xft_0, xft_1, xat_999, xat_1001, xat_1002, xat_1003, xat_2001, xat_2002, xat_2003, List.getElem?_cons_succ, List.getElem?_cons_zero, xfn_0, xfn_1, xfn_2, xfn_3, x10, x01, not_true_eq_false, false_implies, implies_true, true_implies, xrm_c, xrm_s, xnl_4, xnl_32, xnl_64, xnl_256, xtn_4, xtn_32, xtn_64, xtn_256, Option.some.injEq, Sum.inl.injEq, Sum.inr.injEq, exists_eq_left', exists_eq_right, Option.toList_some, Option.toList_none, List.cons_append, List.nil_append, xE, lg_cmp_ge, lg_cmp_le, lg_cmp_gt, lg_cmp_lt, lg_cmp_eq, Nat.le_refl, Nat.zero_le, ne_eq, Nat.add_zero, dM_part_0, dM_part_1, dM_part_4, dM_part_6, dM_part_9, dM_part_10, dM_part_11, dM_part_12, dM_part_15, dM_part_18, dM_part_19, dM_part_20, dM_part_22, dM_part_25, dM_part_28, dM_part_29, dM_part_30, dM_part_31, dM_part_34, dM_part_35, dM_part_38, dM_part_39, dM_part_40, dM_part_41, dM_part_44, dM_part_45, dM_part_48, dM_part_49, dM_part_50, dM_part_51, dM_part_52, dM_part_53, dM_part_54, dM_part_57, dM_part_58, dM_part_59, dM_part_62, dM_part_63, dM_part_66, dM_part_67, dM_part_68, xf_4_83, xf_4_19, xf_4_22, hmo, hs, e32]
  refine ⟨fun z => ?_, fun z => ?_⟩
  · unfold oPart
    rw [if_neg (by omega)]
    exact ⟨rfl, ⟨A, h⟩, xFr.rf _ _⟩
  refine hV.call [] xh_4_87 dM_part_12 (d_in S x 0 3 (a := 0) (b := 3) rfl rfl) (Or.inl rfl) rfl rfl (by decide) (by decide) (by decide) ?_
  rintro r S' ⟨rfl, rfl⟩
  by_cases hz : inR x 0 3 = true
  · rw [if_pos hz]
    refine xrun_ok hV [] 20 _ _ _ _ _ _ ?_
    simp (maxDischargeDepth := 60) only [xrun, xisc, ↓xstep, xget, xtgt, xcmp, xacmp, xprev, xisR, xnt, List.set, List.length, xsw, xlk, true_or, or_true, if_true, if_false, true_and, and_true, List.mem_cons, List.not_mem_nil, or_false, false_or, Bool.false_eq_true, reduceCtorEq, not_false_eq_true, forall_const, Nat.zero_add, Nat.reduceAdd, Nat.reduceSub, Int.reduceAdd, Int.reduceNeg, Int.reduceToNat, Nat.reduceEqDiff, Nat.reduceLT, Nat.reduceLeDiff, Int.reduceLE, Int.reduceLT, reduceIte, Int.cast_ofNat_Int, Int.natCast_zero, Int.natCast_one, Int.reduceAdd, eq_self, Int.reduceSub, List.length_cons, List.length_nil, xli_m1, xli_0, xli_1, xli_2, xli_3, xli_4, xli_5, xlb_8, xlb_12, xlb_31, xlb_32, xlb_64, xls_256, xls_513, xls_2048, xls_4096, xll_0, xll_1, xnr_i, xnr_0, xnr_1, xnr_ite, xft_i, xft_0, xft_1, xat_999, xat_1001, xat_1002, xat_1003, xat_2001, xat_2002, xat_2003, List.getElem?_cons_succ, List.getElem?_cons_zero, xfn_0, xfn_1, xfn_2, xfn_3, x10, x01, not_true_eq_false, false_implies, implies_true, true_implies, xrm_c, xrm_s, xnl_4, xnl_32, xnl_64, xnl_256, xtn_4, xtn_32, xtn_64, xtn_256, Option.some.injEq, Sum.inl.injEq, Sum.inr.injEq, exists_eq_left', exists_eq_right, Option.toList_some, Option.toList_none, List.cons_append, List.nil_append, xE, lg_cmp_ge, lg_cmp_le, lg_cmp_gt, lg_cmp_lt, lg_cmp_eq, Nat.le_refl, Nat.zero_le, ne_eq, Nat.add_zero, dM_part_0, dM_part_1, dM_part_4, dM_part_6, dM_part_9, dM_part_10, dM_part_11, dM_part_12, dM_part_15, dM_part_18, dM_part_19, dM_part_20, dM_part_22, dM_part_25, dM_part_28, dM_part_29, dM_part_30, dM_part_31, dM_part_34, dM_part_35, dM_part_38, dM_part_39, dM_part_40, dM_part_41, dM_part_44, dM_part_45, dM_part_48, dM_part_49, dM_part_50, dM_part_51, dM_part_52, dM_part_53, dM_part_54, dM_part_57, dM_part_58, dM_part_59, dM_part_62, dM_part_63, dM_part_66, dM_part_67, dM_part_68, xf_4_83, xf_4_19, xf_4_22]
    refine hV.call [] xh_4_87 dM_part_22 (d_in S' y 0 12 (a := 0) (b := 12) rfl rfl) (Or.inl rfl) rfl rfl (by decide) (by decide) (by decide) ?_
    rintro r S' ⟨rfl, rfl⟩
    by_cases hy : inR y 0 12 = true
    · rw [if_pos hy]
      have hz' := inR_iff.mp hz
      have hy' := inR_iff.mp hy
      have e : x.toNatClampNeg = x.toInt.toNat := rfl
      have e2 : y.toNatClampNeg = y.toInt.toNat := rfl
      have es : (1 : Int32) <<< (y &&& 31) = nI (2 ^ y.toNatClampNeg) := by
        have := xshl y.toNatClampNeg (by omega)
        rw [nI_cl hy'.1] at this
        exact this
      have e0 : (nI (M 4 0)).toNatClampNeg = M 4 0 := nI_clamp (by omega)
      have hin : vp_in (nI (M 4 0)) 32 := vp_in_nI (by omega) (by decide)
      refine xrun_ok hV [] 40 _ _ _ _ _ _ ?_
      simp (maxDischargeDepth := 60) only [xrun, xisc, ↓xstep, xget, xtgt, xcmp, xacmp, xprev, xisR, xnt, List.set, List.length, xsw, xlk, true_or, or_true, if_true, if_false, true_and, and_true, List.mem_cons, List.not_mem_nil, or_false, false_or, Bool.false_eq_true, reduceCtorEq, not_false_eq_true, forall_const, Nat.zero_add, Nat.reduceAdd, Nat.reduceSub, Int.reduceAdd, Int.reduceNeg, Int.reduceToNat, Nat.reduceEqDiff, Nat.reduceLT, Nat.reduceLeDiff, Int.reduceLE, Int.reduceLT, reduceIte, Int.cast_ofNat_Int, Int.natCast_zero, Int.natCast_one, Int.reduceAdd, eq_self, Int.reduceSub, List.length_cons, List.length_nil, xli_m1, xli_0, xli_1, xli_2, xli_3, xli_4, xli_5, xlb_8, xlb_12, xlb_31, xlb_32, xlb_64, xls_256, xls_513, xls_2048, xls_4096, xll_0, xll_1, xnr_i, xnr_0, xnr_1, xnr_ite, xft_i, xft_0, xft_1, xat_999, xat_1001, xat_1002, xat_1003, xat_2001, xat_2002, xat_2003, List.getElem?_cons_succ, List.getElem?_cons_zero, xfn_0, xfn_1, xfn_2, xfn_3, x10, x01, not_true_eq_false, false_implies, implies_true, true_implies, xrm_c, xrm_s, xnl_4, xnl_32, xnl_64, xnl_256, xtn_4, xtn_32, xtn_64, xtn_256, Option.some.injEq, Sum.inl.injEq, Sum.inr.injEq, exists_eq_left', exists_eq_right, Option.toList_some, Option.toList_none, List.cons_append, List.nil_append, xE, lg_cmp_ge, lg_cmp_le, lg_cmp_gt, lg_cmp_lt, lg_cmp_eq, Nat.le_refl, Nat.zero_le, ne_eq, Nat.add_zero, dM_part_0, dM_part_1, dM_part_4, dM_part_6, dM_part_9, dM_part_10, dM_part_11, dM_part_12, dM_part_15, dM_part_18, dM_part_19, dM_part_20, dM_part_22, dM_part_25, dM_part_28, dM_part_29, dM_part_30, dM_part_31, dM_part_34, dM_part_35, dM_part_38, dM_part_39, dM_part_40, dM_part_41, dM_part_44, dM_part_45, dM_part_48, dM_part_49, dM_part_50, dM_part_51, dM_part_52, dM_part_53, dM_part_54, dM_part_57, dM_part_58, dM_part_59, dM_part_62, dM_part_63, dM_part_66, dM_part_67, dM_part_68, xf_4_83, xf_4_19, xf_4_22, hmo, hs, r5, c5, l5, n5, r6, c6, l6, n6, hin, e0, es, xi_pi, xr_pi, xc_pi, xl_pi, false_and, nI_1]
      have g := rF_part h (o := x.toNatClampNeg) (b := y.toNatClampNeg) (by omega) (by omega) (by omega)
      rw [nI_cl hz'.1] at g
      unfold oPart
      rw [if_pos ⟨by omega, hz, hy⟩]
      exact ⟨by rw [nI_pred], ⟨A, g⟩, ((xFr.ar h.2.1 (f := 5) rfl _ _).tr (xFr.ar (h.2.1.pi _ _ _) (f := 6) rfl _ _)).tr (xFr.sc ((h.2.1.pi _ _ _).pi _ _ _) _ _)⟩
    · rw [if_neg hy]
      refine xrun_ok hV [] 20 _ _ _ _ _ _ ?_
      simp (maxDischargeDepth := 60) only [xrun, xisc, ↓xstep, xget, xtgt, xcmp, xacmp, xprev, xisR, xnt, List.set, List.length, xsw, xlk, true_or, or_true, if_true, if_false, true_and, and_true, List.mem_cons, List.not_mem_nil, or_false, false_or, Bool.false_eq_true, reduceCtorEq, not_false_eq_true, forall_const, Nat.zero_add, Nat.reduceAdd, Nat.reduceSub, Int.reduceAdd, Int.reduceNeg, Int.reduceToNat, Nat.reduceEqDiff, Nat.reduceLT, Nat.reduceLeDiff, Int.reduceLE, Int.reduceLT, reduceIte, Int.cast_ofNat_Int, Int.natCast_zero, Int.natCast_one, Int.reduceAdd, eq_self, Int.reduceSub, List.length_cons, List.length_nil, xli_m1, xli_0, xli_1, xli_2, xli_3, xli_4, xli_5, xlb_8, xlb_12, xlb_31, xlb_32, xlb_64, xls_256, xls_513, xls_2048, xls_4096, xll_0, xll_1, xnr_i, xnr_0, xnr_1, xnr_ite, xft_i, xft_0, xft_1, xat_999, xat_1001, xat_1002, xat_1003, xat_2001, xat_2002, xat_2003, List.getElem?_cons_succ, List.getElem?_cons_zero, xfn_0, xfn_1, xfn_2, xfn_3, x10, x01, not_true_eq_false, false_implies, implies_true, true_implies, xrm_c, xrm_s, xnl_4, xnl_32, xnl_64, xnl_256, xtn_4, xtn_32, xtn_64, xtn_256, Option.some.injEq, Sum.inl.injEq, Sum.inr.injEq, exists_eq_left', exists_eq_right, Option.toList_some, Option.toList_none, List.cons_append, List.nil_append, xE, lg_cmp_ge, lg_cmp_le, lg_cmp_gt, lg_cmp_lt, lg_cmp_eq, Nat.le_refl, Nat.zero_le, ne_eq, Nat.add_zero, dM_part_0, dM_part_1, dM_part_4, dM_part_6, dM_part_9, dM_part_10, dM_part_11, dM_part_12, dM_part_15, dM_part_18, dM_part_19, dM_part_20, dM_part_22, dM_part_25, dM_part_28, dM_part_29, dM_part_30, dM_part_31, dM_part_34, dM_part_35, dM_part_38, dM_part_39, dM_part_40, dM_part_41, dM_part_44, dM_part_45, dM_part_48, dM_part_49, dM_part_50, dM_part_51, dM_part_52, dM_part_53, dM_part_54, dM_part_57, dM_part_58, dM_part_59, dM_part_62, dM_part_63, dM_part_66, dM_part_67, dM_part_68, xf_4_83, xf_4_19, xf_4_22]
      unfold oPart
      rw [if_neg (fun q => hy q.2.2)]
      exact ⟨rfl, ⟨A, h⟩, xFr.rf _ _⟩
  · rw [if_neg hz]
    refine xrun_ok hV [] 20 _ _ _ _ _ _ ?_
    simp (maxDischargeDepth := 60) only [xrun, xisc, ↓xstep, xget, xtgt, xcmp, xacmp, xprev, xisR, xnt, List.set, List.length, xsw, xlk, true_or, or_true, if_true, if_false, true_and, and_true, List.mem_cons, List.not_mem_nil, or_false, false_or, Bool.false_eq_true, reduceCtorEq, not_false_eq_true, forall_const, Nat.zero_add, Nat.reduceAdd, Nat.reduceSub, Int.reduceAdd, Int.reduceNeg, Int.reduceToNat, Nat.reduceEqDiff, Nat.reduceLT, Nat.reduceLeDiff, Int.reduceLE, Int.reduceLT, reduceIte, Int.cast_ofNat_Int, Int.natCast_zero, Int.natCast_one, Int.reduceAdd, eq_self, Int.reduceSub, List.length_cons, List.length_nil, xli_m1, xli_0, xli_1, xli_2, xli_3, xli_4, xli_5, xlb_8, xlb_12, xlb_31, xlb_32, xlb_64, xls_256, xls_513, xls_2048, xls_4096, xll_0, xll_1, xnr_i, xnr_0, xnr_1, xnr_ite, xft_i, xft_0, xft_1, xat_999, xat_1001, xat_1002, xat_1003, xat_2001, xat_2002, xat_2003, List.getElem?_cons_succ, List.getElem?_cons_zero, xfn_0, xfn_1, xfn_2, xfn_3, x10, x01, not_true_eq_false, false_implies, implies_true, true_implies, xrm_c, xrm_s, xnl_4, xnl_32, xnl_64, xnl_256, xtn_4, xtn_32, xtn_64, xtn_256, Option.some.injEq, Sum.inl.injEq, Sum.inr.injEq, exists_eq_left', exists_eq_right, Option.toList_some, Option.toList_none, List.cons_append, List.nil_append, xE, lg_cmp_ge, lg_cmp_le, lg_cmp_gt, lg_cmp_lt, lg_cmp_eq, Nat.le_refl, Nat.zero_le, ne_eq, Nat.add_zero, dM_part_0, dM_part_1, dM_part_4, dM_part_6, dM_part_9, dM_part_10, dM_part_11, dM_part_12, dM_part_15, dM_part_18, dM_part_19, dM_part_20, dM_part_22, dM_part_25, dM_part_28, dM_part_29, dM_part_30, dM_part_31, dM_part_34, dM_part_35, dM_part_38, dM_part_39, dM_part_40, dM_part_41, dM_part_44, dM_part_45, dM_part_48, dM_part_49, dM_part_50, dM_part_51, dM_part_52, dM_part_53, dM_part_54, dM_part_57, dM_part_58, dM_part_59, dM_part_62, dM_part_63, dM_part_66, dM_part_67, dM_part_68, xf_4_83, xf_4_19, xf_4_22]
    unfold oPart
    rw [if_neg (fun q => hz q.2.1)]
    exact ⟨rfl, ⟨A, h⟩, xFr.rf _ _⟩
theorem rF_lab (h : rF S mo A M) (hn : M 25 0 < 64) : rF (xpi (xpi S (A 26) (M 25 0) (-1)) mo 25 (nI (M 25 0 + 1))) mo A (mlab M) := by
  refine ⟨mWF_lab h.1 hn, h.2.1, fun g j => ?_⟩
  rw [xW_s (f := 25) (h.2.1.pi _ _ _) rfl, xW_a (f := 26) h.2.1 rfl]
  have hv := h.v g j
  generalize xW S mo A g j = w at hv ⊢
  by_cases g4 : g = 25
  · subst g4; rw [if_pos rfl]; show _ = nI (mlab M 25 0); rw [mlab_25]
  rw [if_neg g4]
  by_cases g5 : g = 26
  · subst g5
    show j < mlab M 25 0 → _ = nI (mlab M 26 j) - 1
    rw [mlab_25]
    intro hj
    by_cases e : j = M 25 0
    · rw [if_pos ⟨rfl, e⟩, e, mlab_26]; decide
    · rw [if_neg (fun z => e z.2), mlab_o _ _ _ (by omega) (by decide)]; exact hv (by omega)
  rw [if_neg (fun z => g5 z.1)]
  by_cases g7 : g = 27
  · subst g7
    show w = nI (if j < mlab M 25 0 then mlab M 27 j else 0)
    have hv' : w = nI (if j < M 25 0 then M 27 j else 0) := hv
    rw [hv', mlab_25]
    by_cases e : j < M 25 0
    · rw [if_pos e, if_pos (by omega), mlab_o _ _ _ e (by decide)]
    · rw [if_neg e]
      by_cases e2 : j = M 25 0
      · rw [if_pos (by omega), e2, mlab_27]
      · rw [if_neg (by omega)]
  have hf : ∀ i, mlab M g i = M g i := fun i => mlab_f _ _ _ ⟨g4, g5, g7⟩
  exact vOK_to hv (fun z => mlab_f _ _ _ (by decide)) (fun _ => mlab_f _ _ _ (by decide)) (fun z => by omega) (fun _ => mlab_f _ _ _ (by decide)) (fun _ => hf 0) (hf j)
set_option maxHeartbeats 4000000 in
set_option maxRecDepth 100000 in
theorem d_label (h : rFx S mo M) : xMet l D n0 mM_label 0 0 [.inr (.inr (some mo))] S (oN S mo (oLabel M)) := by
  obtain ⟨A, h⟩ := h
  have hmo := h.mo
  have hs := h.s25
  have hw := h.1.1.2.2.2
  have e64 : (nI (M 25 0) = 64) = (M 25 0 = 64) := propext (nI_eq (b := 64) (by omega) (by decide))
  have r26 : xr S mo 26 = some (A 26) := h.ar 26 rfl
  have c26 : xc S (A 26) = 1002 := h.tg 26 rfl
  have l26 : xl S (A 26) = 64 := h.ln 26 rfl
  have n26 : (mo = A 26) = False := eq_false (fun e => h.nm (f := 26) rfl e.symm)
  refine xMet.of (k := mM_label) (own := 4) (ini := false) xm_M_label (by decide +kernel) (by decide +kernel) (by decide) (Nat.le_of_ble_eq_true rfl) ?_
  intro V hV
  show V 0 [some (.inr (.inr (some mo)))] [] S 0 0
  by_cases z : M 25 0 = 64
  · have e65 : (nI (M 25 0) = 64) = True := by rw [e64]; simp [z]
    refine xrun_ok hV [] 20 _ _ _ _ _ _ ?_
    simp (maxDischargeDepth := 60) only [xrun, xisc, ↓xstep, xget, xtgt, xcmp, xacmp, xprev, xisR, xnt, List.set, List.length, xsw, xlk, true_or, or_true, if_true, if_false, true_and, and_true, List.mem_cons, List.not_mem_nil, or_false, false_or, Bool.false_eq_true, reduceCtorEq, not_false_eq_true, forall_const, Nat.zero_add, Nat.reduceAdd, Nat.reduceSub, Int.reduceAdd, Int.reduceNeg, Int.reduceToNat, Nat.reduceEqDiff, Nat.reduceLT, Nat.reduceLeDiff, Int.reduceLE, Int.reduceLT, reduceIte, Int.cast_ofNat_Int, Int.natCast_zero, Int.natCast_one, Int.reduceAdd, eq_self, Int.reduceSub, List.length_cons, List.length_nil, xli_m1, xli_0, xli_1, xli_2, xli_3, xli_4, xli_5, xlb_8, xlb_12, xlb_31, xlb_32, xlb_64, xls_256, xls_513, xls_2048, xls_4096, xll_0, xll_1, xnr_i, xnr_0, xnr_1, xnr_ite, xft_i, xft_0, xft_1, xat_999, xat_1001, xat_1002, xat_1003, xat_2001, xat_2002, xat_2003, List.getElem?_cons_succ, List.getElem?_cons_zero, xfn_0, xfn_1, xfn_2, xfn_3, x10, x01, not_true_eq_false, false_implies, implies_true, true_implies, xrm_c, xrm_s, xnl_4, xnl_32, xnl_64, xnl_256, xtn_4, xtn_32, xtn_64, xtn_256, Option.some.injEq, Sum.inl.injEq, Sum.inr.injEq, exists_eq_left', exists_eq_right, Option.toList_some, Option.toList_none, List.cons_append, List.nil_append, xE, lg_cmp_ge, lg_cmp_le, lg_cmp_gt, lg_cmp_lt, lg_cmp_eq, Nat.le_refl, Nat.zero_le, ne_eq, Nat.add_zero, dM_label_0, dM_label_1, dM_label_4, dM_label_6, dM_label_9, dM_label_10, dM_label_11, dM_label_12, dM_label_15, dM_label_16, dM_label_19, dM_label_20, dM_label_21, dM_label_22, dM_label_23, dM_label_26, dM_label_27, dM_label_28, dM_label_31, dM_label_32, dM_label_35, dM_label_36, dM_label_37, xf_4_94, xf_4_77, hmo, hs, e65]
    unfold oLabel
    rw [if_neg (by omega)]
    exact ⟨rfl, ⟨A, h⟩, xFr.rf _ _⟩
  · have e0 : (nI (M 25 0)).toNatClampNeg = M 25 0 := nI_clamp (by omega)
    have hin : vp_in (nI (M 25 0)) 64 := vp_in_nI (by omega) (by decide)
    refine xrun_ok hV [] 40 _ _ _ _ _ _ ?_
    simp (maxDischargeDepth := 60) only [xrun, xisc, ↓xstep, xget, xtgt, xcmp, xacmp, xprev, xisR, xnt, List.set, List.length, xsw, xlk, true_or, or_true, if_true, if_false, true_and, and_true, List.mem_cons, List.not_mem_nil, or_false, false_or, Bool.false_eq_true, reduceCtorEq, not_false_eq_true, forall_const, Nat.zero_add, Nat.reduceAdd, Nat.reduceSub, Int.reduceAdd, Int.reduceNeg, Int.reduceToNat, Nat.reduceEqDiff, Nat.reduceLT, Nat.reduceLeDiff, Int.reduceLE, Int.reduceLT, reduceIte, Int.cast_ofNat_Int, Int.natCast_zero, Int.natCast_one, Int.reduceAdd, eq_self, Int.reduceSub, List.length_cons, List.length_nil, xli_m1, xli_0, xli_1, xli_2, xli_3, xli_4, xli_5, xlb_8, xlb_12, xlb_31, xlb_32, xlb_64, xls_256, xls_513, xls_2048, xls_4096, xll_0, xll_1, xnr_i, xnr_0, xnr_1, xnr_ite, xft_i, xft_0, xft_1, xat_999, xat_1001, xat_1002, xat_1003, xat_2001, xat_2002, xat_2003, List.getElem?_cons_succ, List.getElem?_cons_zero, xfn_0, xfn_1, xfn_2, xfn_3, x10, x01, not_true_eq_false, false_implies, implies_true, true_implies, xrm_c, xrm_s, xnl_4, xnl_32, xnl_64, xnl_256, xtn_4, xtn_32, xtn_64, xtn_256, Option.some.injEq, Sum.inl.injEq, Sum.inr.injEq, exists_eq_left', exists_eq_right, Option.toList_some, Option.toList_none, List.cons_append, List.nil_append, xE, lg_cmp_ge, lg_cmp_le, lg_cmp_gt, lg_cmp_lt, lg_cmp_eq, Nat.le_refl, Nat.zero_le, ne_eq, Nat.add_zero, dM_label_0, dM_label_1, dM_label_4, dM_label_6, dM_label_9, dM_label_10, dM_label_11, dM_label_12, dM_label_15, dM_label_16, dM_label_19, dM_label_20, dM_label_21, dM_label_22, dM_label_23, dM_label_26, dM_label_27, dM_label_28, dM_label_31, dM_label_32, dM_label_35, dM_label_36, dM_label_37, xf_4_94, xf_4_77, hmo, hs, e64, z, r26, c26, l26, n26, hin, e0, xi_pi, xr_pi, xc_pi, xl_pi, false_and, nI_1]
    unfold oLabel
    rw [if_pos (by omega)]
    exact ⟨by rw [nI_pred], ⟨A, rF_lab h (by omega)⟩, (xFr.ar h.2.1 (f := 26) rfl _ _).tr (xFr.sc (h.2.1.pi _ _ _) _ _)⟩
set_option maxHeartbeats 4000000 in
set_option maxRecDepth 100000 in
theorem d_put (h : rFx S mo M) (y x a : Int32) : xMet l D n0 mM_put 0 0 [.inr (.inr (some mo)), .inl y, .inl x, .inl a] S (oN S mo (oPut M y x a)) := by
  obtain ⟨A, h⟩ := h
  have hmo := h.mo
  have r13 : xr S mo 13 = some (A 13) := h.ar 13 rfl
  have c13 : xc S (A 13) = 1002 := h.tg 13 rfl
  have l13 : xl S (A 13) = 256 := h.ln 13 rfl
  have n13 : (mo = A 13) = False := eq_false (fun e => h.nm (f := 13) rfl e.symm)
  have r16 : xr S mo 16 = some (A 16) := h.ar 16 rfl
  have c16 : xc S (A 16) = 1002 := h.tg 16 rfl
  have l16 : xl S (A 16) = 256 := h.ln 16 rfl
  have n16 : (mo = A 16) = False := eq_false (fun e => h.nm (f := 16) rfl e.symm)
  have r26 : xr S mo 26 = some (A 26) := h.ar 26 rfl
  have c26 : xc S (A 26) = 1002 := h.tg 26 rfl
  have l26 : xl S (A 26) = 64 := h.ln 26 rfl
  have n26 : (mo = A 26) = False := eq_false (fun e => h.nm (f := 26) rfl e.symm)
  have r27 : xr S mo 27 = some (A 27) := h.ar 27 rfl
  have c27 : xc S (A 27) = 1002 := h.tg 27 rfl
  have l27 : xl S (A 27) = 64 := h.ln 27 rfl
  have n27 : (mo = A 27) = False := eq_false (fun e => h.nm (f := 27) rfl e.symm)
  refine xMet.of (k := mM_put) (own := 4) (ini := false) xm_M_put (by decide +kernel) (by decide +kernel) (by decide) (Nat.le_of_ble_eq_true rfl) ?_
  intro V hV
  show V 0 [some (.inr (.inr (some mo))), some (.inl y), some (.inl x), some (.inl a)] [] S 0 0
  refine xrun_ok hV [] 20 _ _ _ _ _ _ ?_
  simp (maxDischargeDepth := 60) only [xrun, xisc, ↓xstep, xget, xtgt, xcmp, xacmp, xprev, xisR, xnt, List.set, List.length, xsw, xlk, true_or, or_true, if_true, if_false, true_and, and_true, List.mem_cons, List.not_mem_nil, or_false, false_or, Bool.false_eq_true, reduceCtorEq, not_false_eq_true, forall_const, Nat.zero_add, Nat.reduceAdd, Nat.reduceSub, Int.reduceAdd, Int.reduceNeg, Int.reduceToNat, Nat.reduceEqDiff, Nat.reduceLT, Nat.reduceLeDiff, Int.reduceLE, Int.reduceLT, reduceIte, Int.cast_ofNat_Int, Int.natCast_zero, Int.natCast_one, Int.reduceAdd, eq_self, Int.reduceSub, List.length_cons, List.length_nil, xli_m1, xli_0, xli_1, xli_2, xli_3, xli_4, xli_5, xlb_8, xlb_12, xlb_31, xlb_32, xlb_64, xls_256, xls_513, xls_2048, xls_4096, xll_0, xll_1, xnr_i, xnr_0, xnr_1, xnr_ite, xft_i, xft_0, xft_1, xat_999, xat_1001, xat_1002, xat_1003, xat_2001, xat_2002, xat_2003, List.getElem?_cons_succ, List.getElem?_cons_zero, xfn_0, xfn_1, xfn_2, xfn_3, x10, x01, not_true_eq_false, false_implies, implies_true, true_implies, xrm_c, xrm_s, xnl_4, xnl_32, xnl_64, xnl_256, xtn_4, xtn_32, xtn_64, xtn_256, Option.some.injEq, Sum.inl.injEq, Sum.inr.injEq, exists_eq_left', exists_eq_right, Option.toList_some, Option.toList_none, List.cons_append, List.nil_append, xE, lg_cmp_ge, lg_cmp_le, lg_cmp_gt, lg_cmp_lt, lg_cmp_eq, Nat.le_refl, Nat.zero_le, ne_eq, Nat.add_zero, dM_put_0, dM_put_1, dM_put_2, dM_put_5, dM_put_8, dM_put_9, dM_put_10, dM_put_13, dM_put_16, dM_put_17, dM_put_18, dM_put_19, dM_put_22, dM_put_23, dM_put_24, dM_put_27, dM_put_28, dM_put_31, dM_put_32, dM_put_33, dM_put_36, dM_put_37, dM_put_40, dM_put_43, dM_put_44, dM_put_45, dM_put_46, dM_put_49, dM_put_50, dM_put_51, dM_put_52, dM_put_53, dM_put_56, dM_put_57, dM_put_58, dM_put_59, dM_put_60, xf_4_41, xf_4_50, xf_4_77, xf_4_80]
  refine hV.call [] xh_4_107 dM_put_2 (d_isLabel h y) (Or.inr ⟨_, _, rfl, fun _ => hmo⟩) rfl rfl (by decide) (by decide) (by decide) ?_
  rintro r S' ⟨rfl, rfl⟩
  by_cases hy : isL M y = true
  case neg =>
    rw [if_neg hy]
    refine xrun_ok hV [] 20 _ _ _ _ _ _ ?_
    simp (maxDischargeDepth := 60) only [xrun, xisc, ↓xstep, xget, xtgt, xcmp, xacmp, xprev, xisR, xnt, List.set, List.length, xsw, xlk, true_or, or_true, if_true, if_false, true_and, and_true, List.mem_cons, List.not_mem_nil, or_false, false_or, Bool.false_eq_true, reduceCtorEq, not_false_eq_true, forall_const, Nat.zero_add, Nat.reduceAdd, Nat.reduceSub, Int.reduceAdd, Int.reduceNeg, Int.reduceToNat, Nat.reduceEqDiff, Nat.reduceLT, Nat.reduceLeDiff, Int.reduceLE, Int.reduceLT, reduceIte, Int.cast_ofNat_Int, Int.natCast_zero, Int.natCast_one, Int.reduceAdd, eq_self, Int.reduceSub, List.length_cons, List.length_nil, xli_m1, xli_0, xli_1, xli_2, xli_3, xli_4, xli_5, xlb_8, xlb_12, xlb_31, xlb_32, xlb_64, xls_256, xls_513, xls_2048, xls_4096, xll_0, xll_1, xnr_i, xnr_0, xnr_1, xnr_ite, xft_i, xft_0, xft_1, xat_999, xat_1001, xat_1002, xat_1003, xat_2001, xat_2002, xat_2003, List.getElem?_cons_succ, List.getElem?_cons_zero, xfn_0, xfn_1, xfn_2, xfn_3, x10, x01, not_true_eq_false, false_implies, implies_true, true_implies, xrm_c, xrm_s, xnl_4, xnl_32, xnl_64, xnl_256, xtn_4, xtn_32, xtn_64, xtn_256, Option.some.injEq, Sum.inl.injEq, Sum.inr.injEq, exists_eq_left', exists_eq_right, Option.toList_some, Option.toList_none, List.cons_append, List.nil_append, xE, lg_cmp_ge, lg_cmp_le, lg_cmp_gt, lg_cmp_lt, lg_cmp_eq, Nat.le_refl, Nat.zero_le, ne_eq, Nat.add_zero, dM_put_0, dM_put_1, dM_put_2, dM_put_5, dM_put_8, dM_put_9, dM_put_10, dM_put_13, dM_put_16, dM_put_17, dM_put_18, dM_put_19, dM_put_22, dM_put_23, dM_put_24, dM_put_27, dM_put_28, dM_put_31, dM_put_32, dM_put_33, dM_put_36, dM_put_37, dM_put_40, dM_put_43, dM_put_44, dM_put_45, dM_put_46, dM_put_49, dM_put_50, dM_put_51, dM_put_52, dM_put_53, dM_put_56, dM_put_57, dM_put_58, dM_put_59, dM_put_60, xf_4_41, xf_4_50, xf_4_77, xf_4_80]
    unfold oPut
    rw [if_neg (fun z => hy z.1)]
    exact ⟨rfl, ⟨A, h⟩, xFr.rf _ _⟩
  rw [if_pos hy]
  refine xrun_ok hV [] 20 _ _ _ _ _ _ ?_
  simp (maxDischargeDepth := 60) only [xrun, xisc, ↓xstep, xget, xtgt, xcmp, xacmp, xprev, xisR, xnt, List.set, List.length, xsw, xlk, true_or, or_true, if_true, if_false, true_and, and_true, List.mem_cons, List.not_mem_nil, or_false, false_or, Bool.false_eq_true, reduceCtorEq, not_false_eq_true, forall_const, Nat.zero_add, Nat.reduceAdd, Nat.reduceSub, Int.reduceAdd, Int.reduceNeg, Int.reduceToNat, Nat.reduceEqDiff, Nat.reduceLT, Nat.reduceLeDiff, Int.reduceLE, Int.reduceLT, reduceIte, Int.cast_ofNat_Int, Int.natCast_zero, Int.natCast_one, Int.reduceAdd, eq_self, Int.reduceSub, List.length_cons, List.length_nil, xli_m1, xli_0, xli_1, xli_2, xli_3, xli_4, xli_5, xlb_8, xlb_12, xlb_31, xlb_32, xlb_64, xls_256, xls_513, xls_2048, xls_4096, xll_0, xll_1, xnr_i, xnr_0, xnr_1, xnr_ite, xft_i, xft_0, xft_1, xat_999, xat_1001, xat_1002, xat_1003, xat_2001, xat_2002, xat_2003, List.getElem?_cons_succ, List.getElem?_cons_zero, xfn_0, xfn_1, xfn_2, xfn_3, x10, x01, not_true_eq_false, false_implies, implies_true, true_implies, xrm_c, xrm_s, xnl_4, xnl_32, xnl_64, xnl_256, xtn_4, xtn_32, xtn_64, xtn_256, Option.some.injEq, Sum.inl.injEq, Sum.inr.injEq, exists_eq_left', exists_eq_right, Option.toList_some, Option.toList_none, List.cons_append, List.nil_append, xE, lg_cmp_ge, lg_cmp_le, lg_cmp_gt, lg_cmp_lt, lg_cmp_eq, Nat.le_refl, Nat.zero_le, ne_eq, Nat.add_zero, dM_put_0, dM_put_1, dM_put_2, dM_put_5, dM_put_8, dM_put_9, dM_put_10, dM_put_13, dM_put_16, dM_put_17, dM_put_18, dM_put_19, dM_put_22, dM_put_23, dM_put_24, dM_put_27, dM_put_28, dM_put_31, dM_put_32, dM_put_33, dM_put_36, dM_put_37, dM_put_40, dM_put_43, dM_put_44, dM_put_45, dM_put_46, dM_put_49, dM_put_50, dM_put_51, dM_put_52, dM_put_53, dM_put_56, dM_put_57, dM_put_58, dM_put_59, dM_put_60, xf_4_41, xf_4_50, xf_4_77, xf_4_80]
  refine hV.call [] xh_4_166 dM_put_10 (d_isPiece h x) (Or.inr ⟨_, _, rfl, fun _ => hmo⟩) rfl rfl (by decide) (by decide) (by decide) ?_
  rintro r S' ⟨rfl, rfl⟩
  by_cases hx : isQ M x = true
  case neg =>
    rw [if_neg hx]
    refine xrun_ok hV [] 20 _ _ _ _ _ _ ?_
    simp (maxDischargeDepth := 60) only [xrun, xisc, ↓xstep, xget, xtgt, xcmp, xacmp, xprev, xisR, xnt, List.set, List.length, xsw, xlk, true_or, or_true, if_true, if_false, true_and, and_true, List.mem_cons, List.not_mem_nil, or_false, false_or, Bool.false_eq_true, reduceCtorEq, not_false_eq_true, forall_const, Nat.zero_add, Nat.reduceAdd, Nat.reduceSub, Int.reduceAdd, Int.reduceNeg, Int.reduceToNat, Nat.reduceEqDiff, Nat.reduceLT, Nat.reduceLeDiff, Int.reduceLE, Int.reduceLT, reduceIte, Int.cast_ofNat_Int, Int.natCast_zero, Int.natCast_one, Int.reduceAdd, eq_self, Int.reduceSub, List.length_cons, List.length_nil, xli_m1, xli_0, xli_1, xli_2, xli_3, xli_4, xli_5, xlb_8, xlb_12, xlb_31, xlb_32, xlb_64, xls_256, xls_513, xls_2048, xls_4096, xll_0, xll_1, xnr_i, xnr_0, xnr_1, xnr_ite, xft_i, xft_0, xft_1, xat_999, xat_1001, xat_1002, xat_1003, xat_2001, xat_2002, xat_2003, List.getElem?_cons_succ, List.getElem?_cons_zero, xfn_0, xfn_1, xfn_2, xfn_3, x10, x01, not_true_eq_false, false_implies, implies_true, true_implies, xrm_c, xrm_s, xnl_4, xnl_32, xnl_64, xnl_256, xtn_4, xtn_32, xtn_64, xtn_256, Option.some.injEq, Sum.inl.injEq, Sum.inr.injEq, exists_eq_left', exists_eq_right, Option.toList_some, Option.toList_none, List.cons_append, List.nil_append, xE, lg_cmp_ge, lg_cmp_le, lg_cmp_gt, lg_cmp_lt, lg_cmp_eq, Nat.le_refl, Nat.zero_le, ne_eq, Nat.add_zero, dM_put_0, dM_put_1, dM_put_2, dM_put_5, dM_put_8, dM_put_9, dM_put_10, dM_put_13, dM_put_16, dM_put_17, dM_put_18, dM_put_19, dM_put_22, dM_put_23, dM_put_24, dM_put_27, dM_put_28, dM_put_31, dM_put_32, dM_put_33, dM_put_36, dM_put_37, dM_put_40, dM_put_43, dM_put_44, dM_put_45, dM_put_46, dM_put_49, dM_put_50, dM_put_51, dM_put_52, dM_put_53, dM_put_56, dM_put_57, dM_put_58, dM_put_59, dM_put_60, xf_4_41, xf_4_50, xf_4_77, xf_4_80]
    unfold oPut
    rw [if_neg (fun z => hx z.2.1)]
    exact ⟨rfl, ⟨A, h⟩, xFr.rf _ _⟩
  rw [if_pos hx]
  have hx' := isQ_iff.mp hx
  have hy' := isL_iff.mp hy
  have hw1 := h.1.1.2.2.1
  have hw2 := h.1.1.2.2.2
  have e1 : x.toNatClampNeg = x.toInt.toNat := rfl
  have e2 : y.toNatClampNeg = y.toInt.toNat := rfl
  have e3 : a.toNatClampNeg = a.toInt.toNat := rfl
  have hxl : x.toNatClampNeg < M 12 0 := by omega
  have hyl : y.toNatClampNeg < M 25 0 := by omega
  have v13 := h.v13 hxl
  have v16 := h.v16 hxl
  have inx : vp_in x 256 := vp_in_iff.mpr ⟨hx'.1, by omega⟩
  have iny : vp_in y 64 := vp_in_iff.mpr ⟨hy'.1, by omega⟩
  have hw := (h.1.2.2.2.1 _ hxl).1
  have hw0 : (nI (M 13 x.toNatClampNeg) = 0) = (M 13 x.toNatClampNeg = 0) := propext (nI_eq (b := 0) (by omega) (by decide))
  have key : ∀ n : Nat, n < 2 ^ 31 → (n = if M 13 x.toNatClampNeg = 0 then M 16 x.toNatClampNeg else 1) → V 37 [some (.inr (.inr (some mo))), some (.inl y), some (.inl x), some (.inl a)] [.inl (nI n), .inl 0, .inl a] S' 0 0 := by
    intro n hn hne
    have e9 : (if M 13 x.toNatClampNeg = 0 then (M 16 x.toNatClampNeg : Int) else 1) = n := by rw [hne]; split <;> rfl
    refine hV.call [] xh_4_87 dM_put_37 (d_in S' a 0 (nI n) (a := 0) (b := n) rfl (nI_toInt hn)) (Or.inl rfl) rfl rfl (by decide) (by decide) (by decide) ?_
    rintro r S' ⟨rfl, rfl⟩
    by_cases ha : inR a 0 n = true
    · rw [if_pos ha]
      refine xrun_ok hV [] 20 _ _ _ _ _ _ ?_
      simp (maxDischargeDepth := 60) only [xrun, xisc, ↓xstep, xget, xtgt, xcmp, xacmp, xprev, xisR, xnt, List.set, List.length, xsw, xlk, true_or, or_true, if_true, if_false, true_and, and_true, List.mem_cons, List.not_mem_nil, or_false, false_or, Bool.false_eq_true, reduceCtorEq, not_false_eq_true, forall_const, Nat.zero_add, Nat.reduceAdd, Nat.reduceSub, Int.reduceAdd, Int.reduceNeg, Int.reduceToNat, Nat.reduceEqDiff, Nat.reduceLT, Nat.reduceLeDiff, Int.reduceLE, Int.reduceLT, reduceIte, Int.cast_ofNat_Int, Int.natCast_zero, Int.natCast_one, Int.reduceAdd, eq_self, Int.reduceSub, List.length_cons, List.length_nil, xli_m1, xli_0, xli_1, xli_2, xli_3, xli_4, xli_5, xlb_8, xlb_12, xlb_31, xlb_32, xlb_64, xls_256, xls_513, xls_2048, xls_4096, xll_0, xll_1, xnr_i, xnr_0, xnr_1, xnr_ite, xft_i, xft_0, xft_1, xat_999, xat_1001, xat_1002, xat_1003, xat_2001, xat_2002, xat_2003, List.getElem?_cons_succ, List.getElem?_cons_zero, xfn_0, xfn_1, xfn_2, xfn_3, x10, x01, not_true_eq_false, false_implies, implies_true, true_implies, xrm_c, xrm_s, xnl_4, xnl_32, xnl_64, xnl_256, xtn_4, xtn_32, xtn_64, xtn_256, Option.some.injEq, Sum.inl.injEq, Sum.inr.injEq, exists_eq_left', exists_eq_right, Option.toList_some, Option.toList_none, List.cons_append, List.nil_append, xE, lg_cmp_ge, lg_cmp_le, lg_cmp_gt, lg_cmp_lt, lg_cmp_eq, Nat.le_refl, Nat.zero_le, ne_eq, Nat.add_zero, dM_put_0, dM_put_1, dM_put_2, dM_put_5, dM_put_8, dM_put_9, dM_put_10, dM_put_13, dM_put_16, dM_put_17, dM_put_18, dM_put_19, dM_put_22, dM_put_23, dM_put_24, dM_put_27, dM_put_28, dM_put_31, dM_put_32, dM_put_33, dM_put_36, dM_put_37, dM_put_40, dM_put_43, dM_put_44, dM_put_45, dM_put_46, dM_put_49, dM_put_50, dM_put_51, dM_put_52, dM_put_53, dM_put_56, dM_put_57, dM_put_58, dM_put_59, dM_put_60, xf_4_41, xf_4_50, xf_4_77, xf_4_80, hmo, r26, c26, l26, n26, r27, c27, l27, n27, iny, xc_pi, xr_pi, xl_pi]
      have ha' := inR_iff.mp ha
      unfold oPut
      rw [e9, if_pos ⟨hy, hx, ha⟩]
      refine ⟨rfl, ⟨A, (?_ : rF _ mo A (mset (mset M 26 y.toNatClampNeg (x.toNatClampNeg + 1)) 27 y.toNatClampNeg a.toNatClampNeg))⟩, (xFr.ar h.2.1 (f := 26) rfl _ _).tr (xFr.ar (h.2.1.pi _ _ _) (f := 27) rfl _ _)⟩
      refine ⟨mWF_put h.1 hxl (by rw [← hne]; omega), h.2.1, fun g j => ?_⟩
      rw [xW_a (f := 27) (h.2.1.pi _ _ _) rfl, xW_a (f := 26) h.2.1 rfl]
      have hv := h.v g j
      generalize xW S' mo A g j = w at hv ⊢
      by_cases g6 : g = 26 ∧ j = y.toNatClampNeg
      · obtain ⟨rfl, rfl⟩ := g6
        rw [if_neg (by simp), if_pos ⟨rfl, rfl⟩]
        intro _
        rw [mput_26, nI_pred, nI_cl hx'.1]
      by_cases g7 : g = 27 ∧ j = y.toNatClampNeg
      · obtain ⟨rfl, rfl⟩ := g7
        rw [if_pos ⟨rfl, rfl⟩]
        show a = nI (if y.toNatClampNeg < M 25 0 then mset (mset M 26 y.toNatClampNeg (x.toNatClampNeg + 1)) 27 y.toNatClampNeg a.toNatClampNeg 27 y.toNatClampNeg else 0)
        rw [if_pos hyl, mput_27, nI_cl ha'.1]
      rw [if_neg g7, if_neg g6]
      exact vOK_to hv (fun _ => rfl) (fun _ => rfl) (fun _ => rfl) (fun _ => rfl) (fun z => by rw [mset_eq, if_neg (by omega), mset_eq, if_neg (by omega)]) (by rw [mset_eq, if_neg g7, mset_eq, if_neg g6])
    · rw [if_neg ha]
      refine xrun_ok hV [] 20 _ _ _ _ _ _ ?_
      simp (maxDischargeDepth := 60) only [xrun, xisc, ↓xstep, xget, xtgt, xcmp, xacmp, xprev, xisR, xnt, List.set, List.length, xsw, xlk, true_or, or_true, if_true, if_false, true_and, and_true, List.mem_cons, List.not_mem_nil, or_false, false_or, Bool.false_eq_true, reduceCtorEq, not_false_eq_true, forall_const, Nat.zero_add, Nat.reduceAdd, Nat.reduceSub, Int.reduceAdd, Int.reduceNeg, Int.reduceToNat, Nat.reduceEqDiff, Nat.reduceLT, Nat.reduceLeDiff, Int.reduceLE, Int.reduceLT, reduceIte, Int.cast_ofNat_Int, Int.natCast_zero, Int.natCast_one, Int.reduceAdd, eq_self, Int.reduceSub, List.length_cons, List.length_nil, xli_m1, xli_0, xli_1, xli_2, xli_3, xli_4, xli_5, xlb_8, xlb_12, xlb_31, xlb_32, xlb_64, xls_256, xls_513, xls_2048, xls_4096, xll_0, xll_1, xnr_i, xnr_0, xnr_1, xnr_ite, xft_i, xft_0, xft_1, xat_999, xat_1001, xat_1002, xat_1003, xat_2001, xat_2002, xat_2003, List.getElem?_cons_succ, List.getElem?_cons_zero, xfn_0, xfn_1, xfn_2, xfn_3, x10, x01, not_true_eq_false, false_implies, implies_true, true_implies, xrm_c, xrm_s, xnl_4, xnl_32, xnl_64, xnl_256, xtn_4, xtn_32, xtn_64, xtn_256, Option.some.injEq, Sum.inl.injEq, Sum.inr.injEq, exists_eq_left', exists_eq_right, Option.toList_some, Option.toList_none, List.cons_append, List.nil_append, xE, lg_cmp_ge, lg_cmp_le, lg_cmp_gt, lg_cmp_lt, lg_cmp_eq, Nat.le_refl, Nat.zero_le, ne_eq, Nat.add_zero, dM_put_0, dM_put_1, dM_put_2, dM_put_5, dM_put_8, dM_put_9, dM_put_10, dM_put_13, dM_put_16, dM_put_17, dM_put_18, dM_put_19, dM_put_22, dM_put_23, dM_put_24, dM_put_27, dM_put_28, dM_put_31, dM_put_32, dM_put_33, dM_put_36, dM_put_37, dM_put_40, dM_put_43, dM_put_44, dM_put_45, dM_put_46, dM_put_49, dM_put_50, dM_put_51, dM_put_52, dM_put_53, dM_put_56, dM_put_57, dM_put_58, dM_put_59, dM_put_60, xf_4_41, xf_4_50, xf_4_77, xf_4_80]
      unfold oPut
      rw [e9, if_neg (fun q => ha q.2.2)]
      exact ⟨rfl, ⟨A, h⟩, xFr.rf _ _⟩
  refine xrun_ok hV [37] 20 _ _ _ _ _ _ ?_
  simp (maxDischargeDepth := 60) only [xrun, xisc, ↓xstep, xget, xtgt, xcmp, xacmp, xprev, xisR, xnt, List.set, List.length, xsw, xlk, true_or, or_true, if_true, if_false, true_and, and_true, List.mem_cons, List.not_mem_nil, or_false, false_or, Bool.false_eq_true, reduceCtorEq, not_false_eq_true, forall_const, Nat.zero_add, Nat.reduceAdd, Nat.reduceSub, Int.reduceAdd, Int.reduceNeg, Int.reduceToNat, Nat.reduceEqDiff, Nat.reduceLT, Nat.reduceLeDiff, Int.reduceLE, Int.reduceLT, reduceIte, Int.cast_ofNat_Int, Int.natCast_zero, Int.natCast_one, Int.reduceAdd, eq_self, Int.reduceSub, List.length_cons, List.length_nil, xli_m1, xli_0, xli_1, xli_2, xli_3, xli_4, xli_5, xlb_8, xlb_12, xlb_31, xlb_32, xlb_64, xls_256, xls_513, xls_2048, xls_4096, xll_0, xll_1, xnr_i, xnr_0, xnr_1, xnr_ite, xft_i, xft_0, xft_1, xat_999, xat_1001, xat_1002, xat_1003, xat_2001, xat_2002, xat_2003, List.getElem?_cons_succ, List.getElem?_cons_zero, xfn_0, xfn_1, xfn_2, xfn_3, x10, x01, not_true_eq_false, false_implies, implies_true, true_implies, xrm_c, xrm_s, xnl_4, xnl_32, xnl_64, xnl_256, xtn_4, xtn_32, xtn_64, xtn_256, Option.some.injEq, Sum.inl.injEq, Sum.inr.injEq, exists_eq_left', exists_eq_right, Option.toList_some, Option.toList_none, List.cons_append, List.nil_append, xE, lg_cmp_ge, lg_cmp_le, lg_cmp_gt, lg_cmp_lt, lg_cmp_eq, Nat.le_refl, Nat.zero_le, ne_eq, Nat.add_zero, dM_put_0, dM_put_1, dM_put_2, dM_put_5, dM_put_8, dM_put_9, dM_put_10, dM_put_13, dM_put_16, dM_put_17, dM_put_18, dM_put_19, dM_put_22, dM_put_23, dM_put_24, dM_put_27, dM_put_28, dM_put_31, dM_put_32, dM_put_33, dM_put_36, dM_put_37, dM_put_40, dM_put_43, dM_put_44, dM_put_45, dM_put_46, dM_put_49, dM_put_50, dM_put_51, dM_put_52, dM_put_53, dM_put_56, dM_put_57, dM_put_58, dM_put_59, dM_put_60, xf_4_41, xf_4_50, xf_4_77, xf_4_80, hmo, r13, c13, l13, n13, r16, c16, l16, n16, inx, v13, v16, hw0]
  refine ⟨fun z => ?_, fun z => ?_⟩
  · exact key 1 (by decide) (by rw [if_neg z])
  · exact key _ (by have := (h.1.2.2.2.2.1 _ hxl z).2; omega) (by rw [if_pos z])
end PUT
