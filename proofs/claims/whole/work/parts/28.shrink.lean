/-! SHRINK AND SETTLE: the model, the class -/
def mshr : Nat → mT → Nat × mT
  | 0, M => (0, M)
  | f + 1, M => if ncnt (mchg M) (M 12 0) = 0 then (1, mpass M) else ((mshr f (mpass M)).1 + 1, (mshr f (mpass M)).2)
def oShrink (M : mT) : Int32 × mT := (nI (mshr 513 M).1, (mshr 513 M).2)
def msetl : Nat → mT → Nat × mT
  | 0, M => (0, M)
  | f + 1, M => if ncnt (mtight (mshr 513 M).2) ((mshr 513 M).2 12 0) = 0 then (0, mfix (mshr 513 M).2) else ((msetl f (mfix (mshr 513 M).2)).1 + ncnt (mtight (mshr 513 M).2) ((mshr 513 M).2 12 0), (msetl f (mfix (mshr 513 M).2)).2)
def oSettle (M : mT) : Int32 × mT := (nI (msetl 257 M).1, (msetl 257 M).2)
theorem ncnt_le (P : Nat → Bool) : ∀ n, ncnt P n ≤ n
  | 0 => Nat.le_refl _
  | n + 1 => by
    have h := ncnt_le P n
    have e : ncnt P (n + 1) = ncnt P n + (if P n = true then 1 else 0) := rfl
    rw [e]
    split <;> omega
theorem rCx.th {S : xS} {t : Nat} {M : mT} (h : rCx S t M) : xc S t = 4 := by obtain ⟨_, _, _, _, h⟩ := h; exact h.2.1.1.1
theorem rCx.wf {S : xS} {t : Nat} {M : mT} (h : rCx S t M) : mWF M := by obtain ⟨_, _, _, _, h⟩ := h; exact h.1
section SHRINK
variable {l : Launch} {D : va_G} {n0 : Nat} {S S' : xS} {th : Nat} {M : mT}
set_option maxHeartbeats 4000000 in
set_option maxRecDepth 100000 in
theorem passes_loop {S0 : xS} {V : xKt} {Q : Option xVal → xS → Prop}
    (hV : xCl l D n0 3 cS_makePasses false (some .int) (xrm mS_makePasses 0 0) V (xE 0 0 Q)) :
    ∀ (f i c : Nat) (M : mT) (S : xS), i + f = 513 → 0 < c → c ≤ 256 → rCx S th M → xFr tC S0 S → (∀ S1, rCx S1 th (mshr f M).2 → xFr tC S0 S1 → Q (some (.inl (nI (i + (mshr f M).1)))) S1) → V 4 [some (.inr (.inr (some th))), some (.inl (nI i)), some (.inl (nI c))] [] S 0 0 := by
  intro f
  induction f with
  | zero =>
    intro i c M S hi hc hc2 h hF hQ
    have e1 : (nI c ≤ 0) = False := by
      apply eq_false
      have := xI_le_nI (x := 0) (by decide) c (by omega)
      rw [show nI 0 = (0 : Int32) from rfl] at this
      rw [this]; omega
    have e2 : ((513 : Int32) ≤ nI i) = True := by
      have := xI_le_nI (x := i) (by omega) 513 (by decide)
      rw [show nI 513 = (513 : Int32) from rfl] at this
      rw [this]; simp; omega
    refine xrun_ok hV [] 20 _ _ _ _ _ _ ?_
    simp (maxDischargeDepth := 60) only [xrun, xisc, ↓xstep, xget, xtgt, xcmp, xacmp, xprev, xisR, xnt, List.set, List.length, xsw, xlk, true_or, or_true, if_true, if_false, true_and, and_true, List.mem_cons, List.not_mem_nil, or_false, false_or, Bool.false_eq_true, reduceCtorEq, not_false_eq_true, forall_const, Nat.zero_add, Nat.reduceAdd, Nat.reduceSub, Int.reduceAdd, Int.reduceNeg, Int.reduceToNat, Nat.reduceEqDiff, Nat.reduceLT, Nat.reduceLeDiff, Int.reduceLE, Int.reduceLT, reduceIte, Int.cast_ofNat_Int, Int.natCast_zero, Int.natCast_one, Int.reduceAdd, eq_self, Int.reduceSub, List.length_cons, List.length_nil, xli_m1, xli_0, xli_1, xli_2, xli_3, xli_4, xli_5, xlb_8, xlb_12, xlb_31, xlb_32, xlb_64, xls_256, xls_513, xls_2048, xls_4096, xll_0, xll_1, xnr_i, xnr_0, xnr_1, xnr_ite, xft_i, xft_0, xft_1, xat_999, xat_1001, xat_1002, xat_1003, xat_2001, xat_2002, xat_2003, List.getElem?_cons_succ, List.getElem?_cons_zero, xfn_0, xfn_1, xfn_2, xfn_3, x10, x01, not_true_eq_false, false_implies, implies_true, true_implies, xrm_c, xrm_s, xnl_4, xnl_32, xnl_64, xnl_256, xtn_4, xtn_32, xtn_64, xtn_256, Option.some.injEq, Sum.inl.injEq, Sum.inr.injEq, exists_eq_left', exists_eq_right, Option.toList_some, Option.toList_none, List.cons_append, List.nil_append, xE, lg_cmp_ge, lg_cmp_le, lg_cmp_gt, lg_cmp_lt, lg_cmp_eq, Nat.le_refl, Nat.zero_le, ne_eq, Nat.add_zero, dS_makePasses_0, dS_makePasses_1, dS_makePasses_2, dS_makePasses_3, dS_makePasses_4, dS_makePasses_5, dS_makePasses_8, dS_makePasses_9, dS_makePasses_12, dS_makePasses_15, dS_makePasses_16, dS_makePasses_19, dS_makePasses_20, dS_makePasses_23, dS_makePasses_26, dS_makePasses_27, e1, e2]
    exact hQ S h hF
  | succ f ih =>
    intro i c M S hi hc hc2 h hF hQ
    have e1 : (nI c ≤ 0) = False := by
      apply eq_false
      have := xI_le_nI (x := 0) (by decide) c (by omega)
      rw [show nI 0 = (0 : Int32) from rfl] at this
      rw [this]; omega
    have e2 : ((513 : Int32) ≤ nI i) = False := by
      have := xI_le_nI (x := i) (by omega) 513 (by decide)
      rw [show nI 513 = (513 : Int32) from rfl] at this
      rw [this]; simp; omega
    refine xrun_ok hV [] 20 _ _ _ _ _ _ ?_
    simp (maxDischargeDepth := 60) only [xrun, xisc, ↓xstep, xget, xtgt, xcmp, xacmp, xprev, xisR, xnt, List.set, List.length, xsw, xlk, true_or, or_true, if_true, if_false, true_and, and_true, List.mem_cons, List.not_mem_nil, or_false, false_or, Bool.false_eq_true, reduceCtorEq, not_false_eq_true, forall_const, Nat.zero_add, Nat.reduceAdd, Nat.reduceSub, Int.reduceAdd, Int.reduceNeg, Int.reduceToNat, Nat.reduceEqDiff, Nat.reduceLT, Nat.reduceLeDiff, Int.reduceLE, Int.reduceLT, reduceIte, Int.cast_ofNat_Int, Int.natCast_zero, Int.natCast_one, Int.reduceAdd, eq_self, Int.reduceSub, List.length_cons, List.length_nil, xli_m1, xli_0, xli_1, xli_2, xli_3, xli_4, xli_5, xlb_8, xlb_12, xlb_31, xlb_32, xlb_64, xls_256, xls_513, xls_2048, xls_4096, xll_0, xll_1, xnr_i, xnr_0, xnr_1, xnr_ite, xft_i, xft_0, xft_1, xat_999, xat_1001, xat_1002, xat_1003, xat_2001, xat_2002, xat_2003, List.getElem?_cons_succ, List.getElem?_cons_zero, xfn_0, xfn_1, xfn_2, xfn_3, x10, x01, not_true_eq_false, false_implies, implies_true, true_implies, xrm_c, xrm_s, xnl_4, xnl_32, xnl_64, xnl_256, xtn_4, xtn_32, xtn_64, xtn_256, Option.some.injEq, Sum.inl.injEq, Sum.inr.injEq, exists_eq_left', exists_eq_right, Option.toList_some, Option.toList_none, List.cons_append, List.nil_append, xE, lg_cmp_ge, lg_cmp_le, lg_cmp_gt, lg_cmp_lt, lg_cmp_eq, Nat.le_refl, Nat.zero_le, ne_eq, Nat.add_zero, dS_makePasses_0, dS_makePasses_1, dS_makePasses_2, dS_makePasses_3, dS_makePasses_4, dS_makePasses_5, dS_makePasses_8, dS_makePasses_9, dS_makePasses_12, dS_makePasses_15, dS_makePasses_16, dS_makePasses_19, dS_makePasses_20, dS_makePasses_23, dS_makePasses_26, dS_makePasses_27, e1, e2]
    refine hV.call [] (As := [.inr (.inr (some th))]) xh_3_119 dS_makePasses_16 (c_makePass h) (Or.inr ⟨_, _, rfl, fun _ => h.th⟩) rfl rfl (by decide) (by decide) (by decide) ?_
    rintro r S1 ⟨rfl, g1, g2⟩
    have hcl := ncnt_le (mchg M) (M 12 0)
    have hw := h.wf.1.2.2.1
    have er : (oPass M).1 = nI (ncnt (mchg M) (M 12 0)) := rfl
    refine xrun_ok hV [4] 20 _ _ _ _ _ _ ?_
    simp (maxDischargeDepth := 60) only [xrun, xisc, ↓xstep, xget, xtgt, xcmp, xacmp, xprev, xisR, xnt, List.set, List.length, xsw, xlk, true_or, or_true, if_true, if_false, true_and, and_true, List.mem_cons, List.not_mem_nil, or_false, false_or, Bool.false_eq_true, reduceCtorEq, not_false_eq_true, forall_const, Nat.zero_add, Nat.reduceAdd, Nat.reduceSub, Int.reduceAdd, Int.reduceNeg, Int.reduceToNat, Nat.reduceEqDiff, Nat.reduceLT, Nat.reduceLeDiff, Int.reduceLE, Int.reduceLT, reduceIte, Int.cast_ofNat_Int, Int.natCast_zero, Int.natCast_one, Int.reduceAdd, eq_self, Int.reduceSub, List.length_cons, List.length_nil, xli_m1, xli_0, xli_1, xli_2, xli_3, xli_4, xli_5, xlb_8, xlb_12, xlb_31, xlb_32, xlb_64, xls_256, xls_513, xls_2048, xls_4096, xll_0, xll_1, xnr_i, xnr_0, xnr_1, xnr_ite, xft_i, xft_0, xft_1, xat_999, xat_1001, xat_1002, xat_1003, xat_2001, xat_2002, xat_2003, List.getElem?_cons_succ, List.getElem?_cons_zero, xfn_0, xfn_1, xfn_2, xfn_3, x10, x01, not_true_eq_false, false_implies, implies_true, true_implies, xrm_c, xrm_s, xnl_4, xnl_32, xnl_64, xnl_256, xtn_4, xtn_32, xtn_64, xtn_256, Option.some.injEq, Sum.inl.injEq, Sum.inr.injEq, exists_eq_left', exists_eq_right, Option.toList_some, Option.toList_none, List.cons_append, List.nil_append, xE, lg_cmp_ge, lg_cmp_le, lg_cmp_gt, lg_cmp_lt, lg_cmp_eq, Nat.le_refl, Nat.zero_le, ne_eq, Nat.add_zero, dS_makePasses_0, dS_makePasses_1, dS_makePasses_2, dS_makePasses_3, dS_makePasses_4, dS_makePasses_5, dS_makePasses_8, dS_makePasses_9, dS_makePasses_12, dS_makePasses_15, dS_makePasses_16, dS_makePasses_19, dS_makePasses_20, dS_makePasses_23, dS_makePasses_26, dS_makePasses_27, nI_1, er]
    have g1' : rCx S1 th (mpass M) := g1
    by_cases z : ncnt (mchg M) (M 12 0) = 0
    · have em : mshr (f + 1) M = (1, mpass M) := by rw [mshr, if_pos z]
      rw [em] at hQ
      rw [z]
      have e3 : (nI 0 ≤ 0) = True := by decide +kernel
      refine xrun_ok hV [] 20 _ _ _ _ _ _ ?_
      simp (maxDischargeDepth := 60) only [xrun, xisc, ↓xstep, xget, xtgt, xcmp, xacmp, xprev, xisR, xnt, List.set, List.length, xsw, xlk, true_or, or_true, if_true, if_false, true_and, and_true, List.mem_cons, List.not_mem_nil, or_false, false_or, Bool.false_eq_true, reduceCtorEq, not_false_eq_true, forall_const, Nat.zero_add, Nat.reduceAdd, Nat.reduceSub, Int.reduceAdd, Int.reduceNeg, Int.reduceToNat, Nat.reduceEqDiff, Nat.reduceLT, Nat.reduceLeDiff, Int.reduceLE, Int.reduceLT, reduceIte, Int.cast_ofNat_Int, Int.natCast_zero, Int.natCast_one, Int.reduceAdd, eq_self, Int.reduceSub, List.length_cons, List.length_nil, xli_m1, xli_0, xli_1, xli_2, xli_3, xli_4, xli_5, xlb_8, xlb_12, xlb_31, xlb_32, xlb_64, xls_256, xls_513, xls_2048, xls_4096, xll_0, xll_1, xnr_i, xnr_0, xnr_1, xnr_ite, xft_i, xft_0, xft_1, xat_999, xat_1001, xat_1002, xat_1003, xat_2001, xat_2002, xat_2003, List.getElem?_cons_succ, List.getElem?_cons_zero, xfn_0, xfn_1, xfn_2, xfn_3, x10, x01, not_true_eq_false, false_implies, implies_true, true_implies, xrm_c, xrm_s, xnl_4, xnl_32, xnl_64, xnl_256, xtn_4, xtn_32, xtn_64, xtn_256, Option.some.injEq, Sum.inl.injEq, Sum.inr.injEq, exists_eq_left', exists_eq_right, Option.toList_some, Option.toList_none, List.cons_append, List.nil_append, xE, lg_cmp_ge, lg_cmp_le, lg_cmp_gt, lg_cmp_lt, lg_cmp_eq, Nat.le_refl, Nat.zero_le, ne_eq, Nat.add_zero, dS_makePasses_0, dS_makePasses_1, dS_makePasses_2, dS_makePasses_3, dS_makePasses_4, dS_makePasses_5, dS_makePasses_8, dS_makePasses_9, dS_makePasses_12, dS_makePasses_15, dS_makePasses_16, dS_makePasses_19, dS_makePasses_20, dS_makePasses_23, dS_makePasses_26, dS_makePasses_27, e3]
      exact hQ S1 g1' (hF.tr g2)
    · have em : mshr (f + 1) M = ((mshr f (mpass M)).1 + 1, (mshr f (mpass M)).2) := by rw [mshr, if_neg z]
      rw [em] at hQ
      refine ih (i + 1) _ (mpass M) S1 (by omega) (by omega) (by omega) g1' (hF.tr g2) (fun S2 w1 w2 => ?_)
      have := hQ S2 w1 w2
      rw [show i + 1 + (mshr f (mpass M)).1 = i + ((mshr f (mpass M)).1 + 1) by omega]
      exact this
set_option maxHeartbeats 4000000 in
set_option maxRecDepth 100000 in
theorem c_makePasses (h : rCx S th M) : xMet l D n0 mS_makePasses 0 0 [.inr (.inr (some th))] S (oC S th (oShrink M)) := by
  refine xMet.of (k := mS_makePasses) (own := 3) (ini := false) xm_S_makePasses (by decide +kernel) (by decide +kernel) (by decide) (Nat.le_of_ble_eq_true rfl) ?_
  intro V hV
  show V 0 [some (.inr (.inr (some th))), none, none] [] S 0 0
  refine xrun_ok hV [4] 20 _ _ _ _ _ _ ?_
  simp (maxDischargeDepth := 60) only [xrun, xisc, ↓xstep, xget, xtgt, xcmp, xacmp, xprev, xisR, xnt, List.set, List.length, xsw, xlk, true_or, or_true, if_true, if_false, true_and, and_true, List.mem_cons, List.not_mem_nil, or_false, false_or, Bool.false_eq_true, reduceCtorEq, not_false_eq_true, forall_const, Nat.zero_add, Nat.reduceAdd, Nat.reduceSub, Int.reduceAdd, Int.reduceNeg, Int.reduceToNat, Nat.reduceEqDiff, Nat.reduceLT, Nat.reduceLeDiff, Int.reduceLE, Int.reduceLT, reduceIte, Int.cast_ofNat_Int, Int.natCast_zero, Int.natCast_one, Int.reduceAdd, eq_self, Int.reduceSub, List.length_cons, List.length_nil, xli_m1, xli_0, xli_1, xli_2, xli_3, xli_4, xli_5, xlb_8, xlb_12, xlb_31, xlb_32, xlb_64, xls_256, xls_513, xls_2048, xls_4096, xll_0, xll_1, xnr_i, xnr_0, xnr_1, xnr_ite, xft_i, xft_0, xft_1, xat_999, xat_1001, xat_1002, xat_1003, xat_2001, xat_2002, xat_2003, List.getElem?_cons_succ, List.getElem?_cons_zero, xfn_0, xfn_1, xfn_2, xfn_3, x10, x01, not_true_eq_false, false_implies, implies_true, true_implies, xrm_c, xrm_s, xnl_4, xnl_32, xnl_64, xnl_256, xtn_4, xtn_32, xtn_64, xtn_256, Option.some.injEq, Sum.inl.injEq, Sum.inr.injEq, exists_eq_left', exists_eq_right, Option.toList_some, Option.toList_none, List.cons_append, List.nil_append, xE, lg_cmp_ge, lg_cmp_le, lg_cmp_gt, lg_cmp_lt, lg_cmp_eq, Nat.le_refl, Nat.zero_le, ne_eq, Nat.add_zero, dS_makePasses_0, dS_makePasses_1, dS_makePasses_2, dS_makePasses_3, dS_makePasses_4, dS_makePasses_5, dS_makePasses_8, dS_makePasses_9, dS_makePasses_12, dS_makePasses_15, dS_makePasses_16, dS_makePasses_19, dS_makePasses_20, dS_makePasses_23, dS_makePasses_26, dS_makePasses_27]
  exact passes_loop (S0 := S) hV 513 0 1 M S rfl (by decide) (by decide) h (xFr.rf _ _) (fun S1 w1 w2 => ⟨by rw [Nat.zero_add]; rfl, w1, w2⟩)
set_option maxHeartbeats 4000000 in
set_option maxRecDepth 100000 in
theorem c_shrink (h : rCx S th M) : xMet l D n0 mS_shrink 0 0 [.inr (.inr (some th))] S (oC S th (oShrink M)) := by
  refine xMet.of (k := mS_shrink) (own := 3) (ini := false) xm_S_shrink (by decide +kernel) (by decide +kernel) (by decide) (Nat.le_of_ble_eq_true rfl) ?_
  intro V hV
  show V 0 [some (.inr (.inr (some th)))] [] S 0 0
  refine xrun_ok hV [] 20 _ _ _ _ _ _ ?_
  simp (maxDischargeDepth := 60) only [xrun, xisc, ↓xstep, xget, xtgt, xcmp, xacmp, xprev, xisR, xnt, List.set, List.length, xsw, xlk, true_or, or_true, if_true, if_false, true_and, and_true, List.mem_cons, List.not_mem_nil, or_false, false_or, Bool.false_eq_true, reduceCtorEq, not_false_eq_true, forall_const, Nat.zero_add, Nat.reduceAdd, Nat.reduceSub, Int.reduceAdd, Int.reduceNeg, Int.reduceToNat, Nat.reduceEqDiff, Nat.reduceLT, Nat.reduceLeDiff, Int.reduceLE, Int.reduceLT, reduceIte, Int.cast_ofNat_Int, Int.natCast_zero, Int.natCast_one, Int.reduceAdd, eq_self, Int.reduceSub, List.length_cons, List.length_nil, xli_m1, xli_0, xli_1, xli_2, xli_3, xli_4, xli_5, xlb_8, xlb_12, xlb_31, xlb_32, xlb_64, xls_256, xls_513, xls_2048, xls_4096, xll_0, xll_1, xnr_i, xnr_0, xnr_1, xnr_ite, xft_i, xft_0, xft_1, xat_999, xat_1001, xat_1002, xat_1003, xat_2001, xat_2002, xat_2003, List.getElem?_cons_succ, List.getElem?_cons_zero, xfn_0, xfn_1, xfn_2, xfn_3, x10, x01, not_true_eq_false, false_implies, implies_true, true_implies, xrm_c, xrm_s, xnl_4, xnl_32, xnl_64, xnl_256, xtn_4, xtn_32, xtn_64, xtn_256, Option.some.injEq, Sum.inl.injEq, Sum.inr.injEq, exists_eq_left', exists_eq_right, Option.toList_some, Option.toList_none, List.cons_append, List.nil_append, xE, lg_cmp_ge, lg_cmp_le, lg_cmp_gt, lg_cmp_lt, lg_cmp_eq, Nat.le_refl, Nat.zero_le, ne_eq, Nat.add_zero, dS_shrink_0, dS_shrink_1, dS_shrink_4]
  refine hV.call [] (As := [.inr (.inr (some th))]) xh_3_122 dS_shrink_1 (c_makePasses h) (Or.inr ⟨_, _, rfl, fun _ => h.th⟩) rfl rfl (by decide) (by decide) (by decide) ?_
  rintro r S1 ⟨rfl, g1, g2⟩
  refine xrun_ok hV [] 20 _ _ _ _ _ _ ?_
  simp (maxDischargeDepth := 60) only [xrun, xisc, ↓xstep, xget, xtgt, xcmp, xacmp, xprev, xisR, xnt, List.set, List.length, xsw, xlk, true_or, or_true, if_true, if_false, true_and, and_true, List.mem_cons, List.not_mem_nil, or_false, false_or, Bool.false_eq_true, reduceCtorEq, not_false_eq_true, forall_const, Nat.zero_add, Nat.reduceAdd, Nat.reduceSub, Int.reduceAdd, Int.reduceNeg, Int.reduceToNat, Nat.reduceEqDiff, Nat.reduceLT, Nat.reduceLeDiff, Int.reduceLE, Int.reduceLT, reduceIte, Int.cast_ofNat_Int, Int.natCast_zero, Int.natCast_one, Int.reduceAdd, eq_self, Int.reduceSub, List.length_cons, List.length_nil, xli_m1, xli_0, xli_1, xli_2, xli_3, xli_4, xli_5, xlb_8, xlb_12, xlb_31, xlb_32, xlb_64, xls_256, xls_513, xls_2048, xls_4096, xll_0, xll_1, xnr_i, xnr_0, xnr_1, xnr_ite, xft_i, xft_0, xft_1, xat_999, xat_1001, xat_1002, xat_1003, xat_2001, xat_2002, xat_2003, List.getElem?_cons_succ, List.getElem?_cons_zero, xfn_0, xfn_1, xfn_2, xfn_3, x10, x01, not_true_eq_false, false_implies, implies_true, true_implies, xrm_c, xrm_s, xnl_4, xnl_32, xnl_64, xnl_256, xtn_4, xtn_32, xtn_64, xtn_256, Option.some.injEq, Sum.inl.injEq, Sum.inr.injEq, exists_eq_left', exists_eq_right, Option.toList_some, Option.toList_none, List.cons_append, List.nil_append, xE, lg_cmp_ge, lg_cmp_le, lg_cmp_gt, lg_cmp_lt, lg_cmp_eq, Nat.le_refl, Nat.zero_le, ne_eq, Nat.add_zero, dS_shrink_0, dS_shrink_1, dS_shrink_4]
  exact ⟨rfl, g1, g2⟩
set_option maxHeartbeats 4000000 in
set_option maxRecDepth 100000 in
theorem settle_loop {S0 : xS} {V : xKt} {Q : Option xVal → xS → Prop}
    (hV : xCl l D n0 3 cS_settle false (some .int) (xrm mS_settle 0 0) V (xE 0 0 Q)) :
    ∀ (f i a : Nat) (M : mT) (S : xS), i + f = 257 → rCx S th M → xFr tC S0 S → (∀ S1, rCx S1 th (msetl f M).2 → xFr tC S0 S1 → Q (some (.inl (nI (a + (msetl f M).1)))) S1) → V 4 [some (.inr (.inr (some th))), some (.inl (nI a)), some (.inl (nI i)), none] [] S 0 0 := by
  intro f
  induction f with
  | zero =>
    intro i a M S hi h hF hQ
    have e2 : ((256 : Int32) < nI i) = True := by
      have := nI_ltI (a := 256) (b := i) (by decide) (by omega)
      rw [show nI 256 = (256 : Int32) from rfl] at this
      simp [this]; omega
    refine xrun_ok hV [] 20 _ _ _ _ _ _ ?_
    simp (maxDischargeDepth := 60) only [xrun, xisc, ↓xstep, xget, xtgt, xcmp, xacmp, xprev, xisR, xnt, List.set, List.length, xsw, xlk, true_or, or_true, if_true, if_false, true_and, and_true, List.mem_cons, List.not_mem_nil, or_false, false_or, Bool.false_eq_true, reduceCtorEq, not_false_eq_true, forall_const, Nat.zero_add, Nat.reduceAdd, Nat.reduceSub, Int.reduceAdd, Int.reduceNeg, Int.reduceToNat, Nat.reduceEqDiff, Nat.reduceLT, Nat.reduceLeDiff, Int.reduceLE, Int.reduceLT, reduceIte, Int.cast_ofNat_Int, Int.natCast_zero, Int.natCast_one, Int.reduceAdd, eq_self, Int.reduceSub, List.length_cons, List.length_nil, xli_m1, xli_0, xli_1, xli_2, xli_3, xli_4, xli_5, xlb_8, xlb_12, xlb_31, xlb_32, xlb_64, xls_256, xls_513, xls_2048, xls_4096, xll_0, xll_1, xnr_i, xnr_0, xnr_1, xnr_ite, xft_i, xft_0, xft_1, xat_999, xat_1001, xat_1002, xat_1003, xat_2001, xat_2002, xat_2003, List.getElem?_cons_succ, List.getElem?_cons_zero, xfn_0, xfn_1, xfn_2, xfn_3, x10, x01, not_true_eq_false, false_implies, implies_true, true_implies, xrm_c, xrm_s, xnl_4, xnl_32, xnl_64, xnl_256, xtn_4, xtn_32, xtn_64, xtn_256, Option.some.injEq, Sum.inl.injEq, Sum.inr.injEq, exists_eq_left', exists_eq_right, Option.toList_some, Option.toList_none, List.cons_append, List.nil_append, xE, lg_cmp_ge, lg_cmp_le, lg_cmp_gt, lg_cmp_lt, lg_cmp_eq, Nat.le_refl, Nat.zero_le, ne_eq, Nat.add_zero, dS_settle_0, dS_settle_1, dS_settle_2, dS_settle_3, dS_settle_4, dS_settle_5, dS_settle_8, dS_settle_11, dS_settle_12, dS_settle_15, dS_settle_16, dS_settle_17, dS_settle_20, dS_settle_21, dS_settle_22, dS_settle_25, dS_settle_28, dS_settle_29, dS_settle_30, dS_settle_31, dS_settle_32, dS_settle_35, dS_settle_38, dS_settle_39, e2]
    exact hQ S h hF
  | succ f ih =>
    intro i a M S hi h hF hQ
    have e2 : ((256 : Int32) < nI i) = False := by
      have := nI_ltI (a := 256) (b := i) (by decide) (by omega)
      rw [show nI 256 = (256 : Int32) from rfl] at this
      simp [this]; omega
    refine xrun_ok hV [] 20 _ _ _ _ _ _ ?_
    simp (maxDischargeDepth := 60) only [xrun, xisc, ↓xstep, xget, xtgt, xcmp, xacmp, xprev, xisR, xnt, List.set, List.length, xsw, xlk, true_or, or_true, if_true, if_false, true_and, and_true, List.mem_cons, List.not_mem_nil, or_false, false_or, Bool.false_eq_true, reduceCtorEq, not_false_eq_true, forall_const, Nat.zero_add, Nat.reduceAdd, Nat.reduceSub, Int.reduceAdd, Int.reduceNeg, Int.reduceToNat, Nat.reduceEqDiff, Nat.reduceLT, Nat.reduceLeDiff, Int.reduceLE, Int.reduceLT, reduceIte, Int.cast_ofNat_Int, Int.natCast_zero, Int.natCast_one, Int.reduceAdd, eq_self, Int.reduceSub, List.length_cons, List.length_nil, xli_m1, xli_0, xli_1, xli_2, xli_3, xli_4, xli_5, xlb_8, xlb_12, xlb_31, xlb_32, xlb_64, xls_256, xls_513, xls_2048, xls_4096, xll_0, xll_1, xnr_i, xnr_0, xnr_1, xnr_ite, xft_i, xft_0, xft_1, xat_999, xat_1001, xat_1002, xat_1003, xat_2001, xat_2002, xat_2003, List.getElem?_cons_succ, List.getElem?_cons_zero, xfn_0, xfn_1, xfn_2, xfn_3, x10, x01, not_true_eq_false, false_implies, implies_true, true_implies, xrm_c, xrm_s, xnl_4, xnl_32, xnl_64, xnl_256, xtn_4, xtn_32, xtn_64, xtn_256, Option.some.injEq, Sum.inl.injEq, Sum.inr.injEq, exists_eq_left', exists_eq_right, Option.toList_some, Option.toList_none, List.cons_append, List.nil_append, xE, lg_cmp_ge, lg_cmp_le, lg_cmp_gt, lg_cmp_lt, lg_cmp_eq, Nat.le_refl, Nat.zero_le, ne_eq, Nat.add_zero, dS_settle_0, dS_settle_1, dS_settle_2, dS_settle_3, dS_settle_4, dS_settle_5, dS_settle_8, dS_settle_11, dS_settle_12, dS_settle_15, dS_settle_16, dS_settle_17, dS_settle_20, dS_settle_21, dS_settle_22, dS_settle_25, dS_settle_28, dS_settle_29, dS_settle_30, dS_settle_31, dS_settle_32, dS_settle_35, dS_settle_38, dS_settle_39, e2]
    refine hV.call [] (As := [.inr (.inr (some th))]) xh_3_122 dS_settle_12 (c_makePasses h) (Or.inr ⟨_, _, rfl, fun _ => h.th⟩) rfl rfl (by decide) (by decide) (by decide) ?_
    rintro r S1 ⟨rfl, g1, g2⟩
    refine xrun_ok hV [] 20 _ _ _ _ _ _ ?_
    simp (maxDischargeDepth := 60) only [xrun, xisc, ↓xstep, xget, xtgt, xcmp, xacmp, xprev, xisR, xnt, List.set, List.length, xsw, xlk, true_or, or_true, if_true, if_false, true_and, and_true, List.mem_cons, List.not_mem_nil, or_false, false_or, Bool.false_eq_true, reduceCtorEq, not_false_eq_true, forall_const, Nat.zero_add, Nat.reduceAdd, Nat.reduceSub, Int.reduceAdd, Int.reduceNeg, Int.reduceToNat, Nat.reduceEqDiff, Nat.reduceLT, Nat.reduceLeDiff, Int.reduceLE, Int.reduceLT, reduceIte, Int.cast_ofNat_Int, Int.natCast_zero, Int.natCast_one, Int.reduceAdd, eq_self, Int.reduceSub, List.length_cons, List.length_nil, xli_m1, xli_0, xli_1, xli_2, xli_3, xli_4, xli_5, xlb_8, xlb_12, xlb_31, xlb_32, xlb_64, xls_256, xls_513, xls_2048, xls_4096, xll_0, xll_1, xnr_i, xnr_0, xnr_1, xnr_ite, xft_i, xft_0, xft_1, xat_999, xat_1001, xat_1002, xat_1003, xat_2001, xat_2002, xat_2003, List.getElem?_cons_succ, List.getElem?_cons_zero, xfn_0, xfn_1, xfn_2, xfn_3, x10, x01, not_true_eq_false, false_implies, implies_true, true_implies, xrm_c, xrm_s, xnl_4, xnl_32, xnl_64, xnl_256, xtn_4, xtn_32, xtn_64, xtn_256, Option.some.injEq, Sum.inl.injEq, Sum.inr.injEq, exists_eq_left', exists_eq_right, Option.toList_some, Option.toList_none, List.cons_append, List.nil_append, xE, lg_cmp_ge, lg_cmp_le, lg_cmp_gt, lg_cmp_lt, lg_cmp_eq, Nat.le_refl, Nat.zero_le, ne_eq, Nat.add_zero, dS_settle_0, dS_settle_1, dS_settle_2, dS_settle_3, dS_settle_4, dS_settle_5, dS_settle_8, dS_settle_11, dS_settle_12, dS_settle_15, dS_settle_16, dS_settle_17, dS_settle_20, dS_settle_21, dS_settle_22, dS_settle_25, dS_settle_28, dS_settle_29, dS_settle_30, dS_settle_31, dS_settle_32, dS_settle_35, dS_settle_38, dS_settle_39]
    have g1' : rCx S1 th (mshr 513 M).2 := g1
    refine hV.call [] (As := [.inr (.inr (some th))]) xh_3_125 dS_settle_17 (c_fix g1') (Or.inr ⟨_, _, rfl, fun _ => g1'.th⟩) rfl rfl (by decide) (by decide) (by decide) ?_
    rintro r S2 ⟨rfl, k1, k2⟩
    have hcl := ncnt_le (mtight (mshr 513 M).2) ((mshr 513 M).2 12 0)
    have hw := g1'.wf.1.2.2.1
    have er : (oFix (mshr 513 M).2).1 = nI (ncnt (mtight (mshr 513 M).2) ((mshr 513 M).2 12 0)) := rfl
    have k1' : rCx S2 th (mfix (mshr 513 M).2) := k1
    have hF2 := (hF.tr g2).tr k2
    have ez : (nI (ncnt (mtight (mshr 513 M).2) ((mshr 513 M).2 12 0)) = 0) = (ncnt (mtight (mshr 513 M).2) ((mshr 513 M).2 12 0) = 0) := propext (nI_eq (b := 0) (by omega) (by decide))
    refine xrun_ok hV [4] 20 _ _ _ _ _ _ ?_
    simp (maxDischargeDepth := 60) only [xrun, xisc, ↓xstep, xget, xtgt, xcmp, xacmp, xprev, xisR, xnt, List.set, List.length, xsw, xlk, true_or, or_true, if_true, if_false, true_and, and_true, List.mem_cons, List.not_mem_nil, or_false, false_or, Bool.false_eq_true, reduceCtorEq, not_false_eq_true, forall_const, Nat.zero_add, Nat.reduceAdd, Nat.reduceSub, Int.reduceAdd, Int.reduceNeg, Int.reduceToNat, Nat.reduceEqDiff, Nat.reduceLT, Nat.reduceLeDiff, Int.reduceLE, Int.reduceLT, reduceIte, Int.cast_ofNat_Int, Int.natCast_zero, Int.natCast_one, Int.reduceAdd, eq_self, Int.reduceSub, List.length_cons, List.length_nil, xli_m1, xli_0, xli_1, xli_2, xli_3, xli_4, xli_5, xlb_8, xlb_12, xlb_31, xlb_32, xlb_64, xls_256, xls_513, xls_2048, xls_4096, xll_0, xll_1, xnr_i, xnr_0, xnr_1, xnr_ite, xft_i, xft_0, xft_1, xat_999, xat_1001, xat_1002, xat_1003, xat_2001, xat_2002, xat_2003, List.getElem?_cons_succ, List.getElem?_cons_zero, xfn_0, xfn_1, xfn_2, xfn_3, x10, x01, not_true_eq_false, false_implies, implies_true, true_implies, xrm_c, xrm_s, xnl_4, xnl_32, xnl_64, xnl_256, xtn_4, xtn_32, xtn_64, xtn_256, Option.some.injEq, Sum.inl.injEq, Sum.inr.injEq, exists_eq_left', exists_eq_right, Option.toList_some, Option.toList_none, List.cons_append, List.nil_append, xE, lg_cmp_ge, lg_cmp_le, lg_cmp_gt, lg_cmp_lt, lg_cmp_eq, Nat.le_refl, Nat.zero_le, ne_eq, Nat.add_zero, dS_settle_0, dS_settle_1, dS_settle_2, dS_settle_3, dS_settle_4, dS_settle_5, dS_settle_8, dS_settle_11, dS_settle_12, dS_settle_15, dS_settle_16, dS_settle_17, dS_settle_20, dS_settle_21, dS_settle_22, dS_settle_25, dS_settle_28, dS_settle_29, dS_settle_30, dS_settle_31, dS_settle_32, dS_settle_35, dS_settle_38, dS_settle_39, er, ez, nI_1, nI_add]
    refine ⟨fun z => ?_, fun z => ?_⟩
    · have em : msetl (f + 1) M = ((msetl f (mfix (mshr 513 M).2)).1 + ncnt (mtight (mshr 513 M).2) ((mshr 513 M).2 12 0), (msetl f (mfix (mshr 513 M).2)).2) := by rw [msetl, if_neg z]
      rw [em] at hQ
      refine hV.weak [some (.inr (.inr (some th))), some (.inl (nI (a + ncnt (mtight (mshr 513 M).2) ((mshr 513 M).2 12 0)))), some (.inl (nI (i + 1))), none] ⟨rfl, rfl, rfl, trivial⟩ (ih (i + 1) (a + ncnt (mtight (mshr 513 M).2) ((mshr 513 M).2 12 0)) _ S2 (by omega) k1' hF2 (fun S3 w1 w2 => ?_))
      have := hQ S3 w1 w2
      rw [show a + ncnt (mtight (mshr 513 M).2) ((mshr 513 M).2 12 0) + (msetl f (mfix (mshr 513 M).2)).1 = a + ((msetl f (mfix (mshr 513 M).2)).1 + ncnt (mtight (mshr 513 M).2) ((mshr 513 M).2 12 0)) by omega]
      exact this
    · have em : msetl (f + 1) M = (0, mfix (mshr 513 M).2) := by rw [msetl, if_pos z]
      rw [em] at hQ
      exact hQ S2 k1' hF2
set_option maxHeartbeats 4000000 in
set_option maxRecDepth 100000 in
theorem c_settle (h : rCx S th M) : xMet l D n0 mS_settle 0 0 [.inr (.inr (some th))] S (oC S th (oSettle M)) := by
  refine xMet.of (k := mS_settle) (own := 3) (ini := false) xm_S_settle (by decide +kernel) (by decide +kernel) (by decide) (Nat.le_of_ble_eq_true rfl) ?_
  intro V hV
  show V 0 [some (.inr (.inr (some th))), none, none, none] [] S 0 0
  refine xrun_ok hV [4] 20 _ _ _ _ _ _ ?_
  simp (maxDischargeDepth := 60) only [xrun, xisc, ↓xstep, xget, xtgt, xcmp, xacmp, xprev, xisR, xnt, List.set, List.length, xsw, xlk, true_or, or_true, if_true, if_false, true_and, and_true, List.mem_cons, List.not_mem_nil, or_false, false_or, Bool.false_eq_true, reduceCtorEq, not_false_eq_true, forall_const, Nat.zero_add, Nat.reduceAdd, Nat.reduceSub, Int.reduceAdd, Int.reduceNeg, Int.reduceToNat, Nat.reduceEqDiff, Nat.reduceLT, Nat.reduceLeDiff, Int.reduceLE, Int.reduceLT, reduceIte, Int.cast_ofNat_Int, Int.natCast_zero, Int.natCast_one, Int.reduceAdd, eq_self, Int.reduceSub, List.length_cons, List.length_nil, xli_m1, xli_0, xli_1, xli_2, xli_3, xli_4, xli_5, xlb_8, xlb_12, xlb_31, xlb_32, xlb_64, xls_256, xls_513, xls_2048, xls_4096, xll_0, xll_1, xnr_i, xnr_0, xnr_1, xnr_ite, xft_i, xft_0, xft_1, xat_999, xat_1001, xat_1002, xat_1003, xat_2001, xat_2002, xat_2003, List.getElem?_cons_succ, List.getElem?_cons_zero, xfn_0, xfn_1, xfn_2, xfn_3, x10, x01, not_true_eq_false, false_implies, implies_true, true_implies, xrm_c, xrm_s, xnl_4, xnl_32, xnl_64, xnl_256, xtn_4, xtn_32, xtn_64, xtn_256, Option.some.injEq, Sum.inl.injEq, Sum.inr.injEq, exists_eq_left', exists_eq_right, Option.toList_some, Option.toList_none, List.cons_append, List.nil_append, xE, lg_cmp_ge, lg_cmp_le, lg_cmp_gt, lg_cmp_lt, lg_cmp_eq, Nat.le_refl, Nat.zero_le, ne_eq, Nat.add_zero, dS_settle_0, dS_settle_1, dS_settle_2, dS_settle_3, dS_settle_4, dS_settle_5, dS_settle_8, dS_settle_11, dS_settle_12, dS_settle_15, dS_settle_16, dS_settle_17, dS_settle_20, dS_settle_21, dS_settle_22, dS_settle_25, dS_settle_28, dS_settle_29, dS_settle_30, dS_settle_31, dS_settle_32, dS_settle_35, dS_settle_38, dS_settle_39]
  exact settle_loop (S0 := S) hV 257 0 0 M S rfl h (xFr.rf _ _) (fun S1 w1 w2 => ⟨by rw [Nat.zero_add]; rfl, w1, w2⟩)
end SHRINK
