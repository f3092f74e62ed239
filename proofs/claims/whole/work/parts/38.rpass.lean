/-! THE REFERENCE: back, reset, a pass -/
theorem mWF_g {M : mT} (h : mWF M) {p v : Nat} (hv : v ≤ 1) : mWF (mset M 8 p v) := by
  obtain ⟨w1, w2, w3, w4⟩ := h
  refine ⟨w1, w2, fun p' hp' => ?_, w4⟩
  obtain ⟨a1, a2, a3, a4⟩ := w3 p' hp'
  refine ⟨a1, a2, a3, ?_⟩
  rw [mset_eq]
  split
  · exact hv
  · exact a4
theorem mst_s (M : mT) (P : Nat → Bool) (v w : Nat → Nat) (k g j : Nat) (h : ¬ (j = k ∧ (g = 15 ∨ g = 21))) : mst M P v w (k + 1) g j = mst M P v w k g j := by
  by_cases y : g = 15 ∨ g = 21
  · have hj : j ≠ k := fun z => h ⟨z, y⟩
    by_cases z : j < k ∧ P j = true
    · rcases y with rfl | rfl
      · rw [mst_15 _ _ _ _ _ _ z, mst_15 _ _ _ _ _ _ ⟨by omega, z.2⟩]
      · rw [mst_21 _ _ _ _ _ _ z, mst_21 _ _ _ _ _ _ ⟨by omega, z.2⟩]
    · rw [mst_no _ _ _ _ _ _ _ z, mst_no _ _ _ _ _ _ _ (fun x => z ⟨by omega, x.2⟩)]
  · rw [mst_f _ _ _ _ _ _ _ (by omega), mst_f _ _ _ _ _ _ _ (by omega)]
section RPASS
variable {l : Launch} {D : va_G} {n0 : Nat} {S S' : xS} {mo : Nat} {A : Nat → Nat} {M : mT}
theorem rF_gone (h : rF S mo A M) {p v : Nat} (hp : p < M 4 0) (hv : v ≤ 1) : rF (xpi S (A 8) p (nI v)) mo A (mset M 8 p v) := by
  refine h.wr (M' := mset M 8 p v) (f := 8) rfl (mWF_g h.1 hv) ?_ (fun g j y' hg hv' => vOK_to hv' (fun _ => rfl) (fun _ => rfl) (fun _ => rfl) (fun _ => rfl) (fun w => by rw [mset_eq, if_neg (fun z => by omega)]) (by rw [mset_eq, if_neg hg]))
  show nI v = nI (if p < M 4 0 then mset M 8 p v 8 p else 0)
  rw [if_pos hp, mset_eq, if_pos ⟨rfl, rfl⟩]
theorem rF_st {P : Nat → Bool} {v w : Nat → Nat} {k : Nat} (hM : mWF M) (hv : mVok M P v w) (h : rF S mo A (mst M P v w k)) (hk : k < M 12 0) (hp : P k = true) (hS : rS S' mo A) (h15 : xW S' mo A 15 k = nI (v k)) (h21 : xW S' mo A 21 k = nI (w k)) (ho : ∀ g j, ¬ (j = k ∧ (g = 15 ∨ g = 21)) → xW S' mo A g j = xW S mo A g j) : rF S' mo A (mst M P v w (k + 1)) := by
  have e := fun f i hf => (mst_f M P v w (k + 1) f i hf).trans (mst_f M P v w k f i hf).symm
  refine ⟨mWF_st hM hv (k + 1), hS, fun g j => ?_⟩
  by_cases z : j = k ∧ (g = 15 ∨ g = 21)
  · rw [z.1]
    rcases z.2 with z2 | z2
    · rw [z2, h15]
      show k < mst M P v w (k + 1) 12 0 → mst M P v w (k + 1) 13 k ≠ 4 → nI (v k) = nI (mst M P v w (k + 1) 15 k)
      intro _ _
      rw [mst_15 _ _ _ _ _ _ ⟨by omega, hp⟩]
    · rw [z2, h21]
      show nI (w k) = nI (if k < mst M P v w (k + 1) 12 0 then mst M P v w (k + 1) 21 k else 0)
      rw [mst_f _ _ _ _ _ 12 0 (by decide), if_pos hk, mst_21 _ _ _ _ _ _ ⟨by omega, hp⟩]
  · rw [ho g j z]
    exact vOK_to (h.v g j) (fun _ => e 4 0 (by decide)) (fun _ => e 12 0 (by decide)) (fun _ => e 25 0 (by decide)) (fun _ => e 13 j (by decide)) (fun w => e g 0 (by omega)) (mst_s M P v w k g j z)
theorem rF_st2 {P : Nat → Bool} {v w : Nat → Nat} {k : Nat} (hM : mWF M) (hv : mVok M P v w) (h : rF S mo A (mst M P v w k)) (hk : k < M 12 0) (hp : P k = true) : rF (xpi (xpi S (A 15) k (nI (v k))) (A 21) k (nI (w k))) mo A (mst M P v w (k + 1)) := by
  refine rF_st hM hv h hk hp h.2.1 ?_ ?_ (fun g j z => ?_)
  · rw [xW_a (h.2.1.pi _ _ _) (f := 21) rfl, if_neg (fun y => by have := y.1; omega), xW_a h.2.1 (f := 15) rfl, if_pos ⟨rfl, rfl⟩]
  · rw [xW_a (h.2.1.pi _ _ _) (f := 21) rfl, if_pos ⟨rfl, rfl⟩]
  · rw [xW_a (h.2.1.pi _ _ _) (f := 21) rfl, if_neg (fun y => z ⟨y.2, Or.inr y.1⟩), xW_a h.2.1 (f := 15) rfl, if_neg (fun y => z ⟨y.2, Or.inl y.1⟩)]
theorem rF_st1 {P : Nat → Bool} {v w : Nat → Nat} {k : Nat} (hM : mWF M) (hv : mVok M P v w) (h : rF S mo A (mst M P v w k)) (hk : k < M 12 0) (hp : P k = true) (h21 : xi S (A 21) k = nI (w k)) : rF (xpi S (A 15) k (nI (v k))) mo A (mst M P v w (k + 1)) := by
  refine rF_st hM hv h hk hp h.2.1 ?_ ?_ (fun g j z => ?_)
  · rw [xW_a h.2.1 (f := 15) rfl, if_pos ⟨rfl, rfl⟩]
  · rw [xW_a h.2.1 (f := 15) rfl, if_neg (fun y => by have := y.1; omega)]
    exact h21
  · rw [xW_a h.2.1 (f := 15) rfl, if_neg (fun y => z ⟨y.2, Or.inl y.1⟩)]
set_option maxHeartbeats 4000000 in
set_option maxRecDepth 100000 in
theorem d_back_loop (hM : mWF M) {S0 : xS} {V : xKt} {Q : Option xVal → xS → Prop}
    (hV : xCl l D n0 4 cM_back false none (xrm mM_back 0 0) V (xE 0 0 Q))
    (hQ : ∀ S, rF S mo A (mback M) → xFr tM S0 S → Q none S) :
    ∀ (n k : Nat) (S : xS), k ≤ M 4 0 → M 4 0 - k = n → rF S mo A (mgone M (gput (fun _ => 0) (M 8) k)) → xFr tM S0 S → V 2 [some (.inr (.inr (some mo))), some (.inl (nI k))] [] S 0 0 := by
  have hw := hM.1.2.1
  intro n
  induction n with
  | zero =>
    intro k S hk hn h hF
    have : k = M 4 0 := by omega
    subst this
    have hmo := h.mo
    have hs : xi S mo 4 = nI (M 4 0) := h.s4
    have ele : (nI (M 4 0) ≤ nI (M 4 0)) = True := eq_true (nI_le (Nat.le_refl _) (by omega))
    have ee : mgone M (gput (fun _ => 0) (M 8) (M 4 0)) = mback M := mgone_eq (fun p hp => by simp [gput, hp])
    have hq := hQ S (by rw [← ee]; exact h) hF
    refine xrun_ok hV [] 20 _ _ _ _ _ _ ?_
    simp (maxDischargeDepth := 60) only [xrun, xisc, ↓xstep, xget, xtgt, xcmp, xacmp, xprev, xisR, xnt, List.set, List.length, xsw, xlk, true_or, or_true, if_true, if_false, true_and, and_true, List.mem_cons, List.not_mem_nil, or_false, false_or, Bool.false_eq_true, reduceCtorEq, not_false_eq_true, forall_const, Nat.zero_add, Nat.reduceAdd, Nat.reduceSub, Int.reduceAdd, Int.reduceNeg, Int.reduceToNat, Nat.reduceEqDiff, Nat.reduceLT, Nat.reduceLeDiff, Int.reduceLE, Int.reduceLT, reduceIte, Int.cast_ofNat_Int, Int.natCast_zero, Int.natCast_one, Int.reduceAdd, eq_self, Int.reduceSub, List.length_cons, List.length_nil, xli_m1, xli_0, xli_1, xli_2, xli_3, xli_4, xli_5, xlb_8, xlb_12, xlb_31, xlb_32, xlb_64, xls_256, xls_513, xls_2048, xls_4096, xll_0, xll_1, xnr_i, xnr_0, xnr_1, xnr_ite, xft_i, xft_0, xft_1, xat_999, xat_1001, xat_1002, xat_1003, xat_2001, xat_2002, xat_2003, List.getElem?_cons_succ, List.getElem?_cons_zero, xfn_0, xfn_1, xfn_2, xfn_3, x10, x01, not_true_eq_false, false_implies, implies_true, true_implies, xrm_c, xrm_s, xnl_4, xnl_32, xnl_64, xnl_256, xtn_4, xtn_32, xtn_64, xtn_256, Option.some.injEq, Sum.inl.injEq, Sum.inr.injEq, exists_eq_left', exists_eq_right, Option.toList_some, Option.toList_none, List.cons_append, List.nil_append, xE, lg_cmp_ge, lg_cmp_le, lg_cmp_gt, lg_cmp_lt, lg_cmp_eq, Nat.le_refl, Nat.zero_le, ne_eq, Nat.add_zero, dM_back_0, dM_back_1, dM_back_2, dM_back_3, dM_back_4, dM_back_7, dM_back_10, dM_back_11, dM_back_14, dM_back_15, dM_back_16, dM_back_17, dM_back_20, dM_back_23, xf_4_83, xf_4_29, hmo, hs, ele]
    exact hq
  | succ n ih =>
    intro k S hk hn h hF
    have hkl : k < M 4 0 := by omega
    have hmo := h.mo
    have hs : xi S mo 4 = nI (M 4 0) := h.s4
    have r8 : xr S mo 8 = some (A 8) := h.ar 8 rfl
    have c8 : xc S (A 8) = 1003 := h.tg 8 rfl
    have l8 : xl S (A 8) = 32 := h.ln 8 rfl
    have n8 : (mo = A 8) = False := eq_false (fun e => h.nm (f := 8) rfl e.symm)
    have ink : vp_in (nI k) 32 := vp_in_nI (by omega) (by decide)
    have e0 : (nI k).toNatClampNeg = k := nI_clamp (by omega)
    have ele : (nI (M 4 0) ≤ nI k) = False := eq_false (nI_ge hkl (by omega))
    have g1 := rF_gone h (p := k) (v := 0) hkl (by decide)
    rw [mgone_set hkl, gput_s] at g1
    refine xrun_ok hV [2] 40 _ _ _ _ _ _ ?_
    simp (maxDischargeDepth := 60) only [xrun, xisc, ↓xstep, xget, xtgt, xcmp, xacmp, xprev, xisR, xnt, List.set, List.length, xsw, xlk, true_or, or_true, if_true, if_false, true_and, and_true, List.mem_cons, List.not_mem_nil, or_false, false_or, Bool.false_eq_true, reduceCtorEq, not_false_eq_true, forall_const, Nat.zero_add, Nat.reduceAdd, Nat.reduceSub, Int.reduceAdd, Int.reduceNeg, Int.reduceToNat, Nat.reduceEqDiff, Nat.reduceLT, Nat.reduceLeDiff, Int.reduceLE, Int.reduceLT, reduceIte, Int.cast_ofNat_Int, Int.natCast_zero, Int.natCast_one, Int.reduceAdd, eq_self, Int.reduceSub, List.length_cons, List.length_nil, xli_m1, xli_0, xli_1, xli_2, xli_3, xli_4, xli_5, xlb_8, xlb_12, xlb_31, xlb_32, xlb_64, xls_256, xls_513, xls_2048, xls_4096, xll_0, xll_1, xnr_i, xnr_0, xnr_1, xnr_ite, xft_i, xft_0, xft_1, xat_999, xat_1001, xat_1002, xat_1003, xat_2001, xat_2002, xat_2003, List.getElem?_cons_succ, List.getElem?_cons_zero, xfn_0, xfn_1, xfn_2, xfn_3, x10, x01, not_true_eq_false, false_implies, implies_true, true_implies, xrm_c, xrm_s, xnl_4, xnl_32, xnl_64, xnl_256, xtn_4, xtn_32, xtn_64, xtn_256, Option.some.injEq, Sum.inl.injEq, Sum.inr.injEq, exists_eq_left', exists_eq_right, Option.toList_some, Option.toList_none, List.cons_append, List.nil_append, xE, lg_cmp_ge, lg_cmp_le, lg_cmp_gt, lg_cmp_lt, lg_cmp_eq, Nat.le_refl, Nat.zero_le, ne_eq, Nat.add_zero, dM_back_0, dM_back_1, dM_back_2, dM_back_3, dM_back_4, dM_back_7, dM_back_10, dM_back_11, dM_back_14, dM_back_15, dM_back_16, dM_back_17, dM_back_20, dM_back_23, xf_4_83, xf_4_29, hmo, hs, ele, r8, c8, l8, n8, ink, e0, nI_1]
    exact ih (k + 1) _ (by omega) (by omega) g1 (hF.tr (xFr.ar h.2.1 (f := 8) rfl _ _))
set_option maxHeartbeats 4000000 in
set_option maxRecDepth 100000 in
theorem d_back (h : rFx S mo M) : xMet l D n0 mM_back 0 0 [.inr (.inr (some mo))] S (fun r S' => r = none ∧ rFx S' mo (mback M) ∧ xFr tM S S') := by
  obtain ⟨A, h⟩ := h
  refine xMet.of (k := mM_back) (own := 4) (ini := false) xm_M_back (by decide +kernel) (by decide +kernel) (by decide) (Nat.le_of_ble_eq_true rfl) ?_
  intro V hV
  show V 0 [some (.inr (.inr (some mo))), none] [] S 0 0
  refine xrun_ok hV [2] 20 _ _ _ _ _ _ ?_
  simp (maxDischargeDepth := 60) only [xrun, xisc, ↓xstep, xget, xtgt, xcmp, xacmp, xprev, xisR, xnt, List.set, List.length, xsw, xlk, true_or, or_true, if_true, if_false, true_and, and_true, List.mem_cons, List.not_mem_nil, or_false, false_or, Bool.false_eq_true, reduceCtorEq, not_false_eq_true, forall_const, Nat.zero_add, Nat.reduceAdd, Nat.reduceSub, Int.reduceAdd, Int.reduceNeg, Int.reduceToNat, Nat.reduceEqDiff, Nat.reduceLT, Nat.reduceLeDiff, Int.reduceLE, Int.reduceLT, reduceIte, Int.cast_ofNat_Int, Int.natCast_zero, Int.natCast_one, Int.reduceAdd, eq_self, Int.reduceSub, List.length_cons, List.length_nil, xli_m1, xli_0, xli_1, xli_2, xli_3, xli_4, xli_5, xlb_8, xlb_12, xlb_31, xlb_32, xlb_64, xls_256, xls_513, xls_2048, xls_4096, xll_0, xll_1, xnr_i, xnr_0, xnr_1, xnr_ite, xft_i, xft_0, xft_1, xat_999, xat_1001, xat_1002, xat_1003, xat_2001, xat_2002, xat_2003, List.getElem?_cons_succ, List.getElem?_cons_zero, xfn_0, xfn_1, xfn_2, xfn_3, x10, x01, not_true_eq_false, false_implies, implies_true, true_implies, xrm_c, xrm_s, xnl_4, xnl_32, xnl_64, xnl_256, xtn_4, xtn_32, xtn_64, xtn_256, Option.some.injEq, Sum.inl.injEq, Sum.inr.injEq, exists_eq_left', exists_eq_right, Option.toList_some, Option.toList_none, List.cons_append, List.nil_append, xE, lg_cmp_ge, lg_cmp_le, lg_cmp_gt, lg_cmp_lt, lg_cmp_eq, Nat.le_refl, Nat.zero_le, ne_eq, Nat.add_zero, dM_back_0, dM_back_1, dM_back_2, dM_back_3, dM_back_4, dM_back_7, dM_back_10, dM_back_11, dM_back_14, dM_back_15, dM_back_16, dM_back_17, dM_back_20, dM_back_23, xf_4_83, xf_4_29]
  exact d_back_loop (S0 := S) h.1 hV (fun S2 w1 w2 => ⟨rfl, ⟨_, w1⟩, w2⟩) (M 4 0) 0 S (Nat.zero_le _) (by omega) (by rw [gput_0, mgone_id]; exact h) (xFr.rf _ _)
set_option maxHeartbeats 4000000 in
set_option maxRecDepth 100000 in
theorem d_reset_loop (hM : mWF M) {S0 : xS} {V : xKt} {Q : Option xVal → xS → Prop}
    (hV : xCl l D n0 4 cM_reset false none (xrm mM_reset 0 0) V (xE 0 0 Q))
    (hQ : ∀ S, rF S mo A (mreset M) → xFr tM S0 S → Q none S) :
    ∀ (n k : Nat) (S : xS), k ≤ M 12 0 → M 12 0 - k = n → rF S mo A (mst M (maim M) (fun k => mgr (M 13 k)) (fun _ => 0) k) → xFr tM S0 S → V 2 [some (.inr (.inr (some mo))), some (.inl (nI k))] [] S 0 0 := by
  have hw := hM.1.2.2.1
  intro n
  induction n with
  | zero =>
    intro k S hk hn h hF
    have : k = M 12 0 := by omega
    subst this
    have hmo := h.mo
    have hs := h.s12
    rw [mst_f _ _ _ _ _ 12 0 (by decide)] at hs
    have ele : (nI (M 12 0) ≤ nI (M 12 0)) = True := eq_true (nI_le (Nat.le_refl _) (by omega))
    refine xrun_ok hV [] 20 _ _ _ _ _ _ ?_
    simp (maxDischargeDepth := 60) only [xrun, xisc, ↓xstep, xget, xtgt, xcmp, xacmp, xprev, xisR, xnt, List.set, List.length, xsw, xlk, true_or, or_true, if_true, if_false, true_and, and_true, List.mem_cons, List.not_mem_nil, or_false, false_or, Bool.false_eq_true, reduceCtorEq, not_false_eq_true, forall_const, Nat.zero_add, Nat.reduceAdd, Nat.reduceSub, Int.reduceAdd, Int.reduceNeg, Int.reduceToNat, Nat.reduceEqDiff, Nat.reduceLT, Nat.reduceLeDiff, Int.reduceLE, Int.reduceLT, reduceIte, Int.cast_ofNat_Int, Int.natCast_zero, Int.natCast_one, Int.reduceAdd, eq_self, Int.reduceSub, List.length_cons, List.length_nil, xli_m1, xli_0, xli_1, xli_2, xli_3, xli_4, xli_5, xlb_8, xlb_12, xlb_31, xlb_32, xlb_64, xls_256, xls_513, xls_2048, xls_4096, xll_0, xll_1, xnr_i, xnr_0, xnr_1, xnr_ite, xft_i, xft_0, xft_1, xat_999, xat_1001, xat_1002, xat_1003, xat_2001, xat_2002, xat_2003, List.getElem?_cons_succ, List.getElem?_cons_zero, xfn_0, xfn_1, xfn_2, xfn_3, x10, x01, not_true_eq_false, false_implies, implies_true, true_implies, xrm_c, xrm_s, xnl_4, xnl_32, xnl_64, xnl_256, xtn_4, xtn_32, xtn_64, xtn_256, Option.some.injEq, Sum.inl.injEq, Sum.inr.injEq, exists_eq_left', exists_eq_right, Option.toList_some, Option.toList_none, List.cons_append, List.nil_append, xE, lg_cmp_ge, lg_cmp_le, lg_cmp_gt, lg_cmp_lt, lg_cmp_eq, Nat.le_refl, Nat.zero_le, ne_eq, Nat.add_zero, dM_reset_0, dM_reset_1, dM_reset_2, dM_reset_3, dM_reset_4, dM_reset_7, dM_reset_10, dM_reset_11, dM_reset_12, dM_reset_15, dM_reset_18, dM_reset_21, dM_reset_22, dM_reset_25, dM_reset_26, dM_reset_27, dM_reset_30, dM_reset_31, dM_reset_32, dM_reset_35, dM_reset_36, dM_reset_37, dM_reset_40, dM_reset_41, dM_reset_42, dM_reset_43, dM_reset_46, dM_reset_49, xf_4_91, xf_4_47, xf_4_41, xf_4_65, hmo, hs, ele]
    exact hQ S h hF
  | succ n ih =>
    intro k S hk hn h hF
    have hkl : k < M 12 0 := by omega
    have hmo := h.mo
    have hs := h.s12
    rw [mst_f _ _ _ _ _ 12 0 (by decide)] at hs
    have hk' : k < mst M (maim M) (fun k => mgr (M 13 k)) (fun _ => 0) k 12 0 := by rw [mst_f _ _ _ _ _ 12 0 (by decide)]; exact hkl
    have ea : maim (mst M (maim M) (fun k => mgr (M 13 k)) (fun _ => 0) k) k = maim M k := by simp only [maim, mst_f M _ _ _ k 13 k (by decide)]
    have r13 : xr S mo 13 = some (A 13) := h.ar 13 rfl
    have c13 : xc S (A 13) = 1002 := h.tg 13 rfl
    have l13 : xl S (A 13) = 256 := h.ln 13 rfl
    have n13 : (mo = A 13) = False := eq_false (fun e => h.nm (f := 13) rfl e.symm)
    have r15 : xr S mo 15 = some (A 15) := h.ar 15 rfl
    have c15 : xc S (A 15) = 1002 := h.tg 15 rfl
    have l15 : xl S (A 15) = 256 := h.ln 15 rfl
    have n15 : (mo = A 15) = False := eq_false (fun e => h.nm (f := 15) rfl e.symm)
    have r21 : xr S mo 21 = some (A 21) := h.ar 21 rfl
    have c21 : xc S (A 21) = 1003 := h.tg 21 rfl
    have l21 : xl S (A 21) = 256 := h.ln 21 rfl
    have n21 : (mo = A 21) = False := eq_false (fun e => h.nm (f := 21) rfl e.symm)
    have v13 := h.v13 hk'
    rw [mst_f _ _ _ _ _ 13 k (by decide)] at v13
    have ink : vp_in (nI k) 256 := vp_in_nI (by omega) (by decide)
    have e0 : (nI k).toNatClampNeg = k := nI_clamp (by omega)
    have ele : (nI (M 12 0) ≤ nI k) = False := eq_false (nI_ge hkl (by omega))
    refine xrun_ok hV [] 20 _ _ _ _ _ _ ?_
    simp (maxDischargeDepth := 60) only [xrun, xisc, ↓xstep, xget, xtgt, xcmp, xacmp, xprev, xisR, xnt, List.set, List.length, xsw, xlk, true_or, or_true, if_true, if_false, true_and, and_true, List.mem_cons, List.not_mem_nil, or_false, false_or, Bool.false_eq_true, reduceCtorEq, not_false_eq_true, forall_const, Nat.zero_add, Nat.reduceAdd, Nat.reduceSub, Int.reduceAdd, Int.reduceNeg, Int.reduceToNat, Nat.reduceEqDiff, Nat.reduceLT, Nat.reduceLeDiff, Int.reduceLE, Int.reduceLT, reduceIte, Int.cast_ofNat_Int, Int.natCast_zero, Int.natCast_one, Int.reduceAdd, eq_self, Int.reduceSub, List.length_cons, List.length_nil, xli_m1, xli_0, xli_1, xli_2, xli_3, xli_4, xli_5, xlb_8, xlb_12, xlb_31, xlb_32, xlb_64, xls_256, xls_513, xls_2048, xls_4096, xll_0, xll_1, xnr_i, xnr_0, xnr_1, xnr_ite, xft_i, xft_0, xft_1, xat_999, xat_1001, xat_1002, xat_1003, xat_2001, xat_2002, xat_2003, List.getElem?_cons_succ, List.getElem?_cons_zero, xfn_0, xfn_1, xfn_2, xfn_3, x10, x01, not_true_eq_false, false_implies, implies_true, true_implies, xrm_c, xrm_s, xnl_4, xnl_32, xnl_64, xnl_256, xtn_4, xtn_32, xtn_64, xtn_256, Option.some.injEq, Sum.inl.injEq, Sum.inr.injEq, exists_eq_left', exists_eq_right, Option.toList_some, Option.toList_none, List.cons_append, List.nil_append, xE, lg_cmp_ge, lg_cmp_le, lg_cmp_gt, lg_cmp_lt, lg_cmp_eq, Nat.le_refl, Nat.zero_le, ne_eq, Nat.add_zero, dM_reset_0, dM_reset_1, dM_reset_2, dM_reset_3, dM_reset_4, dM_reset_7, dM_reset_10, dM_reset_11, dM_reset_12, dM_reset_15, dM_reset_18, dM_reset_21, dM_reset_22, dM_reset_25, dM_reset_26, dM_reset_27, dM_reset_30, dM_reset_31, dM_reset_32, dM_reset_35, dM_reset_36, dM_reset_37, dM_reset_40, dM_reset_41, dM_reset_42, dM_reset_43, dM_reset_46, dM_reset_49, xf_4_91, xf_4_47, xf_4_41, xf_4_65, hmo, hs, ele]
    refine hV.call [] xh_4_114 dM_reset_12 (d_shrinks h hk') (Or.inr ⟨_, _, rfl, fun _ => hmo⟩) rfl rfl (by decide) (by decide) (by decide) ?_
    rintro r S' ⟨rfl, rfl⟩
    rw [ea]
    by_cases ha : maim M k = true
    · rw [if_pos ha]
      refine xrun_ok hV [] 20 _ _ _ _ _ _ ?_
      simp (maxDischargeDepth := 60) only [xrun, xisc, ↓xstep, xget, xtgt, xcmp, xacmp, xprev, xisR, xnt, List.set, List.length, xsw, xlk, true_or, or_true, if_true, if_false, true_and, and_true, List.mem_cons, List.not_mem_nil, or_false, false_or, Bool.false_eq_true, reduceCtorEq, not_false_eq_true, forall_const, Nat.zero_add, Nat.reduceAdd, Nat.reduceSub, Int.reduceAdd, Int.reduceNeg, Int.reduceToNat, Nat.reduceEqDiff, Nat.reduceLT, Nat.reduceLeDiff, Int.reduceLE, Int.reduceLT, reduceIte, Int.cast_ofNat_Int, Int.natCast_zero, Int.natCast_one, Int.reduceAdd, eq_self, Int.reduceSub, List.length_cons, List.length_nil, xli_m1, xli_0, xli_1, xli_2, xli_3, xli_4, xli_5, xlb_8, xlb_12, xlb_31, xlb_32, xlb_64, xls_256, xls_513, xls_2048, xls_4096, xll_0, xll_1, xnr_i, xnr_0, xnr_1, xnr_ite, xft_i, xft_0, xft_1, xat_999, xat_1001, xat_1002, xat_1003, xat_2001, xat_2002, xat_2003, List.getElem?_cons_succ, List.getElem?_cons_zero, xfn_0, xfn_1, xfn_2, xfn_3, x10, x01, not_true_eq_false, false_implies, implies_true, true_implies, xrm_c, xrm_s, xnl_4, xnl_32, xnl_64, xnl_256, xtn_4, xtn_32, xtn_64, xtn_256, Option.some.injEq, Sum.inl.injEq, Sum.inr.injEq, exists_eq_left', exists_eq_right, Option.toList_some, Option.toList_none, List.cons_append, List.nil_append, xE, lg_cmp_ge, lg_cmp_le, lg_cmp_gt, lg_cmp_lt, lg_cmp_eq, Nat.le_refl, Nat.zero_le, ne_eq, Nat.add_zero, dM_reset_0, dM_reset_1, dM_reset_2, dM_reset_3, dM_reset_4, dM_reset_7, dM_reset_10, dM_reset_11, dM_reset_12, dM_reset_15, dM_reset_18, dM_reset_21, dM_reset_22, dM_reset_25, dM_reset_26, dM_reset_27, dM_reset_30, dM_reset_31, dM_reset_32, dM_reset_35, dM_reset_36, dM_reset_37, dM_reset_40, dM_reset_41, dM_reset_42, dM_reset_43, dM_reset_46, dM_reset_49, xf_4_91, xf_4_47, xf_4_41, xf_4_65, hmo, r13, c13, l13, n13, r15, c15, l15, n15, ink, e0, v13]
      refine hV.call [.inl (nI k), .inr (.inr (some (A 15)))] xh_4_131 dM_reset_32 (d_greatest S' (hM.2.2.2.1 k hkl).1) (Or.inl rfl) rfl rfl (Nat.le_of_ble_eq_true rfl) (by decide) (by decide) ?_
      rintro r S' ⟨rfl, rfl⟩
      refine xrun_ok hV [2] 20 _ _ _ _ _ _ ?_
      simp (maxDischargeDepth := 60) only [xrun, xisc, ↓xstep, xget, xtgt, xcmp, xacmp, xprev, xisR, xnt, List.set, List.length, xsw, xlk, true_or, or_true, if_true, if_false, true_and, and_true, List.mem_cons, List.not_mem_nil, or_false, false_or, Bool.false_eq_true, reduceCtorEq, not_false_eq_true, forall_const, Nat.zero_add, Nat.reduceAdd, Nat.reduceSub, Int.reduceAdd, Int.reduceNeg, Int.reduceToNat, Nat.reduceEqDiff, Nat.reduceLT, Nat.reduceLeDiff, Int.reduceLE, Int.reduceLT, reduceIte, Int.cast_ofNat_Int, Int.natCast_zero, Int.natCast_one, Int.reduceAdd, eq_self, Int.reduceSub, List.length_cons, List.length_nil, xli_m1, xli_0, xli_1, xli_2, xli_3, xli_4, xli_5, xlb_8, xlb_12, xlb_31, xlb_32, xlb_64, xls_256, xls_513, xls_2048, xls_4096, xll_0, xll_1, xnr_i, xnr_0, xnr_1, xnr_ite, xft_i, xft_0, xft_1, xat_999, xat_1001, xat_1002, xat_1003, xat_2001, xat_2002, xat_2003, List.getElem?_cons_succ, List.getElem?_cons_zero, xfn_0, xfn_1, xfn_2, xfn_3, x10, x01, not_true_eq_false, false_implies, implies_true, true_implies, xrm_c, xrm_s, xnl_4, xnl_32, xnl_64, xnl_256, xtn_4, xtn_32, xtn_64, xtn_256, Option.some.injEq, Sum.inl.injEq, Sum.inr.injEq, exists_eq_left', exists_eq_right, Option.toList_some, Option.toList_none, List.cons_append, List.nil_append, xE, lg_cmp_ge, lg_cmp_le, lg_cmp_gt, lg_cmp_lt, lg_cmp_eq, Nat.le_refl, Nat.zero_le, ne_eq, Nat.add_zero, dM_reset_0, dM_reset_1, dM_reset_2, dM_reset_3, dM_reset_4, dM_reset_7, dM_reset_10, dM_reset_11, dM_reset_12, dM_reset_15, dM_reset_18, dM_reset_21, dM_reset_22, dM_reset_25, dM_reset_26, dM_reset_27, dM_reset_30, dM_reset_31, dM_reset_32, dM_reset_35, dM_reset_36, dM_reset_37, dM_reset_40, dM_reset_41, dM_reset_42, dM_reset_43, dM_reset_46, dM_reset_49, xf_4_91, xf_4_47, xf_4_41, xf_4_65, hmo, r15, c15, l15, n15, r21, c21, l21, n21, ink, e0, nI_1, xc_pi, xr_pi, xl_pi]
      exact ih (k + 1) _ (by omega) (by omega) (rF_st2 hM mVok_reset h hkl ha) (hF.tr ((xFr.ar h.2.1 (f := 15) rfl _ _).tr (xFr.ar (h.2.1.pi _ _ _) (f := 21) rfl _ _)))
    · rw [if_neg ha]
      refine xrun_ok hV [2] 20 _ _ _ _ _ _ ?_
      simp (maxDischargeDepth := 60) only [xrun, xisc, ↓xstep, xget, xtgt, xcmp, xacmp, xprev, xisR, xnt, List.set, List.length, xsw, xlk, true_or, or_true, if_true, if_false, true_and, and_true, List.mem_cons, List.not_mem_nil, or_false, false_or, Bool.false_eq_true, reduceCtorEq, not_false_eq_true, forall_const, Nat.zero_add, Nat.reduceAdd, Nat.reduceSub, Int.reduceAdd, Int.reduceNeg, Int.reduceToNat, Nat.reduceEqDiff, Nat.reduceLT, Nat.reduceLeDiff, Int.reduceLE, Int.reduceLT, reduceIte, Int.cast_ofNat_Int, Int.natCast_zero, Int.natCast_one, Int.reduceAdd, eq_self, Int.reduceSub, List.length_cons, List.length_nil, xli_m1, xli_0, xli_1, xli_2, xli_3, xli_4, xli_5, xlb_8, xlb_12, xlb_31, xlb_32, xlb_64, xls_256, xls_513, xls_2048, xls_4096, xll_0, xll_1, xnr_i, xnr_0, xnr_1, xnr_ite, xft_i, xft_0, xft_1, xat_999, xat_1001, xat_1002, xat_1003, xat_2001, xat_2002, xat_2003, List.getElem?_cons_succ, List.getElem?_cons_zero, xfn_0, xfn_1, xfn_2, xfn_3, x10, x01, not_true_eq_false, false_implies, implies_true, true_implies, xrm_c, xrm_s, xnl_4, xnl_32, xnl_64, xnl_256, xtn_4, xtn_32, xtn_64, xtn_256, Option.some.injEq, Sum.inl.injEq, Sum.inr.injEq, exists_eq_left', exists_eq_right, Option.toList_some, Option.toList_none, List.cons_append, List.nil_append, xE, lg_cmp_ge, lg_cmp_le, lg_cmp_gt, lg_cmp_lt, lg_cmp_eq, Nat.le_refl, Nat.zero_le, ne_eq, Nat.add_zero, dM_reset_0, dM_reset_1, dM_reset_2, dM_reset_3, dM_reset_4, dM_reset_7, dM_reset_10, dM_reset_11, dM_reset_12, dM_reset_15, dM_reset_18, dM_reset_21, dM_reset_22, dM_reset_25, dM_reset_26, dM_reset_27, dM_reset_30, dM_reset_31, dM_reset_32, dM_reset_35, dM_reset_36, dM_reset_37, dM_reset_40, dM_reset_41, dM_reset_42, dM_reset_43, dM_reset_46, dM_reset_49, xf_4_91, xf_4_47, xf_4_41, xf_4_65, nI_1]
      exact ih (k + 1) S' (by omega) (by omega) (by rw [mst_skip _ _ _ _ _ (by simpa using ha)]; exact h) hF
set_option maxHeartbeats 4000000 in
set_option maxRecDepth 100000 in
theorem d_reset (h : rFx S mo M) : xMet l D n0 mM_reset 0 0 [.inr (.inr (some mo))] S (fun r S' => r = none ∧ rFx S' mo (mreset M) ∧ xFr tM S S') := by
  obtain ⟨A, h⟩ := h
  refine xMet.of (k := mM_reset) (own := 4) (ini := false) xm_M_reset (by decide +kernel) (by decide +kernel) (by decide) (Nat.le_of_ble_eq_true rfl) ?_
  intro V hV
  show V 0 [some (.inr (.inr (some mo))), none] [] S 0 0
  refine xrun_ok hV [2] 20 _ _ _ _ _ _ ?_
  simp (maxDischargeDepth := 60) only [xrun, xisc, ↓xstep, xget, xtgt, xcmp, xacmp, xprev, xisR, xnt, List.set, List.length, xsw, xlk, true_or, or_true, if_true, if_false, true_and, and_true, List.mem_cons, List.not_mem_nil, or_false, false_or, Bool.false_eq_true, reduceCtorEq, not_false_eq_true, forall_const, Nat.zero_add, Nat.reduceAdd, Nat.reduceSub, Int.reduceAdd, Int.reduceNeg, Int.reduceToNat, Nat.reduceEqDiff, Nat.reduceLT, Nat.reduceLeDiff, Int.reduceLE, Int.reduceLT, reduceIte, Int.cast_ofNat_Int, Int.natCast_zero, Int.natCast_one, Int.reduceAdd, eq_self, Int.reduceSub, List.length_cons, List.length_nil, xli_m1, xli_0, xli_1, xli_2, xli_3, xli_4, xli_5, xlb_8, xlb_12, xlb_31, xlb_32, xlb_64, xls_256, xls_513, xls_2048, xls_4096, xll_0, xll_1, xnr_i, xnr_0, xnr_1, xnr_ite, xft_i, xft_0, xft_1, xat_999, xat_1001, xat_1002, xat_1003, xat_2001, xat_2002, xat_2003, List.getElem?_cons_succ, List.getElem?_cons_zero, xfn_0, xfn_1, xfn_2, xfn_3, x10, x01, not_true_eq_false, false_implies, implies_true, true_implies, xrm_c, xrm_s, xnl_4, xnl_32, xnl_64, xnl_256, xtn_4, xtn_32, xtn_64, xtn_256, Option.some.injEq, Sum.inl.injEq, Sum.inr.injEq, exists_eq_left', exists_eq_right, Option.toList_some, Option.toList_none, List.cons_append, List.nil_append, xE, lg_cmp_ge, lg_cmp_le, lg_cmp_gt, lg_cmp_lt, lg_cmp_eq, Nat.le_refl, Nat.zero_le, ne_eq, Nat.add_zero, dM_reset_0, dM_reset_1, dM_reset_2, dM_reset_3, dM_reset_4, dM_reset_7, dM_reset_10, dM_reset_11, dM_reset_12, dM_reset_15, dM_reset_18, dM_reset_21, dM_reset_22, dM_reset_25, dM_reset_26, dM_reset_27, dM_reset_30, dM_reset_31, dM_reset_32, dM_reset_35, dM_reset_36, dM_reset_37, dM_reset_40, dM_reset_41, dM_reset_42, dM_reset_43, dM_reset_46, dM_reset_49, xf_4_91, xf_4_47, xf_4_41, xf_4_65]
  exact d_reset_loop (S0 := S) h.1 hV (fun S2 w1 w2 => ⟨rfl, ⟨_, w1⟩, w2⟩) (M 12 0) 0 S (Nat.zero_le _) (by omega) (by rw [mst_0]; exact h) (xFr.rf _ _)
theorem kN.w24 (hN : kN S A M) (hS : rS S mo A) (k : Nat) (x : Int32) : kN (xpi S (A 24) k x) A M := by
  refine ⟨fun o ho => ⟨?_, ?_⟩, fun p hp hg => (hN.2 p hp hg).same (fun f j hf => ?_)⟩
  · rw [hS.xo 2 24 rfl rfl (by decide)]; exact (hN.1 o ho).1
  · rw [hS.xo 3 24 rfl rfl (by decide)]; exact (hN.1 o ho).2
  · rw [hS.xo f 24 (by rcases hf with rfl | rfl | rfl | rfl | rfl <;> rfl) rfl (by omega)]
set_option maxHeartbeats 4000000 in
set_option maxRecDepth 100000 in
theorem d_pass_loop1 {S0 : xS} {V : xKt} {Q : Option xVal → xS → Prop}
    (hV : xCl l D n0 4 cM_pass false (some .int) (xrm mM_pass 0 0) V (xE 0 0 Q))
    (hK : ∀ S o, rF S mo A M → xFr tM S0 S → (∀ j, j < M 12 0 → mnot M j = true → xi S (A 24) j = nI (mleast M j)) → V 31 [some (.inr (.inr (some mo))), some o, none] [] S 0 0) :
    ∀ (n k : Nat) (S : xS), k ≤ M 12 0 → M 12 0 - k = n → rF S mo A M → kN S A M → xFr tM S0 S → (∀ j, j < k → mnot M j = true → xi S (A 24) j = nI (mleast M j)) → V 6 [some (.inr (.inr (some mo))), some (.inl (nI k)), none] [] S 0 0 := by
  intro n
  induction n with
  | zero =>
    intro k S hk hn h hN hF hD
    have : k = M 12 0 := by omega
    subst this
    have hmo := h.mo
    have hs := h.s12
    have hw := h.1.1.2.2.1
    have ele : (nI (M 12 0) ≤ nI (M 12 0)) = True := eq_true (nI_le (Nat.le_refl _) (by omega))
    refine xrun_ok hV [31] 20 _ _ _ _ _ _ ?_
    simp (maxDischargeDepth := 60) only [xrun, xisc, ↓xstep, xget, xtgt, xcmp, xacmp, xprev, xisR, xnt, List.set, List.length, xsw, xlk, true_or, or_true, if_true, if_false, true_and, and_true, List.mem_cons, List.not_mem_nil, or_false, false_or, Bool.false_eq_true, reduceCtorEq, not_false_eq_true, forall_const, Nat.zero_add, Nat.reduceAdd, Nat.reduceSub, Int.reduceAdd, Int.reduceNeg, Int.reduceToNat, Nat.reduceEqDiff, Nat.reduceLT, Nat.reduceLeDiff, Int.reduceLE, Int.reduceLT, reduceIte, Int.cast_ofNat_Int, Int.natCast_zero, Int.natCast_one, Int.reduceAdd, eq_self, Int.reduceSub, List.length_cons, List.length_nil, xli_m1, xli_0, xli_1, xli_2, xli_3, xli_4, xli_5, xlb_8, xlb_12, xlb_31, xlb_32, xlb_64, xls_256, xls_513, xls_2048, xls_4096, xll_0, xll_1, xnr_i, xnr_0, xnr_1, xnr_ite, xft_i, xft_0, xft_1, xat_999, xat_1001, xat_1002, xat_1003, xat_2001, xat_2002, xat_2003, List.getElem?_cons_succ, List.getElem?_cons_zero, xfn_0, xfn_1, xfn_2, xfn_3, x10, x01, not_true_eq_false, false_implies, implies_true, true_implies, xrm_c, xrm_s, xnl_4, xnl_32, xnl_64, xnl_256, xtn_4, xtn_32, xtn_64, xtn_256, Option.some.injEq, Sum.inl.injEq, Sum.inr.injEq, exists_eq_left', exists_eq_right, Option.toList_some, Option.toList_none, List.cons_append, List.nil_append, xE, lg_cmp_ge, lg_cmp_le, lg_cmp_gt, lg_cmp_lt, lg_cmp_eq, Nat.le_refl, Nat.zero_le, ne_eq, Nat.add_zero, dM_pass_0, dM_pass_1, dM_pass_4, dM_pass_5, dM_pass_6, dM_pass_7, dM_pass_8, dM_pass_11, dM_pass_14, dM_pass_15, dM_pass_18, dM_pass_19, dM_pass_20, dM_pass_21, dM_pass_24, dM_pass_25, dM_pass_28, dM_pass_31, dM_pass_32, dM_pass_33, dM_pass_34, dM_pass_35, dM_pass_36, dM_pass_37, dM_pass_40, dM_pass_43, dM_pass_44, dM_pass_45, dM_pass_48, dM_pass_51, dM_pass_52, dM_pass_53, dM_pass_56, dM_pass_59, dM_pass_60, dM_pass_63, dM_pass_64, dM_pass_65, dM_pass_68, dM_pass_69, dM_pass_72, dM_pass_73, dM_pass_74, dM_pass_75, dM_pass_78, dM_pass_79, dM_pass_80, dM_pass_83, dM_pass_86, dM_pass_87, dM_pass_90, dM_pass_91, dM_pass_92, dM_pass_95, dM_pass_96, dM_pass_97, dM_pass_98, dM_pass_101, dM_pass_104, dM_pass_107, dM_pass_108, xf_4_91, xf_4_74, xf_4_65, xf_4_47, hmo, hs, ele]
    exact hK S _ h hF hD
  | succ n ih =>
    intro k S hk hn h hN hF hD
    have hkl : k < M 12 0 := by omega
    have hmo := h.mo
    have hs := h.s12
    have hw := h.1.1.2.2.1
    have r24 : xr S mo 24 = some (A 24) := h.ar 24 rfl
    have c24 : xc S (A 24) = 1002 := h.tg 24 rfl
    have l24 : xl S (A 24) = 256 := h.ln 24 rfl
    have n24 : (mo = A 24) = False := eq_false (fun e => h.nm (f := 24) rfl e.symm)
    have ink : vp_in (nI k) 256 := vp_in_nI (by omega) (by decide)
    have e0 : (nI k).toNatClampNeg = k := nI_clamp (by omega)
    have ele : (nI (M 12 0) ≤ nI k) = False := eq_false (nI_ge hkl (by omega))
    refine xrun_ok hV [] 20 _ _ _ _ _ _ ?_
    simp (maxDischargeDepth := 60) only [xrun, xisc, ↓xstep, xget, xtgt, xcmp, xacmp, xprev, xisR, xnt, List.set, List.length, xsw, xlk, true_or, or_true, if_true, if_false, true_and, and_true, List.mem_cons, List.not_mem_nil, or_false, false_or, Bool.false_eq_true, reduceCtorEq, not_false_eq_true, forall_const, Nat.zero_add, Nat.reduceAdd, Nat.reduceSub, Int.reduceAdd, Int.reduceNeg, Int.reduceToNat, Nat.reduceEqDiff, Nat.reduceLT, Nat.reduceLeDiff, Int.reduceLE, Int.reduceLT, reduceIte, Int.cast_ofNat_Int, Int.natCast_zero, Int.natCast_one, Int.reduceAdd, eq_self, Int.reduceSub, List.length_cons, List.length_nil, xli_m1, xli_0, xli_1, xli_2, xli_3, xli_4, xli_5, xlb_8, xlb_12, xlb_31, xlb_32, xlb_64, xls_256, xls_513, xls_2048, xls_4096, xll_0, xll_1, xnr_i, xnr_0, xnr_1, xnr_ite, xft_i, xft_0, xft_1, xat_999, xat_1001, xat_1002, xat_1003, xat_2001, xat_2002, xat_2003, List.getElem?_cons_succ, List.getElem?_cons_zero, xfn_0, xfn_1, xfn_2, xfn_3, x10, x01, not_true_eq_false, false_implies, implies_true, true_implies, xrm_c, xrm_s, xnl_4, xnl_32, xnl_64, xnl_256, xtn_4, xtn_32, xtn_64, xtn_256, Option.some.injEq, Sum.inl.injEq, Sum.inr.injEq, exists_eq_left', exists_eq_right, Option.toList_some, Option.toList_none, List.cons_append, List.nil_append, xE, lg_cmp_ge, lg_cmp_le, lg_cmp_gt, lg_cmp_lt, lg_cmp_eq, Nat.le_refl, Nat.zero_le, ne_eq, Nat.add_zero, dM_pass_0, dM_pass_1, dM_pass_4, dM_pass_5, dM_pass_6, dM_pass_7, dM_pass_8, dM_pass_11, dM_pass_14, dM_pass_15, dM_pass_18, dM_pass_19, dM_pass_20, dM_pass_21, dM_pass_24, dM_pass_25, dM_pass_28, dM_pass_31, dM_pass_32, dM_pass_33, dM_pass_34, dM_pass_35, dM_pass_36, dM_pass_37, dM_pass_40, dM_pass_43, dM_pass_44, dM_pass_45, dM_pass_48, dM_pass_51, dM_pass_52, dM_pass_53, dM_pass_56, dM_pass_59, dM_pass_60, dM_pass_63, dM_pass_64, dM_pass_65, dM_pass_68, dM_pass_69, dM_pass_72, dM_pass_73, dM_pass_74, dM_pass_75, dM_pass_78, dM_pass_79, dM_pass_80, dM_pass_83, dM_pass_86, dM_pass_87, dM_pass_90, dM_pass_91, dM_pass_92, dM_pass_95, dM_pass_96, dM_pass_97, dM_pass_98, dM_pass_101, dM_pass_104, dM_pass_107, dM_pass_108, xf_4_91, xf_4_74, xf_4_65, xf_4_47, hmo, hs, ele, r24, c24, l24, n24]
    refine hV.call [.inl (nI k), .inr (.inr (some (A 24)))] xh_4_173 dM_pass_21 (d_leastOf h hN hkl) (Or.inr ⟨_, _, rfl, fun _ => hmo⟩) rfl rfl (Nat.le_of_ble_eq_true rfl) (by decide) (by decide) ?_
    rintro r S' ⟨rfl, rfl⟩
    refine xrun_ok hV [6] 20 _ _ _ _ _ _ ?_
    simp (maxDischargeDepth := 60) only [xrun, xisc, ↓xstep, xget, xtgt, xcmp, xacmp, xprev, xisR, xnt, List.set, List.length, xsw, xlk, true_or, or_true, if_true, if_false, true_and, and_true, List.mem_cons, List.not_mem_nil, or_false, false_or, Bool.false_eq_true, reduceCtorEq, not_false_eq_true, forall_const, Nat.zero_add, Nat.reduceAdd, Nat.reduceSub, Int.reduceAdd, Int.reduceNeg, Int.reduceToNat, Nat.reduceEqDiff, Nat.reduceLT, Nat.reduceLeDiff, Int.reduceLE, Int.reduceLT, reduceIte, Int.cast_ofNat_Int, Int.natCast_zero, Int.natCast_one, Int.reduceAdd, eq_self, Int.reduceSub, List.length_cons, List.length_nil, xli_m1, xli_0, xli_1, xli_2, xli_3, xli_4, xli_5, xlb_8, xlb_12, xlb_31, xlb_32, xlb_64, xls_256, xls_513, xls_2048, xls_4096, xll_0, xll_1, xnr_i, xnr_0, xnr_1, xnr_ite, xft_i, xft_0, xft_1, xat_999, xat_1001, xat_1002, xat_1003, xat_2001, xat_2002, xat_2003, List.getElem?_cons_succ, List.getElem?_cons_zero, xfn_0, xfn_1, xfn_2, xfn_3, x10, x01, not_true_eq_false, false_implies, implies_true, true_implies, xrm_c, xrm_s, xnl_4, xnl_32, xnl_64, xnl_256, xtn_4, xtn_32, xtn_64, xtn_256, Option.some.injEq, Sum.inl.injEq, Sum.inr.injEq, exists_eq_left', exists_eq_right, Option.toList_some, Option.toList_none, List.cons_append, List.nil_append, xE, lg_cmp_ge, lg_cmp_le, lg_cmp_gt, lg_cmp_lt, lg_cmp_eq, Nat.le_refl, Nat.zero_le, ne_eq, Nat.add_zero, dM_pass_0, dM_pass_1, dM_pass_4, dM_pass_5, dM_pass_6, dM_pass_7, dM_pass_8, dM_pass_11, dM_pass_14, dM_pass_15, dM_pass_18, dM_pass_19, dM_pass_20, dM_pass_21, dM_pass_24, dM_pass_25, dM_pass_28, dM_pass_31, dM_pass_32, dM_pass_33, dM_pass_34, dM_pass_35, dM_pass_36, dM_pass_37, dM_pass_40, dM_pass_43, dM_pass_44, dM_pass_45, dM_pass_48, dM_pass_51, dM_pass_52, dM_pass_53, dM_pass_56, dM_pass_59, dM_pass_60, dM_pass_63, dM_pass_64, dM_pass_65, dM_pass_68, dM_pass_69, dM_pass_72, dM_pass_73, dM_pass_74, dM_pass_75, dM_pass_78, dM_pass_79, dM_pass_80, dM_pass_83, dM_pass_86, dM_pass_87, dM_pass_90, dM_pass_91, dM_pass_92, dM_pass_95, dM_pass_96, dM_pass_97, dM_pass_98, dM_pass_101, dM_pass_104, dM_pass_107, dM_pass_108, xf_4_91, xf_4_74, xf_4_65, xf_4_47, r24, c24, l24, n24, ink, e0, nI_1]
    refine ih (k + 1) _ (by omega) (by omega) (h.free (f := 24) rfl trivial) (hN.w24 h.2.1 _ _) (hF.tr (xFr.ar h.2.1 (f := 24) rfl _ _)) (fun j hj hm => ?_)
    rw [xi_pi]
    by_cases z : j = k
    · rw [if_pos ⟨rfl, z⟩, z]
      rw [z] at hm
      exact lsO_eq h hN hkl hm
    · rw [if_neg (fun y => z y.2)]
      exact hD j (by omega) hm
set_option maxHeartbeats 4000000 in
set_option maxRecDepth 100000 in
theorem d_pass_loop2 (hM : mWF M) {S0 : xS} {V : xKt} {Q : Option xVal → xS → Prop}
    (hV : xCl l D n0 4 cM_pass false (some .int) (xrm mM_pass 0 0) V (xE 0 0 Q))
    (hQ : ∀ S, rF S mo A (mpass M) → xFr tM S0 S → Q (some (.inl (nI (ncnt (mchg M) (M 12 0))))) S) :
    ∀ (n k : Nat) (S : xS), k ≤ M 12 0 → M 12 0 - k = n → rF S mo A (mst M (mchg M) (mleast M) (M 21) k) → (∀ j, j < M 12 0 → mnot M j = true → xi S (A 24) j = nI (mleast M j)) → xFr tM S0 S → V 35 [some (.inr (.inr (some mo))), some (.inl (nI (ncnt (mchg M) k))), some (.inl (nI k))] [] S 0 0 := by
  have hw := hM.1.2.2.1
  intro n
  induction n with
  | zero =>
    intro k S hk hn h hD hF
    have : k = M 12 0 := by omega
    subst this
    have hmo := h.mo
    have hs := h.s12
    rw [mst_f _ _ _ _ _ 12 0 (by decide)] at hs
    have ele : (nI (M 12 0) ≤ nI (M 12 0)) = True := eq_true (nI_le (Nat.le_refl _) (by omega))
    refine xrun_ok hV [] 20 _ _ _ _ _ _ ?_
    simp (maxDischargeDepth := 60) only [xrun, xisc, ↓xstep, xget, xtgt, xcmp, xacmp, xprev, xisR, xnt, List.set, List.length, xsw, xlk, true_or, or_true, if_true, if_false, true_and, and_true, List.mem_cons, List.not_mem_nil, or_false, false_or, Bool.false_eq_true, reduceCtorEq, not_false_eq_true, forall_const, Nat.zero_add, Nat.reduceAdd, Nat.reduceSub, Int.reduceAdd, Int.reduceNeg, Int.reduceToNat, Nat.reduceEqDiff, Nat.reduceLT, Nat.reduceLeDiff, Int.reduceLE, Int.reduceLT, reduceIte, Int.cast_ofNat_Int, Int.natCast_zero, Int.natCast_one, Int.reduceAdd, eq_self, Int.reduceSub, List.length_cons, List.length_nil, xli_m1, xli_0, xli_1, xli_2, xli_3, xli_4, xli_5, xlb_8, xlb_12, xlb_31, xlb_32, xlb_64, xls_256, xls_513, xls_2048, xls_4096, xll_0, xll_1, xnr_i, xnr_0, xnr_1, xnr_ite, xft_i, xft_0, xft_1, xat_999, xat_1001, xat_1002, xat_1003, xat_2001, xat_2002, xat_2003, List.getElem?_cons_succ, List.getElem?_cons_zero, xfn_0, xfn_1, xfn_2, xfn_3, x10, x01, not_true_eq_false, false_implies, implies_true, true_implies, xrm_c, xrm_s, xnl_4, xnl_32, xnl_64, xnl_256, xtn_4, xtn_32, xtn_64, xtn_256, Option.some.injEq, Sum.inl.injEq, Sum.inr.injEq, exists_eq_left', exists_eq_right, Option.toList_some, Option.toList_none, List.cons_append, List.nil_append, xE, lg_cmp_ge, lg_cmp_le, lg_cmp_gt, lg_cmp_lt, lg_cmp_eq, Nat.le_refl, Nat.zero_le, ne_eq, Nat.add_zero, dM_pass_0, dM_pass_1, dM_pass_4, dM_pass_5, dM_pass_6, dM_pass_7, dM_pass_8, dM_pass_11, dM_pass_14, dM_pass_15, dM_pass_18, dM_pass_19, dM_pass_20, dM_pass_21, dM_pass_24, dM_pass_25, dM_pass_28, dM_pass_31, dM_pass_32, dM_pass_33, dM_pass_34, dM_pass_35, dM_pass_36, dM_pass_37, dM_pass_40, dM_pass_43, dM_pass_44, dM_pass_45, dM_pass_48, dM_pass_51, dM_pass_52, dM_pass_53, dM_pass_56, dM_pass_59, dM_pass_60, dM_pass_63, dM_pass_64, dM_pass_65, dM_pass_68, dM_pass_69, dM_pass_72, dM_pass_73, dM_pass_74, dM_pass_75, dM_pass_78, dM_pass_79, dM_pass_80, dM_pass_83, dM_pass_86, dM_pass_87, dM_pass_90, dM_pass_91, dM_pass_92, dM_pass_95, dM_pass_96, dM_pass_97, dM_pass_98, dM_pass_101, dM_pass_104, dM_pass_107, dM_pass_108, xf_4_91, xf_4_74, xf_4_65, xf_4_47, hmo, hs, ele]
    exact hQ S h hF
  | succ n ih =>
    intro k S hk hn h hD hF
    have hkl : k < M 12 0 := by omega
    have hmo := h.mo
    have hs := h.s12
    rw [mst_f _ _ _ _ _ 12 0 (by decide)] at hs
    have hk' : k < mst M (mchg M) (mleast M) (M 21) k 12 0 := by rw [mst_f _ _ _ _ _ 12 0 (by decide)]; exact hkl
    have ea : maim (mst M (mchg M) (mleast M) (M 21) k) k = maim M k := by simp only [maim, mst_f M _ _ _ k 13 k (by decide)]
    have eg : mst M (mchg M) (mleast M) (M 21) k 8 (mst M (mchg M) (mleast M) (M 21) k 14 k) = M 8 (M 14 k) := by rw [mst_f _ _ _ _ _ 14 k (by decide), mst_f _ _ _ _ _ 8 _ (by decide)]
    have r15 : xr S mo 15 = some (A 15) := h.ar 15 rfl
    have c15 : xc S (A 15) = 1002 := h.tg 15 rfl
    have l15 : xl S (A 15) = 256 := h.ln 15 rfl
    have n15 : (mo = A 15) = False := eq_false (fun e => h.nm (f := 15) rfl e.symm)
    have r21 : xr S mo 21 = some (A 21) := h.ar 21 rfl
    have c21 : xc S (A 21) = 1003 := h.tg 21 rfl
    have l21 : xl S (A 21) = 256 := h.ln 21 rfl
    have n21 : (mo = A 21) = False := eq_false (fun e => h.nm (f := 21) rfl e.symm)
    have r24 : xr S mo 24 = some (A 24) := h.ar 24 rfl
    have c24 : xc S (A 24) = 1002 := h.tg 24 rfl
    have l24 : xl S (A 24) = 256 := h.ln 24 rfl
    have n24 : (mo = A 24) = False := eq_false (fun e => h.nm (f := 24) rfl e.symm)
    have v21 := h.v21 hk'
    rw [mst_no _ _ _ _ _ 21 k (fun z => absurd z.1 (Nat.lt_irrefl _))] at v21
    have v15' := h.v15 hk'
    rw [mst_no _ _ _ _ _ 15 k (fun z => absurd z.1 (Nat.lt_irrefl _)), mst_f _ _ _ _ _ 13 k (by decide)] at v15'
    have hwk := hM.2.2.2.1 k hkl
    have hwp := hM.2.2.1 _ hwk.2.1
    have ink : vp_in (nI k) 256 := vp_in_nI (by omega) (by decide)
    have e0 : (nI k).toNatClampNeg = k := nI_clamp (by omega)
    have ele : (nI (M 12 0) ≤ nI k) = False := eq_false (nI_ge hkl (by omega))
    have e8 : (nI (M 8 (M 14 k)) = 0) = (M 8 (M 14 k) = 0) := propext (nI_eq (b := 0) (by omega) (by decide))
    have e21 : (nI (M 21 k) = 0) = (M 21 k = 0) := propext (nI_eq (b := 0) (by omega) (by decide))
    have skip : mchg M k = false → V 101 [some (.inr (.inr (some mo))), some (.inl (nI (ncnt (mchg M) k))), some (.inl (nI k))] [] S 0 0 := by
      intro hc
      have ec : ncnt (mchg M) (k + 1) = ncnt (mchg M) k := by simp [ncnt, nsum, hc]
      refine xrun_ok hV [35] 20 _ _ _ _ _ _ ?_
      simp (maxDischargeDepth := 60) only [xrun, xisc, ↓xstep, xget, xtgt, xcmp, xacmp, xprev, xisR, xnt, List.set, List.length, xsw, xlk, true_or, or_true, if_true, if_false, true_and, and_true, List.mem_cons, List.not_mem_nil, or_false, false_or, Bool.false_eq_true, reduceCtorEq, not_false_eq_true, forall_const, Nat.zero_add, Nat.reduceAdd, Nat.reduceSub, Int.reduceAdd, Int.reduceNeg, Int.reduceToNat, Nat.reduceEqDiff, Nat.reduceLT, Nat.reduceLeDiff, Int.reduceLE, Int.reduceLT, reduceIte, Int.cast_ofNat_Int, Int.natCast_zero, Int.natCast_one, Int.reduceAdd, eq_self, Int.reduceSub, List.length_cons, List.length_nil, xli_m1, xli_0, xli_1, xli_2, xli_3, xli_4, xli_5, xlb_8, xlb_12, xlb_31, xlb_32, xlb_64, xls_256, xls_513, xls_2048, xls_4096, xll_0, xll_1, xnr_i, xnr_0, xnr_1, xnr_ite, xft_i, xft_0, xft_1, xat_999, xat_1001, xat_1002, xat_1003, xat_2001, xat_2002, xat_2003, List.getElem?_cons_succ, List.getElem?_cons_zero, xfn_0, xfn_1, xfn_2, xfn_3, x10, x01, not_true_eq_false, false_implies, implies_true, true_implies, xrm_c, xrm_s, xnl_4, xnl_32, xnl_64, xnl_256, xtn_4, xtn_32, xtn_64, xtn_256, Option.some.injEq, Sum.inl.injEq, Sum.inr.injEq, exists_eq_left', exists_eq_right, Option.toList_some, Option.toList_none, List.cons_append, List.nil_append, xE, lg_cmp_ge, lg_cmp_le, lg_cmp_gt, lg_cmp_lt, lg_cmp_eq, Nat.le_refl, Nat.zero_le, ne_eq, Nat.add_zero, dM_pass_0, dM_pass_1, dM_pass_4, dM_pass_5, dM_pass_6, dM_pass_7, dM_pass_8, dM_pass_11, dM_pass_14, dM_pass_15, dM_pass_18, dM_pass_19, dM_pass_20, dM_pass_21, dM_pass_24, dM_pass_25, dM_pass_28, dM_pass_31, dM_pass_32, dM_pass_33, dM_pass_34, dM_pass_35, dM_pass_36, dM_pass_37, dM_pass_40, dM_pass_43, dM_pass_44, dM_pass_45, dM_pass_48, dM_pass_51, dM_pass_52, dM_pass_53, dM_pass_56, dM_pass_59, dM_pass_60, dM_pass_63, dM_pass_64, dM_pass_65, dM_pass_68, dM_pass_69, dM_pass_72, dM_pass_73, dM_pass_74, dM_pass_75, dM_pass_78, dM_pass_79, dM_pass_80, dM_pass_83, dM_pass_86, dM_pass_87, dM_pass_90, dM_pass_91, dM_pass_92, dM_pass_95, dM_pass_96, dM_pass_97, dM_pass_98, dM_pass_101, dM_pass_104, dM_pass_107, dM_pass_108, xf_4_91, xf_4_74, xf_4_65, xf_4_47, nI_1]
      rw [← ec]
      exact ih (k + 1) S (by omega) (by omega) (by rw [mst_skip _ _ _ _ _ hc]; exact h) hD hF
    refine xrun_ok hV [101] 20 _ _ _ _ _ _ ?_
    simp (maxDischargeDepth := 60) only [xrun, xisc, ↓xstep, xget, xtgt, xcmp, xacmp, xprev, xisR, xnt, List.set, List.length, xsw, xlk, true_or, or_true, if_true, if_false, true_and, and_true, List.mem_cons, List.not_mem_nil, or_false, false_or, Bool.false_eq_true, reduceCtorEq, not_false_eq_true, forall_const, Nat.zero_add, Nat.reduceAdd, Nat.reduceSub, Int.reduceAdd, Int.reduceNeg, Int.reduceToNat, Nat.reduceEqDiff, Nat.reduceLT, Nat.reduceLeDiff, Int.reduceLE, Int.reduceLT, reduceIte, Int.cast_ofNat_Int, Int.natCast_zero, Int.natCast_one, Int.reduceAdd, eq_self, Int.reduceSub, List.length_cons, List.length_nil, xli_m1, xli_0, xli_1, xli_2, xli_3, xli_4, xli_5, xlb_8, xlb_12, xlb_31, xlb_32, xlb_64, xls_256, xls_513, xls_2048, xls_4096, xll_0, xll_1, xnr_i, xnr_0, xnr_1, xnr_ite, xft_i, xft_0, xft_1, xat_999, xat_1001, xat_1002, xat_1003, xat_2001, xat_2002, xat_2003, List.getElem?_cons_succ, List.getElem?_cons_zero, xfn_0, xfn_1, xfn_2, xfn_3, x10, x01, not_true_eq_false, false_implies, implies_true, true_implies, xrm_c, xrm_s, xnl_4, xnl_32, xnl_64, xnl_256, xtn_4, xtn_32, xtn_64, xtn_256, Option.some.injEq, Sum.inl.injEq, Sum.inr.injEq, exists_eq_left', exists_eq_right, Option.toList_some, Option.toList_none, List.cons_append, List.nil_append, xE, lg_cmp_ge, lg_cmp_le, lg_cmp_gt, lg_cmp_lt, lg_cmp_eq, Nat.le_refl, Nat.zero_le, ne_eq, Nat.add_zero, dM_pass_0, dM_pass_1, dM_pass_4, dM_pass_5, dM_pass_6, dM_pass_7, dM_pass_8, dM_pass_11, dM_pass_14, dM_pass_15, dM_pass_18, dM_pass_19, dM_pass_20, dM_pass_21, dM_pass_24, dM_pass_25, dM_pass_28, dM_pass_31, dM_pass_32, dM_pass_33, dM_pass_34, dM_pass_35, dM_pass_36, dM_pass_37, dM_pass_40, dM_pass_43, dM_pass_44, dM_pass_45, dM_pass_48, dM_pass_51, dM_pass_52, dM_pass_53, dM_pass_56, dM_pass_59, dM_pass_60, dM_pass_63, dM_pass_64, dM_pass_65, dM_pass_68, dM_pass_69, dM_pass_72, dM_pass_73, dM_pass_74, dM_pass_75, dM_pass_78, dM_pass_79, dM_pass_80, dM_pass_83, dM_pass_86, dM_pass_87, dM_pass_90, dM_pass_91, dM_pass_92, dM_pass_95, dM_pass_96, dM_pass_97, dM_pass_98, dM_pass_101, dM_pass_104, dM_pass_107, dM_pass_108, xf_4_91, xf_4_74, xf_4_65, xf_4_47, hmo, hs, ele]
    refine hV.call [] xh_4_114 dM_pass_45 (d_shrinks h hk') (Or.inr ⟨_, _, rfl, fun _ => hmo⟩) rfl rfl (by decide) (by decide) (by decide) ?_
    rintro r S' ⟨rfl, rfl⟩
    rw [ea]
    by_cases ha : maim M k = true
    case neg =>
      rw [if_neg ha]
      refine xrun_ok hV [101] 20 _ _ _ _ _ _ ?_
      simp (maxDischargeDepth := 60) only [xrun, xisc, ↓xstep, xget, xtgt, xcmp, xacmp, xprev, xisR, xnt, List.set, List.length, xsw, xlk, true_or, or_true, if_true, if_false, true_and, and_true, List.mem_cons, List.not_mem_nil, or_false, false_or, Bool.false_eq_true, reduceCtorEq, not_false_eq_true, forall_const, Nat.zero_add, Nat.reduceAdd, Nat.reduceSub, Int.reduceAdd, Int.reduceNeg, Int.reduceToNat, Nat.reduceEqDiff, Nat.reduceLT, Nat.reduceLeDiff, Int.reduceLE, Int.reduceLT, reduceIte, Int.cast_ofNat_Int, Int.natCast_zero, Int.natCast_one, Int.reduceAdd, eq_self, Int.reduceSub, List.length_cons, List.length_nil, xli_m1, xli_0, xli_1, xli_2, xli_3, xli_4, xli_5, xlb_8, xlb_12, xlb_31, xlb_32, xlb_64, xls_256, xls_513, xls_2048, xls_4096, xll_0, xll_1, xnr_i, xnr_0, xnr_1, xnr_ite, xft_i, xft_0, xft_1, xat_999, xat_1001, xat_1002, xat_1003, xat_2001, xat_2002, xat_2003, List.getElem?_cons_succ, List.getElem?_cons_zero, xfn_0, xfn_1, xfn_2, xfn_3, x10, x01, not_true_eq_false, false_implies, implies_true, true_implies, xrm_c, xrm_s, xnl_4, xnl_32, xnl_64, xnl_256, xtn_4, xtn_32, xtn_64, xtn_256, Option.some.injEq, Sum.inl.injEq, Sum.inr.injEq, exists_eq_left', exists_eq_right, Option.toList_some, Option.toList_none, List.cons_append, List.nil_append, xE, lg_cmp_ge, lg_cmp_le, lg_cmp_gt, lg_cmp_lt, lg_cmp_eq, Nat.le_refl, Nat.zero_le, ne_eq, Nat.add_zero, dM_pass_0, dM_pass_1, dM_pass_4, dM_pass_5, dM_pass_6, dM_pass_7, dM_pass_8, dM_pass_11, dM_pass_14, dM_pass_15, dM_pass_18, dM_pass_19, dM_pass_20, dM_pass_21, dM_pass_24, dM_pass_25, dM_pass_28, dM_pass_31, dM_pass_32, dM_pass_33, dM_pass_34, dM_pass_35, dM_pass_36, dM_pass_37, dM_pass_40, dM_pass_43, dM_pass_44, dM_pass_45, dM_pass_48, dM_pass_51, dM_pass_52, dM_pass_53, dM_pass_56, dM_pass_59, dM_pass_60, dM_pass_63, dM_pass_64, dM_pass_65, dM_pass_68, dM_pass_69, dM_pass_72, dM_pass_73, dM_pass_74, dM_pass_75, dM_pass_78, dM_pass_79, dM_pass_80, dM_pass_83, dM_pass_86, dM_pass_87, dM_pass_90, dM_pass_91, dM_pass_92, dM_pass_95, dM_pass_96, dM_pass_97, dM_pass_98, dM_pass_101, dM_pass_104, dM_pass_107, dM_pass_108, xf_4_91, xf_4_74, xf_4_65, xf_4_47]
      exact skip (by simp [mchg, ha])
    rw [if_pos ha]
    refine xrun_ok hV [101] 20 _ _ _ _ _ _ ?_
    simp (maxDischargeDepth := 60) only [xrun, xisc, ↓xstep, xget, xtgt, xcmp, xacmp, xprev, xisR, xnt, List.set, List.length, xsw, xlk, true_or, or_true, if_true, if_false, true_and, and_true, List.mem_cons, List.not_mem_nil, or_false, false_or, Bool.false_eq_true, reduceCtorEq, not_false_eq_true, forall_const, Nat.zero_add, Nat.reduceAdd, Nat.reduceSub, Int.reduceAdd, Int.reduceNeg, Int.reduceToNat, Nat.reduceEqDiff, Nat.reduceLT, Nat.reduceLeDiff, Int.reduceLE, Int.reduceLT, reduceIte, Int.cast_ofNat_Int, Int.natCast_zero, Int.natCast_one, Int.reduceAdd, eq_self, Int.reduceSub, List.length_cons, List.length_nil, xli_m1, xli_0, xli_1, xli_2, xli_3, xli_4, xli_5, xlb_8, xlb_12, xlb_31, xlb_32, xlb_64, xls_256, xls_513, xls_2048, xls_4096, xll_0, xll_1, xnr_i, xnr_0, xnr_1, xnr_ite, xft_i, xft_0, xft_1, xat_999, xat_1001, xat_1002, xat_1003, xat_2001, xat_2002, xat_2003, List.getElem?_cons_succ, List.getElem?_cons_zero, xfn_0, xfn_1, xfn_2, xfn_3, x10, x01, not_true_eq_false, false_implies, implies_true, true_implies, xrm_c, xrm_s, xnl_4, xnl_32, xnl_64, xnl_256, xtn_4, xtn_32, xtn_64, xtn_256, Option.some.injEq, Sum.inl.injEq, Sum.inr.injEq, exists_eq_left', exists_eq_right, Option.toList_some, Option.toList_none, List.cons_append, List.nil_append, xE, lg_cmp_ge, lg_cmp_le, lg_cmp_gt, lg_cmp_lt, lg_cmp_eq, Nat.le_refl, Nat.zero_le, ne_eq, Nat.add_zero, dM_pass_0, dM_pass_1, dM_pass_4, dM_pass_5, dM_pass_6, dM_pass_7, dM_pass_8, dM_pass_11, dM_pass_14, dM_pass_15, dM_pass_18, dM_pass_19, dM_pass_20, dM_pass_21, dM_pass_24, dM_pass_25, dM_pass_28, dM_pass_31, dM_pass_32, dM_pass_33, dM_pass_34, dM_pass_35, dM_pass_36, dM_pass_37, dM_pass_40, dM_pass_43, dM_pass_44, dM_pass_45, dM_pass_48, dM_pass_51, dM_pass_52, dM_pass_53, dM_pass_56, dM_pass_59, dM_pass_60, dM_pass_63, dM_pass_64, dM_pass_65, dM_pass_68, dM_pass_69, dM_pass_72, dM_pass_73, dM_pass_74, dM_pass_75, dM_pass_78, dM_pass_79, dM_pass_80, dM_pass_83, dM_pass_86, dM_pass_87, dM_pass_90, dM_pass_91, dM_pass_92, dM_pass_95, dM_pass_96, dM_pass_97, dM_pass_98, dM_pass_101, dM_pass_104, dM_pass_107, dM_pass_108, xf_4_91, xf_4_74, xf_4_65, xf_4_47]
    refine hV.call [] xh_4_111 dM_pass_53 (d_isGone h hk') (Or.inr ⟨_, _, rfl, fun _ => hmo⟩) rfl rfl (by decide) (by decide) (by decide) ?_
    rintro r S' ⟨rfl, rfl⟩
    rw [eg]
    by_cases hg : M 8 (M 14 k) = 0
    case neg =>
      refine xrun_ok hV [101] 20 _ _ _ _ _ _ ?_
      simp (maxDischargeDepth := 60) only [xrun, xisc, ↓xstep, xget, xtgt, xcmp, xacmp, xprev, xisR, xnt, List.set, List.length, xsw, xlk, true_or, or_true, if_true, if_false, true_and, and_true, List.mem_cons, List.not_mem_nil, or_false, false_or, Bool.false_eq_true, reduceCtorEq, not_false_eq_true, forall_const, Nat.zero_add, Nat.reduceAdd, Nat.reduceSub, Int.reduceAdd, Int.reduceNeg, Int.reduceToNat, Nat.reduceEqDiff, Nat.reduceLT, Nat.reduceLeDiff, Int.reduceLE, Int.reduceLT, reduceIte, Int.cast_ofNat_Int, Int.natCast_zero, Int.natCast_one, Int.reduceAdd, eq_self, Int.reduceSub, List.length_cons, List.length_nil, xli_m1, xli_0, xli_1, xli_2, xli_3, xli_4, xli_5, xlb_8, xlb_12, xlb_31, xlb_32, xlb_64, xls_256, xls_513, xls_2048, xls_4096, xll_0, xll_1, xnr_i, xnr_0, xnr_1, xnr_ite, xft_i, xft_0, xft_1, xat_999, xat_1001, xat_1002, xat_1003, xat_2001, xat_2002, xat_2003, List.getElem?_cons_succ, List.getElem?_cons_zero, xfn_0, xfn_1, xfn_2, xfn_3, x10, x01, not_true_eq_false, false_implies, implies_true, true_implies, xrm_c, xrm_s, xnl_4, xnl_32, xnl_64, xnl_256, xtn_4, xtn_32, xtn_64, xtn_256, Option.some.injEq, Sum.inl.injEq, Sum.inr.injEq, exists_eq_left', exists_eq_right, Option.toList_some, Option.toList_none, List.cons_append, List.nil_append, xE, lg_cmp_ge, lg_cmp_le, lg_cmp_gt, lg_cmp_lt, lg_cmp_eq, Nat.le_refl, Nat.zero_le, ne_eq, Nat.add_zero, dM_pass_0, dM_pass_1, dM_pass_4, dM_pass_5, dM_pass_6, dM_pass_7, dM_pass_8, dM_pass_11, dM_pass_14, dM_pass_15, dM_pass_18, dM_pass_19, dM_pass_20, dM_pass_21, dM_pass_24, dM_pass_25, dM_pass_28, dM_pass_31, dM_pass_32, dM_pass_33, dM_pass_34, dM_pass_35, dM_pass_36, dM_pass_37, dM_pass_40, dM_pass_43, dM_pass_44, dM_pass_45, dM_pass_48, dM_pass_51, dM_pass_52, dM_pass_53, dM_pass_56, dM_pass_59, dM_pass_60, dM_pass_63, dM_pass_64, dM_pass_65, dM_pass_68, dM_pass_69, dM_pass_72, dM_pass_73, dM_pass_74, dM_pass_75, dM_pass_78, dM_pass_79, dM_pass_80, dM_pass_83, dM_pass_86, dM_pass_87, dM_pass_90, dM_pass_91, dM_pass_92, dM_pass_95, dM_pass_96, dM_pass_97, dM_pass_98, dM_pass_101, dM_pass_104, dM_pass_107, dM_pass_108, xf_4_91, xf_4_74, xf_4_65, xf_4_47, e8, hg]
      exact skip (by simp [mchg, mnot, hg])
    have e8' : (nI (M 8 (M 14 k)) = 0) = True := by rw [e8]; simp [hg]
    by_cases hf : M 21 k = 0
    case neg =>
      refine xrun_ok hV [101] 20 _ _ _ _ _ _ ?_
      simp (maxDischargeDepth := 60) only [xrun, xisc, ↓xstep, xget, xtgt, xcmp, xacmp, xprev, xisR, xnt, List.set, List.length, xsw, xlk, true_or, or_true, if_true, if_false, true_and, and_true, List.mem_cons, List.not_mem_nil, or_false, false_or, Bool.false_eq_true, reduceCtorEq, not_false_eq_true, forall_const, Nat.zero_add, Nat.reduceAdd, Nat.reduceSub, Int.reduceAdd, Int.reduceNeg, Int.reduceToNat, Nat.reduceEqDiff, Nat.reduceLT, Nat.reduceLeDiff, Int.reduceLE, Int.reduceLT, reduceIte, Int.cast_ofNat_Int, Int.natCast_zero, Int.natCast_one, Int.reduceAdd, eq_self, Int.reduceSub, List.length_cons, List.length_nil, xli_m1, xli_0, xli_1, xli_2, xli_3, xli_4, xli_5, xlb_8, xlb_12, xlb_31, xlb_32, xlb_64, xls_256, xls_513, xls_2048, xls_4096, xll_0, xll_1, xnr_i, xnr_0, xnr_1, xnr_ite, xft_i, xft_0, xft_1, xat_999, xat_1001, xat_1002, xat_1003, xat_2001, xat_2002, xat_2003, List.getElem?_cons_succ, List.getElem?_cons_zero, xfn_0, xfn_1, xfn_2, xfn_3, x10, x01, not_true_eq_false, false_implies, implies_true, true_implies, xrm_c, xrm_s, xnl_4, xnl_32, xnl_64, xnl_256, xtn_4, xtn_32, xtn_64, xtn_256, Option.some.injEq, Sum.inl.injEq, Sum.inr.injEq, exists_eq_left', exists_eq_right, Option.toList_some, Option.toList_none, List.cons_append, List.nil_append, xE, lg_cmp_ge, lg_cmp_le, lg_cmp_gt, lg_cmp_lt, lg_cmp_eq, Nat.le_refl, Nat.zero_le, ne_eq, Nat.add_zero, dM_pass_0, dM_pass_1, dM_pass_4, dM_pass_5, dM_pass_6, dM_pass_7, dM_pass_8, dM_pass_11, dM_pass_14, dM_pass_15, dM_pass_18, dM_pass_19, dM_pass_20, dM_pass_21, dM_pass_24, dM_pass_25, dM_pass_28, dM_pass_31, dM_pass_32, dM_pass_33, dM_pass_34, dM_pass_35, dM_pass_36, dM_pass_37, dM_pass_40, dM_pass_43, dM_pass_44, dM_pass_45, dM_pass_48, dM_pass_51, dM_pass_52, dM_pass_53, dM_pass_56, dM_pass_59, dM_pass_60, dM_pass_63, dM_pass_64, dM_pass_65, dM_pass_68, dM_pass_69, dM_pass_72, dM_pass_73, dM_pass_74, dM_pass_75, dM_pass_78, dM_pass_79, dM_pass_80, dM_pass_83, dM_pass_86, dM_pass_87, dM_pass_90, dM_pass_91, dM_pass_92, dM_pass_95, dM_pass_96, dM_pass_97, dM_pass_98, dM_pass_101, dM_pass_104, dM_pass_107, dM_pass_108, xf_4_91, xf_4_74, xf_4_65, xf_4_47, e8', hmo, r21, c21, l21, n21, ink, e0, v21, e21, hf]
      exact skip (by simp [mchg, hf])
    have e21' : (nI (M 21 k) = 0) = True := by rw [e21]; simp [hf]
    have hn' : mnot M k = true := by simp [mnot, hg]
    have v24 := hD k hkl hn'
    have ha4 : M 13 k ≠ 4 := by have := ha; simp only [maim, Bool.and_eq_true, decide_eq_true_eq] at this; omega
    have v15 := v15' ha4
    have hle := mleast_le hM hkl ha
    have hg8 := mgr_le (M 13 k)
    have hwa := hM.2.2.2.2.2.1 k hkl ha
    have elt : (nI (mleast M k) < nI (M 15 k)) = (mleast M k < M 15 k) := propext (nI_ltI (by omega) (by omega))
    refine xrun_ok hV [101] 40 _ _ _ _ _ _ ?_
    simp (maxDischargeDepth := 60) only [xrun, xisc, ↓xstep, xget, xtgt, xcmp, xacmp, xprev, xisR, xnt, List.set, List.length, xsw, xlk, true_or, or_true, if_true, if_false, true_and, and_true, List.mem_cons, List.not_mem_nil, or_false, false_or, Bool.false_eq_true, reduceCtorEq, not_false_eq_true, forall_const, Nat.zero_add, Nat.reduceAdd, Nat.reduceSub, Int.reduceAdd, Int.reduceNeg, Int.reduceToNat, Nat.reduceEqDiff, Nat.reduceLT, Nat.reduceLeDiff, Int.reduceLE, Int.reduceLT, reduceIte, Int.cast_ofNat_Int, Int.natCast_zero, Int.natCast_one, Int.reduceAdd, eq_self, Int.reduceSub, List.length_cons, List.length_nil, xli_m1, xli_0, xli_1, xli_2, xli_3, xli_4, xli_5, xlb_8, xlb_12, xlb_31, xlb_32, xlb_64, xls_256, xls_513, xls_2048, xls_4096, xll_0, xll_1, xnr_i, xnr_0, xnr_1, xnr_ite, xft_i, xft_0, xft_1, xat_999, xat_1001, xat_1002, xat_1003, xat_2001, xat_2002, xat_2003, List.getElem?_cons_succ, List.getElem?_cons_zero, xfn_0, xfn_1, xfn_2, xfn_3, x10, x01, not_true_eq_false, false_implies, implies_true, true_implies, xrm_c, xrm_s, xnl_4, xnl_32, xnl_64, xnl_256, xtn_4, xtn_32, xtn_64, xtn_256, Option.some.injEq, Sum.inl.injEq, Sum.inr.injEq, exists_eq_left', exists_eq_right, Option.toList_some, Option.toList_none, List.cons_append, List.nil_append, xE, lg_cmp_ge, lg_cmp_le, lg_cmp_gt, lg_cmp_lt, lg_cmp_eq, Nat.le_refl, Nat.zero_le, ne_eq, Nat.add_zero, dM_pass_0, dM_pass_1, dM_pass_4, dM_pass_5, dM_pass_6, dM_pass_7, dM_pass_8, dM_pass_11, dM_pass_14, dM_pass_15, dM_pass_18, dM_pass_19, dM_pass_20, dM_pass_21, dM_pass_24, dM_pass_25, dM_pass_28, dM_pass_31, dM_pass_32, dM_pass_33, dM_pass_34, dM_pass_35, dM_pass_36, dM_pass_37, dM_pass_40, dM_pass_43, dM_pass_44, dM_pass_45, dM_pass_48, dM_pass_51, dM_pass_52, dM_pass_53, dM_pass_56, dM_pass_59, dM_pass_60, dM_pass_63, dM_pass_64, dM_pass_65, dM_pass_68, dM_pass_69, dM_pass_72, dM_pass_73, dM_pass_74, dM_pass_75, dM_pass_78, dM_pass_79, dM_pass_80, dM_pass_83, dM_pass_86, dM_pass_87, dM_pass_90, dM_pass_91, dM_pass_92, dM_pass_95, dM_pass_96, dM_pass_97, dM_pass_98, dM_pass_101, dM_pass_104, dM_pass_107, dM_pass_108, xf_4_91, xf_4_74, xf_4_65, xf_4_47, e8', hmo, r21, c21, l21, n21, r24, c24, l24, n24, r15, c15, l15, n15, ink, e0, v21, e21', v24, v15, elt, nI_1]
    refine ⟨fun z => ?_, fun z => skip (by simp [mchg, z])⟩
    have hc : mchg M k = true := by simp [mchg, ha, hn', hf, z]
    have ec : ncnt (mchg M) (k + 1) = ncnt (mchg M) k + 1 := by simp [ncnt, nsum, hc]
    rw [← ec]
    refine xrun_ok hV [35] 20 _ _ _ _ _ _ ?_
    simp (maxDischargeDepth := 60) only [xrun, xisc, ↓xstep, xget, xtgt, xcmp, xacmp, xprev, xisR, xnt, List.set, List.length, xsw, xlk, true_or, or_true, if_true, if_false, true_and, and_true, List.mem_cons, List.not_mem_nil, or_false, false_or, Bool.false_eq_true, reduceCtorEq, not_false_eq_true, forall_const, Nat.zero_add, Nat.reduceAdd, Nat.reduceSub, Int.reduceAdd, Int.reduceNeg, Int.reduceToNat, Nat.reduceEqDiff, Nat.reduceLT, Nat.reduceLeDiff, Int.reduceLE, Int.reduceLT, reduceIte, Int.cast_ofNat_Int, Int.natCast_zero, Int.natCast_one, Int.reduceAdd, eq_self, Int.reduceSub, List.length_cons, List.length_nil, xli_m1, xli_0, xli_1, xli_2, xli_3, xli_4, xli_5, xlb_8, xlb_12, xlb_31, xlb_32, xlb_64, xls_256, xls_513, xls_2048, xls_4096, xll_0, xll_1, xnr_i, xnr_0, xnr_1, xnr_ite, xft_i, xft_0, xft_1, xat_999, xat_1001, xat_1002, xat_1003, xat_2001, xat_2002, xat_2003, List.getElem?_cons_succ, List.getElem?_cons_zero, xfn_0, xfn_1, xfn_2, xfn_3, x10, x01, not_true_eq_false, false_implies, implies_true, true_implies, xrm_c, xrm_s, xnl_4, xnl_32, xnl_64, xnl_256, xtn_4, xtn_32, xtn_64, xtn_256, Option.some.injEq, Sum.inl.injEq, Sum.inr.injEq, exists_eq_left', exists_eq_right, Option.toList_some, Option.toList_none, List.cons_append, List.nil_append, xE, lg_cmp_ge, lg_cmp_le, lg_cmp_gt, lg_cmp_lt, lg_cmp_eq, Nat.le_refl, Nat.zero_le, ne_eq, Nat.add_zero, dM_pass_0, dM_pass_1, dM_pass_4, dM_pass_5, dM_pass_6, dM_pass_7, dM_pass_8, dM_pass_11, dM_pass_14, dM_pass_15, dM_pass_18, dM_pass_19, dM_pass_20, dM_pass_21, dM_pass_24, dM_pass_25, dM_pass_28, dM_pass_31, dM_pass_32, dM_pass_33, dM_pass_34, dM_pass_35, dM_pass_36, dM_pass_37, dM_pass_40, dM_pass_43, dM_pass_44, dM_pass_45, dM_pass_48, dM_pass_51, dM_pass_52, dM_pass_53, dM_pass_56, dM_pass_59, dM_pass_60, dM_pass_63, dM_pass_64, dM_pass_65, dM_pass_68, dM_pass_69, dM_pass_72, dM_pass_73, dM_pass_74, dM_pass_75, dM_pass_78, dM_pass_79, dM_pass_80, dM_pass_83, dM_pass_86, dM_pass_87, dM_pass_90, dM_pass_91, dM_pass_92, dM_pass_95, dM_pass_96, dM_pass_97, dM_pass_98, dM_pass_101, dM_pass_104, dM_pass_107, dM_pass_108, xf_4_91, xf_4_74, xf_4_65, xf_4_47, nI_1]
    refine ih (k + 1) _ (by omega) (by omega) (rF_st1 hM (mVok_pass hM) h hkl hc v21) (fun j hj hm => ?_) (hF.tr (xFr.ar h.2.1 (f := 15) rfl _ _))
    rw [h.2.1.xo 24 15 rfl rfl (by decide)]
    exact hD j hj hm
set_option maxHeartbeats 4000000 in
set_option maxRecDepth 100000 in
theorem d_pass (h : rFx S mo M) : xMet l D n0 mM_pass 0 0 [.inr (.inr (some mo))] S (oN S mo (oPass M)) := by
  obtain ⟨A, h⟩ := h
  have hmo := h.mo
  refine xMet.of (k := mM_pass) (own := 4) (ini := false) xm_M_pass (by decide +kernel) (by decide +kernel) (by decide) (Nat.le_of_ble_eq_true rfl) ?_
  intro V hV
  show V 0 [some (.inr (.inr (some mo))), none, none] [] S 0 0
  refine xrun_ok hV [] 20 _ _ _ _ _ _ ?_
  simp (maxDischargeDepth := 60) only [xrun, xisc, ↓xstep, xget, xtgt, xcmp, xacmp, xprev, xisR, xnt, List.set, List.length, xsw, xlk, true_or, or_true, if_true, if_false, true_and, and_true, List.mem_cons, List.not_mem_nil, or_false, false_or, Bool.false_eq_true, reduceCtorEq, not_false_eq_true, forall_const, Nat.zero_add, Nat.reduceAdd, Nat.reduceSub, Int.reduceAdd, Int.reduceNeg, Int.reduceToNat, Nat.reduceEqDiff, Nat.reduceLT, Nat.reduceLeDiff, Int.reduceLE, Int.reduceLT, reduceIte, Int.cast_ofNat_Int, Int.natCast_zero, Int.natCast_one, Int.reduceAdd, eq_self, Int.reduceSub, List.length_cons, List.length_nil, xli_m1, xli_0, xli_1, xli_2, xli_3, xli_4, xli_5, xlb_8, xlb_12, xlb_31, xlb_32, xlb_64, xls_256, xls_513, xls_2048, xls_4096, xll_0, xll_1, xnr_i, xnr_0, xnr_1, xnr_ite, xft_i, xft_0, xft_1, xat_999, xat_1001, xat_1002, xat_1003, xat_2001, xat_2002, xat_2003, List.getElem?_cons_succ, List.getElem?_cons_zero, xfn_0, xfn_1, xfn_2, xfn_3, x10, x01, not_true_eq_false, false_implies, implies_true, true_implies, xrm_c, xrm_s, xnl_4, xnl_32, xnl_64, xnl_256, xtn_4, xtn_32, xtn_64, xtn_256, Option.some.injEq, Sum.inl.injEq, Sum.inr.injEq, exists_eq_left', exists_eq_right, Option.toList_some, Option.toList_none, List.cons_append, List.nil_append, xE, lg_cmp_ge, lg_cmp_le, lg_cmp_gt, lg_cmp_lt, lg_cmp_eq, Nat.le_refl, Nat.zero_le, ne_eq, Nat.add_zero, dM_pass_0, dM_pass_1, dM_pass_4, dM_pass_5, dM_pass_6, dM_pass_7, dM_pass_8, dM_pass_11, dM_pass_14, dM_pass_15, dM_pass_18, dM_pass_19, dM_pass_20, dM_pass_21, dM_pass_24, dM_pass_25, dM_pass_28, dM_pass_31, dM_pass_32, dM_pass_33, dM_pass_34, dM_pass_35, dM_pass_36, dM_pass_37, dM_pass_40, dM_pass_43, dM_pass_44, dM_pass_45, dM_pass_48, dM_pass_51, dM_pass_52, dM_pass_53, dM_pass_56, dM_pass_59, dM_pass_60, dM_pass_63, dM_pass_64, dM_pass_65, dM_pass_68, dM_pass_69, dM_pass_72, dM_pass_73, dM_pass_74, dM_pass_75, dM_pass_78, dM_pass_79, dM_pass_80, dM_pass_83, dM_pass_86, dM_pass_87, dM_pass_90, dM_pass_91, dM_pass_92, dM_pass_95, dM_pass_96, dM_pass_97, dM_pass_98, dM_pass_101, dM_pass_104, dM_pass_107, dM_pass_108, xf_4_91, xf_4_74, xf_4_65, xf_4_47]
  refine hV.call [] xh_4_170 dM_pass_1 (d_reckon h) (Or.inr ⟨_, _, rfl, fun _ => hmo⟩) rfl rfl (by decide) (by decide) (by decide) ?_
  rintro r S1 ⟨rfl, g1, g2, g3⟩
  refine xrun_ok hV [6] 20 _ _ _ _ _ _ ?_
  simp (maxDischargeDepth := 60) only [xrun, xisc, ↓xstep, xget, xtgt, xcmp, xacmp, xprev, xisR, xnt, List.set, List.length, xsw, xlk, true_or, or_true, if_true, if_false, true_and, and_true, List.mem_cons, List.not_mem_nil, or_false, false_or, Bool.false_eq_true, reduceCtorEq, not_false_eq_true, forall_const, Nat.zero_add, Nat.reduceAdd, Nat.reduceSub, Int.reduceAdd, Int.reduceNeg, Int.reduceToNat, Nat.reduceEqDiff, Nat.reduceLT, Nat.reduceLeDiff, Int.reduceLE, Int.reduceLT, reduceIte, Int.cast_ofNat_Int, Int.natCast_zero, Int.natCast_one, Int.reduceAdd, eq_self, Int.reduceSub, List.length_cons, List.length_nil, xli_m1, xli_0, xli_1, xli_2, xli_3, xli_4, xli_5, xlb_8, xlb_12, xlb_31, xlb_32, xlb_64, xls_256, xls_513, xls_2048, xls_4096, xll_0, xll_1, xnr_i, xnr_0, xnr_1, xnr_ite, xft_i, xft_0, xft_1, xat_999, xat_1001, xat_1002, xat_1003, xat_2001, xat_2002, xat_2003, List.getElem?_cons_succ, List.getElem?_cons_zero, xfn_0, xfn_1, xfn_2, xfn_3, x10, x01, not_true_eq_false, false_implies, implies_true, true_implies, xrm_c, xrm_s, xnl_4, xnl_32, xnl_64, xnl_256, xtn_4, xtn_32, xtn_64, xtn_256, Option.some.injEq, Sum.inl.injEq, Sum.inr.injEq, exists_eq_left', exists_eq_right, Option.toList_some, Option.toList_none, List.cons_append, List.nil_append, xE, lg_cmp_ge, lg_cmp_le, lg_cmp_gt, lg_cmp_lt, lg_cmp_eq, Nat.le_refl, Nat.zero_le, ne_eq, Nat.add_zero, dM_pass_0, dM_pass_1, dM_pass_4, dM_pass_5, dM_pass_6, dM_pass_7, dM_pass_8, dM_pass_11, dM_pass_14, dM_pass_15, dM_pass_18, dM_pass_19, dM_pass_20, dM_pass_21, dM_pass_24, dM_pass_25, dM_pass_28, dM_pass_31, dM_pass_32, dM_pass_33, dM_pass_34, dM_pass_35, dM_pass_36, dM_pass_37, dM_pass_40, dM_pass_43, dM_pass_44, dM_pass_45, dM_pass_48, dM_pass_51, dM_pass_52, dM_pass_53, dM_pass_56, dM_pass_59, dM_pass_60, dM_pass_63, dM_pass_64, dM_pass_65, dM_pass_68, dM_pass_69, dM_pass_72, dM_pass_73, dM_pass_74, dM_pass_75, dM_pass_78, dM_pass_79, dM_pass_80, dM_pass_83, dM_pass_86, dM_pass_87, dM_pass_90, dM_pass_91, dM_pass_92, dM_pass_95, dM_pass_96, dM_pass_97, dM_pass_98, dM_pass_101, dM_pass_104, dM_pass_107, dM_pass_108, xf_4_91, xf_4_74, xf_4_65, xf_4_47]
  refine d_pass_loop1 (S0 := S) hV (fun S2 o w1 w2 w3 => ?_) (M 12 0) 0 S1 (Nat.zero_le _) (by omega) g1 g3 g2 (fun j hj => absurd hj (by omega))
  refine xrun_ok hV [35] 20 _ _ _ _ _ _ ?_
  simp (maxDischargeDepth := 60) only [xrun, xisc, ↓xstep, xget, xtgt, xcmp, xacmp, xprev, xisR, xnt, List.set, List.length, xsw, xlk, true_or, or_true, if_true, if_false, true_and, and_true, List.mem_cons, List.not_mem_nil, or_false, false_or, Bool.false_eq_true, reduceCtorEq, not_false_eq_true, forall_const, Nat.zero_add, Nat.reduceAdd, Nat.reduceSub, Int.reduceAdd, Int.reduceNeg, Int.reduceToNat, Nat.reduceEqDiff, Nat.reduceLT, Nat.reduceLeDiff, Int.reduceLE, Int.reduceLT, reduceIte, Int.cast_ofNat_Int, Int.natCast_zero, Int.natCast_one, Int.reduceAdd, eq_self, Int.reduceSub, List.length_cons, List.length_nil, xli_m1, xli_0, xli_1, xli_2, xli_3, xli_4, xli_5, xlb_8, xlb_12, xlb_31, xlb_32, xlb_64, xls_256, xls_513, xls_2048, xls_4096, xll_0, xll_1, xnr_i, xnr_0, xnr_1, xnr_ite, xft_i, xft_0, xft_1, xat_999, xat_1001, xat_1002, xat_1003, xat_2001, xat_2002, xat_2003, List.getElem?_cons_succ, List.getElem?_cons_zero, xfn_0, xfn_1, xfn_2, xfn_3, x10, x01, not_true_eq_false, false_implies, implies_true, true_implies, xrm_c, xrm_s, xnl_4, xnl_32, xnl_64, xnl_256, xtn_4, xtn_32, xtn_64, xtn_256, Option.some.injEq, Sum.inl.injEq, Sum.inr.injEq, exists_eq_left', exists_eq_right, Option.toList_some, Option.toList_none, List.cons_append, List.nil_append, xE, lg_cmp_ge, lg_cmp_le, lg_cmp_gt, lg_cmp_lt, lg_cmp_eq, Nat.le_refl, Nat.zero_le, ne_eq, Nat.add_zero, dM_pass_0, dM_pass_1, dM_pass_4, dM_pass_5, dM_pass_6, dM_pass_7, dM_pass_8, dM_pass_11, dM_pass_14, dM_pass_15, dM_pass_18, dM_pass_19, dM_pass_20, dM_pass_21, dM_pass_24, dM_pass_25, dM_pass_28, dM_pass_31, dM_pass_32, dM_pass_33, dM_pass_34, dM_pass_35, dM_pass_36, dM_pass_37, dM_pass_40, dM_pass_43, dM_pass_44, dM_pass_45, dM_pass_48, dM_pass_51, dM_pass_52, dM_pass_53, dM_pass_56, dM_pass_59, dM_pass_60, dM_pass_63, dM_pass_64, dM_pass_65, dM_pass_68, dM_pass_69, dM_pass_72, dM_pass_73, dM_pass_74, dM_pass_75, dM_pass_78, dM_pass_79, dM_pass_80, dM_pass_83, dM_pass_86, dM_pass_87, dM_pass_90, dM_pass_91, dM_pass_92, dM_pass_95, dM_pass_96, dM_pass_97, dM_pass_98, dM_pass_101, dM_pass_104, dM_pass_107, dM_pass_108, xf_4_91, xf_4_74, xf_4_65, xf_4_47]
  exact d_pass_loop2 (S0 := S) h.1 hV (fun S3 y1 y2 => ⟨rfl, ⟨_, y1⟩, y2⟩) (M 12 0) 0 S2 (Nat.zero_le _) (by omega) (by rw [mst_0]; exact w1) w3 w2
end RPASS
