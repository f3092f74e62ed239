/-! THE REFERENCE: pieces are added -/
theorem rS.xo {S : xS} {mo : Nat} {A : Nat → Nat} (h : rS S mo A) (f g : Nat) (hf : mar f = true) (hg : mar g = true) (hn : f ≠ g) {T : xS} {i j : Nat} {x : Int32} : xi (xpi T (A g) i x) (A f) j = xi T (A f) j := by
  rw [xi_pi, if_neg (fun z => hn (h.2.2 f g hf hg z.1))]
def rFp (S : xS) (mo : Nat) (A : Nat → Nat) (M : mT) (w lb c t : Nat) : Prop := mWF M ∧ rS S mo A ∧ (∀ f i, ¬ (i = M 12 0 ∧ 17 ≤ f ∧ f ≤ 20) → vOK M f i (xW S mo A f i)) ∧ xi S (A 17) (M 12 0) = nI w ∧ xi S (A 18) (M 12 0) = nI lb ∧ xi S (A 19) (M 12 0) = nI c ∧ xi S (A 20) (M 12 0) = nI t
theorem rF.p {S : xS} {mo : Nat} {A : Nat → Nat} {M : mT} (h : rF S mo A M) : rFp S mo A M 0 0 0 0 := by
  refine ⟨h.1, h.2.1, fun f i _ => h.v f i, ?_, ?_, ?_, ?_⟩
  · have := h.v 17 (M 12 0); simpa [vOK, xW, mar] using this
  · have := h.v 18 (M 12 0); simpa [vOK, xW, mar] using this
  · have := h.v 19 (M 12 0); simpa [vOK, xW, mar] using this
  · have := h.v 20 (M 12 0); simpa [vOK, xW, mar] using this
theorem vOK_add {M : mT} {pt s n w lb c t g j : Nat} {x : Int32} (hg : 17 ≤ g ∧ g ≤ 21) (hj : j ≠ M 12 0) (hv : vOK M g j x) : vOK (madd M pt s n w lb c t) g j x := by
  have key : x = nI (if j < M 12 0 then M g j else 0) → x = nI (if j < madd M pt s n w lb c t 12 0 then madd M pt s n w lb c t g j else 0) := by
    intro h
    rw [h, madd_12]
    by_cases e : j < M 12 0
    · rw [if_pos e, if_pos (by omega), madd_o _ _ _ _ _ _ _ _ _ _ e (by omega)]
    · rw [if_neg e, if_neg (by omega)]
  rcases (show g = 17 ∨ g = 18 ∨ g = 19 ∨ g = 20 ∨ g = 21 by omega) with rfl | rfl | rfl | rfl | rfl <;> exact key hv
theorem vOK_new {M' : mT} {g i v : Nat} (hg : 17 ≤ g ∧ g ≤ 21) (hi : i < M' 12 0) (hv : M' g i = v) : vOK M' g i (nI v) := by
  have key : nI v = nI (if i < M' 12 0 then M' g i else 0) := by rw [if_pos hi, hv]
  rcases (show g = 17 ∨ g = 18 ∨ g = 19 ∨ g = 20 ∨ g = 21 by omega) with rfl | rfl | rfl | rfl | rfl <;> exact key
section MADE
variable {l : Launch} {D : va_G} {n0 : Nat} {S : xS} {mo : Nat} {A : Nat → Nat} {M : mT}
theorem rF_add {pt s n w lb c t : Nat} (h : rFp S mo A M w lb c t) (hn : M 12 0 < 256) (ho : mOK M pt s n w lb c t) : rF (xpi (xpi (xpi (xpi (xpi S (A 13) (M 12 0) (nI s)) (A 14) (M 12 0) (nI pt)) (A 15) (M 12 0) (nI n)) (A 16) (M 12 0) (nI n)) mo 12 (nI (M 12 0 + 1))) mo A (madd M pt s n w lb c t) := by
  obtain ⟨hM, hS, hv, v17, v18, v19, v20⟩ := h
  obtain ⟨n13, n14, n15, n16, n17, n18, n19, n20, n21⟩ := madd_n M pt s n w lb c t
  refine ⟨mWF_add hM hn ho, hS, fun g j => ?_⟩
  rw [xW_s (f := 12) ((((hS.pi _ _ _).pi _ _ _).pi _ _ _).pi _ _ _) rfl, xW_a (f := 16) (((hS.pi _ _ _).pi _ _ _).pi _ _ _) rfl, xW_a (f := 15) ((hS.pi _ _ _).pi _ _ _) rfl, xW_a (f := 14) (hS.pi _ _ _) rfl, xW_a (f := 13) hS rfl]
  by_cases g12 : g = 12
  · subst g12; rw [if_pos rfl]; show _ = nI (madd M pt s n w lb c t 12 0); rw [madd_12]
  rw [if_neg g12]
  by_cases g17 : 17 ≤ g ∧ g ≤ 21
  · rw [if_neg (by omega), if_neg (by omega), if_neg (by omega), if_neg (by omega)]
    by_cases e : j = M 12 0
    · subst e
      have hlt : M 12 0 < madd M pt s n w lb c t 12 0 := by rw [madd_12]; omega
      rcases (show g = 17 ∨ g = 18 ∨ g = 19 ∨ g = 20 ∨ g = 21 by omega) with rfl | rfl | rfl | rfl | rfl
      · have : xW S mo A 17 (M 12 0) = nI w := v17
        rw [this]; exact vOK_new (by decide) hlt n17
      · have : xW S mo A 18 (M 12 0) = nI lb := v18
        rw [this]; exact vOK_new (by decide) hlt n18
      · have : xW S mo A 19 (M 12 0) = nI c := v19
        rw [this]; exact vOK_new (by decide) hlt n19
      · have : xW S mo A 20 (M 12 0) = nI t := v20
        rw [this]; exact vOK_new (by decide) hlt n20
      · have := hv 21 (M 12 0) (by omega)
        have e2 : xW S mo A 21 (M 12 0) = nI 0 := by simpa [vOK] using this
        rw [e2]; exact vOK_new (by decide) hlt n21
    · exact vOK_add g17 e (hv g j (by omega))
  have hv' := hv g j (by omega)
  generalize xW S mo A g j = x at hv' ⊢
  have eo := fun f hj hf => madd_o M pt s n w lb c t f j hj hf
  by_cases g16 : g = 16
  · subst g16
    show j < madd M pt s n w lb c t 12 0 → _ = nI (madd M pt s n w lb c t 16 j)
    rw [madd_12]
    intro hj
    by_cases e : j = M 12 0
    · rw [if_pos ⟨rfl, e⟩, e, n16]
    · rw [if_neg (fun z => e z.2), if_neg (by omega), if_neg (by omega), if_neg (by omega), eo 16 (by omega) (by decide)]; exact hv' (by omega)
  rw [if_neg (fun z => g16 z.1)]
  by_cases g15 : g = 15
  · subst g15
    show j < madd M pt s n w lb c t 12 0 → madd M pt s n w lb c t 13 j ≠ 4 → _ = nI (madd M pt s n w lb c t 15 j)
    rw [madd_12]
    intro hj h4
    by_cases e : j = M 12 0
    · rw [if_pos ⟨rfl, e⟩, e, n15]
    · rw [eo 13 (by omega) (by decide)] at h4
      rw [if_neg (fun z => e z.2), if_neg (by omega), if_neg (by omega), eo 15 (by omega) (by decide)]; exact hv' (by omega) h4
  rw [if_neg (fun z => g15 z.1)]
  by_cases g14 : g = 14
  · subst g14
    show j < madd M pt s n w lb c t 12 0 → _ = nI (madd M pt s n w lb c t 14 j)
    rw [madd_12]
    intro hj
    by_cases e : j = M 12 0
    · rw [if_pos ⟨rfl, e⟩, e, n14]
    · rw [if_neg (fun z => e z.2), if_neg (by omega), eo 14 (by omega) (by decide)]; exact hv' (by omega)
  rw [if_neg (fun z => g14 z.1)]
  by_cases g13 : g = 13
  · subst g13
    show j < madd M pt s n w lb c t 12 0 → _ = nI (madd M pt s n w lb c t 13 j)
    rw [madd_12]
    intro hj
    by_cases e : j = M 12 0
    · rw [if_pos ⟨rfl, e⟩, e, n13]
    · rw [if_neg (fun z => e z.2), eo 13 (by omega) (by decide)]; exact hv' (by omega)
  rw [if_neg (fun z => g13 z.1)]
  have hf : ∀ i, madd M pt s n w lb c t g i = M g i := fun i => madd_f _ _ _ _ _ _ _ _ _ _ ⟨g12, g13, g14, g15, g16, by omega, by omega, by omega, by omega, by omega⟩
  exact vOK_to hv' (fun _ => madd_f _ _ _ _ _ _ _ _ _ _ (by decide)) (fun _ => by omega) (fun _ => madd_f _ _ _ _ _ _ _ _ _ _ (by decide)) (fun _ => by omega) (fun _ => hf 0) (hf j)
set_option maxHeartbeats 4000000 in
set_option maxRecDepth 100000 in
theorem d_added {pt s n w lb c t : Nat} (h : rFp S mo A M w lb c t) (hn : M 12 0 < 256) (ho : mOK M pt s n w lb c t) : xMet l D n0 mM_added 0 0 [.inr (.inr (some mo)), .inl (nI pt), .inl (nI s), .inl (nI n)] S (fun r S' => r = some (.inl (nI (M 12 0))) ∧ rF S' mo A (madd M pt s n w lb c t) ∧ xFr tM S S') := by
  have hS := h.2.1
  have hmo := hS.1.1
  have hs : xi S mo 12 = nI (M 12 0) := h.2.2.1 12 0 (by omega)
  have r13 : xr S mo 13 = some (A 13) := hS.ar 13 rfl
  have c13 : xc S (A 13) = 1002 := hS.tg 13 rfl
  have l13 : xl S (A 13) = 256 := hS.ln 13 rfl
  have n13 : (mo = A 13) = False := eq_false (fun e => hS.nm (f := 13) rfl e.symm)
  have r14 : xr S mo 14 = some (A 14) := hS.ar 14 rfl
  have c14 : xc S (A 14) = 1002 := hS.tg 14 rfl
  have l14 : xl S (A 14) = 256 := hS.ln 14 rfl
  have n14 : (mo = A 14) = False := eq_false (fun e => hS.nm (f := 14) rfl e.symm)
  have r15 : xr S mo 15 = some (A 15) := hS.ar 15 rfl
  have c15 : xc S (A 15) = 1002 := hS.tg 15 rfl
  have l15 : xl S (A 15) = 256 := hS.ln 15 rfl
  have n15 : (mo = A 15) = False := eq_false (fun e => hS.nm (f := 15) rfl e.symm)
  have r16 : xr S mo 16 = some (A 16) := hS.ar 16 rfl
  have c16 : xc S (A 16) = 1002 := hS.tg 16 rfl
  have l16 : xl S (A 16) = 256 := hS.ln 16 rfl
  have n16 : (mo = A 16) = False := eq_false (fun e => hS.nm (f := 16) rfl e.symm)
  refine xMet.of (k := mM_added) (own := 4) (ini := false) xm_M_added (by decide +kernel) (by decide +kernel) (by decide) (Nat.le_of_ble_eq_true rfl) ?_
  intro V hV
  show V 0 [some (.inr (.inr (some mo))), some (.inl (nI pt)), some (.inl (nI s)), some (.inl (nI n))] [] S 0 0
  have e0 : (nI (M 12 0)).toNatClampNeg = M 12 0 := nI_clamp (by omega)
  have hin : vp_in (nI (M 12 0)) 256 := vp_in_nI (by omega) (by decide)
  refine xrun_ok hV [] 60 _ _ _ _ _ _ ?_
  simp (maxDischargeDepth := 60) only [xrun, xisc, ↓xstep, xget, xtgt, xcmp, xacmp, xprev, xisR, xnt, List.set, List.length, xsw, xlk, true_or, or_true, if_true, if_false, true_and, and_true, List.mem_cons, List.not_mem_nil, or_false, false_or, Bool.false_eq_true, reduceCtorEq, not_false_eq_true, forall_const, Nat.zero_add, Nat.reduceAdd, Nat.reduceSub, Int.reduceAdd, Int.reduceNeg, Int.reduceToNat, Nat.reduceEqDiff, Nat.reduceLT, Nat.reduceLeDiff, Int.reduceLE, Int.reduceLT, reduceIte, Int.cast_ofNat_Int, Int.natCast_zero, Int.natCast_one, Int.reduceAdd, eq_self, Int.reduceSub, List.length_cons, List.length_nil, xli_m1, xli_0, xli_1, xli_2, xli_3, xli_4, xli_5, xlb_8, xlb_12, xlb_31, xlb_32, xlb_64, xls_256, xls_513, xls_2048, xls_4096, xll_0, xll_1, xnr_i, xnr_0, xnr_1, xnr_ite, xft_i, xft_0, xft_1, xat_999, xat_1001, xat_1002, xat_1003, xat_2001, xat_2002, xat_2003, List.getElem?_cons_succ, List.getElem?_cons_zero, xfn_0, xfn_1, xfn_2, xfn_3, x10, x01, not_true_eq_false, false_implies, implies_true, true_implies, xrm_c, xrm_s, xnl_4, xnl_32, xnl_64, xnl_256, xtn_4, xtn_32, xtn_64, xtn_256, Option.some.injEq, Sum.inl.injEq, Sum.inr.injEq, exists_eq_left', exists_eq_right, Option.toList_some, Option.toList_none, List.cons_append, List.nil_append, xE, lg_cmp_ge, lg_cmp_le, lg_cmp_gt, lg_cmp_lt, lg_cmp_eq, Nat.le_refl, Nat.zero_le, ne_eq, Nat.add_zero, dM_added_0, dM_added_1, dM_added_4, dM_added_5, dM_added_8, dM_added_9, dM_added_10, dM_added_11, dM_added_14, dM_added_15, dM_added_18, dM_added_19, dM_added_20, dM_added_21, dM_added_24, dM_added_25, dM_added_28, dM_added_29, dM_added_30, dM_added_31, dM_added_34, dM_added_35, dM_added_38, dM_added_39, dM_added_40, dM_added_41, dM_added_42, dM_added_45, dM_added_46, dM_added_47, dM_added_50, dM_added_51, dM_added_54, dM_added_55, dM_added_56, xf_4_41, xf_4_91, xf_4_44, xf_4_47, xf_4_50, hmo, hs, r13, c13, l13, n13, r14, c14, l14, n14, r15, c15, l15, n15, r16, c16, l16, n16, hin, e0, xi_pi, xr_pi, xc_pi, xl_pi, false_and, nI_1]
  exact ⟨by rw [nI_pred], rF_add h hn ho, ((((xFr.ar hS (f := 13) rfl _ _).tr (xFr.ar (hS.pi _ _ _) (f := 14) rfl _ _)).tr (xFr.ar ((hS.pi _ _ _).pi _ _ _) (f := 15) rfl _ _)).tr (xFr.ar (((hS.pi _ _ _).pi _ _ _).pi _ _ _) (f := 16) rfl _ _)).tr (xFr.sc ((((hS.pi _ _ _).pi _ _ _).pi _ _ _).pi _ _ _) _ _)⟩
set_option maxHeartbeats 4000000 in
set_option maxRecDepth 100000 in
theorem d_plain (h : rFx S mo M) (x y : Int32) : xMet l D n0 mM_plain 0 0 [.inr (.inr (some mo)), .inl x, .inl y] S (oN S mo (oPlain M x y)) := by
  obtain ⟨A, h⟩ := h
  have hmo := h.mo
  have hs := h.s12
  have hw := h.1.1.2.2.1
  have e256 : (nI (M 12 0) = 256) = (M 12 0 = 256) := propext (nI_eq (b := 256) (by omega) (by decide))
  refine xMet.of (k := mM_plain) (own := 4) (ini := false) xm_M_plain (by decide +kernel) (by decide +kernel) (by decide) (Nat.le_of_ble_eq_true rfl) ?_
  intro V hV
  show V 0 [some (.inr (.inr (some mo))), some (.inl x), some (.inl y)] [] S 0 0
  refine xrun_ok hV [] 20 _ _ _ _ _ _ ?_
  simp (maxDischargeDepth := 60) only [xrun, xisc, ↓xstep, xget, xtgt, xcmp, xacmp, xprev, xisR, xnt, List.set, List.length, xsw, xlk, true_or, or_true, if_true, if_false, true_and, and_true, List.mem_cons, List.not_mem_nil, or_false, false_or, Bool.false_eq_true, reduceCtorEq, not_false_eq_true, forall_const, Nat.zero_add, Nat.reduceAdd, Nat.reduceSub, Int.reduceAdd, Int.reduceNeg, Int.reduceToNat, Nat.reduceEqDiff, Nat.reduceLT, Nat.reduceLeDiff, Int.reduceLE, Int.reduceLT, reduceIte, Int.cast_ofNat_Int, Int.natCast_zero, Int.natCast_one, Int.reduceAdd, eq_self, Int.reduceSub, List.length_cons, List.length_nil, xli_m1, xli_0, xli_1, xli_2, xli_3, xli_4, xli_5, xlb_8, xlb_12, xlb_31, xlb_32, xlb_64, xls_256, xls_513, xls_2048, xls_4096, xll_0, xll_1, xnr_i, xnr_0, xnr_1, xnr_ite, xft_i, xft_0, xft_1, xat_999, xat_1001, xat_1002, xat_1003, xat_2001, xat_2002, xat_2003, List.getElem?_cons_succ, List.getElem?_cons_zero, xfn_0, xfn_1, xfn_2, xfn_3, x10, x01, not_true_eq_false, false_implies, implies_true, true_implies, xrm_c, xrm_s, xnl_4, xnl_32, xnl_64, xnl_256, xtn_4, xtn_32, xtn_64, xtn_256, Option.some.injEq, Sum.inl.injEq, Sum.inr.injEq, exists_eq_left', exists_eq_right, Option.toList_some, Option.toList_none, List.cons_append, List.nil_append, xE, lg_cmp_ge, lg_cmp_le, lg_cmp_gt, lg_cmp_lt, lg_cmp_eq, Nat.le_refl, Nat.zero_le, ne_eq, Nat.add_zero, dM_plain_0, dM_plain_1, dM_plain_4, dM_plain_7, dM_plain_10, dM_plain_11, dM_plain_12, dM_plain_15, dM_plain_18, dM_plain_19, dM_plain_20, dM_plain_22, dM_plain_25, dM_plain_28, dM_plain_29, dM_plain_32, dM_plain_33, dM_plain_34, dM_plain_35, dM_plain_36, dM_plain_39, xf_4_91, xk_4_157, hmo, hs, e256]
  refine ⟨fun z => ?_, fun z => ?_⟩
  · unfold oPlain
    rw [if_neg (by omega)]
    exact ⟨rfl, ⟨A, h⟩, xFr.rf _ _⟩
  refine hV.call [] xh_4_154 dM_plain_12 (d_isPart h x) (Or.inr ⟨_, _, rfl, fun _ => hmo⟩) rfl rfl (by decide) (by decide) (by decide) ?_
  rintro r S' ⟨rfl, rfl⟩
  by_cases hx : isP M x = true
  case neg =>
    rw [if_neg hx]
    refine xrun_ok hV [] 20 _ _ _ _ _ _ ?_
    simp (maxDischargeDepth := 60) only [xrun, xisc, ↓xstep, xget, xtgt, xcmp, xacmp, xprev, xisR, xnt, List.set, List.length, xsw, xlk, true_or, or_true, if_true, if_false, true_and, and_true, List.mem_cons, List.not_mem_nil, or_false, false_or, Bool.false_eq_true, reduceCtorEq, not_false_eq_true, forall_const, Nat.zero_add, Nat.reduceAdd, Nat.reduceSub, Int.reduceAdd, Int.reduceNeg, Int.reduceToNat, Nat.reduceEqDiff, Nat.reduceLT, Nat.reduceLeDiff, Int.reduceLE, Int.reduceLT, reduceIte, Int.cast_ofNat_Int, Int.natCast_zero, Int.natCast_one, Int.reduceAdd, eq_self, Int.reduceSub, List.length_cons, List.length_nil, xli_m1, xli_0, xli_1, xli_2, xli_3, xli_4, xli_5, xlb_8, xlb_12, xlb_31, xlb_32, xlb_64, xls_256, xls_513, xls_2048, xls_4096, xll_0, xll_1, xnr_i, xnr_0, xnr_1, xnr_ite, xft_i, xft_0, xft_1, xat_999, xat_1001, xat_1002, xat_1003, xat_2001, xat_2002, xat_2003, List.getElem?_cons_succ, List.getElem?_cons_zero, xfn_0, xfn_1, xfn_2, xfn_3, x10, x01, not_true_eq_false, false_implies, implies_true, true_implies, xrm_c, xrm_s, xnl_4, xnl_32, xnl_64, xnl_256, xtn_4, xtn_32, xtn_64, xtn_256, Option.some.injEq, Sum.inl.injEq, Sum.inr.injEq, exists_eq_left', exists_eq_right, Option.toList_some, Option.toList_none, List.cons_append, List.nil_append, xE, lg_cmp_ge, lg_cmp_le, lg_cmp_gt, lg_cmp_lt, lg_cmp_eq, Nat.le_refl, Nat.zero_le, ne_eq, Nat.add_zero, dM_plain_0, dM_plain_1, dM_plain_4, dM_plain_7, dM_plain_10, dM_plain_11, dM_plain_12, dM_plain_15, dM_plain_18, dM_plain_19, dM_plain_20, dM_plain_22, dM_plain_25, dM_plain_28, dM_plain_29, dM_plain_32, dM_plain_33, dM_plain_34, dM_plain_35, dM_plain_36, dM_plain_39, xf_4_91, xk_4_157]
    unfold oPlain
    rw [if_neg (fun q => hx q.2.1)]
    exact ⟨rfl, ⟨A, h⟩, xFr.rf _ _⟩
  rw [if_pos hx]
  refine xrun_ok hV [] 20 _ _ _ _ _ _ ?_
  simp (maxDischargeDepth := 60) only [xrun, xisc, ↓xstep, xget, xtgt, xcmp, xacmp, xprev, xisR, xnt, List.set, List.length, xsw, xlk, true_or, or_true, if_true, if_false, true_and, and_true, List.mem_cons, List.not_mem_nil, or_false, false_or, Bool.false_eq_true, reduceCtorEq, not_false_eq_true, forall_const, Nat.zero_add, Nat.reduceAdd, Nat.reduceSub, Int.reduceAdd, Int.reduceNeg, Int.reduceToNat, Nat.reduceEqDiff, Nat.reduceLT, Nat.reduceLeDiff, Int.reduceLE, Int.reduceLT, reduceIte, Int.cast_ofNat_Int, Int.natCast_zero, Int.natCast_one, Int.reduceAdd, eq_self, Int.reduceSub, List.length_cons, List.length_nil, xli_m1, xli_0, xli_1, xli_2, xli_3, xli_4, xli_5, xlb_8, xlb_12, xlb_31, xlb_32, xlb_64, xls_256, xls_513, xls_2048, xls_4096, xll_0, xll_1, xnr_i, xnr_0, xnr_1, xnr_ite, xft_i, xft_0, xft_1, xat_999, xat_1001, xat_1002, xat_1003, xat_2001, xat_2002, xat_2003, List.getElem?_cons_succ, List.getElem?_cons_zero, xfn_0, xfn_1, xfn_2, xfn_3, x10, x01, not_true_eq_false, false_implies, implies_true, true_implies, xrm_c, xrm_s, xnl_4, xnl_32, xnl_64, xnl_256, xtn_4, xtn_32, xtn_64, xtn_256, Option.some.injEq, Sum.inl.injEq, Sum.inr.injEq, exists_eq_left', exists_eq_right, Option.toList_some, Option.toList_none, List.cons_append, List.nil_append, xE, lg_cmp_ge, lg_cmp_le, lg_cmp_gt, lg_cmp_lt, lg_cmp_eq, Nat.le_refl, Nat.zero_le, ne_eq, Nat.add_zero, dM_plain_0, dM_plain_1, dM_plain_4, dM_plain_7, dM_plain_10, dM_plain_11, dM_plain_12, dM_plain_15, dM_plain_18, dM_plain_19, dM_plain_20, dM_plain_22, dM_plain_25, dM_plain_28, dM_plain_29, dM_plain_32, dM_plain_33, dM_plain_34, dM_plain_35, dM_plain_36, dM_plain_39, xf_4_91, xk_4_157]
  refine hV.call [] xh_4_87 dM_plain_22 (d_in S' y 0 4194304 (a := 0) (b := 4194304) rfl rfl) (Or.inl rfl) rfl rfl (by decide) (by decide) (by decide) ?_
  rintro r S' ⟨rfl, rfl⟩
  by_cases hy : inR y 0 4194304 = true
  case neg =>
    rw [if_neg hy]
    refine xrun_ok hV [] 20 _ _ _ _ _ _ ?_
    simp (maxDischargeDepth := 60) only [xrun, xisc, ↓xstep, xget, xtgt, xcmp, xacmp, xprev, xisR, xnt, List.set, List.length, xsw, xlk, true_or, or_true, if_true, if_false, true_and, and_true, List.mem_cons, List.not_mem_nil, or_false, false_or, Bool.false_eq_true, reduceCtorEq, not_false_eq_true, forall_const, Nat.zero_add, Nat.reduceAdd, Nat.reduceSub, Int.reduceAdd, Int.reduceNeg, Int.reduceToNat, Nat.reduceEqDiff, Nat.reduceLT, Nat.reduceLeDiff, Int.reduceLE, Int.reduceLT, reduceIte, Int.cast_ofNat_Int, Int.natCast_zero, Int.natCast_one, Int.reduceAdd, eq_self, Int.reduceSub, List.length_cons, List.length_nil, xli_m1, xli_0, xli_1, xli_2, xli_3, xli_4, xli_5, xlb_8, xlb_12, xlb_31, xlb_32, xlb_64, xls_256, xls_513, xls_2048, xls_4096, xll_0, xll_1, xnr_i, xnr_0, xnr_1, xnr_ite, xft_i, xft_0, xft_1, xat_999, xat_1001, xat_1002, xat_1003, xat_2001, xat_2002, xat_2003, List.getElem?_cons_succ, List.getElem?_cons_zero, xfn_0, xfn_1, xfn_2, xfn_3, x10, x01, not_true_eq_false, false_implies, implies_true, true_implies, xrm_c, xrm_s, xnl_4, xnl_32, xnl_64, xnl_256, xtn_4, xtn_32, xtn_64, xtn_256, Option.some.injEq, Sum.inl.injEq, Sum.inr.injEq, exists_eq_left', exists_eq_right, Option.toList_some, Option.toList_none, List.cons_append, List.nil_append, xE, lg_cmp_ge, lg_cmp_le, lg_cmp_gt, lg_cmp_lt, lg_cmp_eq, Nat.le_refl, Nat.zero_le, ne_eq, Nat.add_zero, dM_plain_0, dM_plain_1, dM_plain_4, dM_plain_7, dM_plain_10, dM_plain_11, dM_plain_12, dM_plain_15, dM_plain_18, dM_plain_19, dM_plain_20, dM_plain_22, dM_plain_25, dM_plain_28, dM_plain_29, dM_plain_32, dM_plain_33, dM_plain_34, dM_plain_35, dM_plain_36, dM_plain_39, xf_4_91, xk_4_157]
    unfold oPlain
    rw [if_neg (fun q => hy q.2.2)]
    exact ⟨rfl, ⟨A, h⟩, xFr.rf _ _⟩
  rw [if_pos hy]
  have hx' := isP_iff.mp hx
  have hy' := inR_iff.mp hy
  have e1 : x.toNatClampNeg = x.toInt.toNat := rfl
  have e2 : y.toNatClampNeg = y.toInt.toNat := rfl
  refine xrun_ok hV [] 20 _ _ _ _ _ _ ?_
  simp (maxDischargeDepth := 60) only [xrun, xisc, ↓xstep, xget, xtgt, xcmp, xacmp, xprev, xisR, xnt, List.set, List.length, xsw, xlk, true_or, or_true, if_true, if_false, true_and, and_true, List.mem_cons, List.not_mem_nil, or_false, false_or, Bool.false_eq_true, reduceCtorEq, not_false_eq_true, forall_const, Nat.zero_add, Nat.reduceAdd, Nat.reduceSub, Int.reduceAdd, Int.reduceNeg, Int.reduceToNat, Nat.reduceEqDiff, Nat.reduceLT, Nat.reduceLeDiff, Int.reduceLE, Int.reduceLT, reduceIte, Int.cast_ofNat_Int, Int.natCast_zero, Int.natCast_one, Int.reduceAdd, eq_self, Int.reduceSub, List.length_cons, List.length_nil, xli_m1, xli_0, xli_1, xli_2, xli_3, xli_4, xli_5, xlb_8, xlb_12, xlb_31, xlb_32, xlb_64, xls_256, xls_513, xls_2048, xls_4096, xll_0, xll_1, xnr_i, xnr_0, xnr_1, xnr_ite, xft_i, xft_0, xft_1, xat_999, xat_1001, xat_1002, xat_1003, xat_2001, xat_2002, xat_2003, List.getElem?_cons_succ, List.getElem?_cons_zero, xfn_0, xfn_1, xfn_2, xfn_3, x10, x01, not_true_eq_false, false_implies, implies_true, true_implies, xrm_c, xrm_s, xnl_4, xnl_32, xnl_64, xnl_256, xtn_4, xtn_32, xtn_64, xtn_256, Option.some.injEq, Sum.inl.injEq, Sum.inr.injEq, exists_eq_left', exists_eq_right, Option.toList_some, Option.toList_none, List.cons_append, List.nil_append, xE, lg_cmp_ge, lg_cmp_le, lg_cmp_gt, lg_cmp_lt, lg_cmp_eq, Nat.le_refl, Nat.zero_le, ne_eq, Nat.add_zero, dM_plain_0, dM_plain_1, dM_plain_4, dM_plain_7, dM_plain_10, dM_plain_11, dM_plain_12, dM_plain_15, dM_plain_18, dM_plain_19, dM_plain_20, dM_plain_22, dM_plain_25, dM_plain_28, dM_plain_29, dM_plain_32, dM_plain_33, dM_plain_34, dM_plain_35, dM_plain_36, dM_plain_39, xf_4_91, xk_4_157]
  have hd := d_added (l := l) (D := D) (n0 := n0) (pt := x.toNatClampNeg) (s := 0) (n := y.toNatClampNeg) h.p (by omega) ⟨by decide, by omega, by decide, by decide, by decide, fun _ => by omega, fun q => absurd q (by decide), fun q => absurd q (by decide)⟩
  rw [nI_cl hx'.1, nI_cl hy'.1] at hd
  refine hV.call [] xh_4_158 dM_plain_36 (hd) (Or.inr ⟨_, _, rfl, fun _ => hmo⟩) rfl rfl (by decide) (by decide) (by decide) ?_
  rintro r S1 ⟨rfl, g1, g2⟩
  refine xrun_ok hV [] 20 _ _ _ _ _ _ ?_
  simp (maxDischargeDepth := 60) only [xrun, xisc, ↓xstep, xget, xtgt, xcmp, xacmp, xprev, xisR, xnt, List.set, List.length, xsw, xlk, true_or, or_true, if_true, if_false, true_and, and_true, List.mem_cons, List.not_mem_nil, or_false, false_or, Bool.false_eq_true, reduceCtorEq, not_false_eq_true, forall_const, Nat.zero_add, Nat.reduceAdd, Nat.reduceSub, Int.reduceAdd, Int.reduceNeg, Int.reduceToNat, Nat.reduceEqDiff, Nat.reduceLT, Nat.reduceLeDiff, Int.reduceLE, Int.reduceLT, reduceIte, Int.cast_ofNat_Int, Int.natCast_zero, Int.natCast_one, Int.reduceAdd, eq_self, Int.reduceSub, List.length_cons, List.length_nil, xli_m1, xli_0, xli_1, xli_2, xli_3, xli_4, xli_5, xlb_8, xlb_12, xlb_31, xlb_32, xlb_64, xls_256, xls_513, xls_2048, xls_4096, xll_0, xll_1, xnr_i, xnr_0, xnr_1, xnr_ite, xft_i, xft_0, xft_1, xat_999, xat_1001, xat_1002, xat_1003, xat_2001, xat_2002, xat_2003, List.getElem?_cons_succ, List.getElem?_cons_zero, xfn_0, xfn_1, xfn_2, xfn_3, x10, x01, not_true_eq_false, false_implies, implies_true, true_implies, xrm_c, xrm_s, xnl_4, xnl_32, xnl_64, xnl_256, xtn_4, xtn_32, xtn_64, xtn_256, Option.some.injEq, Sum.inl.injEq, Sum.inr.injEq, exists_eq_left', exists_eq_right, Option.toList_some, Option.toList_none, List.cons_append, List.nil_append, xE, lg_cmp_ge, lg_cmp_le, lg_cmp_gt, lg_cmp_lt, lg_cmp_eq, Nat.le_refl, Nat.zero_le, ne_eq, Nat.add_zero, dM_plain_0, dM_plain_1, dM_plain_4, dM_plain_7, dM_plain_10, dM_plain_11, dM_plain_12, dM_plain_15, dM_plain_18, dM_plain_19, dM_plain_20, dM_plain_22, dM_plain_25, dM_plain_28, dM_plain_29, dM_plain_32, dM_plain_33, dM_plain_34, dM_plain_35, dM_plain_36, dM_plain_39, xf_4_91, xk_4_157]
  unfold oPlain
  rw [if_pos ⟨by omega, hx, hy⟩]
  exact ⟨rfl, ⟨A, g1⟩, g2⟩
set_option maxHeartbeats 4000000 in
set_option maxRecDepth 100000 in
theorem d_fill (h : rFx S mo M) (x w y : Int32) : xMet l D n0 mM_fill 0 0 [.inr (.inr (some mo)), .inl x, .inl w, .inl y] S (oN S mo (oFill M x w y)) := by
  obtain ⟨A, h⟩ := h
  have hmo := h.mo
  have hs := h.s12
  have hw := h.1.1.2.2.1
  have e256 : (nI (M 12 0) = 256) = (M 12 0 = 256) := propext (nI_eq (b := 256) (by omega) (by decide))
  have r17 : xr S mo 17 = some (A 17) := h.ar 17 rfl
  have c17 : xc S (A 17) = 1002 := h.tg 17 rfl
  have l17 : xl S (A 17) = 256 := h.ln 17 rfl
  have n17 : (mo = A 17) = False := eq_false (fun e => h.nm (f := 17) rfl e.symm)
  refine xMet.of (k := mM_fill) (own := 4) (ini := false) xm_M_fill (by decide +kernel) (by decide +kernel) (by decide) (Nat.le_of_ble_eq_true rfl) ?_
  intro V hV
  show V 0 [some (.inr (.inr (some mo))), some (.inl x), some (.inl w), some (.inl y)] [] S 0 0
  refine xrun_ok hV [] 20 _ _ _ _ _ _ ?_
  simp (maxDischargeDepth := 60) only [xrun, xisc, ↓xstep, xget, xtgt, xcmp, xacmp, xprev, xisR, xnt, List.set, List.length, xsw, xlk, true_or, or_true, if_true, if_false, true_and, and_true, List.mem_cons, List.not_mem_nil, or_false, false_or, Bool.false_eq_true, reduceCtorEq, not_false_eq_true, forall_const, Nat.zero_add, Nat.reduceAdd, Nat.reduceSub, Int.reduceAdd, Int.reduceNeg, Int.reduceToNat, Nat.reduceEqDiff, Nat.reduceLT, Nat.reduceLeDiff, Int.reduceLE, Int.reduceLT, reduceIte, Int.cast_ofNat_Int, Int.natCast_zero, Int.natCast_one, Int.reduceAdd, eq_self, Int.reduceSub, List.length_cons, List.length_nil, xli_m1, xli_0, xli_1, xli_2, xli_3, xli_4, xli_5, xlb_8, xlb_12, xlb_31, xlb_32, xlb_64, xls_256, xls_513, xls_2048, xls_4096, xll_0, xll_1, xnr_i, xnr_0, xnr_1, xnr_ite, xft_i, xft_0, xft_1, xat_999, xat_1001, xat_1002, xat_1003, xat_2001, xat_2002, xat_2003, List.getElem?_cons_succ, List.getElem?_cons_zero, xfn_0, xfn_1, xfn_2, xfn_3, x10, x01, not_true_eq_false, false_implies, implies_true, true_implies, xrm_c, xrm_s, xnl_4, xnl_32, xnl_64, xnl_256, xtn_4, xtn_32, xtn_64, xtn_256, Option.some.injEq, Sum.inl.injEq, Sum.inr.injEq, exists_eq_left', exists_eq_right, Option.toList_some, Option.toList_none, List.cons_append, List.nil_append, xE, lg_cmp_ge, lg_cmp_le, lg_cmp_gt, lg_cmp_lt, lg_cmp_eq, Nat.le_refl, Nat.zero_le, ne_eq, Nat.add_zero, dM_fill_0, dM_fill_1, dM_fill_4, dM_fill_7, dM_fill_10, dM_fill_11, dM_fill_12, dM_fill_15, dM_fill_18, dM_fill_19, dM_fill_20, dM_fill_22, dM_fill_25, dM_fill_28, dM_fill_29, dM_fill_30, dM_fill_33, dM_fill_36, dM_fill_39, dM_fill_40, dM_fill_41, dM_fill_42, dM_fill_45, dM_fill_46, dM_fill_49, dM_fill_50, dM_fill_51, dM_fill_52, dM_fill_53, dM_fill_54, dM_fill_55, dM_fill_58, xf_4_91, xf_4_53, hmo, hs, e256]
  refine ⟨fun z => ?_, fun z => ?_⟩
  · unfold oFill
    rw [if_neg (by omega)]
    exact ⟨rfl, ⟨A, h⟩, xFr.rf _ _⟩
  refine hV.call [] xh_4_154 dM_fill_12 (d_isPart h x) (Or.inr ⟨_, _, rfl, fun _ => hmo⟩) rfl rfl (by decide) (by decide) (by decide) ?_
  rintro r S' ⟨rfl, rfl⟩
  by_cases hx : isP M x = true
  case neg =>
    rw [if_neg hx]
    refine xrun_ok hV [] 20 _ _ _ _ _ _ ?_
    simp (maxDischargeDepth := 60) only [xrun, xisc, ↓xstep, xget, xtgt, xcmp, xacmp, xprev, xisR, xnt, List.set, List.length, xsw, xlk, true_or, or_true, if_true, if_false, true_and, and_true, List.mem_cons, List.not_mem_nil, or_false, false_or, Bool.false_eq_true, reduceCtorEq, not_false_eq_true, forall_const, Nat.zero_add, Nat.reduceAdd, Nat.reduceSub, Int.reduceAdd, Int.reduceNeg, Int.reduceToNat, Nat.reduceEqDiff, Nat.reduceLT, Nat.reduceLeDiff, Int.reduceLE, Int.reduceLT, reduceIte, Int.cast_ofNat_Int, Int.natCast_zero, Int.natCast_one, Int.reduceAdd, eq_self, Int.reduceSub, List.length_cons, List.length_nil, xli_m1, xli_0, xli_1, xli_2, xli_3, xli_4, xli_5, xlb_8, xlb_12, xlb_31, xlb_32, xlb_64, xls_256, xls_513, xls_2048, xls_4096, xll_0, xll_1, xnr_i, xnr_0, xnr_1, xnr_ite, xft_i, xft_0, xft_1, xat_999, xat_1001, xat_1002, xat_1003, xat_2001, xat_2002, xat_2003, List.getElem?_cons_succ, List.getElem?_cons_zero, xfn_0, xfn_1, xfn_2, xfn_3, x10, x01, not_true_eq_false, false_implies, implies_true, true_implies, xrm_c, xrm_s, xnl_4, xnl_32, xnl_64, xnl_256, xtn_4, xtn_32, xtn_64, xtn_256, Option.some.injEq, Sum.inl.injEq, Sum.inr.injEq, exists_eq_left', exists_eq_right, Option.toList_some, Option.toList_none, List.cons_append, List.nil_append, xE, lg_cmp_ge, lg_cmp_le, lg_cmp_gt, lg_cmp_lt, lg_cmp_eq, Nat.le_refl, Nat.zero_le, ne_eq, Nat.add_zero, dM_fill_0, dM_fill_1, dM_fill_4, dM_fill_7, dM_fill_10, dM_fill_11, dM_fill_12, dM_fill_15, dM_fill_18, dM_fill_19, dM_fill_20, dM_fill_22, dM_fill_25, dM_fill_28, dM_fill_29, dM_fill_30, dM_fill_33, dM_fill_36, dM_fill_39, dM_fill_40, dM_fill_41, dM_fill_42, dM_fill_45, dM_fill_46, dM_fill_49, dM_fill_50, dM_fill_51, dM_fill_52, dM_fill_53, dM_fill_54, dM_fill_55, dM_fill_58, xf_4_91, xf_4_53]
    unfold oFill
    rw [if_neg (fun q => hx q.2.1)]
    exact ⟨rfl, ⟨A, h⟩, xFr.rf _ _⟩
  rw [if_pos hx]
  refine xrun_ok hV [] 20 _ _ _ _ _ _ ?_
  simp (maxDischargeDepth := 60) only [xrun, xisc, ↓xstep, xget, xtgt, xcmp, xacmp, xprev, xisR, xnt, List.set, List.length, xsw, xlk, true_or, or_true, if_true, if_false, true_and, and_true, List.mem_cons, List.not_mem_nil, or_false, false_or, Bool.false_eq_true, reduceCtorEq, not_false_eq_true, forall_const, Nat.zero_add, Nat.reduceAdd, Nat.reduceSub, Int.reduceAdd, Int.reduceNeg, Int.reduceToNat, Nat.reduceEqDiff, Nat.reduceLT, Nat.reduceLeDiff, Int.reduceLE, Int.reduceLT, reduceIte, Int.cast_ofNat_Int, Int.natCast_zero, Int.natCast_one, Int.reduceAdd, eq_self, Int.reduceSub, List.length_cons, List.length_nil, xli_m1, xli_0, xli_1, xli_2, xli_3, xli_4, xli_5, xlb_8, xlb_12, xlb_31, xlb_32, xlb_64, xls_256, xls_513, xls_2048, xls_4096, xll_0, xll_1, xnr_i, xnr_0, xnr_1, xnr_ite, xft_i, xft_0, xft_1, xat_999, xat_1001, xat_1002, xat_1003, xat_2001, xat_2002, xat_2003, List.getElem?_cons_succ, List.getElem?_cons_zero, xfn_0, xfn_1, xfn_2, xfn_3, x10, x01, not_true_eq_false, false_implies, implies_true, true_implies, xrm_c, xrm_s, xnl_4, xnl_32, xnl_64, xnl_256, xtn_4, xtn_32, xtn_64, xtn_256, Option.some.injEq, Sum.inl.injEq, Sum.inr.injEq, exists_eq_left', exists_eq_right, Option.toList_some, Option.toList_none, List.cons_append, List.nil_append, xE, lg_cmp_ge, lg_cmp_le, lg_cmp_gt, lg_cmp_lt, lg_cmp_eq, Nat.le_refl, Nat.zero_le, ne_eq, Nat.add_zero, dM_fill_0, dM_fill_1, dM_fill_4, dM_fill_7, dM_fill_10, dM_fill_11, dM_fill_12, dM_fill_15, dM_fill_18, dM_fill_19, dM_fill_20, dM_fill_22, dM_fill_25, dM_fill_28, dM_fill_29, dM_fill_30, dM_fill_33, dM_fill_36, dM_fill_39, dM_fill_40, dM_fill_41, dM_fill_42, dM_fill_45, dM_fill_46, dM_fill_49, dM_fill_50, dM_fill_51, dM_fill_52, dM_fill_53, dM_fill_54, dM_fill_55, dM_fill_58, xf_4_91, xf_4_53]
  refine hV.call [] xh_4_87 dM_fill_22 (d_in S' w 0 12 (a := 0) (b := 12) rfl rfl) (Or.inl rfl) rfl rfl (by decide) (by decide) (by decide) ?_
  rintro r S' ⟨rfl, rfl⟩
  by_cases hp : inR w 0 12 = true
  case neg =>
    rw [if_neg hp]
    refine xrun_ok hV [] 20 _ _ _ _ _ _ ?_
    simp (maxDischargeDepth := 60) only [xrun, xisc, ↓xstep, xget, xtgt, xcmp, xacmp, xprev, xisR, xnt, List.set, List.length, xsw, xlk, true_or, or_true, if_true, if_false, true_and, and_true, List.mem_cons, List.not_mem_nil, or_false, false_or, Bool.false_eq_true, reduceCtorEq, not_false_eq_true, forall_const, Nat.zero_add, Nat.reduceAdd, Nat.reduceSub, Int.reduceAdd, Int.reduceNeg, Int.reduceToNat, Nat.reduceEqDiff, Nat.reduceLT, Nat.reduceLeDiff, Int.reduceLE, Int.reduceLT, reduceIte, Int.cast_ofNat_Int, Int.natCast_zero, Int.natCast_one, Int.reduceAdd, eq_self, Int.reduceSub, List.length_cons, List.length_nil, xli_m1, xli_0, xli_1, xli_2, xli_3, xli_4, xli_5, xlb_8, xlb_12, xlb_31, xlb_32, xlb_64, xls_256, xls_513, xls_2048, xls_4096, xll_0, xll_1, xnr_i, xnr_0, xnr_1, xnr_ite, xft_i, xft_0, xft_1, xat_999, xat_1001, xat_1002, xat_1003, xat_2001, xat_2002, xat_2003, List.getElem?_cons_succ, List.getElem?_cons_zero, xfn_0, xfn_1, xfn_2, xfn_3, x10, x01, not_true_eq_false, false_implies, implies_true, true_implies, xrm_c, xrm_s, xnl_4, xnl_32, xnl_64, xnl_256, xtn_4, xtn_32, xtn_64, xtn_256, Option.some.injEq, Sum.inl.injEq, Sum.inr.injEq, exists_eq_left', exists_eq_right, Option.toList_some, Option.toList_none, List.cons_append, List.nil_append, xE, lg_cmp_ge, lg_cmp_le, lg_cmp_gt, lg_cmp_lt, lg_cmp_eq, Nat.le_refl, Nat.zero_le, ne_eq, Nat.add_zero, dM_fill_0, dM_fill_1, dM_fill_4, dM_fill_7, dM_fill_10, dM_fill_11, dM_fill_12, dM_fill_15, dM_fill_18, dM_fill_19, dM_fill_20, dM_fill_22, dM_fill_25, dM_fill_28, dM_fill_29, dM_fill_30, dM_fill_33, dM_fill_36, dM_fill_39, dM_fill_40, dM_fill_41, dM_fill_42, dM_fill_45, dM_fill_46, dM_fill_49, dM_fill_50, dM_fill_51, dM_fill_52, dM_fill_53, dM_fill_54, dM_fill_55, dM_fill_58, xf_4_91, xf_4_53]
    unfold oFill
    rw [if_neg (fun q => hp q.2.2.1)]
    exact ⟨rfl, ⟨A, h⟩, xFr.rf _ _⟩
  rw [if_pos hp]
  refine xrun_ok hV [] 20 _ _ _ _ _ _ ?_
  simp (maxDischargeDepth := 60) only [xrun, xisc, ↓xstep, xget, xtgt, xcmp, xacmp, xprev, xisR, xnt, List.set, List.length, xsw, xlk, true_or, or_true, if_true, if_false, true_and, and_true, List.mem_cons, List.not_mem_nil, or_false, false_or, Bool.false_eq_true, reduceCtorEq, not_false_eq_true, forall_const, Nat.zero_add, Nat.reduceAdd, Nat.reduceSub, Int.reduceAdd, Int.reduceNeg, Int.reduceToNat, Nat.reduceEqDiff, Nat.reduceLT, Nat.reduceLeDiff, Int.reduceLE, Int.reduceLT, reduceIte, Int.cast_ofNat_Int, Int.natCast_zero, Int.natCast_one, Int.reduceAdd, eq_self, Int.reduceSub, List.length_cons, List.length_nil, xli_m1, xli_0, xli_1, xli_2, xli_3, xli_4, xli_5, xlb_8, xlb_12, xlb_31, xlb_32, xlb_64, xls_256, xls_513, xls_2048, xls_4096, xll_0, xll_1, xnr_i, xnr_0, xnr_1, xnr_ite, xft_i, xft_0, xft_1, xat_999, xat_1001, xat_1002, xat_1003, xat_2001, xat_2002, xat_2003, List.getElem?_cons_succ, List.getElem?_cons_zero, xfn_0, xfn_1, xfn_2, xfn_3, x10, x01, not_true_eq_false, false_implies, implies_true, true_implies, xrm_c, xrm_s, xnl_4, xnl_32, xnl_64, xnl_256, xtn_4, xtn_32, xtn_64, xtn_256, Option.some.injEq, Sum.inl.injEq, Sum.inr.injEq, exists_eq_left', exists_eq_right, Option.toList_some, Option.toList_none, List.cons_append, List.nil_append, xE, lg_cmp_ge, lg_cmp_le, lg_cmp_gt, lg_cmp_lt, lg_cmp_eq, Nat.le_refl, Nat.zero_le, ne_eq, Nat.add_zero, dM_fill_0, dM_fill_1, dM_fill_4, dM_fill_7, dM_fill_10, dM_fill_11, dM_fill_12, dM_fill_15, dM_fill_18, dM_fill_19, dM_fill_20, dM_fill_22, dM_fill_25, dM_fill_28, dM_fill_29, dM_fill_30, dM_fill_33, dM_fill_36, dM_fill_39, dM_fill_40, dM_fill_41, dM_fill_42, dM_fill_45, dM_fill_46, dM_fill_49, dM_fill_50, dM_fill_51, dM_fill_52, dM_fill_53, dM_fill_54, dM_fill_55, dM_fill_58, xf_4_91, xf_4_53]
  refine hV.call [] xh_4_87 dM_fill_33 (d_in S' y 0 4096 (a := 0) (b := 4096) rfl rfl) (Or.inl rfl) rfl rfl (by decide) (by decide) (by decide) ?_
  rintro r S' ⟨rfl, rfl⟩
  by_cases hy : inR y 0 4096 = true
  case neg =>
    rw [if_neg hy]
    refine xrun_ok hV [] 20 _ _ _ _ _ _ ?_
    simp (maxDischargeDepth := 60) only [xrun, xisc, ↓xstep, xget, xtgt, xcmp, xacmp, xprev, xisR, xnt, List.set, List.length, xsw, xlk, true_or, or_true, if_true, if_false, true_and, and_true, List.mem_cons, List.not_mem_nil, or_false, false_or, Bool.false_eq_true, reduceCtorEq, not_false_eq_true, forall_const, Nat.zero_add, Nat.reduceAdd, Nat.reduceSub, Int.reduceAdd, Int.reduceNeg, Int.reduceToNat, Nat.reduceEqDiff, Nat.reduceLT, Nat.reduceLeDiff, Int.reduceLE, Int.reduceLT, reduceIte, Int.cast_ofNat_Int, Int.natCast_zero, Int.natCast_one, Int.reduceAdd, eq_self, Int.reduceSub, List.length_cons, List.length_nil, xli_m1, xli_0, xli_1, xli_2, xli_3, xli_4, xli_5, xlb_8, xlb_12, xlb_31, xlb_32, xlb_64, xls_256, xls_513, xls_2048, xls_4096, xll_0, xll_1, xnr_i, xnr_0, xnr_1, xnr_ite, xft_i, xft_0, xft_1, xat_999, xat_1001, xat_1002, xat_1003, xat_2001, xat_2002, xat_2003, List.getElem?_cons_succ, List.getElem?_cons_zero, xfn_0, xfn_1, xfn_2, xfn_3, x10, x01, not_true_eq_false, false_implies, implies_true, true_implies, xrm_c, xrm_s, xnl_4, xnl_32, xnl_64, xnl_256, xtn_4, xtn_32, xtn_64, xtn_256, Option.some.injEq, Sum.inl.injEq, Sum.inr.injEq, exists_eq_left', exists_eq_right, Option.toList_some, Option.toList_none, List.cons_append, List.nil_append, xE, lg_cmp_ge, lg_cmp_le, lg_cmp_gt, lg_cmp_lt, lg_cmp_eq, Nat.le_refl, Nat.zero_le, ne_eq, Nat.add_zero, dM_fill_0, dM_fill_1, dM_fill_4, dM_fill_7, dM_fill_10, dM_fill_11, dM_fill_12, dM_fill_15, dM_fill_18, dM_fill_19, dM_fill_20, dM_fill_22, dM_fill_25, dM_fill_28, dM_fill_29, dM_fill_30, dM_fill_33, dM_fill_36, dM_fill_39, dM_fill_40, dM_fill_41, dM_fill_42, dM_fill_45, dM_fill_46, dM_fill_49, dM_fill_50, dM_fill_51, dM_fill_52, dM_fill_53, dM_fill_54, dM_fill_55, dM_fill_58, xf_4_91, xf_4_53]
    unfold oFill
    rw [if_neg (fun q => hy q.2.2.2)]
    exact ⟨rfl, ⟨A, h⟩, xFr.rf _ _⟩
  rw [if_pos hy]
  have hx' := isP_iff.mp hx
  have hy' := inR_iff.mp hy
  have hp' := inR_iff.mp hp
  have e1 : x.toNatClampNeg = x.toInt.toNat := rfl
  have e2 : y.toNatClampNeg = y.toInt.toNat := rfl
  have e3 : w.toNatClampNeg = w.toInt.toNat := rfl
  have e0 : (nI (M 12 0)).toNatClampNeg = M 12 0 := nI_clamp (by omega)
  have hin : vp_in (nI (M 12 0)) 256 := vp_in_nI (by omega) (by decide)
  have hS := h.2.1
  refine xrun_ok hV [] 20 _ _ _ _ _ _ ?_
  simp (maxDischargeDepth := 60) only [xrun, xisc, ↓xstep, xget, xtgt, xcmp, xacmp, xprev, xisR, xnt, List.set, List.length, xsw, xlk, true_or, or_true, if_true, if_false, true_and, and_true, List.mem_cons, List.not_mem_nil, or_false, false_or, Bool.false_eq_true, reduceCtorEq, not_false_eq_true, forall_const, Nat.zero_add, Nat.reduceAdd, Nat.reduceSub, Int.reduceAdd, Int.reduceNeg, Int.reduceToNat, Nat.reduceEqDiff, Nat.reduceLT, Nat.reduceLeDiff, Int.reduceLE, Int.reduceLT, reduceIte, Int.cast_ofNat_Int, Int.natCast_zero, Int.natCast_one, Int.reduceAdd, eq_self, Int.reduceSub, List.length_cons, List.length_nil, xli_m1, xli_0, xli_1, xli_2, xli_3, xli_4, xli_5, xlb_8, xlb_12, xlb_31, xlb_32, xlb_64, xls_256, xls_513, xls_2048, xls_4096, xll_0, xll_1, xnr_i, xnr_0, xnr_1, xnr_ite, xft_i, xft_0, xft_1, xat_999, xat_1001, xat_1002, xat_1003, xat_2001, xat_2002, xat_2003, List.getElem?_cons_succ, List.getElem?_cons_zero, xfn_0, xfn_1, xfn_2, xfn_3, x10, x01, not_true_eq_false, false_implies, implies_true, true_implies, xrm_c, xrm_s, xnl_4, xnl_32, xnl_64, xnl_256, xtn_4, xtn_32, xtn_64, xtn_256, Option.some.injEq, Sum.inl.injEq, Sum.inr.injEq, exists_eq_left', exists_eq_right, Option.toList_some, Option.toList_none, List.cons_append, List.nil_append, xE, lg_cmp_ge, lg_cmp_le, lg_cmp_gt, lg_cmp_lt, lg_cmp_eq, Nat.le_refl, Nat.zero_le, ne_eq, Nat.add_zero, dM_fill_0, dM_fill_1, dM_fill_4, dM_fill_7, dM_fill_10, dM_fill_11, dM_fill_12, dM_fill_15, dM_fill_18, dM_fill_19, dM_fill_20, dM_fill_22, dM_fill_25, dM_fill_28, dM_fill_29, dM_fill_30, dM_fill_33, dM_fill_36, dM_fill_39, dM_fill_40, dM_fill_41, dM_fill_42, dM_fill_45, dM_fill_46, dM_fill_49, dM_fill_50, dM_fill_51, dM_fill_52, dM_fill_53, dM_fill_54, dM_fill_55, dM_fill_58, xf_4_91, xf_4_53, hmo, hs, r17, c17, l17, n17, hin, e0]
  have hp2 : rFp (xpi S' (A 17) (M 12 0) w) mo A M w.toNatClampNeg 0 0 0 := by
    obtain ⟨-, -, -, -, p18, p19, p20⟩ := h.p
    refine ⟨h.1, hS, fun f i hfi => ?_, ?_, ?_, ?_, ?_⟩
    · rw [xW_a (f := 17) hS rfl, if_neg (by omega)]; exact h.v f i
    · rw [xi_pi, if_pos ⟨rfl, rfl⟩, nI_cl hp'.1]
    · rw [hS.xo 18 17 rfl rfl (by decide)]; exact p18
    · rw [hS.xo 19 17 rfl rfl (by decide)]; exact p19
    · rw [hS.xo 20 17 rfl rfl (by decide)]; exact p20
  have hmo2 : xc (xpi S' (A 17) (M 12 0) w) mo = 5 := hmo
  have hd := d_added (l := l) (D := D) (n0 := n0) (pt := x.toNatClampNeg) (s := 4) (n := y.toNatClampNeg) hp2 (by omega) ⟨by decide, by omega, by omega, by decide, by decide, fun q => absurd q (by decide), fun q => absurd q (by decide), fun _ => by omega⟩
  rw [nI_cl hx'.1, nI_cl hy'.1] at hd
  refine hV.call [] xh_4_158 dM_fill_55 (hd) (Or.inr ⟨_, _, rfl, fun _ => hmo2⟩) rfl rfl (by decide) (by decide) (by decide) ?_
  rintro r S1 ⟨rfl, g1, g2⟩
  refine xrun_ok hV [] 20 _ _ _ _ _ _ ?_
  simp (maxDischargeDepth := 60) only [xrun, xisc, ↓xstep, xget, xtgt, xcmp, xacmp, xprev, xisR, xnt, List.set, List.length, xsw, xlk, true_or, or_true, if_true, if_false, true_and, and_true, List.mem_cons, List.not_mem_nil, or_false, false_or, Bool.false_eq_true, reduceCtorEq, not_false_eq_true, forall_const, Nat.zero_add, Nat.reduceAdd, Nat.reduceSub, Int.reduceAdd, Int.reduceNeg, Int.reduceToNat, Nat.reduceEqDiff, Nat.reduceLT, Nat.reduceLeDiff, Int.reduceLE, Int.reduceLT, reduceIte, Int.cast_ofNat_Int, Int.natCast_zero, Int.natCast_one, Int.reduceAdd, eq_self, Int.reduceSub, List.length_cons, List.length_nil, xli_m1, xli_0, xli_1, xli_2, xli_3, xli_4, xli_5, xlb_8, xlb_12, xlb_31, xlb_32, xlb_64, xls_256, xls_513, xls_2048, xls_4096, xll_0, xll_1, xnr_i, xnr_0, xnr_1, xnr_ite, xft_i, xft_0, xft_1, xat_999, xat_1001, xat_1002, xat_1003, xat_2001, xat_2002, xat_2003, List.getElem?_cons_succ, List.getElem?_cons_zero, xfn_0, xfn_1, xfn_2, xfn_3, x10, x01, not_true_eq_false, false_implies, implies_true, true_implies, xrm_c, xrm_s, xnl_4, xnl_32, xnl_64, xnl_256, xtn_4, xtn_32, xtn_64, xtn_256, Option.some.injEq, Sum.inl.injEq, Sum.inr.injEq, exists_eq_left', exists_eq_right, Option.toList_some, Option.toList_none, List.cons_append, List.nil_append, xE, lg_cmp_ge, lg_cmp_le, lg_cmp_gt, lg_cmp_lt, lg_cmp_eq, Nat.le_refl, Nat.zero_le, ne_eq, Nat.add_zero, dM_fill_0, dM_fill_1, dM_fill_4, dM_fill_7, dM_fill_10, dM_fill_11, dM_fill_12, dM_fill_15, dM_fill_18, dM_fill_19, dM_fill_20, dM_fill_22, dM_fill_25, dM_fill_28, dM_fill_29, dM_fill_30, dM_fill_33, dM_fill_36, dM_fill_39, dM_fill_40, dM_fill_41, dM_fill_42, dM_fill_45, dM_fill_46, dM_fill_49, dM_fill_50, dM_fill_51, dM_fill_52, dM_fill_53, dM_fill_54, dM_fill_55, dM_fill_58, xf_4_91, xf_4_53]
  unfold oFill
  rw [if_pos ⟨by omega, hx, hp, hy⟩]
  exact ⟨rfl, ⟨A, g1⟩, (xFr.ar hS (f := 17) rfl _ _).tr g2⟩
set_option maxHeartbeats 4000000 in
set_option maxRecDepth 100000 in
theorem d_aimed (h : rFx S mo M) {s t : Nat} (hs0 : saim s = true) (ht : t ≤ 1) (h3 : s = 3 → t = 0) (x y c : Int32) : xMet l D n0 mM_aimed 0 0 [.inr (.inr (some mo)), .inl x, .inl (nI s), .inl y, .inl c, .inl (nI t)] S (oN S mo (oAimed M s x y c t)) := by
  obtain ⟨A, h⟩ := h
  have hmo := h.mo
  have hs := h.s12
  have hw := h.1.1.2.2.1
  have hs4 : 1 ≤ s ∧ s < 4 := by simpa [saim] using hs0
  have e256 : (nI (M 12 0) = 256) = (M 12 0 = 256) := propext (nI_eq (b := 256) (by omega) (by decide))
  have r18 : xr S mo 18 = some (A 18) := h.ar 18 rfl
  have c18 : xc S (A 18) = 1002 := h.tg 18 rfl
  have l18 : xl S (A 18) = 256 := h.ln 18 rfl
  have n18 : (mo = A 18) = False := eq_false (fun e => h.nm (f := 18) rfl e.symm)
  have r19 : xr S mo 19 = some (A 19) := h.ar 19 rfl
  have c19 : xc S (A 19) = 1002 := h.tg 19 rfl
  have l19 : xl S (A 19) = 256 := h.ln 19 rfl
  have n19 : (mo = A 19) = False := eq_false (fun e => h.nm (f := 19) rfl e.symm)
  have r20 : xr S mo 20 = some (A 20) := h.ar 20 rfl
  have c20 : xc S (A 20) = 1003 := h.tg 20 rfl
  have l20 : xl S (A 20) = 256 := h.ln 20 rfl
  have n20 : (mo = A 20) = False := eq_false (fun e => h.nm (f := 20) rfl e.symm)
  refine xMet.of (k := mM_aimed) (own := 4) (ini := false) xm_M_aimed (by decide +kernel) (by decide +kernel) (by decide) (Nat.le_of_ble_eq_true rfl) ?_
  intro V hV
  show V 0 [some (.inr (.inr (some mo))), some (.inl x), some (.inl (nI s)), some (.inl y), some (.inl c), some (.inl (nI t))] [] S 0 0
  refine xrun_ok hV [] 20 _ _ _ _ _ _ ?_
  simp (maxDischargeDepth := 60) only [xrun, xisc, ↓xstep, xget, xtgt, xcmp, xacmp, xprev, xisR, xnt, List.set, List.length, xsw, xlk, true_or, or_true, if_true, if_false, true_and, and_true, List.mem_cons, List.not_mem_nil, or_false, false_or, Bool.false_eq_true, reduceCtorEq, not_false_eq_true, forall_const, Nat.zero_add, Nat.reduceAdd, Nat.reduceSub, Int.reduceAdd, Int.reduceNeg, Int.reduceToNat, Nat.reduceEqDiff, Nat.reduceLT, Nat.reduceLeDiff, Int.reduceLE, Int.reduceLT, reduceIte, Int.cast_ofNat_Int, Int.natCast_zero, Int.natCast_one, Int.reduceAdd, eq_self, Int.reduceSub, List.length_cons, List.length_nil, xli_m1, xli_0, xli_1, xli_2, xli_3, xli_4, xli_5, xlb_8, xlb_12, xlb_31, xlb_32, xlb_64, xls_256, xls_513, xls_2048, xls_4096, xll_0, xll_1, xnr_i, xnr_0, xnr_1, xnr_ite, xft_i, xft_0, xft_1, xat_999, xat_1001, xat_1002, xat_1003, xat_2001, xat_2002, xat_2003, List.getElem?_cons_succ, List.getElem?_cons_zero, xfn_0, xfn_1, xfn_2, xfn_3, x10, x01, not_true_eq_false, false_implies, implies_true, true_implies, xrm_c, xrm_s, xnl_4, xnl_32, xnl_64, xnl_256, xtn_4, xtn_32, xtn_64, xtn_256, Option.some.injEq, Sum.inl.injEq, Sum.inr.injEq, exists_eq_left', exists_eq_right, Option.toList_some, Option.toList_none, List.cons_append, List.nil_append, xE, lg_cmp_ge, lg_cmp_le, lg_cmp_gt, lg_cmp_lt, lg_cmp_eq, Nat.le_refl, Nat.zero_le, ne_eq, Nat.add_zero, dM_aimed_0, dM_aimed_1, dM_aimed_4, dM_aimed_7, dM_aimed_10, dM_aimed_11, dM_aimed_12, dM_aimed_15, dM_aimed_18, dM_aimed_19, dM_aimed_20, dM_aimed_23, dM_aimed_26, dM_aimed_27, dM_aimed_28, dM_aimed_29, dM_aimed_32, dM_aimed_33, dM_aimed_36, dM_aimed_37, dM_aimed_38, dM_aimed_39, dM_aimed_42, dM_aimed_43, dM_aimed_46, dM_aimed_48, dM_aimed_49, dM_aimed_50, dM_aimed_53, dM_aimed_54, dM_aimed_57, dM_aimed_59, dM_aimed_60, dM_aimed_61, dM_aimed_62, dM_aimed_63, dM_aimed_64, dM_aimed_67, dM_aimed_70, xf_4_91, xf_4_56, xf_4_59, xf_4_62, hmo, hs, e256]
  refine ⟨fun z => ?_, fun z => ?_⟩
  · unfold oAimed
    rw [if_neg (by omega)]
    exact ⟨rfl, ⟨A, h⟩, xFr.rf _ _⟩
  refine hV.call [] xh_4_154 dM_aimed_12 (d_isPart h x) (Or.inr ⟨_, _, rfl, fun _ => hmo⟩) rfl rfl (by decide) (by decide) (by decide) ?_
  rintro r S' ⟨rfl, rfl⟩
  by_cases hx : isP M x = true
  case neg =>
    rw [if_neg hx]
    refine xrun_ok hV [] 20 _ _ _ _ _ _ ?_
    simp (maxDischargeDepth := 60) only [xrun, xisc, ↓xstep, xget, xtgt, xcmp, xacmp, xprev, xisR, xnt, List.set, List.length, xsw, xlk, true_or, or_true, if_true, if_false, true_and, and_true, List.mem_cons, List.not_mem_nil, or_false, false_or, Bool.false_eq_true, reduceCtorEq, not_false_eq_true, forall_const, Nat.zero_add, Nat.reduceAdd, Nat.reduceSub, Int.reduceAdd, Int.reduceNeg, Int.reduceToNat, Nat.reduceEqDiff, Nat.reduceLT, Nat.reduceLeDiff, Int.reduceLE, Int.reduceLT, reduceIte, Int.cast_ofNat_Int, Int.natCast_zero, Int.natCast_one, Int.reduceAdd, eq_self, Int.reduceSub, List.length_cons, List.length_nil, xli_m1, xli_0, xli_1, xli_2, xli_3, xli_4, xli_5, xlb_8, xlb_12, xlb_31, xlb_32, xlb_64, xls_256, xls_513, xls_2048, xls_4096, xll_0, xll_1, xnr_i, xnr_0, xnr_1, xnr_ite, xft_i, xft_0, xft_1, xat_999, xat_1001, xat_1002, xat_1003, xat_2001, xat_2002, xat_2003, List.getElem?_cons_succ, List.getElem?_cons_zero, xfn_0, xfn_1, xfn_2, xfn_3, x10, x01, not_true_eq_false, false_implies, implies_true, true_implies, xrm_c, xrm_s, xnl_4, xnl_32, xnl_64, xnl_256, xtn_4, xtn_32, xtn_64, xtn_256, Option.some.injEq, Sum.inl.injEq, Sum.inr.injEq, exists_eq_left', exists_eq_right, Option.toList_some, Option.toList_none, List.cons_append, List.nil_append, xE, lg_cmp_ge, lg_cmp_le, lg_cmp_gt, lg_cmp_lt, lg_cmp_eq, Nat.le_refl, Nat.zero_le, ne_eq, Nat.add_zero, dM_aimed_0, dM_aimed_1, dM_aimed_4, dM_aimed_7, dM_aimed_10, dM_aimed_11, dM_aimed_12, dM_aimed_15, dM_aimed_18, dM_aimed_19, dM_aimed_20, dM_aimed_23, dM_aimed_26, dM_aimed_27, dM_aimed_28, dM_aimed_29, dM_aimed_32, dM_aimed_33, dM_aimed_36, dM_aimed_37, dM_aimed_38, dM_aimed_39, dM_aimed_42, dM_aimed_43, dM_aimed_46, dM_aimed_48, dM_aimed_49, dM_aimed_50, dM_aimed_53, dM_aimed_54, dM_aimed_57, dM_aimed_59, dM_aimed_60, dM_aimed_61, dM_aimed_62, dM_aimed_63, dM_aimed_64, dM_aimed_67, dM_aimed_70, xf_4_91, xf_4_56, xf_4_59, xf_4_62]
    unfold oAimed
    rw [if_neg (fun q => hx q.2.1)]
    exact ⟨rfl, ⟨A, h⟩, xFr.rf _ _⟩
  rw [if_pos hx]
  refine xrun_ok hV [] 20 _ _ _ _ _ _ ?_
  simp (maxDischargeDepth := 60) only [xrun, xisc, ↓xstep, xget, xtgt, xcmp, xacmp, xprev, xisR, xnt, List.set, List.length, xsw, xlk, true_or, or_true, if_true, if_false, true_and, and_true, List.mem_cons, List.not_mem_nil, or_false, false_or, Bool.false_eq_true, reduceCtorEq, not_false_eq_true, forall_const, Nat.zero_add, Nat.reduceAdd, Nat.reduceSub, Int.reduceAdd, Int.reduceNeg, Int.reduceToNat, Nat.reduceEqDiff, Nat.reduceLT, Nat.reduceLeDiff, Int.reduceLE, Int.reduceLT, reduceIte, Int.cast_ofNat_Int, Int.natCast_zero, Int.natCast_one, Int.reduceAdd, eq_self, Int.reduceSub, List.length_cons, List.length_nil, xli_m1, xli_0, xli_1, xli_2, xli_3, xli_4, xli_5, xlb_8, xlb_12, xlb_31, xlb_32, xlb_64, xls_256, xls_513, xls_2048, xls_4096, xll_0, xll_1, xnr_i, xnr_0, xnr_1, xnr_ite, xft_i, xft_0, xft_1, xat_999, xat_1001, xat_1002, xat_1003, xat_2001, xat_2002, xat_2003, List.getElem?_cons_succ, List.getElem?_cons_zero, xfn_0, xfn_1, xfn_2, xfn_3, x10, x01, not_true_eq_false, false_implies, implies_true, true_implies, xrm_c, xrm_s, xnl_4, xnl_32, xnl_64, xnl_256, xtn_4, xtn_32, xtn_64, xtn_256, Option.some.injEq, Sum.inl.injEq, Sum.inr.injEq, exists_eq_left', exists_eq_right, Option.toList_some, Option.toList_none, List.cons_append, List.nil_append, xE, lg_cmp_ge, lg_cmp_le, lg_cmp_gt, lg_cmp_lt, lg_cmp_eq, Nat.le_refl, Nat.zero_le, ne_eq, Nat.add_zero, dM_aimed_0, dM_aimed_1, dM_aimed_4, dM_aimed_7, dM_aimed_10, dM_aimed_11, dM_aimed_12, dM_aimed_15, dM_aimed_18, dM_aimed_19, dM_aimed_20, dM_aimed_23, dM_aimed_26, dM_aimed_27, dM_aimed_28, dM_aimed_29, dM_aimed_32, dM_aimed_33, dM_aimed_36, dM_aimed_37, dM_aimed_38, dM_aimed_39, dM_aimed_42, dM_aimed_43, dM_aimed_46, dM_aimed_48, dM_aimed_49, dM_aimed_50, dM_aimed_53, dM_aimed_54, dM_aimed_57, dM_aimed_59, dM_aimed_60, dM_aimed_61, dM_aimed_62, dM_aimed_63, dM_aimed_64, dM_aimed_67, dM_aimed_70, xf_4_91, xf_4_56, xf_4_59, xf_4_62]
  refine hV.call [] xh_4_107 dM_aimed_20 (d_isLabel h y) (Or.inr ⟨_, _, rfl, fun _ => hmo⟩) rfl rfl (by decide) (by decide) (by decide) ?_
  rintro r S' ⟨rfl, rfl⟩
  by_cases hy : isL M y = true
  case neg =>
    rw [if_neg hy]
    refine xrun_ok hV [] 20 _ _ _ _ _ _ ?_
    simp (maxDischargeDepth := 60) only [xrun, xisc, ↓xstep, xget, xtgt, xcmp, xacmp, xprev, xisR, xnt, List.set, List.length, xsw, xlk, true_or, or_true, if_true, if_false, true_and, and_true, List.mem_cons, List.not_mem_nil, or_false, false_or, Bool.false_eq_true, reduceCtorEq, not_false_eq_true, forall_const, Nat.zero_add, Nat.reduceAdd, Nat.reduceSub, Int.reduceAdd, Int.reduceNeg, Int.reduceToNat, Nat.reduceEqDiff, Nat.reduceLT, Nat.reduceLeDiff, Int.reduceLE, Int.reduceLT, reduceIte, Int.cast_ofNat_Int, Int.natCast_zero, Int.natCast_one, Int.reduceAdd, eq_self, Int.reduceSub, List.length_cons, List.length_nil, xli_m1, xli_0, xli_1, xli_2, xli_3, xli_4, xli_5, xlb_8, xlb_12, xlb_31, xlb_32, xlb_64, xls_256, xls_513, xls_2048, xls_4096, xll_0, xll_1, xnr_i, xnr_0, xnr_1, xnr_ite, xft_i, xft_0, xft_1, xat_999, xat_1001, xat_1002, xat_1003, xat_2001, xat_2002, xat_2003, List.getElem?_cons_succ, List.getElem?_cons_zero, xfn_0, xfn_1, xfn_2, xfn_3, x10, x01, not_true_eq_false, false_implies, implies_true, true_implies, xrm_c, xrm_s, xnl_4, xnl_32, xnl_64, xnl_256, xtn_4, xtn_32, xtn_64, xtn_256, Option.some.injEq, Sum.inl.injEq, Sum.inr.injEq, exists_eq_left', exists_eq_right, Option.toList_some, Option.toList_none, List.cons_append, List.nil_append, xE, lg_cmp_ge, lg_cmp_le, lg_cmp_gt, lg_cmp_lt, lg_cmp_eq, Nat.le_refl, Nat.zero_le, ne_eq, Nat.add_zero, dM_aimed_0, dM_aimed_1, dM_aimed_4, dM_aimed_7, dM_aimed_10, dM_aimed_11, dM_aimed_12, dM_aimed_15, dM_aimed_18, dM_aimed_19, dM_aimed_20, dM_aimed_23, dM_aimed_26, dM_aimed_27, dM_aimed_28, dM_aimed_29, dM_aimed_32, dM_aimed_33, dM_aimed_36, dM_aimed_37, dM_aimed_38, dM_aimed_39, dM_aimed_42, dM_aimed_43, dM_aimed_46, dM_aimed_48, dM_aimed_49, dM_aimed_50, dM_aimed_53, dM_aimed_54, dM_aimed_57, dM_aimed_59, dM_aimed_60, dM_aimed_61, dM_aimed_62, dM_aimed_63, dM_aimed_64, dM_aimed_67, dM_aimed_70, xf_4_91, xf_4_56, xf_4_59, xf_4_62]
    unfold oAimed
    rw [if_neg (fun q => hy q.2.2)]
    exact ⟨rfl, ⟨A, h⟩, xFr.rf _ _⟩
  rw [if_pos hy]
  have hx' := isP_iff.mp hx
  have hy' := isL_iff.mp hy
  have e1 : x.toNatClampNeg = x.toInt.toNat := rfl
  have e2 : y.toNatClampNeg = y.toInt.toNat := rfl
  have e0 : (nI (M 12 0)).toNatClampNeg = M 12 0 := nI_clamp (by omega)
  have hin : vp_in (nI (M 12 0)) 256 := vp_in_nI (by omega) (by decide)
  have hb := (nI_b ht).1
  have hS := h.2.1
  refine xrun_ok hV [] 40 _ _ _ _ _ _ ?_
  simp (maxDischargeDepth := 60) only [xrun, xisc, ↓xstep, xget, xtgt, xcmp, xacmp, xprev, xisR, xnt, List.set, List.length, xsw, xlk, true_or, or_true, if_true, if_false, true_and, and_true, List.mem_cons, List.not_mem_nil, or_false, false_or, Bool.false_eq_true, reduceCtorEq, not_false_eq_true, forall_const, Nat.zero_add, Nat.reduceAdd, Nat.reduceSub, Int.reduceAdd, Int.reduceNeg, Int.reduceToNat, Nat.reduceEqDiff, Nat.reduceLT, Nat.reduceLeDiff, Int.reduceLE, Int.reduceLT, reduceIte, Int.cast_ofNat_Int, Int.natCast_zero, Int.natCast_one, Int.reduceAdd, eq_self, Int.reduceSub, List.length_cons, List.length_nil, xli_m1, xli_0, xli_1, xli_2, xli_3, xli_4, xli_5, xlb_8, xlb_12, xlb_31, xlb_32, xlb_64, xls_256, xls_513, xls_2048, xls_4096, xll_0, xll_1, xnr_i, xnr_0, xnr_1, xnr_ite, xft_i, xft_0, xft_1, xat_999, xat_1001, xat_1002, xat_1003, xat_2001, xat_2002, xat_2003, List.getElem?_cons_succ, List.getElem?_cons_zero, xfn_0, xfn_1, xfn_2, xfn_3, x10, x01, not_true_eq_false, false_implies, implies_true, true_implies, xrm_c, xrm_s, xnl_4, xnl_32, xnl_64, xnl_256, xtn_4, xtn_32, xtn_64, xtn_256, Option.some.injEq, Sum.inl.injEq, Sum.inr.injEq, exists_eq_left', exists_eq_right, Option.toList_some, Option.toList_none, List.cons_append, List.nil_append, xE, lg_cmp_ge, lg_cmp_le, lg_cmp_gt, lg_cmp_lt, lg_cmp_eq, Nat.le_refl, Nat.zero_le, ne_eq, Nat.add_zero, dM_aimed_0, dM_aimed_1, dM_aimed_4, dM_aimed_7, dM_aimed_10, dM_aimed_11, dM_aimed_12, dM_aimed_15, dM_aimed_18, dM_aimed_19, dM_aimed_20, dM_aimed_23, dM_aimed_26, dM_aimed_27, dM_aimed_28, dM_aimed_29, dM_aimed_32, dM_aimed_33, dM_aimed_36, dM_aimed_37, dM_aimed_38, dM_aimed_39, dM_aimed_42, dM_aimed_43, dM_aimed_46, dM_aimed_48, dM_aimed_49, dM_aimed_50, dM_aimed_53, dM_aimed_54, dM_aimed_57, dM_aimed_59, dM_aimed_60, dM_aimed_61, dM_aimed_62, dM_aimed_63, dM_aimed_64, dM_aimed_67, dM_aimed_70, xf_4_91, xf_4_56, xf_4_59, xf_4_62, hmo, hs, r18, c18, l18, n18, r19, c19, l19, n19, r20, c20, l20, n20, hin, e0, hb, xi_pi, xr_pi, xc_pi, xl_pi, false_and]
  have hS1 := hS.pi (A 18) (M 12 0) y
  have hS2 := hS1.pi (A 19) (M 12 0) c
  have hp2 : rFp (xpi (xpi (xpi S' (A 18) (M 12 0) y) (A 19) (M 12 0) c) (A 20) (M 12 0) (nI t)) mo A M 0 y.toNatClampNeg c.toBitVec.toNat t := by
    obtain ⟨-, -, -, p17, -⟩ := h.p
    refine ⟨h.1, hS, fun f i hfi => ?_, ?_, ?_, ?_, ?_⟩
    · rw [xW_a (f := 20) hS2 rfl, if_neg (by omega), xW_a (f := 19) hS1 rfl, if_neg (by omega), xW_a (f := 18) hS rfl, if_neg (by omega)]; exact h.v f i
    · rw [hS.xo 17 20 rfl rfl (by decide), hS.xo 17 19 rfl rfl (by decide), hS.xo 17 18 rfl rfl (by decide)]; exact p17
    · rw [hS.xo 18 20 rfl rfl (by decide), hS.xo 18 19 rfl rfl (by decide), xi_pi, if_pos ⟨rfl, rfl⟩, nI_cl hy'.1]
    · rw [hS.xo 19 20 rfl rfl (by decide), xi_pi, if_pos ⟨rfl, rfl⟩, nI_bits]
    · rw [xi_pi, if_pos ⟨rfl, rfl⟩]
  have hF2 : xFr tM S' (xpi (xpi (xpi S' (A 18) (M 12 0) y) (A 19) (M 12 0) c) (A 20) (M 12 0) (nI t)) := ((xFr.ar hS (f := 18) rfl _ _).tr (xFr.ar hS1 (f := 19) rfl _ _)).tr (xFr.ar hS2 (f := 20) rfl _ _)
  generalize xpi (xpi (xpi S' (A 18) (M 12 0) y) (A 19) (M 12 0) c) (A 20) (M 12 0) (nI t) = S2 at hp2 hF2 ⊢
  have hmo2 : xc S2 mo = 5 := hp2.2.1.1.1
  refine hV.call [.inl (nI s), .inl x, .inr (.inr (some mo))] xh_4_131 dM_aimed_64 (d_greatest S2 (s := s) (by omega)) (Or.inl rfl) rfl rfl (Nat.le_of_ble_eq_true rfl) (by decide) (by decide) ?_
  rintro r S2' ⟨rfl, rfl⟩
  have hd := d_added (l := l) (D := D) (n0 := n0) (pt := x.toNatClampNeg) (s := s) (n := mgr s) hp2 (by omega) ⟨by omega, by omega, by decide, ht, c.toBitVec.isLt, fun q => by omega, fun _ => ⟨rfl, by omega, h3⟩, fun q => by omega⟩
  rw [nI_cl hx'.1] at hd
  refine xrun_ok hV [] 20 _ _ _ _ _ _ ?_
  simp (maxDischargeDepth := 60) only [xrun, xisc, ↓xstep, xget, xtgt, xcmp, xacmp, xprev, xisR, xnt, List.set, List.length, xsw, xlk, true_or, or_true, if_true, if_false, true_and, and_true, List.mem_cons, List.not_mem_nil, or_false, false_or, Bool.false_eq_true, reduceCtorEq, not_false_eq_true, forall_const, Nat.zero_add, Nat.reduceAdd, Nat.reduceSub, Int.reduceAdd, Int.reduceNeg, Int.reduceToNat, Nat.reduceEqDiff, Nat.reduceLT, Nat.reduceLeDiff, Int.reduceLE, Int.reduceLT, reduceIte, Int.cast_ofNat_Int, Int.natCast_zero, Int.natCast_one, Int.reduceAdd, eq_self, Int.reduceSub, List.length_cons, List.length_nil, xli_m1, xli_0, xli_1, xli_2, xli_3, xli_4, xli_5, xlb_8, xlb_12, xlb_31, xlb_32, xlb_64, xls_256, xls_513, xls_2048, xls_4096, xll_0, xll_1, xnr_i, xnr_0, xnr_1, xnr_ite, xft_i, xft_0, xft_1, xat_999, xat_1001, xat_1002, xat_1003, xat_2001, xat_2002, xat_2003, List.getElem?_cons_succ, List.getElem?_cons_zero, xfn_0, xfn_1, xfn_2, xfn_3, x10, x01, not_true_eq_false, false_implies, implies_true, true_implies, xrm_c, xrm_s, xnl_4, xnl_32, xnl_64, xnl_256, xtn_4, xtn_32, xtn_64, xtn_256, Option.some.injEq, Sum.inl.injEq, Sum.inr.injEq, exists_eq_left', exists_eq_right, Option.toList_some, Option.toList_none, List.cons_append, List.nil_append, xE, lg_cmp_ge, lg_cmp_le, lg_cmp_gt, lg_cmp_lt, lg_cmp_eq, Nat.le_refl, Nat.zero_le, ne_eq, Nat.add_zero, dM_aimed_0, dM_aimed_1, dM_aimed_4, dM_aimed_7, dM_aimed_10, dM_aimed_11, dM_aimed_12, dM_aimed_15, dM_aimed_18, dM_aimed_19, dM_aimed_20, dM_aimed_23, dM_aimed_26, dM_aimed_27, dM_aimed_28, dM_aimed_29, dM_aimed_32, dM_aimed_33, dM_aimed_36, dM_aimed_37, dM_aimed_38, dM_aimed_39, dM_aimed_42, dM_aimed_43, dM_aimed_46, dM_aimed_48, dM_aimed_49, dM_aimed_50, dM_aimed_53, dM_aimed_54, dM_aimed_57, dM_aimed_59, dM_aimed_60, dM_aimed_61, dM_aimed_62, dM_aimed_63, dM_aimed_64, dM_aimed_67, dM_aimed_70, xf_4_91, xf_4_56, xf_4_59, xf_4_62]
  refine hV.call [] xh_4_158 dM_aimed_67 (hd) (Or.inr ⟨_, _, rfl, fun _ => hmo2⟩) rfl rfl (by decide) (by decide) (by decide) ?_
  rintro r S1 ⟨rfl, g1, g2⟩
  refine xrun_ok hV [] 20 _ _ _ _ _ _ ?_
  simp (maxDischargeDepth := 60) only [xrun, xisc, ↓xstep, xget, xtgt, xcmp, xacmp, xprev, xisR, xnt, List.set, List.length, xsw, xlk, true_or, or_true, if_true, if_false, true_and, and_true, List.mem_cons, List.not_mem_nil, or_false, false_or, Bool.false_eq_true, reduceCtorEq, not_false_eq_true, forall_const, Nat.zero_add, Nat.reduceAdd, Nat.reduceSub, Int.reduceAdd, Int.reduceNeg, Int.reduceToNat, Nat.reduceEqDiff, Nat.reduceLT, Nat.reduceLeDiff, Int.reduceLE, Int.reduceLT, reduceIte, Int.cast_ofNat_Int, Int.natCast_zero, Int.natCast_one, Int.reduceAdd, eq_self, Int.reduceSub, List.length_cons, List.length_nil, xli_m1, xli_0, xli_1, xli_2, xli_3, xli_4, xli_5, xlb_8, xlb_12, xlb_31, xlb_32, xlb_64, xls_256, xls_513, xls_2048, xls_4096, xll_0, xll_1, xnr_i, xnr_0, xnr_1, xnr_ite, xft_i, xft_0, xft_1, xat_999, xat_1001, xat_1002, xat_1003, xat_2001, xat_2002, xat_2003, List.getElem?_cons_succ, List.getElem?_cons_zero, xfn_0, xfn_1, xfn_2, xfn_3, x10, x01, not_true_eq_false, false_implies, implies_true, true_implies, xrm_c, xrm_s, xnl_4, xnl_32, xnl_64, xnl_256, xtn_4, xtn_32, xtn_64, xtn_256, Option.some.injEq, Sum.inl.injEq, Sum.inr.injEq, exists_eq_left', exists_eq_right, Option.toList_some, Option.toList_none, List.cons_append, List.nil_append, xE, lg_cmp_ge, lg_cmp_le, lg_cmp_gt, lg_cmp_lt, lg_cmp_eq, Nat.le_refl, Nat.zero_le, ne_eq, Nat.add_zero, dM_aimed_0, dM_aimed_1, dM_aimed_4, dM_aimed_7, dM_aimed_10, dM_aimed_11, dM_aimed_12, dM_aimed_15, dM_aimed_18, dM_aimed_19, dM_aimed_20, dM_aimed_23, dM_aimed_26, dM_aimed_27, dM_aimed_28, dM_aimed_29, dM_aimed_32, dM_aimed_33, dM_aimed_36, dM_aimed_37, dM_aimed_38, dM_aimed_39, dM_aimed_42, dM_aimed_43, dM_aimed_46, dM_aimed_48, dM_aimed_49, dM_aimed_50, dM_aimed_53, dM_aimed_54, dM_aimed_57, dM_aimed_59, dM_aimed_60, dM_aimed_61, dM_aimed_62, dM_aimed_63, dM_aimed_64, dM_aimed_67, dM_aimed_70, xf_4_91, xf_4_56, xf_4_59, xf_4_62]
  unfold oAimed
  rw [if_pos ⟨by omega, hx, hy⟩]
  exact ⟨rfl, ⟨A, g1⟩, hF2.tr g2⟩
set_option maxHeartbeats 4000000 in
set_option maxRecDepth 100000 in
theorem d_call (h : rFx S mo M) {t : Nat} (ht : t ≤ 1) (x y c : Int32) : xMet l D n0 mM_call 0 0 [.inr (.inr (some mo)), .inl x, .inl y, .inl c, .inl (nI t)] S (oN S mo (oAimed M 1 x y c t)) := by
  have hmo := h.mo
  refine xMet.of (k := mM_call) (own := 4) (ini := false) xm_M_call (by decide +kernel) (by decide +kernel) (by decide) (Nat.le_of_ble_eq_true rfl) ?_
  intro V hV
  show V 0 [some (.inr (.inr (some mo))), some (.inl x), some (.inl y), some (.inl c), some (.inl (nI t))] [] S 0 0
  refine xrun_ok hV [] 20 _ _ _ _ _ _ ?_
  simp (maxDischargeDepth := 60) only [xrun, xisc, ↓xstep, xget, xtgt, xcmp, xacmp, xprev, xisR, xnt, List.set, List.length, xsw, xlk, true_or, or_true, if_true, if_false, true_and, and_true, List.mem_cons, List.not_mem_nil, or_false, false_or, Bool.false_eq_true, reduceCtorEq, not_false_eq_true, forall_const, Nat.zero_add, Nat.reduceAdd, Nat.reduceSub, Int.reduceAdd, Int.reduceNeg, Int.reduceToNat, Nat.reduceEqDiff, Nat.reduceLT, Nat.reduceLeDiff, Int.reduceLE, Int.reduceLT, reduceIte, Int.cast_ofNat_Int, Int.natCast_zero, Int.natCast_one, Int.reduceAdd, eq_self, Int.reduceSub, List.length_cons, List.length_nil, xli_m1, xli_0, xli_1, xli_2, xli_3, xli_4, xli_5, xlb_8, xlb_12, xlb_31, xlb_32, xlb_64, xls_256, xls_513, xls_2048, xls_4096, xll_0, xll_1, xnr_i, xnr_0, xnr_1, xnr_ite, xft_i, xft_0, xft_1, xat_999, xat_1001, xat_1002, xat_1003, xat_2001, xat_2002, xat_2003, List.getElem?_cons_succ, List.getElem?_cons_zero, xfn_0, xfn_1, xfn_2, xfn_3, x10, x01, not_true_eq_false, false_implies, implies_true, true_implies, xrm_c, xrm_s, xnl_4, xnl_32, xnl_64, xnl_256, xtn_4, xtn_32, xtn_64, xtn_256, Option.some.injEq, Sum.inl.injEq, Sum.inr.injEq, exists_eq_left', exists_eq_right, Option.toList_some, Option.toList_none, List.cons_append, List.nil_append, xE, lg_cmp_ge, lg_cmp_le, lg_cmp_gt, lg_cmp_lt, lg_cmp_eq, Nat.le_refl, Nat.zero_le, ne_eq, Nat.add_zero, dM_call_0, dM_call_1, dM_call_2, dM_call_3, dM_call_4, dM_call_5, dM_call_7, dM_call_10]
  refine hV.call [] xh_4_162 dM_call_7 (d_aimed h (s := 1) (by decide) ht (fun z => absurd z (by decide)) x y c) (Or.inr ⟨_, _, rfl, fun _ => hmo⟩) rfl rfl (by decide) (by decide) (by decide) ?_
  rintro r S' ⟨rfl, g1, g2⟩
  refine xrun_ok hV [] 20 _ _ _ _ _ _ ?_
  simp (maxDischargeDepth := 60) only [xrun, xisc, ↓xstep, xget, xtgt, xcmp, xacmp, xprev, xisR, xnt, List.set, List.length, xsw, xlk, true_or, or_true, if_true, if_false, true_and, and_true, List.mem_cons, List.not_mem_nil, or_false, false_or, Bool.false_eq_true, reduceCtorEq, not_false_eq_true, forall_const, Nat.zero_add, Nat.reduceAdd, Nat.reduceSub, Int.reduceAdd, Int.reduceNeg, Int.reduceToNat, Nat.reduceEqDiff, Nat.reduceLT, Nat.reduceLeDiff, Int.reduceLE, Int.reduceLT, reduceIte, Int.cast_ofNat_Int, Int.natCast_zero, Int.natCast_one, Int.reduceAdd, eq_self, Int.reduceSub, List.length_cons, List.length_nil, xli_m1, xli_0, xli_1, xli_2, xli_3, xli_4, xli_5, xlb_8, xlb_12, xlb_31, xlb_32, xlb_64, xls_256, xls_513, xls_2048, xls_4096, xll_0, xll_1, xnr_i, xnr_0, xnr_1, xnr_ite, xft_i, xft_0, xft_1, xat_999, xat_1001, xat_1002, xat_1003, xat_2001, xat_2002, xat_2003, List.getElem?_cons_succ, List.getElem?_cons_zero, xfn_0, xfn_1, xfn_2, xfn_3, x10, x01, not_true_eq_false, false_implies, implies_true, true_implies, xrm_c, xrm_s, xnl_4, xnl_32, xnl_64, xnl_256, xtn_4, xtn_32, xtn_64, xtn_256, Option.some.injEq, Sum.inl.injEq, Sum.inr.injEq, exists_eq_left', exists_eq_right, Option.toList_some, Option.toList_none, List.cons_append, List.nil_append, xE, lg_cmp_ge, lg_cmp_le, lg_cmp_gt, lg_cmp_lt, lg_cmp_eq, Nat.le_refl, Nat.zero_le, ne_eq, Nat.add_zero, dM_call_0, dM_call_1, dM_call_2, dM_call_3, dM_call_4, dM_call_5, dM_call_7, dM_call_10]
  exact ⟨rfl, g1, g2⟩
set_option maxHeartbeats 4000000 in
set_option maxRecDepth 100000 in
theorem d_upper (h : rFx S mo M) {t : Nat} (ht : t ≤ 1) (x y c : Int32) : xMet l D n0 mM_upper 0 0 [.inr (.inr (some mo)), .inl x, .inl y, .inl c, .inl (nI t)] S (oN S mo (oAimed M 2 x y c t)) := by
  have hmo := h.mo
  refine xMet.of (k := mM_upper) (own := 4) (ini := false) xm_M_upper (by decide +kernel) (by decide +kernel) (by decide) (Nat.le_of_ble_eq_true rfl) ?_
  intro V hV
  show V 0 [some (.inr (.inr (some mo))), some (.inl x), some (.inl y), some (.inl c), some (.inl (nI t))] [] S 0 0
  refine xrun_ok hV [] 20 _ _ _ _ _ _ ?_
  simp (maxDischargeDepth := 60) only [xrun, xisc, ↓xstep, xget, xtgt, xcmp, xacmp, xprev, xisR, xnt, List.set, List.length, xsw, xlk, true_or, or_true, if_true, if_false, true_and, and_true, List.mem_cons, List.not_mem_nil, or_false, false_or, Bool.false_eq_true, reduceCtorEq, not_false_eq_true, forall_const, Nat.zero_add, Nat.reduceAdd, Nat.reduceSub, Int.reduceAdd, Int.reduceNeg, Int.reduceToNat, Nat.reduceEqDiff, Nat.reduceLT, Nat.reduceLeDiff, Int.reduceLE, Int.reduceLT, reduceIte, Int.cast_ofNat_Int, Int.natCast_zero, Int.natCast_one, Int.reduceAdd, eq_self, Int.reduceSub, List.length_cons, List.length_nil, xli_m1, xli_0, xli_1, xli_2, xli_3, xli_4, xli_5, xlb_8, xlb_12, xlb_31, xlb_32, xlb_64, xls_256, xls_513, xls_2048, xls_4096, xll_0, xll_1, xnr_i, xnr_0, xnr_1, xnr_ite, xft_i, xft_0, xft_1, xat_999, xat_1001, xat_1002, xat_1003, xat_2001, xat_2002, xat_2003, List.getElem?_cons_succ, List.getElem?_cons_zero, xfn_0, xfn_1, xfn_2, xfn_3, x10, x01, not_true_eq_false, false_implies, implies_true, true_implies, xrm_c, xrm_s, xnl_4, xnl_32, xnl_64, xnl_256, xtn_4, xtn_32, xtn_64, xtn_256, Option.some.injEq, Sum.inl.injEq, Sum.inr.injEq, exists_eq_left', exists_eq_right, Option.toList_some, Option.toList_none, List.cons_append, List.nil_append, xE, lg_cmp_ge, lg_cmp_le, lg_cmp_gt, lg_cmp_lt, lg_cmp_eq, Nat.le_refl, Nat.zero_le, ne_eq, Nat.add_zero, dM_upper_0, dM_upper_1, dM_upper_2, dM_upper_3, dM_upper_4, dM_upper_5, dM_upper_7, dM_upper_10]
  refine hV.call [] xh_4_162 dM_upper_7 (d_aimed h (s := 2) (by decide) ht (fun z => absurd z (by decide)) x y c) (Or.inr ⟨_, _, rfl, fun _ => hmo⟩) rfl rfl (by decide) (by decide) (by decide) ?_
  rintro r S' ⟨rfl, g1, g2⟩
  refine xrun_ok hV [] 20 _ _ _ _ _ _ ?_
  simp (maxDischargeDepth := 60) only [xrun, xisc, ↓xstep, xget, xtgt, xcmp, xacmp, xprev, xisR, xnt, List.set, List.length, xsw, xlk, true_or, or_true, if_true, if_false, true_and, and_true, List.mem_cons, List.not_mem_nil, or_false, false_or, Bool.false_eq_true, reduceCtorEq, not_false_eq_true, forall_const, Nat.zero_add, Nat.reduceAdd, Nat.reduceSub, Int.reduceAdd, Int.reduceNeg, Int.reduceToNat, Nat.reduceEqDiff, Nat.reduceLT, Nat.reduceLeDiff, Int.reduceLE, Int.reduceLT, reduceIte, Int.cast_ofNat_Int, Int.natCast_zero, Int.natCast_one, Int.reduceAdd, eq_self, Int.reduceSub, List.length_cons, List.length_nil, xli_m1, xli_0, xli_1, xli_2, xli_3, xli_4, xli_5, xlb_8, xlb_12, xlb_31, xlb_32, xlb_64, xls_256, xls_513, xls_2048, xls_4096, xll_0, xll_1, xnr_i, xnr_0, xnr_1, xnr_ite, xft_i, xft_0, xft_1, xat_999, xat_1001, xat_1002, xat_1003, xat_2001, xat_2002, xat_2003, List.getElem?_cons_succ, List.getElem?_cons_zero, xfn_0, xfn_1, xfn_2, xfn_3, x10, x01, not_true_eq_false, false_implies, implies_true, true_implies, xrm_c, xrm_s, xnl_4, xnl_32, xnl_64, xnl_256, xtn_4, xtn_32, xtn_64, xtn_256, Option.some.injEq, Sum.inl.injEq, Sum.inr.injEq, exists_eq_left', exists_eq_right, Option.toList_some, Option.toList_none, List.cons_append, List.nil_append, xE, lg_cmp_ge, lg_cmp_le, lg_cmp_gt, lg_cmp_lt, lg_cmp_eq, Nat.le_refl, Nat.zero_le, ne_eq, Nat.add_zero, dM_upper_0, dM_upper_1, dM_upper_2, dM_upper_3, dM_upper_4, dM_upper_5, dM_upper_7, dM_upper_10]
  exact ⟨rfl, g1, g2⟩
set_option maxHeartbeats 4000000 in
set_option maxRecDepth 100000 in
theorem d_near (h : rFx S mo M) (x y c : Int32) : xMet l D n0 mM_near 0 0 [.inr (.inr (some mo)), .inl x, .inl y, .inl c] S (oN S mo (oAimed M 3 x y c 0)) := by
  have hmo := h.mo
  refine xMet.of (k := mM_near) (own := 4) (ini := false) xm_M_near (by decide +kernel) (by decide +kernel) (by decide) (Nat.le_of_ble_eq_true rfl) ?_
  intro V hV
  show V 0 [some (.inr (.inr (some mo))), some (.inl x), some (.inl y), some (.inl c)] [] S 0 0
  refine xrun_ok hV [] 20 _ _ _ _ _ _ ?_
  simp (maxDischargeDepth := 60) only [xrun, xisc, ↓xstep, xget, xtgt, xcmp, xacmp, xprev, xisR, xnt, List.set, List.length, xsw, xlk, true_or, or_true, if_true, if_false, true_and, and_true, List.mem_cons, List.not_mem_nil, or_false, false_or, Bool.false_eq_true, reduceCtorEq, not_false_eq_true, forall_const, Nat.zero_add, Nat.reduceAdd, Nat.reduceSub, Int.reduceAdd, Int.reduceNeg, Int.reduceToNat, Nat.reduceEqDiff, Nat.reduceLT, Nat.reduceLeDiff, Int.reduceLE, Int.reduceLT, reduceIte, Int.cast_ofNat_Int, Int.natCast_zero, Int.natCast_one, Int.reduceAdd, eq_self, Int.reduceSub, List.length_cons, List.length_nil, xli_m1, xli_0, xli_1, xli_2, xli_3, xli_4, xli_5, xlb_8, xlb_12, xlb_31, xlb_32, xlb_64, xls_256, xls_513, xls_2048, xls_4096, xll_0, xll_1, xnr_i, xnr_0, xnr_1, xnr_ite, xft_i, xft_0, xft_1, xat_999, xat_1001, xat_1002, xat_1003, xat_2001, xat_2002, xat_2003, List.getElem?_cons_succ, List.getElem?_cons_zero, xfn_0, xfn_1, xfn_2, xfn_3, x10, x01, not_true_eq_false, false_implies, implies_true, true_implies, xrm_c, xrm_s, xnl_4, xnl_32, xnl_64, xnl_256, xtn_4, xtn_32, xtn_64, xtn_256, Option.some.injEq, Sum.inl.injEq, Sum.inr.injEq, exists_eq_left', exists_eq_right, Option.toList_some, Option.toList_none, List.cons_append, List.nil_append, xE, lg_cmp_ge, lg_cmp_le, lg_cmp_gt, lg_cmp_lt, lg_cmp_eq, Nat.le_refl, Nat.zero_le, ne_eq, Nat.add_zero, dM_near_0, dM_near_1, dM_near_2, dM_near_3, dM_near_4, dM_near_5, dM_near_6, dM_near_9]
  refine hV.call [] xh_4_162 dM_near_6 (d_aimed h (s := 3) (t := 0) (by decide) (by decide) (by decide) x y c) (Or.inr ⟨_, _, rfl, fun _ => hmo⟩) rfl rfl (by decide) (by decide) (by decide) ?_
  rintro r S' ⟨rfl, g1, g2⟩
  refine xrun_ok hV [] 20 _ _ _ _ _ _ ?_
  simp (maxDischargeDepth := 60) only [xrun, xisc, ↓xstep, xget, xtgt, xcmp, xacmp, xprev, xisR, xnt, List.set, List.length, xsw, xlk, true_or, or_true, if_true, if_false, true_and, and_true, List.mem_cons, List.not_mem_nil, or_false, false_or, Bool.false_eq_true, reduceCtorEq, not_false_eq_true, forall_const, Nat.zero_add, Nat.reduceAdd, Nat.reduceSub, Int.reduceAdd, Int.reduceNeg, Int.reduceToNat, Nat.reduceEqDiff, Nat.reduceLT, Nat.reduceLeDiff, Int.reduceLE, Int.reduceLT, reduceIte, Int.cast_ofNat_Int, Int.natCast_zero, Int.natCast_one, Int.reduceAdd, eq_self, Int.reduceSub, List.length_cons, List.length_nil, xli_m1, xli_0, xli_1, xli_2, xli_3, xli_4, xli_5, xlb_8, xlb_12, xlb_31, xlb_32, xlb_64, xls_256, xls_513, xls_2048, xls_4096, xll_0, xll_1, xnr_i, xnr_0, xnr_1, xnr_ite, xft_i, xft_0, xft_1, xat_999, xat_1001, xat_1002, xat_1003, xat_2001, xat_2002, xat_2003, List.getElem?_cons_succ, List.getElem?_cons_zero, xfn_0, xfn_1, xfn_2, xfn_3, x10, x01, not_true_eq_false, false_implies, implies_true, true_implies, xrm_c, xrm_s, xnl_4, xnl_32, xnl_64, xnl_256, xtn_4, xtn_32, xtn_64, xtn_256, Option.some.injEq, Sum.inl.injEq, Sum.inr.injEq, exists_eq_left', exists_eq_right, Option.toList_some, Option.toList_none, List.cons_append, List.nil_append, xE, lg_cmp_ge, lg_cmp_le, lg_cmp_gt, lg_cmp_lt, lg_cmp_eq, Nat.le_refl, Nat.zero_le, ne_eq, Nat.add_zero, dM_near_0, dM_near_1, dM_near_2, dM_near_3, dM_near_4, dM_near_5, dM_near_6, dM_near_9]
  exact ⟨rfl, g1, g2⟩
end MADE
