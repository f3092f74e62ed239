/-! THE REFERENCE: reckon -/
def rInv (S : xS) (A : Nat → Nat) (M : mT) (o p : Nat) : Prop := (∀ q, q < o → cO S A M q) ∧ ∀ q, q < M 4 0 → M 8 q = 0 → (M 5 q < o ∨ (M 5 q = o ∧ q < p)) → cP S A M q
theorem cP.same {S S' : xS} {A : Nat → Nat} {M : mT} {q : Nat} (h : cP S A M q) (hs : ∀ f j, (f = 10 ∨ f = 11 ∨ f = 15 ∨ f = 22 ∨ f = 23) → xi S' (A f) j = xi S (A f) j) : cP S' A M q := by
  obtain ⟨h1, h2, h3⟩ := h
  refine ⟨(hs 10 q (by decide)).trans h1, (hs 11 q (by decide)).trans h2, fun k hk hq => ?_⟩
  obtain ⟨k1, k2, k3⟩ := h3 k hk hq
  exact ⟨(hs 22 k (by decide)).trans k1, (hs 15 k (by decide)).trans k2, fun z => (hs 23 k (by decide)).trans (k3 z)⟩
section RECK
variable {l : Launch} {D : va_G} {n0 : Nat} {S : xS} {mo : Nat} {A : Nat → Nat} {M : mT}
set_option maxHeartbeats 4000000 in
set_option maxRecDepth 100000 in
theorem reckon_in {o : Nat} (ho : o < 4) {S0 : xS} {V : xKt} {Q : Option xVal → xS → Prop}
    (hV : xCl l D n0 4 cM_reckon false none (xrm mM_reckon 0 0) V (xE 0 0 Q))
    (hK : ∀ S, rF S mo A M → xFr tM S0 S → rInv S A M o (M 4 0) → xi S (A 2) o = nI (mob M o) → V 81 [some (.inr (.inr (some mo))), some (.inl (nI (mend M (o + 1)))), some (.inl (nI o)), some (.inl (nI (M 4 0)))] [] S 0 0) :
    ∀ (n p : Nat) (S : xS), p ≤ M 4 0 → M 4 0 - p = n → rF S mo A M → xFr tM S0 S → rInv S A M o p → xi S (A 2) o = nI (mob M o) → V 32 [some (.inr (.inr (some mo))), some (.inl (nI (mout M o (mob M o) p))), some (.inl (nI o)), some (.inl (nI p))] [] S 0 0 := by
  intro n
  induction n with
  | zero =>
    intro p S hp hn h hF hI h2
    have : p = M 4 0 := by omega
    subst this
    have hmo := h.mo
    have hs := h.s4
    have hw := h.1.1.2.1
    have ele : (nI (M 4 0) ≤ nI (M 4 0)) = True := eq_true (nI_le (Nat.le_refl _) (by omega))
    refine xrun_ok hV [81] 20 _ _ _ _ _ _ ?_
    simp (maxDischargeDepth := 60) only [xrun, xisc, ↓xstep, xget, xtgt, xcmp, xacmp, xprev, xisR, xnt, List.set, List.length, xsw, xlk, true_or, or_true, if_true, if_false, true_and, and_true, List.mem_cons, List.not_mem_nil, or_false, false_or, Bool.false_eq_true, reduceCtorEq, not_false_eq_true, forall_const, Nat.zero_add, Nat.reduceAdd, Nat.reduceSub, Int.reduceAdd, Int.reduceNeg, Int.reduceToNat, Nat.reduceEqDiff, Nat.reduceLT, Nat.reduceLeDiff, Int.reduceLE, Int.reduceLT, reduceIte, Int.cast_ofNat_Int, Int.natCast_zero, Int.natCast_one, Int.reduceAdd, eq_self, Int.reduceSub, List.length_cons, List.length_nil, xli_m1, xli_0, xli_1, xli_2, xli_3, xli_4, xli_5, xlb_8, xlb_12, xlb_31, xlb_32, xlb_64, xls_256, xls_513, xls_2048, xls_4096, xll_0, xll_1, xnr_i, xnr_0, xnr_1, xnr_ite, xft_i, xft_0, xft_1, xat_999, xat_1001, xat_1002, xat_1003, xat_2001, xat_2002, xat_2003, List.getElem?_cons_succ, List.getElem?_cons_zero, xfn_0, xfn_1, xfn_2, xfn_3, x10, x01, not_true_eq_false, false_implies, implies_true, true_implies, xrm_c, xrm_s, xnl_4, xnl_32, xnl_64, xnl_256, xtn_4, xtn_32, xtn_64, xtn_256, Option.some.injEq, Sum.inl.injEq, Sum.inr.injEq, exists_eq_left', exists_eq_right, Option.toList_some, Option.toList_none, List.cons_append, List.nil_append, xE, lg_cmp_ge, lg_cmp_le, lg_cmp_gt, lg_cmp_lt, lg_cmp_eq, Nat.le_refl, Nat.zero_le, ne_eq, Nat.add_zero, dM_reckon_0, dM_reckon_1, dM_reckon_4, dM_reckon_5, dM_reckon_6, dM_reckon_7, dM_reckon_8, dM_reckon_9, dM_reckon_12, dM_reckon_13, dM_reckon_14, dM_reckon_17, dM_reckon_18, dM_reckon_19, dM_reckon_22, dM_reckon_23, dM_reckon_24, dM_reckon_27, dM_reckon_28, dM_reckon_29, dM_reckon_30, dM_reckon_31, dM_reckon_32, dM_reckon_33, dM_reckon_34, dM_reckon_37, dM_reckon_40, dM_reckon_41, dM_reckon_44, dM_reckon_45, dM_reckon_46, dM_reckon_47, dM_reckon_50, dM_reckon_51, dM_reckon_54, dM_reckon_55, dM_reckon_56, dM_reckon_59, dM_reckon_60, dM_reckon_61, dM_reckon_62, dM_reckon_63, dM_reckon_66, dM_reckon_67, dM_reckon_68, dM_reckon_71, dM_reckon_74, dM_reckon_75, dM_reckon_78, dM_reckon_81, dM_reckon_82, dM_reckon_85, dM_reckon_86, dM_reckon_87, dM_reckon_88, dM_reckon_91, dM_reckon_94, xf_4_97, xf_4_7, xf_4_13, xf_4_83, xf_4_19, xf_4_29, xf_4_22, xf_4_16, hmo, hs, ele]
    exact hK S h hF hI h2
  | succ n ih =>
    intro p S hp hn h hF hI h2
    have hpl : p < M 4 0 := by omega
    have hmo := h.mo
    have hs := h.s4
    have hS := h.2.1
    have hw := h.1.1.2.1
    have r5 : xr S mo 5 = some (A 5) := h.ar 5 rfl
    have c5 : xc S (A 5) = 1002 := h.tg 5 rfl
    have l5 : xl S (A 5) = 32 := h.ln 5 rfl
    have n5 : (mo = A 5) = False := eq_false (fun e => h.nm (f := 5) rfl e.symm)
    have r6 : xr S mo 6 = some (A 6) := h.ar 6 rfl
    have c6 : xc S (A 6) = 1002 := h.tg 6 rfl
    have l6 : xl S (A 6) = 32 := h.ln 6 rfl
    have n6 : (mo = A 6) = False := eq_false (fun e => h.nm (f := 6) rfl e.symm)
    have r8 : xr S mo 8 = some (A 8) := h.ar 8 rfl
    have c8 : xc S (A 8) = 1003 := h.tg 8 rfl
    have l8 : xl S (A 8) = 32 := h.ln 8 rfl
    have n8 : (mo = A 8) = False := eq_false (fun e => h.nm (f := 8) rfl e.symm)
    have v5 := h.v5 hpl
    have v6 := h.v6 hpl
    have v8 := h.v8 hpl
    have hwp := h.1.2.2.1 p hpl
    have inp : vp_in (nI p) 32 := vp_in_nI (by omega) (by decide)
    have e0 : (nI p).toNatClampNeg = p := nI_clamp (by omega)
    have ele : (nI (M 4 0) ≤ nI p) = False := eq_false (nI_ge hpl (by omega))
    have e5 : (nI (M 5 p) = nI o) = (M 5 p = o) := propext (nI_eq (by omega) (by omega))
    have e8 : (nI (M 8 p) = 0) = (M 8 p = 0) := propext (nI_eq (b := 0) (by omega) (by decide))
    have hat : mout M o (mob M o) p ≤ 1074937820 := by
      have w1 := mout_mono M o (mob M o) p (M 4 0 - p)
      rw [show p + (M 4 0 - p) = M 4 0 by omega] at w1
      have w2 : mout M o (mob M o) (M 4 0) ≤ 1074937820 := mend_lt h.1 (o := o + 1) (by omega)
      omega
    have next : ∀ (S1 : xS) (a : Nat), a = mout M o (mob M o) (p + 1) → rF S1 mo A M → xFr tM S0 S1 → rInv S1 A M o (p + 1) → xi S1 (A 2) o = nI (mob M o) → V 75 [some (.inr (.inr (some mo))), some (.inl (nI a)), some (.inl (nI o)), some (.inl (nI p))] [] S1 0 0 := by
      intro S1 a ha g1 g2 g3 g4
      rw [ha]
      refine xrun_ok hV [32] 20 _ _ _ _ _ _ ?_
      simp (maxDischargeDepth := 60) only [xrun, xisc, ↓xstep, xget, xtgt, xcmp, xacmp, xprev, xisR, xnt, List.set, List.length, xsw, xlk, true_or, or_true, if_true, if_false, true_and, and_true, List.mem_cons, List.not_mem_nil, or_false, false_or, Bool.false_eq_true, reduceCtorEq, not_false_eq_true, forall_const, Nat.zero_add, Nat.reduceAdd, Nat.reduceSub, Int.reduceAdd, Int.reduceNeg, Int.reduceToNat, Nat.reduceEqDiff, Nat.reduceLT, Nat.reduceLeDiff, Int.reduceLE, Int.reduceLT, reduceIte, Int.cast_ofNat_Int, Int.natCast_zero, Int.natCast_one, Int.reduceAdd, eq_self, Int.reduceSub, List.length_cons, List.length_nil, xli_m1, xli_0, xli_1, xli_2, xli_3, xli_4, xli_5, xlb_8, xlb_12, xlb_31, xlb_32, xlb_64, xls_256, xls_513, xls_2048, xls_4096, xll_0, xll_1, xnr_i, xnr_0, xnr_1, xnr_ite, xft_i, xft_0, xft_1, xat_999, xat_1001, xat_1002, xat_1003, xat_2001, xat_2002, xat_2003, List.getElem?_cons_succ, List.getElem?_cons_zero, xfn_0, xfn_1, xfn_2, xfn_3, x10, x01, not_true_eq_false, false_implies, implies_true, true_implies, xrm_c, xrm_s, xnl_4, xnl_32, xnl_64, xnl_256, xtn_4, xtn_32, xtn_64, xtn_256, Option.some.injEq, Sum.inl.injEq, Sum.inr.injEq, exists_eq_left', exists_eq_right, Option.toList_some, Option.toList_none, List.cons_append, List.nil_append, xE, lg_cmp_ge, lg_cmp_le, lg_cmp_gt, lg_cmp_lt, lg_cmp_eq, Nat.le_refl, Nat.zero_le, ne_eq, Nat.add_zero, dM_reckon_0, dM_reckon_1, dM_reckon_4, dM_reckon_5, dM_reckon_6, dM_reckon_7, dM_reckon_8, dM_reckon_9, dM_reckon_12, dM_reckon_13, dM_reckon_14, dM_reckon_17, dM_reckon_18, dM_reckon_19, dM_reckon_22, dM_reckon_23, dM_reckon_24, dM_reckon_27, dM_reckon_28, dM_reckon_29, dM_reckon_30, dM_reckon_31, dM_reckon_32, dM_reckon_33, dM_reckon_34, dM_reckon_37, dM_reckon_40, dM_reckon_41, dM_reckon_44, dM_reckon_45, dM_reckon_46, dM_reckon_47, dM_reckon_50, dM_reckon_51, dM_reckon_54, dM_reckon_55, dM_reckon_56, dM_reckon_59, dM_reckon_60, dM_reckon_61, dM_reckon_62, dM_reckon_63, dM_reckon_66, dM_reckon_67, dM_reckon_68, dM_reckon_71, dM_reckon_74, dM_reckon_75, dM_reckon_78, dM_reckon_81, dM_reckon_82, dM_reckon_85, dM_reckon_86, dM_reckon_87, dM_reckon_88, dM_reckon_91, dM_reckon_94, xf_4_97, xf_4_7, xf_4_13, xf_4_83, xf_4_19, xf_4_29, xf_4_22, xf_4_16, nI_1]
      exact ih (p + 1) S1 (by omega) (by omega) g1 g2 g3 g4
    have skip : ¬ (M 5 p = o ∧ M 8 p = 0) → V 75 [some (.inr (.inr (some mo))), some (.inl (nI (mout M o (mob M o) p))), some (.inl (nI o)), some (.inl (nI p))] [] S 0 0 := by
      intro hno
      refine next S _ ?_ h hF ⟨hI.1, fun q hq hg hc => ?_⟩ h2
      · rw [mout, if_neg hno]
      · refine hI.2 q hq hg ?_
        rcases hc with hc | hc
        · exact Or.inl hc
        · by_cases z : q = p
          · subst z; exact absurd ⟨hc.1, hg⟩ hno
          · exact Or.inr ⟨hc.1, by omega⟩
    by_cases hq : M 5 p = o
    case neg =>
      refine xrun_ok hV [75] 20 _ _ _ _ _ _ ?_
      simp (maxDischargeDepth := 60) only [xrun, xisc, ↓xstep, xget, xtgt, xcmp, xacmp, xprev, xisR, xnt, List.set, List.length, xsw, xlk, true_or, or_true, if_true, if_false, true_and, and_true, List.mem_cons, List.not_mem_nil, or_false, false_or, Bool.false_eq_true, reduceCtorEq, not_false_eq_true, forall_const, Nat.zero_add, Nat.reduceAdd, Nat.reduceSub, Int.reduceAdd, Int.reduceNeg, Int.reduceToNat, Nat.reduceEqDiff, Nat.reduceLT, Nat.reduceLeDiff, Int.reduceLE, Int.reduceLT, reduceIte, Int.cast_ofNat_Int, Int.natCast_zero, Int.natCast_one, Int.reduceAdd, eq_self, Int.reduceSub, List.length_cons, List.length_nil, xli_m1, xli_0, xli_1, xli_2, xli_3, xli_4, xli_5, xlb_8, xlb_12, xlb_31, xlb_32, xlb_64, xls_256, xls_513, xls_2048, xls_4096, xll_0, xll_1, xnr_i, xnr_0, xnr_1, xnr_ite, xft_i, xft_0, xft_1, xat_999, xat_1001, xat_1002, xat_1003, xat_2001, xat_2002, xat_2003, List.getElem?_cons_succ, List.getElem?_cons_zero, xfn_0, xfn_1, xfn_2, xfn_3, x10, x01, not_true_eq_false, false_implies, implies_true, true_implies, xrm_c, xrm_s, xnl_4, xnl_32, xnl_64, xnl_256, xtn_4, xtn_32, xtn_64, xtn_256, Option.some.injEq, Sum.inl.injEq, Sum.inr.injEq, exists_eq_left', exists_eq_right, Option.toList_some, Option.toList_none, List.cons_append, List.nil_append, xE, lg_cmp_ge, lg_cmp_le, lg_cmp_gt, lg_cmp_lt, lg_cmp_eq, Nat.le_refl, Nat.zero_le, ne_eq, Nat.add_zero, dM_reckon_0, dM_reckon_1, dM_reckon_4, dM_reckon_5, dM_reckon_6, dM_reckon_7, dM_reckon_8, dM_reckon_9, dM_reckon_12, dM_reckon_13, dM_reckon_14, dM_reckon_17, dM_reckon_18, dM_reckon_19, dM_reckon_22, dM_reckon_23, dM_reckon_24, dM_reckon_27, dM_reckon_28, dM_reckon_29, dM_reckon_30, dM_reckon_31, dM_reckon_32, dM_reckon_33, dM_reckon_34, dM_reckon_37, dM_reckon_40, dM_reckon_41, dM_reckon_44, dM_reckon_45, dM_reckon_46, dM_reckon_47, dM_reckon_50, dM_reckon_51, dM_reckon_54, dM_reckon_55, dM_reckon_56, dM_reckon_59, dM_reckon_60, dM_reckon_61, dM_reckon_62, dM_reckon_63, dM_reckon_66, dM_reckon_67, dM_reckon_68, dM_reckon_71, dM_reckon_74, dM_reckon_75, dM_reckon_78, dM_reckon_81, dM_reckon_82, dM_reckon_85, dM_reckon_86, dM_reckon_87, dM_reckon_88, dM_reckon_91, dM_reckon_94, xf_4_97, xf_4_7, xf_4_13, xf_4_83, xf_4_19, xf_4_29, xf_4_22, xf_4_16, hmo, hs, r5, c5, l5, n5, inp, e0, ele, v5, e5, hq]
      exact skip (fun z => hq z.1)
    by_cases hg : M 8 p = 0
    case neg =>
      refine xrun_ok hV [75] 20 _ _ _ _ _ _ ?_
      simp (maxDischargeDepth := 60) only [xrun, xisc, ↓xstep, xget, xtgt, xcmp, xacmp, xprev, xisR, xnt, List.set, List.length, xsw, xlk, true_or, or_true, if_true, if_false, true_and, and_true, List.mem_cons, List.not_mem_nil, or_false, false_or, Bool.false_eq_true, reduceCtorEq, not_false_eq_true, forall_const, Nat.zero_add, Nat.reduceAdd, Nat.reduceSub, Int.reduceAdd, Int.reduceNeg, Int.reduceToNat, Nat.reduceEqDiff, Nat.reduceLT, Nat.reduceLeDiff, Int.reduceLE, Int.reduceLT, reduceIte, Int.cast_ofNat_Int, Int.natCast_zero, Int.natCast_one, Int.reduceAdd, eq_self, Int.reduceSub, List.length_cons, List.length_nil, xli_m1, xli_0, xli_1, xli_2, xli_3, xli_4, xli_5, xlb_8, xlb_12, xlb_31, xlb_32, xlb_64, xls_256, xls_513, xls_2048, xls_4096, xll_0, xll_1, xnr_i, xnr_0, xnr_1, xnr_ite, xft_i, xft_0, xft_1, xat_999, xat_1001, xat_1002, xat_1003, xat_2001, xat_2002, xat_2003, List.getElem?_cons_succ, List.getElem?_cons_zero, xfn_0, xfn_1, xfn_2, xfn_3, x10, x01, not_true_eq_false, false_implies, implies_true, true_implies, xrm_c, xrm_s, xnl_4, xnl_32, xnl_64, xnl_256, xtn_4, xtn_32, xtn_64, xtn_256, Option.some.injEq, Sum.inl.injEq, Sum.inr.injEq, exists_eq_left', exists_eq_right, Option.toList_some, Option.toList_none, List.cons_append, List.nil_append, xE, lg_cmp_ge, lg_cmp_le, lg_cmp_gt, lg_cmp_lt, lg_cmp_eq, Nat.le_refl, Nat.zero_le, ne_eq, Nat.add_zero, dM_reckon_0, dM_reckon_1, dM_reckon_4, dM_reckon_5, dM_reckon_6, dM_reckon_7, dM_reckon_8, dM_reckon_9, dM_reckon_12, dM_reckon_13, dM_reckon_14, dM_reckon_17, dM_reckon_18, dM_reckon_19, dM_reckon_22, dM_reckon_23, dM_reckon_24, dM_reckon_27, dM_reckon_28, dM_reckon_29, dM_reckon_30, dM_reckon_31, dM_reckon_32, dM_reckon_33, dM_reckon_34, dM_reckon_37, dM_reckon_40, dM_reckon_41, dM_reckon_44, dM_reckon_45, dM_reckon_46, dM_reckon_47, dM_reckon_50, dM_reckon_51, dM_reckon_54, dM_reckon_55, dM_reckon_56, dM_reckon_59, dM_reckon_60, dM_reckon_61, dM_reckon_62, dM_reckon_63, dM_reckon_66, dM_reckon_67, dM_reckon_68, dM_reckon_71, dM_reckon_74, dM_reckon_75, dM_reckon_78, dM_reckon_81, dM_reckon_82, dM_reckon_85, dM_reckon_86, dM_reckon_87, dM_reckon_88, dM_reckon_91, dM_reckon_94, xf_4_97, xf_4_7, xf_4_13, xf_4_83, xf_4_19, xf_4_29, xf_4_22, xf_4_16, hmo, hs, r5, c5, l5, n5, r8, c8, l8, n8, inp, e0, ele, v5, e5, hq, v8, e8, hg]
      exact skip (fun z => hg z.2)
    have e8' : (nI (M 8 p) = 0) = True := by rw [e8]; simp [hg]
    refine xrun_ok hV [75] 40 _ _ _ _ _ _ ?_
    simp (maxDischargeDepth := 60) only [xrun, xisc, ↓xstep, xget, xtgt, xcmp, xacmp, xprev, xisR, xnt, List.set, List.length, xsw, xlk, true_or, or_true, if_true, if_false, true_and, and_true, List.mem_cons, List.not_mem_nil, or_false, false_or, Bool.false_eq_true, reduceCtorEq, not_false_eq_true, forall_const, Nat.zero_add, Nat.reduceAdd, Nat.reduceSub, Int.reduceAdd, Int.reduceNeg, Int.reduceToNat, Nat.reduceEqDiff, Nat.reduceLT, Nat.reduceLeDiff, Int.reduceLE, Int.reduceLT, reduceIte, Int.cast_ofNat_Int, Int.natCast_zero, Int.natCast_one, Int.reduceAdd, eq_self, Int.reduceSub, List.length_cons, List.length_nil, xli_m1, xli_0, xli_1, xli_2, xli_3, xli_4, xli_5, xlb_8, xlb_12, xlb_31, xlb_32, xlb_64, xls_256, xls_513, xls_2048, xls_4096, xll_0, xll_1, xnr_i, xnr_0, xnr_1, xnr_ite, xft_i, xft_0, xft_1, xat_999, xat_1001, xat_1002, xat_1003, xat_2001, xat_2002, xat_2003, List.getElem?_cons_succ, List.getElem?_cons_zero, xfn_0, xfn_1, xfn_2, xfn_3, x10, x01, not_true_eq_false, false_implies, implies_true, true_implies, xrm_c, xrm_s, xnl_4, xnl_32, xnl_64, xnl_256, xtn_4, xtn_32, xtn_64, xtn_256, Option.some.injEq, Sum.inl.injEq, Sum.inr.injEq, exists_eq_left', exists_eq_right, Option.toList_some, Option.toList_none, List.cons_append, List.nil_append, xE, lg_cmp_ge, lg_cmp_le, lg_cmp_gt, lg_cmp_lt, lg_cmp_eq, Nat.le_refl, Nat.zero_le, ne_eq, Nat.add_zero, dM_reckon_0, dM_reckon_1, dM_reckon_4, dM_reckon_5, dM_reckon_6, dM_reckon_7, dM_reckon_8, dM_reckon_9, dM_reckon_12, dM_reckon_13, dM_reckon_14, dM_reckon_17, dM_reckon_18, dM_reckon_19, dM_reckon_22, dM_reckon_23, dM_reckon_24, dM_reckon_27, dM_reckon_28, dM_reckon_29, dM_reckon_30, dM_reckon_31, dM_reckon_32, dM_reckon_33, dM_reckon_34, dM_reckon_37, dM_reckon_40, dM_reckon_41, dM_reckon_44, dM_reckon_45, dM_reckon_46, dM_reckon_47, dM_reckon_50, dM_reckon_51, dM_reckon_54, dM_reckon_55, dM_reckon_56, dM_reckon_59, dM_reckon_60, dM_reckon_61, dM_reckon_62, dM_reckon_63, dM_reckon_66, dM_reckon_67, dM_reckon_68, dM_reckon_71, dM_reckon_74, dM_reckon_75, dM_reckon_78, dM_reckon_81, dM_reckon_82, dM_reckon_85, dM_reckon_86, dM_reckon_87, dM_reckon_88, dM_reckon_91, dM_reckon_94, xf_4_97, xf_4_7, xf_4_13, xf_4_83, xf_4_19, xf_4_29, xf_4_22, xf_4_16, hmo, hs, r5, c5, l5, n5, r6, c6, l6, n6, r8, c8, l8, n8, inp, e0, ele, v5, e5, hq, v8, e8', v6]
    refine hV.call [.inl (nI p), .inr (.inr (some mo))] xh_4_100 dM_reckon_68 (d_roundUp S hat hwp.2.1) (Or.inl rfl) rfl rfl (Nat.le_of_ble_eq_true rfl) (by decide) (by decide) ?_
    rintro r S1 ⟨rfl, rfl⟩
    refine xrun_ok hV [75] 20 _ _ _ _ _ _ ?_
    simp (maxDischargeDepth := 60) only [xrun, xisc, ↓xstep, xget, xtgt, xcmp, xacmp, xprev, xisR, xnt, List.set, List.length, xsw, xlk, true_or, or_true, if_true, if_false, true_and, and_true, List.mem_cons, List.not_mem_nil, or_false, false_or, Bool.false_eq_true, reduceCtorEq, not_false_eq_true, forall_const, Nat.zero_add, Nat.reduceAdd, Nat.reduceSub, Int.reduceAdd, Int.reduceNeg, Int.reduceToNat, Nat.reduceEqDiff, Nat.reduceLT, Nat.reduceLeDiff, Int.reduceLE, Int.reduceLT, reduceIte, Int.cast_ofNat_Int, Int.natCast_zero, Int.natCast_one, Int.reduceAdd, eq_self, Int.reduceSub, List.length_cons, List.length_nil, xli_m1, xli_0, xli_1, xli_2, xli_3, xli_4, xli_5, xlb_8, xlb_12, xlb_31, xlb_32, xlb_64, xls_256, xls_513, xls_2048, xls_4096, xll_0, xll_1, xnr_i, xnr_0, xnr_1, xnr_ite, xft_i, xft_0, xft_1, xat_999, xat_1001, xat_1002, xat_1003, xat_2001, xat_2002, xat_2003, List.getElem?_cons_succ, List.getElem?_cons_zero, xfn_0, xfn_1, xfn_2, xfn_3, x10, x01, not_true_eq_false, false_implies, implies_true, true_implies, xrm_c, xrm_s, xnl_4, xnl_32, xnl_64, xnl_256, xtn_4, xtn_32, xtn_64, xtn_256, Option.some.injEq, Sum.inl.injEq, Sum.inr.injEq, exists_eq_left', exists_eq_right, Option.toList_some, Option.toList_none, List.cons_append, List.nil_append, xE, lg_cmp_ge, lg_cmp_le, lg_cmp_gt, lg_cmp_lt, lg_cmp_eq, Nat.le_refl, Nat.zero_le, ne_eq, Nat.add_zero, dM_reckon_0, dM_reckon_1, dM_reckon_4, dM_reckon_5, dM_reckon_6, dM_reckon_7, dM_reckon_8, dM_reckon_9, dM_reckon_12, dM_reckon_13, dM_reckon_14, dM_reckon_17, dM_reckon_18, dM_reckon_19, dM_reckon_22, dM_reckon_23, dM_reckon_24, dM_reckon_27, dM_reckon_28, dM_reckon_29, dM_reckon_30, dM_reckon_31, dM_reckon_32, dM_reckon_33, dM_reckon_34, dM_reckon_37, dM_reckon_40, dM_reckon_41, dM_reckon_44, dM_reckon_45, dM_reckon_46, dM_reckon_47, dM_reckon_50, dM_reckon_51, dM_reckon_54, dM_reckon_55, dM_reckon_56, dM_reckon_59, dM_reckon_60, dM_reckon_61, dM_reckon_62, dM_reckon_63, dM_reckon_66, dM_reckon_67, dM_reckon_68, dM_reckon_71, dM_reckon_74, dM_reckon_75, dM_reckon_78, dM_reckon_81, dM_reckon_82, dM_reckon_85, dM_reckon_86, dM_reckon_87, dM_reckon_88, dM_reckon_91, dM_reckon_94, xf_4_97, xf_4_7, xf_4_13, xf_4_83, xf_4_19, xf_4_29, xf_4_22, xf_4_16]
    have ep : mup (mout M o (mob M o) p) (M 6 p) = mpb M p := by unfold mpb; rw [hq]
    rw [ep]
    have hpe := mpe_le h.1 hpl hg
    refine hV.call [] xh_4_104 dM_reckon_71 (d_lay h hpl (b := mpb M p) hpe.2.2) (Or.inr ⟨_, _, rfl, fun _ => hmo⟩) rfl rfl (by decide) (by decide) (by decide) ?_
    rintro r S2 ⟨rfl, g1, g2, g3, g4, g5, g6⟩
    refine xrun_ok hV [75] 20 _ _ _ _ _ _ ?_
    simp (maxDischargeDepth := 60) only [xrun, xisc, ↓xstep, xget, xtgt, xcmp, xacmp, xprev, xisR, xnt, List.set, List.length, xsw, xlk, true_or, or_true, if_true, if_false, true_and, and_true, List.mem_cons, List.not_mem_nil, or_false, false_or, Bool.false_eq_true, reduceCtorEq, not_false_eq_true, forall_const, Nat.zero_add, Nat.reduceAdd, Nat.reduceSub, Int.reduceAdd, Int.reduceNeg, Int.reduceToNat, Nat.reduceEqDiff, Nat.reduceLT, Nat.reduceLeDiff, Int.reduceLE, Int.reduceLT, reduceIte, Int.cast_ofNat_Int, Int.natCast_zero, Int.natCast_one, Int.reduceAdd, eq_self, Int.reduceSub, List.length_cons, List.length_nil, xli_m1, xli_0, xli_1, xli_2, xli_3, xli_4, xli_5, xlb_8, xlb_12, xlb_31, xlb_32, xlb_64, xls_256, xls_513, xls_2048, xls_4096, xll_0, xll_1, xnr_i, xnr_0, xnr_1, xnr_ite, xft_i, xft_0, xft_1, xat_999, xat_1001, xat_1002, xat_1003, xat_2001, xat_2002, xat_2003, List.getElem?_cons_succ, List.getElem?_cons_zero, xfn_0, xfn_1, xfn_2, xfn_3, x10, x01, not_true_eq_false, false_implies, implies_true, true_implies, xrm_c, xrm_s, xnl_4, xnl_32, xnl_64, xnl_256, xtn_4, xtn_32, xtn_64, xtn_256, Option.some.injEq, Sum.inl.injEq, Sum.inr.injEq, exists_eq_left', exists_eq_right, Option.toList_some, Option.toList_none, List.cons_append, List.nil_append, xE, lg_cmp_ge, lg_cmp_le, lg_cmp_gt, lg_cmp_lt, lg_cmp_eq, Nat.le_refl, Nat.zero_le, ne_eq, Nat.add_zero, dM_reckon_0, dM_reckon_1, dM_reckon_4, dM_reckon_5, dM_reckon_6, dM_reckon_7, dM_reckon_8, dM_reckon_9, dM_reckon_12, dM_reckon_13, dM_reckon_14, dM_reckon_17, dM_reckon_18, dM_reckon_19, dM_reckon_22, dM_reckon_23, dM_reckon_24, dM_reckon_27, dM_reckon_28, dM_reckon_29, dM_reckon_30, dM_reckon_31, dM_reckon_32, dM_reckon_33, dM_reckon_34, dM_reckon_37, dM_reckon_40, dM_reckon_41, dM_reckon_44, dM_reckon_45, dM_reckon_46, dM_reckon_47, dM_reckon_50, dM_reckon_51, dM_reckon_54, dM_reckon_55, dM_reckon_56, dM_reckon_59, dM_reckon_60, dM_reckon_61, dM_reckon_62, dM_reckon_63, dM_reckon_66, dM_reckon_67, dM_reckon_68, dM_reckon_71, dM_reckon_74, dM_reckon_75, dM_reckon_78, dM_reckon_81, dM_reckon_82, dM_reckon_85, dM_reckon_86, dM_reckon_87, dM_reckon_88, dM_reckon_91, dM_reckon_94, xf_4_97, xf_4_7, xf_4_13, xf_4_83, xf_4_19, xf_4_29, xf_4_22, xf_4_16]
    refine next S2 _ ?_ g1 (hF.tr g2) ⟨fun q hq2 => (hI.1 q hq2).keep g3, fun q hq2 hg2 hc => ?_⟩ ?_
    · rw [mout, if_pos ⟨hq, hg⟩, ep]
    · by_cases z : q = p
      · subst z
        refine ⟨g4, g6, fun k hk hk2 => ?_⟩
        have := g5 k hk hk2
        unfold mpl
        rw [hk2]
        exact this
      · exact (hI.2 q hq2 hg2 (by rcases hc with hc | hc; exact Or.inl hc; exact Or.inr ⟨hc.1, by omega⟩)).keep g3 z
    · rw [g3 2 o rfl (by unfold lT; omega)]
      exact h2
set_option maxHeartbeats 4000000 in
set_option maxRecDepth 100000 in
theorem reckon_out {S0 : xS} {V : xKt} {Q : Option xVal → xS → Prop}
    (hV : xCl l D n0 4 cM_reckon false none (xrm mM_reckon 0 0) V (xE 0 0 Q))
    (hQ : ∀ S, rF S mo A M → xFr tM S0 S → kN S A M → Q none S) :
    ∀ (n o : Nat) (S : xS), o ≤ 4 → 4 - o = n → rF S mo A M → xFr tM S0 S → rInv S A M o 0 → V 7 [some (.inr (.inr (some mo))), some (.inl (nI (mend M o))), some (.inl (nI o)), none] [] S 0 0 := by
  intro n
  induction n with
  | zero =>
    intro o S ho hn h hF hI
    have : o = 4 := by omega
    subst this
    have ele : ((4 : Int32) ≤ nI 4) = True := by decide +kernel
    refine xrun_ok hV [] 20 _ _ _ _ _ _ ?_
    simp (maxDischargeDepth := 60) only [xrun, xisc, ↓xstep, xget, xtgt, xcmp, xacmp, xprev, xisR, xnt, List.set, List.length, xsw, xlk, true_or, or_true, if_true, if_false, true_and, and_true, List.mem_cons, List.not_mem_nil, or_false, false_or, Bool.false_eq_true, reduceCtorEq, not_false_eq_true, forall_const, Nat.zero_add, Nat.reduceAdd, Nat.reduceSub, Int.reduceAdd, Int.reduceNeg, Int.reduceToNat, Nat.reduceEqDiff, Nat.reduceLT, Nat.reduceLeDiff, Int.reduceLE, Int.reduceLT, reduceIte, Int.cast_ofNat_Int, Int.natCast_zero, Int.natCast_one, Int.reduceAdd, eq_self, Int.reduceSub, List.length_cons, List.length_nil, xli_m1, xli_0, xli_1, xli_2, xli_3, xli_4, xli_5, xlb_8, xlb_12, xlb_31, xlb_32, xlb_64, xls_256, xls_513, xls_2048, xls_4096, xll_0, xll_1, xnr_i, xnr_0, xnr_1, xnr_ite, xft_i, xft_0, xft_1, xat_999, xat_1001, xat_1002, xat_1003, xat_2001, xat_2002, xat_2003, List.getElem?_cons_succ, List.getElem?_cons_zero, xfn_0, xfn_1, xfn_2, xfn_3, x10, x01, not_true_eq_false, false_implies, implies_true, true_implies, xrm_c, xrm_s, xnl_4, xnl_32, xnl_64, xnl_256, xtn_4, xtn_32, xtn_64, xtn_256, Option.some.injEq, Sum.inl.injEq, Sum.inr.injEq, exists_eq_left', exists_eq_right, Option.toList_some, Option.toList_none, List.cons_append, List.nil_append, xE, lg_cmp_ge, lg_cmp_le, lg_cmp_gt, lg_cmp_lt, lg_cmp_eq, Nat.le_refl, Nat.zero_le, ne_eq, Nat.add_zero, dM_reckon_0, dM_reckon_1, dM_reckon_4, dM_reckon_5, dM_reckon_6, dM_reckon_7, dM_reckon_8, dM_reckon_9, dM_reckon_12, dM_reckon_13, dM_reckon_14, dM_reckon_17, dM_reckon_18, dM_reckon_19, dM_reckon_22, dM_reckon_23, dM_reckon_24, dM_reckon_27, dM_reckon_28, dM_reckon_29, dM_reckon_30, dM_reckon_31, dM_reckon_32, dM_reckon_33, dM_reckon_34, dM_reckon_37, dM_reckon_40, dM_reckon_41, dM_reckon_44, dM_reckon_45, dM_reckon_46, dM_reckon_47, dM_reckon_50, dM_reckon_51, dM_reckon_54, dM_reckon_55, dM_reckon_56, dM_reckon_59, dM_reckon_60, dM_reckon_61, dM_reckon_62, dM_reckon_63, dM_reckon_66, dM_reckon_67, dM_reckon_68, dM_reckon_71, dM_reckon_74, dM_reckon_75, dM_reckon_78, dM_reckon_81, dM_reckon_82, dM_reckon_85, dM_reckon_86, dM_reckon_87, dM_reckon_88, dM_reckon_91, dM_reckon_94, xf_4_97, xf_4_7, xf_4_13, xf_4_83, xf_4_19, xf_4_29, xf_4_22, xf_4_16, ele]
    refine hQ S h hF ⟨fun q hq => hI.1 q hq, fun q hq hg => hI.2 q hq hg (Or.inl ?_)⟩
    have := (h.1.2.2.1 q hq).1
    omega
  | succ n ih =>
    intro o S ho hn h hF hI
    have hol : o < 4 := by omega
    have hmo := h.mo
    have hS := h.2.1
    have r1 : xr S mo 1 = some (A 1) := h.ar 1 rfl
    have c1 : xc S (A 1) = 1002 := h.tg 1 rfl
    have l1 : xl S (A 1) = 4 := h.ln 1 rfl
    have n1 : (mo = A 1) = False := eq_false (fun e => h.nm (f := 1) rfl e.symm)
    have r2 : xr S mo 2 = some (A 2) := h.ar 2 rfl
    have c2 : xc S (A 2) = 1002 := h.tg 2 rfl
    have l2 : xl S (A 2) = 4 := h.ln 2 rfl
    have n2 : (mo = A 2) = False := eq_false (fun e => h.nm (f := 2) rfl e.symm)
    have v1 := h.v1 hol
    have ino : vp_in (nI o) 4 := vp_in_nI (by omega) (by decide)
    have e0 : (nI o).toNatClampNeg = o := nI_clamp (by omega)
    have ele : ((4 : Int32) ≤ nI o) = False := eq_false (nI_ge (b := 4) hol (by decide))
    refine xrun_ok hV [] 20 _ _ _ _ _ _ ?_
    simp (maxDischargeDepth := 60) only [xrun, xisc, ↓xstep, xget, xtgt, xcmp, xacmp, xprev, xisR, xnt, List.set, List.length, xsw, xlk, true_or, or_true, if_true, if_false, true_and, and_true, List.mem_cons, List.not_mem_nil, or_false, false_or, Bool.false_eq_true, reduceCtorEq, not_false_eq_true, forall_const, Nat.zero_add, Nat.reduceAdd, Nat.reduceSub, Int.reduceAdd, Int.reduceNeg, Int.reduceToNat, Nat.reduceEqDiff, Nat.reduceLT, Nat.reduceLeDiff, Int.reduceLE, Int.reduceLT, reduceIte, Int.cast_ofNat_Int, Int.natCast_zero, Int.natCast_one, Int.reduceAdd, eq_self, Int.reduceSub, List.length_cons, List.length_nil, xli_m1, xli_0, xli_1, xli_2, xli_3, xli_4, xli_5, xlb_8, xlb_12, xlb_31, xlb_32, xlb_64, xls_256, xls_513, xls_2048, xls_4096, xll_0, xll_1, xnr_i, xnr_0, xnr_1, xnr_ite, xft_i, xft_0, xft_1, xat_999, xat_1001, xat_1002, xat_1003, xat_2001, xat_2002, xat_2003, List.getElem?_cons_succ, List.getElem?_cons_zero, xfn_0, xfn_1, xfn_2, xfn_3, x10, x01, not_true_eq_false, false_implies, implies_true, true_implies, xrm_c, xrm_s, xnl_4, xnl_32, xnl_64, xnl_256, xtn_4, xtn_32, xtn_64, xtn_256, Option.some.injEq, Sum.inl.injEq, Sum.inr.injEq, exists_eq_left', exists_eq_right, Option.toList_some, Option.toList_none, List.cons_append, List.nil_append, xE, lg_cmp_ge, lg_cmp_le, lg_cmp_gt, lg_cmp_lt, lg_cmp_eq, Nat.le_refl, Nat.zero_le, ne_eq, Nat.add_zero, dM_reckon_0, dM_reckon_1, dM_reckon_4, dM_reckon_5, dM_reckon_6, dM_reckon_7, dM_reckon_8, dM_reckon_9, dM_reckon_12, dM_reckon_13, dM_reckon_14, dM_reckon_17, dM_reckon_18, dM_reckon_19, dM_reckon_22, dM_reckon_23, dM_reckon_24, dM_reckon_27, dM_reckon_28, dM_reckon_29, dM_reckon_30, dM_reckon_31, dM_reckon_32, dM_reckon_33, dM_reckon_34, dM_reckon_37, dM_reckon_40, dM_reckon_41, dM_reckon_44, dM_reckon_45, dM_reckon_46, dM_reckon_47, dM_reckon_50, dM_reckon_51, dM_reckon_54, dM_reckon_55, dM_reckon_56, dM_reckon_59, dM_reckon_60, dM_reckon_61, dM_reckon_62, dM_reckon_63, dM_reckon_66, dM_reckon_67, dM_reckon_68, dM_reckon_71, dM_reckon_74, dM_reckon_75, dM_reckon_78, dM_reckon_81, dM_reckon_82, dM_reckon_85, dM_reckon_86, dM_reckon_87, dM_reckon_88, dM_reckon_91, dM_reckon_94, xf_4_97, xf_4_7, xf_4_13, xf_4_83, xf_4_19, xf_4_29, xf_4_22, xf_4_16, hmo, r1, c1, l1, n1, ino, e0, ele, v1]
    refine hV.call [] xh_4_100 dM_reckon_19 (d_roundUp S (mend_lt h.1 (by omega)) (h.1.2.1 o hol)) (Or.inl rfl) rfl rfl (by decide) (by decide) (by decide) ?_
    rintro r S1 ⟨rfl, rfl⟩
    refine xrun_ok hV [32] 20 _ _ _ _ _ _ ?_
    simp (maxDischargeDepth := 60) only [xrun, xisc, ↓xstep, xget, xtgt, xcmp, xacmp, xprev, xisR, xnt, List.set, List.length, xsw, xlk, true_or, or_true, if_true, if_false, true_and, and_true, List.mem_cons, List.not_mem_nil, or_false, false_or, Bool.false_eq_true, reduceCtorEq, not_false_eq_true, forall_const, Nat.zero_add, Nat.reduceAdd, Nat.reduceSub, Int.reduceAdd, Int.reduceNeg, Int.reduceToNat, Nat.reduceEqDiff, Nat.reduceLT, Nat.reduceLeDiff, Int.reduceLE, Int.reduceLT, reduceIte, Int.cast_ofNat_Int, Int.natCast_zero, Int.natCast_one, Int.reduceAdd, eq_self, Int.reduceSub, List.length_cons, List.length_nil, xli_m1, xli_0, xli_1, xli_2, xli_3, xli_4, xli_5, xlb_8, xlb_12, xlb_31, xlb_32, xlb_64, xls_256, xls_513, xls_2048, xls_4096, xll_0, xll_1, xnr_i, xnr_0, xnr_1, xnr_ite, xft_i, xft_0, xft_1, xat_999, xat_1001, xat_1002, xat_1003, xat_2001, xat_2002, xat_2003, List.getElem?_cons_succ, List.getElem?_cons_zero, xfn_0, xfn_1, xfn_2, xfn_3, x10, x01, not_true_eq_false, false_implies, implies_true, true_implies, xrm_c, xrm_s, xnl_4, xnl_32, xnl_64, xnl_256, xtn_4, xtn_32, xtn_64, xtn_256, Option.some.injEq, Sum.inl.injEq, Sum.inr.injEq, exists_eq_left', exists_eq_right, Option.toList_some, Option.toList_none, List.cons_append, List.nil_append, xE, lg_cmp_ge, lg_cmp_le, lg_cmp_gt, lg_cmp_lt, lg_cmp_eq, Nat.le_refl, Nat.zero_le, ne_eq, Nat.add_zero, dM_reckon_0, dM_reckon_1, dM_reckon_4, dM_reckon_5, dM_reckon_6, dM_reckon_7, dM_reckon_8, dM_reckon_9, dM_reckon_12, dM_reckon_13, dM_reckon_14, dM_reckon_17, dM_reckon_18, dM_reckon_19, dM_reckon_22, dM_reckon_23, dM_reckon_24, dM_reckon_27, dM_reckon_28, dM_reckon_29, dM_reckon_30, dM_reckon_31, dM_reckon_32, dM_reckon_33, dM_reckon_34, dM_reckon_37, dM_reckon_40, dM_reckon_41, dM_reckon_44, dM_reckon_45, dM_reckon_46, dM_reckon_47, dM_reckon_50, dM_reckon_51, dM_reckon_54, dM_reckon_55, dM_reckon_56, dM_reckon_59, dM_reckon_60, dM_reckon_61, dM_reckon_62, dM_reckon_63, dM_reckon_66, dM_reckon_67, dM_reckon_68, dM_reckon_71, dM_reckon_74, dM_reckon_75, dM_reckon_78, dM_reckon_81, dM_reckon_82, dM_reckon_85, dM_reckon_86, dM_reckon_87, dM_reckon_88, dM_reckon_91, dM_reckon_94, xf_4_97, xf_4_7, xf_4_13, xf_4_83, xf_4_19, xf_4_29, xf_4_22, xf_4_16, hmo, r2, c2, l2, n2, ino, e0]
    have g1 := h.free (f := 2) (i := o) (x := nI (mup (mend M o) (M 1 o))) rfl trivial
    have hI1 : rInv (xpi S1 (A 2) o (nI (mup (mend M o) (M 1 o)))) A M o 0 := by
      refine ⟨fun q hq => ⟨?_, ?_⟩, fun q hq hg hc => (hI.2 q hq hg hc).same (fun f j hf => ?_)⟩
      · rw [xi_pi, if_neg (by omega)]; exact (hI.1 q hq).1
      · rw [hS.xo 3 2 rfl rfl (by decide)]; exact (hI.1 q hq).2
      · rw [hS.xo f 2 (by rcases hf with rfl | rfl | rfl | rfl | rfl <;> rfl) rfl (by omega)]
    refine reckon_in (S0 := S0) hol hV (fun S2 w1 w2 w3 w4 => ?_) (M 4 0) 0 _ (Nat.zero_le _) (by omega) g1 (hF.tr (xFr.ar hS (f := 2) rfl _ _)) hI1 (xi_same _ _ _ _)
    have hmo2 := w1.mo
    have hS2 := w1.2.1
    have r3 : xr S2 mo 3 = some (A 3) := w1.ar 3 rfl
    have c3 : xc S2 (A 3) = 1002 := w1.tg 3 rfl
    have l3 : xl S2 (A 3) = 4 := w1.ln 3 rfl
    refine xrun_ok hV [7] 20 _ _ _ _ _ _ ?_
    simp (maxDischargeDepth := 60) only [xrun, xisc, ↓xstep, xget, xtgt, xcmp, xacmp, xprev, xisR, xnt, List.set, List.length, xsw, xlk, true_or, or_true, if_true, if_false, true_and, and_true, List.mem_cons, List.not_mem_nil, or_false, false_or, Bool.false_eq_true, reduceCtorEq, not_false_eq_true, forall_const, Nat.zero_add, Nat.reduceAdd, Nat.reduceSub, Int.reduceAdd, Int.reduceNeg, Int.reduceToNat, Nat.reduceEqDiff, Nat.reduceLT, Nat.reduceLeDiff, Int.reduceLE, Int.reduceLT, reduceIte, Int.cast_ofNat_Int, Int.natCast_zero, Int.natCast_one, Int.reduceAdd, eq_self, Int.reduceSub, List.length_cons, List.length_nil, xli_m1, xli_0, xli_1, xli_2, xli_3, xli_4, xli_5, xlb_8, xlb_12, xlb_31, xlb_32, xlb_64, xls_256, xls_513, xls_2048, xls_4096, xll_0, xll_1, xnr_i, xnr_0, xnr_1, xnr_ite, xft_i, xft_0, xft_1, xat_999, xat_1001, xat_1002, xat_1003, xat_2001, xat_2002, xat_2003, List.getElem?_cons_succ, List.getElem?_cons_zero, xfn_0, xfn_1, xfn_2, xfn_3, x10, x01, not_true_eq_false, false_implies, implies_true, true_implies, xrm_c, xrm_s, xnl_4, xnl_32, xnl_64, xnl_256, xtn_4, xtn_32, xtn_64, xtn_256, Option.some.injEq, Sum.inl.injEq, Sum.inr.injEq, exists_eq_left', exists_eq_right, Option.toList_some, Option.toList_none, List.cons_append, List.nil_append, xE, lg_cmp_ge, lg_cmp_le, lg_cmp_gt, lg_cmp_lt, lg_cmp_eq, Nat.le_refl, Nat.zero_le, ne_eq, Nat.add_zero, dM_reckon_0, dM_reckon_1, dM_reckon_4, dM_reckon_5, dM_reckon_6, dM_reckon_7, dM_reckon_8, dM_reckon_9, dM_reckon_12, dM_reckon_13, dM_reckon_14, dM_reckon_17, dM_reckon_18, dM_reckon_19, dM_reckon_22, dM_reckon_23, dM_reckon_24, dM_reckon_27, dM_reckon_28, dM_reckon_29, dM_reckon_30, dM_reckon_31, dM_reckon_32, dM_reckon_33, dM_reckon_34, dM_reckon_37, dM_reckon_40, dM_reckon_41, dM_reckon_44, dM_reckon_45, dM_reckon_46, dM_reckon_47, dM_reckon_50, dM_reckon_51, dM_reckon_54, dM_reckon_55, dM_reckon_56, dM_reckon_59, dM_reckon_60, dM_reckon_61, dM_reckon_62, dM_reckon_63, dM_reckon_66, dM_reckon_67, dM_reckon_68, dM_reckon_71, dM_reckon_74, dM_reckon_75, dM_reckon_78, dM_reckon_81, dM_reckon_82, dM_reckon_85, dM_reckon_86, dM_reckon_87, dM_reckon_88, dM_reckon_91, dM_reckon_94, xf_4_97, xf_4_7, xf_4_13, xf_4_83, xf_4_19, xf_4_29, xf_4_22, xf_4_16, hmo2, r3, c3, l3, ino, e0, nI_1]
    refine hV.weak [some (.inr (.inr (some mo))), some (.inl (nI (mend M (o + 1)))), some (.inl (nI (o + 1))), none] ⟨rfl, rfl, rfl, trivial⟩ (ih (o + 1) _ (by omega) (by omega) (w1.free (f := 3) rfl trivial) (w2.tr (xFr.ar hS2 (f := 3) rfl _ _)) ⟨fun q hq => ?_, fun q hq hg hc => ?_⟩)
    · by_cases z : q = o
      · subst z
        exact ⟨by rw [hS2.xo 2 3 rfl rfl (by decide)]; exact w4, xi_same _ _ _ _⟩
      · obtain ⟨y1, y2⟩ := w3.1 q (by omega)
        exact ⟨by rw [hS2.xo 2 3 rfl rfl (by decide)]; exact y1, by rw [xi_pi, if_neg (fun w => z w.2)]; exact y2⟩
    · refine (w3.2 q hq hg (by omega)).same (fun f j hf => ?_)
      rw [hS2.xo f 3 (by rcases hf with rfl | rfl | rfl | rfl | rfl <;> rfl) rfl (by omega)]
set_option maxHeartbeats 4000000 in
set_option maxRecDepth 100000 in
theorem d_reckon (h : rF S mo A M) : xMet l D n0 mM_reckon 0 0 [.inr (.inr (some mo))] S (fun r S' => r = none ∧ rF S' mo A M ∧ xFr tM S S' ∧ kN S' A M) := by
  have hmo := h.mo
  have hs := h.s0
  refine xMet.of (k := mM_reckon) (own := 4) (ini := false) xm_M_reckon (by decide +kernel) (by decide +kernel) (by decide) (Nat.le_of_ble_eq_true rfl) ?_
  intro V hV
  show V 0 [some (.inr (.inr (some mo))), none, none, none] [] S 0 0
  refine xrun_ok hV [7] 20 _ _ _ _ _ _ ?_
  simp (maxDischargeDepth := 60) only [xrun, xisc, ↓xstep, xget, xtgt, xcmp, xacmp, xprev, xisR, xnt, List.set, List.length, xsw, xlk, true_or, or_true, if_true, if_false, true_and, and_true, List.mem_cons, List.not_mem_nil, or_false, false_or, Bool.false_eq_true, reduceCtorEq, not_false_eq_true, forall_const, Nat.zero_add, Nat.reduceAdd, Nat.reduceSub, Int.reduceAdd, Int.reduceNeg, Int.reduceToNat, Nat.reduceEqDiff, Nat.reduceLT, Nat.reduceLeDiff, Int.reduceLE, Int.reduceLT, reduceIte, Int.cast_ofNat_Int, Int.natCast_zero, Int.natCast_one, Int.reduceAdd, eq_self, Int.reduceSub, List.length_cons, List.length_nil, xli_m1, xli_0, xli_1, xli_2, xli_3, xli_4, xli_5, xlb_8, xlb_12, xlb_31, xlb_32, xlb_64, xls_256, xls_513, xls_2048, xls_4096, xll_0, xll_1, xnr_i, xnr_0, xnr_1, xnr_ite, xft_i, xft_0, xft_1, xat_999, xat_1001, xat_1002, xat_1003, xat_2001, xat_2002, xat_2003, List.getElem?_cons_succ, List.getElem?_cons_zero, xfn_0, xfn_1, xfn_2, xfn_3, x10, x01, not_true_eq_false, false_implies, implies_true, true_implies, xrm_c, xrm_s, xnl_4, xnl_32, xnl_64, xnl_256, xtn_4, xtn_32, xtn_64, xtn_256, Option.some.injEq, Sum.inl.injEq, Sum.inr.injEq, exists_eq_left', exists_eq_right, Option.toList_some, Option.toList_none, List.cons_append, List.nil_append, xE, lg_cmp_ge, lg_cmp_le, lg_cmp_gt, lg_cmp_lt, lg_cmp_eq, Nat.le_refl, Nat.zero_le, ne_eq, Nat.add_zero, dM_reckon_0, dM_reckon_1, dM_reckon_4, dM_reckon_5, dM_reckon_6, dM_reckon_7, dM_reckon_8, dM_reckon_9, dM_reckon_12, dM_reckon_13, dM_reckon_14, dM_reckon_17, dM_reckon_18, dM_reckon_19, dM_reckon_22, dM_reckon_23, dM_reckon_24, dM_reckon_27, dM_reckon_28, dM_reckon_29, dM_reckon_30, dM_reckon_31, dM_reckon_32, dM_reckon_33, dM_reckon_34, dM_reckon_37, dM_reckon_40, dM_reckon_41, dM_reckon_44, dM_reckon_45, dM_reckon_46, dM_reckon_47, dM_reckon_50, dM_reckon_51, dM_reckon_54, dM_reckon_55, dM_reckon_56, dM_reckon_59, dM_reckon_60, dM_reckon_61, dM_reckon_62, dM_reckon_63, dM_reckon_66, dM_reckon_67, dM_reckon_68, dM_reckon_71, dM_reckon_74, dM_reckon_75, dM_reckon_78, dM_reckon_81, dM_reckon_82, dM_reckon_85, dM_reckon_86, dM_reckon_87, dM_reckon_88, dM_reckon_91, dM_reckon_94, xf_4_97, xf_4_7, xf_4_13, xf_4_83, xf_4_19, xf_4_29, xf_4_22, xf_4_16, hmo, hs]
  exact reckon_out (S0 := S) hV (fun S' g1 g2 g3 => ⟨rfl, g1, g2, g3⟩) 4 0 S (by decide) rfl h (xFr.rf _ _) ⟨fun q hq => absurd hq (by omega), fun q hq hg hc => by omega⟩
end RECK
