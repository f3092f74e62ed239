/-! THE CLASS: an output is laid out, and all outputs -/
section SURVEY
variable {l : Launch} {D : va_G} {n0 : Nat} {S S' : xS} {th : Nat} {ar pa qa la : Nat → Nat} {M : mT}
set_option maxHeartbeats 4000000 in
set_option maxRecDepth 100000 in
theorem c_placePart (h : rC S th ar pa qa la M) {p f : Nat} (hp : p < M 4 0) (hb : mlay M p (mup f (M 6 p)) (M 12 0) ≤ 1074937820) : xMet l D n0 mS_placePart 0 0 [.inr (.inr (some (pa p))), .inl (nI f)] S (fun r S' => r = some (.inl (nI (mlay M p (mup f (M 6 p)) (M 12 0)))) ∧ xCa ar S S' ∧ rL S pa qa M p (mup f (M 6 p)) (M 12 0) S' ∧ xi S' (pa p) 6 = nI (mlay M p (mup f (M 6 p)) (M 12 0))) := by
  refine xMet.of (k := mS_placePart) (own := 3) (ini := false) xm_S_placePart (by decide +kernel) (by decide +kernel) (by decide) (Nat.le_of_ble_eq_true rfl) ?_
  intro V hV
  show V 0 [some (.inr (.inr (some (pa p)))), some (.inl (nI f)), none, none] [] S 0 0
  obtain ⟨⟨p1, -⟩, ⟨-, -, p2, -, -⟩, p3, -⟩ := h.2.2.2.1 p hp
  have hw := (h.1.2.2.1 p hp).2.1
  have hge := mlay_mono M p (mup f (M 6 p)) 0 (M 12 0)
  simp only [mlay, Nat.zero_add] at hge
  have hge2 := mup_ge f (M 6 p)
  refine xrun_ok hV [] 20 _ _ _ _ _ _ ?_
  simp (maxDischargeDepth := 60) only [xrun, xisc, ↓xstep, xget, xtgt, xcmp, xacmp, xprev, xisR, xnt, List.set, List.length, xsw, xlk, true_or, or_true, if_true, if_false, true_and, and_true, List.mem_cons, List.not_mem_nil, or_false, false_or, Bool.false_eq_true, reduceCtorEq, not_false_eq_true, forall_const, Nat.zero_add, Nat.reduceAdd, Nat.reduceSub, Int.reduceAdd, Int.reduceNeg, Int.reduceToNat, Nat.reduceEqDiff, Nat.reduceLT, Nat.reduceLeDiff, Int.reduceLE, Int.reduceLT, reduceIte, Int.cast_ofNat_Int, Int.natCast_zero, Int.natCast_one, Int.reduceAdd, eq_self, Int.reduceSub, List.length_cons, List.length_nil, xli_m1, xli_0, xli_1, xli_2, xli_3, xli_4, xli_5, xlb_8, xlb_12, xlb_31, xlb_32, xlb_64, xls_256, xls_513, xls_2048, xls_4096, xll_0, xll_1, xnr_i, xnr_0, xnr_1, xnr_ite, xft_i, xft_0, xft_1, xat_999, xat_1001, xat_1002, xat_1003, xat_2001, xat_2002, xat_2003, List.getElem?_cons_succ, List.getElem?_cons_zero, xfn_0, xfn_1, xfn_2, xfn_3, x10, x01, not_true_eq_false, false_implies, implies_true, true_implies, xrm_c, xrm_s, xnl_4, xnl_32, xnl_64, xnl_256, xtn_4, xtn_32, xtn_64, xtn_256, Option.some.injEq, Sum.inl.injEq, Sum.inr.injEq, exists_eq_left', exists_eq_right, Option.toList_some, Option.toList_none, List.cons_append, List.nil_append, xE, lg_cmp_ge, lg_cmp_le, lg_cmp_gt, lg_cmp_lt, lg_cmp_eq, Nat.le_refl, Nat.zero_le, ne_eq, Nat.add_zero, dS_placePart_0, dS_placePart_1, dS_placePart_2, dS_placePart_3, dS_placePart_6, dS_placePart_9, dS_placePart_10, dS_placePart_11, dS_placePart_12, dS_placePart_13, dS_placePart_16, dS_placePart_17, dS_placePart_20, dS_placePart_21, dS_placePart_22, dS_placePart_25, dS_placePart_26, dS_placePart_27, dS_placePart_30, dS_placePart_31, dS_placePart_34, dS_placePart_35, dS_placePart_38, dS_placePart_39, dS_placePart_40, dS_placePart_41, dS_placePart_44, dS_placePart_47, dS_placePart_48, dS_placePart_51, dS_placePart_54, dS_placePart_57, dS_placePart_58, dS_placePart_59, dS_placePart_62, dS_placePart_63, dS_placePart_64, dS_placePart_65, dS_placePart_68, dS_placePart_69, dS_placePart_72, dS_placePart_73, dS_placePart_74, dS_placePart_77, dS_placePart_78, xf_3_207, xf_3_177, xf_3_208, xf_3_151, xf_3_86, xf_3_154, xf_3_89, xf_3_135, xf_3_216, xf_3_180, p1, p2]
  refine hV.call [.inl (nI f)] xh_3_157 dS_placePart_6 (c_bytes S (x := f) (p := M 6 p) (by omega) hw) (Or.inl rfl) rfl rfl (Nat.le_of_ble_eq_true rfl) (by decide) (by decide) ?_
  rintro r S2 ⟨rfl, rfl⟩
  have hbb : nI f + nI (mpad f (M 6 p)) = nI (mup f (M 6 p)) := nI_add _ _
  refine xrun_ok hV [21] 20 _ _ _ _ _ _ ?_
  simp (maxDischargeDepth := 60) only [xrun, xisc, ↓xstep, xget, xtgt, xcmp, xacmp, xprev, xisR, xnt, List.set, List.length, xsw, xlk, true_or, or_true, if_true, if_false, true_and, and_true, List.mem_cons, List.not_mem_nil, or_false, false_or, Bool.false_eq_true, reduceCtorEq, not_false_eq_true, forall_const, Nat.zero_add, Nat.reduceAdd, Nat.reduceSub, Int.reduceAdd, Int.reduceNeg, Int.reduceToNat, Nat.reduceEqDiff, Nat.reduceLT, Nat.reduceLeDiff, Int.reduceLE, Int.reduceLT, reduceIte, Int.cast_ofNat_Int, Int.natCast_zero, Int.natCast_one, Int.reduceAdd, eq_self, Int.reduceSub, List.length_cons, List.length_nil, xli_m1, xli_0, xli_1, xli_2, xli_3, xli_4, xli_5, xlb_8, xlb_12, xlb_31, xlb_32, xlb_64, xls_256, xls_513, xls_2048, xls_4096, xll_0, xll_1, xnr_i, xnr_0, xnr_1, xnr_ite, xft_i, xft_0, xft_1, xat_999, xat_1001, xat_1002, xat_1003, xat_2001, xat_2002, xat_2003, List.getElem?_cons_succ, List.getElem?_cons_zero, xfn_0, xfn_1, xfn_2, xfn_3, x10, x01, not_true_eq_false, false_implies, implies_true, true_implies, xrm_c, xrm_s, xnl_4, xnl_32, xnl_64, xnl_256, xtn_4, xtn_32, xtn_64, xtn_256, Option.some.injEq, Sum.inl.injEq, Sum.inr.injEq, exists_eq_left', exists_eq_right, Option.toList_some, Option.toList_none, List.cons_append, List.nil_append, xE, lg_cmp_ge, lg_cmp_le, lg_cmp_gt, lg_cmp_lt, lg_cmp_eq, Nat.le_refl, Nat.zero_le, ne_eq, Nat.add_zero, dS_placePart_0, dS_placePart_1, dS_placePart_2, dS_placePart_3, dS_placePart_6, dS_placePart_9, dS_placePart_10, dS_placePart_11, dS_placePart_12, dS_placePart_13, dS_placePart_16, dS_placePart_17, dS_placePart_20, dS_placePart_21, dS_placePart_22, dS_placePart_25, dS_placePart_26, dS_placePart_27, dS_placePart_30, dS_placePart_31, dS_placePart_34, dS_placePart_35, dS_placePart_38, dS_placePart_39, dS_placePart_40, dS_placePart_41, dS_placePart_44, dS_placePart_47, dS_placePart_48, dS_placePart_51, dS_placePart_54, dS_placePart_57, dS_placePart_58, dS_placePart_59, dS_placePart_62, dS_placePart_63, dS_placePart_64, dS_placePart_65, dS_placePart_68, dS_placePart_69, dS_placePart_72, dS_placePart_73, dS_placePart_74, dS_placePart_77, dS_placePart_78, xf_3_207, xf_3_177, xf_3_208, xf_3_151, xf_3_86, xf_3_154, xf_3_89, xf_3_135, xf_3_216, xf_3_180, p1, p2, p3, xc_pi, xr_pi, hbb]
  have := placePart_loop (f := f) hb hp h hV (fun S1 h1 h2 h3 => ⟨rfl, h1, h2, h3⟩) (M 12 0) 0 (xpi S2 (pa p) 5 (nI (mup f (M 6 p)))) (Nat.zero_le _) (by omega) (xCa.pi (Or.inl ⟨p1, Or.inl rfl⟩)) ⟨fun j h1 => absurd h1 (by omega), fun c j h1 h2 => by rw [xi_pi, if_neg (fun z => h1 z.1)], by rw [xi_pi, if_pos ⟨rfl, rfl⟩]⟩
  exact this
/-- a part's places, as they are to be -/
def kP (S : xS) (pa qa : Nat → Nat) (M : mT) (q : Nat) : Prop := xi S (pa q) 5 = nI (mpb M q) ∧ xi S (pa q) 6 = nI (mpe M q) ∧ ∀ k, k < M 12 0 → M 14 k = q → xi S (qa k) 9 = nI (mpl M k) ∧ xi S (qa k) 8 = nI (msize M k)
def kO (S : xS) (ar pa qa : Nat → Nat) (M : mT) (o p : Nat) : Prop := (∀ q, q < M 4 0 → M 8 q = 0 → (M 5 q < o ∨ (M 5 q = o ∧ q < p)) → kP S pa qa M q) ∧ ∀ o', o' < o → xi S (ar 4) o' = nI (mob M o') ∧ xi S (ar 5) o' = nI (mend M (o' + 1))
set_option maxHeartbeats 4000000 in
set_option maxRecDepth 100000 in
theorem placeOutput_loop {o : Nat} (ho : o < 4) {S0 : xS} (h0 : rC S0 th ar pa qa la M) {V : xKt} {Q : Option xVal → xS → Prop}
    (hV : xCl l D n0 3 cS_placeOutput false (some .int) (xrm mS_placeOutput 0 0) V (xE 0 0 Q))
    (hQ : ∀ S, xCa ar S0 S → kO S ar pa qa M (o + 1) 0 → Q (some (.inl (nI (mend M (o + 1))))) S) :
    ∀ (n p : Nat) (S : xS), p ≤ M 4 0 → M 4 0 - p = n → xCa ar S0 S → kO S ar pa qa M o p → xi S (ar 4) o = nI (mob M o) → V 34 [some (.inr (.inr (some th))), some (.inl (nI o)), some (.inl (nI (mend M o))), some (.inl (nI (mout M o (mob M o) p))), some (.inr (.inr (some (ar 0)))), some (.inl 32), some (.inl (nI p)), none] [] S 0 0 := by
  intro n
  have hend : ∀ S : xS, xCa ar S0 S → kO S ar pa qa M o (M 4 0) → xi S (ar 4) o = nI (mob M o) → V 86 [some (.inr (.inr (some th))), some (.inl (nI o)), some (.inl (nI (mend M o))), some (.inl (nI (mout M o (mob M o) (M 4 0)))), some (.inr (.inr (some (ar 0)))), some (.inl 32), some (.inl (nI (M 4 0))), none] [] S 0 0 := by
    intro S hc hk ho4
    have h := h0.ca hc
    have h1 := h.th
    have h2 := (h.2.1.2.1 5 (by decide)).1
    have h3 := h.2.1.2.2.1.2.2.2.2.2
    have h4 := h.2.1.2.2.2.1.2.2.2.2.2
    have e0 : (nI o).toNatClampNeg = o := nI_clamp (by omega)
    refine xrun_ok hV [] 20 _ _ _ _ _ _ ?_
    simp (maxDischargeDepth := 60) only [xrun, xisc, ↓xstep, xget, xtgt, xcmp, xacmp, xprev, xisR, xnt, List.set, List.length, xsw, xlk, true_or, or_true, if_true, if_false, true_and, and_true, List.mem_cons, List.not_mem_nil, or_false, false_or, Bool.false_eq_true, reduceCtorEq, not_false_eq_true, forall_const, Nat.zero_add, Nat.reduceAdd, Nat.reduceSub, Int.reduceAdd, Int.reduceNeg, Int.reduceToNat, Nat.reduceEqDiff, Nat.reduceLT, Nat.reduceLeDiff, Int.reduceLE, Int.reduceLT, reduceIte, Int.cast_ofNat_Int, Int.natCast_zero, Int.natCast_one, Int.reduceAdd, eq_self, Int.reduceSub, List.length_cons, List.length_nil, xli_m1, xli_0, xli_1, xli_2, xli_3, xli_4, xli_5, xlb_8, xlb_12, xlb_31, xlb_32, xlb_64, xls_256, xls_513, xls_2048, xls_4096, xll_0, xll_1, xnr_i, xnr_0, xnr_1, xnr_ite, xft_i, xft_0, xft_1, xat_999, xat_1001, xat_1002, xat_1003, xat_2001, xat_2002, xat_2003, List.getElem?_cons_succ, List.getElem?_cons_zero, xfn_0, xfn_1, xfn_2, xfn_3, x10, x01, not_true_eq_false, false_implies, implies_true, true_implies, xrm_c, xrm_s, xnl_4, xnl_32, xnl_64, xnl_256, xtn_4, xtn_32, xtn_64, xtn_256, Option.some.injEq, Sum.inl.injEq, Sum.inr.injEq, exists_eq_left', exists_eq_right, Option.toList_some, Option.toList_none, List.cons_append, List.nil_append, xE, lg_cmp_ge, lg_cmp_le, lg_cmp_gt, lg_cmp_lt, lg_cmp_eq, Nat.le_refl, Nat.zero_le, ne_eq, Nat.add_zero, dS_placeOutput_0, dS_placeOutput_1, dS_placeOutput_2, dS_placeOutput_3, dS_placeOutput_6, dS_placeOutput_7, dS_placeOutput_8, dS_placeOutput_11, dS_placeOutput_12, dS_placeOutput_13, dS_placeOutput_14, dS_placeOutput_17, dS_placeOutput_18, dS_placeOutput_19, dS_placeOutput_20, dS_placeOutput_21, dS_placeOutput_24, dS_placeOutput_26, dS_placeOutput_28, dS_placeOutput_29, dS_placeOutput_31, dS_placeOutput_32, dS_placeOutput_34, dS_placeOutput_36, dS_placeOutput_38, dS_placeOutput_41, dS_placeOutput_43, dS_placeOutput_45, dS_placeOutput_46, dS_placeOutput_48, dS_placeOutput_50, dS_placeOutput_53, dS_placeOutput_56, dS_placeOutput_58, dS_placeOutput_61, dS_placeOutput_62, dS_placeOutput_65, dS_placeOutput_67, dS_placeOutput_70, dS_placeOutput_73, dS_placeOutput_75, dS_placeOutput_76, dS_placeOutput_79, dS_placeOutput_80, dS_placeOutput_83, dS_placeOutput_86, dS_placeOutput_87, dS_placeOutput_90, dS_placeOutput_91, dS_placeOutput_92, dS_placeOutput_93, dS_placeOutput_94, xf_3_27, xf_3_31, xf_3_11, xf_3_174, xf_3_108, xf_3_34, h1, h2, h3, h4, e0]
    have hne : ar 4 ≠ ar 5 := h.2.1.2.2.2.2.1.2.2
    refine ⟨vp_in_nI ho (by decide), hQ _ (xCa.tr h0 hc (xCa.pi (Or.inr (Or.inr (Or.inr rfl))))) ⟨fun q hq hg hoq => ?_, fun o' ho' => ⟨?_, ?_⟩⟩⟩
    · have hkp := hk.1 q hq hg (by omega)
      have n1 : pa q ≠ ar 5 := h.nP hq h3 (by decide)
      refine ⟨?_, ?_, fun k hk' hkq => ⟨?_, ?_⟩⟩
      · rw [xi_pi, if_neg (fun z => n1 z.1)]; exact hkp.1
      · rw [xi_pi, if_neg (fun z => n1 z.1)]; exact hkp.2.1
      · rw [xi_pi, if_neg (fun z => h.nQ hk' h3 (by decide) z.1)]; exact (hkp.2.2 k hk' hkq).1
      · rw [xi_pi, if_neg (fun z => h.nQ hk' h3 (by decide) z.1)]; exact (hkp.2.2 k hk' hkq).2
    · rw [xi_pi, if_neg (fun z => hne z.1)]
      by_cases e : o' = o
      · rw [e]; exact ho4
      · exact (hk.2 o' (by omega)).1
    · rw [xi_pi]
      by_cases e : o' = o
      · rw [if_pos ⟨rfl, e⟩, e]; rfl
      · rw [if_neg (fun z => e z.2)]
        exact (hk.2 o' (by omega)).2
  induction n with
  | zero =>
    intro p S hp hn hc hk ho4
    have : p = M 4 0 := by omega
    subst this
    have h := h0.ca hc
    have h3 := h.2.1.2.2.1.1
    have h4 := h.2.1.2.2.2.1.1
    have hw := h.1.1.2.1
    have h6 : ((32 : Int32) ≤ nI (M 4 0)) = (32 ≤ M 4 0) := xI_le_nI (by omega) 32 (by decide)
    have e0 : (nI (M 4 0)).toNatClampNeg = M 4 0 := nI_clamp (by omega)
    by_cases h32 : 32 ≤ M 4 0
    · refine xrun_ok hV [86] 20 _ _ _ _ _ _ ?_
      simp (maxDischargeDepth := 60) only [xrun, xisc, ↓xstep, xget, xtgt, xcmp, xacmp, xprev, xisR, xnt, List.set, List.length, xsw, xlk, true_or, or_true, if_true, if_false, true_and, and_true, List.mem_cons, List.not_mem_nil, or_false, false_or, Bool.false_eq_true, reduceCtorEq, not_false_eq_true, forall_const, Nat.zero_add, Nat.reduceAdd, Nat.reduceSub, Int.reduceAdd, Int.reduceNeg, Int.reduceToNat, Nat.reduceEqDiff, Nat.reduceLT, Nat.reduceLeDiff, Int.reduceLE, Int.reduceLT, reduceIte, Int.cast_ofNat_Int, Int.natCast_zero, Int.natCast_one, Int.reduceAdd, eq_self, Int.reduceSub, List.length_cons, List.length_nil, xli_m1, xli_0, xli_1, xli_2, xli_3, xli_4, xli_5, xlb_8, xlb_12, xlb_31, xlb_32, xlb_64, xls_256, xls_513, xls_2048, xls_4096, xll_0, xll_1, xnr_i, xnr_0, xnr_1, xnr_ite, xft_i, xft_0, xft_1, xat_999, xat_1001, xat_1002, xat_1003, xat_2001, xat_2002, xat_2003, List.getElem?_cons_succ, List.getElem?_cons_zero, xfn_0, xfn_1, xfn_2, xfn_3, x10, x01, not_true_eq_false, false_implies, implies_true, true_implies, xrm_c, xrm_s, xnl_4, xnl_32, xnl_64, xnl_256, xtn_4, xtn_32, xtn_64, xtn_256, Option.some.injEq, Sum.inl.injEq, Sum.inr.injEq, exists_eq_left', exists_eq_right, Option.toList_some, Option.toList_none, List.cons_append, List.nil_append, xE, lg_cmp_ge, lg_cmp_le, lg_cmp_gt, lg_cmp_lt, lg_cmp_eq, Nat.le_refl, Nat.zero_le, ne_eq, Nat.add_zero, dS_placeOutput_0, dS_placeOutput_1, dS_placeOutput_2, dS_placeOutput_3, dS_placeOutput_6, dS_placeOutput_7, dS_placeOutput_8, dS_placeOutput_11, dS_placeOutput_12, dS_placeOutput_13, dS_placeOutput_14, dS_placeOutput_17, dS_placeOutput_18, dS_placeOutput_19, dS_placeOutput_20, dS_placeOutput_21, dS_placeOutput_24, dS_placeOutput_26, dS_placeOutput_28, dS_placeOutput_29, dS_placeOutput_31, dS_placeOutput_32, dS_placeOutput_34, dS_placeOutput_36, dS_placeOutput_38, dS_placeOutput_41, dS_placeOutput_43, dS_placeOutput_45, dS_placeOutput_46, dS_placeOutput_48, dS_placeOutput_50, dS_placeOutput_53, dS_placeOutput_56, dS_placeOutput_58, dS_placeOutput_61, dS_placeOutput_62, dS_placeOutput_65, dS_placeOutput_67, dS_placeOutput_70, dS_placeOutput_73, dS_placeOutput_75, dS_placeOutput_76, dS_placeOutput_79, dS_placeOutput_80, dS_placeOutput_83, dS_placeOutput_86, dS_placeOutput_87, dS_placeOutput_90, dS_placeOutput_91, dS_placeOutput_92, dS_placeOutput_93, dS_placeOutput_94, xf_3_27, xf_3_31, xf_3_11, xf_3_174, xf_3_108, xf_3_34, h3, h4, h6]
      exact ⟨fun _ => hend S hc hk ho4, fun z => absurd h32 z⟩
    · have hr := h.2.2.1.1 (M 4 0) (by omega)
      rw [if_neg (by omega)] at hr
      refine xrun_ok hV [86] 20 _ _ _ _ _ _ ?_
      simp (maxDischargeDepth := 60) only [xrun, xisc, ↓xstep, xget, xtgt, xcmp, xacmp, xprev, xisR, xnt, List.set, List.length, xsw, xlk, true_or, or_true, if_true, if_false, true_and, and_true, List.mem_cons, List.not_mem_nil, or_false, false_or, Bool.false_eq_true, reduceCtorEq, not_false_eq_true, forall_const, Nat.zero_add, Nat.reduceAdd, Nat.reduceSub, Int.reduceAdd, Int.reduceNeg, Int.reduceToNat, Nat.reduceEqDiff, Nat.reduceLT, Nat.reduceLeDiff, Int.reduceLE, Int.reduceLT, reduceIte, Int.cast_ofNat_Int, Int.natCast_zero, Int.natCast_one, Int.reduceAdd, eq_self, Int.reduceSub, List.length_cons, List.length_nil, xli_m1, xli_0, xli_1, xli_2, xli_3, xli_4, xli_5, xlb_8, xlb_12, xlb_31, xlb_32, xlb_64, xls_256, xls_513, xls_2048, xls_4096, xll_0, xll_1, xnr_i, xnr_0, xnr_1, xnr_ite, xft_i, xft_0, xft_1, xat_999, xat_1001, xat_1002, xat_1003, xat_2001, xat_2002, xat_2003, List.getElem?_cons_succ, List.getElem?_cons_zero, xfn_0, xfn_1, xfn_2, xfn_3, x10, x01, not_true_eq_false, false_implies, implies_true, true_implies, xrm_c, xrm_s, xnl_4, xnl_32, xnl_64, xnl_256, xtn_4, xtn_32, xtn_64, xtn_256, Option.some.injEq, Sum.inl.injEq, Sum.inr.injEq, exists_eq_left', exists_eq_right, Option.toList_some, Option.toList_none, List.cons_append, List.nil_append, xE, lg_cmp_ge, lg_cmp_le, lg_cmp_gt, lg_cmp_lt, lg_cmp_eq, Nat.le_refl, Nat.zero_le, ne_eq, Nat.add_zero, dS_placeOutput_0, dS_placeOutput_1, dS_placeOutput_2, dS_placeOutput_3, dS_placeOutput_6, dS_placeOutput_7, dS_placeOutput_8, dS_placeOutput_11, dS_placeOutput_12, dS_placeOutput_13, dS_placeOutput_14, dS_placeOutput_17, dS_placeOutput_18, dS_placeOutput_19, dS_placeOutput_20, dS_placeOutput_21, dS_placeOutput_24, dS_placeOutput_26, dS_placeOutput_28, dS_placeOutput_29, dS_placeOutput_31, dS_placeOutput_32, dS_placeOutput_34, dS_placeOutput_36, dS_placeOutput_38, dS_placeOutput_41, dS_placeOutput_43, dS_placeOutput_45, dS_placeOutput_46, dS_placeOutput_48, dS_placeOutput_50, dS_placeOutput_53, dS_placeOutput_56, dS_placeOutput_58, dS_placeOutput_61, dS_placeOutput_62, dS_placeOutput_65, dS_placeOutput_67, dS_placeOutput_70, dS_placeOutput_73, dS_placeOutput_75, dS_placeOutput_76, dS_placeOutput_79, dS_placeOutput_80, dS_placeOutput_83, dS_placeOutput_86, dS_placeOutput_87, dS_placeOutput_90, dS_placeOutput_91, dS_placeOutput_92, dS_placeOutput_93, dS_placeOutput_94, xf_3_27, xf_3_31, xf_3_11, xf_3_174, xf_3_108, xf_3_34, h3, h4, h6, e0, hr]
      refine ⟨fun z => absurd z h32, fun _ => ⟨⟨_, rfl⟩, vp_in_nI (by omega) (by decide), ?_⟩⟩
      exact hV.weak [some (.inr (.inr (some th))), some (.inl (nI o)), some (.inl (nI (mend M o))), some (.inl (nI (mout M o (mob M o) (M 4 0)))), some (.inr (.inr (some (ar 0)))), some (.inl 32), some (.inl (nI (M 4 0))), none] ⟨rfl, rfl, rfl, rfl, rfl, rfl, rfl, trivial⟩ (hend S hc hk ho4)
  | succ n ih =>
    intro p S hp hn hc hk ho4
    have hpl : p < M 4 0 := by omega
    have h := h0.ca hc
    have h3 := h.2.1.2.2.1.1
    have h4 := h.2.1.2.2.2.1.1
    have hw := h.1.1.2.1
    have h6 : ((32 : Int32) ≤ nI p) = (32 ≤ p) := xI_le_nI (by omega) 32 (by decide)
    have e0 : (nI p).toNatClampNeg = p := nI_clamp (by omega)
    have hr := h.2.2.1.1 p (by omega)
    rw [if_pos hpl] at hr
    obtain ⟨⟨p1, -⟩, ⟨-, p2, -, p3, -⟩, -, -⟩ := h.2.2.2.1 p hpl
    have hwp := h.1.2.2.1 p hpl
    have e5 : (nI (M 5 p) = nI o) = (M 5 p = o) := propext (nI_eq (by omega) (by omega))
    have e8 : (nI (M 8 p) = 0) = (M 8 p = 0) := propext (nI_eq (b := 0) (by omega) (by decide))
    have n32 : ¬ 32 ≤ p := by omega
    have next : ∀ S1 : xS, xCa ar S0 S1 → kO S1 ar pa qa M o (p + 1) → xi S1 (ar 4) o = nI (mob M o) → V 80 [some (.inr (.inr (some th))), some (.inl (nI o)), some (.inl (nI (mend M o))), some (.inl (nI (mout M o (mob M o) (p + 1)))), some (.inr (.inr (some (ar 0)))), some (.inl 32), some (.inl (nI p)), some (.inr (.inr (some (pa p))))] [] S1 0 0 := by
      intro S1 hc1 hk1 ho1
      refine xrun_ok hV [34] 20 _ _ _ _ _ _ ?_
      simp (maxDischargeDepth := 60) only [xrun, xisc, ↓xstep, xget, xtgt, xcmp, xacmp, xprev, xisR, xnt, List.set, List.length, xsw, xlk, true_or, or_true, if_true, if_false, true_and, and_true, List.mem_cons, List.not_mem_nil, or_false, false_or, Bool.false_eq_true, reduceCtorEq, not_false_eq_true, forall_const, Nat.zero_add, Nat.reduceAdd, Nat.reduceSub, Int.reduceAdd, Int.reduceNeg, Int.reduceToNat, Nat.reduceEqDiff, Nat.reduceLT, Nat.reduceLeDiff, Int.reduceLE, Int.reduceLT, reduceIte, Int.cast_ofNat_Int, Int.natCast_zero, Int.natCast_one, Int.reduceAdd, eq_self, Int.reduceSub, List.length_cons, List.length_nil, xli_m1, xli_0, xli_1, xli_2, xli_3, xli_4, xli_5, xlb_8, xlb_12, xlb_31, xlb_32, xlb_64, xls_256, xls_513, xls_2048, xls_4096, xll_0, xll_1, xnr_i, xnr_0, xnr_1, xnr_ite, xft_i, xft_0, xft_1, xat_999, xat_1001, xat_1002, xat_1003, xat_2001, xat_2002, xat_2003, List.getElem?_cons_succ, List.getElem?_cons_zero, xfn_0, xfn_1, xfn_2, xfn_3, x10, x01, not_true_eq_false, false_implies, implies_true, true_implies, xrm_c, xrm_s, xnl_4, xnl_32, xnl_64, xnl_256, xtn_4, xtn_32, xtn_64, xtn_256, Option.some.injEq, Sum.inl.injEq, Sum.inr.injEq, exists_eq_left', exists_eq_right, Option.toList_some, Option.toList_none, List.cons_append, List.nil_append, xE, lg_cmp_ge, lg_cmp_le, lg_cmp_gt, lg_cmp_lt, lg_cmp_eq, Nat.le_refl, Nat.zero_le, ne_eq, Nat.add_zero, dS_placeOutput_0, dS_placeOutput_1, dS_placeOutput_2, dS_placeOutput_3, dS_placeOutput_6, dS_placeOutput_7, dS_placeOutput_8, dS_placeOutput_11, dS_placeOutput_12, dS_placeOutput_13, dS_placeOutput_14, dS_placeOutput_17, dS_placeOutput_18, dS_placeOutput_19, dS_placeOutput_20, dS_placeOutput_21, dS_placeOutput_24, dS_placeOutput_26, dS_placeOutput_28, dS_placeOutput_29, dS_placeOutput_31, dS_placeOutput_32, dS_placeOutput_34, dS_placeOutput_36, dS_placeOutput_38, dS_placeOutput_41, dS_placeOutput_43, dS_placeOutput_45, dS_placeOutput_46, dS_placeOutput_48, dS_placeOutput_50, dS_placeOutput_53, dS_placeOutput_56, dS_placeOutput_58, dS_placeOutput_61, dS_placeOutput_62, dS_placeOutput_65, dS_placeOutput_67, dS_placeOutput_70, dS_placeOutput_73, dS_placeOutput_75, dS_placeOutput_76, dS_placeOutput_79, dS_placeOutput_80, dS_placeOutput_83, dS_placeOutput_86, dS_placeOutput_87, dS_placeOutput_90, dS_placeOutput_91, dS_placeOutput_92, dS_placeOutput_93, dS_placeOutput_94, xf_3_27, xf_3_31, xf_3_11, xf_3_174, xf_3_108, xf_3_34, nI_1]
      exact hV.weak [some (.inr (.inr (some th))), some (.inl (nI o)), some (.inl (nI (mend M o))), some (.inl (nI (mout M o (mob M o) (p + 1)))), some (.inr (.inr (some (ar 0)))), some (.inl 32), some (.inl (nI (p + 1))), none] ⟨rfl, rfl, rfl, rfl, rfl, rfl, rfl, trivial⟩ (ih (p + 1) S1 (by omega) (by omega) hc1 hk1 ho1)
    refine xrun_ok hV [80] 20 _ _ _ _ _ _ ?_
    simp (maxDischargeDepth := 60) only [xrun, xisc, ↓xstep, xget, xtgt, xcmp, xacmp, xprev, xisR, xnt, List.set, List.length, xsw, xlk, true_or, or_true, if_true, if_false, true_and, and_true, List.mem_cons, List.not_mem_nil, or_false, false_or, Bool.false_eq_true, reduceCtorEq, not_false_eq_true, forall_const, Nat.zero_add, Nat.reduceAdd, Nat.reduceSub, Int.reduceAdd, Int.reduceNeg, Int.reduceToNat, Nat.reduceEqDiff, Nat.reduceLT, Nat.reduceLeDiff, Int.reduceLE, Int.reduceLT, reduceIte, Int.cast_ofNat_Int, Int.natCast_zero, Int.natCast_one, Int.reduceAdd, eq_self, Int.reduceSub, List.length_cons, List.length_nil, xli_m1, xli_0, xli_1, xli_2, xli_3, xli_4, xli_5, xlb_8, xlb_12, xlb_31, xlb_32, xlb_64, xls_256, xls_513, xls_2048, xls_4096, xll_0, xll_1, xnr_i, xnr_0, xnr_1, xnr_ite, xft_i, xft_0, xft_1, xat_999, xat_1001, xat_1002, xat_1003, xat_2001, xat_2002, xat_2003, List.getElem?_cons_succ, List.getElem?_cons_zero, xfn_0, xfn_1, xfn_2, xfn_3, x10, x01, not_true_eq_false, false_implies, implies_true, true_implies, xrm_c, xrm_s, xnl_4, xnl_32, xnl_64, xnl_256, xtn_4, xtn_32, xtn_64, xtn_256, Option.some.injEq, Sum.inl.injEq, Sum.inr.injEq, exists_eq_left', exists_eq_right, Option.toList_some, Option.toList_none, List.cons_append, List.nil_append, xE, lg_cmp_ge, lg_cmp_le, lg_cmp_gt, lg_cmp_lt, lg_cmp_eq, Nat.le_refl, Nat.zero_le, ne_eq, Nat.add_zero, dS_placeOutput_0, dS_placeOutput_1, dS_placeOutput_2, dS_placeOutput_3, dS_placeOutput_6, dS_placeOutput_7, dS_placeOutput_8, dS_placeOutput_11, dS_placeOutput_12, dS_placeOutput_13, dS_placeOutput_14, dS_placeOutput_17, dS_placeOutput_18, dS_placeOutput_19, dS_placeOutput_20, dS_placeOutput_21, dS_placeOutput_24, dS_placeOutput_26, dS_placeOutput_28, dS_placeOutput_29, dS_placeOutput_31, dS_placeOutput_32, dS_placeOutput_34, dS_placeOutput_36, dS_placeOutput_38, dS_placeOutput_41, dS_placeOutput_43, dS_placeOutput_45, dS_placeOutput_46, dS_placeOutput_48, dS_placeOutput_50, dS_placeOutput_53, dS_placeOutput_56, dS_placeOutput_58, dS_placeOutput_61, dS_placeOutput_62, dS_placeOutput_65, dS_placeOutput_67, dS_placeOutput_70, dS_placeOutput_73, dS_placeOutput_75, dS_placeOutput_76, dS_placeOutput_79, dS_placeOutput_80, dS_placeOutput_83, dS_placeOutput_86, dS_placeOutput_87, dS_placeOutput_90, dS_placeOutput_91, dS_placeOutput_92, dS_placeOutput_93, dS_placeOutput_94, xf_3_27, xf_3_31, xf_3_11, xf_3_174, xf_3_108, xf_3_34, h3, h4, h6, e0, hr, p1, p2, p3, e5, e8, n32]
    refine ⟨⟨_, rfl⟩, vp_in_nI (by omega) (by decide), fun z => ?_, fun z => ⟨fun z2 => ?_, fun z2 => ?_⟩⟩
    · have e : mout M o (mob M o) (p + 1) = mout M o (mob M o) p := by rw [mout, if_neg (fun w => z w.1)]
      rw [← e]
      exact next S hc ⟨fun q hq hg hoq => hk.1 q hq hg (by rcases hoq with w | w; exact Or.inl w; exact Or.inr ⟨w.1, by rcases Nat.lt_or_ge q p with y | y; exact y; exact absurd (show M 5 p = o by rw [← w.1]; congr 1; omega) z⟩), hk.2⟩ ho4
    · have e : mout M o (mob M o) (p + 1) = mout M o (mob M o) p := by rw [mout, if_neg (fun w => z2 w.2)]
      rw [← e]
      exact next S hc ⟨fun q hq hg hoq => hk.1 q hq hg (by rcases hoq with w | w; exact Or.inl w; exact Or.inr ⟨w.1, by rcases Nat.lt_or_ge q p with y | y; exact y; exact absurd (show M 8 p = 0 by rw [← hg]; congr 1; omega) z2⟩), hk.2⟩ ho4
    · have e : mout M o (mob M o) (p + 1) = mlay M p (mup (mout M o (mob M o) p) (M 6 p)) (M 12 0) := by rw [mout, if_pos ⟨z, z2⟩]
      have hmp := mpe_le h.1 hpl z2
      have epb : mpb M p = mup (mout M o (mob M o) p) (M 6 p) := by unfold mpb; rw [z]
      have epe : mpe M p = mlay M p (mup (mout M o (mob M o) p) (M 6 p)) (M 12 0) := by unfold mpe; rw [epb]
      refine hV.call [] (As := [.inr (.inr (some (pa p))), .inl (nI (mout M o (mob M o) p))]) xh_3_203 dS_placeOutput_76 (c_placePart h hpl (f := mout M o (mob M o) p) (by rw [← epe]; exact hmp.2.2)) (Or.inl rfl) rfl rfl (by decide) (by decide) (by decide) ?_
      rintro r S1 ⟨rfl, g1, g2, g3⟩
      refine xrun_ok hV [80] 20 _ _ _ _ _ _ ?_
      simp (maxDischargeDepth := 60) only [xrun, xisc, ↓xstep, xget, xtgt, xcmp, xacmp, xprev, xisR, xnt, List.set, List.length, xsw, xlk, true_or, or_true, if_true, if_false, true_and, and_true, List.mem_cons, List.not_mem_nil, or_false, false_or, Bool.false_eq_true, reduceCtorEq, not_false_eq_true, forall_const, Nat.zero_add, Nat.reduceAdd, Nat.reduceSub, Int.reduceAdd, Int.reduceNeg, Int.reduceToNat, Nat.reduceEqDiff, Nat.reduceLT, Nat.reduceLeDiff, Int.reduceLE, Int.reduceLT, reduceIte, Int.cast_ofNat_Int, Int.natCast_zero, Int.natCast_one, Int.reduceAdd, eq_self, Int.reduceSub, List.length_cons, List.length_nil, xli_m1, xli_0, xli_1, xli_2, xli_3, xli_4, xli_5, xlb_8, xlb_12, xlb_31, xlb_32, xlb_64, xls_256, xls_513, xls_2048, xls_4096, xll_0, xll_1, xnr_i, xnr_0, xnr_1, xnr_ite, xft_i, xft_0, xft_1, xat_999, xat_1001, xat_1002, xat_1003, xat_2001, xat_2002, xat_2003, List.getElem?_cons_succ, List.getElem?_cons_zero, xfn_0, xfn_1, xfn_2, xfn_3, x10, x01, not_true_eq_false, false_implies, implies_true, true_implies, xrm_c, xrm_s, xnl_4, xnl_32, xnl_64, xnl_256, xtn_4, xtn_32, xtn_64, xtn_256, Option.some.injEq, Sum.inl.injEq, Sum.inr.injEq, exists_eq_left', exists_eq_right, Option.toList_some, Option.toList_none, List.cons_append, List.nil_append, xE, lg_cmp_ge, lg_cmp_le, lg_cmp_gt, lg_cmp_lt, lg_cmp_eq, Nat.le_refl, Nat.zero_le, ne_eq, Nat.add_zero, dS_placeOutput_0, dS_placeOutput_1, dS_placeOutput_2, dS_placeOutput_3, dS_placeOutput_6, dS_placeOutput_7, dS_placeOutput_8, dS_placeOutput_11, dS_placeOutput_12, dS_placeOutput_13, dS_placeOutput_14, dS_placeOutput_17, dS_placeOutput_18, dS_placeOutput_19, dS_placeOutput_20, dS_placeOutput_21, dS_placeOutput_24, dS_placeOutput_26, dS_placeOutput_28, dS_placeOutput_29, dS_placeOutput_31, dS_placeOutput_32, dS_placeOutput_34, dS_placeOutput_36, dS_placeOutput_38, dS_placeOutput_41, dS_placeOutput_43, dS_placeOutput_45, dS_placeOutput_46, dS_placeOutput_48, dS_placeOutput_50, dS_placeOutput_53, dS_placeOutput_56, dS_placeOutput_58, dS_placeOutput_61, dS_placeOutput_62, dS_placeOutput_65, dS_placeOutput_67, dS_placeOutput_70, dS_placeOutput_73, dS_placeOutput_75, dS_placeOutput_76, dS_placeOutput_79, dS_placeOutput_80, dS_placeOutput_83, dS_placeOutput_86, dS_placeOutput_87, dS_placeOutput_90, dS_placeOutput_91, dS_placeOutput_92, dS_placeOutput_93, dS_placeOutput_94, xf_3_27, xf_3_31, xf_3_11, xf_3_174, xf_3_108, xf_3_34]
      rw [← e]
      have hc1 := xCa.tr h0 hc g1
      have ot : ∀ c j, xc S c ≠ 2 → xc S c ≠ 3 → xi S1 c j = xi S c j := fun c j w1 w2 => g2.2.1 c j (fun w => w1 (by rw [w]; exact p1)) (fun q hq _ w => w2 (by rw [w]; exact (h.2.2.2.2.1 q hq).1.1))
      refine next S1 hc1 ⟨fun q hq hg hoq => ?_, fun o' ho' => ?_⟩ ?_
      · by_cases eq : q = p
        · subst eq
          refine ⟨?_, ?_, fun k hk' hkq => ?_⟩
          · rw [g2.2.2, epb]
          · rw [g3, epe]
          · have := g2.1 k hk' hk' hkq
            have e9 : mpl M k = mlay M q (mup (mout M o (mob M o) q) (M 6 q)) k := by unfold mpl; rw [hkq, epb]
            unfold msize
            rw [e9]
            exact this
        · have hkp := hk.1 q hq hg (by omega)
          have f1 : ∀ j, xi S1 (pa q) j = xi S (pa q) j := fun j => g2.2.1 _ j (fun w => eq (h.2.2.2.2.2.2.1 q p hq hpl w)) (fun k hk' _ w => h.nP hq (h.2.2.2.2.1 k hk').1.1 (by decide) w)
          refine ⟨by rw [f1]; exact hkp.1, by rw [f1]; exact hkp.2.1, fun k hk' hkq => ?_⟩
          have f2 : ∀ j, xi S1 (qa k) j = xi S (qa k) j := fun j => g2.2.1 _ j (h.nQ hk' p1 (by decide)) (fun k2 hk2 hk2p w => eq (by rw [← hkq, h.2.2.2.2.2.2.2.1 k k2 hk' hk2 w, hk2p]))
          rw [f2, f2]
          exact hkp.2.2 k hk' hkq
      · have c4 := h.2.1.2.2.1.2.2.2.2.1
        have c5 := h.2.1.2.2.1.2.2.2.2.2
        rw [ot _ _ (by rw [c4]; decide) (by rw [c4]; decide), ot _ _ (by rw [c5]; decide) (by rw [c5]; decide)]
        exact hk.2 o' ho'
      · have c4 := h.2.1.2.2.1.2.2.2.2.1
        rw [ot _ _ (by rw [c4]; decide) (by rw [c4]; decide)]
        exact ho4
end SURVEY
