/-! THE REFERENCE: lay and reckon -/
def cK (S : xS) (A : Nat → Nat) (M : mT) (k a : Nat) : Prop := xi S (A 22) k = nI a ∧ xi S (A 15) k = nI (msz M k a) ∧ (M 13 k = 4 → xi S (A 23) k = nI (mpad a (M 17 k)))
def cP (S : xS) (A : Nat → Nat) (M : mT) (p : Nat) : Prop := xi S (A 10) p = nI (mpb M p) ∧ xi S (A 11) p = nI (mpe M p) ∧ ∀ k, k < M 12 0 → M 14 k = p → cK S A M k (mpl M k)
def cO (S : xS) (A : Nat → Nat) (M : mT) (o : Nat) : Prop := xi S (A 2) o = nI (mob M o) ∧ xi S (A 3) o = nI (mend M (o + 1))
def kN (S : xS) (A : Nat → Nat) (M : mT) : Prop := (∀ o, o < 4 → cO S A M o) ∧ ∀ p, p < M 4 0 → M 8 p = 0 → cP S A M p
-- what laying part p writes
def lT (M : mT) (p f j : Nat) : Prop := ((f = 22 ∨ f = 23 ∨ f = 15) ∧ M 14 j = p ∧ j < M 12 0) ∨ ((f = 10 ∨ f = 11) ∧ j = p)
def lSame (S S' : xS) (A : Nat → Nat) (M : mT) (p : Nat) : Prop := ∀ f j, mar f = true → ¬ lT M p f j → xi S' (A f) j = xi S (A f) j
theorem cP.keep {S S' : xS} {A : Nat → Nat} {M : mT} {p q : Nat} (h : cP S A M q) (hs : lSame S S' A M p) (hn : q ≠ p) : cP S' A M q := by
  obtain ⟨h1, h2, h3⟩ := h
  have e : ∀ f j, (f = 10 ∨ f = 11) → j = q → ¬ lT M p f j := by rintro f j hf rfl (⟨z, -⟩ | ⟨-, z⟩) <;> omega
  refine ⟨(hs 10 q rfl (e _ _ (Or.inl rfl) rfl)).trans h1, (hs 11 q rfl (e _ _ (Or.inr rfl) rfl)).trans h2, fun k hk hq => ?_⟩
  have e2 : ∀ f, (f = 22 ∨ f = 23 ∨ f = 15) → ¬ lT M p f k := by
    rintro f hf (⟨-, z, -⟩ | ⟨z, -⟩)
    · exact hn (hq.symm.trans z)
    · omega
  obtain ⟨k1, k2, k3⟩ := h3 k hk hq
  exact ⟨(hs 22 k rfl (e2 _ (Or.inl rfl))).trans k1, (hs 15 k rfl (e2 _ (Or.inr (Or.inr rfl)))).trans k2, fun z => (hs 23 k rfl (e2 _ (Or.inr (Or.inl rfl)))).trans (k3 z)⟩
theorem cO.keep {S S' : xS} {A : Nat → Nat} {M : mT} {p o : Nat} (h : cO S A M o) (hs : lSame S S' A M p) : cO S' A M o := by
  refine ⟨(hs 2 o rfl ?_).trans h.1, (hs 3 o rfl ?_).trans h.2⟩ <;> (unfold lT; omega)
theorem nI_rem {a b : Nat} (ha : a < 2 ^ 31) (hb : b < 2 ^ 31) : nI a - nI a / nI b * nI b = nI (a % b) := by
  have h1 := Nat.div_add_mod a b
  have h2 : b * (a / b) ≤ a := Nat.mul_div_le a b
  rw [nI_div ha hb, nI_mul, pk_sub (by rw [Nat.mul_comm]; exact h2)]
  congr 1
  rw [Nat.mul_comm]
  omega
theorem xi_same (T : xS) (a i : Nat) (x : Int32) : xi (xpi T a i x) a i = x := by rw [xi_pi, if_pos ⟨rfl, rfl⟩]
section LAY
variable {l : Launch} {D : va_G} {n0 : Nat} {S : xS} {mo : Nat} {A : Nat → Nat} {M : mT}
set_option maxHeartbeats 4000000 in
set_option maxRecDepth 100000 in
theorem lay_loop {p b : Nat} (hp : p < M 4 0) (hb : mlay M p b (M 12 0) ≤ 1074937820) {S0 : xS} {V : xKt} {Q : Option xVal → xS → Prop}
    (hV : xCl l D n0 4 cM_lay false (some .int) (xrm mM_lay 0 0) V (xE 0 0 Q))
    (hQ : ∀ S, rF S mo A M → xFr tM S0 S → lSame S0 S A M p → xi S (A 10) p = nI b → (∀ j, j < M 12 0 → M 14 j = p → cK S A M j (mlay M p b j)) → xi S (A 11) p = nI (mlay M p b (M 12 0)) → Q (some (.inl (nI (mlay M p b (M 12 0))))) S) :
    ∀ (n k : Nat) (S : xS), k ≤ M 12 0 → M 12 0 - k = n → rF S mo A M → xFr tM S0 S → lSame S0 S A M p → xi S (A 10) p = nI b → (∀ j, j < k → M 14 j = p → cK S A M j (mlay M p b j)) → V 12 [some (.inr (.inr (some mo))), some (.inl (nI p)), some (.inl (nI b)), some (.inl (nI (mlay M p b k))), some (.inl (nI k)), none] [] S 0 0 := by
  intro n
  induction n with
  | zero =>
    intro k S hk hn h hF hL h10 hD
    have : k = M 12 0 := by omega
    subst this
    have hmo := h.mo
    have hs := h.s12
    have hS := h.2.1
    have hw := h.1.1.2.1
    have r11 : xr S mo 11 = some (A 11) := h.ar 11 rfl
    have c11 : xc S (A 11) = 1002 := h.tg 11 rfl
    have l11 : xl S (A 11) = 32 := h.ln 11 rfl
    have n11 : (mo = A 11) = False := eq_false (fun e => h.nm (f := 11) rfl e.symm)
    have inp : vp_in (nI p) 32 := vp_in_nI (by omega) (by decide)
    have e0 : (nI p).toNatClampNeg = p := nI_clamp (by omega)
    have ele : (nI (M 12 0) ≤ nI (M 12 0)) = True := eq_true (nI_le (Nat.le_refl _) (by have := h.1.1.2.2.1; omega))
    refine xrun_ok hV [] 20 _ _ _ _ _ _ ?_
    simp (maxDischargeDepth := 60) only [xrun, xisc, ↓xstep, xget, xtgt, xcmp, xacmp, xprev, xisR, xnt, List.set, List.length, xsw, xlk, true_or, or_true, if_true, if_false, true_and, and_true, List.mem_cons, List.not_mem_nil, or_false, false_or, Bool.false_eq_true, reduceCtorEq, not_false_eq_true, forall_const, Nat.zero_add, Nat.reduceAdd, Nat.reduceSub, Int.reduceAdd, Int.reduceNeg, Int.reduceToNat, Nat.reduceEqDiff, Nat.reduceLT, Nat.reduceLeDiff, Int.reduceLE, Int.reduceLT, reduceIte, Int.cast_ofNat_Int, Int.natCast_zero, Int.natCast_one, Int.reduceAdd, eq_self, Int.reduceSub, List.length_cons, List.length_nil, xli_m1, xli_0, xli_1, xli_2, xli_3, xli_4, xli_5, xlb_8, xlb_12, xlb_31, xlb_32, xlb_64, xls_256, xls_513, xls_2048, xls_4096, xll_0, xll_1, xnr_i, xnr_0, xnr_1, xnr_ite, xft_i, xft_0, xft_1, xat_999, xat_1001, xat_1002, xat_1003, xat_2001, xat_2002, xat_2003, List.getElem?_cons_succ, List.getElem?_cons_zero, xfn_0, xfn_1, xfn_2, xfn_3, x10, x01, not_true_eq_false, false_implies, implies_true, true_implies, xrm_c, xrm_s, xnl_4, xnl_32, xnl_64, xnl_256, xtn_4, xtn_32, xtn_64, xtn_256, Option.some.injEq, Sum.inl.injEq, Sum.inr.injEq, exists_eq_left', exists_eq_right, Option.toList_some, Option.toList_none, List.cons_append, List.nil_append, xE, lg_cmp_ge, lg_cmp_le, lg_cmp_gt, lg_cmp_lt, lg_cmp_eq, Nat.le_refl, Nat.zero_le, ne_eq, Nat.add_zero, dM_lay_0, dM_lay_1, dM_lay_2, dM_lay_3, dM_lay_6, dM_lay_7, dM_lay_8, dM_lay_9, dM_lay_10, dM_lay_12, dM_lay_14, dM_lay_15, dM_lay_18, dM_lay_21, dM_lay_22, dM_lay_25, dM_lay_27, dM_lay_28, dM_lay_29, dM_lay_32, dM_lay_35, dM_lay_36, dM_lay_39, dM_lay_41, dM_lay_42, dM_lay_43, dM_lay_44, dM_lay_47, dM_lay_49, dM_lay_50, dM_lay_51, dM_lay_54, dM_lay_55, dM_lay_56, dM_lay_59, dM_lay_61, dM_lay_62, dM_lay_63, dM_lay_65, dM_lay_66, dM_lay_69, dM_lay_71, dM_lay_73, dM_lay_74, dM_lay_76, dM_lay_77, dM_lay_78, dM_lay_80, dM_lay_81, dM_lay_82, dM_lay_83, dM_lay_86, dM_lay_88, dM_lay_89, dM_lay_92, dM_lay_94, dM_lay_95, dM_lay_96, dM_lay_99, dM_lay_101, dM_lay_102, dM_lay_105, dM_lay_106, dM_lay_109, dM_lay_111, dM_lay_112, dM_lay_115, dM_lay_116, dM_lay_119, dM_lay_121, dM_lay_122, dM_lay_123, dM_lay_124, dM_lay_125, dM_lay_128, dM_lay_130, dM_lay_131, dM_lay_132, dM_lay_133, dM_lay_136, dM_lay_139, dM_lay_140, dM_lay_143, dM_lay_144, dM_lay_145, dM_lay_146, dM_lay_147, xf_4_35, xf_4_91, xf_4_44, xf_4_68, xf_4_41, xf_4_53, xf_4_71, xf_4_47, xf_4_50, xf_4_38, hmo, hs, r11, c11, l11, n11, inp, e0, ele]
    refine hQ _ (h.free (f := 11) rfl trivial) (hF.tr (xFr.ar hS (f := 11) rfl _ _)) ?_ ?_ ?_ (xi_same _ _ _ _)
    · intro f j hf hT
      rw [xi_pi, if_neg (fun z => hT (Or.inr ⟨Or.inr (hS.2.2 f 11 hf rfl z.1), z.2⟩))]
      exact hL f j hf hT
    · rw [hS.xo 10 11 rfl rfl (by decide)]; exact h10
    · intro j hj hq
      obtain ⟨k1, k2, k3⟩ := hD j hj hq
      unfold cK
      rw [hS.xo 22 11 rfl rfl (by decide), hS.xo 15 11 rfl rfl (by decide), hS.xo 23 11 rfl rfl (by decide)]
      exact ⟨k1, k2, k3⟩
  | succ n ih =>
    intro k S hk hn h hF hL h10 hD
    have hkl : k < M 12 0 := by omega
    have hmo := h.mo
    have hs := h.s12
    have hS := h.2.1
    have hw := h.1.1.2.2.1
    have r13 : xr S mo 13 = some (A 13) := h.ar 13 rfl
    have c13 : xc S (A 13) = 1002 := h.tg 13 rfl
    have l13 : xl S (A 13) = 256 := h.ln 13 rfl
    have n13 : (mo = A 13) = False := eq_false (fun e => h.nm (f := 13) rfl e.symm)
    have r14 : xr S mo 14 = some (A 14) := h.ar 14 rfl
    have c14 : xc S (A 14) = 1002 := h.tg 14 rfl
    have l14 : xl S (A 14) = 256 := h.ln 14 rfl
    have n14 : (mo = A 14) = False := eq_false (fun e => h.nm (f := 14) rfl e.symm)
    have r15 : xr S mo 15 = some (A 15) := h.ar 15 rfl
    have c15 : xc S (A 15) = 1002 := h.tg 15 rfl
    have l15 : xl S (A 15) = 256 := h.ln 15 rfl
    have n15 : (mo = A 15) = False := eq_false (fun e => h.nm (f := 15) rfl e.symm)
    have r16 : xr S mo 16 = some (A 16) := h.ar 16 rfl
    have c16 : xc S (A 16) = 1002 := h.tg 16 rfl
    have l16 : xl S (A 16) = 256 := h.ln 16 rfl
    have n16 : (mo = A 16) = False := eq_false (fun e => h.nm (f := 16) rfl e.symm)
    have r17 : xr S mo 17 = some (A 17) := h.ar 17 rfl
    have c17 : xc S (A 17) = 1002 := h.tg 17 rfl
    have l17 : xl S (A 17) = 256 := h.ln 17 rfl
    have n17 : (mo = A 17) = False := eq_false (fun e => h.nm (f := 17) rfl e.symm)
    have r22 : xr S mo 22 = some (A 22) := h.ar 22 rfl
    have c22 : xc S (A 22) = 1002 := h.tg 22 rfl
    have l22 : xl S (A 22) = 256 := h.ln 22 rfl
    have n22 : (mo = A 22) = False := eq_false (fun e => h.nm (f := 22) rfl e.symm)
    have r23 : xr S mo 23 = some (A 23) := h.ar 23 rfl
    have c23 : xc S (A 23) = 1002 := h.tg 23 rfl
    have l23 : xl S (A 23) = 256 := h.ln 23 rfl
    have n23 : (mo = A 23) = False := eq_false (fun e => h.nm (f := 23) rfl e.symm)
    have v13 := h.v13 hkl
    have v14 := h.v14 hkl
    have v16 := h.v16 hkl
    have v17 := h.v17 hkl
    have hwk := h.1.2.2.2.1 k hkl
    have hnp := h.1.1.2.1
    have ink : vp_in (nI k) 256 := vp_in_nI (by omega) (by decide)
    have e0 : (nI k).toNatClampNeg = k := nI_clamp (by omega)
    have ele : (nI (M 12 0) ≤ nI k) = False := eq_false (nI_ge hkl (by omega))
    have e14 : (nI (M 14 k) = nI p) = (M 14 k = p) := propext (nI_eq (by omega) (by omega))
    have e13 : (nI (M 13 k) = 4) = (M 13 k = 4) := propext (nI_eq (b := 4) (by omega) (by decide))
    have hat : mlay M p b k ≤ 1074937820 := by
      have := mlay_mono M p b k (M 12 0 - k)
      rw [show k + (M 12 0 - k) = M 12 0 by omega] at this
      omega
    have next : ∀ (S1 : xS) (a : Nat) (o : Option xVal), a = mlay M p b (k + 1) → rF S1 mo A M → xFr tM S0 S1 → lSame S0 S1 A M p → xi S1 (A 10) p = nI b → (∀ j, j < k + 1 → M 14 j = p → cK S1 A M j (mlay M p b j)) → V 133 [some (.inr (.inr (some mo))), some (.inl (nI p)), some (.inl (nI b)), some (.inl (nI a)), some (.inl (nI k)), o] [] S1 0 0 := by
      intro S1 a o ha g1 g2 g3 g4 g5
      rw [ha]
      refine xrun_ok hV [12] 20 _ _ _ _ _ _ ?_
      simp (maxDischargeDepth := 60) only [xrun, xisc, ↓xstep, xget, xtgt, xcmp, xacmp, xprev, xisR, xnt, List.set, List.length, xsw, xlk, true_or, or_true, if_true, if_false, true_and, and_true, List.mem_cons, List.not_mem_nil, or_false, false_or, Bool.false_eq_true, reduceCtorEq, not_false_eq_true, forall_const, Nat.zero_add, Nat.reduceAdd, Nat.reduceSub, Int.reduceAdd, Int.reduceNeg, Int.reduceToNat, Nat.reduceEqDiff, Nat.reduceLT, Nat.reduceLeDiff, Int.reduceLE, Int.reduceLT, reduceIte, Int.cast_ofNat_Int, Int.natCast_zero, Int.natCast_one, Int.reduceAdd, eq_self, Int.reduceSub, List.length_cons, List.length_nil, xli_m1, xli_0, xli_1, xli_2, xli_3, xli_4, xli_5, xlb_8, xlb_12, xlb_31, xlb_32, xlb_64, xls_256, xls_513, xls_2048, xls_4096, xll_0, xll_1, xnr_i, xnr_0, xnr_1, xnr_ite, xft_i, xft_0, xft_1, xat_999, xat_1001, xat_1002, xat_1003, xat_2001, xat_2002, xat_2003, List.getElem?_cons_succ, List.getElem?_cons_zero, xfn_0, xfn_1, xfn_2, xfn_3, x10, x01, not_true_eq_false, false_implies, implies_true, true_implies, xrm_c, xrm_s, xnl_4, xnl_32, xnl_64, xnl_256, xtn_4, xtn_32, xtn_64, xtn_256, Option.some.injEq, Sum.inl.injEq, Sum.inr.injEq, exists_eq_left', exists_eq_right, Option.toList_some, Option.toList_none, List.cons_append, List.nil_append, xE, lg_cmp_ge, lg_cmp_le, lg_cmp_gt, lg_cmp_lt, lg_cmp_eq, Nat.le_refl, Nat.zero_le, ne_eq, Nat.add_zero, dM_lay_0, dM_lay_1, dM_lay_2, dM_lay_3, dM_lay_6, dM_lay_7, dM_lay_8, dM_lay_9, dM_lay_10, dM_lay_12, dM_lay_14, dM_lay_15, dM_lay_18, dM_lay_21, dM_lay_22, dM_lay_25, dM_lay_27, dM_lay_28, dM_lay_29, dM_lay_32, dM_lay_35, dM_lay_36, dM_lay_39, dM_lay_41, dM_lay_42, dM_lay_43, dM_lay_44, dM_lay_47, dM_lay_49, dM_lay_50, dM_lay_51, dM_lay_54, dM_lay_55, dM_lay_56, dM_lay_59, dM_lay_61, dM_lay_62, dM_lay_63, dM_lay_65, dM_lay_66, dM_lay_69, dM_lay_71, dM_lay_73, dM_lay_74, dM_lay_76, dM_lay_77, dM_lay_78, dM_lay_80, dM_lay_81, dM_lay_82, dM_lay_83, dM_lay_86, dM_lay_88, dM_lay_89, dM_lay_92, dM_lay_94, dM_lay_95, dM_lay_96, dM_lay_99, dM_lay_101, dM_lay_102, dM_lay_105, dM_lay_106, dM_lay_109, dM_lay_111, dM_lay_112, dM_lay_115, dM_lay_116, dM_lay_119, dM_lay_121, dM_lay_122, dM_lay_123, dM_lay_124, dM_lay_125, dM_lay_128, dM_lay_130, dM_lay_131, dM_lay_132, dM_lay_133, dM_lay_136, dM_lay_139, dM_lay_140, dM_lay_143, dM_lay_144, dM_lay_145, dM_lay_146, dM_lay_147, xf_4_35, xf_4_91, xf_4_44, xf_4_68, xf_4_41, xf_4_53, xf_4_71, xf_4_47, xf_4_50, xf_4_38, nI_1]
      exact hV.weak [some (.inr (.inr (some mo))), some (.inl (nI p)), some (.inl (nI b)), some (.inl (nI (mlay M p b (k + 1)))), some (.inl (nI (k + 1))), none] ⟨rfl, rfl, rfl, rfl, rfl, trivial⟩ (ih (k + 1) S1 (by omega) (by omega) g1 g2 g3 g4 g5)
    by_cases hq : M 14 k = p
    case neg =>
      refine xrun_ok hV [133] 20 _ _ _ _ _ _ ?_
      simp (maxDischargeDepth := 60) only [xrun, xisc, ↓xstep, xget, xtgt, xcmp, xacmp, xprev, xisR, xnt, List.set, List.length, xsw, xlk, true_or, or_true, if_true, if_false, true_and, and_true, List.mem_cons, List.not_mem_nil, or_false, false_or, Bool.false_eq_true, reduceCtorEq, not_false_eq_true, forall_const, Nat.zero_add, Nat.reduceAdd, Nat.reduceSub, Int.reduceAdd, Int.reduceNeg, Int.reduceToNat, Nat.reduceEqDiff, Nat.reduceLT, Nat.reduceLeDiff, Int.reduceLE, Int.reduceLT, reduceIte, Int.cast_ofNat_Int, Int.natCast_zero, Int.natCast_one, Int.reduceAdd, eq_self, Int.reduceSub, List.length_cons, List.length_nil, xli_m1, xli_0, xli_1, xli_2, xli_3, xli_4, xli_5, xlb_8, xlb_12, xlb_31, xlb_32, xlb_64, xls_256, xls_513, xls_2048, xls_4096, xll_0, xll_1, xnr_i, xnr_0, xnr_1, xnr_ite, xft_i, xft_0, xft_1, xat_999, xat_1001, xat_1002, xat_1003, xat_2001, xat_2002, xat_2003, List.getElem?_cons_succ, List.getElem?_cons_zero, xfn_0, xfn_1, xfn_2, xfn_3, x10, x01, not_true_eq_false, false_implies, implies_true, true_implies, xrm_c, xrm_s, xnl_4, xnl_32, xnl_64, xnl_256, xtn_4, xtn_32, xtn_64, xtn_256, Option.some.injEq, Sum.inl.injEq, Sum.inr.injEq, exists_eq_left', exists_eq_right, Option.toList_some, Option.toList_none, List.cons_append, List.nil_append, xE, lg_cmp_ge, lg_cmp_le, lg_cmp_gt, lg_cmp_lt, lg_cmp_eq, Nat.le_refl, Nat.zero_le, ne_eq, Nat.add_zero, dM_lay_0, dM_lay_1, dM_lay_2, dM_lay_3, dM_lay_6, dM_lay_7, dM_lay_8, dM_lay_9, dM_lay_10, dM_lay_12, dM_lay_14, dM_lay_15, dM_lay_18, dM_lay_21, dM_lay_22, dM_lay_25, dM_lay_27, dM_lay_28, dM_lay_29, dM_lay_32, dM_lay_35, dM_lay_36, dM_lay_39, dM_lay_41, dM_lay_42, dM_lay_43, dM_lay_44, dM_lay_47, dM_lay_49, dM_lay_50, dM_lay_51, dM_lay_54, dM_lay_55, dM_lay_56, dM_lay_59, dM_lay_61, dM_lay_62, dM_lay_63, dM_lay_65, dM_lay_66, dM_lay_69, dM_lay_71, dM_lay_73, dM_lay_74, dM_lay_76, dM_lay_77, dM_lay_78, dM_lay_80, dM_lay_81, dM_lay_82, dM_lay_83, dM_lay_86, dM_lay_88, dM_lay_89, dM_lay_92, dM_lay_94, dM_lay_95, dM_lay_96, dM_lay_99, dM_lay_101, dM_lay_102, dM_lay_105, dM_lay_106, dM_lay_109, dM_lay_111, dM_lay_112, dM_lay_115, dM_lay_116, dM_lay_119, dM_lay_121, dM_lay_122, dM_lay_123, dM_lay_124, dM_lay_125, dM_lay_128, dM_lay_130, dM_lay_131, dM_lay_132, dM_lay_133, dM_lay_136, dM_lay_139, dM_lay_140, dM_lay_143, dM_lay_144, dM_lay_145, dM_lay_146, dM_lay_147, xf_4_35, xf_4_91, xf_4_44, xf_4_68, xf_4_41, xf_4_53, xf_4_71, xf_4_47, xf_4_50, xf_4_38, hmo, hs, r14, c14, l14, n14, ink, e0, ele, v14, e14, hq]
      refine next S _ _ ?_ h hF hL h10 (fun j hj hq2 => ?_)
      · rw [mlay, if_neg hq]
      · by_cases z : j = k
        · subst z; exact absurd hq2 hq
        · exact hD j (by omega) hq2
    have em : mlay M p b (k + 1) = mlay M p b k + msz M k (mlay M p b k) := by rw [mlay, if_pos hq]
    generalize hA : mlay M p b k = a at hat em
    have g22 := h.free (f := 22) (i := k) (x := nI a) rfl trivial
    have hS1 := g22.2.1
    have hF1 := hF.tr (xFr.ar hS (f := 22) rfl k (nI a))
    have x13 : ∀ (T : xS) (i j : Nat) (x : Int32), xi (xpi T (A 22) i x) (A 13) j = xi T (A 13) j := fun T i j x => hS.xo 13 22 rfl rfl (by decide)
    have x15 : ∀ (T : xS) (i j : Nat) (x : Int32), xi (xpi T (A 22) i x) (A 15) j = xi T (A 15) j := fun T i j x => hS.xo 15 22 rfl rfl (by decide)
    have x16 : ∀ (T : xS) (i j : Nat) (x : Int32), xi (xpi T (A 22) i x) (A 16) j = xi T (A 16) j := fun T i j x => hS.xo 16 22 rfl rfl (by decide)
    have x17 : ∀ (T : xS) (i j : Nat) (x : Int32), xi (xpi T (A 22) i x) (A 17) j = xi T (A 17) j := fun T i j x => hS.xo 17 22 rfl rfl (by decide)
    have y16 : ∀ (T : xS) (i j : Nat) (x : Int32), xi (xpi T (A 23) i x) (A 16) j = xi T (A 16) j := fun T i j x => hS.xo 16 23 rfl rfl (by decide)
    have keep : ∀ (T : xS) (f : Nat) (x : Int32), (f = 22 ∨ f = 23 ∨ f = 15) → lSame S0 T A M p → lSame S0 (xpi T (A f) k x) A M p := by
      intro T f x hf hs g j hg hT
      rw [xi_pi, if_neg, hs g j hg hT]
      rintro ⟨z1, rfl⟩
      have : g = f := hS.2.2 g f hg (by rcases hf with rfl | rfl | rfl <;> rfl) z1
      exact hT (Or.inl ⟨by omega, hq, hkl⟩)
    by_cases h4 : M 13 k = 4
    · have hp2 : M 17 k ≤ 12 := hwk.2.2.2.2.2
      have hpw := xpow_le hp2
      have hpos : 0 < 2 ^ M 17 k := Nat.two_pow_pos _
      have esh := xshl (M 17 k) (by omega)
      have ez : (nI (2 ^ M 17 k) = 0) = False := eq_false (nI_ne0 hpos (by omega))
      have er1 : nI a - nI a / nI (2 ^ M 17 k) * nI (2 ^ M 17 k) = nI (a % 2 ^ M 17 k) := nI_rem (by omega) (by omega)
      have hml : a % 2 ^ M 17 k < 2 ^ M 17 k := Nat.mod_lt _ hpos
      have er2 : nI (2 ^ M 17 k) - nI (a % 2 ^ M 17 k) = nI (2 ^ M 17 k - a % 2 ^ M 17 k) := pk_sub (by omega)
      have er3 : nI (2 ^ M 17 k - a % 2 ^ M 17 k) - nI (2 ^ M 17 k - a % 2 ^ M 17 k) / nI (2 ^ M 17 k) * nI (2 ^ M 17 k) = nI (mpad a (M 17 k)) := nI_rem (by omega) (by omega)
      have hpd := mpad_lt (x := a) hp2
      have hmo4 := h.1.2.2.2.2.2.2.1 k hkl h4
      have ele2 : (nI (M 16 k) ≤ nI (mpad a (M 17 k))) = (M 16 k ≤ mpad a (M 17 k)) := propext (nI_leI (by omega) (by omega))
      have g23 := g22.free (f := 23) (i := k) (x := nI (mpad a (M 17 k))) rfl trivial
      have hF2 := hF1.tr (xFr.ar hS1 (f := 23) rfl k (nI (mpad a (M 17 k))))
      have fin : ∀ m : Nat, m = msz M k a → V 133 [some (.inr (.inr (some mo))), some (.inl (nI p)), some (.inl (nI b)), some (.inl (nI (a + m))), some (.inl (nI k)), some (.inl (nI (2 ^ M 17 k)))] [] (xpi (xpi (xpi S (A 22) k (nI a)) (A 23) k (nI (mpad a (M 17 k)))) (A 15) k (nI m)) 0 0 := by
        intro m hm
        have g15 := g23.free (f := 15) (i := k) (x := nI m) rfl (fun _ z => absurd h4 z)
        refine next _ _ _ (by rw [em, hm]) g15 (hF2.tr (xFr.ar g23.2.1 (f := 15) rfl k (nI m))) (keep _ _ _ (by decide) (keep _ _ _ (by decide) (keep _ _ _ (by decide) hL))) ?_ (fun j hj hq2 => ?_)
        · rw [hS.xo 10 15 rfl rfl (by decide), hS.xo 10 23 rfl rfl (by decide), hS.xo 10 22 rfl rfl (by decide)]; exact h10
        · unfold cK
          rw [hS.xo 22 15 rfl rfl (by decide), hS.xo 22 23 rfl rfl (by decide), hS.xo 23 15 rfl rfl (by decide)]
          by_cases z : j = k
          · subst z
            rw [xi_same, xi_same, xi_same, hA]
            exact ⟨rfl, by rw [hm], fun _ => rfl⟩
          · obtain ⟨k1, k2, k3⟩ := hD j (by omega) hq2
            refine ⟨?_, ?_, fun w => ?_⟩
            · rw [xi_pi, if_neg (fun w => z w.2)]; exact k1
            · rw [xi_pi, if_neg (fun w => z w.2), hS.xo 15 23 rfl rfl (by decide), hS.xo 15 22 rfl rfl (by decide)]; exact k2
            · rw [xi_pi, if_neg (fun w => z w.2), hS.xo 23 22 rfl rfl (by decide)]; exact k3 w
      have esz : msz M k a = min (mpad a (M 17 k)) (M 16 k) := by unfold msz; rw [if_pos h4]
      have e13' : (nI (M 13 k) = 4) = True := by rw [e13]; simp [h4]
      refine xrun_ok hV [133] 90 _ _ _ _ _ _ ?_
      simp (maxDischargeDepth := 60) only [xrun, xisc, ↓xstep, xget, xtgt, xcmp, xacmp, xprev, xisR, xnt, List.set, List.length, xsw, xlk, true_or, or_true, if_true, if_false, true_and, and_true, List.mem_cons, List.not_mem_nil, or_false, false_or, Bool.false_eq_true, reduceCtorEq, not_false_eq_true, forall_const, Nat.zero_add, Nat.reduceAdd, Nat.reduceSub, Int.reduceAdd, Int.reduceNeg, Int.reduceToNat, Nat.reduceEqDiff, Nat.reduceLT, Nat.reduceLeDiff, Int.reduceLE, Int.reduceLT, reduceIte, Int.cast_ofNat_Int, Int.natCast_zero, Int.natCast_one, Int.reduceAdd, eq_self, Int.reduceSub, List.length_cons, List.length_nil, xli_m1, xli_0, xli_1, xli_2, xli_3, xli_4, xli_5, xlb_8, xlb_12, xlb_31, xlb_32, xlb_64, xls_256, xls_513, xls_2048, xls_4096, xll_0, xll_1, xnr_i, xnr_0, xnr_1, xnr_ite, xft_i, xft_0, xft_1, xat_999, xat_1001, xat_1002, xat_1003, xat_2001, xat_2002, xat_2003, List.getElem?_cons_succ, List.getElem?_cons_zero, xfn_0, xfn_1, xfn_2, xfn_3, x10, x01, not_true_eq_false, false_implies, implies_true, true_implies, xrm_c, xrm_s, xnl_4, xnl_32, xnl_64, xnl_256, xtn_4, xtn_32, xtn_64, xtn_256, Option.some.injEq, Sum.inl.injEq, Sum.inr.injEq, exists_eq_left', exists_eq_right, Option.toList_some, Option.toList_none, List.cons_append, List.nil_append, xE, lg_cmp_ge, lg_cmp_le, lg_cmp_gt, lg_cmp_lt, lg_cmp_eq, Nat.le_refl, Nat.zero_le, ne_eq, Nat.add_zero, dM_lay_0, dM_lay_1, dM_lay_2, dM_lay_3, dM_lay_6, dM_lay_7, dM_lay_8, dM_lay_9, dM_lay_10, dM_lay_12, dM_lay_14, dM_lay_15, dM_lay_18, dM_lay_21, dM_lay_22, dM_lay_25, dM_lay_27, dM_lay_28, dM_lay_29, dM_lay_32, dM_lay_35, dM_lay_36, dM_lay_39, dM_lay_41, dM_lay_42, dM_lay_43, dM_lay_44, dM_lay_47, dM_lay_49, dM_lay_50, dM_lay_51, dM_lay_54, dM_lay_55, dM_lay_56, dM_lay_59, dM_lay_61, dM_lay_62, dM_lay_63, dM_lay_65, dM_lay_66, dM_lay_69, dM_lay_71, dM_lay_73, dM_lay_74, dM_lay_76, dM_lay_77, dM_lay_78, dM_lay_80, dM_lay_81, dM_lay_82, dM_lay_83, dM_lay_86, dM_lay_88, dM_lay_89, dM_lay_92, dM_lay_94, dM_lay_95, dM_lay_96, dM_lay_99, dM_lay_101, dM_lay_102, dM_lay_105, dM_lay_106, dM_lay_109, dM_lay_111, dM_lay_112, dM_lay_115, dM_lay_116, dM_lay_119, dM_lay_121, dM_lay_122, dM_lay_123, dM_lay_124, dM_lay_125, dM_lay_128, dM_lay_130, dM_lay_131, dM_lay_132, dM_lay_133, dM_lay_136, dM_lay_139, dM_lay_140, dM_lay_143, dM_lay_144, dM_lay_145, dM_lay_146, dM_lay_147, xf_4_35, xf_4_91, xf_4_44, xf_4_68, xf_4_41, xf_4_53, xf_4_71, xf_4_47, xf_4_50, xf_4_38, hmo, hs, r13, c13, l13, n13, r14, c14, l14, n14, r15, c15, l15, n15, r16, c16, l16, n16, r17, c17, l17, n17, r22, c22, l22, n22, r23, c23, l23, n23, ink, e0, ele, v13, v14, v16, v17, e14, hq, e13', x13, x15, x16, x17, y16, esh, ez, er1, er2, er3, xi_same, ele2, xc_pi, xl_pi, xr_pi, nI_add]
      refine ⟨fun z => fin _ ?_, fun z => fin _ ?_⟩ <;> omega
    · have v15 := h.v15 hkl h4
      have esz : msz M k a = M 15 k := by unfold msz; rw [if_neg h4]
      refine xrun_ok hV [133] 60 _ _ _ _ _ _ ?_
      simp (maxDischargeDepth := 60) only [xrun, xisc, ↓xstep, xget, xtgt, xcmp, xacmp, xprev, xisR, xnt, List.set, List.length, xsw, xlk, true_or, or_true, if_true, if_false, true_and, and_true, List.mem_cons, List.not_mem_nil, or_false, false_or, Bool.false_eq_true, reduceCtorEq, not_false_eq_true, forall_const, Nat.zero_add, Nat.reduceAdd, Nat.reduceSub, Int.reduceAdd, Int.reduceNeg, Int.reduceToNat, Nat.reduceEqDiff, Nat.reduceLT, Nat.reduceLeDiff, Int.reduceLE, Int.reduceLT, reduceIte, Int.cast_ofNat_Int, Int.natCast_zero, Int.natCast_one, Int.reduceAdd, eq_self, Int.reduceSub, List.length_cons, List.length_nil, xli_m1, xli_0, xli_1, xli_2, xli_3, xli_4, xli_5, xlb_8, xlb_12, xlb_31, xlb_32, xlb_64, xls_256, xls_513, xls_2048, xls_4096, xll_0, xll_1, xnr_i, xnr_0, xnr_1, xnr_ite, xft_i, xft_0, xft_1, xat_999, xat_1001, xat_1002, xat_1003, xat_2001, xat_2002, xat_2003, List.getElem?_cons_succ, List.getElem?_cons_zero, xfn_0, xfn_1, xfn_2, xfn_3, x10, x01, not_true_eq_false, false_implies, implies_true, true_implies, xrm_c, xrm_s, xnl_4, xnl_32, xnl_64, xnl_256, xtn_4, xtn_32, xtn_64, xtn_256, Option.some.injEq, Sum.inl.injEq, Sum.inr.injEq, exists_eq_left', exists_eq_right, Option.toList_some, Option.toList_none, List.cons_append, List.nil_append, xE, lg_cmp_ge, lg_cmp_le, lg_cmp_gt, lg_cmp_lt, lg_cmp_eq, Nat.le_refl, Nat.zero_le, ne_eq, Nat.add_zero, dM_lay_0, dM_lay_1, dM_lay_2, dM_lay_3, dM_lay_6, dM_lay_7, dM_lay_8, dM_lay_9, dM_lay_10, dM_lay_12, dM_lay_14, dM_lay_15, dM_lay_18, dM_lay_21, dM_lay_22, dM_lay_25, dM_lay_27, dM_lay_28, dM_lay_29, dM_lay_32, dM_lay_35, dM_lay_36, dM_lay_39, dM_lay_41, dM_lay_42, dM_lay_43, dM_lay_44, dM_lay_47, dM_lay_49, dM_lay_50, dM_lay_51, dM_lay_54, dM_lay_55, dM_lay_56, dM_lay_59, dM_lay_61, dM_lay_62, dM_lay_63, dM_lay_65, dM_lay_66, dM_lay_69, dM_lay_71, dM_lay_73, dM_lay_74, dM_lay_76, dM_lay_77, dM_lay_78, dM_lay_80, dM_lay_81, dM_lay_82, dM_lay_83, dM_lay_86, dM_lay_88, dM_lay_89, dM_lay_92, dM_lay_94, dM_lay_95, dM_lay_96, dM_lay_99, dM_lay_101, dM_lay_102, dM_lay_105, dM_lay_106, dM_lay_109, dM_lay_111, dM_lay_112, dM_lay_115, dM_lay_116, dM_lay_119, dM_lay_121, dM_lay_122, dM_lay_123, dM_lay_124, dM_lay_125, dM_lay_128, dM_lay_130, dM_lay_131, dM_lay_132, dM_lay_133, dM_lay_136, dM_lay_139, dM_lay_140, dM_lay_143, dM_lay_144, dM_lay_145, dM_lay_146, dM_lay_147, xf_4_35, xf_4_91, xf_4_44, xf_4_68, xf_4_41, xf_4_53, xf_4_71, xf_4_47, xf_4_50, xf_4_38, hmo, hs, r13, c13, l13, n13, r14, c14, l14, n14, r15, c15, l15, n15, r16, c16, l16, n16, r17, c17, l17, n17, r22, c22, l22, n22, r23, c23, l23, n23, ink, e0, ele, v13, v14, v15, e14, hq, e13, h4, x13, x15, xc_pi, xl_pi, xr_pi, nI_add]
      refine next _ _ _ (by rw [em, esz]) g22 hF1 (keep _ _ _ (by decide) hL) ?_ (fun j hj hq2 => ?_)
      · rw [hS.xo 10 22 rfl rfl (by decide)]; exact h10
      · unfold cK
        rw [hS.xo 15 22 rfl rfl (by decide), hS.xo 23 22 rfl rfl (by decide)]
        by_cases z : j = k
        · subst z
          rw [xi_same, hA, esz]
          exact ⟨rfl, v15, fun w => absurd w h4⟩
        · obtain ⟨k1, k2, k3⟩ := hD j (by omega) hq2
          refine ⟨?_, k2, k3⟩
          rw [xi_pi, if_neg (fun w => z w.2)]; exact k1
set_option maxHeartbeats 4000000 in
set_option maxRecDepth 100000 in
theorem d_lay (h : rF S mo A M) {p b : Nat} (hp : p < M 4 0) (hb : mlay M p b (M 12 0) ≤ 1074937820) : xMet l D n0 mM_lay 0 0 [.inr (.inr (some mo)), .inl (nI p), .inl (nI b)] S (fun r S' => r = some (.inl (nI (mlay M p b (M 12 0)))) ∧ rF S' mo A M ∧ xFr tM S S' ∧ lSame S S' A M p ∧ xi S' (A 10) p = nI b ∧ (∀ j, j < M 12 0 → M 14 j = p → cK S' A M j (mlay M p b j)) ∧ xi S' (A 11) p = nI (mlay M p b (M 12 0))) := by
  have hmo := h.mo
  have hS := h.2.1
  have hw := h.1.1.2.1
  have r10 : xr S mo 10 = some (A 10) := h.ar 10 rfl
  have c10 : xc S (A 10) = 1002 := h.tg 10 rfl
  have l10 : xl S (A 10) = 32 := h.ln 10 rfl
  have n10 : (mo = A 10) = False := eq_false (fun e => h.nm (f := 10) rfl e.symm)
  refine xMet.of (k := mM_lay) (own := 4) (ini := false) xm_M_lay (by decide +kernel) (by decide +kernel) (by decide) (Nat.le_of_ble_eq_true rfl) ?_
  intro V hV
  show V 0 [some (.inr (.inr (some mo))), some (.inl (nI p)), some (.inl (nI b)), none, none, none] [] S 0 0
  have inp : vp_in (nI p) 32 := vp_in_nI (by omega) (by decide)
  have e0 : (nI p).toNatClampNeg = p := nI_clamp (by omega)
  refine xrun_ok hV [12] 20 _ _ _ _ _ _ ?_
  simp (maxDischargeDepth := 60) only [xrun, xisc, ↓xstep, xget, xtgt, xcmp, xacmp, xprev, xisR, xnt, List.set, List.length, xsw, xlk, true_or, or_true, if_true, if_false, true_and, and_true, List.mem_cons, List.not_mem_nil, or_false, false_or, Bool.false_eq_true, reduceCtorEq, not_false_eq_true, forall_const, Nat.zero_add, Nat.reduceAdd, Nat.reduceSub, Int.reduceAdd, Int.reduceNeg, Int.reduceToNat, Nat.reduceEqDiff, Nat.reduceLT, Nat.reduceLeDiff, Int.reduceLE, Int.reduceLT, reduceIte, Int.cast_ofNat_Int, Int.natCast_zero, Int.natCast_one, Int.reduceAdd, eq_self, Int.reduceSub, List.length_cons, List.length_nil, xli_m1, xli_0, xli_1, xli_2, xli_3, xli_4, xli_5, xlb_8, xlb_12, xlb_31, xlb_32, xlb_64, xls_256, xls_513, xls_2048, xls_4096, xll_0, xll_1, xnr_i, xnr_0, xnr_1, xnr_ite, xft_i, xft_0, xft_1, xat_999, xat_1001, xat_1002, xat_1003, xat_2001, xat_2002, xat_2003, List.getElem?_cons_succ, List.getElem?_cons_zero, xfn_0, xfn_1, xfn_2, xfn_3, x10, x01, not_true_eq_false, false_implies, implies_true, true_implies, xrm_c, xrm_s, xnl_4, xnl_32, xnl_64, xnl_256, xtn_4, xtn_32, xtn_64, xtn_256, Option.some.injEq, Sum.inl.injEq, Sum.inr.injEq, exists_eq_left', exists_eq_right, Option.toList_some, Option.toList_none, List.cons_append, List.nil_append, xE, lg_cmp_ge, lg_cmp_le, lg_cmp_gt, lg_cmp_lt, lg_cmp_eq, Nat.le_refl, Nat.zero_le, ne_eq, Nat.add_zero, dM_lay_0, dM_lay_1, dM_lay_2, dM_lay_3, dM_lay_6, dM_lay_7, dM_lay_8, dM_lay_9, dM_lay_10, dM_lay_12, dM_lay_14, dM_lay_15, dM_lay_18, dM_lay_21, dM_lay_22, dM_lay_25, dM_lay_27, dM_lay_28, dM_lay_29, dM_lay_32, dM_lay_35, dM_lay_36, dM_lay_39, dM_lay_41, dM_lay_42, dM_lay_43, dM_lay_44, dM_lay_47, dM_lay_49, dM_lay_50, dM_lay_51, dM_lay_54, dM_lay_55, dM_lay_56, dM_lay_59, dM_lay_61, dM_lay_62, dM_lay_63, dM_lay_65, dM_lay_66, dM_lay_69, dM_lay_71, dM_lay_73, dM_lay_74, dM_lay_76, dM_lay_77, dM_lay_78, dM_lay_80, dM_lay_81, dM_lay_82, dM_lay_83, dM_lay_86, dM_lay_88, dM_lay_89, dM_lay_92, dM_lay_94, dM_lay_95, dM_lay_96, dM_lay_99, dM_lay_101, dM_lay_102, dM_lay_105, dM_lay_106, dM_lay_109, dM_lay_111, dM_lay_112, dM_lay_115, dM_lay_116, dM_lay_119, dM_lay_121, dM_lay_122, dM_lay_123, dM_lay_124, dM_lay_125, dM_lay_128, dM_lay_130, dM_lay_131, dM_lay_132, dM_lay_133, dM_lay_136, dM_lay_139, dM_lay_140, dM_lay_143, dM_lay_144, dM_lay_145, dM_lay_146, dM_lay_147, xf_4_35, xf_4_91, xf_4_44, xf_4_68, xf_4_41, xf_4_53, xf_4_71, xf_4_47, xf_4_50, xf_4_38, hmo, r10, c10, l10, n10, inp, e0]
  refine lay_loop (S0 := S) hp hb hV (fun S' g1 g2 g3 g4 g5 g6 => ⟨rfl, g1, g2, g3, g4, g5, g6⟩) (M 12 0) 0 _ (Nat.zero_le _) (by omega) (h.free (f := 10) rfl trivial) (xFr.ar hS (f := 10) rfl _ _) ?_ (xi_same _ _ _ _) (fun j hj => absurd hj (by omega))
  intro f j hf hT
  rw [xi_pi, if_neg (fun z => hT (Or.inr ⟨Or.inl (hS.2.2 f 10 hf rfl z.1), z.2⟩))]
end LAY
