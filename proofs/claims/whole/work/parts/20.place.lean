/-! THE CLASS: places -/
def xCp (ar : Nat → Nat) (S : xS) (b j : Nat) : Prop := (xc S b = 2 ∧ (j = 5 ∨ j = 6)) ∨ (xc S b = 3 ∧ (j = 9 ∨ j = 10 ∨ (j = 8 ∧ xi S b 0 = nI 4))) ∨ b = ar 4 ∨ b = ar 5
/-- only what is reckoned anew has changed -/
def xCa (ar : Nat → Nat) (S S' : xS) : Prop := xn S' = xn S ∧ xc S' = xc S ∧ xl S' = xl S ∧ xr S' = xr S ∧ ∀ b j, ¬ xCp ar S b j → xi S' b j = xi S b j
theorem xCa.rf (ar : Nat → Nat) (S : xS) : xCa ar S S := ⟨rfl, rfl, rfl, rfl, fun _ _ _ => rfl⟩
theorem xCa.pi {ar : Nat → Nat} {S : xS} {a k : Nat} {x : Int32} (h : xCp ar S a k) : xCa ar S (xpi S a k x) := by
  refine ⟨rfl, rfl, rfl, rfl, fun b j hb => ?_⟩
  rw [xi_pi, if_neg]
  rintro ⟨rfl, rfl⟩
  exact hb h
section PLACE
variable {l : Launch} {D : va_G} {n0 : Nat} {S S' : xS} {th : Nat} {ar pa qa la : Nat → Nat} {M : mT}
theorem xCa.tr {S1 : xS} (h : rC S th ar pa qa la M) (h1 : xCa ar S S1) (h2 : xCa ar S1 S') : xCa ar S S' := by
  obtain ⟨a1, a2, a3, a4, a5⟩ := h1
  obtain ⟨b1, b2, b3, b4, b5⟩ := h2
  refine ⟨b1.trans a1, b2.trans a2, b3.trans a3, b4.trans a4, fun b j hb => ?_⟩
  rw [b5 b j (fun z => hb ?_), a5 b j hb]
  rcases z with ⟨z1, z2⟩ | ⟨z1, z2⟩ | z
  · exact Or.inl ⟨by rw [← a2]; exact z1, z2⟩
  · refine Or.inr (Or.inl ⟨by rw [← a2]; exact z1, ?_⟩)
    rcases z2 with z2 | z2 | ⟨z2, z3⟩
    · exact Or.inl z2
    · exact Or.inr (Or.inl z2)
    · refine Or.inr (Or.inr ⟨z2, ?_⟩)
      rw [← z3]
      refine (a5 b 0 (fun w => ?_)).symm
      rcases w with ⟨w1, w2⟩ | ⟨w1, w2⟩ | w
      · omega
      · omega
      · rw [a2] at z1
        have c4 := h.2.1.2.2.1.2.2.2.2.1
        have c5 := h.2.1.2.2.1.2.2.2.2.2
        rcases w with w | w
        · rw [w] at z1; rw [z1] at c4; cases c4
        · rw [w] at z1; rw [z1] at c5; cases c5
  · exact Or.inr (Or.inr z)
theorem rC.ca (h : rC S th ar pa qa la M) (hc : xCa ar S S') : rC S' th ar pa qa la M := by
  obtain ⟨a1, a2, a3, a4, a5⟩ := hc
  obtain ⟨hW, hT, hA, hP, hQ, hB, i⟩ := h
  obtain ⟨⟨t1, t2⟩, t3, ⟨c0, c1, c2, c3, c4, c5⟩, t4, t5, ⟨t6, t7, t8, t9⟩, t10⟩ := hT
  have no : ∀ b j t, xc S b = t → t ≠ 2 → t ≠ 3 → b ≠ ar 4 → b ≠ ar 5 → xi S' b j = xi S b j := by
    intro b j t hb h2 h3 h4 h5
    refine a5 b j (fun z => ?_)
    rcases z with ⟨z1, -⟩ | ⟨z1, -⟩ | z | z
    · exact h2 (hb.symm.trans z1)
    · exact h3 (hb.symm.trans z1)
    · exact h4 z
    · exact h5 z
  have nth : ∀ j, xi S' th j = xi S th j := fun j => no th j 4 t1 (by decide) (by decide) (xne t1 c4 (by decide)) (xne t1 c5 (by decide))
  have nB : ∀ q, q < M 25 0 → ∀ j, xi S' (la q) j = xi S (la q) j := fun q hq j => no _ j 1 (hB q hq).1.1 (by decide) (by decide) (xne (hB q hq).1.1 c4 (by decide)) (xne (hB q hq).1.1 c5 (by decide))
  have nP : ∀ p, p < M 4 0 → ∀ j, j ≠ 5 → j ≠ 6 → xi S' (pa p) j = xi S (pa p) j := by
    intro p hp j h5 h6
    have hc := (hP p hp).1.1
    refine a5 _ j (fun z => ?_)
    rcases z with ⟨-, z | z⟩ | ⟨z1, -⟩ | z | z
    · exact h5 z
    · exact h6 z
    · rw [hc] at z1; cases z1
    · exact xne hc c4 (by decide) z
    · exact xne hc c5 (by decide) z
  have nQ : ∀ k, k < M 12 0 → ∀ j, j ≠ 9 → j ≠ 10 → (j = 8 → M 13 k ≠ 4) → xi S' (qa k) j = xi S (qa k) j := by
    intro k hk j h9 h10 h8
    have hc := (hQ k hk).1.1
    have h0 := (hQ k hk).2.1.1
    have hw := (hW.2.2.2.1 k hk).1
    refine a5 _ j (fun z => ?_)
    rcases z with ⟨z1, -⟩ | ⟨-, z | z | ⟨z1, z2⟩⟩ | z | z
    · rw [hc] at z1; cases z1
    · exact h9 z
    · exact h10 z
    · rw [h0] at z2
      exact h8 z1 ((nI_eq (by omega) (by decide)).mp z2)
    · exact xne hc c4 (by decide) z
    · exact xne hc c5 (by decide) z
  refine ⟨hW, ⟨⟨by rw [a2]; exact t1, by omega⟩, fun f hf => by rw [a4, a1]; exact t3 f hf, by rw [a2]; exact ⟨c0, c1, c2, c3, c4, c5⟩, by rw [a3]; exact t4, t5, ⟨by rw [nth]; exact t6, by rw [nth]; exact t7, by rw [nth]; exact t8, by rw [nth]; exact t9⟩, fun o ho => by rw [no _ o 1001 c3 (by decide) (by decide) t5.1 t5.2.1]; exact t10 o ho⟩, ⟨by rw [a4]; exact hA.1, by rw [a4]; exact hA.2.1, by rw [a4]; exact hA.2.2⟩, fun p hp => ?_, fun k hk => ?_, fun j hj => ?_, i⟩
  · have r := hP p hp
    unfold rP
    rw [a1, a2, a4, nP p hp 0 (by decide) (by decide), nP p hp 1 (by decide) (by decide), nP p hp 2 (by decide) (by decide), nP p hp 3 (by decide) (by decide), nP p hp 4 (by decide) (by decide)]
    exact r
  · have r := hQ k hk
    have e8 : (M 13 k ≠ 4 → xi S' (qa k) 8 = nI (M 15 k)) := fun z => by rw [nQ k hk 8 (by decide) (by decide) (fun _ => z)]; exact r.2.2.1 z
    unfold rQ
    rw [a1, a2, a4, nQ k hk 0 (by decide) (by decide) (by omega), nQ k hk 3 (by decide) (by decide) (by omega), nQ k hk 4 (by decide) (by decide) (by omega), nQ k hk 5 (by decide) (by decide) (by omega), nQ k hk 6 (by decide) (by decide) (by omega), nQ k hk 7 (by decide) (by decide) (by omega), nQ k hk 11 (by decide) (by decide) (by omega)]
    exact ⟨r.1, r.2.1, e8, r.2.2.2⟩
  · have r := hB j hj
    unfold rB
    rw [a1, a2, a4, nB j hj]
    exact r
theorem xCa.fr (h : rC S th ar pa qa la M) (hc : xCa ar S S') : xFr tC S S' := by
  obtain ⟨a1, a2, a3, a4, a5⟩ := hc
  refine ⟨by omega, fun b hb => ⟨by rw [a2], by rw [a3], fun ht k => ⟨a5 b k (fun z => ?_), by rw [a4]⟩⟩⟩
  rcases z with ⟨z, -⟩ | ⟨z, -⟩ | z | z
  · rw [z] at ht; cases ht
  · rw [z] at ht; cases ht
  · rw [z, h.2.1.2.2.1.2.2.2.2.1] at ht; cases ht
  · rw [z, h.2.1.2.2.1.2.2.2.2.2] at ht; cases ht
theorem mnx_first {M : mT} {p : Nat} : ∀ (d k j : Nat), mnx M p k d = some j → ∀ i, k ≤ i → i < j → M 14 i ≠ p
  | 0, k, j, h => by cases h
  | d + 1, k, j, h => by
    rw [mnx] at h
    by_cases z : M 14 k = p
    · rw [if_pos z] at h
      cases h
      intro i h1 h2
      omega
    · rw [if_neg z] at h
      intro i h1 h2
      by_cases e : i = k
      · rw [e]; exact z
      · exact mnx_first d (k + 1) j h i (by omega) h2
theorem mlay_skip {M : mT} {p b : Nat} : ∀ (d k : Nat), (∀ i, k ≤ i → i < k + d → M 14 i ≠ p) → mlay M p b (k + d) = mlay M p b k
  | 0, k, _ => rfl
  | d + 1, k, h => by
    rw [← Nat.add_assoc, mlay, if_neg (h (k + d) (by omega) (by omega))]
    exact mlay_skip d k (fun i h1 h2 => h i h1 (by omega))
/-- the pieces of part p below k have their places, all else is as it was -/
def rL (S0 : xS) (pa qa : Nat → Nat) (M : mT) (p b k : Nat) (S : xS) : Prop :=
  (∀ j, j < k → j < M 12 0 → M 14 j = p → xi S (qa j) 9 = nI (mlay M p b j) ∧ xi S (qa j) 8 = nI (msz M j (mlay M p b j))) ∧ (∀ c j, c ≠ pa p → (∀ q, q < M 12 0 → M 14 q = p → c ≠ qa q) → xi S c j = xi S0 c j) ∧ xi S (pa p) 5 = nI b
set_option maxHeartbeats 4000000 in
set_option maxRecDepth 100000 in
theorem placePart_end {p b f : Nat} (hb : mlay M p b (M 12 0) ≤ 1074937820) (hp : p < M 4 0) {S0 : xS} (h0 : rC S0 th ar pa qa la M) {V : xKt} {Q : Option xVal → xS → Prop}
    (hV : xCl l D n0 3 cS_placePart false (some .int) (xrm mS_placePart 0 0) V (xE 0 0 Q))
    (hQ : ∀ S, xCa ar S0 S → rL S0 pa qa M p b (M 12 0) S → xi S (pa p) 6 = nI (mlay M p b (M 12 0)) → Q (some (.inl (nI (mlay M p b (M 12 0))))) S)
    (k : Nat) (S : xS) (hk : k ≤ M 12 0) (hc : xCa ar S0 S) (hL : rL S0 pa qa M p b k S) (hm : mnx M p k (M 12 0 - k) = none) : V 21 [some (.inr (.inr (some (pa p)))), some (.inl (nI f)), some (.inl (nI (mlay M p b k))), some (.inr (.inr ((mnx M p k (M 12 0 - k)).map qa)))] [] S 0 0 := by
  have h := h0.ca hc
  have p1 := (h.2.2.2.1 p hp).1.1
  have hnone := (mnx_none_iff _ _).mp hm
  have hsk := mlay_skip (M := M) (p := p) (b := b) (M 12 0 - k) k (fun i h1 h2 => hnone i h1 h2)
  rw [show k + (M 12 0 - k) = M 12 0 by omega] at hsk
  rw [hm, ← hsk, Option.map_none]
  refine xrun_ok hV [] 20 _ _ _ _ _ _ ?_
  simp (maxDischargeDepth := 60) only [xrun, xisc, ↓xstep, xget, xtgt, xcmp, xacmp, xprev, xisR, xnt, List.set, List.length, xsw, xlk, true_or, or_true, if_true, if_false, true_and, and_true, List.mem_cons, List.not_mem_nil, or_false, false_or, Bool.false_eq_true, reduceCtorEq, not_false_eq_true, forall_const, Nat.zero_add, Nat.reduceAdd, Nat.reduceSub, Int.reduceAdd, Int.reduceNeg, Int.reduceToNat, Nat.reduceEqDiff, Nat.reduceLT, Nat.reduceLeDiff, Int.reduceLE, Int.reduceLT, reduceIte, Int.cast_ofNat_Int, Int.natCast_zero, Int.natCast_one, Int.reduceAdd, eq_self, Int.reduceSub, List.length_cons, List.length_nil, xli_m1, xli_0, xli_1, xli_2, xli_3, xli_4, xli_5, xlb_8, xlb_12, xlb_31, xlb_32, xlb_64, xls_256, xls_513, xls_2048, xls_4096, xll_0, xll_1, xnr_i, xnr_0, xnr_1, xnr_ite, xft_i, xft_0, xft_1, xat_999, xat_1001, xat_1002, xat_1003, xat_2001, xat_2002, xat_2003, List.getElem?_cons_succ, List.getElem?_cons_zero, xfn_0, xfn_1, xfn_2, xfn_3, x10, x01, not_true_eq_false, false_implies, implies_true, true_implies, xrm_c, xrm_s, xnl_4, xnl_32, xnl_64, xnl_256, xtn_4, xtn_32, xtn_64, xtn_256, Option.some.injEq, Sum.inl.injEq, Sum.inr.injEq, exists_eq_left', exists_eq_right, Option.toList_some, Option.toList_none, List.cons_append, List.nil_append, xE, lg_cmp_ge, lg_cmp_le, lg_cmp_gt, lg_cmp_lt, lg_cmp_eq, Nat.le_refl, Nat.zero_le, ne_eq, Nat.add_zero, dS_placePart_0, dS_placePart_1, dS_placePart_2, dS_placePart_3, dS_placePart_6, dS_placePart_9, dS_placePart_10, dS_placePart_11, dS_placePart_12, dS_placePart_13, dS_placePart_16, dS_placePart_17, dS_placePart_20, dS_placePart_21, dS_placePart_22, dS_placePart_25, dS_placePart_26, dS_placePart_27, dS_placePart_30, dS_placePart_31, dS_placePart_34, dS_placePart_35, dS_placePart_38, dS_placePart_39, dS_placePart_40, dS_placePart_41, dS_placePart_44, dS_placePart_47, dS_placePart_48, dS_placePart_51, dS_placePart_54, dS_placePart_57, dS_placePart_58, dS_placePart_59, dS_placePart_62, dS_placePart_63, dS_placePart_64, dS_placePart_65, dS_placePart_68, dS_placePart_69, dS_placePart_72, dS_placePart_73, dS_placePart_74, dS_placePart_77, dS_placePart_78, xf_3_207, xf_3_177, xf_3_208, xf_3_151, xf_3_86, xf_3_154, xf_3_89, xf_3_135, xf_3_216, xf_3_180, p1, xc_pi]
  refine hQ _ (xCa.tr h0 hc (xCa.pi (Or.inl ⟨p1, Or.inr rfl⟩))) ⟨fun j h1 h2 h3 => ?_, fun c j h1 h2 => ?_, ?_⟩ ?_
  · have hne : qa j ≠ pa p := h.nQ h2 p1 (by decide)
    rw [xi_pi, if_neg (fun z => hne z.1), xi_pi, if_neg (fun z => hne z.1)]
    by_cases e : j < k
    · exact hL.1 j e h2 h3
    · exact absurd h3 (hnone j (by omega) (by omega))
  · rw [xi_pi, if_neg (fun z => h1 z.1)]
    exact hL.2.1 c j h1 h2
  · rw [xi_pi, if_neg (by simp)]
    exact hL.2.2
  · rw [xi_pi, if_pos ⟨rfl, rfl⟩]
set_option maxHeartbeats 4000000 in
set_option maxRecDepth 100000 in
theorem placePart_loop {p b f : Nat} (hb : mlay M p b (M 12 0) ≤ 1074937820) (hp : p < M 4 0) {S0 : xS} (h0 : rC S0 th ar pa qa la M) {V : xKt} {Q : Option xVal → xS → Prop}
    (hV : xCl l D n0 3 cS_placePart false (some .int) (xrm mS_placePart 0 0) V (xE 0 0 Q))
    (hQ : ∀ S, xCa ar S0 S → rL S0 pa qa M p b (M 12 0) S → xi S (pa p) 6 = nI (mlay M p b (M 12 0)) → Q (some (.inl (nI (mlay M p b (M 12 0))))) S) :
    ∀ (n k : Nat) (S : xS), k ≤ M 12 0 → M 12 0 - k ≤ n → xCa ar S0 S → rL S0 pa qa M p b k S → V 21 [some (.inr (.inr (some (pa p)))), some (.inl (nI f)), some (.inl (nI (mlay M p b k))), some (.inr (.inr ((mnx M p k (M 12 0 - k)).map qa)))] [] S 0 0 := by
  intro n
  induction n with
  | zero =>
    intro k S hk hn hc hL
    have : k = M 12 0 := by omega
    subst this
    exact placePart_end hb hp h0 hV hQ _ S (Nat.le_refl _) hc hL (by rw [Nat.sub_self]; rfl)
  | succ n ih =>
    intro k S hk hn hc hL
    cases hm : mnx M p k (M 12 0 - k) with
    | none =>
      have := placePart_end (f := f) hb hp h0 hV hQ k S hk hc hL hm
      rw [hm] at this
      exact this
    | some j =>
      have h := h0.ca hc
      obtain ⟨j1, j2, j3⟩ := mnx_lt _ _ _ hm
      have hj : j < M 12 0 := by omega
      have hsk : mlay M p b j = mlay M p b k := by
        have := mlay_skip (M := M) (p := p) (b := b) (j - k) k (fun i h1 h2 => mnx_first _ _ _ hm i h1 (by omega))
        rw [show k + (j - k) = j by omega] at this
        exact this
      have hla : mlay M p b (j + 1) = mlay M p b j + msz M j (mlay M p b j) := by rw [mlay, if_pos j3]
      have hle : mlay M p b (j + 1) ≤ 1074937820 := by
        have := mlay_mono M p b (j + 1) (M 12 0 - (j + 1))
        rw [show j + 1 + (M 12 0 - (j + 1)) = M 12 0 by omega] at this
        omega
      rw [← hsk, Option.map_some]
      obtain ⟨⟨q1, q2⟩, ⟨q3, -, -, -, -, q4, q5, -⟩, q6, -, q7⟩ := h.2.2.2.2.1 j hj
      have hw := h.1.2.2.2.1 j hj
      have hx4 : (nI (M 13 j) = 4) = (M 13 j = 4) := propext (nI_eq (b := 4) (by omega) (by decide))
      have hnx : (mnext M j).map qa = (mnx M p (j + 1) (M 12 0 - (j + 1))).map qa := by unfold mnext; rw [j3]
      rw [hnx] at q7
      have hcp : ∀ S1 : xS, xc S1 (qa j) = 3 → xCp ar S1 (qa j) 9 := fun S1 hS => Or.inr (Or.inl ⟨hS, Or.inl rfl⟩)
      have hne : qa j ≠ pa p := h.nQ hj (h.2.2.2.1 p hp).1.1 (by decide)
      -- behind the piece
      have step : ∀ S1 : xS, xCa ar S0 S1 → (∀ i, i < k → i < M 12 0 → M 14 i = p → xi S1 (qa i) 9 = xi S (qa i) 9 ∧ xi S1 (qa i) 8 = xi S (qa i) 8) → (∀ c i, c ≠ qa j → xi S1 c i = xi S c i) → xi S1 (qa j) 9 = nI (mlay M p b j) → xi S1 (qa j) 8 = nI (msz M j (mlay M p b j)) → V 57 [some (.inr (.inr (some (pa p)))), some (.inl (nI f)), some (.inl (nI (mlay M p b j))), some (.inr (.inr (some (qa j))))] [] S1 0 0 := by
        intro S1 hc1 e1 e2 e3 e4
        have hh := h0.ca hc1
        have r1 := (hh.2.2.2.2.1 j hj).1.1
        have r2 : xr S1 (qa j) 12 = (mnx M p (j + 1) (M 12 0 - (j + 1))).map qa := by rw [hc1.2.2.2.1, ← hc.2.2.2.1]; exact q7
        refine xrun_ok hV [21] 20 _ _ _ _ _ _ ?_
        simp (maxDischargeDepth := 60) only [xrun, xisc, ↓xstep, xget, xtgt, xcmp, xacmp, xprev, xisR, xnt, List.set, List.length, xsw, xlk, true_or, or_true, if_true, if_false, true_and, and_true, List.mem_cons, List.not_mem_nil, or_false, false_or, Bool.false_eq_true, reduceCtorEq, not_false_eq_true, forall_const, Nat.zero_add, Nat.reduceAdd, Nat.reduceSub, Int.reduceAdd, Int.reduceNeg, Int.reduceToNat, Nat.reduceEqDiff, Nat.reduceLT, Nat.reduceLeDiff, Int.reduceLE, Int.reduceLT, reduceIte, Int.cast_ofNat_Int, Int.natCast_zero, Int.natCast_one, Int.reduceAdd, eq_self, Int.reduceSub, List.length_cons, List.length_nil, xli_m1, xli_0, xli_1, xli_2, xli_3, xli_4, xli_5, xlb_8, xlb_12, xlb_31, xlb_32, xlb_64, xls_256, xls_513, xls_2048, xls_4096, xll_0, xll_1, xnr_i, xnr_0, xnr_1, xnr_ite, xft_i, xft_0, xft_1, xat_999, xat_1001, xat_1002, xat_1003, xat_2001, xat_2002, xat_2003, List.getElem?_cons_succ, List.getElem?_cons_zero, xfn_0, xfn_1, xfn_2, xfn_3, x10, x01, not_true_eq_false, false_implies, implies_true, true_implies, xrm_c, xrm_s, xnl_4, xnl_32, xnl_64, xnl_256, xtn_4, xtn_32, xtn_64, xtn_256, Option.some.injEq, Sum.inl.injEq, Sum.inr.injEq, exists_eq_left', exists_eq_right, Option.toList_some, Option.toList_none, List.cons_append, List.nil_append, xE, lg_cmp_ge, lg_cmp_le, lg_cmp_gt, lg_cmp_lt, lg_cmp_eq, Nat.le_refl, Nat.zero_le, ne_eq, Nat.add_zero, dS_placePart_0, dS_placePart_1, dS_placePart_2, dS_placePart_3, dS_placePart_6, dS_placePart_9, dS_placePart_10, dS_placePart_11, dS_placePart_12, dS_placePart_13, dS_placePart_16, dS_placePart_17, dS_placePart_20, dS_placePart_21, dS_placePart_22, dS_placePart_25, dS_placePart_26, dS_placePart_27, dS_placePart_30, dS_placePart_31, dS_placePart_34, dS_placePart_35, dS_placePart_38, dS_placePart_39, dS_placePart_40, dS_placePart_41, dS_placePart_44, dS_placePart_47, dS_placePart_48, dS_placePart_51, dS_placePart_54, dS_placePart_57, dS_placePart_58, dS_placePart_59, dS_placePart_62, dS_placePart_63, dS_placePart_64, dS_placePart_65, dS_placePart_68, dS_placePart_69, dS_placePart_72, dS_placePart_73, dS_placePart_74, dS_placePart_77, dS_placePart_78, xf_3_207, xf_3_177, xf_3_208, xf_3_151, xf_3_86, xf_3_154, xf_3_89, xf_3_135, xf_3_216, xf_3_180, r1, r2, e4]
        rw [nI_add, ← hla]
        refine ih (j + 1) S1 (by omega) (by omega) hc1 ⟨fun i h1 h2 h3 => ?_, fun c i h1 h2 => ?_, ?_⟩
        · by_cases e : i = j
          · subst e; exact ⟨e3, e4⟩
          · by_cases e5 : i < k
            · obtain ⟨e6, e7⟩ := e1 i e5 h2 h3
              rw [e6, e7]
              exact hL.1 i e5 h2 h3
            · exact absurd h3 (mnx_first _ _ _ hm i (by omega) (by omega))
        · rw [e2 c i (h2 j hj j3)]
          exact hL.2.1 c i h1 h2
        · rw [e2 _ _ (Ne.symm hne)]
          exact hL.2.2
      have hS1 : xCa ar S0 (xpi S (qa j) 9 (nI (mlay M p b j))) := xCa.tr h0 hc (xCa.pi (hcp S q1))
      have hij : ∀ i, i < k → i < M 12 0 → qa i ≠ qa j := fun i h1 h2 z => by have := h.2.2.2.2.2.2.2.1 i j h2 hj z; omega
      refine xrun_ok hV [57] 30 _ _ _ _ _ _ ?_
      simp (maxDischargeDepth := 60) only [xrun, xisc, ↓xstep, xget, xtgt, xcmp, xacmp, xprev, xisR, xnt, List.set, List.length, xsw, xlk, true_or, or_true, if_true, if_false, true_and, and_true, List.mem_cons, List.not_mem_nil, or_false, false_or, Bool.false_eq_true, reduceCtorEq, not_false_eq_true, forall_const, Nat.zero_add, Nat.reduceAdd, Nat.reduceSub, Int.reduceAdd, Int.reduceNeg, Int.reduceToNat, Nat.reduceEqDiff, Nat.reduceLT, Nat.reduceLeDiff, Int.reduceLE, Int.reduceLT, reduceIte, Int.cast_ofNat_Int, Int.natCast_zero, Int.natCast_one, Int.reduceAdd, eq_self, Int.reduceSub, List.length_cons, List.length_nil, xli_m1, xli_0, xli_1, xli_2, xli_3, xli_4, xli_5, xlb_8, xlb_12, xlb_31, xlb_32, xlb_64, xls_256, xls_513, xls_2048, xls_4096, xll_0, xll_1, xnr_i, xnr_0, xnr_1, xnr_ite, xft_i, xft_0, xft_1, xat_999, xat_1001, xat_1002, xat_1003, xat_2001, xat_2002, xat_2003, List.getElem?_cons_succ, List.getElem?_cons_zero, xfn_0, xfn_1, xfn_2, xfn_3, x10, x01, not_true_eq_false, false_implies, implies_true, true_implies, xrm_c, xrm_s, xnl_4, xnl_32, xnl_64, xnl_256, xtn_4, xtn_32, xtn_64, xtn_256, Option.some.injEq, Sum.inl.injEq, Sum.inr.injEq, exists_eq_left', exists_eq_right, Option.toList_some, Option.toList_none, List.cons_append, List.nil_append, xE, lg_cmp_ge, lg_cmp_le, lg_cmp_gt, lg_cmp_lt, lg_cmp_eq, Nat.le_refl, Nat.zero_le, ne_eq, Nat.add_zero, dS_placePart_0, dS_placePart_1, dS_placePart_2, dS_placePart_3, dS_placePart_6, dS_placePart_9, dS_placePart_10, dS_placePart_11, dS_placePart_12, dS_placePart_13, dS_placePart_16, dS_placePart_17, dS_placePart_20, dS_placePart_21, dS_placePart_22, dS_placePart_25, dS_placePart_26, dS_placePart_27, dS_placePart_30, dS_placePart_31, dS_placePart_34, dS_placePart_35, dS_placePart_38, dS_placePart_39, dS_placePart_40, dS_placePart_41, dS_placePart_44, dS_placePart_47, dS_placePart_48, dS_placePart_51, dS_placePart_54, dS_placePart_57, dS_placePart_58, dS_placePart_59, dS_placePart_62, dS_placePart_63, dS_placePart_64, dS_placePart_65, dS_placePart_68, dS_placePart_69, dS_placePart_72, dS_placePart_73, dS_placePart_74, dS_placePart_77, dS_placePart_78, xf_3_207, xf_3_177, xf_3_208, xf_3_151, xf_3_86, xf_3_154, xf_3_89, xf_3_135, xf_3_216, xf_3_180, q1, q3, q4, q5, xc_pi, xi_pi, hx4]
      refine ⟨fun z => ?_, fun z => ?_⟩
      · refine step _ hS1 (fun i h1 h2 h3 => ⟨?_, ?_⟩) (fun c i h1 => ?_) ?_ ?_
        · rw [xi_pi, if_neg (fun w => hij i h1 h2 w.1)]
        · rw [xi_pi, if_neg (fun w => hij i h1 h2 w.1)]
        · rw [xi_pi, if_neg (fun w => h1 w.1)]
        · rw [xi_pi, if_pos ⟨rfl, rfl⟩]
        · rw [xi_pi, if_neg (by simp), q6 z, msz, if_neg z]
      · have q5' := q5 (by simp [maim, z])
        have hpd := mpad_lt (x := mlay M p b j) hw.2.2.2.2.2
        have hmo := h.1.2.2.2.2.2.2.1 j hj z
        refine hV.call [.inr (.inr (some (qa j)))] xh_3_157 dS_placePart_44 (c_bytes (xpi S (qa j) 9 (nI (mlay M p b j))) (x := mlay M p b j) (p := M 17 j) (by omega) hw.2.2.2.2.2) (Or.inl rfl) rfl rfl (Nat.le_of_ble_eq_true rfl) (by decide) (by decide) ?_
        rintro r S2 ⟨rfl, rfl⟩
        refine xrun_ok hV [57] 30 _ _ _ _ _ _ ?_
        simp (maxDischargeDepth := 60) only [xrun, xisc, ↓xstep, xget, xtgt, xcmp, xacmp, xprev, xisR, xnt, List.set, List.length, xsw, xlk, true_or, or_true, if_true, if_false, true_and, and_true, List.mem_cons, List.not_mem_nil, or_false, false_or, Bool.false_eq_true, reduceCtorEq, not_false_eq_true, forall_const, Nat.zero_add, Nat.reduceAdd, Nat.reduceSub, Int.reduceAdd, Int.reduceNeg, Int.reduceToNat, Nat.reduceEqDiff, Nat.reduceLT, Nat.reduceLeDiff, Int.reduceLE, Int.reduceLT, reduceIte, Int.cast_ofNat_Int, Int.natCast_zero, Int.natCast_one, Int.reduceAdd, eq_self, Int.reduceSub, List.length_cons, List.length_nil, xli_m1, xli_0, xli_1, xli_2, xli_3, xli_4, xli_5, xlb_8, xlb_12, xlb_31, xlb_32, xlb_64, xls_256, xls_513, xls_2048, xls_4096, xll_0, xll_1, xnr_i, xnr_0, xnr_1, xnr_ite, xft_i, xft_0, xft_1, xat_999, xat_1001, xat_1002, xat_1003, xat_2001, xat_2002, xat_2003, List.getElem?_cons_succ, List.getElem?_cons_zero, xfn_0, xfn_1, xfn_2, xfn_3, x10, x01, not_true_eq_false, false_implies, implies_true, true_implies, xrm_c, xrm_s, xnl_4, xnl_32, xnl_64, xnl_256, xtn_4, xtn_32, xtn_64, xtn_256, Option.some.injEq, Sum.inl.injEq, Sum.inr.injEq, exists_eq_left', exists_eq_right, Option.toList_some, Option.toList_none, List.cons_append, List.nil_append, xE, lg_cmp_ge, lg_cmp_le, lg_cmp_gt, lg_cmp_lt, lg_cmp_eq, Nat.le_refl, Nat.zero_le, ne_eq, Nat.add_zero, dS_placePart_0, dS_placePart_1, dS_placePart_2, dS_placePart_3, dS_placePart_6, dS_placePart_9, dS_placePart_10, dS_placePart_11, dS_placePart_12, dS_placePart_13, dS_placePart_16, dS_placePart_17, dS_placePart_20, dS_placePart_21, dS_placePart_22, dS_placePart_25, dS_placePart_26, dS_placePart_27, dS_placePart_30, dS_placePart_31, dS_placePart_34, dS_placePart_35, dS_placePart_38, dS_placePart_39, dS_placePart_40, dS_placePart_41, dS_placePart_44, dS_placePart_47, dS_placePart_48, dS_placePart_51, dS_placePart_54, dS_placePart_57, dS_placePart_58, dS_placePart_59, dS_placePart_62, dS_placePart_63, dS_placePart_64, dS_placePart_65, dS_placePart_68, dS_placePart_69, dS_placePart_72, dS_placePart_73, dS_placePart_74, dS_placePart_77, dS_placePart_78, xf_3_207, xf_3_177, xf_3_208, xf_3_151, xf_3_86, xf_3_154, xf_3_89, xf_3_135, xf_3_216, xf_3_180, q1, q3, q4, q5', xc_pi, xi_pi, hx4]
        refine hV.call [.inr (.inr (some (qa j)))] xh_3_211 dS_placePart_51 (c_min (xpi S (qa j) 9 (nI (mlay M p b j))) (nI (mpad (mlay M p b j) (M 17 j))) (nI (M 16 j))) (Or.inl rfl) rfl rfl (Nat.le_of_ble_eq_true rfl) (by decide) (by decide) ?_
        rintro r S2 ⟨rfl, rfl⟩
        have hmin : (if nI (M 16 j) < nI (mpad (mlay M p b j) (M 17 j)) then nI (M 16 j) else nI (mpad (mlay M p b j) (M 17 j))) = nI (msz M j (mlay M p b j)) := by
          unfold msz
          rw [if_pos z]
          by_cases y : M 16 j < mpad (mlay M p b j) (M 17 j)
          · rw [if_pos (nI_lt y (by omega)), Nat.min_eq_right (by omega)]
          · rw [if_neg (nI_nlt (by omega) (by omega)), Nat.min_eq_left (by omega)]
        rw [hmin]
        refine xrun_ok hV [57] 30 _ _ _ _ _ _ ?_
        simp (maxDischargeDepth := 60) only [xrun, xisc, ↓xstep, xget, xtgt, xcmp, xacmp, xprev, xisR, xnt, List.set, List.length, xsw, xlk, true_or, or_true, if_true, if_false, true_and, and_true, List.mem_cons, List.not_mem_nil, or_false, false_or, Bool.false_eq_true, reduceCtorEq, not_false_eq_true, forall_const, Nat.zero_add, Nat.reduceAdd, Nat.reduceSub, Int.reduceAdd, Int.reduceNeg, Int.reduceToNat, Nat.reduceEqDiff, Nat.reduceLT, Nat.reduceLeDiff, Int.reduceLE, Int.reduceLT, reduceIte, Int.cast_ofNat_Int, Int.natCast_zero, Int.natCast_one, Int.reduceAdd, eq_self, Int.reduceSub, List.length_cons, List.length_nil, xli_m1, xli_0, xli_1, xli_2, xli_3, xli_4, xli_5, xlb_8, xlb_12, xlb_31, xlb_32, xlb_64, xls_256, xls_513, xls_2048, xls_4096, xll_0, xll_1, xnr_i, xnr_0, xnr_1, xnr_ite, xft_i, xft_0, xft_1, xat_999, xat_1001, xat_1002, xat_1003, xat_2001, xat_2002, xat_2003, List.getElem?_cons_succ, List.getElem?_cons_zero, xfn_0, xfn_1, xfn_2, xfn_3, x10, x01, not_true_eq_false, false_implies, implies_true, true_implies, xrm_c, xrm_s, xnl_4, xnl_32, xnl_64, xnl_256, xtn_4, xtn_32, xtn_64, xtn_256, Option.some.injEq, Sum.inl.injEq, Sum.inr.injEq, exists_eq_left', exists_eq_right, Option.toList_some, Option.toList_none, List.cons_append, List.nil_append, xE, lg_cmp_ge, lg_cmp_le, lg_cmp_gt, lg_cmp_lt, lg_cmp_eq, Nat.le_refl, Nat.zero_le, ne_eq, Nat.add_zero, dS_placePart_0, dS_placePart_1, dS_placePart_2, dS_placePart_3, dS_placePart_6, dS_placePart_9, dS_placePart_10, dS_placePart_11, dS_placePart_12, dS_placePart_13, dS_placePart_16, dS_placePart_17, dS_placePart_20, dS_placePart_21, dS_placePart_22, dS_placePart_25, dS_placePart_26, dS_placePart_27, dS_placePart_30, dS_placePart_31, dS_placePart_34, dS_placePart_35, dS_placePart_38, dS_placePart_39, dS_placePart_40, dS_placePart_41, dS_placePart_44, dS_placePart_47, dS_placePart_48, dS_placePart_51, dS_placePart_54, dS_placePart_57, dS_placePart_58, dS_placePart_59, dS_placePart_62, dS_placePart_63, dS_placePart_64, dS_placePart_65, dS_placePart_68, dS_placePart_69, dS_placePart_72, dS_placePart_73, dS_placePart_74, dS_placePart_77, dS_placePart_78, xf_3_207, xf_3_177, xf_3_208, xf_3_151, xf_3_86, xf_3_154, xf_3_89, xf_3_135, xf_3_216, xf_3_180, q1, q3, q4, q5', xc_pi, xi_pi, hx4]
        have q0 : xi (xpi S (qa j) 9 (nI (mlay M p b j))) (qa j) 0 = nI 4 := by rw [xi_pi, if_neg (by simp), q3, z]
        refine step _ (xCa.tr h0 hS1 (xCa.pi (Or.inr (Or.inl ⟨q1, Or.inr (Or.inr ⟨rfl, q0⟩)⟩)))) (fun i h1 h2 h3 => ⟨?_, ?_⟩) (fun c i h1 => ?_) ?_ ?_
        · rw [xi_pi, if_neg (fun w => hij i h1 h2 w.1), xi_pi, if_neg (fun w => hij i h1 h2 w.1)]
        · rw [xi_pi, if_neg (fun w => hij i h1 h2 w.1), xi_pi, if_neg (fun w => hij i h1 h2 w.1)]
        · rw [xi_pi, if_neg (fun w => h1 w.1), xi_pi, if_neg (fun w => h1 w.1)]
        · rw [xi_pi, if_neg (by simp), xi_pi, if_pos ⟨rfl, rfl⟩]
        · rw [xi_pi, if_pos ⟨rfl, rfl⟩]
end PLACE
