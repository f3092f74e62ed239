/-! THE REFERENCE: shrink and settle; how far sizes can fall -/
def mrk (s z : Nat) : Nat := if s = 1 then z / 4 else z / 2
def mmu (M : mT) : Nat := nsum (fun k => if maim M k = true then mrk (M 13 k) (M 15 k) else 0) (M 12 0)
def munf (M : mT) : Nat := ncnt (fun k => maim M k && decide (M 21 k = 0)) (M 12 0)
theorem mrk_lt {s a b : Nat} (ha : mszk s a = true) (hb : mszk s b = true) (h : a < b) : mrk s a + 1 ≤ mrk s b := by
  unfold mszk at ha hb
  unfold mrk
  by_cases z : s = 1
  · rw [if_pos z] at ha hb
    rw [if_pos z, if_pos z]
    simp only [Bool.or_eq_true, beq_iff_eq] at ha hb
    omega
  · rw [if_neg z] at ha hb
    rw [if_neg z, if_neg z]
    simp only [Bool.or_eq_true, beq_iff_eq] at ha hb
    omega
theorem mrk_le {s a : Nat} (h : a ≤ mgr s) : mrk s a ≤ 2 := by
  unfold mgr at h
  unfold mrk
  split
  · rename_i z; rw [if_pos z] at h; omega
  · rename_i z; rw [if_neg z] at h; omega
theorem mmu_le {M : mT} (h : mWF M) : mmu M ≤ 512 := by
  have h1 : mmu M ≤ nsum (fun _ => 2) (M 12 0) := by
    refine nsum_le _ (fun k hk => ?_)
    by_cases ha : maim M k = true
    · show (if maim M k = true then mrk (M 13 k) (M 15 k) else 0) ≤ 2
      rw [if_pos ha]
      exact mrk_le (h.2.2.2.2.2.1 k hk ha).2.1
    · show (if maim M k = true then mrk (M 13 k) (M 15 k) else 0) ≤ 2
      rw [if_neg ha]
      omega
  rw [nsum_const] at h1
  have := h.1.2.2.1
  omega
theorem mst_aim (M : mT) (P : Nat → Bool) (v w : Nat → Nat) (k j : Nat) : maim (mst M P v w k) j = maim M j := by simp only [maim, mst_f M _ _ _ k 13 j (by decide)]
theorem mmu_pass {M : mT} (h : mWF M) : mmu (mpass M) + ncnt (mchg M) (M 12 0) ≤ mmu M := by
  unfold mmu ncnt
  rw [show mpass M 12 0 = M 12 0 from mst_f _ _ _ _ _ 12 0 (by decide), ← nsum_add]
  refine nsum_le _ (fun k hk => ?_)
  show (if maim (mpass M) k = true then mrk (mpass M 13 k) (mpass M 15 k) else 0) + (if mchg M k = true then 1 else 0) ≤ (if maim M k = true then mrk (M 13 k) (M 15 k) else 0)
  rw [show maim (mpass M) k = maim M k from mst_aim _ _ _ _ _ _, show mpass M 13 k = M 13 k from mst_f _ _ _ _ _ 13 k (by decide)]
  by_cases hc : mchg M k = true
  · have hc' := hc
    simp only [mchg, Bool.and_eq_true, decide_eq_true_eq] at hc'
    obtain ⟨⟨⟨c1, c2⟩, c3⟩, c4⟩ := hc'
    rw [if_pos c1, if_pos c1, if_pos hc, show mpass M 15 k = mleast M k from mst_15 _ _ _ _ _ _ ⟨hk, hc⟩]
    exact mrk_lt (mleast_k c1) (h.2.2.2.2.2.1 k hk c1).2.2.2.2.2 c4
  · rw [if_neg hc, show mpass M 15 k = M 15 k from mst_no _ _ _ _ _ _ _ (fun z => hc z.2)]
    exact Nat.le_refl _
theorem mpass_21 (M : mT) (k : Nat) : mpass M 21 k = M 21 k := by
  unfold mpass
  by_cases z : k < M 12 0 ∧ mchg M k = true
  · rw [mst_21 _ _ _ _ _ _ z]
  · rw [mst_no _ _ _ _ _ _ _ z]
theorem munf_pass (M : mT) : munf (mpass M) = munf M := by
  unfold munf
  rw [show mpass M 12 0 = M 12 0 from mst_f _ _ _ _ _ 12 0 (by decide)]
  have e : (fun k => maim (mpass M) k && decide (mpass M 21 k = 0)) = (fun k => maim M k && decide (M 21 k = 0)) := by
    funext k
    rw [show maim (mpass M) k = maim M k from mst_aim _ _ _ _ _ _, mpass_21]
  rw [e]
theorem munf_shr : ∀ (f : Nat) (M : mT), munf (mshr f M).2 = munf M
  | 0, _ => rfl
  | f + 1, M => by
    rw [mshr]
    by_cases z : ncnt (mchg M) (M 12 0) = 0
    · rw [if_pos z]; exact munf_pass M
    · rw [if_neg z]
      show munf (mshr f (mpass M)).2 = munf M
      rw [munf_shr f (mpass M), munf_pass]
theorem munf_fix {M : mT} (h : mWF M) : munf (mfix M) + ncnt (mtight M) (M 12 0) ≤ munf M := by
  unfold munf ncnt
  rw [show mfix M 12 0 = M 12 0 from mst_f _ _ _ _ _ 12 0 (by decide), ← nsum_add]
  refine nsum_le _ (fun k hk => ?_)
  show (if (maim (mfix M) k && decide (mfix M 21 k = 0)) = true then 1 else 0) + (if mtight M k = true then 1 else 0) ≤ (if (maim M k && decide (M 21 k = 0)) = true then 1 else 0)
  rw [show maim (mfix M) k = maim M k from mst_aim _ _ _ _ _ _]
  by_cases hc : mtight M k = true
  · have hc' := hc
    simp only [mtight, Bool.and_eq_true, decide_eq_true_eq] at hc'
    obtain ⟨⟨c1, c2⟩, c3⟩ := hc'
    have w := h.2.2.2.2.2.1 k hk c1
    have w2 := mleast_le h hk c1
    have w3 := (h.2.2.2.1 k hk).2.2.2.1
    have h0 : M 21 k = 0 := by
      by_cases y : M 21 k = 1
      · have := w.2.2.2.1 y; omega
      · omega
    rw [show mfix M 21 k = 1 from mst_21 _ _ _ _ _ _ ⟨hk, hc⟩]
    simp [c1, h0, hc]
  · rw [show mfix M 21 k = M 21 k from mst_no _ _ _ _ _ _ _ (fun z => hc z.2), if_neg hc]
    exact Nat.le_refl _
theorem nI_le0 {c : Nat} (h : c < 2 ^ 31) : (nI c ≤ 0) = (c = 0) := by
  have := xI_le_nI (x := 0) (by decide) c h
  rw [show nI 0 = (0 : Int32) from rfl] at this
  rw [this]
  apply propext
  omega
section RSHRINK
variable {l : Launch} {D : va_G} {n0 : Nat} {S : xS} {mo : Nat} {A : Nat → Nat} {M : mT}
set_option maxHeartbeats 4000000 in
set_option maxRecDepth 100000 in
theorem d_shrink_loop {S0 : xS} {V : xKt} {Q : Option xVal → xS → Prop}
    (hV : xCl l D n0 4 cM_shrink false (some .int) (xrm mM_shrink 0 0) V (xE 0 0 Q)) :
    ∀ (f i : Nat) (M : mT) (S : xS), mmu M < f → rFx S mo M → xFr tM S0 S → (∀ S1, rFx S1 mo (mshr f M).2 → xFr tM S0 S1 → Q (some (.inl (nI (i + (mshr f M).1)))) S1) → V 2 [some (.inr (.inr (some mo))), some (.inl (nI (i + 1)))] [] S 0 0 := by
  intro f
  induction f with
  | zero => intro i M S hm; omega
  | succ f ih =>
    intro i M S hm h hF hQ
    refine xrun_ok hV [] 20 _ _ _ _ _ _ ?_
    simp (maxDischargeDepth := 60) only [xrun, xisc, ↓xstep, xget, xtgt, xcmp, xacmp, xprev, xisR, xnt, List.set, List.length, xsw, xlk, true_or, or_true, if_true, if_false, true_and, and_true, List.mem_cons, List.not_mem_nil, or_false, false_or, Bool.false_eq_true, reduceCtorEq, not_false_eq_true, forall_const, Nat.zero_add, Nat.reduceAdd, Nat.reduceSub, Int.reduceAdd, Int.reduceNeg, Int.reduceToNat, Nat.reduceEqDiff, Nat.reduceLT, Nat.reduceLeDiff, Int.reduceLE, Int.reduceLT, reduceIte, Int.cast_ofNat_Int, Int.natCast_zero, Int.natCast_one, Int.reduceAdd, eq_self, Int.reduceSub, List.length_cons, List.length_nil, xli_m1, xli_0, xli_1, xli_2, xli_3, xli_4, xli_5, xlb_8, xlb_12, xlb_31, xlb_32, xlb_64, xls_256, xls_513, xls_2048, xls_4096, xll_0, xll_1, xnr_i, xnr_0, xnr_1, xnr_ite, xft_i, xft_0, xft_1, xat_999, xat_1001, xat_1002, xat_1003, xat_2001, xat_2002, xat_2003, List.getElem?_cons_succ, List.getElem?_cons_zero, xfn_0, xfn_1, xfn_2, xfn_3, x10, x01, not_true_eq_false, false_implies, implies_true, true_implies, xrm_c, xrm_s, xnl_4, xnl_32, xnl_64, xnl_256, xtn_4, xtn_32, xtn_64, xtn_256, Option.some.injEq, Sum.inl.injEq, Sum.inr.injEq, exists_eq_left', exists_eq_right, Option.toList_some, Option.toList_none, List.cons_append, List.nil_append, xE, lg_cmp_ge, lg_cmp_le, lg_cmp_gt, lg_cmp_lt, lg_cmp_eq, Nat.le_refl, Nat.zero_le, ne_eq, Nat.add_zero, dM_shrink_0, dM_shrink_1, dM_shrink_2, dM_shrink_3, dM_shrink_6, dM_shrink_9, dM_shrink_12, dM_shrink_15, dM_shrink_16]
    refine hV.call [] xh_4_176 dM_shrink_3 (d_pass h) (Or.inr ⟨_, _, rfl, fun _ => h.mo⟩) rfl rfl (by decide) (by decide) (by decide) ?_
    rintro r S1 ⟨rfl, g1, g2⟩
    have g1' : rFx S1 mo (mpass M) := g1
    have er : (oPass M).1 = nI (ncnt (mchg M) (M 12 0)) := rfl
    have hcl := ncnt_le (mchg M) (M 12 0)
    have hw := h.wf.1.2.2.1
    have ez := nI_le0 (c := ncnt (mchg M) (M 12 0)) (by omega)
    have hmp := mmu_pass h.wf
    by_cases z : ncnt (mchg M) (M 12 0) = 0
    · have ez' : (nI (ncnt (mchg M) (M 12 0)) ≤ 0) = True := by rw [ez]; simp [z]
      have em : mshr (f + 1) M = (1, mpass M) := by rw [mshr, if_pos z]
      rw [em] at hQ
      refine xrun_ok hV [] 20 _ _ _ _ _ _ ?_
      simp (maxDischargeDepth := 60) only [xrun, xisc, ↓xstep, xget, xtgt, xcmp, xacmp, xprev, xisR, xnt, List.set, List.length, xsw, xlk, true_or, or_true, if_true, if_false, true_and, and_true, List.mem_cons, List.not_mem_nil, or_false, false_or, Bool.false_eq_true, reduceCtorEq, not_false_eq_true, forall_const, Nat.zero_add, Nat.reduceAdd, Nat.reduceSub, Int.reduceAdd, Int.reduceNeg, Int.reduceToNat, Nat.reduceEqDiff, Nat.reduceLT, Nat.reduceLeDiff, Int.reduceLE, Int.reduceLT, reduceIte, Int.cast_ofNat_Int, Int.natCast_zero, Int.natCast_one, Int.reduceAdd, eq_self, Int.reduceSub, List.length_cons, List.length_nil, xli_m1, xli_0, xli_1, xli_2, xli_3, xli_4, xli_5, xlb_8, xlb_12, xlb_31, xlb_32, xlb_64, xls_256, xls_513, xls_2048, xls_4096, xll_0, xll_1, xnr_i, xnr_0, xnr_1, xnr_ite, xft_i, xft_0, xft_1, xat_999, xat_1001, xat_1002, xat_1003, xat_2001, xat_2002, xat_2003, List.getElem?_cons_succ, List.getElem?_cons_zero, xfn_0, xfn_1, xfn_2, xfn_3, x10, x01, not_true_eq_false, false_implies, implies_true, true_implies, xrm_c, xrm_s, xnl_4, xnl_32, xnl_64, xnl_256, xtn_4, xtn_32, xtn_64, xtn_256, Option.some.injEq, Sum.inl.injEq, Sum.inr.injEq, exists_eq_left', exists_eq_right, Option.toList_some, Option.toList_none, List.cons_append, List.nil_append, xE, lg_cmp_ge, lg_cmp_le, lg_cmp_gt, lg_cmp_lt, lg_cmp_eq, Nat.le_refl, Nat.zero_le, ne_eq, Nat.add_zero, dM_shrink_0, dM_shrink_1, dM_shrink_2, dM_shrink_3, dM_shrink_6, dM_shrink_9, dM_shrink_12, dM_shrink_15, dM_shrink_16, er, ez']
      exact hQ S1 g1' (hF.tr g2)
    · have ez' : (nI (ncnt (mchg M) (M 12 0)) ≤ 0) = False := by rw [ez]; simp [z]
      have em : mshr (f + 1) M = ((mshr f (mpass M)).1 + 1, (mshr f (mpass M)).2) := by rw [mshr, if_neg z]
      rw [em] at hQ
      refine xrun_ok hV [2] 20 _ _ _ _ _ _ ?_
      simp (maxDischargeDepth := 60) only [xrun, xisc, ↓xstep, xget, xtgt, xcmp, xacmp, xprev, xisR, xnt, List.set, List.length, xsw, xlk, true_or, or_true, if_true, if_false, true_and, and_true, List.mem_cons, List.not_mem_nil, or_false, false_or, Bool.false_eq_true, reduceCtorEq, not_false_eq_true, forall_const, Nat.zero_add, Nat.reduceAdd, Nat.reduceSub, Int.reduceAdd, Int.reduceNeg, Int.reduceToNat, Nat.reduceEqDiff, Nat.reduceLT, Nat.reduceLeDiff, Int.reduceLE, Int.reduceLT, reduceIte, Int.cast_ofNat_Int, Int.natCast_zero, Int.natCast_one, Int.reduceAdd, eq_self, Int.reduceSub, List.length_cons, List.length_nil, xli_m1, xli_0, xli_1, xli_2, xli_3, xli_4, xli_5, xlb_8, xlb_12, xlb_31, xlb_32, xlb_64, xls_256, xls_513, xls_2048, xls_4096, xll_0, xll_1, xnr_i, xnr_0, xnr_1, xnr_ite, xft_i, xft_0, xft_1, xat_999, xat_1001, xat_1002, xat_1003, xat_2001, xat_2002, xat_2003, List.getElem?_cons_succ, List.getElem?_cons_zero, xfn_0, xfn_1, xfn_2, xfn_3, x10, x01, not_true_eq_false, false_implies, implies_true, true_implies, xrm_c, xrm_s, xnl_4, xnl_32, xnl_64, xnl_256, xtn_4, xtn_32, xtn_64, xtn_256, Option.some.injEq, Sum.inl.injEq, Sum.inr.injEq, exists_eq_left', exists_eq_right, Option.toList_some, Option.toList_none, List.cons_append, List.nil_append, xE, lg_cmp_ge, lg_cmp_le, lg_cmp_gt, lg_cmp_lt, lg_cmp_eq, Nat.le_refl, Nat.zero_le, ne_eq, Nat.add_zero, dM_shrink_0, dM_shrink_1, dM_shrink_2, dM_shrink_3, dM_shrink_6, dM_shrink_9, dM_shrink_12, dM_shrink_15, dM_shrink_16, er, ez', nI_1]
      refine ih (i + 1) (mpass M) S1 (by omega) g1' (hF.tr g2) (fun S2 w1 w2 => ?_)
      have := hQ S2 w1 w2
      rw [show i + 1 + (mshr f (mpass M)).1 = i + ((mshr f (mpass M)).1 + 1) by omega]
      exact this
set_option maxHeartbeats 4000000 in
set_option maxRecDepth 100000 in
theorem d_shrink (h : rFx S mo M) : xMet l D n0 mM_shrink 0 0 [.inr (.inr (some mo))] S (oN S mo (oShrink M)) := by
  refine xMet.of (k := mM_shrink) (own := 4) (ini := false) xm_M_shrink (by decide +kernel) (by decide +kernel) (by decide) (Nat.le_of_ble_eq_true rfl) ?_
  intro V hV
  show V 0 [some (.inr (.inr (some mo))), none] [] S 0 0
  refine xrun_ok hV [2] 20 _ _ _ _ _ _ ?_
  simp (maxDischargeDepth := 60) only [xrun, xisc, ↓xstep, xget, xtgt, xcmp, xacmp, xprev, xisR, xnt, List.set, List.length, xsw, xlk, true_or, or_true, if_true, if_false, true_and, and_true, List.mem_cons, List.not_mem_nil, or_false, false_or, Bool.false_eq_true, reduceCtorEq, not_false_eq_true, forall_const, Nat.zero_add, Nat.reduceAdd, Nat.reduceSub, Int.reduceAdd, Int.reduceNeg, Int.reduceToNat, Nat.reduceEqDiff, Nat.reduceLT, Nat.reduceLeDiff, Int.reduceLE, Int.reduceLT, reduceIte, Int.cast_ofNat_Int, Int.natCast_zero, Int.natCast_one, Int.reduceAdd, eq_self, Int.reduceSub, List.length_cons, List.length_nil, xli_m1, xli_0, xli_1, xli_2, xli_3, xli_4, xli_5, xlb_8, xlb_12, xlb_31, xlb_32, xlb_64, xls_256, xls_513, xls_2048, xls_4096, xll_0, xll_1, xnr_i, xnr_0, xnr_1, xnr_ite, xft_i, xft_0, xft_1, xat_999, xat_1001, xat_1002, xat_1003, xat_2001, xat_2002, xat_2003, List.getElem?_cons_succ, List.getElem?_cons_zero, xfn_0, xfn_1, xfn_2, xfn_3, x10, x01, not_true_eq_false, false_implies, implies_true, true_implies, xrm_c, xrm_s, xnl_4, xnl_32, xnl_64, xnl_256, xtn_4, xtn_32, xtn_64, xtn_256, Option.some.injEq, Sum.inl.injEq, Sum.inr.injEq, exists_eq_left', exists_eq_right, Option.toList_some, Option.toList_none, List.cons_append, List.nil_append, xE, lg_cmp_ge, lg_cmp_le, lg_cmp_gt, lg_cmp_lt, lg_cmp_eq, Nat.le_refl, Nat.zero_le, ne_eq, Nat.add_zero, dM_shrink_0, dM_shrink_1, dM_shrink_2, dM_shrink_3, dM_shrink_6, dM_shrink_9, dM_shrink_12, dM_shrink_15, dM_shrink_16]
  have := mmu_le h.wf
  exact d_shrink_loop (S0 := S) hV 513 0 M S (by omega) h (xFr.rf _ _) (fun S1 w1 w2 => ⟨by rw [Nat.zero_add]; rfl, w1, w2⟩)
set_option maxHeartbeats 4000000 in
set_option maxRecDepth 100000 in
theorem d_fix_loop1 {a s : Int32} {S0 : xS} {V : xKt} {Q : Option xVal → xS → Prop}
    (hV : xCl l D n0 4 cM_settle false (some .int) (xrm mM_settle 0 0) V (xE 0 0 Q))
    (hK : ∀ S o, rF S mo A M → xFr tM S0 S → (∀ j, j < M 12 0 → xi S (A 24) j = if mtight M j = true then 1 else 0) → V 58 [some (.inr (.inr (some mo))), some (.inl a), some (.inl 0), some (.inl s), some o] [] S 0 0) :
    ∀ (n k : Nat) (S : xS), k ≤ M 12 0 → M 12 0 - k = n → rF S mo A M → kN S A M → xFr tM S0 S → (∀ j, j < k → xi S (A 24) j = if mtight M j = true then 1 else 0) → V 22 [some (.inr (.inr (some mo))), some (.inl a), some (.inl 0), some (.inl s), some (.inl (nI k))] [] S 0 0 := by
  intro n
  induction n with
  | zero =>
    intro k S hk hn h hN hF hD
    have : k = M 12 0 := by omega
    subst this
    have hmo := h.mo
    have hs := h.s12
    have hw := h.1.1.2.2.1
    have ele : (nI (M 12 0) ≤ nI (M 12 0)) = True := eq_true (nI_le (Nat.le_refl _) (by omega))
    refine xrun_ok hV [58] 20 _ _ _ _ _ _ ?_
    simp (maxDischargeDepth := 60) only [xrun, xisc, ↓xstep, xget, xtgt, xcmp, xacmp, xprev, xisR, xnt, List.set, List.length, xsw, xlk, true_or, or_true, if_true, if_false, true_and, and_true, List.mem_cons, List.not_mem_nil, or_false, false_or, Bool.false_eq_true, reduceCtorEq, not_false_eq_true, forall_const, Nat.zero_add, Nat.reduceAdd, Nat.reduceSub, Int.reduceAdd, Int.reduceNeg, Int.reduceToNat, Nat.reduceEqDiff, Nat.reduceLT, Nat.reduceLeDiff, Int.reduceLE, Int.reduceLT, reduceIte, Int.cast_ofNat_Int, Int.natCast_zero, Int.natCast_one, Int.reduceAdd, eq_self, Int.reduceSub, List.length_cons, List.length_nil, xli_m1, xli_0, xli_1, xli_2, xli_3, xli_4, xli_5, xlb_8, xlb_12, xlb_31, xlb_32, xlb_64, xls_256, xls_513, xls_2048, xls_4096, xll_0, xll_1, xnr_i, xnr_0, xnr_1, xnr_ite, xft_i, xft_0, xft_1, xat_999, xat_1001, xat_1002, xat_1003, xat_2001, xat_2002, xat_2003, List.getElem?_cons_succ, List.getElem?_cons_zero, xfn_0, xfn_1, xfn_2, xfn_3, x10, x01, not_true_eq_false, false_implies, implies_true, true_implies, xrm_c, xrm_s, xnl_4, xnl_32, xnl_64, xnl_256, xtn_4, xtn_32, xtn_64, xtn_256, Option.some.injEq, Sum.inl.injEq, Sum.inr.injEq, exists_eq_left', exists_eq_right, Option.toList_some, Option.toList_none, List.cons_append, List.nil_append, xE, lg_cmp_ge, lg_cmp_le, lg_cmp_gt, lg_cmp_lt, lg_cmp_eq, Nat.le_refl, Nat.zero_le, ne_eq, Nat.add_zero, dM_settle_0, dM_settle_1, dM_settle_2, dM_settle_3, dM_settle_4, dM_settle_5, dM_settle_8, dM_settle_9, dM_settle_10, dM_settle_13, dM_settle_14, dM_settle_17, dM_settle_18, dM_settle_19, dM_settle_20, dM_settle_22, dM_settle_24, dM_settle_25, dM_settle_28, dM_settle_31, dM_settle_32, dM_settle_35, dM_settle_37, dM_settle_38, dM_settle_40, dM_settle_43, dM_settle_46, dM_settle_47, dM_settle_50, dM_settle_51, dM_settle_52, dM_settle_55, dM_settle_58, dM_settle_59, dM_settle_61, dM_settle_63, dM_settle_64, dM_settle_67, dM_settle_70, dM_settle_71, dM_settle_74, dM_settle_76, dM_settle_77, dM_settle_80, dM_settle_83, dM_settle_84, dM_settle_87, dM_settle_89, dM_settle_90, dM_settle_93, dM_settle_95, dM_settle_96, dM_settle_99, dM_settle_100, dM_settle_101, dM_settle_104, dM_settle_106, dM_settle_107, dM_settle_108, dM_settle_111, dM_settle_114, dM_settle_117, dM_settle_118, dM_settle_119, dM_settle_120, dM_settle_121, dM_settle_122, dM_settle_125, dM_settle_126, dM_settle_129, dM_settle_132, dM_settle_133, dM_settle_134, dM_settle_137, dM_settle_138, xf_4_91, xf_4_74, xf_4_47, xf_4_41, xf_4_65, hmo, hs, ele]
    exact hK S _ h hF hD
  | succ n ih =>
    intro k S hk hn h hN hF hD
    have hkl : k < M 12 0 := by omega
    have hmo := h.mo
    have hs := h.s12
    have hw := h.1.1.2.2.1
    have r24 : xr S mo 24 = some (A 24) := h.ar 24 rfl
    have c24 : xc S (A 24) = 1002 := h.tg 24 rfl
    have l24 : xl S (A 24) = 256 := h.ln 24 rfl
    have n24 : (mo = A 24) = False := eq_false (fun e => h.nm (f := 24) rfl e.symm)
    have ink : vp_in (nI k) 256 := vp_in_nI (by omega) (by decide)
    have e0 : (nI k).toNatClampNeg = k := nI_clamp (by omega)
    have ele : (nI (M 12 0) ≤ nI k) = False := eq_false (nI_ge hkl (by omega))
    refine xrun_ok hV [] 20 _ _ _ _ _ _ ?_
    simp (maxDischargeDepth := 60) only [xrun, xisc, ↓xstep, xget, xtgt, xcmp, xacmp, xprev, xisR, xnt, List.set, List.length, xsw, xlk, true_or, or_true, if_true, if_false, true_and, and_true, List.mem_cons, List.not_mem_nil, or_false, false_or, Bool.false_eq_true, reduceCtorEq, not_false_eq_true, forall_const, Nat.zero_add, Nat.reduceAdd, Nat.reduceSub, Int.reduceAdd, Int.reduceNeg, Int.reduceToNat, Nat.reduceEqDiff, Nat.reduceLT, Nat.reduceLeDiff, Int.reduceLE, Int.reduceLT, reduceIte, Int.cast_ofNat_Int, Int.natCast_zero, Int.natCast_one, Int.reduceAdd, eq_self, Int.reduceSub, List.length_cons, List.length_nil, xli_m1, xli_0, xli_1, xli_2, xli_3, xli_4, xli_5, xlb_8, xlb_12, xlb_31, xlb_32, xlb_64, xls_256, xls_513, xls_2048, xls_4096, xll_0, xll_1, xnr_i, xnr_0, xnr_1, xnr_ite, xft_i, xft_0, xft_1, xat_999, xat_1001, xat_1002, xat_1003, xat_2001, xat_2002, xat_2003, List.getElem?_cons_succ, List.getElem?_cons_zero, xfn_0, xfn_1, xfn_2, xfn_3, x10, x01, not_true_eq_false, false_implies, implies_true, true_implies, xrm_c, xrm_s, xnl_4, xnl_32, xnl_64, xnl_256, xtn_4, xtn_32, xtn_64, xtn_256, Option.some.injEq, Sum.inl.injEq, Sum.inr.injEq, exists_eq_left', exists_eq_right, Option.toList_some, Option.toList_none, List.cons_append, List.nil_append, xE, lg_cmp_ge, lg_cmp_le, lg_cmp_gt, lg_cmp_lt, lg_cmp_eq, Nat.le_refl, Nat.zero_le, ne_eq, Nat.add_zero, dM_settle_0, dM_settle_1, dM_settle_2, dM_settle_3, dM_settle_4, dM_settle_5, dM_settle_8, dM_settle_9, dM_settle_10, dM_settle_13, dM_settle_14, dM_settle_17, dM_settle_18, dM_settle_19, dM_settle_20, dM_settle_22, dM_settle_24, dM_settle_25, dM_settle_28, dM_settle_31, dM_settle_32, dM_settle_35, dM_settle_37, dM_settle_38, dM_settle_40, dM_settle_43, dM_settle_46, dM_settle_47, dM_settle_50, dM_settle_51, dM_settle_52, dM_settle_55, dM_settle_58, dM_settle_59, dM_settle_61, dM_settle_63, dM_settle_64, dM_settle_67, dM_settle_70, dM_settle_71, dM_settle_74, dM_settle_76, dM_settle_77, dM_settle_80, dM_settle_83, dM_settle_84, dM_settle_87, dM_settle_89, dM_settle_90, dM_settle_93, dM_settle_95, dM_settle_96, dM_settle_99, dM_settle_100, dM_settle_101, dM_settle_104, dM_settle_106, dM_settle_107, dM_settle_108, dM_settle_111, dM_settle_114, dM_settle_117, dM_settle_118, dM_settle_119, dM_settle_120, dM_settle_121, dM_settle_122, dM_settle_125, dM_settle_126, dM_settle_129, dM_settle_132, dM_settle_133, dM_settle_134, dM_settle_137, dM_settle_138, xf_4_91, xf_4_74, xf_4_47, xf_4_41, xf_4_65, hmo, hs, ele, r24, c24, l24, n24]
    refine hV.call [.inl (nI k), .inr (.inr (some (A 24)))] xh_4_183 dM_settle_40 (d_isTight h hN hkl) (Or.inr ⟨_, _, rfl, fun _ => hmo⟩) rfl rfl (Nat.le_of_ble_eq_true rfl) (by decide) (by decide) ?_
    rintro r S' ⟨rfl, rfl⟩
    have go : ∀ x : Int32, x = (if mtight M k = true then 1 else 0) → V 22 [some (.inr (.inr (some mo))), some (.inl a), some (.inl 0), some (.inl s), some (.inl (nI (k + 1)))] [] (xpi S' (A 24) k x) 0 0 := by
      intro x hx
      refine ih (k + 1) _ (by omega) (by omega) (h.free (f := 24) rfl trivial) (hN.w24 h.2.1 _ _) (hF.tr (xFr.ar h.2.1 (f := 24) rfl _ _)) (fun j hj => ?_)
      rw [xi_pi]
      by_cases z : j = k
      · rw [if_pos ⟨rfl, z⟩, z]
        exact hx
      · rw [if_neg (fun y => z y.2)]
        exact hD j (by omega)
    by_cases ht : mtight M k = true
    · rw [if_pos ht]
      refine xrun_ok hV [22] 20 _ _ _ _ _ _ ?_
      simp (maxDischargeDepth := 60) only [xrun, xisc, ↓xstep, xget, xtgt, xcmp, xacmp, xprev, xisR, xnt, List.set, List.length, xsw, xlk, true_or, or_true, if_true, if_false, true_and, and_true, List.mem_cons, List.not_mem_nil, or_false, false_or, Bool.false_eq_true, reduceCtorEq, not_false_eq_true, forall_const, Nat.zero_add, Nat.reduceAdd, Nat.reduceSub, Int.reduceAdd, Int.reduceNeg, Int.reduceToNat, Nat.reduceEqDiff, Nat.reduceLT, Nat.reduceLeDiff, Int.reduceLE, Int.reduceLT, reduceIte, Int.cast_ofNat_Int, Int.natCast_zero, Int.natCast_one, Int.reduceAdd, eq_self, Int.reduceSub, List.length_cons, List.length_nil, xli_m1, xli_0, xli_1, xli_2, xli_3, xli_4, xli_5, xlb_8, xlb_12, xlb_31, xlb_32, xlb_64, xls_256, xls_513, xls_2048, xls_4096, xll_0, xll_1, xnr_i, xnr_0, xnr_1, xnr_ite, xft_i, xft_0, xft_1, xat_999, xat_1001, xat_1002, xat_1003, xat_2001, xat_2002, xat_2003, List.getElem?_cons_succ, List.getElem?_cons_zero, xfn_0, xfn_1, xfn_2, xfn_3, x10, x01, not_true_eq_false, false_implies, implies_true, true_implies, xrm_c, xrm_s, xnl_4, xnl_32, xnl_64, xnl_256, xtn_4, xtn_32, xtn_64, xtn_256, Option.some.injEq, Sum.inl.injEq, Sum.inr.injEq, exists_eq_left', exists_eq_right, Option.toList_some, Option.toList_none, List.cons_append, List.nil_append, xE, lg_cmp_ge, lg_cmp_le, lg_cmp_gt, lg_cmp_lt, lg_cmp_eq, Nat.le_refl, Nat.zero_le, ne_eq, Nat.add_zero, dM_settle_0, dM_settle_1, dM_settle_2, dM_settle_3, dM_settle_4, dM_settle_5, dM_settle_8, dM_settle_9, dM_settle_10, dM_settle_13, dM_settle_14, dM_settle_17, dM_settle_18, dM_settle_19, dM_settle_20, dM_settle_22, dM_settle_24, dM_settle_25, dM_settle_28, dM_settle_31, dM_settle_32, dM_settle_35, dM_settle_37, dM_settle_38, dM_settle_40, dM_settle_43, dM_settle_46, dM_settle_47, dM_settle_50, dM_settle_51, dM_settle_52, dM_settle_55, dM_settle_58, dM_settle_59, dM_settle_61, dM_settle_63, dM_settle_64, dM_settle_67, dM_settle_70, dM_settle_71, dM_settle_74, dM_settle_76, dM_settle_77, dM_settle_80, dM_settle_83, dM_settle_84, dM_settle_87, dM_settle_89, dM_settle_90, dM_settle_93, dM_settle_95, dM_settle_96, dM_settle_99, dM_settle_100, dM_settle_101, dM_settle_104, dM_settle_106, dM_settle_107, dM_settle_108, dM_settle_111, dM_settle_114, dM_settle_117, dM_settle_118, dM_settle_119, dM_settle_120, dM_settle_121, dM_settle_122, dM_settle_125, dM_settle_126, dM_settle_129, dM_settle_132, dM_settle_133, dM_settle_134, dM_settle_137, dM_settle_138, xf_4_91, xf_4_74, xf_4_47, xf_4_41, xf_4_65, r24, c24, l24, n24, ink, e0, nI_1]
      exact go 1 (by rw [if_pos ht])
    · rw [if_neg ht]
      refine xrun_ok hV [22] 20 _ _ _ _ _ _ ?_
      simp (maxDischargeDepth := 60) only [xrun, xisc, ↓xstep, xget, xtgt, xcmp, xacmp, xprev, xisR, xnt, List.set, List.length, xsw, xlk, true_or, or_true, if_true, if_false, true_and, and_true, List.mem_cons, List.not_mem_nil, or_false, false_or, Bool.false_eq_true, reduceCtorEq, not_false_eq_true, forall_const, Nat.zero_add, Nat.reduceAdd, Nat.reduceSub, Int.reduceAdd, Int.reduceNeg, Int.reduceToNat, Nat.reduceEqDiff, Nat.reduceLT, Nat.reduceLeDiff, Int.reduceLE, Int.reduceLT, reduceIte, Int.cast_ofNat_Int, Int.natCast_zero, Int.natCast_one, Int.reduceAdd, eq_self, Int.reduceSub, List.length_cons, List.length_nil, xli_m1, xli_0, xli_1, xli_2, xli_3, xli_4, xli_5, xlb_8, xlb_12, xlb_31, xlb_32, xlb_64, xls_256, xls_513, xls_2048, xls_4096, xll_0, xll_1, xnr_i, xnr_0, xnr_1, xnr_ite, xft_i, xft_0, xft_1, xat_999, xat_1001, xat_1002, xat_1003, xat_2001, xat_2002, xat_2003, List.getElem?_cons_succ, List.getElem?_cons_zero, xfn_0, xfn_1, xfn_2, xfn_3, x10, x01, not_true_eq_false, false_implies, implies_true, true_implies, xrm_c, xrm_s, xnl_4, xnl_32, xnl_64, xnl_256, xtn_4, xtn_32, xtn_64, xtn_256, Option.some.injEq, Sum.inl.injEq, Sum.inr.injEq, exists_eq_left', exists_eq_right, Option.toList_some, Option.toList_none, List.cons_append, List.nil_append, xE, lg_cmp_ge, lg_cmp_le, lg_cmp_gt, lg_cmp_lt, lg_cmp_eq, Nat.le_refl, Nat.zero_le, ne_eq, Nat.add_zero, dM_settle_0, dM_settle_1, dM_settle_2, dM_settle_3, dM_settle_4, dM_settle_5, dM_settle_8, dM_settle_9, dM_settle_10, dM_settle_13, dM_settle_14, dM_settle_17, dM_settle_18, dM_settle_19, dM_settle_20, dM_settle_22, dM_settle_24, dM_settle_25, dM_settle_28, dM_settle_31, dM_settle_32, dM_settle_35, dM_settle_37, dM_settle_38, dM_settle_40, dM_settle_43, dM_settle_46, dM_settle_47, dM_settle_50, dM_settle_51, dM_settle_52, dM_settle_55, dM_settle_58, dM_settle_59, dM_settle_61, dM_settle_63, dM_settle_64, dM_settle_67, dM_settle_70, dM_settle_71, dM_settle_74, dM_settle_76, dM_settle_77, dM_settle_80, dM_settle_83, dM_settle_84, dM_settle_87, dM_settle_89, dM_settle_90, dM_settle_93, dM_settle_95, dM_settle_96, dM_settle_99, dM_settle_100, dM_settle_101, dM_settle_104, dM_settle_106, dM_settle_107, dM_settle_108, dM_settle_111, dM_settle_114, dM_settle_117, dM_settle_118, dM_settle_119, dM_settle_120, dM_settle_121, dM_settle_122, dM_settle_125, dM_settle_126, dM_settle_129, dM_settle_132, dM_settle_133, dM_settle_134, dM_settle_137, dM_settle_138, xf_4_91, xf_4_74, xf_4_47, xf_4_41, xf_4_65, r24, c24, l24, n24, ink, e0, nI_1]
      exact go 0 (by rw [if_neg ht])
set_option maxHeartbeats 4000000 in
set_option maxRecDepth 100000 in
theorem d_fix_loop2 (hM : mWF M) {a s : Int32} {S0 : xS} {V : xKt} {Q : Option xVal → xS → Prop}
    (hV : xCl l D n0 4 cM_settle false (some .int) (xrm mM_settle 0 0) V (xE 0 0 Q))
    (hK : ∀ S o, rF S mo A (mfix M) → xFr tM S0 S → V 117 [some (.inr (.inr (some mo))), some (.inl a), some (.inl (nI (ncnt (mtight M) (M 12 0)))), some (.inl s), some o] [] S 0 0) :
    ∀ (n k : Nat) (S : xS), k ≤ M 12 0 → M 12 0 - k = n → rF S mo A (mst M (mtight M) (fun k => mgr (M 13 k)) (fun _ => 1) k) → (∀ j, j < M 12 0 → xi S (A 24) j = if mtight M j = true then 1 else 0) → xFr tM S0 S → V 61 [some (.inr (.inr (some mo))), some (.inl a), some (.inl (nI (ncnt (mtight M) k))), some (.inl s), some (.inl (nI k))] [] S 0 0 := by
  have hw := hM.1.2.2.1
  intro n
  induction n with
  | zero =>
    intro k S hk hn h hD hF
    have : k = M 12 0 := by omega
    subst this
    have hmo := h.mo
    have hs := h.s12
    rw [mst_f _ _ _ _ _ 12 0 (by decide)] at hs
    have ele : (nI (M 12 0) ≤ nI (M 12 0)) = True := eq_true (nI_le (Nat.le_refl _) (by omega))
    refine xrun_ok hV [117] 20 _ _ _ _ _ _ ?_
    simp (maxDischargeDepth := 60) only [xrun, xisc, ↓xstep, xget, xtgt, xcmp, xacmp, xprev, xisR, xnt, List.set, List.length, xsw, xlk, true_or, or_true, if_true, if_false, true_and, and_true, List.mem_cons, List.not_mem_nil, or_false, false_or, Bool.false_eq_true, reduceCtorEq, not_false_eq_true, forall_const, Nat.zero_add, Nat.reduceAdd, Nat.reduceSub, Int.reduceAdd, Int.reduceNeg, Int.reduceToNat, Nat.reduceEqDiff, Nat.reduceLT, Nat.reduceLeDiff, Int.reduceLE, Int.reduceLT, reduceIte, Int.cast_ofNat_Int, Int.natCast_zero, Int.natCast_one, Int.reduceAdd, eq_self, Int.reduceSub, List.length_cons, List.length_nil, xli_m1, xli_0, xli_1, xli_2, xli_3, xli_4, xli_5, xlb_8, xlb_12, xlb_31, xlb_32, xlb_64, xls_256, xls_513, xls_2048, xls_4096, xll_0, xll_1, xnr_i, xnr_0, xnr_1, xnr_ite, xft_i, xft_0, xft_1, xat_999, xat_1001, xat_1002, xat_1003, xat_2001, xat_2002, xat_2003, List.getElem?_cons_succ, List.getElem?_cons_zero, xfn_0, xfn_1, xfn_2, xfn_3, x10, x01, not_true_eq_false, false_implies, implies_true, true_implies, xrm_c, xrm_s, xnl_4, xnl_32, xnl_64, xnl_256, xtn_4, xtn_32, xtn_64, xtn_256, Option.some.injEq, Sum.inl.injEq, Sum.inr.injEq, exists_eq_left', exists_eq_right, Option.toList_some, Option.toList_none, List.cons_append, List.nil_append, xE, lg_cmp_ge, lg_cmp_le, lg_cmp_gt, lg_cmp_lt, lg_cmp_eq, Nat.le_refl, Nat.zero_le, ne_eq, Nat.add_zero, dM_settle_0, dM_settle_1, dM_settle_2, dM_settle_3, dM_settle_4, dM_settle_5, dM_settle_8, dM_settle_9, dM_settle_10, dM_settle_13, dM_settle_14, dM_settle_17, dM_settle_18, dM_settle_19, dM_settle_20, dM_settle_22, dM_settle_24, dM_settle_25, dM_settle_28, dM_settle_31, dM_settle_32, dM_settle_35, dM_settle_37, dM_settle_38, dM_settle_40, dM_settle_43, dM_settle_46, dM_settle_47, dM_settle_50, dM_settle_51, dM_settle_52, dM_settle_55, dM_settle_58, dM_settle_59, dM_settle_61, dM_settle_63, dM_settle_64, dM_settle_67, dM_settle_70, dM_settle_71, dM_settle_74, dM_settle_76, dM_settle_77, dM_settle_80, dM_settle_83, dM_settle_84, dM_settle_87, dM_settle_89, dM_settle_90, dM_settle_93, dM_settle_95, dM_settle_96, dM_settle_99, dM_settle_100, dM_settle_101, dM_settle_104, dM_settle_106, dM_settle_107, dM_settle_108, dM_settle_111, dM_settle_114, dM_settle_117, dM_settle_118, dM_settle_119, dM_settle_120, dM_settle_121, dM_settle_122, dM_settle_125, dM_settle_126, dM_settle_129, dM_settle_132, dM_settle_133, dM_settle_134, dM_settle_137, dM_settle_138, xf_4_91, xf_4_74, xf_4_47, xf_4_41, xf_4_65, hmo, hs, ele]
    exact hK S _ h hF
  | succ n ih =>
    intro k S hk hn h hD hF
    have hkl : k < M 12 0 := by omega
    have hmo := h.mo
    have hs := h.s12
    rw [mst_f _ _ _ _ _ 12 0 (by decide)] at hs
    have hk' : k < mst M (mtight M) (fun k => mgr (M 13 k)) (fun _ => 1) k 12 0 := by rw [mst_f _ _ _ _ _ 12 0 (by decide)]; exact hkl
    have r13 : xr S mo 13 = some (A 13) := h.ar 13 rfl
    have c13 : xc S (A 13) = 1002 := h.tg 13 rfl
    have l13 : xl S (A 13) = 256 := h.ln 13 rfl
    have n13 : (mo = A 13) = False := eq_false (fun e => h.nm (f := 13) rfl e.symm)
    have r15 : xr S mo 15 = some (A 15) := h.ar 15 rfl
    have c15 : xc S (A 15) = 1002 := h.tg 15 rfl
    have l15 : xl S (A 15) = 256 := h.ln 15 rfl
    have n15 : (mo = A 15) = False := eq_false (fun e => h.nm (f := 15) rfl e.symm)
    have r21 : xr S mo 21 = some (A 21) := h.ar 21 rfl
    have c21 : xc S (A 21) = 1003 := h.tg 21 rfl
    have l21 : xl S (A 21) = 256 := h.ln 21 rfl
    have n21 : (mo = A 21) = False := eq_false (fun e => h.nm (f := 21) rfl e.symm)
    have r24 : xr S mo 24 = some (A 24) := h.ar 24 rfl
    have c24 : xc S (A 24) = 1002 := h.tg 24 rfl
    have l24 : xl S (A 24) = 256 := h.ln 24 rfl
    have n24 : (mo = A 24) = False := eq_false (fun e => h.nm (f := 24) rfl e.symm)
    have v13 := h.v13 hk'
    rw [mst_f _ _ _ _ _ 13 k (by decide)] at v13
    have v24 := hD k hkl
    have ink : vp_in (nI k) 256 := vp_in_nI (by omega) (by decide)
    have e0 : (nI k).toNatClampNeg = k := nI_clamp (by omega)
    have ele : (nI (M 12 0) ≤ nI k) = False := eq_false (nI_ge hkl (by omega))
    by_cases ht : mtight M k = true
    · rw [if_pos ht] at v24
      have ec : ncnt (mtight M) (k + 1) = ncnt (mtight M) k + 1 := by simp [ncnt, nsum, ht]
      refine xrun_ok hV [] 30 _ _ _ _ _ _ ?_
      simp (maxDischargeDepth := 60) only [xrun, xisc, ↓xstep, xget, xtgt, xcmp, xacmp, xprev, xisR, xnt, List.set, List.length, xsw, xlk, true_or, or_true, if_true, if_false, true_and, and_true, List.mem_cons, List.not_mem_nil, or_false, false_or, Bool.false_eq_true, reduceCtorEq, not_false_eq_true, forall_const, Nat.zero_add, Nat.reduceAdd, Nat.reduceSub, Int.reduceAdd, Int.reduceNeg, Int.reduceToNat, Nat.reduceEqDiff, Nat.reduceLT, Nat.reduceLeDiff, Int.reduceLE, Int.reduceLT, reduceIte, Int.cast_ofNat_Int, Int.natCast_zero, Int.natCast_one, Int.reduceAdd, eq_self, Int.reduceSub, List.length_cons, List.length_nil, xli_m1, xli_0, xli_1, xli_2, xli_3, xli_4, xli_5, xlb_8, xlb_12, xlb_31, xlb_32, xlb_64, xls_256, xls_513, xls_2048, xls_4096, xll_0, xll_1, xnr_i, xnr_0, xnr_1, xnr_ite, xft_i, xft_0, xft_1, xat_999, xat_1001, xat_1002, xat_1003, xat_2001, xat_2002, xat_2003, List.getElem?_cons_succ, List.getElem?_cons_zero, xfn_0, xfn_1, xfn_2, xfn_3, x10, x01, not_true_eq_false, false_implies, implies_true, true_implies, xrm_c, xrm_s, xnl_4, xnl_32, xnl_64, xnl_256, xtn_4, xtn_32, xtn_64, xtn_256, Option.some.injEq, Sum.inl.injEq, Sum.inr.injEq, exists_eq_left', exists_eq_right, Option.toList_some, Option.toList_none, List.cons_append, List.nil_append, xE, lg_cmp_ge, lg_cmp_le, lg_cmp_gt, lg_cmp_lt, lg_cmp_eq, Nat.le_refl, Nat.zero_le, ne_eq, Nat.add_zero, dM_settle_0, dM_settle_1, dM_settle_2, dM_settle_3, dM_settle_4, dM_settle_5, dM_settle_8, dM_settle_9, dM_settle_10, dM_settle_13, dM_settle_14, dM_settle_17, dM_settle_18, dM_settle_19, dM_settle_20, dM_settle_22, dM_settle_24, dM_settle_25, dM_settle_28, dM_settle_31, dM_settle_32, dM_settle_35, dM_settle_37, dM_settle_38, dM_settle_40, dM_settle_43, dM_settle_46, dM_settle_47, dM_settle_50, dM_settle_51, dM_settle_52, dM_settle_55, dM_settle_58, dM_settle_59, dM_settle_61, dM_settle_63, dM_settle_64, dM_settle_67, dM_settle_70, dM_settle_71, dM_settle_74, dM_settle_76, dM_settle_77, dM_settle_80, dM_settle_83, dM_settle_84, dM_settle_87, dM_settle_89, dM_settle_90, dM_settle_93, dM_settle_95, dM_settle_96, dM_settle_99, dM_settle_100, dM_settle_101, dM_settle_104, dM_settle_106, dM_settle_107, dM_settle_108, dM_settle_111, dM_settle_114, dM_settle_117, dM_settle_118, dM_settle_119, dM_settle_120, dM_settle_121, dM_settle_122, dM_settle_125, dM_settle_126, dM_settle_129, dM_settle_132, dM_settle_133, dM_settle_134, dM_settle_137, dM_settle_138, xf_4_91, xf_4_74, xf_4_47, xf_4_41, xf_4_65, hmo, hs, ele, r24, c24, l24, n24, r15, c15, l15, n15, r13, c13, l13, n13, ink, e0, v24, v13]
      refine hV.call [.inl (nI k), .inr (.inr (some (A 15)))] xh_4_131 dM_settle_96 (d_greatest S (hM.2.2.2.1 k hkl).1) (Or.inl rfl) rfl rfl (Nat.le_of_ble_eq_true rfl) (by decide) (by decide) ?_
      rintro r S' ⟨rfl, rfl⟩
      refine xrun_ok hV [61] 20 _ _ _ _ _ _ ?_
      simp (maxDischargeDepth := 60) only [xrun, xisc, ↓xstep, xget, xtgt, xcmp, xacmp, xprev, xisR, xnt, List.set, List.length, xsw, xlk, true_or, or_true, if_true, if_false, true_and, and_true, List.mem_cons, List.not_mem_nil, or_false, false_or, Bool.false_eq_true, reduceCtorEq, not_false_eq_true, forall_const, Nat.zero_add, Nat.reduceAdd, Nat.reduceSub, Int.reduceAdd, Int.reduceNeg, Int.reduceToNat, Nat.reduceEqDiff, Nat.reduceLT, Nat.reduceLeDiff, Int.reduceLE, Int.reduceLT, reduceIte, Int.cast_ofNat_Int, Int.natCast_zero, Int.natCast_one, Int.reduceAdd, eq_self, Int.reduceSub, List.length_cons, List.length_nil, xli_m1, xli_0, xli_1, xli_2, xli_3, xli_4, xli_5, xlb_8, xlb_12, xlb_31, xlb_32, xlb_64, xls_256, xls_513, xls_2048, xls_4096, xll_0, xll_1, xnr_i, xnr_0, xnr_1, xnr_ite, xft_i, xft_0, xft_1, xat_999, xat_1001, xat_1002, xat_1003, xat_2001, xat_2002, xat_2003, List.getElem?_cons_succ, List.getElem?_cons_zero, xfn_0, xfn_1, xfn_2, xfn_3, x10, x01, not_true_eq_false, false_implies, implies_true, true_implies, xrm_c, xrm_s, xnl_4, xnl_32, xnl_64, xnl_256, xtn_4, xtn_32, xtn_64, xtn_256, Option.some.injEq, Sum.inl.injEq, Sum.inr.injEq, exists_eq_left', exists_eq_right, Option.toList_some, Option.toList_none, List.cons_append, List.nil_append, xE, lg_cmp_ge, lg_cmp_le, lg_cmp_gt, lg_cmp_lt, lg_cmp_eq, Nat.le_refl, Nat.zero_le, ne_eq, Nat.add_zero, dM_settle_0, dM_settle_1, dM_settle_2, dM_settle_3, dM_settle_4, dM_settle_5, dM_settle_8, dM_settle_9, dM_settle_10, dM_settle_13, dM_settle_14, dM_settle_17, dM_settle_18, dM_settle_19, dM_settle_20, dM_settle_22, dM_settle_24, dM_settle_25, dM_settle_28, dM_settle_31, dM_settle_32, dM_settle_35, dM_settle_37, dM_settle_38, dM_settle_40, dM_settle_43, dM_settle_46, dM_settle_47, dM_settle_50, dM_settle_51, dM_settle_52, dM_settle_55, dM_settle_58, dM_settle_59, dM_settle_61, dM_settle_63, dM_settle_64, dM_settle_67, dM_settle_70, dM_settle_71, dM_settle_74, dM_settle_76, dM_settle_77, dM_settle_80, dM_settle_83, dM_settle_84, dM_settle_87, dM_settle_89, dM_settle_90, dM_settle_93, dM_settle_95, dM_settle_96, dM_settle_99, dM_settle_100, dM_settle_101, dM_settle_104, dM_settle_106, dM_settle_107, dM_settle_108, dM_settle_111, dM_settle_114, dM_settle_117, dM_settle_118, dM_settle_119, dM_settle_120, dM_settle_121, dM_settle_122, dM_settle_125, dM_settle_126, dM_settle_129, dM_settle_132, dM_settle_133, dM_settle_134, dM_settle_137, dM_settle_138, xf_4_91, xf_4_74, xf_4_47, xf_4_41, xf_4_65, hmo, r15, c15, l15, n15, r21, c21, l21, n21, ink, e0, nI_1, xc_pi, xr_pi, xl_pi]
      rw [← ec]
      refine ih (k + 1) _ (by omega) (by omega) (rF_st2 hM mVok_fix h hkl ht) (fun j hj => ?_) (hF.tr ((xFr.ar h.2.1 (f := 15) rfl _ _).tr (xFr.ar (h.2.1.pi _ _ _) (f := 21) rfl _ _)))
      rw [h.2.1.xo 24 21 rfl rfl (by decide), h.2.1.xo 24 15 rfl rfl (by decide)]
      exact hD j hj
    · rw [if_neg ht] at v24
      have ec : ncnt (mtight M) (k + 1) = ncnt (mtight M) k := by simp [ncnt, nsum, ht]
      refine xrun_ok hV [61] 30 _ _ _ _ _ _ ?_
      simp (maxDischargeDepth := 60) only [xrun, xisc, ↓xstep, xget, xtgt, xcmp, xacmp, xprev, xisR, xnt, List.set, List.length, xsw, xlk, true_or, or_true, if_true, if_false, true_and, and_true, List.mem_cons, List.not_mem_nil, or_false, false_or, Bool.false_eq_true, reduceCtorEq, not_false_eq_true, forall_const, Nat.zero_add, Nat.reduceAdd, Nat.reduceSub, Int.reduceAdd, Int.reduceNeg, Int.reduceToNat, Nat.reduceEqDiff, Nat.reduceLT, Nat.reduceLeDiff, Int.reduceLE, Int.reduceLT, reduceIte, Int.cast_ofNat_Int, Int.natCast_zero, Int.natCast_one, Int.reduceAdd, eq_self, Int.reduceSub, List.length_cons, List.length_nil, xli_m1, xli_0, xli_1, xli_2, xli_3, xli_4, xli_5, xlb_8, xlb_12, xlb_31, xlb_32, xlb_64, xls_256, xls_513, xls_2048, xls_4096, xll_0, xll_1, xnr_i, xnr_0, xnr_1, xnr_ite, xft_i, xft_0, xft_1, xat_999, xat_1001, xat_1002, xat_1003, xat_2001, xat_2002, xat_2003, List.getElem?_cons_succ, List.getElem?_cons_zero, xfn_0, xfn_1, xfn_2, xfn_3, x10, x01, not_true_eq_false, false_implies, implies_true, true_implies, xrm_c, xrm_s, xnl_4, xnl_32, xnl_64, xnl_256, xtn_4, xtn_32, xtn_64, xtn_256, Option.some.injEq, Sum.inl.injEq, Sum.inr.injEq, exists_eq_left', exists_eq_right, Option.toList_some, Option.toList_none, List.cons_append, List.nil_append, xE, lg_cmp_ge, lg_cmp_le, lg_cmp_gt, lg_cmp_lt, lg_cmp_eq, Nat.le_refl, Nat.zero_le, ne_eq, Nat.add_zero, dM_settle_0, dM_settle_1, dM_settle_2, dM_settle_3, dM_settle_4, dM_settle_5, dM_settle_8, dM_settle_9, dM_settle_10, dM_settle_13, dM_settle_14, dM_settle_17, dM_settle_18, dM_settle_19, dM_settle_20, dM_settle_22, dM_settle_24, dM_settle_25, dM_settle_28, dM_settle_31, dM_settle_32, dM_settle_35, dM_settle_37, dM_settle_38, dM_settle_40, dM_settle_43, dM_settle_46, dM_settle_47, dM_settle_50, dM_settle_51, dM_settle_52, dM_settle_55, dM_settle_58, dM_settle_59, dM_settle_61, dM_settle_63, dM_settle_64, dM_settle_67, dM_settle_70, dM_settle_71, dM_settle_74, dM_settle_76, dM_settle_77, dM_settle_80, dM_settle_83, dM_settle_84, dM_settle_87, dM_settle_89, dM_settle_90, dM_settle_93, dM_settle_95, dM_settle_96, dM_settle_99, dM_settle_100, dM_settle_101, dM_settle_104, dM_settle_106, dM_settle_107, dM_settle_108, dM_settle_111, dM_settle_114, dM_settle_117, dM_settle_118, dM_settle_119, dM_settle_120, dM_settle_121, dM_settle_122, dM_settle_125, dM_settle_126, dM_settle_129, dM_settle_132, dM_settle_133, dM_settle_134, dM_settle_137, dM_settle_138, xf_4_91, xf_4_74, xf_4_47, xf_4_41, xf_4_65, hmo, hs, ele, r24, c24, l24, n24, ink, e0, v24, nI_1]
      rw [← ec]
      exact ih (k + 1) S (by omega) (by omega) (by rw [mst_skip _ _ _ _ _ (by simpa using ht)]; exact h) hD hF
set_option maxHeartbeats 4000000 in
set_option maxRecDepth 100000 in
theorem d_settle_loop {S0 : xS} {V : xKt} {Q : Option xVal → xS → Prop}
    (hV : xCl l D n0 4 cM_settle false (some .int) (xrm mM_settle 0 0) V (xE 0 0 Q)) :
    ∀ (f a c : Nat) (M : mT) (S : xS) (s : Int32), munf M < f → 0 < c → c ≤ 256 → rFx S mo (mshr 513 M).2 → xFr tM S0 S → (∀ S1, rFx S1 mo (msetl f M).2 → xFr tM S0 S1 → Q (some (.inl (nI (a + (msetl f M).1)))) S1) → V 9 [some (.inr (.inr (some mo))), some (.inl (nI a)), some (.inl (nI c)), some (.inl s), none] [] S 0 0 := by
  intro f
  induction f with
  | zero => intro a c M S s hm; omega
  | succ f ih =>
    intro a c M S s hm hc hc2 h hF hQ
    have hu := munf_shr 513 M
    rw [msetl] at hQ
    generalize hN : (mshr 513 M).2 = N at h hQ hu
    obtain ⟨A, h⟩ := h
    have hmo := h.mo
    have hmf := munf_fix h.1
    have hcl := ncnt_le (mtight N) (N 12 0)
    have hw := h.1.1.2.2.1
    have e1 : (nI c ≤ 0) = False := by rw [nI_le0 (by omega)]; simp; omega
    refine xrun_ok hV [] 20 _ _ _ _ _ _ ?_
    simp (maxDischargeDepth := 60) only [xrun, xisc, ↓xstep, xget, xtgt, xcmp, xacmp, xprev, xisR, xnt, List.set, List.length, xsw, xlk, true_or, or_true, if_true, if_false, true_and, and_true, List.mem_cons, List.not_mem_nil, or_false, false_or, Bool.false_eq_true, reduceCtorEq, not_false_eq_true, forall_const, Nat.zero_add, Nat.reduceAdd, Nat.reduceSub, Int.reduceAdd, Int.reduceNeg, Int.reduceToNat, Nat.reduceEqDiff, Nat.reduceLT, Nat.reduceLeDiff, Int.reduceLE, Int.reduceLT, reduceIte, Int.cast_ofNat_Int, Int.natCast_zero, Int.natCast_one, Int.reduceAdd, eq_self, Int.reduceSub, List.length_cons, List.length_nil, xli_m1, xli_0, xli_1, xli_2, xli_3, xli_4, xli_5, xlb_8, xlb_12, xlb_31, xlb_32, xlb_64, xls_256, xls_513, xls_2048, xls_4096, xll_0, xll_1, xnr_i, xnr_0, xnr_1, xnr_ite, xft_i, xft_0, xft_1, xat_999, xat_1001, xat_1002, xat_1003, xat_2001, xat_2002, xat_2003, List.getElem?_cons_succ, List.getElem?_cons_zero, xfn_0, xfn_1, xfn_2, xfn_3, x10, x01, not_true_eq_false, false_implies, implies_true, true_implies, xrm_c, xrm_s, xnl_4, xnl_32, xnl_64, xnl_256, xtn_4, xtn_32, xtn_64, xtn_256, Option.some.injEq, Sum.inl.injEq, Sum.inr.injEq, exists_eq_left', exists_eq_right, Option.toList_some, Option.toList_none, List.cons_append, List.nil_append, xE, lg_cmp_ge, lg_cmp_le, lg_cmp_gt, lg_cmp_lt, lg_cmp_eq, Nat.le_refl, Nat.zero_le, ne_eq, Nat.add_zero, dM_settle_0, dM_settle_1, dM_settle_2, dM_settle_3, dM_settle_4, dM_settle_5, dM_settle_8, dM_settle_9, dM_settle_10, dM_settle_13, dM_settle_14, dM_settle_17, dM_settle_18, dM_settle_19, dM_settle_20, dM_settle_22, dM_settle_24, dM_settle_25, dM_settle_28, dM_settle_31, dM_settle_32, dM_settle_35, dM_settle_37, dM_settle_38, dM_settle_40, dM_settle_43, dM_settle_46, dM_settle_47, dM_settle_50, dM_settle_51, dM_settle_52, dM_settle_55, dM_settle_58, dM_settle_59, dM_settle_61, dM_settle_63, dM_settle_64, dM_settle_67, dM_settle_70, dM_settle_71, dM_settle_74, dM_settle_76, dM_settle_77, dM_settle_80, dM_settle_83, dM_settle_84, dM_settle_87, dM_settle_89, dM_settle_90, dM_settle_93, dM_settle_95, dM_settle_96, dM_settle_99, dM_settle_100, dM_settle_101, dM_settle_104, dM_settle_106, dM_settle_107, dM_settle_108, dM_settle_111, dM_settle_114, dM_settle_117, dM_settle_118, dM_settle_119, dM_settle_120, dM_settle_121, dM_settle_122, dM_settle_125, dM_settle_126, dM_settle_129, dM_settle_132, dM_settle_133, dM_settle_134, dM_settle_137, dM_settle_138, xf_4_91, xf_4_74, xf_4_47, xf_4_41, xf_4_65, e1]
    refine hV.call [] xh_4_170 dM_settle_14 (d_reckon h) (Or.inr ⟨_, _, rfl, fun _ => hmo⟩) rfl rfl (by decide) (by decide) (by decide) ?_
    rintro r S1 ⟨rfl, g1, g2, g3⟩
    refine xrun_ok hV [22] 20 _ _ _ _ _ _ ?_
    simp (maxDischargeDepth := 60) only [xrun, xisc, ↓xstep, xget, xtgt, xcmp, xacmp, xprev, xisR, xnt, List.set, List.length, xsw, xlk, true_or, or_true, if_true, if_false, true_and, and_true, List.mem_cons, List.not_mem_nil, or_false, false_or, Bool.false_eq_true, reduceCtorEq, not_false_eq_true, forall_const, Nat.zero_add, Nat.reduceAdd, Nat.reduceSub, Int.reduceAdd, Int.reduceNeg, Int.reduceToNat, Nat.reduceEqDiff, Nat.reduceLT, Nat.reduceLeDiff, Int.reduceLE, Int.reduceLT, reduceIte, Int.cast_ofNat_Int, Int.natCast_zero, Int.natCast_one, Int.reduceAdd, eq_self, Int.reduceSub, List.length_cons, List.length_nil, xli_m1, xli_0, xli_1, xli_2, xli_3, xli_4, xli_5, xlb_8, xlb_12, xlb_31, xlb_32, xlb_64, xls_256, xls_513, xls_2048, xls_4096, xll_0, xll_1, xnr_i, xnr_0, xnr_1, xnr_ite, xft_i, xft_0, xft_1, xat_999, xat_1001, xat_1002, xat_1003, xat_2001, xat_2002, xat_2003, List.getElem?_cons_succ, List.getElem?_cons_zero, xfn_0, xfn_1, xfn_2, xfn_3, x10, x01, not_true_eq_false, false_implies, implies_true, true_implies, xrm_c, xrm_s, xnl_4, xnl_32, xnl_64, xnl_256, xtn_4, xtn_32, xtn_64, xtn_256, Option.some.injEq, Sum.inl.injEq, Sum.inr.injEq, exists_eq_left', exists_eq_right, Option.toList_some, Option.toList_none, List.cons_append, List.nil_append, xE, lg_cmp_ge, lg_cmp_le, lg_cmp_gt, lg_cmp_lt, lg_cmp_eq, Nat.le_refl, Nat.zero_le, ne_eq, Nat.add_zero, dM_settle_0, dM_settle_1, dM_settle_2, dM_settle_3, dM_settle_4, dM_settle_5, dM_settle_8, dM_settle_9, dM_settle_10, dM_settle_13, dM_settle_14, dM_settle_17, dM_settle_18, dM_settle_19, dM_settle_20, dM_settle_22, dM_settle_24, dM_settle_25, dM_settle_28, dM_settle_31, dM_settle_32, dM_settle_35, dM_settle_37, dM_settle_38, dM_settle_40, dM_settle_43, dM_settle_46, dM_settle_47, dM_settle_50, dM_settle_51, dM_settle_52, dM_settle_55, dM_settle_58, dM_settle_59, dM_settle_61, dM_settle_63, dM_settle_64, dM_settle_67, dM_settle_70, dM_settle_71, dM_settle_74, dM_settle_76, dM_settle_77, dM_settle_80, dM_settle_83, dM_settle_84, dM_settle_87, dM_settle_89, dM_settle_90, dM_settle_93, dM_settle_95, dM_settle_96, dM_settle_99, dM_settle_100, dM_settle_101, dM_settle_104, dM_settle_106, dM_settle_107, dM_settle_108, dM_settle_111, dM_settle_114, dM_settle_117, dM_settle_118, dM_settle_119, dM_settle_120, dM_settle_121, dM_settle_122, dM_settle_125, dM_settle_126, dM_settle_129, dM_settle_132, dM_settle_133, dM_settle_134, dM_settle_137, dM_settle_138, xf_4_91, xf_4_74, xf_4_47, xf_4_41, xf_4_65]
    refine d_fix_loop1 (S0 := S0) hV (fun S2 o w1 w2 w3 => ?_) (N 12 0) 0 S1 (Nat.zero_le _) (by omega) g1 g3 (hF.tr g2) (fun j hj => absurd hj (by omega))
    refine xrun_ok hV [61] 20 _ _ _ _ _ _ ?_
    simp (maxDischargeDepth := 60) only [xrun, xisc, ↓xstep, xget, xtgt, xcmp, xacmp, xprev, xisR, xnt, List.set, List.length, xsw, xlk, true_or, or_true, if_true, if_false, true_and, and_true, List.mem_cons, List.not_mem_nil, or_false, false_or, Bool.false_eq_true, reduceCtorEq, not_false_eq_true, forall_const, Nat.zero_add, Nat.reduceAdd, Nat.reduceSub, Int.reduceAdd, Int.reduceNeg, Int.reduceToNat, Nat.reduceEqDiff, Nat.reduceLT, Nat.reduceLeDiff, Int.reduceLE, Int.reduceLT, reduceIte, Int.cast_ofNat_Int, Int.natCast_zero, Int.natCast_one, Int.reduceAdd, eq_self, Int.reduceSub, List.length_cons, List.length_nil, xli_m1, xli_0, xli_1, xli_2, xli_3, xli_4, xli_5, xlb_8, xlb_12, xlb_31, xlb_32, xlb_64, xls_256, xls_513, xls_2048, xls_4096, xll_0, xll_1, xnr_i, xnr_0, xnr_1, xnr_ite, xft_i, xft_0, xft_1, xat_999, xat_1001, xat_1002, xat_1003, xat_2001, xat_2002, xat_2003, List.getElem?_cons_succ, List.getElem?_cons_zero, xfn_0, xfn_1, xfn_2, xfn_3, x10, x01, not_true_eq_false, false_implies, implies_true, true_implies, xrm_c, xrm_s, xnl_4, xnl_32, xnl_64, xnl_256, xtn_4, xtn_32, xtn_64, xtn_256, Option.some.injEq, Sum.inl.injEq, Sum.inr.injEq, exists_eq_left', exists_eq_right, Option.toList_some, Option.toList_none, List.cons_append, List.nil_append, xE, lg_cmp_ge, lg_cmp_le, lg_cmp_gt, lg_cmp_lt, lg_cmp_eq, Nat.le_refl, Nat.zero_le, ne_eq, Nat.add_zero, dM_settle_0, dM_settle_1, dM_settle_2, dM_settle_3, dM_settle_4, dM_settle_5, dM_settle_8, dM_settle_9, dM_settle_10, dM_settle_13, dM_settle_14, dM_settle_17, dM_settle_18, dM_settle_19, dM_settle_20, dM_settle_22, dM_settle_24, dM_settle_25, dM_settle_28, dM_settle_31, dM_settle_32, dM_settle_35, dM_settle_37, dM_settle_38, dM_settle_40, dM_settle_43, dM_settle_46, dM_settle_47, dM_settle_50, dM_settle_51, dM_settle_52, dM_settle_55, dM_settle_58, dM_settle_59, dM_settle_61, dM_settle_63, dM_settle_64, dM_settle_67, dM_settle_70, dM_settle_71, dM_settle_74, dM_settle_76, dM_settle_77, dM_settle_80, dM_settle_83, dM_settle_84, dM_settle_87, dM_settle_89, dM_settle_90, dM_settle_93, dM_settle_95, dM_settle_96, dM_settle_99, dM_settle_100, dM_settle_101, dM_settle_104, dM_settle_106, dM_settle_107, dM_settle_108, dM_settle_111, dM_settle_114, dM_settle_117, dM_settle_118, dM_settle_119, dM_settle_120, dM_settle_121, dM_settle_122, dM_settle_125, dM_settle_126, dM_settle_129, dM_settle_132, dM_settle_133, dM_settle_134, dM_settle_137, dM_settle_138, xf_4_91, xf_4_74, xf_4_47, xf_4_41, xf_4_65]
    refine d_fix_loop2 (S0 := S0) h.1 hV (fun S3 o y1 y2 => ?_) (N 12 0) 0 S2 (Nat.zero_le _) (by omega) (by rw [mst_0]; exact w1) w3 w2
    have ez := nI_le0 (c := ncnt (mtight N) (N 12 0)) (by omega)
    by_cases z : ncnt (mtight N) (N 12 0) = 0
    · have ez' : (nI (ncnt (mtight N) (N 12 0)) ≤ 0) = True := by rw [ez]; simp [z]
      rw [if_pos z] at hQ
      refine xrun_ok hV [] 30 _ _ _ _ _ _ ?_
      simp (maxDischargeDepth := 60) only [xrun, xisc, ↓xstep, xget, xtgt, xcmp, xacmp, xprev, xisR, xnt, List.set, List.length, xsw, xlk, true_or, or_true, if_true, if_false, true_and, and_true, List.mem_cons, List.not_mem_nil, or_false, false_or, Bool.false_eq_true, reduceCtorEq, not_false_eq_true, forall_const, Nat.zero_add, Nat.reduceAdd, Nat.reduceSub, Int.reduceAdd, Int.reduceNeg, Int.reduceToNat, Nat.reduceEqDiff, Nat.reduceLT, Nat.reduceLeDiff, Int.reduceLE, Int.reduceLT, reduceIte, Int.cast_ofNat_Int, Int.natCast_zero, Int.natCast_one, Int.reduceAdd, eq_self, Int.reduceSub, List.length_cons, List.length_nil, xli_m1, xli_0, xli_1, xli_2, xli_3, xli_4, xli_5, xlb_8, xlb_12, xlb_31, xlb_32, xlb_64, xls_256, xls_513, xls_2048, xls_4096, xll_0, xll_1, xnr_i, xnr_0, xnr_1, xnr_ite, xft_i, xft_0, xft_1, xat_999, xat_1001, xat_1002, xat_1003, xat_2001, xat_2002, xat_2003, List.getElem?_cons_succ, List.getElem?_cons_zero, xfn_0, xfn_1, xfn_2, xfn_3, x10, x01, not_true_eq_false, false_implies, implies_true, true_implies, xrm_c, xrm_s, xnl_4, xnl_32, xnl_64, xnl_256, xtn_4, xtn_32, xtn_64, xtn_256, Option.some.injEq, Sum.inl.injEq, Sum.inr.injEq, exists_eq_left', exists_eq_right, Option.toList_some, Option.toList_none, List.cons_append, List.nil_append, xE, lg_cmp_ge, lg_cmp_le, lg_cmp_gt, lg_cmp_lt, lg_cmp_eq, Nat.le_refl, Nat.zero_le, ne_eq, Nat.add_zero, dM_settle_0, dM_settle_1, dM_settle_2, dM_settle_3, dM_settle_4, dM_settle_5, dM_settle_8, dM_settle_9, dM_settle_10, dM_settle_13, dM_settle_14, dM_settle_17, dM_settle_18, dM_settle_19, dM_settle_20, dM_settle_22, dM_settle_24, dM_settle_25, dM_settle_28, dM_settle_31, dM_settle_32, dM_settle_35, dM_settle_37, dM_settle_38, dM_settle_40, dM_settle_43, dM_settle_46, dM_settle_47, dM_settle_50, dM_settle_51, dM_settle_52, dM_settle_55, dM_settle_58, dM_settle_59, dM_settle_61, dM_settle_63, dM_settle_64, dM_settle_67, dM_settle_70, dM_settle_71, dM_settle_74, dM_settle_76, dM_settle_77, dM_settle_80, dM_settle_83, dM_settle_84, dM_settle_87, dM_settle_89, dM_settle_90, dM_settle_93, dM_settle_95, dM_settle_96, dM_settle_99, dM_settle_100, dM_settle_101, dM_settle_104, dM_settle_106, dM_settle_107, dM_settle_108, dM_settle_111, dM_settle_114, dM_settle_117, dM_settle_118, dM_settle_119, dM_settle_120, dM_settle_121, dM_settle_122, dM_settle_125, dM_settle_126, dM_settle_129, dM_settle_132, dM_settle_133, dM_settle_134, dM_settle_137, dM_settle_138, xf_4_91, xf_4_74, xf_4_47, xf_4_41, xf_4_65, ez', nI_add]
      rw [z]
      exact hQ S3 ⟨A, y1⟩ y2
    · have ez' : (nI (ncnt (mtight N) (N 12 0)) ≤ 0) = False := by rw [ez]; simp [z]
      rw [if_neg z] at hQ
      have y1x : rFx S3 mo (mfix N) := ⟨A, y1⟩
      refine xrun_ok hV [] 30 _ _ _ _ _ _ ?_
      simp (maxDischargeDepth := 60) only [xrun, xisc, ↓xstep, xget, xtgt, xcmp, xacmp, xprev, xisR, xnt, List.set, List.length, xsw, xlk, true_or, or_true, if_true, if_false, true_and, and_true, List.mem_cons, List.not_mem_nil, or_false, false_or, Bool.false_eq_true, reduceCtorEq, not_false_eq_true, forall_const, Nat.zero_add, Nat.reduceAdd, Nat.reduceSub, Int.reduceAdd, Int.reduceNeg, Int.reduceToNat, Nat.reduceEqDiff, Nat.reduceLT, Nat.reduceLeDiff, Int.reduceLE, Int.reduceLT, reduceIte, Int.cast_ofNat_Int, Int.natCast_zero, Int.natCast_one, Int.reduceAdd, eq_self, Int.reduceSub, List.length_cons, List.length_nil, xli_m1, xli_0, xli_1, xli_2, xli_3, xli_4, xli_5, xlb_8, xlb_12, xlb_31, xlb_32, xlb_64, xls_256, xls_513, xls_2048, xls_4096, xll_0, xll_1, xnr_i, xnr_0, xnr_1, xnr_ite, xft_i, xft_0, xft_1, xat_999, xat_1001, xat_1002, xat_1003, xat_2001, xat_2002, xat_2003, List.getElem?_cons_succ, List.getElem?_cons_zero, xfn_0, xfn_1, xfn_2, xfn_3, x10, x01, not_true_eq_false, false_implies, implies_true, true_implies, xrm_c, xrm_s, xnl_4, xnl_32, xnl_64, xnl_256, xtn_4, xtn_32, xtn_64, xtn_256, Option.some.injEq, Sum.inl.injEq, Sum.inr.injEq, exists_eq_left', exists_eq_right, Option.toList_some, Option.toList_none, List.cons_append, List.nil_append, xE, lg_cmp_ge, lg_cmp_le, lg_cmp_gt, lg_cmp_lt, lg_cmp_eq, Nat.le_refl, Nat.zero_le, ne_eq, Nat.add_zero, dM_settle_0, dM_settle_1, dM_settle_2, dM_settle_3, dM_settle_4, dM_settle_5, dM_settle_8, dM_settle_9, dM_settle_10, dM_settle_13, dM_settle_14, dM_settle_17, dM_settle_18, dM_settle_19, dM_settle_20, dM_settle_22, dM_settle_24, dM_settle_25, dM_settle_28, dM_settle_31, dM_settle_32, dM_settle_35, dM_settle_37, dM_settle_38, dM_settle_40, dM_settle_43, dM_settle_46, dM_settle_47, dM_settle_50, dM_settle_51, dM_settle_52, dM_settle_55, dM_settle_58, dM_settle_59, dM_settle_61, dM_settle_63, dM_settle_64, dM_settle_67, dM_settle_70, dM_settle_71, dM_settle_74, dM_settle_76, dM_settle_77, dM_settle_80, dM_settle_83, dM_settle_84, dM_settle_87, dM_settle_89, dM_settle_90, dM_settle_93, dM_settle_95, dM_settle_96, dM_settle_99, dM_settle_100, dM_settle_101, dM_settle_104, dM_settle_106, dM_settle_107, dM_settle_108, dM_settle_111, dM_settle_114, dM_settle_117, dM_settle_118, dM_settle_119, dM_settle_120, dM_settle_121, dM_settle_122, dM_settle_125, dM_settle_126, dM_settle_129, dM_settle_132, dM_settle_133, dM_settle_134, dM_settle_137, dM_settle_138, xf_4_91, xf_4_74, xf_4_47, xf_4_41, xf_4_65, ez', nI_add]
      refine hV.call [] xh_4_180 dM_settle_126 (d_shrink y1x) (Or.inr ⟨_, _, rfl, fun _ => y1.mo⟩) rfl rfl (by decide) (by decide) (by decide) ?_
      rintro r S4 ⟨rfl, k1, k2⟩
      refine xrun_ok hV [9] 20 _ _ _ _ _ _ ?_
      simp (maxDischargeDepth := 60) only [xrun, xisc, ↓xstep, xget, xtgt, xcmp, xacmp, xprev, xisR, xnt, List.set, List.length, xsw, xlk, true_or, or_true, if_true, if_false, true_and, and_true, List.mem_cons, List.not_mem_nil, or_false, false_or, Bool.false_eq_true, reduceCtorEq, not_false_eq_true, forall_const, Nat.zero_add, Nat.reduceAdd, Nat.reduceSub, Int.reduceAdd, Int.reduceNeg, Int.reduceToNat, Nat.reduceEqDiff, Nat.reduceLT, Nat.reduceLeDiff, Int.reduceLE, Int.reduceLT, reduceIte, Int.cast_ofNat_Int, Int.natCast_zero, Int.natCast_one, Int.reduceAdd, eq_self, Int.reduceSub, List.length_cons, List.length_nil, xli_m1, xli_0, xli_1, xli_2, xli_3, xli_4, xli_5, xlb_8, xlb_12, xlb_31, xlb_32, xlb_64, xls_256, xls_513, xls_2048, xls_4096, xll_0, xll_1, xnr_i, xnr_0, xnr_1, xnr_ite, xft_i, xft_0, xft_1, xat_999, xat_1001, xat_1002, xat_1003, xat_2001, xat_2002, xat_2003, List.getElem?_cons_succ, List.getElem?_cons_zero, xfn_0, xfn_1, xfn_2, xfn_3, x10, x01, not_true_eq_false, false_implies, implies_true, true_implies, xrm_c, xrm_s, xnl_4, xnl_32, xnl_64, xnl_256, xtn_4, xtn_32, xtn_64, xtn_256, Option.some.injEq, Sum.inl.injEq, Sum.inr.injEq, exists_eq_left', exists_eq_right, Option.toList_some, Option.toList_none, List.cons_append, List.nil_append, xE, lg_cmp_ge, lg_cmp_le, lg_cmp_gt, lg_cmp_lt, lg_cmp_eq, Nat.le_refl, Nat.zero_le, ne_eq, Nat.add_zero, dM_settle_0, dM_settle_1, dM_settle_2, dM_settle_3, dM_settle_4, dM_settle_5, dM_settle_8, dM_settle_9, dM_settle_10, dM_settle_13, dM_settle_14, dM_settle_17, dM_settle_18, dM_settle_19, dM_settle_20, dM_settle_22, dM_settle_24, dM_settle_25, dM_settle_28, dM_settle_31, dM_settle_32, dM_settle_35, dM_settle_37, dM_settle_38, dM_settle_40, dM_settle_43, dM_settle_46, dM_settle_47, dM_settle_50, dM_settle_51, dM_settle_52, dM_settle_55, dM_settle_58, dM_settle_59, dM_settle_61, dM_settle_63, dM_settle_64, dM_settle_67, dM_settle_70, dM_settle_71, dM_settle_74, dM_settle_76, dM_settle_77, dM_settle_80, dM_settle_83, dM_settle_84, dM_settle_87, dM_settle_89, dM_settle_90, dM_settle_93, dM_settle_95, dM_settle_96, dM_settle_99, dM_settle_100, dM_settle_101, dM_settle_104, dM_settle_106, dM_settle_107, dM_settle_108, dM_settle_111, dM_settle_114, dM_settle_117, dM_settle_118, dM_settle_119, dM_settle_120, dM_settle_121, dM_settle_122, dM_settle_125, dM_settle_126, dM_settle_129, dM_settle_132, dM_settle_133, dM_settle_134, dM_settle_137, dM_settle_138, xf_4_91, xf_4_74, xf_4_47, xf_4_41, xf_4_65]
      refine hV.weak [some (.inr (.inr (some mo))), some (.inl (nI (a + ncnt (mtight N) (N 12 0)))), some (.inl (nI (ncnt (mtight N) (N 12 0)))), some (.inl (oShrink (mfix N)).1), none] ⟨rfl, rfl, rfl, rfl, trivial⟩ (ih (a + ncnt (mtight N) (N 12 0)) _ (mfix N) S4 _ (by omega) (by omega) (by omega) k1 (y2.tr k2) (fun S5 v1 v2 => ?_))
      have := hQ S5 v1 v2
      rw [show a + ncnt (mtight N) (N 12 0) + (msetl f (mfix N)).1 = a + ((msetl f (mfix N)).1 + ncnt (mtight N) (N 12 0)) by omega]
      exact this
set_option maxHeartbeats 4000000 in
set_option maxRecDepth 100000 in
theorem d_settle (h : rFx S mo M) : xMet l D n0 mM_settle 0 0 [.inr (.inr (some mo))] S (oN S mo (oSettle M)) := by
  refine xMet.of (k := mM_settle) (own := 4) (ini := false) xm_M_settle (by decide +kernel) (by decide +kernel) (by decide) (Nat.le_of_ble_eq_true rfl) ?_
  intro V hV
  show V 0 [some (.inr (.inr (some mo))), none, none, none, none] [] S 0 0
  refine xrun_ok hV [] 20 _ _ _ _ _ _ ?_
  simp (maxDischargeDepth := 60) only [xrun, xisc, ↓xstep, xget, xtgt, xcmp, xacmp, xprev, xisR, xnt, List.set, List.length, xsw, xlk, true_or, or_true, if_true, if_false, true_and, and_true, List.mem_cons, List.not_mem_nil, or_false, false_or, Bool.false_eq_true, reduceCtorEq, not_false_eq_true, forall_const, Nat.zero_add, Nat.reduceAdd, Nat.reduceSub, Int.reduceAdd, Int.reduceNeg, Int.reduceToNat, Nat.reduceEqDiff, Nat.reduceLT, Nat.reduceLeDiff, Int.reduceLE, Int.reduceLT, reduceIte, Int.cast_ofNat_Int, Int.natCast_zero, Int.natCast_one, Int.reduceAdd, eq_self, Int.reduceSub, List.length_cons, List.length_nil, xli_m1, xli_0, xli_1, xli_2, xli_3, xli_4, xli_5, xlb_8, xlb_12, xlb_31, xlb_32, xlb_64, xls_256, xls_513, xls_2048, xls_4096, xll_0, xll_1, xnr_i, xnr_0, xnr_1, xnr_ite, xft_i, xft_0, xft_1, xat_999, xat_1001, xat_1002, xat_1003, xat_2001, xat_2002, xat_2003, List.getElem?_cons_succ, List.getElem?_cons_zero, xfn_0, xfn_1, xfn_2, xfn_3, x10, x01, not_true_eq_false, false_implies, implies_true, true_implies, xrm_c, xrm_s, xnl_4, xnl_32, xnl_64, xnl_256, xtn_4, xtn_32, xtn_64, xtn_256, Option.some.injEq, Sum.inl.injEq, Sum.inr.injEq, exists_eq_left', exists_eq_right, Option.toList_some, Option.toList_none, List.cons_append, List.nil_append, xE, lg_cmp_ge, lg_cmp_le, lg_cmp_gt, lg_cmp_lt, lg_cmp_eq, Nat.le_refl, Nat.zero_le, ne_eq, Nat.add_zero, dM_settle_0, dM_settle_1, dM_settle_2, dM_settle_3, dM_settle_4, dM_settle_5, dM_settle_8, dM_settle_9, dM_settle_10, dM_settle_13, dM_settle_14, dM_settle_17, dM_settle_18, dM_settle_19, dM_settle_20, dM_settle_22, dM_settle_24, dM_settle_25, dM_settle_28, dM_settle_31, dM_settle_32, dM_settle_35, dM_settle_37, dM_settle_38, dM_settle_40, dM_settle_43, dM_settle_46, dM_settle_47, dM_settle_50, dM_settle_51, dM_settle_52, dM_settle_55, dM_settle_58, dM_settle_59, dM_settle_61, dM_settle_63, dM_settle_64, dM_settle_67, dM_settle_70, dM_settle_71, dM_settle_74, dM_settle_76, dM_settle_77, dM_settle_80, dM_settle_83, dM_settle_84, dM_settle_87, dM_settle_89, dM_settle_90, dM_settle_93, dM_settle_95, dM_settle_96, dM_settle_99, dM_settle_100, dM_settle_101, dM_settle_104, dM_settle_106, dM_settle_107, dM_settle_108, dM_settle_111, dM_settle_114, dM_settle_117, dM_settle_118, dM_settle_119, dM_settle_120, dM_settle_121, dM_settle_122, dM_settle_125, dM_settle_126, dM_settle_129, dM_settle_132, dM_settle_133, dM_settle_134, dM_settle_137, dM_settle_138, xf_4_91, xf_4_74, xf_4_47, xf_4_41, xf_4_65]
  refine hV.call [] xh_4_180 dM_settle_5 (d_shrink h) (Or.inr ⟨_, _, rfl, fun _ => h.mo⟩) rfl rfl (by decide) (by decide) (by decide) ?_
  rintro r S1 ⟨rfl, g1, g2⟩
  refine xrun_ok hV [9] 20 _ _ _ _ _ _ ?_
  simp (maxDischargeDepth := 60) only [xrun, xisc, ↓xstep, xget, xtgt, xcmp, xacmp, xprev, xisR, xnt, List.set, List.length, xsw, xlk, true_or, or_true, if_true, if_false, true_and, and_true, List.mem_cons, List.not_mem_nil, or_false, false_or, Bool.false_eq_true, reduceCtorEq, not_false_eq_true, forall_const, Nat.zero_add, Nat.reduceAdd, Nat.reduceSub, Int.reduceAdd, Int.reduceNeg, Int.reduceToNat, Nat.reduceEqDiff, Nat.reduceLT, Nat.reduceLeDiff, Int.reduceLE, Int.reduceLT, reduceIte, Int.cast_ofNat_Int, Int.natCast_zero, Int.natCast_one, Int.reduceAdd, eq_self, Int.reduceSub, List.length_cons, List.length_nil, xli_m1, xli_0, xli_1, xli_2, xli_3, xli_4, xli_5, xlb_8, xlb_12, xlb_31, xlb_32, xlb_64, xls_256, xls_513, xls_2048, xls_4096, xll_0, xll_1, xnr_i, xnr_0, xnr_1, xnr_ite, xft_i, xft_0, xft_1, xat_999, xat_1001, xat_1002, xat_1003, xat_2001, xat_2002, xat_2003, List.getElem?_cons_succ, List.getElem?_cons_zero, xfn_0, xfn_1, xfn_2, xfn_3, x10, x01, not_true_eq_false, false_implies, implies_true, true_implies, xrm_c, xrm_s, xnl_4, xnl_32, xnl_64, xnl_256, xtn_4, xtn_32, xtn_64, xtn_256, Option.some.injEq, Sum.inl.injEq, Sum.inr.injEq, exists_eq_left', exists_eq_right, Option.toList_some, Option.toList_none, List.cons_append, List.nil_append, xE, lg_cmp_ge, lg_cmp_le, lg_cmp_gt, lg_cmp_lt, lg_cmp_eq, Nat.le_refl, Nat.zero_le, ne_eq, Nat.add_zero, dM_settle_0, dM_settle_1, dM_settle_2, dM_settle_3, dM_settle_4, dM_settle_5, dM_settle_8, dM_settle_9, dM_settle_10, dM_settle_13, dM_settle_14, dM_settle_17, dM_settle_18, dM_settle_19, dM_settle_20, dM_settle_22, dM_settle_24, dM_settle_25, dM_settle_28, dM_settle_31, dM_settle_32, dM_settle_35, dM_settle_37, dM_settle_38, dM_settle_40, dM_settle_43, dM_settle_46, dM_settle_47, dM_settle_50, dM_settle_51, dM_settle_52, dM_settle_55, dM_settle_58, dM_settle_59, dM_settle_61, dM_settle_63, dM_settle_64, dM_settle_67, dM_settle_70, dM_settle_71, dM_settle_74, dM_settle_76, dM_settle_77, dM_settle_80, dM_settle_83, dM_settle_84, dM_settle_87, dM_settle_89, dM_settle_90, dM_settle_93, dM_settle_95, dM_settle_96, dM_settle_99, dM_settle_100, dM_settle_101, dM_settle_104, dM_settle_106, dM_settle_107, dM_settle_108, dM_settle_111, dM_settle_114, dM_settle_117, dM_settle_118, dM_settle_119, dM_settle_120, dM_settle_121, dM_settle_122, dM_settle_125, dM_settle_126, dM_settle_129, dM_settle_132, dM_settle_133, dM_settle_134, dM_settle_137, dM_settle_138, xf_4_91, xf_4_74, xf_4_47, xf_4_41, xf_4_65]
  have hu : munf M ≤ 256 := Nat.le_trans (ncnt_le _ _) h.wf.1.2.2.1
  exact d_settle_loop (S0 := S) hV 257 0 1 M S1 _ (by omega) (by decide) (by decide) g1 g2 (fun S2 w1 w2 => ⟨by rw [Nat.zero_add]; rfl, w1, w2⟩)
end RSHRINK
