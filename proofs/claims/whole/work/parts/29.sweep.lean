/-! SWEEP AND BACK: the model, the class -/
def mgone (M : mT) (G : Nat → Nat) : mT := fun f i => if f = 8 ∧ i < M 4 0 then G i else M f i
theorem mgone_f (M : mT) (G : Nat → Nat) (f i : Nat) (h : f ≠ 8) : mgone M G f i = M f i := by
  unfold mgone; rw [if_neg (fun z => h z.1)]
theorem mgone_8 (M : mT) (G : Nat → Nat) {p : Nat} (h : p < M 4 0) : mgone M G 8 p = G p := by
  unfold mgone; rw [if_pos ⟨rfl, h⟩]
theorem mgone_id (M : mT) : mgone M (M 8) = M := by
  funext f i
  unfold mgone
  split
  · rename_i h; rw [h.1]
  · rfl
theorem mgone_eq {M : mT} {G G' : Nat → Nat} (h : ∀ p, p < M 4 0 → G p = G' p) : mgone M G = mgone M G' := by
  funext f i
  unfold mgone
  split
  · rename_i z; exact h i z.2
  · rfl
def gset (G : Nat → Nat) (p v : Nat) : Nat → Nat := fun q => if q = p then v else G q
theorem mgone_set {M : mT} {G : Nat → Nat} {p v : Nat} (h : p < M 4 0) : mset (mgone M G) 8 p v = mgone M (gset G p v) := by
  funext f i
  unfold mset mgone gset
  by_cases z : f = 8 ∧ i = p
  · obtain ⟨rfl, rfl⟩ := z
    simp [h]
  · rw [if_neg z]
    by_cases y : f = 8 ∧ i < M 4 0
    · rw [if_pos y, if_pos y, if_neg (fun w => z ⟨y.1, w⟩)]
    · rw [if_neg y, if_neg y]
def gput (v : Nat → Nat) (G : Nat → Nat) (k : Nat) : Nat → Nat := fun p => if p < k then v p else G p
theorem gput_0 (v G : Nat → Nat) : gput v G 0 = G := by funext p; simp [gput]
theorem gput_s (v G : Nat → Nat) (k : Nat) : gset (gput v G k) k (v k) = gput v G (k + 1) := by
  funext p
  unfold gset gput
  by_cases h : p = k
  · subst h; simp
  · rw [if_neg h]
    by_cases h2 : p < k
    · rw [if_pos h2, if_pos (by omega)]
    · rw [if_neg h2, if_neg (by omega)]
def mled (M : mT) (k : Nat) : Option Nat := if maim M k = true ∧ M 26 (M 18 k) ≠ 0 then some (M 14 (M 26 (M 18 k) - 1)) else none
theorem mled_lt {M : mT} (h : mWF M) {k p : Nat} (hk : k < M 12 0) (he : mled M k = some p) : p < M 4 0 := by
  unfold mled at he
  split at he
  · rename_i z
    cases he
    have w1 := (h.2.2.2.2.2.1 k hk z.1).2.2.1
    have w2 := (h.2.2.2.2.2.2.2 _ w1).1
    exact (h.2.2.2.1 _ (by omega)).2.1
  · cases he
def gstep (M : mT) (G : Nat → Nat) (k : Nat) : Nat → Nat := match mled M k with
  | some p => if G (M 14 k) = 0 then gset G p 0 else G
  | none => G
def gcg (M : mT) (G : Nat → Nat) (k : Nat) : Bool := match mled M k with
  | some p => decide (G (M 14 k) = 0) && decide (G p ≠ 0)
  | none => false
def ground (M : mT) (G : Nat → Nat) : Nat → Nat → Nat
  | 0 => G
  | k + 1 => gstep M (ground M G k) k
def gfl (M : mT) (G : Nat → Nat) : Nat → Bool
  | 0 => false
  | k + 1 => gfl M G k || gcg M (ground M G k) k
def giter (M : mT) : Nat → (Nat → Nat) → Nat → Nat
  | 0, G => G
  | n + 1, G => giter M n (ground M G (M 12 0))
def gcnt (M : mT) (G : Nat → Nat) (n : Nat) : Nat := ncnt (fun p => decide (G p ≠ 0)) n
def g0 (M : mT) : Nat → Nat := fun p => 1 - M 7 p
def oSweep (M : mT) : Int32 × mT := (nI (gcnt M (giter M (M 4 0) (g0 M)) (M 4 0)), mgone M (giter M (M 4 0) (g0 M)))
def mback (M : mT) : mT := mgone M (fun _ => 0)
theorem gset_same {G : Nat → Nat} {p : Nat} (h : G p = 0) : gset G p 0 = G := by
  funext q
  unfold gset
  split
  · rename_i z; rw [z, h]
  · rfl
theorem gset_cnt (M : mT) {G : Nat → Nat} {p : Nat} (h : G p ≠ 0) : ∀ n, gcnt M (gset G p 0) n ≤ gcnt M G n ∧ (p < n → gcnt M (gset G p 0) n < gcnt M G n)
  | 0 => ⟨Nat.le_refl _, fun z => absurd z (by omega)⟩
  | n + 1 => by
    have ih := gset_cnt M h n
    have e1 : gcnt M (gset G p 0) (n + 1) = gcnt M (gset G p 0) n + (if decide (gset G p 0 n ≠ 0) = true then 1 else 0) := rfl
    have e2 : gcnt M G (n + 1) = gcnt M G n + (if decide (G n ≠ 0) = true then 1 else 0) := rfl
    by_cases z : n = p
    · subst z
      have e3 : gset G n 0 n = 0 := by simp [gset]
      rw [e3] at e1
      rw [e1, e2]
      simp [h]
      omega
    · have e3 : gset G p 0 n = G n := by simp [gset, z]
      rw [e3] at e1
      rw [e1, e2]
      exact ⟨by omega, fun w => by have := ih.2 (by omega); omega⟩
theorem gstep_no {M : mT} {G : Nat → Nat} {k : Nat} (h : gcg M G k = false) : gstep M G k = G := by
  unfold gcg at h
  unfold gstep
  cases he : mled M k with
  | none => rfl
  | some p =>
    rw [he] at h
    simp only at h ⊢
    split
    · rename_i z
      apply gset_same
      simpa [z] using h
    · rfl
theorem gstep_yes {M : mT} (hM : mWF M) {G : Nat → Nat} {k : Nat} (hk : k < M 12 0) (h : gcg M G k = true) : gcnt M (gstep M G k) (M 4 0) < gcnt M G (M 4 0) := by
  unfold gcg at h
  unfold gstep
  cases he : mled M k with
  | none => rw [he] at h; cases h
  | some p =>
    rw [he] at h
    simp only [Bool.and_eq_true, decide_eq_true_eq] at h ⊢
    rw [if_pos h.1]
    exact (gset_cnt M h.2 _).2 (mled_lt hM hk he)
theorem ground_no {M : mT} {G : Nat → Nat} : ∀ k, gfl M G k = false → ground M G k = G
  | 0, _ => rfl
  | k + 1, h => by
    rw [gfl, Bool.or_eq_false_iff] at h
    rw [ground, gstep_no h.2, ground_no k h.1]
theorem ground_cnt {M : mT} (hM : mWF M) {G : Nat → Nat} : ∀ k, k ≤ M 12 0 → gcnt M (ground M G k) (M 4 0) ≤ gcnt M G (M 4 0) ∧ (gfl M G k = true → gcnt M (ground M G k) (M 4 0) < gcnt M G (M 4 0))
  | 0, _ => ⟨Nat.le_refl _, fun z => by cases z⟩
  | k + 1, hk => by
    have ih := ground_cnt hM (G := G) k (by omega)
    rw [gfl, ground]
    cases hc : gcg M (ground M G k) k with
    | false => rw [gstep_no hc]; exact ⟨ih.1, fun z => ih.2 (by simpa using z)⟩
    | true =>
      have := gstep_yes hM (show k < M 12 0 by omega) hc
      exact ⟨by omega, fun _ => by omega⟩
def clp (M : mT) : Nat → (Nat → Nat) → Nat → Nat
  | 0, G => G
  | f + 1, G => if gfl M G (M 12 0) = true then clp M f (ground M G (M 12 0)) else ground M G (M 12 0)
theorem giter_fix {M : mT} {G : Nat → Nat} (h : ground M G (M 12 0) = G) : ∀ n, giter M n G = G
  | 0 => rfl
  | n + 1 => by rw [giter, h, giter_fix h n]
theorem clp_iter {M : mT} (hM : mWF M) : ∀ (f n : Nat) (G : Nat → Nat), gcnt M G (M 4 0) ≤ n → gcnt M G (M 4 0) ≤ f → clp M f G = giter M n G
  | 0, n, G, h1, h2 => by
    have hf : gfl M G (M 12 0) = false := by
      cases hc : gfl M G (M 12 0) with
      | false => rfl
      | true => have := (ground_cnt hM (G := G) (M 12 0) (Nat.le_refl _)).2 hc; omega
    rw [giter_fix (ground_no _ hf)]
    rfl
  | f + 1, n, G, h1, h2 => by
    rw [clp]
    cases hc : gfl M G (M 12 0) with
    | false =>
      rw [if_neg (by simp), giter_fix (ground_no _ hc)]
      exact ground_no _ hc
    | true =>
      have := (ground_cnt hM (G := G) (M 12 0) (Nat.le_refl _)).2 hc
      rw [if_pos rfl]
      cases n with
      | zero => omega
      | succ n => rw [giter]; exact clp_iter hM f n _ (by omega) (by omega)
section SWEEP
variable {l : Launch} {D : va_G} {n0 : Nat} {S S' : xS} {th : Nat} {ar pa qa la : Nat → Nat} {M : mT}
theorem rC_gone (h : rC S th ar pa qa la M) {p v : Nat} (hp : p < M 4 0) (ho : v ≤ 1) : rC (xpi S (pa p) 3 (nI v)) th ar pa qa la (mset M 8 p v) := by
  have h0 := h
  have h3 : xc S (pa p) = 2 := (h.2.2.2.1 p hp).1.1
  obtain ⟨hW, hT, hA, hP, hQ, hB, i1, i2, i3⟩ := h
  refine ⟨?_, ?_, hA, fun p' hp' => ?_, fun k hk => ?_, fun j hj => ?_, i1, i2, i3⟩
  · obtain ⟨w1, w2, w3, w4⟩ := hW
    refine ⟨w1, w2, fun p' hp' => ?_, w4⟩
    obtain ⟨a1, a2, a3, a4⟩ := w3 p' hp'
    refine ⟨a1, a2, a3, ?_⟩
    rw [mset_eq]
    split
    · exact ho
    · exact a4
  · obtain ⟨t1, t2, t3, t4, t5, ⟨t6, t7, t8, t9⟩, t10⟩ := hT
    have hne : th ≠ pa p := xne t1.1 h3 (by decide)
    have hne2 : ar 3 ≠ pa p := xne t3.2.2.2.1 h3 (by decide)
    refine ⟨t1, t2, t3, t4, t5, ⟨?_, ?_, ?_, ?_⟩, fun o' ho' => ?_⟩
    · rw [xi_pi, if_neg (fun z => hne z.1)]; exact t6
    · rw [xi_pi, if_neg (fun z => hne z.1)]; exact t7
    · rw [xi_pi, if_neg (fun z => hne z.1)]; exact t8
    · rw [xi_pi, if_neg (fun z => hne z.1)]; exact t9
    · rw [xi_pi, if_neg (fun z => hne2 z.1)]
      exact t10 o' ho'
  · by_cases e : p' = p
    · subst e
      obtain ⟨q1, ⟨q2, q3, q4, q5, q6⟩, q7, q8⟩ := hP p' hp'
      refine ⟨q1, ⟨?_, ?_, ?_, ?_, ?_⟩, q7.trans (congrArg _ (mnx_congr (M := M) (M' := mset M 8 p' v) _ _ (fun _ _ => rfl)).symm), q8.trans (congrArg _ (mla_congr (M := M) (M' := mset M 8 p' v) _ (fun _ _ => rfl)).symm)⟩
      · rw [xi_pi, if_neg (by simp)]; exact q2
      · rw [xi_pi, if_neg (by simp)]; exact q3
      · rw [xi_pi, if_neg (by simp)]; exact q4
      · rw [xi_pi, if_pos ⟨rfl, rfl⟩, mset_eq, if_pos ⟨rfl, rfl⟩]
      · rw [xi_pi, if_neg (by simp)]; exact q6
    · refine ((hP p' hp').pi (fun z => e (i1 p' p hp' hp z))).to rfl (fun _ _ => rfl) rfl (fun _ _ => rfl) ⟨rfl, rfl, rfl, ?_⟩
      rw [mset_eq, if_neg (fun z => e z.2)]
  · exact ((hQ k hk).pi (h0.nQ hk h3 (by decide))).to hk rfl (fun _ _ => rfl) (fun _ => rfl) rfl (fun _ _ => rfl) ⟨rfl, fun _ => rfl, rfl, rfl, rfl, rfl, rfl, rfl⟩
  · exact ((hB j hj).pi (h0.nB hj h3 (by decide))).to rfl rfl rfl (fun _ => rfl)
set_option maxHeartbeats 4000000 in
set_option maxRecDepth 100000 in
theorem c_partLedTo (h : rC S th ar pa qa la M) {k : Nat} (hk : k < M 12 0) : xMet l D n0 mS_partLedTo 0 0 [.inr (.inr (some (qa k)))] S (fun r S' => r = some (.inr (.inr ((mled M k).map pa))) ∧ S' = S) := by
  refine xMet.of (k := mS_partLedTo) (own := 3) (ini := false) xm_S_partLedTo (by decide +kernel) (by decide +kernel) (by decide) (Nat.le_of_ble_eq_true rfl) ?_
  intro V hV
  show V 0 [some (.inr (.inr (some (qa k))))] [] S 0 0
  obtain ⟨⟨q1, -⟩, ⟨-, -, q3, -⟩, -⟩ := h.2.2.2.2.1 k hk
  cases ha : maim M k with
  | false =>
    rw [ha, if_neg (by simp)] at q3
    refine xrun_ok hV [] 20 _ _ _ _ _ _ ?_
    simp (maxDischargeDepth := 60) only [xrun, xisc, ↓xstep, xget, xtgt, xcmp, xacmp, xprev, xisR, xnt, List.set, List.length, xsw, xlk, true_or, or_true, if_true, if_false, true_and, and_true, List.mem_cons, List.not_mem_nil, or_false, false_or, Bool.false_eq_true, reduceCtorEq, not_false_eq_true, forall_const, Nat.zero_add, Nat.reduceAdd, Nat.reduceSub, Int.reduceAdd, Int.reduceNeg, Int.reduceToNat, Nat.reduceEqDiff, Nat.reduceLT, Nat.reduceLeDiff, Int.reduceLE, Int.reduceLT, reduceIte, Int.cast_ofNat_Int, Int.natCast_zero, Int.natCast_one, Int.reduceAdd, eq_self, Int.reduceSub, List.length_cons, List.length_nil, xli_m1, xli_0, xli_1, xli_2, xli_3, xli_4, xli_5, xlb_8, xlb_12, xlb_31, xlb_32, xlb_64, xls_256, xls_513, xls_2048, xls_4096, xll_0, xll_1, xnr_i, xnr_0, xnr_1, xnr_ite, xft_i, xft_0, xft_1, xat_999, xat_1001, xat_1002, xat_1003, xat_2001, xat_2002, xat_2003, List.getElem?_cons_succ, List.getElem?_cons_zero, xfn_0, xfn_1, xfn_2, xfn_3, x10, x01, not_true_eq_false, false_implies, implies_true, true_implies, xrm_c, xrm_s, xnl_4, xnl_32, xnl_64, xnl_256, xtn_4, xtn_32, xtn_64, xtn_256, Option.some.injEq, Sum.inl.injEq, Sum.inr.injEq, exists_eq_left', exists_eq_right, Option.toList_some, Option.toList_none, List.cons_append, List.nil_append, xE, lg_cmp_ge, lg_cmp_le, lg_cmp_gt, lg_cmp_lt, lg_cmp_eq, Nat.le_refl, Nat.zero_le, ne_eq, Nat.add_zero, dS_partLedTo_0, dS_partLedTo_1, dS_partLedTo_4, dS_partLedTo_7, dS_partLedTo_8, dS_partLedTo_11, dS_partLedTo_14, dS_partLedTo_17, dS_partLedTo_18, dS_partLedTo_19, dS_partLedTo_20, dS_partLedTo_23, dS_partLedTo_26, dS_partLedTo_29, xf_3_128, xf_3_92, xf_3_144, q1, q3]
    simp [mled, ha]
  | true =>
    rw [ha, if_pos rfl] at q3
    have hl := (h.1.2.2.2.2.2.1 k hk ha).2.2.1
    obtain ⟨⟨b1, -⟩, b2, -⟩ := h.2.2.2.2.2.1 _ hl
    by_cases z : M 26 (M 18 k) = 0
    · rw [if_pos z] at b2
      refine xrun_ok hV [] 20 _ _ _ _ _ _ ?_
      simp (maxDischargeDepth := 60) only [xrun, xisc, ↓xstep, xget, xtgt, xcmp, xacmp, xprev, xisR, xnt, List.set, List.length, xsw, xlk, true_or, or_true, if_true, if_false, true_and, and_true, List.mem_cons, List.not_mem_nil, or_false, false_or, Bool.false_eq_true, reduceCtorEq, not_false_eq_true, forall_const, Nat.zero_add, Nat.reduceAdd, Nat.reduceSub, Int.reduceAdd, Int.reduceNeg, Int.reduceToNat, Nat.reduceEqDiff, Nat.reduceLT, Nat.reduceLeDiff, Int.reduceLE, Int.reduceLT, reduceIte, Int.cast_ofNat_Int, Int.natCast_zero, Int.natCast_one, Int.reduceAdd, eq_self, Int.reduceSub, List.length_cons, List.length_nil, xli_m1, xli_0, xli_1, xli_2, xli_3, xli_4, xli_5, xlb_8, xlb_12, xlb_31, xlb_32, xlb_64, xls_256, xls_513, xls_2048, xls_4096, xll_0, xll_1, xnr_i, xnr_0, xnr_1, xnr_ite, xft_i, xft_0, xft_1, xat_999, xat_1001, xat_1002, xat_1003, xat_2001, xat_2002, xat_2003, List.getElem?_cons_succ, List.getElem?_cons_zero, xfn_0, xfn_1, xfn_2, xfn_3, x10, x01, not_true_eq_false, false_implies, implies_true, true_implies, xrm_c, xrm_s, xnl_4, xnl_32, xnl_64, xnl_256, xtn_4, xtn_32, xtn_64, xtn_256, Option.some.injEq, Sum.inl.injEq, Sum.inr.injEq, exists_eq_left', exists_eq_right, Option.toList_some, Option.toList_none, List.cons_append, List.nil_append, xE, lg_cmp_ge, lg_cmp_le, lg_cmp_gt, lg_cmp_lt, lg_cmp_eq, Nat.le_refl, Nat.zero_le, ne_eq, Nat.add_zero, dS_partLedTo_0, dS_partLedTo_1, dS_partLedTo_4, dS_partLedTo_7, dS_partLedTo_8, dS_partLedTo_11, dS_partLedTo_14, dS_partLedTo_17, dS_partLedTo_18, dS_partLedTo_19, dS_partLedTo_20, dS_partLedTo_23, dS_partLedTo_26, dS_partLedTo_29, xf_3_128, xf_3_92, xf_3_144, q1, q3, b1, b2]
      simp [mled, z]
    · rw [if_neg z] at b2
      have hz := (h.1.2.2.2.2.2.2.2 _ hl).1
      obtain ⟨⟨c1, -⟩, ⟨-, c2, -⟩, -⟩ := h.2.2.2.2.1 (M 26 (M 18 k) - 1) (by omega)
      refine xrun_ok hV [] 20 _ _ _ _ _ _ ?_
      simp (maxDischargeDepth := 60) only [xrun, xisc, ↓xstep, xget, xtgt, xcmp, xacmp, xprev, xisR, xnt, List.set, List.length, xsw, xlk, true_or, or_true, if_true, if_false, true_and, and_true, List.mem_cons, List.not_mem_nil, or_false, false_or, Bool.false_eq_true, reduceCtorEq, not_false_eq_true, forall_const, Nat.zero_add, Nat.reduceAdd, Nat.reduceSub, Int.reduceAdd, Int.reduceNeg, Int.reduceToNat, Nat.reduceEqDiff, Nat.reduceLT, Nat.reduceLeDiff, Int.reduceLE, Int.reduceLT, reduceIte, Int.cast_ofNat_Int, Int.natCast_zero, Int.natCast_one, Int.reduceAdd, eq_self, Int.reduceSub, List.length_cons, List.length_nil, xli_m1, xli_0, xli_1, xli_2, xli_3, xli_4, xli_5, xlb_8, xlb_12, xlb_31, xlb_32, xlb_64, xls_256, xls_513, xls_2048, xls_4096, xll_0, xll_1, xnr_i, xnr_0, xnr_1, xnr_ite, xft_i, xft_0, xft_1, xat_999, xat_1001, xat_1002, xat_1003, xat_2001, xat_2002, xat_2003, List.getElem?_cons_succ, List.getElem?_cons_zero, xfn_0, xfn_1, xfn_2, xfn_3, x10, x01, not_true_eq_false, false_implies, implies_true, true_implies, xrm_c, xrm_s, xnl_4, xnl_32, xnl_64, xnl_256, xtn_4, xtn_32, xtn_64, xtn_256, Option.some.injEq, Sum.inl.injEq, Sum.inr.injEq, exists_eq_left', exists_eq_right, Option.toList_some, Option.toList_none, List.cons_append, List.nil_append, xE, lg_cmp_ge, lg_cmp_le, lg_cmp_gt, lg_cmp_lt, lg_cmp_eq, Nat.le_refl, Nat.zero_le, ne_eq, Nat.add_zero, dS_partLedTo_0, dS_partLedTo_1, dS_partLedTo_4, dS_partLedTo_7, dS_partLedTo_8, dS_partLedTo_11, dS_partLedTo_14, dS_partLedTo_17, dS_partLedTo_18, dS_partLedTo_19, dS_partLedTo_20, dS_partLedTo_23, dS_partLedTo_26, dS_partLedTo_29, xf_3_128, xf_3_92, xf_3_144, q1, q3, b1, b2, c1, c2]
      simp [mled, ha, z]
set_option maxHeartbeats 4000000 in
set_option maxRecDepth 100000 in
theorem bring_loop (hM : mWF M) (G : Nat → Nat) {S0 : xS} {V : xKt} {Q : Option xVal → xS → Prop}
    (hV : xCl l D n0 3 cS_bringWhatIsLedTo false (some .boolean) (xrm mS_bringWhatIsLedTo 0 0) V (xE 0 0 Q))
    (hQ : ∀ S, rC S th ar pa qa la (mgone M (ground M G (M 12 0))) → xFr tC S0 S → Q (some (.inl (if gfl M G (M 12 0) = true then 1 else 0))) S) :
    ∀ (n k : Nat) (S : xS), k ≤ M 12 0 → M 12 0 - k = n → rC S th ar pa qa la (mgone M (ground M G k)) → xFr tC S0 S → V 13 [some (.inr (.inr (some th))), some (.inl (if gfl M G k = true then 1 else 0)), some (.inr (.inr (some (ar 1)))), some (.inl 256), some (.inl (nI k)), none, none] [] S 0 0 := by
  have hw := hM.1.2.2.1
  intro n
  induction n with
  | zero =>
    intro k S hk hn h hF
    have : k = M 12 0 := by omega
    subst this
    have h3 := h.2.1.2.2.1.2.1
    have h4 := h.2.1.2.2.2.1.2.1
    have h6 : ((256 : Int32) ≤ nI (M 12 0)) = (256 ≤ M 12 0) := xI_le_nI (by omega) 256 (by decide)
    have e0 : (nI (M 12 0)).toNatClampNeg = M 12 0 := nI_clamp (by omega)
    by_cases h32 : 256 ≤ M 12 0
    · refine xrun_ok hV [] 20 _ _ _ _ _ _ ?_
      simp (maxDischargeDepth := 60) only [xrun, xisc, ↓xstep, xget, xtgt, xcmp, xacmp, xprev, xisR, xnt, List.set, List.length, xsw, xlk, true_or, or_true, if_true, if_false, true_and, and_true, List.mem_cons, List.not_mem_nil, or_false, false_or, Bool.false_eq_true, reduceCtorEq, not_false_eq_true, forall_const, Nat.zero_add, Nat.reduceAdd, Nat.reduceSub, Int.reduceAdd, Int.reduceNeg, Int.reduceToNat, Nat.reduceEqDiff, Nat.reduceLT, Nat.reduceLeDiff, Int.reduceLE, Int.reduceLT, reduceIte, Int.cast_ofNat_Int, Int.natCast_zero, Int.natCast_one, Int.reduceAdd, eq_self, Int.reduceSub, List.length_cons, List.length_nil, xli_m1, xli_0, xli_1, xli_2, xli_3, xli_4, xli_5, xlb_8, xlb_12, xlb_31, xlb_32, xlb_64, xls_256, xls_513, xls_2048, xls_4096, xll_0, xll_1, xnr_i, xnr_0, xnr_1, xnr_ite, xft_i, xft_0, xft_1, xat_999, xat_1001, xat_1002, xat_1003, xat_2001, xat_2002, xat_2003, List.getElem?_cons_succ, List.getElem?_cons_zero, xfn_0, xfn_1, xfn_2, xfn_3, x10, x01, not_true_eq_false, false_implies, implies_true, true_implies, xrm_c, xrm_s, xnl_4, xnl_32, xnl_64, xnl_256, xtn_4, xtn_32, xtn_64, xtn_256, Option.some.injEq, Sum.inl.injEq, Sum.inr.injEq, exists_eq_left', exists_eq_right, Option.toList_some, Option.toList_none, List.cons_append, List.nil_append, xE, lg_cmp_ge, lg_cmp_le, lg_cmp_gt, lg_cmp_lt, lg_cmp_eq, Nat.le_refl, Nat.zero_le, ne_eq, Nat.add_zero, dS_bringWhatIsLedTo_0, dS_bringWhatIsLedTo_1, dS_bringWhatIsLedTo_2, dS_bringWhatIsLedTo_3, dS_bringWhatIsLedTo_6, dS_bringWhatIsLedTo_7, dS_bringWhatIsLedTo_8, dS_bringWhatIsLedTo_9, dS_bringWhatIsLedTo_10, dS_bringWhatIsLedTo_11, dS_bringWhatIsLedTo_13, dS_bringWhatIsLedTo_15, dS_bringWhatIsLedTo_16, dS_bringWhatIsLedTo_19, dS_bringWhatIsLedTo_20, dS_bringWhatIsLedTo_22, dS_bringWhatIsLedTo_23, dS_bringWhatIsLedTo_25, dS_bringWhatIsLedTo_27, dS_bringWhatIsLedTo_30, dS_bringWhatIsLedTo_33, dS_bringWhatIsLedTo_35, dS_bringWhatIsLedTo_38, dS_bringWhatIsLedTo_40, dS_bringWhatIsLedTo_42, dS_bringWhatIsLedTo_45, dS_bringWhatIsLedTo_47, dS_bringWhatIsLedTo_50, dS_bringWhatIsLedTo_53, dS_bringWhatIsLedTo_55, dS_bringWhatIsLedTo_58, dS_bringWhatIsLedTo_61, dS_bringWhatIsLedTo_64, dS_bringWhatIsLedTo_66, dS_bringWhatIsLedTo_67, dS_bringWhatIsLedTo_70, dS_bringWhatIsLedTo_71, dS_bringWhatIsLedTo_72, dS_bringWhatIsLedTo_75, dS_bringWhatIsLedTo_78, dS_bringWhatIsLedTo_79, xf_3_17, xf_3_108, xf_3_144, h3, h4, h6]
      exact ⟨fun _ => hQ S h hF, fun z => absurd h32 z⟩
    · have hr := h.2.2.1.2.1 (M 12 0) (by omega)
      rw [if_neg (show ¬ M 12 0 < (mgone M (ground M G (M 12 0))) 12 0 from Nat.lt_irrefl _)] at hr
      refine xrun_ok hV [] 20 _ _ _ _ _ _ ?_
      simp (maxDischargeDepth := 60) only [xrun, xisc, ↓xstep, xget, xtgt, xcmp, xacmp, xprev, xisR, xnt, List.set, List.length, xsw, xlk, true_or, or_true, if_true, if_false, true_and, and_true, List.mem_cons, List.not_mem_nil, or_false, false_or, Bool.false_eq_true, reduceCtorEq, not_false_eq_true, forall_const, Nat.zero_add, Nat.reduceAdd, Nat.reduceSub, Int.reduceAdd, Int.reduceNeg, Int.reduceToNat, Nat.reduceEqDiff, Nat.reduceLT, Nat.reduceLeDiff, Int.reduceLE, Int.reduceLT, reduceIte, Int.cast_ofNat_Int, Int.natCast_zero, Int.natCast_one, Int.reduceAdd, eq_self, Int.reduceSub, List.length_cons, List.length_nil, xli_m1, xli_0, xli_1, xli_2, xli_3, xli_4, xli_5, xlb_8, xlb_12, xlb_31, xlb_32, xlb_64, xls_256, xls_513, xls_2048, xls_4096, xll_0, xll_1, xnr_i, xnr_0, xnr_1, xnr_ite, xft_i, xft_0, xft_1, xat_999, xat_1001, xat_1002, xat_1003, xat_2001, xat_2002, xat_2003, List.getElem?_cons_succ, List.getElem?_cons_zero, xfn_0, xfn_1, xfn_2, xfn_3, x10, x01, not_true_eq_false, false_implies, implies_true, true_implies, xrm_c, xrm_s, xnl_4, xnl_32, xnl_64, xnl_256, xtn_4, xtn_32, xtn_64, xtn_256, Option.some.injEq, Sum.inl.injEq, Sum.inr.injEq, exists_eq_left', exists_eq_right, Option.toList_some, Option.toList_none, List.cons_append, List.nil_append, xE, lg_cmp_ge, lg_cmp_le, lg_cmp_gt, lg_cmp_lt, lg_cmp_eq, Nat.le_refl, Nat.zero_le, ne_eq, Nat.add_zero, dS_bringWhatIsLedTo_0, dS_bringWhatIsLedTo_1, dS_bringWhatIsLedTo_2, dS_bringWhatIsLedTo_3, dS_bringWhatIsLedTo_6, dS_bringWhatIsLedTo_7, dS_bringWhatIsLedTo_8, dS_bringWhatIsLedTo_9, dS_bringWhatIsLedTo_10, dS_bringWhatIsLedTo_11, dS_bringWhatIsLedTo_13, dS_bringWhatIsLedTo_15, dS_bringWhatIsLedTo_16, dS_bringWhatIsLedTo_19, dS_bringWhatIsLedTo_20, dS_bringWhatIsLedTo_22, dS_bringWhatIsLedTo_23, dS_bringWhatIsLedTo_25, dS_bringWhatIsLedTo_27, dS_bringWhatIsLedTo_30, dS_bringWhatIsLedTo_33, dS_bringWhatIsLedTo_35, dS_bringWhatIsLedTo_38, dS_bringWhatIsLedTo_40, dS_bringWhatIsLedTo_42, dS_bringWhatIsLedTo_45, dS_bringWhatIsLedTo_47, dS_bringWhatIsLedTo_50, dS_bringWhatIsLedTo_53, dS_bringWhatIsLedTo_55, dS_bringWhatIsLedTo_58, dS_bringWhatIsLedTo_61, dS_bringWhatIsLedTo_64, dS_bringWhatIsLedTo_66, dS_bringWhatIsLedTo_67, dS_bringWhatIsLedTo_70, dS_bringWhatIsLedTo_71, dS_bringWhatIsLedTo_72, dS_bringWhatIsLedTo_75, dS_bringWhatIsLedTo_78, dS_bringWhatIsLedTo_79, xf_3_17, xf_3_108, xf_3_144, h3, h4, h6, e0, hr]
      exact ⟨fun z => absurd z h32, fun _ => ⟨⟨_, rfl⟩, vp_in_nI (by omega) (by decide), hQ S h hF⟩⟩
  | succ n ih =>
    intro k S hk hn h hF
    have hkl : k < M 12 0 := by omega
    have h3 := h.2.1.2.2.1.2.1
    have h4 := h.2.1.2.2.2.1.2.1
    have h6 : ((256 : Int32) ≤ nI k) = (256 ≤ k) := xI_le_nI (by omega) 256 (by decide)
    have e0 : (nI k).toNatClampNeg = k := nI_clamp (by omega)
    have n32 : ¬ 256 ≤ k := by omega
    have hr := h.2.2.1.2.1 k (by omega)
    rw [if_pos (show k < (mgone M (ground M G k)) 12 0 from hkl)] at hr
    obtain ⟨⟨q1, -⟩, ⟨-, q2', -⟩, -⟩ := h.2.2.2.2.1 k hkl
    have q2 : xr S (qa k) 1 = some (pa (M 14 k)) := q2'
    have hp := (hM.2.2.2.1 k hkl).2.1
    obtain ⟨⟨p1, -⟩, ⟨-, -, -, p2, -⟩, -⟩ := h.2.2.2.1 _ hp
    rw [mgone_8 _ _ hp] at p2
    have hw8 := (h.1.2.2.1 _ hp).2.2.2
    rw [mgone_8 _ _ hp] at hw8
    have e8 : (nI (ground M G k (M 14 k)) = 0) = (ground M G k (M 14 k) = 0) := propext (nI_eq (b := 0) (by omega) (by decide))
    have next : ∀ (S1 : xS) (b : Bool) (o : Option xVal), rC S1 th ar pa qa la (mgone M (ground M G (k + 1))) → xFr tC S0 S1 → b = gfl M G (k + 1) → V 72 [some (.inr (.inr (some th))), some (.inl (if b = true then 1 else 0)), some (.inr (.inr (some (ar 1)))), some (.inl 256), some (.inl (nI k)), some (.inr (.inr (some (qa k)))), o] [] S1 0 0 := by
      intro S1 b o g1 g2 hb
      rw [hb]
      refine xrun_ok hV [13] 20 _ _ _ _ _ _ ?_
      simp (maxDischargeDepth := 60) only [xrun, xisc, ↓xstep, xget, xtgt, xcmp, xacmp, xprev, xisR, xnt, List.set, List.length, xsw, xlk, true_or, or_true, if_true, if_false, true_and, and_true, List.mem_cons, List.not_mem_nil, or_false, false_or, Bool.false_eq_true, reduceCtorEq, not_false_eq_true, forall_const, Nat.zero_add, Nat.reduceAdd, Nat.reduceSub, Int.reduceAdd, Int.reduceNeg, Int.reduceToNat, Nat.reduceEqDiff, Nat.reduceLT, Nat.reduceLeDiff, Int.reduceLE, Int.reduceLT, reduceIte, Int.cast_ofNat_Int, Int.natCast_zero, Int.natCast_one, Int.reduceAdd, eq_self, Int.reduceSub, List.length_cons, List.length_nil, xli_m1, xli_0, xli_1, xli_2, xli_3, xli_4, xli_5, xlb_8, xlb_12, xlb_31, xlb_32, xlb_64, xls_256, xls_513, xls_2048, xls_4096, xll_0, xll_1, xnr_i, xnr_0, xnr_1, xnr_ite, xft_i, xft_0, xft_1, xat_999, xat_1001, xat_1002, xat_1003, xat_2001, xat_2002, xat_2003, List.getElem?_cons_succ, List.getElem?_cons_zero, xfn_0, xfn_1, xfn_2, xfn_3, x10, x01, not_true_eq_false, false_implies, implies_true, true_implies, xrm_c, xrm_s, xnl_4, xnl_32, xnl_64, xnl_256, xtn_4, xtn_32, xtn_64, xtn_256, Option.some.injEq, Sum.inl.injEq, Sum.inr.injEq, exists_eq_left', exists_eq_right, Option.toList_some, Option.toList_none, List.cons_append, List.nil_append, xE, lg_cmp_ge, lg_cmp_le, lg_cmp_gt, lg_cmp_lt, lg_cmp_eq, Nat.le_refl, Nat.zero_le, ne_eq, Nat.add_zero, dS_bringWhatIsLedTo_0, dS_bringWhatIsLedTo_1, dS_bringWhatIsLedTo_2, dS_bringWhatIsLedTo_3, dS_bringWhatIsLedTo_6, dS_bringWhatIsLedTo_7, dS_bringWhatIsLedTo_8, dS_bringWhatIsLedTo_9, dS_bringWhatIsLedTo_10, dS_bringWhatIsLedTo_11, dS_bringWhatIsLedTo_13, dS_bringWhatIsLedTo_15, dS_bringWhatIsLedTo_16, dS_bringWhatIsLedTo_19, dS_bringWhatIsLedTo_20, dS_bringWhatIsLedTo_22, dS_bringWhatIsLedTo_23, dS_bringWhatIsLedTo_25, dS_bringWhatIsLedTo_27, dS_bringWhatIsLedTo_30, dS_bringWhatIsLedTo_33, dS_bringWhatIsLedTo_35, dS_bringWhatIsLedTo_38, dS_bringWhatIsLedTo_40, dS_bringWhatIsLedTo_42, dS_bringWhatIsLedTo_45, dS_bringWhatIsLedTo_47, dS_bringWhatIsLedTo_50, dS_bringWhatIsLedTo_53, dS_bringWhatIsLedTo_55, dS_bringWhatIsLedTo_58, dS_bringWhatIsLedTo_61, dS_bringWhatIsLedTo_64, dS_bringWhatIsLedTo_66, dS_bringWhatIsLedTo_67, dS_bringWhatIsLedTo_70, dS_bringWhatIsLedTo_71, dS_bringWhatIsLedTo_72, dS_bringWhatIsLedTo_75, dS_bringWhatIsLedTo_78, dS_bringWhatIsLedTo_79, xf_3_17, xf_3_108, xf_3_144, nI_1]
      exact hV.weak [some (.inr (.inr (some th))), some (.inl (if gfl M G (k + 1) = true then 1 else 0)), some (.inr (.inr (some (ar 1)))), some (.inl 256), some (.inl (nI (k + 1))), none, none] ⟨rfl, rfl, rfl, rfl, rfl, trivial⟩ (ih (k + 1) S1 (by omega) (by omega) g1 g2)
    refine xrun_ok hV [] 20 _ _ _ _ _ _ ?_
    simp (maxDischargeDepth := 60) only [xrun, xisc, ↓xstep, xget, xtgt, xcmp, xacmp, xprev, xisR, xnt, List.set, List.length, xsw, xlk, true_or, or_true, if_true, if_false, true_and, and_true, List.mem_cons, List.not_mem_nil, or_false, false_or, Bool.false_eq_true, reduceCtorEq, not_false_eq_true, forall_const, Nat.zero_add, Nat.reduceAdd, Nat.reduceSub, Int.reduceAdd, Int.reduceNeg, Int.reduceToNat, Nat.reduceEqDiff, Nat.reduceLT, Nat.reduceLeDiff, Int.reduceLE, Int.reduceLT, reduceIte, Int.cast_ofNat_Int, Int.natCast_zero, Int.natCast_one, Int.reduceAdd, eq_self, Int.reduceSub, List.length_cons, List.length_nil, xli_m1, xli_0, xli_1, xli_2, xli_3, xli_4, xli_5, xlb_8, xlb_12, xlb_31, xlb_32, xlb_64, xls_256, xls_513, xls_2048, xls_4096, xll_0, xll_1, xnr_i, xnr_0, xnr_1, xnr_ite, xft_i, xft_0, xft_1, xat_999, xat_1001, xat_1002, xat_1003, xat_2001, xat_2002, xat_2003, List.getElem?_cons_succ, List.getElem?_cons_zero, xfn_0, xfn_1, xfn_2, xfn_3, x10, x01, not_true_eq_false, false_implies, implies_true, true_implies, xrm_c, xrm_s, xnl_4, xnl_32, xnl_64, xnl_256, xtn_4, xtn_32, xtn_64, xtn_256, Option.some.injEq, Sum.inl.injEq, Sum.inr.injEq, exists_eq_left', exists_eq_right, Option.toList_some, Option.toList_none, List.cons_append, List.nil_append, xE, lg_cmp_ge, lg_cmp_le, lg_cmp_gt, lg_cmp_lt, lg_cmp_eq, Nat.le_refl, Nat.zero_le, ne_eq, Nat.add_zero, dS_bringWhatIsLedTo_0, dS_bringWhatIsLedTo_1, dS_bringWhatIsLedTo_2, dS_bringWhatIsLedTo_3, dS_bringWhatIsLedTo_6, dS_bringWhatIsLedTo_7, dS_bringWhatIsLedTo_8, dS_bringWhatIsLedTo_9, dS_bringWhatIsLedTo_10, dS_bringWhatIsLedTo_11, dS_bringWhatIsLedTo_13, dS_bringWhatIsLedTo_15, dS_bringWhatIsLedTo_16, dS_bringWhatIsLedTo_19, dS_bringWhatIsLedTo_20, dS_bringWhatIsLedTo_22, dS_bringWhatIsLedTo_23, dS_bringWhatIsLedTo_25, dS_bringWhatIsLedTo_27, dS_bringWhatIsLedTo_30, dS_bringWhatIsLedTo_33, dS_bringWhatIsLedTo_35, dS_bringWhatIsLedTo_38, dS_bringWhatIsLedTo_40, dS_bringWhatIsLedTo_42, dS_bringWhatIsLedTo_45, dS_bringWhatIsLedTo_47, dS_bringWhatIsLedTo_50, dS_bringWhatIsLedTo_53, dS_bringWhatIsLedTo_55, dS_bringWhatIsLedTo_58, dS_bringWhatIsLedTo_61, dS_bringWhatIsLedTo_64, dS_bringWhatIsLedTo_66, dS_bringWhatIsLedTo_67, dS_bringWhatIsLedTo_70, dS_bringWhatIsLedTo_71, dS_bringWhatIsLedTo_72, dS_bringWhatIsLedTo_75, dS_bringWhatIsLedTo_78, dS_bringWhatIsLedTo_79, xf_3_17, xf_3_108, xf_3_144, h3, h4, h6, e0, hr, n32]
    refine ⟨⟨_, rfl⟩, vp_in_nI (by omega) (by decide), ?_⟩
    refine hV.call [] (As := [.inr (.inr (some (qa k)))]) xh_3_193 dS_bringWhatIsLedTo_35 (c_partLedTo h hkl) (Or.inl rfl) rfl rfl (by decide) (by decide) (by decide) ?_
    rintro r S1 ⟨rfl, rfl⟩
    have el : mled (mgone M (ground M G k)) k = mled M k := rfl
    rw [el]
    cases he : mled M k with
    | none =>
      have hc : gcg M (ground M G k) k = false := by simp [gcg, he]
      refine xrun_ok hV [72] 20 _ _ _ _ _ _ ?_
      simp (maxDischargeDepth := 60) only [xrun, xisc, ↓xstep, xget, xtgt, xcmp, xacmp, xprev, xisR, xnt, List.set, List.length, xsw, xlk, true_or, or_true, if_true, if_false, true_and, and_true, List.mem_cons, List.not_mem_nil, or_false, false_or, Bool.false_eq_true, reduceCtorEq, not_false_eq_true, forall_const, Nat.zero_add, Nat.reduceAdd, Nat.reduceSub, Int.reduceAdd, Int.reduceNeg, Int.reduceToNat, Nat.reduceEqDiff, Nat.reduceLT, Nat.reduceLeDiff, Int.reduceLE, Int.reduceLT, reduceIte, Int.cast_ofNat_Int, Int.natCast_zero, Int.natCast_one, Int.reduceAdd, eq_self, Int.reduceSub, List.length_cons, List.length_nil, xli_m1, xli_0, xli_1, xli_2, xli_3, xli_4, xli_5, xlb_8, xlb_12, xlb_31, xlb_32, xlb_64, xls_256, xls_513, xls_2048, xls_4096, xll_0, xll_1, xnr_i, xnr_0, xnr_1, xnr_ite, xft_i, xft_0, xft_1, xat_999, xat_1001, xat_1002, xat_1003, xat_2001, xat_2002, xat_2003, List.getElem?_cons_succ, List.getElem?_cons_zero, xfn_0, xfn_1, xfn_2, xfn_3, x10, x01, not_true_eq_false, false_implies, implies_true, true_implies, xrm_c, xrm_s, xnl_4, xnl_32, xnl_64, xnl_256, xtn_4, xtn_32, xtn_64, xtn_256, Option.some.injEq, Sum.inl.injEq, Sum.inr.injEq, exists_eq_left', exists_eq_right, Option.toList_some, Option.toList_none, List.cons_append, List.nil_append, xE, lg_cmp_ge, lg_cmp_le, lg_cmp_gt, lg_cmp_lt, lg_cmp_eq, Nat.le_refl, Nat.zero_le, ne_eq, Nat.add_zero, dS_bringWhatIsLedTo_0, dS_bringWhatIsLedTo_1, dS_bringWhatIsLedTo_2, dS_bringWhatIsLedTo_3, dS_bringWhatIsLedTo_6, dS_bringWhatIsLedTo_7, dS_bringWhatIsLedTo_8, dS_bringWhatIsLedTo_9, dS_bringWhatIsLedTo_10, dS_bringWhatIsLedTo_11, dS_bringWhatIsLedTo_13, dS_bringWhatIsLedTo_15, dS_bringWhatIsLedTo_16, dS_bringWhatIsLedTo_19, dS_bringWhatIsLedTo_20, dS_bringWhatIsLedTo_22, dS_bringWhatIsLedTo_23, dS_bringWhatIsLedTo_25, dS_bringWhatIsLedTo_27, dS_bringWhatIsLedTo_30, dS_bringWhatIsLedTo_33, dS_bringWhatIsLedTo_35, dS_bringWhatIsLedTo_38, dS_bringWhatIsLedTo_40, dS_bringWhatIsLedTo_42, dS_bringWhatIsLedTo_45, dS_bringWhatIsLedTo_47, dS_bringWhatIsLedTo_50, dS_bringWhatIsLedTo_53, dS_bringWhatIsLedTo_55, dS_bringWhatIsLedTo_58, dS_bringWhatIsLedTo_61, dS_bringWhatIsLedTo_64, dS_bringWhatIsLedTo_66, dS_bringWhatIsLedTo_67, dS_bringWhatIsLedTo_70, dS_bringWhatIsLedTo_71, dS_bringWhatIsLedTo_72, dS_bringWhatIsLedTo_75, dS_bringWhatIsLedTo_78, dS_bringWhatIsLedTo_79, xf_3_17, xf_3_108, xf_3_144, Option.map_none]
      exact next S1 _ _ (by rw [ground, gstep_no hc]; exact h) hF (by rw [gfl, hc, Bool.or_false])
    | some p =>
      have hpl := mled_lt hM hkl he
      obtain ⟨⟨r1, -⟩, ⟨-, -, -, r2, -⟩, -⟩ := h.2.2.2.1 _ hpl
      rw [mgone_8 _ _ hpl] at r2
      have hv8 := (h.1.2.2.1 _ hpl).2.2.2
      rw [mgone_8 _ _ hpl] at hv8
      have f8 : (nI (ground M G k p) = 0) = (ground M G k p = 0) := propext (nI_eq (b := 0) (by omega) (by decide))
      refine xrun_ok hV [72] 20 _ _ _ _ _ _ ?_
      simp (maxDischargeDepth := 60) only [xrun, xisc, ↓xstep, xget, xtgt, xcmp, xacmp, xprev, xisR, xnt, List.set, List.length, xsw, xlk, true_or, or_true, if_true, if_false, true_and, and_true, List.mem_cons, List.not_mem_nil, or_false, false_or, Bool.false_eq_true, reduceCtorEq, not_false_eq_true, forall_const, Nat.zero_add, Nat.reduceAdd, Nat.reduceSub, Int.reduceAdd, Int.reduceNeg, Int.reduceToNat, Nat.reduceEqDiff, Nat.reduceLT, Nat.reduceLeDiff, Int.reduceLE, Int.reduceLT, reduceIte, Int.cast_ofNat_Int, Int.natCast_zero, Int.natCast_one, Int.reduceAdd, eq_self, Int.reduceSub, List.length_cons, List.length_nil, xli_m1, xli_0, xli_1, xli_2, xli_3, xli_4, xli_5, xlb_8, xlb_12, xlb_31, xlb_32, xlb_64, xls_256, xls_513, xls_2048, xls_4096, xll_0, xll_1, xnr_i, xnr_0, xnr_1, xnr_ite, xft_i, xft_0, xft_1, xat_999, xat_1001, xat_1002, xat_1003, xat_2001, xat_2002, xat_2003, List.getElem?_cons_succ, List.getElem?_cons_zero, xfn_0, xfn_1, xfn_2, xfn_3, x10, x01, not_true_eq_false, false_implies, implies_true, true_implies, xrm_c, xrm_s, xnl_4, xnl_32, xnl_64, xnl_256, xtn_4, xtn_32, xtn_64, xtn_256, Option.some.injEq, Sum.inl.injEq, Sum.inr.injEq, exists_eq_left', exists_eq_right, Option.toList_some, Option.toList_none, List.cons_append, List.nil_append, xE, lg_cmp_ge, lg_cmp_le, lg_cmp_gt, lg_cmp_lt, lg_cmp_eq, Nat.le_refl, Nat.zero_le, ne_eq, Nat.add_zero, dS_bringWhatIsLedTo_0, dS_bringWhatIsLedTo_1, dS_bringWhatIsLedTo_2, dS_bringWhatIsLedTo_3, dS_bringWhatIsLedTo_6, dS_bringWhatIsLedTo_7, dS_bringWhatIsLedTo_8, dS_bringWhatIsLedTo_9, dS_bringWhatIsLedTo_10, dS_bringWhatIsLedTo_11, dS_bringWhatIsLedTo_13, dS_bringWhatIsLedTo_15, dS_bringWhatIsLedTo_16, dS_bringWhatIsLedTo_19, dS_bringWhatIsLedTo_20, dS_bringWhatIsLedTo_22, dS_bringWhatIsLedTo_23, dS_bringWhatIsLedTo_25, dS_bringWhatIsLedTo_27, dS_bringWhatIsLedTo_30, dS_bringWhatIsLedTo_33, dS_bringWhatIsLedTo_35, dS_bringWhatIsLedTo_38, dS_bringWhatIsLedTo_40, dS_bringWhatIsLedTo_42, dS_bringWhatIsLedTo_45, dS_bringWhatIsLedTo_47, dS_bringWhatIsLedTo_50, dS_bringWhatIsLedTo_53, dS_bringWhatIsLedTo_55, dS_bringWhatIsLedTo_58, dS_bringWhatIsLedTo_61, dS_bringWhatIsLedTo_64, dS_bringWhatIsLedTo_66, dS_bringWhatIsLedTo_67, dS_bringWhatIsLedTo_70, dS_bringWhatIsLedTo_71, dS_bringWhatIsLedTo_72, dS_bringWhatIsLedTo_75, dS_bringWhatIsLedTo_78, dS_bringWhatIsLedTo_79, xf_3_17, xf_3_108, xf_3_144, Option.map_some, r1, r2, f8, q1, q2, p1, p2, e8]
      have hg : gcg M (ground M G k) k = (decide (ground M G k (M 14 k) = 0) && decide (ground M G k p ≠ 0)) := by simp [gcg, he]
      have hno : gcg M (ground M G k) k = false → V 72 [some (.inr (.inr (some th))), some (.inl (if gfl M G k = true then 1 else 0)), some (.inr (.inr (some (ar 1)))), some (.inl 256), some (.inl (nI k)), some (.inr (.inr (some (qa k)))), some (.inr (.inr (some (pa p))))] [] S1 0 0 := fun hc => next S1 _ _ (by rw [ground, gstep_no hc]; exact h) hF (by rw [gfl, hc, Bool.or_false])
      refine ⟨fun z => hno ?_, fun z => ⟨fun y => hno ?_, fun y => ?_⟩⟩
      · rw [hg]; simp [z]
      · rw [hg]; simp [y]
      · have hc : gcg M (ground M G k) k = true := by rw [hg]; simp [z, y]
        have e1 : ground M G (k + 1) = gset (ground M G k) p 0 := by simp [ground, gstep, he, y]
        have g1 := rC_gone h (p := p) (v := 0) hpl (by decide)
        rw [mgone_set hpl, ← e1] at g1
        exact next _ true _ g1 (hF.tr (xFr.pi (by rw [r1]; rfl))) (by rw [gfl, hc, Bool.or_true])
set_option maxHeartbeats 4000000 in
set_option maxRecDepth 100000 in
theorem c_bring {G : Nat → Nat} (hM : mWF M) (h : rC S th ar pa qa la (mgone M G)) : xMet l D n0 mS_bringWhatIsLedTo 0 0 [.inr (.inr (some th))] S (fun r S' => r = some (.inl (if gfl M G (M 12 0) = true then 1 else 0)) ∧ rC S' th ar pa qa la (mgone M (ground M G (M 12 0))) ∧ xFr tC S S') := by
  refine xMet.of (k := mS_bringWhatIsLedTo) (own := 3) (ini := false) xm_S_bringWhatIsLedTo (by decide +kernel) (by decide +kernel) (by decide) (Nat.le_of_ble_eq_true rfl) ?_
  intro V hV
  show V 0 [some (.inr (.inr (some th))), none, none, none, none, none, none] [] S 0 0
  have k1 := h.th
  have k2 := (h.2.1.2.1 1 (by decide)).1
  have k3 := h.2.1.2.2.1.2.1
  have k4 := h.2.1.2.2.2.1.2.1
  have e256 : Int32.ofNat 256 = 256 := rfl
  refine xrun_ok hV [13] 20 _ _ _ _ _ _ ?_
  simp (maxDischargeDepth := 60) only [xrun, xisc, ↓xstep, xget, xtgt, xcmp, xacmp, xprev, xisR, xnt, List.set, List.length, xsw, xlk, true_or, or_true, if_true, if_false, true_and, and_true, List.mem_cons, List.not_mem_nil, or_false, false_or, Bool.false_eq_true, reduceCtorEq, not_false_eq_true, forall_const, Nat.zero_add, Nat.reduceAdd, Nat.reduceSub, Int.reduceAdd, Int.reduceNeg, Int.reduceToNat, Nat.reduceEqDiff, Nat.reduceLT, Nat.reduceLeDiff, Int.reduceLE, Int.reduceLT, reduceIte, Int.cast_ofNat_Int, Int.natCast_zero, Int.natCast_one, Int.reduceAdd, eq_self, Int.reduceSub, List.length_cons, List.length_nil, xli_m1, xli_0, xli_1, xli_2, xli_3, xli_4, xli_5, xlb_8, xlb_12, xlb_31, xlb_32, xlb_64, xls_256, xls_513, xls_2048, xls_4096, xll_0, xll_1, xnr_i, xnr_0, xnr_1, xnr_ite, xft_i, xft_0, xft_1, xat_999, xat_1001, xat_1002, xat_1003, xat_2001, xat_2002, xat_2003, List.getElem?_cons_succ, List.getElem?_cons_zero, xfn_0, xfn_1, xfn_2, xfn_3, x10, x01, not_true_eq_false, false_implies, implies_true, true_implies, xrm_c, xrm_s, xnl_4, xnl_32, xnl_64, xnl_256, xtn_4, xtn_32, xtn_64, xtn_256, Option.some.injEq, Sum.inl.injEq, Sum.inr.injEq, exists_eq_left', exists_eq_right, Option.toList_some, Option.toList_none, List.cons_append, List.nil_append, xE, lg_cmp_ge, lg_cmp_le, lg_cmp_gt, lg_cmp_lt, lg_cmp_eq, Nat.le_refl, Nat.zero_le, ne_eq, Nat.add_zero, dS_bringWhatIsLedTo_0, dS_bringWhatIsLedTo_1, dS_bringWhatIsLedTo_2, dS_bringWhatIsLedTo_3, dS_bringWhatIsLedTo_6, dS_bringWhatIsLedTo_7, dS_bringWhatIsLedTo_8, dS_bringWhatIsLedTo_9, dS_bringWhatIsLedTo_10, dS_bringWhatIsLedTo_11, dS_bringWhatIsLedTo_13, dS_bringWhatIsLedTo_15, dS_bringWhatIsLedTo_16, dS_bringWhatIsLedTo_19, dS_bringWhatIsLedTo_20, dS_bringWhatIsLedTo_22, dS_bringWhatIsLedTo_23, dS_bringWhatIsLedTo_25, dS_bringWhatIsLedTo_27, dS_bringWhatIsLedTo_30, dS_bringWhatIsLedTo_33, dS_bringWhatIsLedTo_35, dS_bringWhatIsLedTo_38, dS_bringWhatIsLedTo_40, dS_bringWhatIsLedTo_42, dS_bringWhatIsLedTo_45, dS_bringWhatIsLedTo_47, dS_bringWhatIsLedTo_50, dS_bringWhatIsLedTo_53, dS_bringWhatIsLedTo_55, dS_bringWhatIsLedTo_58, dS_bringWhatIsLedTo_61, dS_bringWhatIsLedTo_64, dS_bringWhatIsLedTo_66, dS_bringWhatIsLedTo_67, dS_bringWhatIsLedTo_70, dS_bringWhatIsLedTo_71, dS_bringWhatIsLedTo_72, dS_bringWhatIsLedTo_75, dS_bringWhatIsLedTo_78, dS_bringWhatIsLedTo_79, xf_3_17, xf_3_108, xf_3_144, k1, k2, k3, k4, e256]
  refine ⟨⟨_, rfl⟩, ?_⟩
  exact bring_loop (S0 := S) hM G hV (fun S2 w1 w2 => ⟨rfl, w1, w2⟩) (M 12 0) 0 S (Nat.zero_le _) (by omega) h (xFr.rf _ _)
set_option maxHeartbeats 4000000 in
set_option maxRecDepth 100000 in
theorem count_loop (h : rC S th ar pa qa la M) {V : xKt} {Q : Option xVal → xS → Prop}
    (hV : xCl l D n0 3 cS_countGone false (some .int) (xrm mS_countGone 0 0) V (xE 0 0 Q)) (hQ : Q (some (.inl (nI (gcnt M (M 8) (M 4 0))))) S) :
    ∀ (n k : Nat), k ≤ M 4 0 → M 4 0 - k = n → V 13 [some (.inr (.inr (some th))), some (.inl (nI (gcnt M (M 8) k))), some (.inr (.inr (some (ar 0)))), some (.inl 32), some (.inl (nI k)), none] [] S 0 0 := by
  have h3 := h.2.1.2.2.1.1
  have h4 := h.2.1.2.2.2.1.1
  have hw := h.1.1.2.1
  intro n
  induction n with
  | zero =>
    intro k hk hn
    have : k = M 4 0 := by omega
    subst this
    have h6 : ((32 : Int32) ≤ nI (M 4 0)) = (32 ≤ M 4 0) := xI_le_nI (by omega) 32 (by decide)
    have e0 : (nI (M 4 0)).toNatClampNeg = M 4 0 := nI_clamp (by omega)
    by_cases h32 : 32 ≤ M 4 0
    · refine xrun_ok hV [] 20 _ _ _ _ _ _ ?_
      simp (maxDischargeDepth := 60) only [xrun, xisc, ↓xstep, xget, xtgt, xcmp, xacmp, xprev, xisR, xnt, List.set, List.length, xsw, xlk, true_or, or_true, if_true, if_false, true_and, and_true, List.mem_cons, List.not_mem_nil, or_false, false_or, Bool.false_eq_true, reduceCtorEq, not_false_eq_true, forall_const, Nat.zero_add, Nat.reduceAdd, Nat.reduceSub, Int.reduceAdd, Int.reduceNeg, Int.reduceToNat, Nat.reduceEqDiff, Nat.reduceLT, Nat.reduceLeDiff, Int.reduceLE, Int.reduceLT, reduceIte, Int.cast_ofNat_Int, Int.natCast_zero, Int.natCast_one, Int.reduceAdd, eq_self, Int.reduceSub, List.length_cons, List.length_nil, xli_m1, xli_0, xli_1, xli_2, xli_3, xli_4, xli_5, xlb_8, xlb_12, xlb_31, xlb_32, xlb_64, xls_256, xls_513, xls_2048, xls_4096, xll_0, xll_1, xnr_i, xnr_0, xnr_1, xnr_ite, xft_i, xft_0, xft_1, xat_999, xat_1001, xat_1002, xat_1003, xat_2001, xat_2002, xat_2003, List.getElem?_cons_succ, List.getElem?_cons_zero, xfn_0, xfn_1, xfn_2, xfn_3, x10, x01, not_true_eq_false, false_implies, implies_true, true_implies, xrm_c, xrm_s, xnl_4, xnl_32, xnl_64, xnl_256, xtn_4, xtn_32, xtn_64, xtn_256, Option.some.injEq, Sum.inl.injEq, Sum.inr.injEq, exists_eq_left', exists_eq_right, Option.toList_some, Option.toList_none, List.cons_append, List.nil_append, xE, lg_cmp_ge, lg_cmp_le, lg_cmp_gt, lg_cmp_lt, lg_cmp_eq, Nat.le_refl, Nat.zero_le, ne_eq, Nat.add_zero, dS_countGone_0, dS_countGone_1, dS_countGone_2, dS_countGone_3, dS_countGone_6, dS_countGone_7, dS_countGone_8, dS_countGone_9, dS_countGone_10, dS_countGone_11, dS_countGone_13, dS_countGone_15, dS_countGone_16, dS_countGone_19, dS_countGone_20, dS_countGone_22, dS_countGone_23, dS_countGone_25, dS_countGone_27, dS_countGone_30, dS_countGone_33, dS_countGone_35, dS_countGone_38, dS_countGone_41, dS_countGone_44, dS_countGone_47, dS_countGone_50, dS_countGone_51, xf_3_11, xf_3_108, h3, h4, h6]
      exact ⟨fun _ => hQ, fun z => absurd h32 z⟩
    · have hr := h.2.2.1.1 (M 4 0) (by omega)
      rw [if_neg (by omega)] at hr
      refine xrun_ok hV [] 20 _ _ _ _ _ _ ?_
      simp (maxDischargeDepth := 60) only [xrun, xisc, ↓xstep, xget, xtgt, xcmp, xacmp, xprev, xisR, xnt, List.set, List.length, xsw, xlk, true_or, or_true, if_true, if_false, true_and, and_true, List.mem_cons, List.not_mem_nil, or_false, false_or, Bool.false_eq_true, reduceCtorEq, not_false_eq_true, forall_const, Nat.zero_add, Nat.reduceAdd, Nat.reduceSub, Int.reduceAdd, Int.reduceNeg, Int.reduceToNat, Nat.reduceEqDiff, Nat.reduceLT, Nat.reduceLeDiff, Int.reduceLE, Int.reduceLT, reduceIte, Int.cast_ofNat_Int, Int.natCast_zero, Int.natCast_one, Int.reduceAdd, eq_self, Int.reduceSub, List.length_cons, List.length_nil, xli_m1, xli_0, xli_1, xli_2, xli_3, xli_4, xli_5, xlb_8, xlb_12, xlb_31, xlb_32, xlb_64, xls_256, xls_513, xls_2048, xls_4096, xll_0, xll_1, xnr_i, xnr_0, xnr_1, xnr_ite, xft_i, xft_0, xft_1, xat_999, xat_1001, xat_1002, xat_1003, xat_2001, xat_2002, xat_2003, List.getElem?_cons_succ, List.getElem?_cons_zero, xfn_0, xfn_1, xfn_2, xfn_3, x10, x01, not_true_eq_false, false_implies, implies_true, true_implies, xrm_c, xrm_s, xnl_4, xnl_32, xnl_64, xnl_256, xtn_4, xtn_32, xtn_64, xtn_256, Option.some.injEq, Sum.inl.injEq, Sum.inr.injEq, exists_eq_left', exists_eq_right, Option.toList_some, Option.toList_none, List.cons_append, List.nil_append, xE, lg_cmp_ge, lg_cmp_le, lg_cmp_gt, lg_cmp_lt, lg_cmp_eq, Nat.le_refl, Nat.zero_le, ne_eq, Nat.add_zero, dS_countGone_0, dS_countGone_1, dS_countGone_2, dS_countGone_3, dS_countGone_6, dS_countGone_7, dS_countGone_8, dS_countGone_9, dS_countGone_10, dS_countGone_11, dS_countGone_13, dS_countGone_15, dS_countGone_16, dS_countGone_19, dS_countGone_20, dS_countGone_22, dS_countGone_23, dS_countGone_25, dS_countGone_27, dS_countGone_30, dS_countGone_33, dS_countGone_35, dS_countGone_38, dS_countGone_41, dS_countGone_44, dS_countGone_47, dS_countGone_50, dS_countGone_51, xf_3_11, xf_3_108, h3, h4, h6, e0, hr]
      exact ⟨fun z => absurd z h32, fun _ => ⟨⟨_, rfl⟩, vp_in_nI (by omega) (by decide), hQ⟩⟩
  | succ n ih =>
    intro k hk hn
    have hkl : k < M 4 0 := by omega
    have h6 : ((32 : Int32) ≤ nI k) = (32 ≤ k) := xI_le_nI (by omega) 32 (by decide)
    have e0 : (nI k).toNatClampNeg = k := nI_clamp (by omega)
    have n32 : ¬ 32 ≤ k := by omega
    have hr := h.2.2.1.1 k (by omega)
    rw [if_pos hkl] at hr
    obtain ⟨⟨p1, -⟩, ⟨-, -, -, p2, -⟩, -⟩ := h.2.2.2.1 _ hkl
    have hw8 := (h.1.2.2.1 _ hkl).2.2.2
    have e8 : (nI (M 8 k) = 0) = (M 8 k = 0) := propext (nI_eq (b := 0) (by omega) (by decide))
    have hs : gcnt M (M 8) (k + 1) = gcnt M (M 8) k + (if decide (M 8 k ≠ 0) = true then 1 else 0) := rfl
    have next : ∀ x : Int32, x = nI (gcnt M (M 8) (k + 1)) → V 44 [some (.inr (.inr (some th))), some (.inl x), some (.inr (.inr (some (ar 0)))), some (.inl 32), some (.inl (nI k)), some (.inr (.inr (some (pa k))))] [] S 0 0 := by
      intro x hx
      rw [hx]
      refine xrun_ok hV [13] 20 _ _ _ _ _ _ ?_
      simp (maxDischargeDepth := 60) only [xrun, xisc, ↓xstep, xget, xtgt, xcmp, xacmp, xprev, xisR, xnt, List.set, List.length, xsw, xlk, true_or, or_true, if_true, if_false, true_and, and_true, List.mem_cons, List.not_mem_nil, or_false, false_or, Bool.false_eq_true, reduceCtorEq, not_false_eq_true, forall_const, Nat.zero_add, Nat.reduceAdd, Nat.reduceSub, Int.reduceAdd, Int.reduceNeg, Int.reduceToNat, Nat.reduceEqDiff, Nat.reduceLT, Nat.reduceLeDiff, Int.reduceLE, Int.reduceLT, reduceIte, Int.cast_ofNat_Int, Int.natCast_zero, Int.natCast_one, Int.reduceAdd, eq_self, Int.reduceSub, List.length_cons, List.length_nil, xli_m1, xli_0, xli_1, xli_2, xli_3, xli_4, xli_5, xlb_8, xlb_12, xlb_31, xlb_32, xlb_64, xls_256, xls_513, xls_2048, xls_4096, xll_0, xll_1, xnr_i, xnr_0, xnr_1, xnr_ite, xft_i, xft_0, xft_1, xat_999, xat_1001, xat_1002, xat_1003, xat_2001, xat_2002, xat_2003, List.getElem?_cons_succ, List.getElem?_cons_zero, xfn_0, xfn_1, xfn_2, xfn_3, x10, x01, not_true_eq_false, false_implies, implies_true, true_implies, xrm_c, xrm_s, xnl_4, xnl_32, xnl_64, xnl_256, xtn_4, xtn_32, xtn_64, xtn_256, Option.some.injEq, Sum.inl.injEq, Sum.inr.injEq, exists_eq_left', exists_eq_right, Option.toList_some, Option.toList_none, List.cons_append, List.nil_append, xE, lg_cmp_ge, lg_cmp_le, lg_cmp_gt, lg_cmp_lt, lg_cmp_eq, Nat.le_refl, Nat.zero_le, ne_eq, Nat.add_zero, dS_countGone_0, dS_countGone_1, dS_countGone_2, dS_countGone_3, dS_countGone_6, dS_countGone_7, dS_countGone_8, dS_countGone_9, dS_countGone_10, dS_countGone_11, dS_countGone_13, dS_countGone_15, dS_countGone_16, dS_countGone_19, dS_countGone_20, dS_countGone_22, dS_countGone_23, dS_countGone_25, dS_countGone_27, dS_countGone_30, dS_countGone_33, dS_countGone_35, dS_countGone_38, dS_countGone_41, dS_countGone_44, dS_countGone_47, dS_countGone_50, dS_countGone_51, xf_3_11, xf_3_108, nI_1]
      exact hV.weak [some (.inr (.inr (some th))), some (.inl (nI (gcnt M (M 8) (k + 1)))), some (.inr (.inr (some (ar 0)))), some (.inl 32), some (.inl (nI (k + 1))), none] ⟨rfl, rfl, rfl, rfl, rfl, trivial⟩ (ih (k + 1) (by omega) (by omega))
    refine xrun_ok hV [44] 40 _ _ _ _ _ _ ?_
    simp (maxDischargeDepth := 60) only [xrun, xisc, ↓xstep, xget, xtgt, xcmp, xacmp, xprev, xisR, xnt, List.set, List.length, xsw, xlk, true_or, or_true, if_true, if_false, true_and, and_true, List.mem_cons, List.not_mem_nil, or_false, false_or, Bool.false_eq_true, reduceCtorEq, not_false_eq_true, forall_const, Nat.zero_add, Nat.reduceAdd, Nat.reduceSub, Int.reduceAdd, Int.reduceNeg, Int.reduceToNat, Nat.reduceEqDiff, Nat.reduceLT, Nat.reduceLeDiff, Int.reduceLE, Int.reduceLT, reduceIte, Int.cast_ofNat_Int, Int.natCast_zero, Int.natCast_one, Int.reduceAdd, eq_self, Int.reduceSub, List.length_cons, List.length_nil, xli_m1, xli_0, xli_1, xli_2, xli_3, xli_4, xli_5, xlb_8, xlb_12, xlb_31, xlb_32, xlb_64, xls_256, xls_513, xls_2048, xls_4096, xll_0, xll_1, xnr_i, xnr_0, xnr_1, xnr_ite, xft_i, xft_0, xft_1, xat_999, xat_1001, xat_1002, xat_1003, xat_2001, xat_2002, xat_2003, List.getElem?_cons_succ, List.getElem?_cons_zero, xfn_0, xfn_1, xfn_2, xfn_3, x10, x01, not_true_eq_false, false_implies, implies_true, true_implies, xrm_c, xrm_s, xnl_4, xnl_32, xnl_64, xnl_256, xtn_4, xtn_32, xtn_64, xtn_256, Option.some.injEq, Sum.inl.injEq, Sum.inr.injEq, exists_eq_left', exists_eq_right, Option.toList_some, Option.toList_none, List.cons_append, List.nil_append, xE, lg_cmp_ge, lg_cmp_le, lg_cmp_gt, lg_cmp_lt, lg_cmp_eq, Nat.le_refl, Nat.zero_le, ne_eq, Nat.add_zero, dS_countGone_0, dS_countGone_1, dS_countGone_2, dS_countGone_3, dS_countGone_6, dS_countGone_7, dS_countGone_8, dS_countGone_9, dS_countGone_10, dS_countGone_11, dS_countGone_13, dS_countGone_15, dS_countGone_16, dS_countGone_19, dS_countGone_20, dS_countGone_22, dS_countGone_23, dS_countGone_25, dS_countGone_27, dS_countGone_30, dS_countGone_33, dS_countGone_35, dS_countGone_38, dS_countGone_41, dS_countGone_44, dS_countGone_47, dS_countGone_50, dS_countGone_51, xf_3_11, xf_3_108, h3, h4, h6, e0, hr, p1, p2, e8, n32]
    refine ⟨⟨_, rfl⟩, vp_in_nI (by omega) (by decide), fun z => next _ ?_, fun z => next _ ?_⟩
    · rw [hs]; simp [z]
    · rw [hs]; simp [z, nI_1]
set_option maxHeartbeats 4000000 in
set_option maxRecDepth 100000 in
theorem c_countGone (h : rC S th ar pa qa la M) : xMet l D n0 mS_countGone 0 0 [.inr (.inr (some th))] S (fun r S' => r = some (.inl (nI (gcnt M (M 8) (M 4 0)))) ∧ S' = S) := by
  refine xMet.of (k := mS_countGone) (own := 3) (ini := false) xm_S_countGone (by decide +kernel) (by decide +kernel) (by decide) (Nat.le_of_ble_eq_true rfl) ?_
  intro V hV
  show V 0 [some (.inr (.inr (some th))), none, none, none, none, none] [] S 0 0
  have k1 := h.th
  have k2 := (h.2.1.2.1 0 (by decide)).1
  have k3 := h.2.1.2.2.1.1
  have k4 := h.2.1.2.2.2.1.1
  have e32 : Int32.ofNat 32 = 32 := rfl
  refine xrun_ok hV [13] 20 _ _ _ _ _ _ ?_
  simp (maxDischargeDepth := 60) only [xrun, xisc, ↓xstep, xget, xtgt, xcmp, xacmp, xprev, xisR, xnt, List.set, List.length, xsw, xlk, true_or, or_true, if_true, if_false, true_and, and_true, List.mem_cons, List.not_mem_nil, or_false, false_or, Bool.false_eq_true, reduceCtorEq, not_false_eq_true, forall_const, Nat.zero_add, Nat.reduceAdd, Nat.reduceSub, Int.reduceAdd, Int.reduceNeg, Int.reduceToNat, Nat.reduceEqDiff, Nat.reduceLT, Nat.reduceLeDiff, Int.reduceLE, Int.reduceLT, reduceIte, Int.cast_ofNat_Int, Int.natCast_zero, Int.natCast_one, Int.reduceAdd, eq_self, Int.reduceSub, List.length_cons, List.length_nil, xli_m1, xli_0, xli_1, xli_2, xli_3, xli_4, xli_5, xlb_8, xlb_12, xlb_31, xlb_32, xlb_64, xls_256, xls_513, xls_2048, xls_4096, xll_0, xll_1, xnr_i, xnr_0, xnr_1, xnr_ite, xft_i, xft_0, xft_1, xat_999, xat_1001, xat_1002, xat_1003, xat_2001, xat_2002, xat_2003, List.getElem?_cons_succ, List.getElem?_cons_zero, xfn_0, xfn_1, xfn_2, xfn_3, x10, x01, not_true_eq_false, false_implies, implies_true, true_implies, xrm_c, xrm_s, xnl_4, xnl_32, xnl_64, xnl_256, xtn_4, xtn_32, xtn_64, xtn_256, Option.some.injEq, Sum.inl.injEq, Sum.inr.injEq, exists_eq_left', exists_eq_right, Option.toList_some, Option.toList_none, List.cons_append, List.nil_append, xE, lg_cmp_ge, lg_cmp_le, lg_cmp_gt, lg_cmp_lt, lg_cmp_eq, Nat.le_refl, Nat.zero_le, ne_eq, Nat.add_zero, dS_countGone_0, dS_countGone_1, dS_countGone_2, dS_countGone_3, dS_countGone_6, dS_countGone_7, dS_countGone_8, dS_countGone_9, dS_countGone_10, dS_countGone_11, dS_countGone_13, dS_countGone_15, dS_countGone_16, dS_countGone_19, dS_countGone_20, dS_countGone_22, dS_countGone_23, dS_countGone_25, dS_countGone_27, dS_countGone_30, dS_countGone_33, dS_countGone_35, dS_countGone_38, dS_countGone_41, dS_countGone_44, dS_countGone_47, dS_countGone_50, dS_countGone_51, xf_3_11, xf_3_108, k1, k2, k3, k4, e32]
  refine ⟨⟨_, rfl⟩, ?_⟩
  exact count_loop h hV ⟨rfl, rfl⟩ (M 4 0) 0 (Nat.zero_le _) (by omega)
set_option maxHeartbeats 4000000 in
set_option maxRecDepth 100000 in
theorem back_loop (hM : mWF M) {S0 : xS} {V : xKt} {Q : Option xVal → xS → Prop}
    (hV : xCl l D n0 3 cS_back false none (xrm mS_back 0 0) V (xE 0 0 Q))
    (hQ : ∀ S, rC S th ar pa qa la (mback M) → xFr tC S0 S → Q none S) :
    ∀ (n k : Nat) (S : xS), k ≤ M 4 0 → M 4 0 - k = n → rC S th ar pa qa la (mgone M (gput (fun _ => 0) (M 8) k)) → xFr tC S0 S → V 10 [some (.inr (.inr (some th))), some (.inr (.inr (some (ar 0)))), some (.inl 32), some (.inl (nI k)), none] [] S 0 0 := by
  have hw := hM.1.2.1
  intro n
  induction n with
  | zero =>
    intro k S hk hn h hF
    have : k = M 4 0 := by omega
    subst this
    have h3 := h.2.1.2.2.1.1
    have h4 := h.2.1.2.2.2.1.1
    have h6 : ((32 : Int32) ≤ nI (M 4 0)) = (32 ≤ M 4 0) := xI_le_nI (by omega) 32 (by decide)
    have e0 : (nI (M 4 0)).toNatClampNeg = M 4 0 := nI_clamp (by omega)
    have ee : mgone M (gput (fun _ => 0) (M 8) (M 4 0)) = mback M := mgone_eq (fun p hp => by simp [gput, hp])
    have hq := hQ S (by rw [← ee]; exact h) hF
    by_cases h32 : 32 ≤ M 4 0
    · refine xrun_ok hV [] 20 _ _ _ _ _ _ ?_
      simp (maxDischargeDepth := 60) only [xrun, xisc, ↓xstep, xget, xtgt, xcmp, xacmp, xprev, xisR, xnt, List.set, List.length, xsw, xlk, true_or, or_true, if_true, if_false, true_and, and_true, List.mem_cons, List.not_mem_nil, or_false, false_or, Bool.false_eq_true, reduceCtorEq, not_false_eq_true, forall_const, Nat.zero_add, Nat.reduceAdd, Nat.reduceSub, Int.reduceAdd, Int.reduceNeg, Int.reduceToNat, Nat.reduceEqDiff, Nat.reduceLT, Nat.reduceLeDiff, Int.reduceLE, Int.reduceLT, reduceIte, Int.cast_ofNat_Int, Int.natCast_zero, Int.natCast_one, Int.reduceAdd, eq_self, Int.reduceSub, List.length_cons, List.length_nil, xli_m1, xli_0, xli_1, xli_2, xli_3, xli_4, xli_5, xlb_8, xlb_12, xlb_31, xlb_32, xlb_64, xls_256, xls_513, xls_2048, xls_4096, xll_0, xll_1, xnr_i, xnr_0, xnr_1, xnr_ite, xft_i, xft_0, xft_1, xat_999, xat_1001, xat_1002, xat_1003, xat_2001, xat_2002, xat_2003, List.getElem?_cons_succ, List.getElem?_cons_zero, xfn_0, xfn_1, xfn_2, xfn_3, x10, x01, not_true_eq_false, false_implies, implies_true, true_implies, xrm_c, xrm_s, xnl_4, xnl_32, xnl_64, xnl_256, xtn_4, xtn_32, xtn_64, xtn_256, Option.some.injEq, Sum.inl.injEq, Sum.inr.injEq, exists_eq_left', exists_eq_right, Option.toList_some, Option.toList_none, List.cons_append, List.nil_append, xE, lg_cmp_ge, lg_cmp_le, lg_cmp_gt, lg_cmp_lt, lg_cmp_eq, Nat.le_refl, Nat.zero_le, ne_eq, Nat.add_zero, dS_back_0, dS_back_1, dS_back_4, dS_back_5, dS_back_6, dS_back_7, dS_back_8, dS_back_9, dS_back_10, dS_back_11, dS_back_12, dS_back_15, dS_back_16, dS_back_17, dS_back_18, dS_back_20, dS_back_22, dS_back_25, dS_back_28, dS_back_30, dS_back_31, dS_back_34, dS_back_37, dS_back_40, xf_3_11, xf_3_108, h3, h4, h6]
      exact ⟨fun _ => hq, fun z => absurd h32 z⟩
    · have hr := h.2.2.1.1 (M 4 0) (by omega)
      rw [if_neg (show ¬ M 4 0 < (mgone M (gput (fun _ => 0) (M 8) (M 4 0))) 4 0 from Nat.lt_irrefl _)] at hr
      refine xrun_ok hV [] 20 _ _ _ _ _ _ ?_
      simp (maxDischargeDepth := 60) only [xrun, xisc, ↓xstep, xget, xtgt, xcmp, xacmp, xprev, xisR, xnt, List.set, List.length, xsw, xlk, true_or, or_true, if_true, if_false, true_and, and_true, List.mem_cons, List.not_mem_nil, or_false, false_or, Bool.false_eq_true, reduceCtorEq, not_false_eq_true, forall_const, Nat.zero_add, Nat.reduceAdd, Nat.reduceSub, Int.reduceAdd, Int.reduceNeg, Int.reduceToNat, Nat.reduceEqDiff, Nat.reduceLT, Nat.reduceLeDiff, Int.reduceLE, Int.reduceLT, reduceIte, Int.cast_ofNat_Int, Int.natCast_zero, Int.natCast_one, Int.reduceAdd, eq_self, Int.reduceSub, List.length_cons, List.length_nil, xli_m1, xli_0, xli_1, xli_2, xli_3, xli_4, xli_5, xlb_8, xlb_12, xlb_31, xlb_32, xlb_64, xls_256, xls_513, xls_2048, xls_4096, xll_0, xll_1, xnr_i, xnr_0, xnr_1, xnr_ite, xft_i, xft_0, xft_1, xat_999, xat_1001, xat_1002, xat_1003, xat_2001, xat_2002, xat_2003, List.getElem?_cons_succ, List.getElem?_cons_zero, xfn_0, xfn_1, xfn_2, xfn_3, x10, x01, not_true_eq_false, false_implies, implies_true, true_implies, xrm_c, xrm_s, xnl_4, xnl_32, xnl_64, xnl_256, xtn_4, xtn_32, xtn_64, xtn_256, Option.some.injEq, Sum.inl.injEq, Sum.inr.injEq, exists_eq_left', exists_eq_right, Option.toList_some, Option.toList_none, List.cons_append, List.nil_append, xE, lg_cmp_ge, lg_cmp_le, lg_cmp_gt, lg_cmp_lt, lg_cmp_eq, Nat.le_refl, Nat.zero_le, ne_eq, Nat.add_zero, dS_back_0, dS_back_1, dS_back_4, dS_back_5, dS_back_6, dS_back_7, dS_back_8, dS_back_9, dS_back_10, dS_back_11, dS_back_12, dS_back_15, dS_back_16, dS_back_17, dS_back_18, dS_back_20, dS_back_22, dS_back_25, dS_back_28, dS_back_30, dS_back_31, dS_back_34, dS_back_37, dS_back_40, xf_3_11, xf_3_108, h3, h4, h6, e0, hr]
      exact ⟨fun z => absurd z h32, fun _ => ⟨⟨_, rfl⟩, vp_in_nI (by omega) (by decide), hq⟩⟩
  | succ n ih =>
    intro k S hk hn h hF
    have hkl : k < M 4 0 := by omega
    have h3 := h.2.1.2.2.1.1
    have h4 := h.2.1.2.2.2.1.1
    have h6 : ((32 : Int32) ≤ nI k) = (32 ≤ k) := xI_le_nI (by omega) 32 (by decide)
    have e0 : (nI k).toNatClampNeg = k := nI_clamp (by omega)
    have n32 : ¬ 32 ≤ k := by omega
    have hr := h.2.2.1.1 k (by omega)
    rw [if_pos (show k < (mgone M (gput (fun _ => 0) (M 8) k)) 4 0 from hkl)] at hr
    obtain ⟨⟨p1, -⟩, -⟩ := h.2.2.2.1 _ hkl
    have g1 := rC_gone h (p := k) (v := 0) hkl (by decide)
    rw [mgone_set hkl, gput_s] at g1
    refine xrun_ok hV [10] 40 _ _ _ _ _ _ ?_
    simp (maxDischargeDepth := 60) only [xrun, xisc, ↓xstep, xget, xtgt, xcmp, xacmp, xprev, xisR, xnt, List.set, List.length, xsw, xlk, true_or, or_true, if_true, if_false, true_and, and_true, List.mem_cons, List.not_mem_nil, or_false, false_or, Bool.false_eq_true, reduceCtorEq, not_false_eq_true, forall_const, Nat.zero_add, Nat.reduceAdd, Nat.reduceSub, Int.reduceAdd, Int.reduceNeg, Int.reduceToNat, Nat.reduceEqDiff, Nat.reduceLT, Nat.reduceLeDiff, Int.reduceLE, Int.reduceLT, reduceIte, Int.cast_ofNat_Int, Int.natCast_zero, Int.natCast_one, Int.reduceAdd, eq_self, Int.reduceSub, List.length_cons, List.length_nil, xli_m1, xli_0, xli_1, xli_2, xli_3, xli_4, xli_5, xlb_8, xlb_12, xlb_31, xlb_32, xlb_64, xls_256, xls_513, xls_2048, xls_4096, xll_0, xll_1, xnr_i, xnr_0, xnr_1, xnr_ite, xft_i, xft_0, xft_1, xat_999, xat_1001, xat_1002, xat_1003, xat_2001, xat_2002, xat_2003, List.getElem?_cons_succ, List.getElem?_cons_zero, xfn_0, xfn_1, xfn_2, xfn_3, x10, x01, not_true_eq_false, false_implies, implies_true, true_implies, xrm_c, xrm_s, xnl_4, xnl_32, xnl_64, xnl_256, xtn_4, xtn_32, xtn_64, xtn_256, Option.some.injEq, Sum.inl.injEq, Sum.inr.injEq, exists_eq_left', exists_eq_right, Option.toList_some, Option.toList_none, List.cons_append, List.nil_append, xE, lg_cmp_ge, lg_cmp_le, lg_cmp_gt, lg_cmp_lt, lg_cmp_eq, Nat.le_refl, Nat.zero_le, ne_eq, Nat.add_zero, dS_back_0, dS_back_1, dS_back_4, dS_back_5, dS_back_6, dS_back_7, dS_back_8, dS_back_9, dS_back_10, dS_back_11, dS_back_12, dS_back_15, dS_back_16, dS_back_17, dS_back_18, dS_back_20, dS_back_22, dS_back_25, dS_back_28, dS_back_30, dS_back_31, dS_back_34, dS_back_37, dS_back_40, xf_3_11, xf_3_108, h3, h4, h6, e0, hr, p1, n32, nI_1, xc_pi]
    exact ⟨⟨_, rfl⟩, vp_in_nI (by omega) (by decide), hV.weak [some (.inr (.inr (some th))), some (.inr (.inr (some (ar 0)))), some (.inl 32), some (.inl (nI (k + 1))), none] ⟨rfl, rfl, rfl, rfl, trivial⟩ (ih (k + 1) _ (by omega) (by omega) g1 (hF.tr (xFr.pi (by rw [p1]; rfl))))⟩
set_option maxHeartbeats 4000000 in
set_option maxRecDepth 100000 in
theorem c_back (h : rCx S th M) : xMet l D n0 mS_back 0 0 [.inr (.inr (some th))] S (fun r S' => r = none ∧ rCx S' th (mback M) ∧ xFr tC S S') := by
  obtain ⟨ar, pa, qa, la, h⟩ := h
  refine xMet.of (k := mS_back) (own := 3) (ini := false) xm_S_back (by decide +kernel) (by decide +kernel) (by decide) (Nat.le_of_ble_eq_true rfl) ?_
  intro V hV
  show V 0 [some (.inr (.inr (some th))), none, none, none, none] [] S 0 0
  have k1 := h.th
  have k2 := (h.2.1.2.1 0 (by decide)).1
  have k3 := h.2.1.2.2.1.1
  have k4 := h.2.1.2.2.2.1.1
  have e32 : Int32.ofNat 32 = 32 := rfl
  refine xrun_ok hV [10] 20 _ _ _ _ _ _ ?_
  simp (maxDischargeDepth := 60) only [xrun, xisc, ↓xstep, xget, xtgt, xcmp, xacmp, xprev, xisR, xnt, List.set, List.length, xsw, xlk, true_or, or_true, if_true, if_false, true_and, and_true, List.mem_cons, List.not_mem_nil, or_false, false_or, Bool.false_eq_true, reduceCtorEq, not_false_eq_true, forall_const, Nat.zero_add, Nat.reduceAdd, Nat.reduceSub, Int.reduceAdd, Int.reduceNeg, Int.reduceToNat, Nat.reduceEqDiff, Nat.reduceLT, Nat.reduceLeDiff, Int.reduceLE, Int.reduceLT, reduceIte, Int.cast_ofNat_Int, Int.natCast_zero, Int.natCast_one, Int.reduceAdd, eq_self, Int.reduceSub, List.length_cons, List.length_nil, xli_m1, xli_0, xli_1, xli_2, xli_3, xli_4, xli_5, xlb_8, xlb_12, xlb_31, xlb_32, xlb_64, xls_256, xls_513, xls_2048, xls_4096, xll_0, xll_1, xnr_i, xnr_0, xnr_1, xnr_ite, xft_i, xft_0, xft_1, xat_999, xat_1001, xat_1002, xat_1003, xat_2001, xat_2002, xat_2003, List.getElem?_cons_succ, List.getElem?_cons_zero, xfn_0, xfn_1, xfn_2, xfn_3, x10, x01, not_true_eq_false, false_implies, implies_true, true_implies, xrm_c, xrm_s, xnl_4, xnl_32, xnl_64, xnl_256, xtn_4, xtn_32, xtn_64, xtn_256, Option.some.injEq, Sum.inl.injEq, Sum.inr.injEq, exists_eq_left', exists_eq_right, Option.toList_some, Option.toList_none, List.cons_append, List.nil_append, xE, lg_cmp_ge, lg_cmp_le, lg_cmp_gt, lg_cmp_lt, lg_cmp_eq, Nat.le_refl, Nat.zero_le, ne_eq, Nat.add_zero, dS_back_0, dS_back_1, dS_back_4, dS_back_5, dS_back_6, dS_back_7, dS_back_8, dS_back_9, dS_back_10, dS_back_11, dS_back_12, dS_back_15, dS_back_16, dS_back_17, dS_back_18, dS_back_20, dS_back_22, dS_back_25, dS_back_28, dS_back_30, dS_back_31, dS_back_34, dS_back_37, dS_back_40, xf_3_11, xf_3_108, k1, k2, k3, k4, e32]
  refine ⟨⟨_, rfl⟩, ?_⟩
  exact back_loop (S0 := S) h.1 hV (fun S2 w1 w2 => ⟨rfl, ⟨_, _, _, _, w1⟩, w2⟩) (M 4 0) 0 S (Nat.zero_le _) (by omega) (by rw [gput_0, mgone_id]; exact h) (xFr.rf _ _)
set_option maxHeartbeats 4000000 in
set_option maxRecDepth 100000 in
theorem sweep_loop2 (hM : mWF M) {S0 : xS} {V : xKt} {Q : Option xVal → xS → Prop}
    (hV : xCl l D n0 3 cS_sweep false (some .int) (xrm mS_sweep 0 0) V (xE 0 0 Q)) :
    ∀ (f i : Nat) (G : Nat → Nat) (S : xS), i + f = 32 → rC S th ar pa qa la (mgone M G) → xFr tC S0 S → (∀ S1, rC S1 th ar pa qa la (mgone M (clp M f G)) → xFr tC S0 S1 → Q (some (.inl (nI (gcnt M (clp M f G) (M 4 0))))) S1) → V 54 [some (.inr (.inr (some th))), some (.inl (nI i)), none, none, none] [] S 0 0 := by
  have fin : ∀ (G : Nat → Nat) (S : xS) (o : Int32), rC S th ar pa qa la (mgone M G) → Q (some (.inl (nI (gcnt M G (M 4 0))))) S → V 76 [some (.inr (.inr (some th))), some (.inl o), none, none, none] [] S 0 0 := by
    intro G S o h hq
    have h1 := h.th
    refine xrun_ok hV [] 20 _ _ _ _ _ _ ?_
    simp (maxDischargeDepth := 60) only [xrun, xisc, ↓xstep, xget, xtgt, xcmp, xacmp, xprev, xisR, xnt, List.set, List.length, xsw, xlk, true_or, or_true, if_true, if_false, true_and, and_true, List.mem_cons, List.not_mem_nil, or_false, false_or, Bool.false_eq_true, reduceCtorEq, not_false_eq_true, forall_const, Nat.zero_add, Nat.reduceAdd, Nat.reduceSub, Int.reduceAdd, Int.reduceNeg, Int.reduceToNat, Nat.reduceEqDiff, Nat.reduceLT, Nat.reduceLeDiff, Int.reduceLE, Int.reduceLT, reduceIte, Int.cast_ofNat_Int, Int.natCast_zero, Int.natCast_one, Int.reduceAdd, eq_self, Int.reduceSub, List.length_cons, List.length_nil, xli_m1, xli_0, xli_1, xli_2, xli_3, xli_4, xli_5, xlb_8, xlb_12, xlb_31, xlb_32, xlb_64, xls_256, xls_513, xls_2048, xls_4096, xll_0, xll_1, xnr_i, xnr_0, xnr_1, xnr_ite, xft_i, xft_0, xft_1, xat_999, xat_1001, xat_1002, xat_1003, xat_2001, xat_2002, xat_2003, List.getElem?_cons_succ, List.getElem?_cons_zero, xfn_0, xfn_1, xfn_2, xfn_3, x10, x01, not_true_eq_false, false_implies, implies_true, true_implies, xrm_c, xrm_s, xnl_4, xnl_32, xnl_64, xnl_256, xtn_4, xtn_32, xtn_64, xtn_256, Option.some.injEq, Sum.inl.injEq, Sum.inr.injEq, exists_eq_left', exists_eq_right, Option.toList_some, Option.toList_none, List.cons_append, List.nil_append, xE, lg_cmp_ge, lg_cmp_le, lg_cmp_gt, lg_cmp_lt, lg_cmp_eq, Nat.le_refl, Nat.zero_le, ne_eq, Nat.add_zero, dS_sweep_0, dS_sweep_1, dS_sweep_4, dS_sweep_5, dS_sweep_6, dS_sweep_7, dS_sweep_8, dS_sweep_9, dS_sweep_10, dS_sweep_11, dS_sweep_12, dS_sweep_15, dS_sweep_16, dS_sweep_17, dS_sweep_18, dS_sweep_20, dS_sweep_22, dS_sweep_25, dS_sweep_28, dS_sweep_30, dS_sweep_32, dS_sweep_35, dS_sweep_38, dS_sweep_39, dS_sweep_42, dS_sweep_43, dS_sweep_46, dS_sweep_49, dS_sweep_52, dS_sweep_53, dS_sweep_54, dS_sweep_55, dS_sweep_57, dS_sweep_60, dS_sweep_61, dS_sweep_64, dS_sweep_67, dS_sweep_70, dS_sweep_73, dS_sweep_76, dS_sweep_77, dS_sweep_80, xf_3_11, xf_3_104, xf_3_108]
    refine hV.call [] (As := [.inr (.inr (some th))]) xh_3_115 dS_sweep_77 (c_countGone h) (Or.inr ⟨_, _, rfl, fun _ => h1⟩) rfl rfl (by decide) (by decide) (by decide) ?_
    rintro r S1 ⟨rfl, rfl⟩
    refine xrun_ok hV [] 20 _ _ _ _ _ _ ?_
    simp (maxDischargeDepth := 60) only [xrun, xisc, ↓xstep, xget, xtgt, xcmp, xacmp, xprev, xisR, xnt, List.set, List.length, xsw, xlk, true_or, or_true, if_true, if_false, true_and, and_true, List.mem_cons, List.not_mem_nil, or_false, false_or, Bool.false_eq_true, reduceCtorEq, not_false_eq_true, forall_const, Nat.zero_add, Nat.reduceAdd, Nat.reduceSub, Int.reduceAdd, Int.reduceNeg, Int.reduceToNat, Nat.reduceEqDiff, Nat.reduceLT, Nat.reduceLeDiff, Int.reduceLE, Int.reduceLT, reduceIte, Int.cast_ofNat_Int, Int.natCast_zero, Int.natCast_one, Int.reduceAdd, eq_self, Int.reduceSub, List.length_cons, List.length_nil, xli_m1, xli_0, xli_1, xli_2, xli_3, xli_4, xli_5, xlb_8, xlb_12, xlb_31, xlb_32, xlb_64, xls_256, xls_513, xls_2048, xls_4096, xll_0, xll_1, xnr_i, xnr_0, xnr_1, xnr_ite, xft_i, xft_0, xft_1, xat_999, xat_1001, xat_1002, xat_1003, xat_2001, xat_2002, xat_2003, List.getElem?_cons_succ, List.getElem?_cons_zero, xfn_0, xfn_1, xfn_2, xfn_3, x10, x01, not_true_eq_false, false_implies, implies_true, true_implies, xrm_c, xrm_s, xnl_4, xnl_32, xnl_64, xnl_256, xtn_4, xtn_32, xtn_64, xtn_256, Option.some.injEq, Sum.inl.injEq, Sum.inr.injEq, exists_eq_left', exists_eq_right, Option.toList_some, Option.toList_none, List.cons_append, List.nil_append, xE, lg_cmp_ge, lg_cmp_le, lg_cmp_gt, lg_cmp_lt, lg_cmp_eq, Nat.le_refl, Nat.zero_le, ne_eq, Nat.add_zero, dS_sweep_0, dS_sweep_1, dS_sweep_4, dS_sweep_5, dS_sweep_6, dS_sweep_7, dS_sweep_8, dS_sweep_9, dS_sweep_10, dS_sweep_11, dS_sweep_12, dS_sweep_15, dS_sweep_16, dS_sweep_17, dS_sweep_18, dS_sweep_20, dS_sweep_22, dS_sweep_25, dS_sweep_28, dS_sweep_30, dS_sweep_32, dS_sweep_35, dS_sweep_38, dS_sweep_39, dS_sweep_42, dS_sweep_43, dS_sweep_46, dS_sweep_49, dS_sweep_52, dS_sweep_53, dS_sweep_54, dS_sweep_55, dS_sweep_57, dS_sweep_60, dS_sweep_61, dS_sweep_64, dS_sweep_67, dS_sweep_70, dS_sweep_73, dS_sweep_76, dS_sweep_77, dS_sweep_80, xf_3_11, xf_3_104, xf_3_108]
    have e : gcnt (mgone M G) (mgone M G 8) (M 4 0) = gcnt M G (M 4 0) := by
      unfold gcnt ncnt
      have : ∀ n, n ≤ M 4 0 → nsum (fun i => if (decide (mgone M G 8 i ≠ 0)) = true then 1 else 0) n = nsum (fun i => if (decide (G i ≠ 0)) = true then 1 else 0) n := by
        intro n
        induction n with
        | zero => intro _; rfl
        | succ n ih => intro hn; rw [nsum, nsum, ih (by omega), mgone_8 _ _ (by omega)]
      exact this _ (Nat.le_refl _)
    have e2 : (mgone M G) 4 0 = M 4 0 := rfl
    rw [e2, e]
    exact hq
  intro f
  induction f with
  | zero =>
    intro i G S hi h hF hQ
    have e2 : ((32 : Int32) ≤ nI i) = True := by
      have := xI_le_nI (x := i) (by omega) 32 (by decide)
      rw [show nI 32 = (32 : Int32) from rfl] at this
      rw [this]; simp; omega
    refine xrun_ok hV [76] 20 _ _ _ _ _ _ ?_
    simp (maxDischargeDepth := 60) only [xrun, xisc, ↓xstep, xget, xtgt, xcmp, xacmp, xprev, xisR, xnt, List.set, List.length, xsw, xlk, true_or, or_true, if_true, if_false, true_and, and_true, List.mem_cons, List.not_mem_nil, or_false, false_or, Bool.false_eq_true, reduceCtorEq, not_false_eq_true, forall_const, Nat.zero_add, Nat.reduceAdd, Nat.reduceSub, Int.reduceAdd, Int.reduceNeg, Int.reduceToNat, Nat.reduceEqDiff, Nat.reduceLT, Nat.reduceLeDiff, Int.reduceLE, Int.reduceLT, reduceIte, Int.cast_ofNat_Int, Int.natCast_zero, Int.natCast_one, Int.reduceAdd, eq_self, Int.reduceSub, List.length_cons, List.length_nil, xli_m1, xli_0, xli_1, xli_2, xli_3, xli_4, xli_5, xlb_8, xlb_12, xlb_31, xlb_32, xlb_64, xls_256, xls_513, xls_2048, xls_4096, xll_0, xll_1, xnr_i, xnr_0, xnr_1, xnr_ite, xft_i, xft_0, xft_1, xat_999, xat_1001, xat_1002, xat_1003, xat_2001, xat_2002, xat_2003, List.getElem?_cons_succ, List.getElem?_cons_zero, xfn_0, xfn_1, xfn_2, xfn_3, x10, x01, not_true_eq_false, false_implies, implies_true, true_implies, xrm_c, xrm_s, xnl_4, xnl_32, xnl_64, xnl_256, xtn_4, xtn_32, xtn_64, xtn_256, Option.some.injEq, Sum.inl.injEq, Sum.inr.injEq, exists_eq_left', exists_eq_right, Option.toList_some, Option.toList_none, List.cons_append, List.nil_append, xE, lg_cmp_ge, lg_cmp_le, lg_cmp_gt, lg_cmp_lt, lg_cmp_eq, Nat.le_refl, Nat.zero_le, ne_eq, Nat.add_zero, dS_sweep_0, dS_sweep_1, dS_sweep_4, dS_sweep_5, dS_sweep_6, dS_sweep_7, dS_sweep_8, dS_sweep_9, dS_sweep_10, dS_sweep_11, dS_sweep_12, dS_sweep_15, dS_sweep_16, dS_sweep_17, dS_sweep_18, dS_sweep_20, dS_sweep_22, dS_sweep_25, dS_sweep_28, dS_sweep_30, dS_sweep_32, dS_sweep_35, dS_sweep_38, dS_sweep_39, dS_sweep_42, dS_sweep_43, dS_sweep_46, dS_sweep_49, dS_sweep_52, dS_sweep_53, dS_sweep_54, dS_sweep_55, dS_sweep_57, dS_sweep_60, dS_sweep_61, dS_sweep_64, dS_sweep_67, dS_sweep_70, dS_sweep_73, dS_sweep_76, dS_sweep_77, dS_sweep_80, xf_3_11, xf_3_104, xf_3_108, e2]
    exact fin G S _ h (hQ S h hF)
  | succ f ih =>
    intro i G S hi h hF hQ
    have e2 : ((32 : Int32) ≤ nI i) = False := by
      have := xI_le_nI (x := i) (by omega) 32 (by decide)
      rw [show nI 32 = (32 : Int32) from rfl] at this
      rw [this]; simp; omega
    have h1 := h.th
    refine xrun_ok hV [76] 20 _ _ _ _ _ _ ?_
    simp (maxDischargeDepth := 60) only [xrun, xisc, ↓xstep, xget, xtgt, xcmp, xacmp, xprev, xisR, xnt, List.set, List.length, xsw, xlk, true_or, or_true, if_true, if_false, true_and, and_true, List.mem_cons, List.not_mem_nil, or_false, false_or, Bool.false_eq_true, reduceCtorEq, not_false_eq_true, forall_const, Nat.zero_add, Nat.reduceAdd, Nat.reduceSub, Int.reduceAdd, Int.reduceNeg, Int.reduceToNat, Nat.reduceEqDiff, Nat.reduceLT, Nat.reduceLeDiff, Int.reduceLE, Int.reduceLT, reduceIte, Int.cast_ofNat_Int, Int.natCast_zero, Int.natCast_one, Int.reduceAdd, eq_self, Int.reduceSub, List.length_cons, List.length_nil, xli_m1, xli_0, xli_1, xli_2, xli_3, xli_4, xli_5, xlb_8, xlb_12, xlb_31, xlb_32, xlb_64, xls_256, xls_513, xls_2048, xls_4096, xll_0, xll_1, xnr_i, xnr_0, xnr_1, xnr_ite, xft_i, xft_0, xft_1, xat_999, xat_1001, xat_1002, xat_1003, xat_2001, xat_2002, xat_2003, List.getElem?_cons_succ, List.getElem?_cons_zero, xfn_0, xfn_1, xfn_2, xfn_3, x10, x01, not_true_eq_false, false_implies, implies_true, true_implies, xrm_c, xrm_s, xnl_4, xnl_32, xnl_64, xnl_256, xtn_4, xtn_32, xtn_64, xtn_256, Option.some.injEq, Sum.inl.injEq, Sum.inr.injEq, exists_eq_left', exists_eq_right, Option.toList_some, Option.toList_none, List.cons_append, List.nil_append, xE, lg_cmp_ge, lg_cmp_le, lg_cmp_gt, lg_cmp_lt, lg_cmp_eq, Nat.le_refl, Nat.zero_le, ne_eq, Nat.add_zero, dS_sweep_0, dS_sweep_1, dS_sweep_4, dS_sweep_5, dS_sweep_6, dS_sweep_7, dS_sweep_8, dS_sweep_9, dS_sweep_10, dS_sweep_11, dS_sweep_12, dS_sweep_15, dS_sweep_16, dS_sweep_17, dS_sweep_18, dS_sweep_20, dS_sweep_22, dS_sweep_25, dS_sweep_28, dS_sweep_30, dS_sweep_32, dS_sweep_35, dS_sweep_38, dS_sweep_39, dS_sweep_42, dS_sweep_43, dS_sweep_46, dS_sweep_49, dS_sweep_52, dS_sweep_53, dS_sweep_54, dS_sweep_55, dS_sweep_57, dS_sweep_60, dS_sweep_61, dS_sweep_64, dS_sweep_67, dS_sweep_70, dS_sweep_73, dS_sweep_76, dS_sweep_77, dS_sweep_80, xf_3_11, xf_3_104, xf_3_108, e2]
    refine hV.call [] (As := [.inr (.inr (some th))]) xh_3_111 dS_sweep_61 (c_bring hM h) (Or.inr ⟨_, _, rfl, fun _ => h1⟩) rfl rfl (by decide) (by decide) (by decide) ?_
    rintro r S1 ⟨rfl, g1, g2⟩
    rw [clp] at hQ
    cases hc : gfl M G (M 12 0) with
    | false =>
      rw [hc] at hQ
      refine xrun_ok hV [76] 20 _ _ _ _ _ _ ?_
      simp (maxDischargeDepth := 60) only [xrun, xisc, ↓xstep, xget, xtgt, xcmp, xacmp, xprev, xisR, xnt, List.set, List.length, xsw, xlk, true_or, or_true, if_true, if_false, true_and, and_true, List.mem_cons, List.not_mem_nil, or_false, false_or, Bool.false_eq_true, reduceCtorEq, not_false_eq_true, forall_const, Nat.zero_add, Nat.reduceAdd, Nat.reduceSub, Int.reduceAdd, Int.reduceNeg, Int.reduceToNat, Nat.reduceEqDiff, Nat.reduceLT, Nat.reduceLeDiff, Int.reduceLE, Int.reduceLT, reduceIte, Int.cast_ofNat_Int, Int.natCast_zero, Int.natCast_one, Int.reduceAdd, eq_self, Int.reduceSub, List.length_cons, List.length_nil, xli_m1, xli_0, xli_1, xli_2, xli_3, xli_4, xli_5, xlb_8, xlb_12, xlb_31, xlb_32, xlb_64, xls_256, xls_513, xls_2048, xls_4096, xll_0, xll_1, xnr_i, xnr_0, xnr_1, xnr_ite, xft_i, xft_0, xft_1, xat_999, xat_1001, xat_1002, xat_1003, xat_2001, xat_2002, xat_2003, List.getElem?_cons_succ, List.getElem?_cons_zero, xfn_0, xfn_1, xfn_2, xfn_3, x10, x01, not_true_eq_false, false_implies, implies_true, true_implies, xrm_c, xrm_s, xnl_4, xnl_32, xnl_64, xnl_256, xtn_4, xtn_32, xtn_64, xtn_256, Option.some.injEq, Sum.inl.injEq, Sum.inr.injEq, exists_eq_left', exists_eq_right, Option.toList_some, Option.toList_none, List.cons_append, List.nil_append, xE, lg_cmp_ge, lg_cmp_le, lg_cmp_gt, lg_cmp_lt, lg_cmp_eq, Nat.le_refl, Nat.zero_le, ne_eq, Nat.add_zero, dS_sweep_0, dS_sweep_1, dS_sweep_4, dS_sweep_5, dS_sweep_6, dS_sweep_7, dS_sweep_8, dS_sweep_9, dS_sweep_10, dS_sweep_11, dS_sweep_12, dS_sweep_15, dS_sweep_16, dS_sweep_17, dS_sweep_18, dS_sweep_20, dS_sweep_22, dS_sweep_25, dS_sweep_28, dS_sweep_30, dS_sweep_32, dS_sweep_35, dS_sweep_38, dS_sweep_39, dS_sweep_42, dS_sweep_43, dS_sweep_46, dS_sweep_49, dS_sweep_52, dS_sweep_53, dS_sweep_54, dS_sweep_55, dS_sweep_57, dS_sweep_60, dS_sweep_61, dS_sweep_64, dS_sweep_67, dS_sweep_70, dS_sweep_73, dS_sweep_76, dS_sweep_77, dS_sweep_80, xf_3_11, xf_3_104, xf_3_108]
      exact fin _ S1 _ g1 (hQ S1 g1 (hF.tr g2))
    | true =>
      rw [hc, if_pos rfl] at hQ
      refine xrun_ok hV [54] 20 _ _ _ _ _ _ ?_
      simp (maxDischargeDepth := 60) only [xrun, xisc, ↓xstep, xget, xtgt, xcmp, xacmp, xprev, xisR, xnt, List.set, List.length, xsw, xlk, true_or, or_true, if_true, if_false, true_and, and_true, List.mem_cons, List.not_mem_nil, or_false, false_or, Bool.false_eq_true, reduceCtorEq, not_false_eq_true, forall_const, Nat.zero_add, Nat.reduceAdd, Nat.reduceSub, Int.reduceAdd, Int.reduceNeg, Int.reduceToNat, Nat.reduceEqDiff, Nat.reduceLT, Nat.reduceLeDiff, Int.reduceLE, Int.reduceLT, reduceIte, Int.cast_ofNat_Int, Int.natCast_zero, Int.natCast_one, Int.reduceAdd, eq_self, Int.reduceSub, List.length_cons, List.length_nil, xli_m1, xli_0, xli_1, xli_2, xli_3, xli_4, xli_5, xlb_8, xlb_12, xlb_31, xlb_32, xlb_64, xls_256, xls_513, xls_2048, xls_4096, xll_0, xll_1, xnr_i, xnr_0, xnr_1, xnr_ite, xft_i, xft_0, xft_1, xat_999, xat_1001, xat_1002, xat_1003, xat_2001, xat_2002, xat_2003, List.getElem?_cons_succ, List.getElem?_cons_zero, xfn_0, xfn_1, xfn_2, xfn_3, x10, x01, not_true_eq_false, false_implies, implies_true, true_implies, xrm_c, xrm_s, xnl_4, xnl_32, xnl_64, xnl_256, xtn_4, xtn_32, xtn_64, xtn_256, Option.some.injEq, Sum.inl.injEq, Sum.inr.injEq, exists_eq_left', exists_eq_right, Option.toList_some, Option.toList_none, List.cons_append, List.nil_append, xE, lg_cmp_ge, lg_cmp_le, lg_cmp_gt, lg_cmp_lt, lg_cmp_eq, Nat.le_refl, Nat.zero_le, ne_eq, Nat.add_zero, dS_sweep_0, dS_sweep_1, dS_sweep_4, dS_sweep_5, dS_sweep_6, dS_sweep_7, dS_sweep_8, dS_sweep_9, dS_sweep_10, dS_sweep_11, dS_sweep_12, dS_sweep_15, dS_sweep_16, dS_sweep_17, dS_sweep_18, dS_sweep_20, dS_sweep_22, dS_sweep_25, dS_sweep_28, dS_sweep_30, dS_sweep_32, dS_sweep_35, dS_sweep_38, dS_sweep_39, dS_sweep_42, dS_sweep_43, dS_sweep_46, dS_sweep_49, dS_sweep_52, dS_sweep_53, dS_sweep_54, dS_sweep_55, dS_sweep_57, dS_sweep_60, dS_sweep_61, dS_sweep_64, dS_sweep_67, dS_sweep_70, dS_sweep_73, dS_sweep_76, dS_sweep_77, dS_sweep_80, xf_3_11, xf_3_104, xf_3_108, nI_1]
      exact ih (i + 1) _ S1 (by omega) g1 (hF.tr g2) hQ
set_option maxHeartbeats 4000000 in
set_option maxRecDepth 100000 in
theorem sweep_loop1 (hM : mWF M) {S0 : xS} {V : xKt} {Q : Option xVal → xS → Prop}
    (hV : xCl l D n0 3 cS_sweep false (some .int) (xrm mS_sweep 0 0) V (xE 0 0 Q))
    (hQ : ∀ S o, rC S th ar pa qa la (mgone M (g0 M)) → xFr tC S0 S → V 52 [some (.inr (.inr (some th))), some (.inr (.inr (some (ar 0)))), some (.inl 32), some (.inl (nI (M 4 0))), o] [] S 0 0) :
    ∀ (n k : Nat) (S : xS), k ≤ M 4 0 → M 4 0 - k = n → rC S th ar pa qa la (mgone M (gput (g0 M) (M 8) k)) → xFr tC S0 S → V 10 [some (.inr (.inr (some th))), some (.inr (.inr (some (ar 0)))), some (.inl 32), some (.inl (nI k)), none] [] S 0 0 := by
  have hw := hM.1.2.1
  intro n
  induction n with
  | zero =>
    intro k S hk hn h hF
    have : k = M 4 0 := by omega
    subst this
    have h3 := h.2.1.2.2.1.1
    have h4 := h.2.1.2.2.2.1.1
    have h6 : ((32 : Int32) ≤ nI (M 4 0)) = (32 ≤ M 4 0) := xI_le_nI (by omega) 32 (by decide)
    have e0 : (nI (M 4 0)).toNatClampNeg = M 4 0 := nI_clamp (by omega)
    have ee : mgone M (gput (g0 M) (M 8) (M 4 0)) = mgone M (g0 M) := mgone_eq (fun p hp => by simp [gput, hp])
    have hq := fun o => hQ S o (by rw [← ee]; exact h) hF
    by_cases h32 : 32 ≤ M 4 0
    · refine xrun_ok hV [52] 20 _ _ _ _ _ _ ?_
      simp (maxDischargeDepth := 60) only [xrun, xisc, ↓xstep, xget, xtgt, xcmp, xacmp, xprev, xisR, xnt, List.set, List.length, xsw, xlk, true_or, or_true, if_true, if_false, true_and, and_true, List.mem_cons, List.not_mem_nil, or_false, false_or, Bool.false_eq_true, reduceCtorEq, not_false_eq_true, forall_const, Nat.zero_add, Nat.reduceAdd, Nat.reduceSub, Int.reduceAdd, Int.reduceNeg, Int.reduceToNat, Nat.reduceEqDiff, Nat.reduceLT, Nat.reduceLeDiff, Int.reduceLE, Int.reduceLT, reduceIte, Int.cast_ofNat_Int, Int.natCast_zero, Int.natCast_one, Int.reduceAdd, eq_self, Int.reduceSub, List.length_cons, List.length_nil, xli_m1, xli_0, xli_1, xli_2, xli_3, xli_4, xli_5, xlb_8, xlb_12, xlb_31, xlb_32, xlb_64, xls_256, xls_513, xls_2048, xls_4096, xll_0, xll_1, xnr_i, xnr_0, xnr_1, xnr_ite, xft_i, xft_0, xft_1, xat_999, xat_1001, xat_1002, xat_1003, xat_2001, xat_2002, xat_2003, List.getElem?_cons_succ, List.getElem?_cons_zero, xfn_0, xfn_1, xfn_2, xfn_3, x10, x01, not_true_eq_false, false_implies, implies_true, true_implies, xrm_c, xrm_s, xnl_4, xnl_32, xnl_64, xnl_256, xtn_4, xtn_32, xtn_64, xtn_256, Option.some.injEq, Sum.inl.injEq, Sum.inr.injEq, exists_eq_left', exists_eq_right, Option.toList_some, Option.toList_none, List.cons_append, List.nil_append, xE, lg_cmp_ge, lg_cmp_le, lg_cmp_gt, lg_cmp_lt, lg_cmp_eq, Nat.le_refl, Nat.zero_le, ne_eq, Nat.add_zero, dS_sweep_0, dS_sweep_1, dS_sweep_4, dS_sweep_5, dS_sweep_6, dS_sweep_7, dS_sweep_8, dS_sweep_9, dS_sweep_10, dS_sweep_11, dS_sweep_12, dS_sweep_15, dS_sweep_16, dS_sweep_17, dS_sweep_18, dS_sweep_20, dS_sweep_22, dS_sweep_25, dS_sweep_28, dS_sweep_30, dS_sweep_32, dS_sweep_35, dS_sweep_38, dS_sweep_39, dS_sweep_42, dS_sweep_43, dS_sweep_46, dS_sweep_49, dS_sweep_52, dS_sweep_53, dS_sweep_54, dS_sweep_55, dS_sweep_57, dS_sweep_60, dS_sweep_61, dS_sweep_64, dS_sweep_67, dS_sweep_70, dS_sweep_73, dS_sweep_76, dS_sweep_77, dS_sweep_80, xf_3_11, xf_3_104, xf_3_108, h3, h4, h6]
      exact ⟨fun _ => hq _, fun z => absurd h32 z⟩
    · have hr := h.2.2.1.1 (M 4 0) (by omega)
      rw [if_neg (show ¬ M 4 0 < (mgone M (gput (g0 M) (M 8) (M 4 0))) 4 0 from Nat.lt_irrefl _)] at hr
      refine xrun_ok hV [52] 20 _ _ _ _ _ _ ?_
      simp (maxDischargeDepth := 60) only [xrun, xisc, ↓xstep, xget, xtgt, xcmp, xacmp, xprev, xisR, xnt, List.set, List.length, xsw, xlk, true_or, or_true, if_true, if_false, true_and, and_true, List.mem_cons, List.not_mem_nil, or_false, false_or, Bool.false_eq_true, reduceCtorEq, not_false_eq_true, forall_const, Nat.zero_add, Nat.reduceAdd, Nat.reduceSub, Int.reduceAdd, Int.reduceNeg, Int.reduceToNat, Nat.reduceEqDiff, Nat.reduceLT, Nat.reduceLeDiff, Int.reduceLE, Int.reduceLT, reduceIte, Int.cast_ofNat_Int, Int.natCast_zero, Int.natCast_one, Int.reduceAdd, eq_self, Int.reduceSub, List.length_cons, List.length_nil, xli_m1, xli_0, xli_1, xli_2, xli_3, xli_4, xli_5, xlb_8, xlb_12, xlb_31, xlb_32, xlb_64, xls_256, xls_513, xls_2048, xls_4096, xll_0, xll_1, xnr_i, xnr_0, xnr_1, xnr_ite, xft_i, xft_0, xft_1, xat_999, xat_1001, xat_1002, xat_1003, xat_2001, xat_2002, xat_2003, List.getElem?_cons_succ, List.getElem?_cons_zero, xfn_0, xfn_1, xfn_2, xfn_3, x10, x01, not_true_eq_false, false_implies, implies_true, true_implies, xrm_c, xrm_s, xnl_4, xnl_32, xnl_64, xnl_256, xtn_4, xtn_32, xtn_64, xtn_256, Option.some.injEq, Sum.inl.injEq, Sum.inr.injEq, exists_eq_left', exists_eq_right, Option.toList_some, Option.toList_none, List.cons_append, List.nil_append, xE, lg_cmp_ge, lg_cmp_le, lg_cmp_gt, lg_cmp_lt, lg_cmp_eq, Nat.le_refl, Nat.zero_le, ne_eq, Nat.add_zero, dS_sweep_0, dS_sweep_1, dS_sweep_4, dS_sweep_5, dS_sweep_6, dS_sweep_7, dS_sweep_8, dS_sweep_9, dS_sweep_10, dS_sweep_11, dS_sweep_12, dS_sweep_15, dS_sweep_16, dS_sweep_17, dS_sweep_18, dS_sweep_20, dS_sweep_22, dS_sweep_25, dS_sweep_28, dS_sweep_30, dS_sweep_32, dS_sweep_35, dS_sweep_38, dS_sweep_39, dS_sweep_42, dS_sweep_43, dS_sweep_46, dS_sweep_49, dS_sweep_52, dS_sweep_53, dS_sweep_54, dS_sweep_55, dS_sweep_57, dS_sweep_60, dS_sweep_61, dS_sweep_64, dS_sweep_67, dS_sweep_70, dS_sweep_73, dS_sweep_76, dS_sweep_77, dS_sweep_80, xf_3_11, xf_3_104, xf_3_108, h3, h4, h6, e0, hr]
      exact ⟨fun z => absurd z h32, fun _ => ⟨⟨_, rfl⟩, vp_in_nI (by omega) (by decide), hq _⟩⟩
  | succ n ih =>
    intro k S hk hn h hF
    have hkl : k < M 4 0 := by omega
    have h3 := h.2.1.2.2.1.1
    have h4 := h.2.1.2.2.2.1.1
    have h6 : ((32 : Int32) ≤ nI k) = (32 ≤ k) := xI_le_nI (by omega) 32 (by decide)
    have e0 : (nI k).toNatClampNeg = k := nI_clamp (by omega)
    have n32 : ¬ 32 ≤ k := by omega
    have hr := h.2.2.1.1 k (by omega)
    rw [if_pos (show k < (mgone M (gput (g0 M) (M 8) k)) 4 0 from hkl)] at hr
    obtain ⟨⟨p1, -⟩, ⟨-, -, -, -, p2'⟩, -⟩ := h.2.2.2.1 _ hkl
    have p2 : xi S (pa k) 4 = nI (M 7 k) := p2'
    have hw7 := (hM.2.2.1 _ hkl).2.2.1
    have e7 : (nI (M 7 k) = 0) = (M 7 k = 0) := propext (nI_eq (b := 0) (by omega) (by decide))
    have g1 := rC_gone h (p := k) (v := g0 M k) hkl (by unfold g0; omega)
    rw [mgone_set hkl, gput_s] at g1
    refine xrun_ok hV [10] 40 _ _ _ _ _ _ ?_
    simp (maxDischargeDepth := 60) only [xrun, xisc, ↓xstep, xget, xtgt, xcmp, xacmp, xprev, xisR, xnt, List.set, List.length, xsw, xlk, true_or, or_true, if_true, if_false, true_and, and_true, List.mem_cons, List.not_mem_nil, or_false, false_or, Bool.false_eq_true, reduceCtorEq, not_false_eq_true, forall_const, Nat.zero_add, Nat.reduceAdd, Nat.reduceSub, Int.reduceAdd, Int.reduceNeg, Int.reduceToNat, Nat.reduceEqDiff, Nat.reduceLT, Nat.reduceLeDiff, Int.reduceLE, Int.reduceLT, reduceIte, Int.cast_ofNat_Int, Int.natCast_zero, Int.natCast_one, Int.reduceAdd, eq_self, Int.reduceSub, List.length_cons, List.length_nil, xli_m1, xli_0, xli_1, xli_2, xli_3, xli_4, xli_5, xlb_8, xlb_12, xlb_31, xlb_32, xlb_64, xls_256, xls_513, xls_2048, xls_4096, xll_0, xll_1, xnr_i, xnr_0, xnr_1, xnr_ite, xft_i, xft_0, xft_1, xat_999, xat_1001, xat_1002, xat_1003, xat_2001, xat_2002, xat_2003, List.getElem?_cons_succ, List.getElem?_cons_zero, xfn_0, xfn_1, xfn_2, xfn_3, x10, x01, not_true_eq_false, false_implies, implies_true, true_implies, xrm_c, xrm_s, xnl_4, xnl_32, xnl_64, xnl_256, xtn_4, xtn_32, xtn_64, xtn_256, Option.some.injEq, Sum.inl.injEq, Sum.inr.injEq, exists_eq_left', exists_eq_right, Option.toList_some, Option.toList_none, List.cons_append, List.nil_append, xE, lg_cmp_ge, lg_cmp_le, lg_cmp_gt, lg_cmp_lt, lg_cmp_eq, Nat.le_refl, Nat.zero_le, ne_eq, Nat.add_zero, dS_sweep_0, dS_sweep_1, dS_sweep_4, dS_sweep_5, dS_sweep_6, dS_sweep_7, dS_sweep_8, dS_sweep_9, dS_sweep_10, dS_sweep_11, dS_sweep_12, dS_sweep_15, dS_sweep_16, dS_sweep_17, dS_sweep_18, dS_sweep_20, dS_sweep_22, dS_sweep_25, dS_sweep_28, dS_sweep_30, dS_sweep_32, dS_sweep_35, dS_sweep_38, dS_sweep_39, dS_sweep_42, dS_sweep_43, dS_sweep_46, dS_sweep_49, dS_sweep_52, dS_sweep_53, dS_sweep_54, dS_sweep_55, dS_sweep_57, dS_sweep_60, dS_sweep_61, dS_sweep_64, dS_sweep_67, dS_sweep_70, dS_sweep_73, dS_sweep_76, dS_sweep_77, dS_sweep_80, xf_3_11, xf_3_104, xf_3_108, h3, h4, h6, e0, hr, p1, p2, e7, n32, nI_1, xc_pi]
    have go : ∀ x : Int32, x = nI (g0 M k) → V 10 [some (.inr (.inr (some th))), some (.inr (.inr (some (ar 0)))), some (.inl 32), some (.inl (nI (k + 1))), some (.inr (.inr (some (pa k))))] [] (xpi S (pa k) 3 x) 0 0 := by
      intro x hx
      rw [hx]
      exact hV.weak [some (.inr (.inr (some th))), some (.inr (.inr (some (ar 0)))), some (.inl 32), some (.inl (nI (k + 1))), none] ⟨rfl, rfl, rfl, rfl, trivial⟩ (ih (k + 1) _ (by omega) (by omega) g1 (hF.tr (xFr.pi (by rw [p1]; rfl))))
    refine ⟨⟨_, rfl⟩, vp_in_nI (by omega) (by decide), fun z => go _ ?_, fun z => go _ ?_⟩
    · have : g0 M k = 0 := by unfold g0; omega
      rw [this]; rfl
    · have : g0 M k = 1 := by unfold g0; omega
      rw [this]; rfl
set_option maxHeartbeats 4000000 in
set_option maxRecDepth 100000 in
theorem c_sweep (h : rCx S th M) : xMet l D n0 mS_sweep 0 0 [.inr (.inr (some th))] S (oC S th (oSweep M)) := by
  obtain ⟨ar, pa, qa, la, h⟩ := h
  have hM := h.1
  refine xMet.of (k := mS_sweep) (own := 3) (ini := false) xm_S_sweep (by decide +kernel) (by decide +kernel) (by decide) (Nat.le_of_ble_eq_true rfl) ?_
  intro V hV
  show V 0 [some (.inr (.inr (some th))), none, none, none, none] [] S 0 0
  have k1 := h.th
  have k2 := (h.2.1.2.1 0 (by decide)).1
  have k3 := h.2.1.2.2.1.1
  have k4 := h.2.1.2.2.2.1.1
  have e32 : Int32.ofNat 32 = 32 := rfl
  refine xrun_ok hV [10] 20 _ _ _ _ _ _ ?_
  simp (maxDischargeDepth := 60) only [xrun, xisc, ↓xstep, xget, xtgt, xcmp, xacmp, xprev, xisR, xnt, List.set, List.length, xsw, xlk, true_or, or_true, if_true, if_false, true_and, and_true, List.mem_cons, List.not_mem_nil, or_false, false_or, Bool.false_eq_true, reduceCtorEq, not_false_eq_true, forall_const, Nat.zero_add, Nat.reduceAdd, Nat.reduceSub, Int.reduceAdd, Int.reduceNeg, Int.reduceToNat, Nat.reduceEqDiff, Nat.reduceLT, Nat.reduceLeDiff, Int.reduceLE, Int.reduceLT, reduceIte, Int.cast_ofNat_Int, Int.natCast_zero, Int.natCast_one, Int.reduceAdd, eq_self, Int.reduceSub, List.length_cons, List.length_nil, xli_m1, xli_0, xli_1, xli_2, xli_3, xli_4, xli_5, xlb_8, xlb_12, xlb_31, xlb_32, xlb_64, xls_256, xls_513, xls_2048, xls_4096, xll_0, xll_1, xnr_i, xnr_0, xnr_1, xnr_ite, xft_i, xft_0, xft_1, xat_999, xat_1001, xat_1002, xat_1003, xat_2001, xat_2002, xat_2003, List.getElem?_cons_succ, List.getElem?_cons_zero, xfn_0, xfn_1, xfn_2, xfn_3, x10, x01, not_true_eq_false, false_implies, implies_true, true_implies, xrm_c, xrm_s, xnl_4, xnl_32, xnl_64, xnl_256, xtn_4, xtn_32, xtn_64, xtn_256, Option.some.injEq, Sum.inl.injEq, Sum.inr.injEq, exists_eq_left', exists_eq_right, Option.toList_some, Option.toList_none, List.cons_append, List.nil_append, xE, lg_cmp_ge, lg_cmp_le, lg_cmp_gt, lg_cmp_lt, lg_cmp_eq, Nat.le_refl, Nat.zero_le, ne_eq, Nat.add_zero, dS_sweep_0, dS_sweep_1, dS_sweep_4, dS_sweep_5, dS_sweep_6, dS_sweep_7, dS_sweep_8, dS_sweep_9, dS_sweep_10, dS_sweep_11, dS_sweep_12, dS_sweep_15, dS_sweep_16, dS_sweep_17, dS_sweep_18, dS_sweep_20, dS_sweep_22, dS_sweep_25, dS_sweep_28, dS_sweep_30, dS_sweep_32, dS_sweep_35, dS_sweep_38, dS_sweep_39, dS_sweep_42, dS_sweep_43, dS_sweep_46, dS_sweep_49, dS_sweep_52, dS_sweep_53, dS_sweep_54, dS_sweep_55, dS_sweep_57, dS_sweep_60, dS_sweep_61, dS_sweep_64, dS_sweep_67, dS_sweep_70, dS_sweep_73, dS_sweep_76, dS_sweep_77, dS_sweep_80, xf_3_11, xf_3_104, xf_3_108, k1, k2, k3, k4, e32]
  refine ⟨⟨_, rfl⟩, ?_⟩
  have ec : clp M 32 (g0 M) = giter M (M 4 0) (g0 M) := by
    have hc : gcnt M (g0 M) (M 4 0) ≤ M 4 0 := ncnt_le _ _
    have := hM.1.2.1
    exact clp_iter hM 32 (M 4 0) (g0 M) hc (by omega)
  refine sweep_loop1 (S0 := S) hM hV (fun S2 o w1 w2 => ?_) (M 4 0) 0 S (Nat.zero_le _) (by omega) (by rw [gput_0, mgone_id]; exact h) (xFr.rf _ _)
  refine xrun_ok hV [54] 20 _ _ _ _ _ _ ?_
  simp (maxDischargeDepth := 60) only [xrun, xisc, ↓xstep, xget, xtgt, xcmp, xacmp, xprev, xisR, xnt, List.set, List.length, xsw, xlk, true_or, or_true, if_true, if_false, true_and, and_true, List.mem_cons, List.not_mem_nil, or_false, false_or, Bool.false_eq_true, reduceCtorEq, not_false_eq_true, forall_const, Nat.zero_add, Nat.reduceAdd, Nat.reduceSub, Int.reduceAdd, Int.reduceNeg, Int.reduceToNat, Nat.reduceEqDiff, Nat.reduceLT, Nat.reduceLeDiff, Int.reduceLE, Int.reduceLT, reduceIte, Int.cast_ofNat_Int, Int.natCast_zero, Int.natCast_one, Int.reduceAdd, eq_self, Int.reduceSub, List.length_cons, List.length_nil, xli_m1, xli_0, xli_1, xli_2, xli_3, xli_4, xli_5, xlb_8, xlb_12, xlb_31, xlb_32, xlb_64, xls_256, xls_513, xls_2048, xls_4096, xll_0, xll_1, xnr_i, xnr_0, xnr_1, xnr_ite, xft_i, xft_0, xft_1, xat_999, xat_1001, xat_1002, xat_1003, xat_2001, xat_2002, xat_2003, List.getElem?_cons_succ, List.getElem?_cons_zero, xfn_0, xfn_1, xfn_2, xfn_3, x10, x01, not_true_eq_false, false_implies, implies_true, true_implies, xrm_c, xrm_s, xnl_4, xnl_32, xnl_64, xnl_256, xtn_4, xtn_32, xtn_64, xtn_256, Option.some.injEq, Sum.inl.injEq, Sum.inr.injEq, exists_eq_left', exists_eq_right, Option.toList_some, Option.toList_none, List.cons_append, List.nil_append, xE, lg_cmp_ge, lg_cmp_le, lg_cmp_gt, lg_cmp_lt, lg_cmp_eq, Nat.le_refl, Nat.zero_le, ne_eq, Nat.add_zero, dS_sweep_0, dS_sweep_1, dS_sweep_4, dS_sweep_5, dS_sweep_6, dS_sweep_7, dS_sweep_8, dS_sweep_9, dS_sweep_10, dS_sweep_11, dS_sweep_12, dS_sweep_15, dS_sweep_16, dS_sweep_17, dS_sweep_18, dS_sweep_20, dS_sweep_22, dS_sweep_25, dS_sweep_28, dS_sweep_30, dS_sweep_32, dS_sweep_35, dS_sweep_38, dS_sweep_39, dS_sweep_42, dS_sweep_43, dS_sweep_46, dS_sweep_49, dS_sweep_52, dS_sweep_53, dS_sweep_54, dS_sweep_55, dS_sweep_57, dS_sweep_60, dS_sweep_61, dS_sweep_64, dS_sweep_67, dS_sweep_70, dS_sweep_73, dS_sweep_76, dS_sweep_77, dS_sweep_80, xf_3_11, xf_3_104, xf_3_108]
  refine hV.weak [some (.inr (.inr (some th))), some (.inl (nI 0)), none, none, none] ⟨rfl, rfl, trivial⟩ (sweep_loop2 (S0 := S) hM hV 32 0 (g0 M) S2 rfl w1 w2 (fun S3 y1 y2 => ?_))
  rw [ec] at y1
  rw [ec]
  exact ⟨rfl, ⟨_, _, _, _, y1⟩, y2⟩
end SWEEP
