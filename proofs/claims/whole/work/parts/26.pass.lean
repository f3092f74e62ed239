/-! SIZES: a pass, fixing, resetting; the class's loops over them -/
-- how many i below n have P
def ncnt (P : Nat → Bool) : Nat → Nat := nsum (fun i => if P i = true then 1 else 0)
-- sizes and fixed anew for those pieces below k that have P
def mst (M : mT) (P : Nat → Bool) (v w : Nat → Nat) (k : Nat) : mT := fun f i => if f = 15 ∧ i < k ∧ P i = true then v i else if f = 21 ∧ i < k ∧ P i = true then w i else M f i
def mchg (M : mT) (k : Nat) : Bool := maim M k && mnot M k && decide (M 21 k = 0) && decide (mleast M k < M 15 k)
def mpass (M : mT) : mT := mst M (mchg M) (mleast M) (M 21) (M 12 0)
def oPass (M : mT) : Int32 × mT := (nI (ncnt (mchg M) (M 12 0)), mpass M)
def mfix (M : mT) : mT := mst M (mtight M) (fun k => mgr (M 13 k)) (fun _ => 1) (M 12 0)
def mreset (M : mT) : mT := mst M (maim M) (fun k => mgr (M 13 k)) (fun _ => 0) (M 12 0)
theorem mst_f (M : mT) (P : Nat → Bool) (v w : Nat → Nat) (k f i : Nat) (h : f ≠ 15 ∧ f ≠ 21) : mst M P v w k f i = M f i := by
  unfold mst
  rw [if_neg (fun z => h.1 z.1), if_neg (fun z => h.2 z.1)]
theorem mst_no (M : mT) (P : Nat → Bool) (v w : Nat → Nat) (k f i : Nat) (h : ¬ (i < k ∧ P i = true)) : mst M P v w k f i = M f i := by
  unfold mst
  rw [if_neg (fun z => h z.2), if_neg (fun z => h z.2)]
theorem mst_15 (M : mT) (P : Nat → Bool) (v w : Nat → Nat) (k i : Nat) (h : i < k ∧ P i = true) : mst M P v w k 15 i = v i := by
  unfold mst
  rw [if_pos ⟨rfl, h⟩]
theorem mst_21 (M : mT) (P : Nat → Bool) (v w : Nat → Nat) (k i : Nat) (h : i < k ∧ P i = true) : mst M P v w k 21 i = w i := by
  unfold mst
  rw [if_neg (by simp), if_pos ⟨rfl, h⟩]
theorem mst_0 (M : mT) (P : Nat → Bool) (v w : Nat → Nat) : mst M P v w 0 = M := by
  funext f i
  exact mst_no M P v w 0 f i (by simp)
theorem mst_skip (M : mT) (P : Nat → Bool) (v w : Nat → Nat) (k : Nat) (h : P k = false) : mst M P v w (k + 1) = mst M P v w k := by
  funext f i
  by_cases z : i < k ∧ P i = true
  · by_cases e : f = 15
    · subst e
      rw [mst_15 M P v w k i z, mst_15 M P v w (k + 1) i ⟨by omega, z.2⟩]
    · by_cases e2 : f = 21
      · subst e2
        rw [mst_21 M P v w k i z, mst_21 M P v w (k + 1) i ⟨by omega, z.2⟩]
      · rw [mst_f _ _ _ _ _ _ _ ⟨e, e2⟩, mst_f _ _ _ _ _ _ _ ⟨e, e2⟩]
  · rw [mst_no _ _ _ _ _ _ _ z, mst_no]
    rintro ⟨y1, y2⟩
    by_cases e : i = k
    · rw [e, h] at y2; cases y2
    · exact z ⟨by omega, y2⟩
/-- the new sizes are sizes -/
def mVok (M : mT) (P : Nat → Bool) (v w : Nat → Nat) : Prop := ∀ k, k < M 12 0 → P k = true → maim M k = true ∧ v k ≤ mgr (M 13 k) ∧ w k ≤ 1 ∧ (w k = 1 → v k = mgr (M 13 k)) ∧ mszk (M 13 k) (v k) = true
theorem mWF_st {M : mT} (h : mWF M) {P : Nat → Bool} {v w : Nat → Nat} (hv : mVok M P v w) (k : Nat) : mWF (mst M P v w k) := by
  obtain ⟨w1, w5, w6, w7, w8, w9, w10, w11⟩ := h
  have e := fun f i h => mst_f M P v w k f i h
  have ea : ∀ q, maim (mst M P v w k) q = maim M q := fun q => by simp only [maim, e 13 q (by decide)]
  unfold mWF
  rw [e 0 0 (by decide), e 4 0 (by decide), e 12 0 (by decide), e 25 0 (by decide)]
  refine ⟨w1, fun q hq => ?_, fun q hq => ?_, fun q hq => ?_, fun q hq => ?_, fun q hq => ?_, fun q hq => ?_, fun q hq => ?_⟩
  · rw [e 1 q (by decide)]; exact w5 q hq
  · rw [e 5 q (by decide), e 6 q (by decide), e 7 q (by decide), e 8 q (by decide)]; exact w6 q hq
  · rw [e 13 q (by decide), e 14 q (by decide), e 20 q (by decide), e 19 q (by decide), e 17 q (by decide)]
    have := w7 q hq
    refine ⟨this.1, this.2.1, this.2.2.1, ?_, this.2.2.2.2⟩
    by_cases z : q < k ∧ P q = true
    · rw [mst_21 _ _ _ _ _ _ z]; exact (hv q hq z.2).2.2.1
    · rw [mst_no _ _ _ _ _ _ _ z]; exact this.2.2.2.1
  · rw [e 13 q (by decide), e 16 q (by decide)]
    intro z0
    rw [mst_no _ _ _ _ _ _ _ (fun z => by have := (hv q hq z.2).1; simp [maim, z0] at this)]
    exact w8 q hq z0
  · rw [ea q, e 13 q (by decide), e 16 q (by decide), e 18 q (by decide), e 20 q (by decide)]
    intro ha
    obtain ⟨a1, a2, a3, a4, a5, a6⟩ := w9 q hq ha
    by_cases z : q < k ∧ P q = true
    · rw [mst_15 _ _ _ _ _ _ z, mst_21 _ _ _ _ _ _ z]
      obtain ⟨b1, b2, b3, b4, b5⟩ := hv q hq z.2
      exact ⟨a1, b2, a3, b4, a5, b5⟩
    · rw [mst_no _ _ _ _ _ _ _ z, mst_no _ _ _ _ _ _ _ z]
      exact ⟨a1, a2, a3, a4, a5, a6⟩
  · rw [e 13 q (by decide), e 16 q (by decide)]; exact w10 q hq
  · rw [e 26 q (by decide), e 27 q (by decide), e 13 _ (by decide), e 16 _ (by decide)]; exact w11 q hq
theorem mleast_k {M : mT} {k : Nat} (ha : maim M k = true) : mszk (M 13 k) (mleast M k) = true := by
  unfold mleast
  rw [if_pos ha]
  simp only [maim, Bool.and_eq_true, decide_eq_true_eq] at ha
  split
  · split
    · rename_i z
      unfold mlc mszk
      rw [if_pos z]
      repeat' split
      all_goals rfl
    · rename_i z
      unfold mll mszk
      rw [if_neg z]
      repeat' split
      all_goals rfl
  · unfold mszk mgr
    split <;> rfl
theorem mgr_k (s : Nat) : mszk s (mgr s) = true := by unfold mszk mgr; split <;> rfl
theorem mVok_pass {M : mT} (h : mWF M) : mVok M (mchg M) (mleast M) (M 21) := by
  intro k hk hc
  simp only [mchg, Bool.and_eq_true, decide_eq_true_eq] at hc
  obtain ⟨⟨⟨c1, c2⟩, c3⟩, c4⟩ := hc
  exact ⟨c1, mleast_le h hk c1, by omega, fun z => by omega, mleast_k c1⟩
theorem mVok_fix {M : mT} : mVok M (mtight M) (fun k => mgr (M 13 k)) (fun _ => 1) := by
  intro k hk hc
  simp only [mtight, Bool.and_eq_true, decide_eq_true_eq] at hc
  exact ⟨hc.1.1, Nat.le_refl _, Nat.le_refl _, fun _ => rfl, mgr_k _⟩
theorem mVok_reset {M : mT} : mVok M (maim M) (fun k => mgr (M 13 k)) (fun _ => 0) := fun k hk hc => ⟨hc, Nat.le_refl _, Nat.zero_le _, fun z => absurd z (show ¬ (0 = 1) by decide), mgr_k _⟩
section PASS
variable {l : Launch} {D : va_G} {n0 : Nat} {S S' : xS} {th : Nat} {ar pa qa la : Nat → Nat} {M : mT}
theorem rC_st {P : Nat → Bool} {v w : Nat → Nat} {k : Nat} (hM : mWF M) (hv : mVok M P v w) (h : rC S th ar pa qa la (mst M P v w k)) (hk : k < M 12 0) (hp : P k = true) (hn : xn S' = xn S) (hc : xc S' = xc S) (hl : xl S' = xl S) (hr : xr S' = xr S) (h8 : xi S' (qa k) 8 = nI (v k)) (h11 : xi S' (qa k) 11 = nI (w k)) (ho : ∀ b j, (b ≠ qa k ∨ (j ≠ 8 ∧ j ≠ 11)) → xi S' b j = xi S b j) : rC S' th ar pa qa la (mst M P v w (k + 1)) := by
  have e := fun f i h => mst_f M P v w k f i h
  have e' := fun f i h => mst_f M P v w (k + 1) f i h
  obtain ⟨hW, hT, hA, hP, hQ, hB, i1, i2, i3⟩ := h
  simp only [e 4 0 (by decide), e 12 0 (by decide), e 25 0 (by decide)] at hP hQ hB i1 i2 i3
  have q1 := (hQ k hk).1.1
  obtain ⟨⟨t1, t2⟩, t3, ⟨c0, c1, c2, c3, c4, c5⟩, t4, t5, ⟨t6, t7, t8, t9⟩, t10⟩ := hT
  have nth : ∀ j, xi S' th j = xi S th j := fun j => ho th j (Or.inl (xne t1 q1 (by decide)))
  refine ⟨mWF_st hM hv (k + 1), ⟨⟨by rw [hc]; exact t1, by omega⟩, fun f hf => by rw [hr, hn]; exact t3 f hf, by rw [hc]; exact ⟨c0, c1, c2, c3, c4, c5⟩, by rw [hl]; exact t4, t5, ⟨by rw [nth, e' 4 0 (by decide), ← e 4 0 (by decide)]; exact t6, by rw [nth, e' 12 0 (by decide), ← e 12 0 (by decide)]; exact t7, by rw [nth, e' 25 0 (by decide), ← e 25 0 (by decide)]; exact t8, by rw [nth, e' 0 0 (by decide), ← e 0 0 (by decide)]; exact t9⟩, fun o hoo => by rw [ho _ _ (Or.inl (xne c3 q1 (by decide))), e' 1 o (by decide), ← e 1 o (by decide)]; exact t10 o hoo⟩, ?_, ?_, ?_, ?_, ?_, ?_, ?_⟩
  · obtain ⟨A1, A2, A3⟩ := hA
    rw [e 4 0 (by decide)] at A1
    rw [e 12 0 (by decide)] at A2
    rw [e 25 0 (by decide)] at A3
    unfold rA
    rw [hr, e' 4 0 (by decide), e' 12 0 (by decide), e' 25 0 (by decide)]
    exact ⟨A1, A2, A3⟩
  · intro p hp'
    rw [e' 4 0 (by decide)] at hp'
    have r := hP p hp'
    have r2 : rP S' pa qa (mst M P v w k) p := r.same (by omega) ⟨by rw [hc], by rw [hl], fun j => ho _ j (Or.inl (xne r.1.1 q1 (by decide))), fun j => by rw [hr]⟩
    exact r2.to rfl (fun _ _ => rfl) ((e' 12 0 (by decide)).trans (e 12 0 (by decide)).symm) (fun j _ => (e' 14 j (by decide)).trans (e 14 j (by decide)).symm) ⟨(e' 5 p (by decide)).trans (e 5 p (by decide)).symm, (e' 6 p (by decide)).trans (e 6 p (by decide)).symm, (e' 7 p (by decide)).trans (e 7 p (by decide)).symm, (e' 8 p (by decide)).trans (e 8 p (by decide)).symm⟩
  · intro j hj
    rw [e' 12 0 (by decide)] at hj
    have r := hQ j hj
    have hnx : mnext (mst M P v w (k + 1)) j = mnext (mst M P v w k) j := by
      unfold mnext
      rw [e' 12 0 (by decide), e 12 0 (by decide), e' 14 j (by decide), e 14 j (by decide)]
      exact (mnx_congr (M := M) _ _ (fun i _ => e' 14 i (by decide))).trans (mnx_congr (M := M) _ _ (fun i _ => e 14 i (by decide))).symm
    have ea : maim (mst M P v w (k + 1)) j = maim (mst M P v w k) j := by simp only [maim, e' 13 j (by decide), e 13 j (by decide)]
    obtain ⟨r1, ⟨r2, r3, r4, r5, r6, r7, r8, r9⟩, r10, r11, r12⟩ := r
    have s2 : xi S' (qa j) 0 = xi S (qa j) 0 := ho _ _ (Or.inr (by decide))
    have s5 : xi S' (qa j) 3 = xi S (qa j) 3 := ho _ _ (Or.inr (by decide))
    have s6 : xi S' (qa j) 4 = xi S (qa j) 4 := ho _ _ (Or.inr (by decide))
    have s7 : xi S' (qa j) 5 = xi S (qa j) 5 := ho _ _ (Or.inr (by decide))
    have s8 : xi S' (qa j) 6 = xi S (qa j) 6 := ho _ _ (Or.inr (by decide))
    have s9 : xi S' (qa j) 7 = xi S (qa j) 7 := ho _ _ (Or.inr (by decide))
    unfold rQ
    rw [hc, hn, hr, hnx, ea, s2, s5, s6, s7, s8, s9, e' 13 j (by decide), e' 14 j (by decide), e' 18 j (by decide), e' 19 j (by decide), e' 20 j (by decide), e' 17 j (by decide), e' 16 j (by decide), ← e 13 j (by decide), ← e 14 j (by decide), ← e 18 j (by decide), ← e 19 j (by decide), ← e 20 j (by decide), ← e 17 j (by decide), ← e 16 j (by decide)]
    refine ⟨r1, ⟨r2, r3, r4, r5, r6, r7, r8, r9⟩, ?_, ?_, r12⟩
    · by_cases z : j = k
      · subst z
        intro _
        rw [h8, mst_15 _ _ _ _ _ _ ⟨by omega, hp⟩]
      · intro z4
        rw [ho _ _ (Or.inl (fun y => z (i2 j k hj hk y))), r10 z4]
        congr 1
        by_cases y : j < k ∧ P j = true
        · rw [mst_15 _ _ _ _ _ _ y, mst_15 _ _ _ _ _ _ ⟨by omega, y.2⟩]
        · rw [mst_no _ _ _ _ _ _ _ y, mst_no _ _ _ _ _ _ _ (fun x => y ⟨by omega, x.2⟩)]
    · by_cases z : j = k
      · subst z
        rw [h11, mst_21 _ _ _ _ _ _ ⟨by omega, hp⟩]
      · rw [ho _ _ (Or.inl (fun y => z (i2 j k hj hk y))), r11]
        congr 1
        by_cases y : j < k ∧ P j = true
        · rw [mst_21 _ _ _ _ _ _ y, mst_21 _ _ _ _ _ _ ⟨by omega, y.2⟩]
        · rw [mst_no _ _ _ _ _ _ _ y, mst_no _ _ _ _ _ _ _ (fun x => y ⟨by omega, x.2⟩)]
  · intro j hj
    rw [e' 25 0 (by decide)] at hj
    have r := hB j hj
    have r2 : rB S' qa la (mst M P v w k) j := r.same (by omega) ⟨by rw [hc], by rw [hl], fun q => ho _ q (Or.inl (xne r.1.1 q1 (by decide))), fun q => by rw [hr]⟩
    exact r2.to rfl ((e' 26 j (by decide)).trans (e 26 j (by decide)).symm) ((e' 27 j (by decide)).trans (e 27 j (by decide)).symm) (fun _ => rfl)
  · rw [e' 4 0 (by decide)]; exact i1
  · rw [e' 12 0 (by decide)]; exact i2
  · rw [e' 25 0 (by decide)]; exact i3
/-- what a loop over the pieces reads at piece k, the sizes below k being new already -/
theorem rC_rd {P : Nat → Bool} {v w : Nat → Nat} {k : Nat} (h : rC S th ar pa qa la (mst M P v w k)) (hk : k < M 12 0) :
    (xc S (qa k) = 3 ∧ xr S (qa k) 1 = some (pa (M 14 k)) ∧ xr S (qa k) 2 = (if maim M k = true then some (la (M 18 k)) else none) ∧ xi S (qa k) 7 = nI (M 16 k) ∧ xi S (qa k) 11 = nI (M 21 k)) ∧ (xc S (pa (M 14 k)) = 2 ∧ xi S (pa (M 14 k)) 3 = nI (M 8 (M 14 k))) ∧ xr S (ar 1) k = some (qa k) := by
  have e := fun f i h => mst_f M P v w k f i h
  have hq := h.2.2.2.2.1 k (by rw [e 12 0 (by decide)]; exact hk)
  have hp := (h.1.2.2.2.1 k (by rw [e 12 0 (by decide)]; exact hk)).2.1
  rw [e 14 k (by decide)] at hp
  have hpp := h.2.2.2.1 _ hp
  have hw := h.1.1.2.2.1
  rw [e 12 0 (by decide)] at hw
  have hr := h.2.2.1.2.1 k (by omega)
  rw [e 12 0 (by decide), if_pos hk] at hr
  obtain ⟨⟨q1, -⟩, ⟨-, q2, q3, -, -, -, -, q4⟩, -, q5, -⟩ := hq
  obtain ⟨⟨p1, -⟩, ⟨-, -, -, p2, -⟩, -⟩ := hpp
  have ea : maim (mst M P v w k) k = maim M k := by simp only [maim, e 13 k (by decide)]
  rw [e 14 k (by decide)] at q2
  rw [ea, e 18 k (by decide)] at q3
  rw [e 16 k (by decide)] at q4
  rw [mst_no _ _ _ _ _ _ _ (by omega)] at q5
  rw [e 8 _ (by decide)] at p2
  exact ⟨⟨q1, q2, q3, q4, q5⟩, ⟨p1, p2⟩, hr⟩
theorem rC_hd {P : Nat → Bool} {v w : Nat → Nat} {k : Nat} (h : rC S th ar pa qa la (mst M P v w k)) : xc S th = 4 ∧ xr S th 1 = some (ar 1) ∧ xc S (ar 1) = 2002 ∧ xl S (ar 1) = 256 ∧ M 12 0 ≤ 256 ∧ (M 12 0 < 256 → xr S (ar 1) (M 12 0) = none) := by
  have e := fun f i h => mst_f M P v w k f i h
  have hw := h.1.1.2.2.1
  rw [e 12 0 (by decide)] at hw
  refine ⟨h.th, (h.2.1.2.1 1 (by decide)).1, h.2.1.2.2.1.2.1, h.2.1.2.2.2.1.2.1, hw, fun z => ?_⟩
  have hr := h.2.2.1.2.1 (M 12 0) z
  rw [e 12 0 (by decide), if_neg (by omega)] at hr
  exact hr
set_option maxHeartbeats 4000000 in
set_option maxRecDepth 100000 in
theorem pass_loop (hM : mWF M) {S0 : xS} {V : xKt} {Q : Option xVal → xS → Prop}
    (hV : xCl l D n0 3 cS_makePass false (some .int) (xrm mS_makePass 0 0) V (xE 0 0 Q))
    (hQ : ∀ S, rC S th ar pa qa la (mpass M) → xFr tC S0 S → Q (some (.inl (nI (ncnt (mchg M) (M 12 0))))) S) :
    ∀ (n k : Nat) (S : xS), k ≤ M 12 0 → M 12 0 - k = n → rC S th ar pa qa la (mst M (mchg M) (mleast M) (M 21) k) → (∀ j, j < M 12 0 → mnot M j = true → xi S (qa j) 10 = nI (mleast M j)) → (∀ j, k ≤ j → j < M 12 0 → mnot M j = true → xi S (qa j) 8 = nI (msize M j)) → xFr tC S0 S → V 17 [some (.inr (.inr (some th))), some (.inl (nI (ncnt (mchg M) k))), some (.inr (.inr (some (ar 1)))), some (.inl 256), some (.inl (nI k)), none] [] S 0 0 := by
  intro n
  induction n with
  | zero =>
    intro k S hk hn h h10 h8 hF
    have : k = M 12 0 := by omega
    subst this
    obtain ⟨h1, h2, h3, h4, hw, hr⟩ := rC_hd h
    have h6 : ((256 : Int32) ≤ nI (M 12 0)) = (256 ≤ M 12 0) := xI_le_nI (by omega) 256 (by decide)
    have e0 : (nI (M 12 0)).toNatClampNeg = M 12 0 := nI_clamp (by omega)
    by_cases h32 : 256 ≤ M 12 0
    · refine xrun_ok hV [] 20 _ _ _ _ _ _ ?_
      simp (maxDischargeDepth := 60) only [xrun, xisc, ↓xstep, xget, xtgt, xcmp, xacmp, xprev, xisR, xnt, List.set, List.length, xsw, xlk, true_or, or_true, if_true, if_false, true_and, and_true, List.mem_cons, List.not_mem_nil, or_false, false_or, Bool.false_eq_true, reduceCtorEq, not_false_eq_true, forall_const, Nat.zero_add, Nat.reduceAdd, Nat.reduceSub, Int.reduceAdd, Int.reduceNeg, Int.reduceToNat, Nat.reduceEqDiff, Nat.reduceLT, Nat.reduceLeDiff, Int.reduceLE, Int.reduceLT, reduceIte, Int.cast_ofNat_Int, Int.natCast_zero, Int.natCast_one, Int.reduceAdd, eq_self, Int.reduceSub, List.length_cons, List.length_nil, xli_m1, xli_0, xli_1, xli_2, xli_3, xli_4, xli_5, xlb_8, xlb_12, xlb_31, xlb_32, xlb_64, xls_256, xls_513, xls_2048, xls_4096, xll_0, xll_1, xnr_i, xnr_0, xnr_1, xnr_ite, xft_i, xft_0, xft_1, xat_999, xat_1001, xat_1002, xat_1003, xat_2001, xat_2002, xat_2003, List.getElem?_cons_succ, List.getElem?_cons_zero, xfn_0, xfn_1, xfn_2, xfn_3, x10, x01, not_true_eq_false, false_implies, implies_true, true_implies, xrm_c, xrm_s, xnl_4, xnl_32, xnl_64, xnl_256, xtn_4, xtn_32, xtn_64, xtn_256, Option.some.injEq, Sum.inl.injEq, Sum.inr.injEq, exists_eq_left', exists_eq_right, Option.toList_some, Option.toList_none, List.cons_append, List.nil_append, xE, lg_cmp_ge, lg_cmp_le, lg_cmp_gt, lg_cmp_lt, lg_cmp_eq, Nat.le_refl, Nat.zero_le, ne_eq, Nat.add_zero, dS_makePass_0, dS_makePass_1, dS_makePass_4, dS_makePass_5, dS_makePass_6, dS_makePass_7, dS_makePass_10, dS_makePass_11, dS_makePass_12, dS_makePass_13, dS_makePass_14, dS_makePass_15, dS_makePass_17, dS_makePass_19, dS_makePass_20, dS_makePass_23, dS_makePass_24, dS_makePass_26, dS_makePass_27, dS_makePass_29, dS_makePass_31, dS_makePass_34, dS_makePass_37, dS_makePass_39, dS_makePass_42, dS_makePass_45, dS_makePass_47, dS_makePass_50, dS_makePass_53, dS_makePass_56, dS_makePass_58, dS_makePass_61, dS_makePass_63, dS_makePass_66, dS_makePass_69, dS_makePass_71, dS_makePass_73, dS_makePass_76, dS_makePass_79, dS_makePass_82, dS_makePass_85, dS_makePass_88, dS_makePass_89, xf_3_17, xf_3_138, xf_3_144, xf_3_108, xf_3_148, xf_3_135, h3, h4, h6]
      exact ⟨fun _ => hQ S h hF, fun z => absurd h32 z⟩
    · have hr' := hr (by omega)
      refine xrun_ok hV [] 20 _ _ _ _ _ _ ?_
      simp (maxDischargeDepth := 60) only [xrun, xisc, ↓xstep, xget, xtgt, xcmp, xacmp, xprev, xisR, xnt, List.set, List.length, xsw, xlk, true_or, or_true, if_true, if_false, true_and, and_true, List.mem_cons, List.not_mem_nil, or_false, false_or, Bool.false_eq_true, reduceCtorEq, not_false_eq_true, forall_const, Nat.zero_add, Nat.reduceAdd, Nat.reduceSub, Int.reduceAdd, Int.reduceNeg, Int.reduceToNat, Nat.reduceEqDiff, Nat.reduceLT, Nat.reduceLeDiff, Int.reduceLE, Int.reduceLT, reduceIte, Int.cast_ofNat_Int, Int.natCast_zero, Int.natCast_one, Int.reduceAdd, eq_self, Int.reduceSub, List.length_cons, List.length_nil, xli_m1, xli_0, xli_1, xli_2, xli_3, xli_4, xli_5, xlb_8, xlb_12, xlb_31, xlb_32, xlb_64, xls_256, xls_513, xls_2048, xls_4096, xll_0, xll_1, xnr_i, xnr_0, xnr_1, xnr_ite, xft_i, xft_0, xft_1, xat_999, xat_1001, xat_1002, xat_1003, xat_2001, xat_2002, xat_2003, List.getElem?_cons_succ, List.getElem?_cons_zero, xfn_0, xfn_1, xfn_2, xfn_3, x10, x01, not_true_eq_false, false_implies, implies_true, true_implies, xrm_c, xrm_s, xnl_4, xnl_32, xnl_64, xnl_256, xtn_4, xtn_32, xtn_64, xtn_256, Option.some.injEq, Sum.inl.injEq, Sum.inr.injEq, exists_eq_left', exists_eq_right, Option.toList_some, Option.toList_none, List.cons_append, List.nil_append, xE, lg_cmp_ge, lg_cmp_le, lg_cmp_gt, lg_cmp_lt, lg_cmp_eq, Nat.le_refl, Nat.zero_le, ne_eq, Nat.add_zero, dS_makePass_0, dS_makePass_1, dS_makePass_4, dS_makePass_5, dS_makePass_6, dS_makePass_7, dS_makePass_10, dS_makePass_11, dS_makePass_12, dS_makePass_13, dS_makePass_14, dS_makePass_15, dS_makePass_17, dS_makePass_19, dS_makePass_20, dS_makePass_23, dS_makePass_24, dS_makePass_26, dS_makePass_27, dS_makePass_29, dS_makePass_31, dS_makePass_34, dS_makePass_37, dS_makePass_39, dS_makePass_42, dS_makePass_45, dS_makePass_47, dS_makePass_50, dS_makePass_53, dS_makePass_56, dS_makePass_58, dS_makePass_61, dS_makePass_63, dS_makePass_66, dS_makePass_69, dS_makePass_71, dS_makePass_73, dS_makePass_76, dS_makePass_79, dS_makePass_82, dS_makePass_85, dS_makePass_88, dS_makePass_89, xf_3_17, xf_3_138, xf_3_144, xf_3_108, xf_3_148, xf_3_135, h3, h4, h6, e0, hr']
      exact ⟨fun z => absurd z h32, fun _ => ⟨⟨_, rfl⟩, vp_in_nI (by omega) (by decide), hQ S h hF⟩⟩
  | succ n ih =>
    intro k S hk hn h h10 h8 hF
    have hkl : k < M 12 0 := by omega
    obtain ⟨h1, h2, h3, h4, hw, -⟩ := rC_hd h
    obtain ⟨⟨q1, q2, q3, q4, q5⟩, ⟨p1, p2⟩, hr⟩ := rC_rd h hkl
    have h6 : ((256 : Int32) ≤ nI k) = (256 ≤ k) := xI_le_nI (by omega) 256 (by decide)
    have e0 : (nI k).toNatClampNeg = k := nI_clamp (by omega)
    have n32 : ¬ 256 ≤ k := by omega
    have hw7 := hM.2.2.2.1 k hkl
    have hw8 := (hM.2.2.1 _ hw7.2.1).2.2.2
    have e8 : (nI (M 8 (M 14 k)) = 0) = (M 8 (M 14 k) = 0) := propext (nI_eq (b := 0) (by omega) (by decide))
    have e21 : (nI (M 21 k) = 0) = (M 21 k = 0) := propext (nI_eq (b := 0) (by omega) (by decide))
    have skip : mchg M k = false → V 82 [some (.inr (.inr (some th))), some (.inl (nI (ncnt (mchg M) k))), some (.inr (.inr (some (ar 1)))), some (.inl 256), some (.inl (nI k)), some (.inr (.inr (some (qa k))))] [] S 0 0 := by
      intro hc
      have ec : ncnt (mchg M) (k + 1) = ncnt (mchg M) k := by simp [ncnt, nsum, hc]
      refine xrun_ok hV [17] 20 _ _ _ _ _ _ ?_
      simp (maxDischargeDepth := 60) only [xrun, xisc, ↓xstep, xget, xtgt, xcmp, xacmp, xprev, xisR, xnt, List.set, List.length, xsw, xlk, true_or, or_true, if_true, if_false, true_and, and_true, List.mem_cons, List.not_mem_nil, or_false, false_or, Bool.false_eq_true, reduceCtorEq, not_false_eq_true, forall_const, Nat.zero_add, Nat.reduceAdd, Nat.reduceSub, Int.reduceAdd, Int.reduceNeg, Int.reduceToNat, Nat.reduceEqDiff, Nat.reduceLT, Nat.reduceLeDiff, Int.reduceLE, Int.reduceLT, reduceIte, Int.cast_ofNat_Int, Int.natCast_zero, Int.natCast_one, Int.reduceAdd, eq_self, Int.reduceSub, List.length_cons, List.length_nil, xli_m1, xli_0, xli_1, xli_2, xli_3, xli_4, xli_5, xlb_8, xlb_12, xlb_31, xlb_32, xlb_64, xls_256, xls_513, xls_2048, xls_4096, xll_0, xll_1, xnr_i, xnr_0, xnr_1, xnr_ite, xft_i, xft_0, xft_1, xat_999, xat_1001, xat_1002, xat_1003, xat_2001, xat_2002, xat_2003, List.getElem?_cons_succ, List.getElem?_cons_zero, xfn_0, xfn_1, xfn_2, xfn_3, x10, x01, not_true_eq_false, false_implies, implies_true, true_implies, xrm_c, xrm_s, xnl_4, xnl_32, xnl_64, xnl_256, xtn_4, xtn_32, xtn_64, xtn_256, Option.some.injEq, Sum.inl.injEq, Sum.inr.injEq, exists_eq_left', exists_eq_right, Option.toList_some, Option.toList_none, List.cons_append, List.nil_append, xE, lg_cmp_ge, lg_cmp_le, lg_cmp_gt, lg_cmp_lt, lg_cmp_eq, Nat.le_refl, Nat.zero_le, ne_eq, Nat.add_zero, dS_makePass_0, dS_makePass_1, dS_makePass_4, dS_makePass_5, dS_makePass_6, dS_makePass_7, dS_makePass_10, dS_makePass_11, dS_makePass_12, dS_makePass_13, dS_makePass_14, dS_makePass_15, dS_makePass_17, dS_makePass_19, dS_makePass_20, dS_makePass_23, dS_makePass_24, dS_makePass_26, dS_makePass_27, dS_makePass_29, dS_makePass_31, dS_makePass_34, dS_makePass_37, dS_makePass_39, dS_makePass_42, dS_makePass_45, dS_makePass_47, dS_makePass_50, dS_makePass_53, dS_makePass_56, dS_makePass_58, dS_makePass_61, dS_makePass_63, dS_makePass_66, dS_makePass_69, dS_makePass_71, dS_makePass_73, dS_makePass_76, dS_makePass_79, dS_makePass_82, dS_makePass_85, dS_makePass_88, dS_makePass_89, xf_3_17, xf_3_138, xf_3_144, xf_3_108, xf_3_148, xf_3_135, nI_1]
      rw [← ec]
      refine hV.weak [some (.inr (.inr (some th))), some (.inl (nI (ncnt (mchg M) (k + 1)))), some (.inr (.inr (some (ar 1)))), some (.inl 256), some (.inl (nI (k + 1))), none] ⟨rfl, rfl, rfl, rfl, rfl, trivial⟩ (ih (k + 1) S (by omega) (by omega) ?_ h10 (fun j hj => h8 j (by omega)) hF)
      rw [mst_skip _ _ _ _ _ hc]
      exact h
    by_cases hf : M 21 k = 0
    · by_cases hg : M 8 (M 14 k) = 0
      · have hn' : mnot M k = true := by simp [mnot, hg]
        have s3 := h10 k hkl hn'
        have s2 := h8 k (Nat.le_refl _) hkl hn'
        have b1 := msize_lt hM hkl
        have b2 : mleast M k ≤ 4194304 := by
          cases ha : maim M k with
          | true =>
            have w1 := mleast_le hM hkl ha
            have w2 := mgr_le (M 13 k)
            omega
          | false => rw [mleast_no ha]; exact b1
        have hle : (nI (msize M k) ≤ nI (mleast M k)) = (msize M k ≤ mleast M k) := xI_le_nI (by omega) _ (by omega)
        refine xrun_ok hV [82] 40 _ _ _ _ _ _ ?_
        simp (maxDischargeDepth := 60) only [xrun, xisc, ↓xstep, xget, xtgt, xcmp, xacmp, xprev, xisR, xnt, List.set, List.length, xsw, xlk, true_or, or_true, if_true, if_false, true_and, and_true, List.mem_cons, List.not_mem_nil, or_false, false_or, Bool.false_eq_true, reduceCtorEq, not_false_eq_true, forall_const, Nat.zero_add, Nat.reduceAdd, Nat.reduceSub, Int.reduceAdd, Int.reduceNeg, Int.reduceToNat, Nat.reduceEqDiff, Nat.reduceLT, Nat.reduceLeDiff, Int.reduceLE, Int.reduceLT, reduceIte, Int.cast_ofNat_Int, Int.natCast_zero, Int.natCast_one, Int.reduceAdd, eq_self, Int.reduceSub, List.length_cons, List.length_nil, xli_m1, xli_0, xli_1, xli_2, xli_3, xli_4, xli_5, xlb_8, xlb_12, xlb_31, xlb_32, xlb_64, xls_256, xls_513, xls_2048, xls_4096, xll_0, xll_1, xnr_i, xnr_0, xnr_1, xnr_ite, xft_i, xft_0, xft_1, xat_999, xat_1001, xat_1002, xat_1003, xat_2001, xat_2002, xat_2003, List.getElem?_cons_succ, List.getElem?_cons_zero, xfn_0, xfn_1, xfn_2, xfn_3, x10, x01, not_true_eq_false, false_implies, implies_true, true_implies, xrm_c, xrm_s, xnl_4, xnl_32, xnl_64, xnl_256, xtn_4, xtn_32, xtn_64, xtn_256, Option.some.injEq, Sum.inl.injEq, Sum.inr.injEq, exists_eq_left', exists_eq_right, Option.toList_some, Option.toList_none, List.cons_append, List.nil_append, xE, lg_cmp_ge, lg_cmp_le, lg_cmp_gt, lg_cmp_lt, lg_cmp_eq, Nat.le_refl, Nat.zero_le, ne_eq, Nat.add_zero, dS_makePass_0, dS_makePass_1, dS_makePass_4, dS_makePass_5, dS_makePass_6, dS_makePass_7, dS_makePass_10, dS_makePass_11, dS_makePass_12, dS_makePass_13, dS_makePass_14, dS_makePass_15, dS_makePass_17, dS_makePass_19, dS_makePass_20, dS_makePass_23, dS_makePass_24, dS_makePass_26, dS_makePass_27, dS_makePass_29, dS_makePass_31, dS_makePass_34, dS_makePass_37, dS_makePass_39, dS_makePass_42, dS_makePass_45, dS_makePass_47, dS_makePass_50, dS_makePass_53, dS_makePass_56, dS_makePass_58, dS_makePass_61, dS_makePass_63, dS_makePass_66, dS_makePass_69, dS_makePass_71, dS_makePass_73, dS_makePass_76, dS_makePass_79, dS_makePass_82, dS_makePass_85, dS_makePass_88, dS_makePass_89, xf_3_17, xf_3_138, xf_3_144, xf_3_108, xf_3_148, xf_3_135, h3, h4, h6, e0, hr, q1, q2, q5, p1, p2, e8, e21, n32, hg, hf, nI_0, s2, s3, hle]
        refine ⟨⟨_, rfl⟩, vp_in_nI (by omega) (by decide), fun z => skip ?_, fun z => ?_⟩
        · cases ha : maim M k with
          | false => simp [mchg, ha]
          | true => rw [msize_aim ha] at z; simp [mchg]; omega
        · have ha : maim M k = true := by
            cases ha : maim M k with
            | true => rfl
            | false => rw [mleast_no ha] at z; omega
          rw [msize_aim ha] at z
          have hc : mchg M k = true := by simp [mchg, ha, hn', hf]; omega
          have ec : ncnt (mchg M) (k + 1) = ncnt (mchg M) k + 1 := by simp [ncnt, nsum, hc]
          have key : V 82 [some (.inr (.inr (some th))), some (.inl (nI (ncnt (mchg M) (k + 1)))), some (.inr (.inr (some (ar 1)))), some (.inl 256), some (.inl (nI k)), some (.inr (.inr (some (qa k))))] [] (xpi S (qa k) 8 (nI (mleast M k))) 0 0 := by
            have hrc : rC (xpi S (qa k) 8 (nI (mleast M k))) th ar pa qa la (mst M (mchg M) (mleast M) (M 21) (k + 1)) := by
              refine rC_st hM (mVok_pass hM) h hkl hc rfl rfl rfl rfl ?_ ?_ (fun b j hb => ?_)
              · rw [xi_pi, if_pos ⟨rfl, rfl⟩]
              · rw [xi_pi, if_neg (by simp)]; exact q5
              · rw [xi_pi, if_neg (fun y => by rcases hb with w | w; exact w y.1; exact w.1 y.2)]
            have hne : ∀ j, j < M 12 0 → j ≠ k → qa j ≠ qa k := by
              intro j hj hjk y
              have i2 := h.2.2.2.2.2.2.2.1
              rw [mst_f _ _ _ _ _ 12 0 (by decide)] at i2
              exact hjk (i2 j k hj hkl y)
            refine xrun_ok hV [17] 20 _ _ _ _ _ _ ?_
            simp (maxDischargeDepth := 60) only [xrun, xisc, ↓xstep, xget, xtgt, xcmp, xacmp, xprev, xisR, xnt, List.set, List.length, xsw, xlk, true_or, or_true, if_true, if_false, true_and, and_true, List.mem_cons, List.not_mem_nil, or_false, false_or, Bool.false_eq_true, reduceCtorEq, not_false_eq_true, forall_const, Nat.zero_add, Nat.reduceAdd, Nat.reduceSub, Int.reduceAdd, Int.reduceNeg, Int.reduceToNat, Nat.reduceEqDiff, Nat.reduceLT, Nat.reduceLeDiff, Int.reduceLE, Int.reduceLT, reduceIte, Int.cast_ofNat_Int, Int.natCast_zero, Int.natCast_one, Int.reduceAdd, eq_self, Int.reduceSub, List.length_cons, List.length_nil, xli_m1, xli_0, xli_1, xli_2, xli_3, xli_4, xli_5, xlb_8, xlb_12, xlb_31, xlb_32, xlb_64, xls_256, xls_513, xls_2048, xls_4096, xll_0, xll_1, xnr_i, xnr_0, xnr_1, xnr_ite, xft_i, xft_0, xft_1, xat_999, xat_1001, xat_1002, xat_1003, xat_2001, xat_2002, xat_2003, List.getElem?_cons_succ, List.getElem?_cons_zero, xfn_0, xfn_1, xfn_2, xfn_3, x10, x01, not_true_eq_false, false_implies, implies_true, true_implies, xrm_c, xrm_s, xnl_4, xnl_32, xnl_64, xnl_256, xtn_4, xtn_32, xtn_64, xtn_256, Option.some.injEq, Sum.inl.injEq, Sum.inr.injEq, exists_eq_left', exists_eq_right, Option.toList_some, Option.toList_none, List.cons_append, List.nil_append, xE, lg_cmp_ge, lg_cmp_le, lg_cmp_gt, lg_cmp_lt, lg_cmp_eq, Nat.le_refl, Nat.zero_le, ne_eq, Nat.add_zero, dS_makePass_0, dS_makePass_1, dS_makePass_4, dS_makePass_5, dS_makePass_6, dS_makePass_7, dS_makePass_10, dS_makePass_11, dS_makePass_12, dS_makePass_13, dS_makePass_14, dS_makePass_15, dS_makePass_17, dS_makePass_19, dS_makePass_20, dS_makePass_23, dS_makePass_24, dS_makePass_26, dS_makePass_27, dS_makePass_29, dS_makePass_31, dS_makePass_34, dS_makePass_37, dS_makePass_39, dS_makePass_42, dS_makePass_45, dS_makePass_47, dS_makePass_50, dS_makePass_53, dS_makePass_56, dS_makePass_58, dS_makePass_61, dS_makePass_63, dS_makePass_66, dS_makePass_69, dS_makePass_71, dS_makePass_73, dS_makePass_76, dS_makePass_79, dS_makePass_82, dS_makePass_85, dS_makePass_88, dS_makePass_89, xf_3_17, xf_3_138, xf_3_144, xf_3_108, xf_3_148, xf_3_135, nI_1]
            refine hV.weak [some (.inr (.inr (some th))), some (.inl (nI (ncnt (mchg M) (k + 1)))), some (.inr (.inr (some (ar 1)))), some (.inl 256), some (.inl (nI (k + 1))), none] ⟨rfl, rfl, rfl, rfl, rfl, trivial⟩ (ih (k + 1) _ (by omega) (by omega) hrc (fun j hj hm => ?_) (fun j hj1 hj hm => ?_) (hF.tr (xFr.pi (by rw [q1]; rfl))))
            · rw [xi_pi, if_neg (by simp)]; exact h10 j hj hm
            · rw [xi_pi, if_neg (fun y => hne j hj (by omega) y.1)]; exact h8 j (by omega) hj hm
          rw [nI_1, ← ec]
          exact key
      · refine xrun_ok hV [82] 40 _ _ _ _ _ _ ?_
        simp (maxDischargeDepth := 60) only [xrun, xisc, ↓xstep, xget, xtgt, xcmp, xacmp, xprev, xisR, xnt, List.set, List.length, xsw, xlk, true_or, or_true, if_true, if_false, true_and, and_true, List.mem_cons, List.not_mem_nil, or_false, false_or, Bool.false_eq_true, reduceCtorEq, not_false_eq_true, forall_const, Nat.zero_add, Nat.reduceAdd, Nat.reduceSub, Int.reduceAdd, Int.reduceNeg, Int.reduceToNat, Nat.reduceEqDiff, Nat.reduceLT, Nat.reduceLeDiff, Int.reduceLE, Int.reduceLT, reduceIte, Int.cast_ofNat_Int, Int.natCast_zero, Int.natCast_one, Int.reduceAdd, eq_self, Int.reduceSub, List.length_cons, List.length_nil, xli_m1, xli_0, xli_1, xli_2, xli_3, xli_4, xli_5, xlb_8, xlb_12, xlb_31, xlb_32, xlb_64, xls_256, xls_513, xls_2048, xls_4096, xll_0, xll_1, xnr_i, xnr_0, xnr_1, xnr_ite, xft_i, xft_0, xft_1, xat_999, xat_1001, xat_1002, xat_1003, xat_2001, xat_2002, xat_2003, List.getElem?_cons_succ, List.getElem?_cons_zero, xfn_0, xfn_1, xfn_2, xfn_3, x10, x01, not_true_eq_false, false_implies, implies_true, true_implies, xrm_c, xrm_s, xnl_4, xnl_32, xnl_64, xnl_256, xtn_4, xtn_32, xtn_64, xtn_256, Option.some.injEq, Sum.inl.injEq, Sum.inr.injEq, exists_eq_left', exists_eq_right, Option.toList_some, Option.toList_none, List.cons_append, List.nil_append, xE, lg_cmp_ge, lg_cmp_le, lg_cmp_gt, lg_cmp_lt, lg_cmp_eq, Nat.le_refl, Nat.zero_le, ne_eq, Nat.add_zero, dS_makePass_0, dS_makePass_1, dS_makePass_4, dS_makePass_5, dS_makePass_6, dS_makePass_7, dS_makePass_10, dS_makePass_11, dS_makePass_12, dS_makePass_13, dS_makePass_14, dS_makePass_15, dS_makePass_17, dS_makePass_19, dS_makePass_20, dS_makePass_23, dS_makePass_24, dS_makePass_26, dS_makePass_27, dS_makePass_29, dS_makePass_31, dS_makePass_34, dS_makePass_37, dS_makePass_39, dS_makePass_42, dS_makePass_45, dS_makePass_47, dS_makePass_50, dS_makePass_53, dS_makePass_56, dS_makePass_58, dS_makePass_61, dS_makePass_63, dS_makePass_66, dS_makePass_69, dS_makePass_71, dS_makePass_73, dS_makePass_76, dS_makePass_79, dS_makePass_82, dS_makePass_85, dS_makePass_88, dS_makePass_89, xf_3_17, xf_3_138, xf_3_144, xf_3_108, xf_3_148, xf_3_135, h3, h4, h6, e0, hr, q1, q2, q5, p1, p2, e8, e21, n32, hg, hf, nI_0]
        exact ⟨⟨_, rfl⟩, vp_in_nI (by omega) (by decide), skip (by simp [mchg, mnot, hg])⟩
    · refine xrun_ok hV [82] 40 _ _ _ _ _ _ ?_
      simp (maxDischargeDepth := 60) only [xrun, xisc, ↓xstep, xget, xtgt, xcmp, xacmp, xprev, xisR, xnt, List.set, List.length, xsw, xlk, true_or, or_true, if_true, if_false, true_and, and_true, List.mem_cons, List.not_mem_nil, or_false, false_or, Bool.false_eq_true, reduceCtorEq, not_false_eq_true, forall_const, Nat.zero_add, Nat.reduceAdd, Nat.reduceSub, Int.reduceAdd, Int.reduceNeg, Int.reduceToNat, Nat.reduceEqDiff, Nat.reduceLT, Nat.reduceLeDiff, Int.reduceLE, Int.reduceLT, reduceIte, Int.cast_ofNat_Int, Int.natCast_zero, Int.natCast_one, Int.reduceAdd, eq_self, Int.reduceSub, List.length_cons, List.length_nil, xli_m1, xli_0, xli_1, xli_2, xli_3, xli_4, xli_5, xlb_8, xlb_12, xlb_31, xlb_32, xlb_64, xls_256, xls_513, xls_2048, xls_4096, xll_0, xll_1, xnr_i, xnr_0, xnr_1, xnr_ite, xft_i, xft_0, xft_1, xat_999, xat_1001, xat_1002, xat_1003, xat_2001, xat_2002, xat_2003, List.getElem?_cons_succ, List.getElem?_cons_zero, xfn_0, xfn_1, xfn_2, xfn_3, x10, x01, not_true_eq_false, false_implies, implies_true, true_implies, xrm_c, xrm_s, xnl_4, xnl_32, xnl_64, xnl_256, xtn_4, xtn_32, xtn_64, xtn_256, Option.some.injEq, Sum.inl.injEq, Sum.inr.injEq, exists_eq_left', exists_eq_right, Option.toList_some, Option.toList_none, List.cons_append, List.nil_append, xE, lg_cmp_ge, lg_cmp_le, lg_cmp_gt, lg_cmp_lt, lg_cmp_eq, Nat.le_refl, Nat.zero_le, ne_eq, Nat.add_zero, dS_makePass_0, dS_makePass_1, dS_makePass_4, dS_makePass_5, dS_makePass_6, dS_makePass_7, dS_makePass_10, dS_makePass_11, dS_makePass_12, dS_makePass_13, dS_makePass_14, dS_makePass_15, dS_makePass_17, dS_makePass_19, dS_makePass_20, dS_makePass_23, dS_makePass_24, dS_makePass_26, dS_makePass_27, dS_makePass_29, dS_makePass_31, dS_makePass_34, dS_makePass_37, dS_makePass_39, dS_makePass_42, dS_makePass_45, dS_makePass_47, dS_makePass_50, dS_makePass_53, dS_makePass_56, dS_makePass_58, dS_makePass_61, dS_makePass_63, dS_makePass_66, dS_makePass_69, dS_makePass_71, dS_makePass_73, dS_makePass_76, dS_makePass_79, dS_makePass_82, dS_makePass_85, dS_makePass_88, dS_makePass_89, xf_3_17, xf_3_138, xf_3_144, xf_3_108, xf_3_148, xf_3_135, h3, h4, h6, e0, hr, q1, q2, q5, p1, p2, e8, e21, n32, hf, nI_0]
      exact ⟨⟨_, rfl⟩, vp_in_nI (by omega) (by decide), skip (by simp [mchg, hf])⟩
set_option maxHeartbeats 4000000 in
set_option maxRecDepth 100000 in
theorem c_makePass (h : rCx S th M) : xMet l D n0 mS_makePass 0 0 [.inr (.inr (some th))] S (oC S th (oPass M)) := by
  obtain ⟨ar, pa, qa, la, h⟩ := h
  refine xMet.of (k := mS_makePass) (own := 3) (ini := false) xm_S_makePass (by decide +kernel) (by decide +kernel) (by decide) (Nat.le_of_ble_eq_true rfl) ?_
  intro V hV
  show V 0 [some (.inr (.inr (some th))), none, none, none, none, none] [] S 0 0
  have h1 := h.th
  refine xrun_ok hV [] 20 _ _ _ _ _ _ ?_
  simp (maxDischargeDepth := 60) only [xrun, xisc, ↓xstep, xget, xtgt, xcmp, xacmp, xprev, xisR, xnt, List.set, List.length, xsw, xlk, true_or, or_true, if_true, if_false, true_and, and_true, List.mem_cons, List.not_mem_nil, or_false, false_or, Bool.false_eq_true, reduceCtorEq, not_false_eq_true, forall_const, Nat.zero_add, Nat.reduceAdd, Nat.reduceSub, Int.reduceAdd, Int.reduceNeg, Int.reduceToNat, Nat.reduceEqDiff, Nat.reduceLT, Nat.reduceLeDiff, Int.reduceLE, Int.reduceLT, reduceIte, Int.cast_ofNat_Int, Int.natCast_zero, Int.natCast_one, Int.reduceAdd, eq_self, Int.reduceSub, List.length_cons, List.length_nil, xli_m1, xli_0, xli_1, xli_2, xli_3, xli_4, xli_5, xlb_8, xlb_12, xlb_31, xlb_32, xlb_64, xls_256, xls_513, xls_2048, xls_4096, xll_0, xll_1, xnr_i, xnr_0, xnr_1, xnr_ite, xft_i, xft_0, xft_1, xat_999, xat_1001, xat_1002, xat_1003, xat_2001, xat_2002, xat_2003, List.getElem?_cons_succ, List.getElem?_cons_zero, xfn_0, xfn_1, xfn_2, xfn_3, x10, x01, not_true_eq_false, false_implies, implies_true, true_implies, xrm_c, xrm_s, xnl_4, xnl_32, xnl_64, xnl_256, xtn_4, xtn_32, xtn_64, xtn_256, Option.some.injEq, Sum.inl.injEq, Sum.inr.injEq, exists_eq_left', exists_eq_right, Option.toList_some, Option.toList_none, List.cons_append, List.nil_append, xE, lg_cmp_ge, lg_cmp_le, lg_cmp_gt, lg_cmp_lt, lg_cmp_eq, Nat.le_refl, Nat.zero_le, ne_eq, Nat.add_zero, dS_makePass_0, dS_makePass_1, dS_makePass_4, dS_makePass_5, dS_makePass_6, dS_makePass_7, dS_makePass_10, dS_makePass_11, dS_makePass_12, dS_makePass_13, dS_makePass_14, dS_makePass_15, dS_makePass_17, dS_makePass_19, dS_makePass_20, dS_makePass_23, dS_makePass_24, dS_makePass_26, dS_makePass_27, dS_makePass_29, dS_makePass_31, dS_makePass_34, dS_makePass_37, dS_makePass_39, dS_makePass_42, dS_makePass_45, dS_makePass_47, dS_makePass_50, dS_makePass_53, dS_makePass_56, dS_makePass_58, dS_makePass_61, dS_makePass_63, dS_makePass_66, dS_makePass_69, dS_makePass_71, dS_makePass_73, dS_makePass_76, dS_makePass_79, dS_makePass_82, dS_makePass_85, dS_makePass_88, dS_makePass_89, xf_3_17, xf_3_138, xf_3_144, xf_3_108, xf_3_148, xf_3_135]
  refine hV.call [] (As := [.inr (.inr (some th))]) xh_3_141 dS_makePass_1 (c_survey h) (Or.inr ⟨_, _, rfl, fun _ => h1⟩) rfl rfl (by decide) (by decide) (by decide) ?_
  rintro r S1 ⟨rfl, g1, g2⟩
  have h' := h.ca g1
  have k1 := h'.th
  have k2 := (h'.2.1.2.1 1 (by decide)).1
  have k3 := h'.2.1.2.2.1.2.1
  have k4 := h'.2.1.2.2.2.1.2.1
  have e256 : Int32.ofNat 256 = 256 := rfl
  refine xrun_ok hV [17] 20 _ _ _ _ _ _ ?_
  simp (maxDischargeDepth := 60) only [xrun, xisc, ↓xstep, xget, xtgt, xcmp, xacmp, xprev, xisR, xnt, List.set, List.length, xsw, xlk, true_or, or_true, if_true, if_false, true_and, and_true, List.mem_cons, List.not_mem_nil, or_false, false_or, Bool.false_eq_true, reduceCtorEq, not_false_eq_true, forall_const, Nat.zero_add, Nat.reduceAdd, Nat.reduceSub, Int.reduceAdd, Int.reduceNeg, Int.reduceToNat, Nat.reduceEqDiff, Nat.reduceLT, Nat.reduceLeDiff, Int.reduceLE, Int.reduceLT, reduceIte, Int.cast_ofNat_Int, Int.natCast_zero, Int.natCast_one, Int.reduceAdd, eq_self, Int.reduceSub, List.length_cons, List.length_nil, xli_m1, xli_0, xli_1, xli_2, xli_3, xli_4, xli_5, xlb_8, xlb_12, xlb_31, xlb_32, xlb_64, xls_256, xls_513, xls_2048, xls_4096, xll_0, xll_1, xnr_i, xnr_0, xnr_1, xnr_ite, xft_i, xft_0, xft_1, xat_999, xat_1001, xat_1002, xat_1003, xat_2001, xat_2002, xat_2003, List.getElem?_cons_succ, List.getElem?_cons_zero, xfn_0, xfn_1, xfn_2, xfn_3, x10, x01, not_true_eq_false, false_implies, implies_true, true_implies, xrm_c, xrm_s, xnl_4, xnl_32, xnl_64, xnl_256, xtn_4, xtn_32, xtn_64, xtn_256, Option.some.injEq, Sum.inl.injEq, Sum.inr.injEq, exists_eq_left', exists_eq_right, Option.toList_some, Option.toList_none, List.cons_append, List.nil_append, xE, lg_cmp_ge, lg_cmp_le, lg_cmp_gt, lg_cmp_lt, lg_cmp_eq, Nat.le_refl, Nat.zero_le, ne_eq, Nat.add_zero, dS_makePass_0, dS_makePass_1, dS_makePass_4, dS_makePass_5, dS_makePass_6, dS_makePass_7, dS_makePass_10, dS_makePass_11, dS_makePass_12, dS_makePass_13, dS_makePass_14, dS_makePass_15, dS_makePass_17, dS_makePass_19, dS_makePass_20, dS_makePass_23, dS_makePass_24, dS_makePass_26, dS_makePass_27, dS_makePass_29, dS_makePass_31, dS_makePass_34, dS_makePass_37, dS_makePass_39, dS_makePass_42, dS_makePass_45, dS_makePass_47, dS_makePass_50, dS_makePass_53, dS_makePass_56, dS_makePass_58, dS_makePass_61, dS_makePass_63, dS_makePass_66, dS_makePass_69, dS_makePass_71, dS_makePass_73, dS_makePass_76, dS_makePass_79, dS_makePass_82, dS_makePass_85, dS_makePass_88, dS_makePass_89, xf_3_17, xf_3_138, xf_3_144, xf_3_108, xf_3_148, xf_3_135, k1, k2, k3, k4, e256]
  refine ⟨⟨_, rfl⟩, ?_⟩
  have key := pass_loop (S0 := S) h.1 hV (fun S2 w1 w2 => ⟨rfl, ⟨_, _, _, _, w1⟩, w2⟩) (M 12 0) 0 S1 (Nat.zero_le _) (by omega) (by rw [mst_0]; exact h') g2.2 (fun j _ hj hm => (g2.1.at h' hj hm).2) (g1.fr h)
  exact key
set_option maxHeartbeats 4000000 in
set_option maxRecDepth 100000 in
theorem c_pass (h : rCx S th M) : xMet l D n0 mS_pass 0 0 [.inr (.inr (some th))] S (oC S th (oPass M)) := by
  have h1 : xc S th = 4 := by obtain ⟨_, _, _, _, h⟩ := h; exact h.th
  refine xMet.of (k := mS_pass) (own := 3) (ini := false) xm_S_pass (by decide +kernel) (by decide +kernel) (by decide) (Nat.le_of_ble_eq_true rfl) ?_
  intro V hV
  show V 0 [some (.inr (.inr (some th)))] [] S 0 0
  refine xrun_ok hV [] 20 _ _ _ _ _ _ ?_
  simp (maxDischargeDepth := 60) only [xrun, xisc, ↓xstep, xget, xtgt, xcmp, xacmp, xprev, xisR, xnt, List.set, List.length, xsw, xlk, true_or, or_true, if_true, if_false, true_and, and_true, List.mem_cons, List.not_mem_nil, or_false, false_or, Bool.false_eq_true, reduceCtorEq, not_false_eq_true, forall_const, Nat.zero_add, Nat.reduceAdd, Nat.reduceSub, Int.reduceAdd, Int.reduceNeg, Int.reduceToNat, Nat.reduceEqDiff, Nat.reduceLT, Nat.reduceLeDiff, Int.reduceLE, Int.reduceLT, reduceIte, Int.cast_ofNat_Int, Int.natCast_zero, Int.natCast_one, Int.reduceAdd, eq_self, Int.reduceSub, List.length_cons, List.length_nil, xli_m1, xli_0, xli_1, xli_2, xli_3, xli_4, xli_5, xlb_8, xlb_12, xlb_31, xlb_32, xlb_64, xls_256, xls_513, xls_2048, xls_4096, xll_0, xll_1, xnr_i, xnr_0, xnr_1, xnr_ite, xft_i, xft_0, xft_1, xat_999, xat_1001, xat_1002, xat_1003, xat_2001, xat_2002, xat_2003, List.getElem?_cons_succ, List.getElem?_cons_zero, xfn_0, xfn_1, xfn_2, xfn_3, x10, x01, not_true_eq_false, false_implies, implies_true, true_implies, xrm_c, xrm_s, xnl_4, xnl_32, xnl_64, xnl_256, xtn_4, xtn_32, xtn_64, xtn_256, Option.some.injEq, Sum.inl.injEq, Sum.inr.injEq, exists_eq_left', exists_eq_right, Option.toList_some, Option.toList_none, List.cons_append, List.nil_append, xE, lg_cmp_ge, lg_cmp_le, lg_cmp_gt, lg_cmp_lt, lg_cmp_eq, Nat.le_refl, Nat.zero_le, ne_eq, Nat.add_zero, dS_pass_0, dS_pass_1, dS_pass_4]
  refine hV.call [] (As := [.inr (.inr (some th))]) xh_3_119 dS_pass_1 (c_makePass h) (Or.inr ⟨_, _, rfl, fun _ => h1⟩) rfl rfl (by decide) (by decide) (by decide) ?_
  rintro r S1 ⟨rfl, g1, g2⟩
  refine xrun_ok hV [] 20 _ _ _ _ _ _ ?_
  simp (maxDischargeDepth := 60) only [xrun, xisc, ↓xstep, xget, xtgt, xcmp, xacmp, xprev, xisR, xnt, List.set, List.length, xsw, xlk, true_or, or_true, if_true, if_false, true_and, and_true, List.mem_cons, List.not_mem_nil, or_false, false_or, Bool.false_eq_true, reduceCtorEq, not_false_eq_true, forall_const, Nat.zero_add, Nat.reduceAdd, Nat.reduceSub, Int.reduceAdd, Int.reduceNeg, Int.reduceToNat, Nat.reduceEqDiff, Nat.reduceLT, Nat.reduceLeDiff, Int.reduceLE, Int.reduceLT, reduceIte, Int.cast_ofNat_Int, Int.natCast_zero, Int.natCast_one, Int.reduceAdd, eq_self, Int.reduceSub, List.length_cons, List.length_nil, xli_m1, xli_0, xli_1, xli_2, xli_3, xli_4, xli_5, xlb_8, xlb_12, xlb_31, xlb_32, xlb_64, xls_256, xls_513, xls_2048, xls_4096, xll_0, xll_1, xnr_i, xnr_0, xnr_1, xnr_ite, xft_i, xft_0, xft_1, xat_999, xat_1001, xat_1002, xat_1003, xat_2001, xat_2002, xat_2003, List.getElem?_cons_succ, List.getElem?_cons_zero, xfn_0, xfn_1, xfn_2, xfn_3, x10, x01, not_true_eq_false, false_implies, implies_true, true_implies, xrm_c, xrm_s, xnl_4, xnl_32, xnl_64, xnl_256, xtn_4, xtn_32, xtn_64, xtn_256, Option.some.injEq, Sum.inl.injEq, Sum.inr.injEq, exists_eq_left', exists_eq_right, Option.toList_some, Option.toList_none, List.cons_append, List.nil_append, xE, lg_cmp_ge, lg_cmp_le, lg_cmp_gt, lg_cmp_lt, lg_cmp_eq, Nat.le_refl, Nat.zero_le, ne_eq, Nat.add_zero, dS_pass_0, dS_pass_1, dS_pass_4]
  exact ⟨rfl, g1, g2⟩
end PASS
