/-! THE CLASS: part, label, put, pieces -/
def xSame (S S' : xS) (b : Nat) : Prop := xc S' b = xc S b ∧ xl S' b = xl S b ∧ (∀ k, xi S' b k = xi S b k) ∧ ∀ k, xr S' b k = xr S b k
theorem rP.same {S S' : xS} {pa qa : Nat → Nat} {M : mT} {p : Nat} (h : rP S pa qa M p) (hn : xn S ≤ xn S') (hs : xSame S S' (pa p)) : rP S' pa qa M p := by
  obtain ⟨e1, e2, e3, e4⟩ := hs
  obtain ⟨⟨h1, h2⟩, h3⟩ := h
  unfold rP
  simp only [e1, e3, e4]
  exact ⟨⟨h1, by omega⟩, h3⟩
theorem rQ.same {S S' : xS} {pa qa la : Nat → Nat} {M : mT} {k : Nat} (h : rQ S pa qa la M k) (hn : xn S ≤ xn S') (hs : xSame S S' (qa k)) : rQ S' pa qa la M k := by
  obtain ⟨e1, e2, e3, e4⟩ := hs
  obtain ⟨⟨h1, h2⟩, h3⟩ := h
  unfold rQ
  simp only [e1, e3, e4]
  exact ⟨⟨h1, by omega⟩, h3⟩
theorem rB.same {S S' : xS} {qa la : Nat → Nat} {M : mT} {k : Nat} (h : rB S qa la M k) (hn : xn S ≤ xn S') (hs : xSame S S' (la k)) : rB S' qa la M k := by
  obtain ⟨e1, e2, e3, e4⟩ := hs
  obtain ⟨⟨h1, h2⟩, h3⟩ := h
  unfold rB
  simp only [e1, e3, e4]
  exact ⟨⟨h1, by omega⟩, h3⟩
-- a part is new
theorem mpart_f (M : mT) (o b f i : Nat) (h : f ≠ 4 ∧ f ≠ 5 ∧ f ≠ 6 ∧ f ≠ 7 ∧ f ≠ 8) : mpart M o b f i = M f i := by
  obtain ⟨h1, h2, h3, h4, h5⟩ := h
  simp [mpart, mset_eq, h1, h2, h3, h4, h5]
theorem mpart_o (M : mT) (o b f i : Nat) (h : i < M 4 0) (hf : f ≠ 4) : mpart M o b f i = M f i := by
  have : i ≠ M 4 0 := Nat.ne_of_lt h
  simp [mpart, mset_eq, hf, this]
theorem mpart_4 (M : mT) (o b : Nat) : mpart M o b 4 0 = M 4 0 + 1 := by simp [mpart, mset_eq]
theorem mpart_5 (M : mT) (o b : Nat) : mpart M o b 5 (M 4 0) = o := by simp [mpart, mset_eq]
theorem mpart_6 (M : mT) (o b : Nat) : mpart M o b 6 (M 4 0) = b := by simp [mpart, mset_eq]
theorem mpart_7 (M : mT) (o b : Nat) : mpart M o b 7 (M 4 0) = 0 := by simp [mpart, mset_eq]
theorem mpart_8 (M : mT) (o b : Nat) : mpart M o b 8 (M 4 0) = 0 := by simp [mpart, mset_eq]
theorem mWF_part {M : mT} (h : mWF M) {o b : Nat} (hn : M 4 0 < 32) (ho : o ≤ 3) (hb : b ≤ 12) : mWF (mpart M o b) := by
  obtain ⟨⟨w1, w2, w3, w4⟩, w5, w6, w7, w8, w9, w10, w11⟩ := h
  have e := fun f i => mpart_f M o b f i
  unfold mWF maim
  rw [mpart_4, e 0 0 (by decide), e 12 0 (by decide), e 25 0 (by decide)]
  refine ⟨⟨w1, by omega, w3, w4⟩, fun q hq => ?_, fun q hq => ?_, fun q hq => ?_, fun q hq => ?_, fun q hq => ?_, fun q hq => ?_, fun q hq => ?_⟩
  · rw [e 1 q (by decide)]; exact w5 q hq
  · by_cases z : q < M 4 0
    · rw [mpart_o _ _ _ _ _ z (by decide), mpart_o _ _ _ _ _ z (by decide), mpart_o _ _ _ _ _ z (by decide), mpart_o _ _ _ _ _ z (by decide)]
      exact w6 q z
    · have : q = M 4 0 := by omega
      subst this
      rw [mpart_5, mpart_6, mpart_7, mpart_8]
      exact ⟨ho, hb, by decide, by decide⟩
  · rw [e 13 q (by decide), e 14 q (by decide), e 20 q (by decide), e 21 q (by decide), e 19 q (by decide), e 17 q (by decide)]
    have := w7 q hq
    exact ⟨this.1, by omega, this.2.2⟩
  · rw [e 13 q (by decide), e 15 q (by decide), e 16 q (by decide)]; exact w8 q hq
  · rw [e 13 q (by decide), e 15 q (by decide), e 16 q (by decide), e 18 q (by decide), e 20 q (by decide), e 21 q (by decide)]; exact w9 q hq
  · rw [e 13 q (by decide), e 16 q (by decide)]; exact w10 q hq
  · rw [e 26 q (by decide), e 27 q (by decide), e 13 _ (by decide), e 16 _ (by decide)]; exact w11 q hq
theorem mnx_none {M : mT} {p : Nat} : ∀ (d k : Nat), (∀ j, k ≤ j → j < k + d → M 14 j ≠ p) → mnx M p k d = none
  | 0, _, _ => rfl
  | d + 1, k, h => by
    rw [mnx, if_neg (h k (Nat.le_refl _) (by omega))]
    exact mnx_none d (k + 1) (fun j h1 h2 => h j (by omega) (by omega))
theorem mla_none {M : mT} {p : Nat} : ∀ (k : Nat), (∀ j, j < k → M 14 j ≠ p) → mla M p k = none
  | 0, _ => rfl
  | k + 1, h => by
    rw [mla, if_neg (h k (by omega))]
    exact mla_none k (fun j h1 => h j (by omega))
section ADD
variable {l : Launch} {D : va_G} {n0 : Nat} {S : xS} {th : Nat} {ar pa qa la : Nat → Nat} {M : mT}
def sPart (S : xS) (th r0 np : Nat) (x y : Int32) : xS := xpi (xpr (xpi (xpi (xpi (xmk S 2 0) (xn S) 0 (nI np)) (xn S) 1 x) (xn S) 2 y) r0 np (some (xn S))) th 6 (nI np + 1)
theorem rC_part (h : rC S th ar pa qa la M) (hn : M 4 0 < 32) {o b : Nat} (ho : o ≤ 3) (hb : b ≤ 12) : rC (sPart S th (ar 0) (M 4 0) (nI o) (nI b)) th ar (fun i => if i = M 4 0 then xn S else pa i) qa la (mpart M o b) := by
  obtain ⟨hW, hT, hA, hP, hQ, hB, i1, i2, i3⟩ := h
  obtain ⟨⟨t1, t2⟩, t3, ⟨c0, c1, c2, c3, c4, c5⟩, t4, t5, ⟨t6, t7, t8, t9⟩, t10⟩ := hT
  have e := fun f i => mpart_f M o b f i
  have a0 := (t3 0 (by decide)).2
  have hnth : th ≠ xn S := Nat.ne_of_lt t2
  have hn0 : ar 0 ≠ xn S := Nat.ne_of_lt a0
  have hth0 : th ≠ ar 0 := xne t1 c0 (by decide)
  have hsz : xn (sPart S th (ar 0) (M 4 0) (nI o) (nI b)) = xn S + 1 := rfl
  have hcc : ∀ c, c < xn S → xc (sPart S th (ar 0) (M 4 0) (nI o) (nI b)) c = xc S c ∧ xl (sPart S th (ar 0) (M 4 0) (nI o) (nI b)) c = xl S c := by
    intro c hc
    have z : c ≠ xn S := Nat.ne_of_lt hc
    simp only [sPart, xc_pi, xc_pr, xl_pi, xl_pr, xc_mk, xl_mk, if_neg z]
    exact ⟨rfl, rfl⟩
  have hii : ∀ c, c < xn S → ∀ k, (c ≠ th ∨ k ≠ 6) → xi (sPart S th (ar 0) (M 4 0) (nI o) (nI b)) c k = xi S c k := by
    intro c hc k hk
    have z : c ≠ xn S := Nat.ne_of_lt hc
    have z2 : ¬ (c = th ∧ k = 6) := fun w => by rcases hk with q | q; exact q w.1; exact q w.2
    simp only [sPart, xi_pi, xi_pr, xi_mk, z, z2, false_and, if_false]
  have hrr : ∀ c, c < xn S → ∀ k, (c ≠ ar 0 ∨ k ≠ M 4 0) → xr (sPart S th (ar 0) (M 4 0) (nI o) (nI b)) c k = xr S c k := by
    intro c hc k hk
    have z : c ≠ xn S := Nat.ne_of_lt hc
    have z2 : ¬ (c = ar 0 ∧ k = M 4 0) := fun w => by rcases hk with q | q; exact q w.1; exact q w.2
    simp only [sPart, xr_pi, xr_pr, xr_mk, z, z2, if_false]
  have hsame : ∀ c, c < xn S → c ≠ th → c ≠ ar 0 → xSame S (sPart S th (ar 0) (M 4 0) (nI o) (nI b)) c := fun c hc h1 h2 => ⟨(hcc c hc).1, (hcc c hc).2, fun k => hii c hc k (Or.inl h1), fun k => hrr c hc k (Or.inl h2)⟩
  refine ⟨mWF_part hW hn ho hb, ?_, ?_, ?_, ?_, ?_, ?_, ?_, ?_⟩
  · refine ⟨⟨(hcc th t2).1.trans t1, by omega⟩, fun f hf => ⟨?_, by have := (t3 f hf).2; omega⟩, ?_, ?_, t5, ⟨?_, ?_, ?_, ?_⟩, fun q hq => ?_⟩
    · rw [hrr th t2 f (Or.inl hth0)]; exact (t3 f hf).1
    · rw [(hcc _ (t3 0 (by decide)).2).1, (hcc _ (t3 1 (by decide)).2).1, (hcc _ (t3 2 (by decide)).2).1, (hcc _ (t3 3 (by decide)).2).1, (hcc _ (t3 4 (by decide)).2).1, (hcc _ (t3 5 (by decide)).2).1]
      exact ⟨c0, c1, c2, c3, c4, c5⟩
    · rw [(hcc _ (t3 0 (by decide)).2).2, (hcc _ (t3 1 (by decide)).2).2, (hcc _ (t3 2 (by decide)).2).2, (hcc _ (t3 3 (by decide)).2).2, (hcc _ (t3 4 (by decide)).2).2, (hcc _ (t3 5 (by decide)).2).2]
      exact t4
    · rw [mpart_4, ← nI_1]
      simp only [sPart, xi_pi, and_self, if_true]
    · rw [hii th t2 7 (Or.inr (by decide)), e 12 0 (by decide)]; exact t7
    · rw [hii th t2 8 (Or.inr (by decide)), e 25 0 (by decide)]; exact t8
    · rw [hii th t2 9 (Or.inr (by decide)), e 0 0 (by decide)]; exact t9
    · rw [hii (ar 3) (t3 3 (by decide)).2 q (Or.inl (xne c3 t1 (by decide))), e 1 q (by decide)]; exact t10 q hq
  · refine ⟨fun q hq => ?_, fun q hq => ?_, fun q hq => ?_⟩
    · rw [mpart_4]
      by_cases z : q = M 4 0
      · subst z
        rw [if_pos (by omega), if_pos rfl]
        simp only [sPart, xr_pi, xr_pr, and_self, if_true]
      · rw [hrr (ar 0) a0 q (Or.inr z), hA.1 q hq]
        by_cases z2 : q < M 4 0
        · rw [if_pos z2, if_pos (by omega), if_neg z]
        · rw [if_neg z2, if_neg (by omega)]
    · rw [hrr (ar 1) (t3 1 (by decide)).2 q (Or.inl (xne c1 c0 (by decide))), e 12 0 (by decide)]; exact hA.2.1 q hq
    · rw [hrr (ar 2) (t3 2 (by decide)).2 q (Or.inl (xne c2 c0 (by decide))), e 25 0 (by decide)]; exact hA.2.2 q hq
  · intro q hq
    rw [mpart_4] at hq
    by_cases z : q = M 4 0
    · subst z
      unfold rP
      rw [if_pos rfl, mpart_5, mpart_6, mpart_7, mpart_8]
      have f1 : mfirst (mpart M o b) (M 4 0) = none := mnx_none _ _ (fun j _ hj => by
        rw [e 14 j (by decide)]
        have := (hW.2.2.2.1 j (by rw [e 12 0 (by decide)] at hj; omega)).2.1
        omega)
      have f2 : mla (mpart M o b) (M 4 0) (mpart M o b 12 0) = none := mla_none _ (fun j hj => by
        rw [e 14 j (by decide)]
        have := (hW.2.2.2.1 j (by rw [e 12 0 (by decide)] at hj; omega)).2.1
        omega)
      rw [f1, f2]
      have hnx : xn S ≠ th := Ne.symm hnth
      have hnr : xn S ≠ ar 0 := Ne.symm hn0
      refine ⟨⟨?_, by omega⟩, ⟨?_, ?_, ?_, ?_, ?_⟩, ?_, ?_⟩ <;> simp [sPart, xc_pi, xc_pr, xc_mk, xi_pi, xi_pr, xi_mk, xr_pi, xr_pr, xr_mk, hnx, hnr] <;> rfl
    · have hq' : q < M 4 0 := by omega
      have r := hP q hq'
      refine (r.same (by omega) (hsame _ r.1.2 (xne r.1.1 t1 (by decide)) (xne r.1.1 c0 (by decide)))).to (if_neg z) (fun _ _ => rfl) (e 12 0 (by decide)) (fun _ _ => e 14 _ (by decide)) ?_
      exact ⟨mpart_o _ _ _ _ _ hq' (by decide), mpart_o _ _ _ _ _ hq' (by decide), mpart_o _ _ _ _ _ hq' (by decide), mpart_o _ _ _ _ _ hq' (by decide)⟩
  · intro k hk
    rw [e 12 0 (by decide)] at hk
    have r := hQ k hk
    have hlt := (hW.2.2.2.1 k hk).2.1
    exact (r.same (by omega) (hsame _ r.1.2 (xne r.1.1 t1 (by decide)) (xne r.1.1 c0 (by decide)))).to hk (if_neg (by omega)) (fun _ _ => rfl) (fun _ => rfl) (e 12 0 (by decide)) (fun _ _ => e 14 _ (by decide)) ⟨e 13 k (by decide), fun _ => e 15 k (by decide), e 16 k (by decide), e 17 k (by decide), e 18 k (by decide), e 19 k (by decide), e 20 k (by decide), e 21 k (by decide)⟩
  · intro j hj
    rw [e 25 0 (by decide)] at hj
    have r := hB j hj
    exact (r.same (by omega) (hsame _ r.1.2 (xne r.1.1 t1 (by decide)) (xne r.1.1 c0 (by decide)))).to rfl (e 26 j (by decide)) (e 27 j (by decide)) (fun _ => rfl)
  · intro i j hi hj hij
    rw [mpart_4] at hi hj
    dsimp only at hij
    by_cases z1 : i = M 4 0 <;> by_cases z2 : j = M 4 0
    · omega
    · rw [if_pos z1, if_neg z2] at hij
      have := (hP j (by omega)).1.2
      omega
    · rw [if_neg z1, if_pos z2] at hij
      have := (hP i (by omega)).1.2
      omega
    · rw [if_neg z1, if_neg z2] at hij
      exact i1 i j (by omega) (by omega) hij
  · rw [e 12 0 (by decide)]; exact i2
  · rw [e 25 0 (by decide)]; exact i3
end ADD
