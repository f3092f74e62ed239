/-! ALL PLACES ARE SMALL -/
def nsum (f : Nat → Nat) : Nat → Nat
  | 0 => 0
  | n + 1 => nsum f n + f n
theorem nsum_le {f g : Nat → Nat} : ∀ n, (∀ i, i < n → f i ≤ g i) → nsum f n ≤ nsum g n
  | 0, _ => Nat.le_refl _
  | n + 1, h => Nat.add_le_add (nsum_le n (fun i hi => h i (by omega))) (h n (by omega))
theorem nsum_add (f g : Nat → Nat) : ∀ n, nsum (fun i => f i + g i) n = nsum f n + nsum g n
  | 0 => rfl
  | n + 1 => by simp only [nsum, nsum_add f g n]; omega
theorem nsum_mul (f : Nat → Nat) (c : Nat) : ∀ n, nsum (fun i => f i * c) n = nsum f n * c
  | 0 => by simp [nsum]
  | n + 1 => by simp only [nsum, nsum_mul f c n, Nat.add_mul]
theorem nsum_const (c : Nat) : ∀ n, nsum (fun _ => c) n = n * c
  | 0 => by simp [nsum]
  | n + 1 => by simp only [nsum, nsum_const c n, Nat.add_mul, Nat.one_mul]
theorem nsum_zero : ∀ n, nsum (fun _ => 0) n = 0
  | 0 => rfl
  | n + 1 => by simp [nsum, nsum_zero n]
theorem nsum_one {q : Nat} : ∀ n, nsum (fun p => if q = p then 1 else 0) n ≤ 1 ∧ (n ≤ q → nsum (fun p => if q = p then 1 else 0) n = 0)
  | 0 => ⟨by simp [nsum], fun _ => rfl⟩
  | n + 1 => by
    obtain ⟨h1, h2⟩ := nsum_one (q := q) n
    simp only [nsum]
    by_cases e : q = n
    · rw [if_pos e]
      have := h2 (by omega)
      exact ⟨by omega, fun h => by omega⟩
    · rw [if_neg e]
      exact ⟨by omega, fun h => by have := h2 (by omega); omega⟩
-- how many pieces below k part p has
def mcnt (M : mT) (p : Nat) : Nat → Nat := nsum (fun k => if M 14 k = p then 1 else 0)
theorem mcnt_sum (M : mT) (np : Nat) : ∀ k, nsum (fun p => mcnt M p k) np ≤ k
  | 0 => by
    have : (fun p => mcnt M p 0) = fun _ => 0 := rfl
    rw [this, nsum_zero]; exact Nat.le_refl 0
  | k + 1 => by
    have e : (fun p => mcnt M p (k + 1)) = fun p => mcnt M p k + (if M 14 k = p then 1 else 0) := rfl
    rw [e, nsum_add (fun p => mcnt M p k) (fun p => if M 14 k = p then 1 else 0)]
    have h1 := mcnt_sum M np k
    have h2 := (nsum_one (q := M 14 k) np).1
    omega
theorem mup_ge (x p : Nat) : x ≤ mup x p := Nat.le_add_right _ _
theorem mup_le {x p : Nat} (h : p ≤ 12) : mup x p ≤ x + 4095 := by
  have := mpad_lt (x := x) h
  unfold mup
  omega
theorem msz_le {M : mT} (h : mWF M) {k : Nat} (hk : k < M 12 0) (a : Nat) : msz M k a ≤ 4194304 := by
  unfold msz
  obtain ⟨-, -, -, w7, w8, w9, w10, -⟩ := h
  by_cases z : M 13 k = 4
  · rw [if_pos z]
    have := w10 k hk z
    omega
  · rw [if_neg z]
    by_cases z0 : M 13 k = 0
    · have := w8 k hk z0; omega
    · have h1 := (w7 k hk).1
      have := (w9 k hk (by simp [maim]; omega)).2.1
      unfold mgr at this
      split at this <;> omega
theorem mlay_mono (M : mT) (p b : Nat) : ∀ (k d : Nat), mlay M p b k ≤ mlay M p b (k + d)
  | k, 0 => Nat.le_refl _
  | k, d + 1 => by
    have h := mlay_mono M p b k d
    rw [← Nat.add_assoc, mlay]
    split <;> omega
theorem mlay_le {M : mT} (h : mWF M) (p b : Nat) : ∀ k, k ≤ M 12 0 → mlay M p b k ≤ b + mcnt M p k * 4194304
  | 0, _ => by simp [mlay]
  | k + 1, hk => by
    have h1 := mlay_le h p b k (by omega)
    have h2 := msz_le h (show k < M 12 0 by omega) (mlay M p b k)
    have e : mcnt M p (k + 1) = mcnt M p k + (if M 14 k = p then 1 else 0) := rfl
    rw [mlay, e]
    split <;> omega
def mwt (M : mT) (p : Nat) : Nat := 4095 + mcnt M p (M 12 0) * 4194304
def mwo (M : mT) (o : Nat) : Nat → Nat := nsum (fun p => if M 5 p = o then mwt M p else 0)
theorem mout_mono (M : mT) (o b : Nat) : ∀ (k d : Nat), mout M o b k ≤ mout M o b (k + d)
  | k, 0 => Nat.le_refl _
  | k, d + 1 => by
    have h := mout_mono M o b k d
    rw [← Nat.add_assoc, mout]
    split
    · have h1 := mup_ge (mout M o b (k + d)) (M 6 (k + d))
      have h2 := mlay_mono M (k + d) (mup (mout M o b (k + d)) (M 6 (k + d))) 0 (M 12 0)
      simp only [mlay, Nat.zero_add] at h2
      omega
    · exact h
theorem mout_le {M : mT} (h : mWF M) (o b : Nat) : ∀ p, p ≤ M 4 0 → mout M o b p ≤ b + mwo M o p
  | 0, _ => by simp [mout]
  | p + 1, hp => by
    have h1 := mout_le h o b p (by omega)
    have e : mwo M o (p + 1) = mwo M o p + (if M 5 p = o then mwt M p else 0) := rfl
    rw [mout, e]
    by_cases z : M 5 p = o ∧ M 8 p = 0
    · rw [if_pos z, if_pos z.1]
      have h2 := mlay_le h p (mup (mout M o b p) (M 6 p)) (M 12 0) (Nat.le_refl _)
      have h3 := mup_le (x := mout M o b p) (h.2.2.1 p (by omega)).2.1
      unfold mwt
      omega
    · rw [if_neg z]; omega
theorem osum {f w : Nat → Nat} : ∀ n, (∀ p, p < n → f p ≤ 3) → nsum (fun p => if f p = 0 then w p else 0) n + nsum (fun p => if f p = 1 then w p else 0) n + nsum (fun p => if f p = 2 then w p else 0) n + nsum (fun p => if f p = 3 then w p else 0) n ≤ nsum w n
  | 0, _ => Nat.le_refl _
  | n + 1, h => by
    have h1 := osum (w := w) n (fun p hp => h p (by omega))
    have h2 := h n (by omega)
    simp only [nsum]
    generalize nsum (fun p => if f p = 0 then w p else 0) n = a0 at h1 ⊢
    generalize nsum (fun p => if f p = 1 then w p else 0) n = a1 at h1 ⊢
    generalize nsum (fun p => if f p = 2 then w p else 0) n = a2 at h1 ⊢
    generalize nsum (fun p => if f p = 3 then w p else 0) n = a3 at h1 ⊢
    generalize nsum w n = a4 at h1 ⊢
    generalize w n = b at h1 ⊢
    rcases (show f n = 0 ∨ f n = 1 ∨ f n = 2 ∨ f n = 3 by omega) with e | e | e | e <;> rw [e] <;> (first | (simp; done) | (simp; omega))
theorem mwo_sum {M : mT} (h : mWF M) : mwo M 0 (M 4 0) + mwo M 1 (M 4 0) + mwo M 2 (M 4 0) + mwo M 3 (M 4 0) ≤ nsum (mwt M) (M 4 0) := osum (f := M 5) (w := mwt M) (M 4 0) (fun p hp => (h.2.2.1 p hp).1)
theorem wsum (g : Nat → Nat) (c d : Nat) : ∀ n, nsum (fun p => c + g p * d) n = n * c + nsum g n * d
  | 0 => by simp only [nsum, Nat.zero_mul, Nat.add_zero]
  | n + 1 => by
    have h := wsum g c d n
    simp only [nsum]
    rw [h, Nat.add_mul, Nat.add_mul, Nat.one_mul]
    omega
theorem mwt_sum {M : mT} (h : mWF M) : nsum (mwt M) (M 4 0) ≤ 1073872864 := by
  have h0 := wsum (fun p => mcnt M p (M 12 0)) 4095 4194304 (M 4 0)
  have h1 := mcnt_sum M (M 4 0) (M 12 0)
  have h2 := h.1.2.1
  have h3 := h.1.2.2.1
  have e : nsum (mwt M) (M 4 0) = M 4 0 * 4095 + nsum (fun p => mcnt M p (M 12 0)) (M 4 0) * 4194304 := h0
  generalize nsum (mwt M) (M 4 0) = A at e ⊢
  generalize nsum (fun p => mcnt M p (M 12 0)) (M 4 0) = B at e h1
  generalize M 4 0 = C at e h2
  generalize M 12 0 = F at h1 h3
  omega
theorem mend_step {M : mT} (o : Nat) : mend M o ≤ mob M o ∧ mob M o ≤ mend M (o + 1) := by
  refine ⟨mup_ge _ _, ?_⟩
  have := mout_mono M o (mup (mend M o) (M 1 o)) 0 (M 4 0)
  simp only [mout, Nat.zero_add] at this
  exact this
theorem mend_mono {M : mT} : ∀ (o d : Nat), mend M o ≤ mend M (o + d)
  | o, 0 => Nat.le_refl _
  | o, d + 1 => by
    have h1 := mend_mono (M := M) o d
    have h2 := mend_step (M := M) (o + d)
    rw [← Nat.add_assoc]
    omega
theorem mend_le {M : mT} (h : mWF M) : mend M 4 ≤ 1074937820 := by
  have w := h.2.1
  have hb := h.1.1
  have h0 := mout_le h 0 (mup (mend M 0) (M 1 0)) (M 4 0) (Nat.le_refl _)
  have h1 := mout_le h 1 (mup (mend M 1) (M 1 1)) (M 4 0) (Nat.le_refl _)
  have h2 := mout_le h 2 (mup (mend M 2) (M 1 2)) (M 4 0) (Nat.le_refl _)
  have h3 := mout_le h 3 (mup (mend M 3) (M 1 3)) (M 4 0) (Nat.le_refl _)
  have u0 := mup_le (x := mend M 0) (w 0 (by decide))
  have u1 := mup_le (x := mend M 1) (w 1 (by decide))
  have u2 := mup_le (x := mend M 2) (w 2 (by decide))
  have u3 := mup_le (x := mend M 3) (w 3 (by decide))
  have e0 : mend M 0 = M 0 0 := rfl
  have e1 : mend M 1 = mout M 0 (mup (mend M 0) (M 1 0)) (M 4 0) := rfl
  have e2 : mend M 2 = mout M 1 (mup (mend M 1) (M 1 1)) (M 4 0) := rfl
  have e3 : mend M 3 = mout M 2 (mup (mend M 2) (M 1 2)) (M 4 0) := rfl
  have e4 : mend M 4 = mout M 3 (mup (mend M 3) (M 1 3)) (M 4 0) := rfl
  have s1 := mwo_sum h
  have s2 := mwt_sum h
  omega
theorem mend_lt {M : mT} (h : mWF M) {o : Nat} (ho : o ≤ 4) : mend M o ≤ 1074937820 := by
  have h1 := mend_mono (M := M) o (4 - o)
  rw [show o + (4 - o) = 4 by omega] at h1
  exact Nat.le_trans h1 (mend_le h)
/-- a part that is there: where it begins and ends -/
theorem mpe_le {M : mT} (h : mWF M) {p : Nat} (hp : p < M 4 0) (hg : M 8 p = 0) : mout M (M 5 p) (mob M (M 5 p)) p ≤ mpb M p ∧ mpb M p ≤ mpe M p ∧ mpe M p ≤ 1074937820 := by
  have ho := (h.2.2.1 p hp).1
  have h1 : mpe M p = mout M (M 5 p) (mob M (M 5 p)) (p + 1) := by
    rw [mout, if_pos ⟨rfl, hg⟩]
    rfl
  have h2 := mout_mono M (M 5 p) (mob M (M 5 p)) (p + 1) (M 4 0 - (p + 1))
  rw [show p + 1 + (M 4 0 - (p + 1)) = M 4 0 by omega] at h2
  have h3 : mout M (M 5 p) (mob M (M 5 p)) (M 4 0) = mend M (M 5 p + 1) := rfl
  have h4 := mend_lt h (show M 5 p + 1 ≤ 4 by omega)
  refine ⟨mup_ge _ _, ?_, by omega⟩
  have h5 := mlay_mono M p (mpb M p) 0 (M 12 0)
  simp only [mlay, Nat.zero_add] at h5
  exact h5
theorem mpl_le {M : mT} (h : mWF M) {k : Nat} (hk : k < M 12 0) (hg : mnot M k = true) : mpl M k + msize M k ≤ 1074937820 ∧ mpl M k ≤ 1074937820 := by
  have hg' : M 8 (M 14 k) = 0 := by simpa [mnot] using hg
  have hp := (h.2.2.2.1 k hk).2.1
  have h1 := mlay_mono M (M 14 k) (mpb M (M 14 k)) (k + 1) (M 12 0 - (k + 1))
  rw [show k + 1 + (M 12 0 - (k + 1)) = M 12 0 by omega, mlay, if_pos rfl] at h1
  have h2 := (mpe_le h hp hg').2.2
  have e : mpe M (M 14 k) = mlay M (M 14 k) (mpb M (M 14 k)) (M 12 0) := rfl
  unfold msize mpl
  omega
