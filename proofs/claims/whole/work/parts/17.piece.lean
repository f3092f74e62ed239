/-! THE CLASS: a piece is new -/
theorem madd_f (M : mT) (pt s n w lb c t f i : Nat) (h : f ≠ 12 ∧ f ≠ 13 ∧ f ≠ 14 ∧ f ≠ 15 ∧ f ≠ 16 ∧ f ≠ 17 ∧ f ≠ 18 ∧ f ≠ 19 ∧ f ≠ 20 ∧ f ≠ 21) : madd M pt s n w lb c t f i = M f i := by
  obtain ⟨h1, h2, h3, h4, h5, h6, h7, h8, h9, h10⟩ := h
  simp [madd, mset_eq, h1, h2, h3, h4, h5, h6, h7, h8, h9, h10]
theorem madd_o (M : mT) (pt s n w lb c t f i : Nat) (h : i < M 12 0) (hf : f ≠ 12) : madd M pt s n w lb c t f i = M f i := by
  have : i ≠ M 12 0 := Nat.ne_of_lt h
  simp [madd, mset_eq, hf, this]
theorem madd_12 (M : mT) (pt s n w lb c t : Nat) : madd M pt s n w lb c t 12 0 = M 12 0 + 1 := by simp [madd, mset_eq]
theorem madd_n (M : mT) (pt s n w lb c t : Nat) : madd M pt s n w lb c t 13 (M 12 0) = s ∧ madd M pt s n w lb c t 14 (M 12 0) = pt ∧ madd M pt s n w lb c t 15 (M 12 0) = n ∧ madd M pt s n w lb c t 16 (M 12 0) = n ∧ madd M pt s n w lb c t 17 (M 12 0) = w ∧ madd M pt s n w lb c t 18 (M 12 0) = lb ∧ madd M pt s n w lb c t 19 (M 12 0) = c ∧ madd M pt s n w lb c t 20 (M 12 0) = t ∧ madd M pt s n w lb c t 21 (M 12 0) = 0 := by
  simp [madd, mset_eq]
def saim (s : Nat) : Bool := decide (1 ≤ s) && decide (s < 4)
theorem maim_eq (M : mT) (k : Nat) : maim M k = saim (M 13 k) := rfl
/-- what a new piece's numbers must be -/
def mOK (M : mT) (pt s n w lb c t : Nat) : Prop := s ≤ 4 ∧ pt < M 4 0 ∧ w ≤ 12 ∧ t ≤ 1 ∧ c < 2 ^ 32 ∧ (s = 0 → n ≤ 4194304) ∧ (saim s = true → n = mgr s ∧ lb < M 25 0 ∧ (s = 3 → t = 0)) ∧ (s = 4 → n ≤ 4096)
theorem mWF_add {M : mT} (h : mWF M) {pt s n w lb c t : Nat} (hn : M 12 0 < 256) (ho : mOK M pt s n w lb c t) : mWF (madd M pt s n w lb c t) := by
  obtain ⟨⟨w1, w2, w3, w4⟩, w5, w6, w7, w8, w9, w10, w11⟩ := h
  obtain ⟨o1, o2, o3, o4, o5, o6, o7, o8⟩ := ho
  have e := fun f i => madd_f M pt s n w lb c t f i
  have eo := fun f i => madd_o M pt s n w lb c t f i
  obtain ⟨n13, n14, n15, n16, n17, n18, n19, n20, n21⟩ := madd_n M pt s n w lb c t
  unfold mWF
  simp only [maim_eq]
  rw [madd_12, e 0 0 (by decide), e 25 0 (by decide), e 4 0 (by decide)]
  refine ⟨⟨w1, w2, by omega, w4⟩, fun q hq => ?_, fun q hq => ?_, fun q hq => ?_, fun q hq => ?_, fun q hq => ?_, fun q hq => ?_, fun q hq => ?_⟩
  · rw [e 1 q (by decide)]; exact w5 q hq
  · rw [e 5 q (by decide), e 6 q (by decide), e 7 q (by decide), e 8 q (by decide)]; exact w6 q hq
  · by_cases z : q < M 12 0
    · rw [eo 13 q z (by decide), eo 14 q z (by decide), eo 20 q z (by decide), eo 21 q z (by decide), eo 19 q z (by decide), eo 17 q z (by decide)]; exact w7 q z
    · have : q = M 12 0 := by omega
      subst this
      rw [n13, n14, n20, n21, n19, n17]
      exact ⟨o1, o2, o4, by decide, o5, o3⟩
  · by_cases z : q < M 12 0
    · rw [eo 13 q z (by decide), eo 15 q z (by decide), eo 16 q z (by decide)]; exact w8 q z
    · have : q = M 12 0 := by omega
      subst this
      rw [n13, n15, n16]
      exact fun z => ⟨rfl, o6 z⟩
  · by_cases z : q < M 12 0
    · rw [eo 13 q z (by decide), eo 15 q z (by decide), eo 16 q z (by decide), eo 18 q z (by decide), eo 20 q z (by decide), eo 21 q z (by decide)]; exact w9 q z
    · have : q = M 12 0 := by omega
      subst this
      rw [n13, n15, n16, n18, n20, n21]
      intro z
      obtain ⟨p1, p2, p3⟩ := o7 z
      refine ⟨p1, by omega, p2, fun z => by omega, p3, ?_⟩
      rw [p1]
      unfold mszk mgr
      split <;> rfl
  · by_cases z : q < M 12 0
    · rw [eo 13 q z (by decide), eo 16 q z (by decide)]; exact w10 q z
    · have : q = M 12 0 := by omega
      subst this
      rw [n13, n16]
      exact o8
  · rw [e 26 q (by decide), e 27 q (by decide)]
    have := w11 q hq
    refine ⟨by omega, fun z => ?_⟩
    rw [eo 13 _ (by omega) (by decide), eo 16 _ (by omega) (by decide)]
    exact this.2 z
theorem mnx_none_iff {M : mT} {p : Nat} : ∀ (d k : Nat), mnx M p k d = none ↔ ∀ j, k ≤ j → j < k + d → M 14 j ≠ p
  | 0, k => ⟨fun _ j h1 h2 => by omega, fun _ => rfl⟩
  | d + 1, k => by
    rw [mnx]
    by_cases z : M 14 k = p
    · rw [if_pos z]
      exact ⟨fun h => (by cases h), fun h => absurd z (h k (Nat.le_refl _) (by omega))⟩
    · rw [if_neg z, mnx_none_iff d (k + 1)]
      refine ⟨fun h j h1 h2 => ?_, fun h j h1 h2 => h j (by omega) (by omega)⟩
      by_cases e : j = k
      · rw [e]; exact z
      · exact h j (by omega) (by omega)
theorem mnx_snoc {M : mT} {p : Nat} : ∀ (d k : Nat), mnx M p k (d + 1) = match mnx M p k d with
    | some j => some j
    | none => if M 14 (k + d) = p then some (k + d) else none
  | 0, k => by
    simp only [mnx, Nat.add_zero]
  | d + 1, k => by
    rw [mnx]
    by_cases z : M 14 k = p
    · rw [if_pos z]
      conv => rhs; rw [mnx, if_pos z]
    · rw [if_neg z, mnx_snoc d (k + 1)]
      conv => rhs; rw [mnx, if_neg z, show k + (d + 1) = k + 1 + d by omega]
theorem mla_some_iff {M : mT} {p : Nat} : ∀ (n k : Nat), mla M p n = some k ↔ k < n ∧ M 14 k = p ∧ ∀ j, k < j → j < n → M 14 j ≠ p
  | 0, k => ⟨fun h => (by cases h), fun h => by omega⟩
  | n + 1, k => by
    rw [mla]
    by_cases z : M 14 n = p
    · rw [if_pos z]
      refine ⟨fun h => by cases h; exact ⟨by omega, z, fun j h1 h2 => by omega⟩, fun h => ?_⟩
      by_cases e : k = n
      · rw [e]
      · exact absurd z (h.2.2 n (by omega) (by omega))
    · rw [if_neg z, mla_some_iff n k]
      refine ⟨fun h => ⟨by omega, h.2.1, fun j h1 h2 => ?_⟩, fun h => ?_⟩
      · by_cases e : j = n
        · rw [e]; exact z
        · exact h.2.2 j h1 (by omega)
      · have : k ≠ n := fun e => z (e ▸ h.2.1)
        exact ⟨by omega, h.2.1, fun j h1 h2 => h.2.2 j h1 (by omega)⟩
theorem mla_none_iff {M : mT} {p : Nat} : ∀ (n : Nat), mla M p n = none ↔ ∀ j, j < n → M 14 j ≠ p
  | 0 => ⟨fun _ j h => by omega, fun _ => rfl⟩
  | n + 1 => by
    rw [mla]
    by_cases z : M 14 n = p
    · rw [if_pos z]
      exact ⟨fun h => (by cases h), fun h => absurd z (h n (by omega))⟩
    · rw [if_neg z, mla_none_iff n]
      refine ⟨fun h j h1 => ?_, fun h j h1 => h j (by omega)⟩
      by_cases e : j = n
      · rw [e]; exact z
      · exact h j (by omega)
section PIECE
variable {l : Launch} {D : va_G} {n0 : Nat} {S : xS} {th : Nat} {ar pa qa la : Nat → Nat} {M : mT}
theorem rC.same {S' : xS} (h : rC S th ar pa qa la M) (hn : xn S ≤ xn S') (hs : ∀ b, b < xn S → xSame S S' b) : rC S' th ar pa qa la M := by
  obtain ⟨hW, hT, hA, hP, hQ, hB, i⟩ := h
  obtain ⟨⟨t1, t2⟩, t3, ⟨c0, c1, c2, c3, c4, c5⟩, ⟨l0, l1, l2, l3, l4, l5⟩, t5, ⟨t6, t7, t8, t9⟩, t10⟩ := hT
  have s0 := hs _ (t3 0 (by decide)).2
  have s1 := hs _ (t3 1 (by decide)).2
  have s2 := hs _ (t3 2 (by decide)).2
  have s3 := hs _ (t3 3 (by decide)).2
  have s4 := hs _ (t3 4 (by decide)).2
  have s5 := hs _ (t3 5 (by decide)).2
  have st := hs _ t2
  refine ⟨hW, ⟨⟨st.1.trans t1, by omega⟩, fun f hf => ⟨(st.2.2.2 f).trans (t3 f hf).1, by have := (t3 f hf).2; omega⟩, ⟨s0.1.trans c0, s1.1.trans c1, s2.1.trans c2, s3.1.trans c3, s4.1.trans c4, s5.1.trans c5⟩, ⟨s0.2.1.trans l0, s1.2.1.trans l1, s2.2.1.trans l2, s3.2.1.trans l3, s4.2.1.trans l4, s5.2.1.trans l5⟩, t5, ⟨(st.2.2.1 6).trans t6, (st.2.2.1 7).trans t7, (st.2.2.1 8).trans t8, (st.2.2.1 9).trans t9⟩, fun o ho => (s3.2.2.1 o).trans (t10 o ho)⟩, ⟨fun p hp => (s0.2.2.2 p).trans (hA.1 p hp), fun p hp => (s1.2.2.2 p).trans (hA.2.1 p hp), fun p hp => (s2.2.2.2 p).trans (hA.2.2 p hp)⟩, fun p hp => (hP p hp).same hn (hs _ (hP p hp).1.2), fun p hp => (hQ p hp).same hn (hs _ (hQ p hp).1.2), fun p hp => (hB p hp).same hn (hs _ (hB p hp).1.2), i⟩
/-- the cell of a piece that is in no list yet -/
def rN (S : xS) (pa la : Nat → Nat) (a pt s n w lb c t : Nat) : Prop :=
  (xc S a = 3 ∧ a < xn S) ∧ xi S a 0 = nI s ∧ xr S a 1 = some (pa pt) ∧ xr S a 2 = (if saim s = true then some (la lb) else none) ∧ xi S a 3 = nI c ∧ xi S a 4 = nI t ∧ xi S a 5 = nI w ∧ (saim s = false → xi S a 6 = nI n) ∧ xi S a 7 = nI n ∧ xi S a 8 = nI n ∧ xi S a 11 = 0 ∧ xr S a 12 = none
theorem rC_add {S' : xS} {a pt s n w lb c t : Nat} (h : rC S th ar pa qa la M) (hq : M 12 0 < 256) (hN : rN S pa la a pt s n w lb c t) (ho : mOK M pt s n w lb c t) (hne : ∀ k, k < M 12 0 → qa k ≠ a)
    (hsz : xn S' = xn S) (hcc : ∀ b, xc S' b = xc S b ∧ xl S' b = xl S b) (hii : ∀ b k, (b ≠ th ∨ k ≠ 7) → xi S' b k = xi S b k) (hi7 : xi S' th 7 = nI (M 12 0 + 1))
    (hrr : ∀ b k, ¬ (b = ar 1 ∧ k = M 12 0) → ¬ (b = pa pt ∧ (k = 7 ∨ k = 8)) → (∀ z, mla M pt (M 12 0) = some z → ¬ (b = qa z ∧ k = 12)) → xr S' b k = xr S b k)
    (v1 : xr S' (ar 1) (M 12 0) = some a) (v2 : xr S' (pa pt) 8 = some a) (v3 : xr S' (pa pt) 7 = if mla M pt (M 12 0) = none then some a else xr S (pa pt) 7) (v4 : ∀ z, mla M pt (M 12 0) = some z → xr S' (qa z) 12 = some a) : rC S' th ar pa (nup qa (M 12 0) a) la (madd M pt s n w lb c t) := by
  have hpt := ho.2.1
  obtain ⟨hW, hT, hA, hP, hQ, hB, i1, i2, i3⟩ := h
  obtain ⟨⟨t1, t2⟩, t3, ⟨c0, c1, c2, c3, c4, c5⟩, t4, t5, ⟨t6, t7, t8, t9⟩, t10⟩ := hT
  have e := fun f i => madd_f M pt s n w lb c t f i
  have eo := fun f i => madd_o M pt s n w lb c t f i
  obtain ⟨n13, n14, n15, n16, n17, n18, n19, n20, n21⟩ := madd_n M pt s n w lb c t
  have e12 := madd_12 M pt s n w lb c t
  have hpc : xc S (pa pt) = 2 := (hP pt hpt).1.1
  have hzc : ∀ z, mla M pt (M 12 0) = some z → xc S (qa z) = 3 := fun z hz => (hQ z (mla_lt _ _ hz).1).1.1
  -- a cell of another tag keeps its references
  have hro : ∀ b k, xc S b ≠ 2002 → xc S b ≠ 2 → xc S b ≠ 3 → xr S' b k = xr S b k := fun b k q1 q2 q3 => hrr b k (fun z => q1 (by rw [z.1]; exact c1)) (fun z => q2 (by rw [z.1]; exact hpc)) (fun z hz w => q3 (by rw [w.1]; exact hzc z hz))
  have hmla : ∀ p, p ≠ pt → mla (madd M pt s n w lb c t) p (M 12 0 + 1) = mla M p (M 12 0) := by
    intro p hp
    rw [mla, n14, if_neg (Ne.symm hp)]
    exact mla_congr _ (fun j hj => eo 14 j hj (by decide))
  have hmx : ∀ p k d, k + d ≤ M 12 0 → mnx (madd M pt s n w lb c t) p k d = mnx M p k d := fun p k d hd => mnx_congr _ _ (fun j hj => eo 14 j (by omega) (by decide))
  refine ⟨mWF_add hW hq ho, ?_, ?_, ?_, ?_, ?_, ?_, ?_, ?_⟩
  · refine ⟨⟨(hcc th).1.trans t1, by omega⟩, fun f hf => ⟨?_, by have := (t3 f hf).2; omega⟩, ?_, ?_, t5, ⟨?_, ?_, ?_, ?_⟩, fun q hq => ?_⟩
    · rw [hro th f (by rw [t1]; decide) (by rw [t1]; decide) (by rw [t1]; decide)]; exact (t3 f hf).1
    · simp only [(hcc _).1]; exact ⟨c0, c1, c2, c3, c4, c5⟩
    · simp only [(hcc _).2]; exact t4
    · rw [hii th 6 (Or.inr (by decide)), e 4 0 (by decide)]; exact t6
    · rw [hi7, e12]
    · rw [hii th 8 (Or.inr (by decide)), e 25 0 (by decide)]; exact t8
    · rw [hii th 9 (Or.inr (by decide)), e 0 0 (by decide)]; exact t9
    · rw [hii (ar 3) q (Or.inl (xne c3 t1 (by decide))), e 1 q (by decide)]; exact t10 q hq
  · refine ⟨fun q hq => ?_, fun q hq => ?_, fun q hq => ?_⟩
    · rw [hro (ar 0) q (by rw [c0]; decide) (by rw [c0]; decide) (by rw [c0]; decide), e 4 0 (by decide)]; exact hA.1 q hq
    · rw [e12]
      by_cases z : q = M 12 0
      · subst z
        rw [if_pos (by omega), nup_s]; exact v1
      · rw [hrr (ar 1) q (fun w => z w.2) (fun w => xne c1 hpc (by decide) w.1) (fun y hy w => xne c1 (hzc y hy) (by decide) w.1), hA.2.1 q hq]
        by_cases z2 : q < M 12 0
        · rw [if_pos z2, if_pos (by omega), nup_n _ z]
        · rw [if_neg z2, if_neg (by omega)]
    · rw [hro (ar 2) q (by rw [c2]; decide) (by rw [c2]; decide) (by rw [c2]; decide), e 25 0 (by decide)]; exact hA.2.2 q hq
  · intro p hp
    rw [e 4 0 (by decide)] at hp
    obtain ⟨⟨p1, p2⟩, ⟨p3, p4, p5, p6, p7⟩, p8, p9⟩ := hP p hp
    have hnt : pa p ≠ th := xne p1 t1 (by decide)
    refine ⟨⟨(hcc _).1.trans p1, by omega⟩, ⟨?_, ?_, ?_, ?_, ?_⟩, ?_, ?_⟩
    · rw [hii _ _ (Or.inl hnt)]; exact p3
    · rw [hii _ _ (Or.inl hnt), e 5 p (by decide)]; exact p4
    · rw [hii _ _ (Or.inl hnt), e 6 p (by decide)]; exact p5
    · rw [hii _ _ (Or.inl hnt), e 8 p (by decide)]; exact p6
    · rw [hii _ _ (Or.inl hnt), e 7 p (by decide)]; exact p7
    · unfold mfirst
      rw [e12, mnx_snoc, hmx p 0 (M 12 0) (by omega), Nat.zero_add, n14]
      by_cases z : p = pt
      · subst z
        rw [v3]
        by_cases y : mla M p (M 12 0) = none
        · have y2 : mnx M p 0 (M 12 0) = none := (mnx_none_iff _ _).mpr (fun j _ hj => (mla_none_iff _).mp y j (by omega))
          rw [if_pos y, y2]
          simp [nup_s]
        · rw [if_neg y, p8]
          unfold mfirst
          cases hm : mnx M p 0 (M 12 0) with
          | none => exact absurd ((mla_none_iff _).mpr (fun j hj => (mnx_none_iff _ _).mp hm j (by omega) (by omega))) y
          | some j =>
            have := mnx_lt _ _ _ hm
            simp [nup_n _ (show j ≠ M 12 0 by omega)]
      · rw [hrr _ _ (fun w => xne p1 c1 (by decide) w.1) (fun w => z (i1 p pt hp hpt w.1)) (fun y hy w => xne p1 (hzc y hy) (by decide) w.1), p8, if_neg (Ne.symm z)]
        unfold mfirst
        cases hm : mnx M p 0 (M 12 0) with
        | none => rfl
        | some j =>
          have := mnx_lt _ _ _ hm
          simp [nup_n _ (show j ≠ M 12 0 by omega)]
    · rw [e12]
      by_cases z : p = pt
      · subst z
        rw [v2, mla, n14, if_pos rfl]
        simp [nup_s]
      · rw [hmla p z, hrr _ _ (fun w => xne p1 c1 (by decide) w.1) (fun w => z (i1 p pt hp hpt w.1)) (fun y hy w => xne p1 (hzc y hy) (by decide) w.1), p9]
        cases hm : mla M p (M 12 0) with
        | none => rfl
        | some j =>
          have := mla_lt _ _ hm
          simp [nup_n _ (show j ≠ M 12 0 by omega)]
  · intro k hk
    rw [e12] at hk
    by_cases zk : k = M 12 0
    · subst zk
      obtain ⟨⟨a1, a2⟩, f0, f1, f2, f3, f4, f5, f6, f7, f8, f11, f12⟩ := hN
      have hnt : a ≠ th := xne a1 t1 (by decide)
      have hra : ∀ k, xr S' a k = xr S a k := fun k => hrr a k (fun z => xne a1 c1 (by decide) z.1) (fun z => xne a1 hpc (by decide) z.1) (fun z hz w => hne z (mla_lt _ _ hz).1 w.1.symm)
      have ea : maim (madd M pt s n w lb c t) (M 12 0) = saim s := by rw [maim_eq, n13]
      unfold rQ
      rw [ea, nup_s, n13, n14, n15, n16, n17, n18, n19, n20, n21]
      have hx : mnext (madd M pt s n w lb c t) (M 12 0) = none := by
        unfold mnext
        rw [e12, Nat.sub_self]
        rfl
      rw [hx]
      simp only [hii a _ (Or.inl hnt), hra, (hcc a).1]
      exact ⟨⟨a1, by omega⟩, ⟨f0, f1, f2, f3, f4, f5, f6, f7⟩, fun _ => f8, f11, f12⟩
    · have hk' : k < M 12 0 := by omega
      obtain ⟨⟨q1, q2⟩, ⟨q3, q4, q5, q6, q7, q8, q9, q10⟩, q11, q12, q13⟩ := hQ k hk'
      have hnt : qa k ≠ th := xne q1 t1 (by decide)
      have hrk : ∀ j, j ≠ 12 → xr S' (qa k) j = xr S (qa k) j := fun j hj => hrr _ j (fun z => xne q1 c1 (by decide) z.1) (fun z => xne q1 hpc (by decide) z.1) (fun z hz w => hj w.2)
      have ea : maim (madd M pt s n w lb c t) k = maim M k := by rw [maim_eq, maim_eq, eo 13 k hk' (by decide)]
      unfold rQ
      rw [ea, nup_n _ zk, eo 13 k hk' (by decide), eo 14 k hk' (by decide), eo 15 k hk' (by decide), eo 16 k hk' (by decide), eo 17 k hk' (by decide), eo 18 k hk' (by decide), eo 19 k hk' (by decide), eo 20 k hk' (by decide), eo 21 k hk' (by decide)]
      simp only [hii _ _ (Or.inl hnt), (hcc _).1, hrk 1 (by decide), hrk 2 (by decide)]
      refine ⟨⟨q1, by omega⟩, ⟨q3, q4, q5, q6, q7, q8, q9, q10⟩, q11, q12, ?_⟩
      unfold mnext
      rw [eo 14 k hk' (by decide), e12, show M 12 0 + 1 - (k + 1) = (M 12 0 - (k + 1)) + 1 by omega, mnx_snoc, hmx _ _ _ (by omega), show k + 1 + (M 12 0 - (k + 1)) = M 12 0 by omega, n14]
      unfold mnext at q13
      cases hm : mnx M (M 14 k) (k + 1) (M 12 0 - (k + 1)) with
      | some j =>
        have hj := mnx_lt _ _ _ hm
        rw [hrr _ _ (fun z => xne q1 c1 (by decide) z.1) (fun z => xne q1 hpc (by decide) z.1) (fun z hz w => ?_), q13, hm]
        · simp [nup_n _ (show j ≠ M 12 0 by omega)]
        · have hzk := i2 k z hk' (mla_lt _ _ hz).1 w.1
          subst hzk
          have := ((mla_some_iff _ _).mp hz).2
          exact this.2 j (by omega) (by omega) (hj.2.2.trans this.1)
      | none =>
        by_cases zp : pt = M 14 k
        · have hl : mla M pt (M 12 0) = some k := (mla_some_iff _ _).mpr ⟨hk', zp.symm, fun j h1 h2 => by rw [zp]; exact (mnx_none_iff _ _).mp hm j (by omega) (by omega)⟩
          rw [v4 k hl, if_pos zp]
          simp [nup_s]
        · rw [if_neg zp, hrr _ _ (fun z => xne q1 c1 (by decide) z.1) (fun z => xne q1 hpc (by decide) z.1) (fun z hz w => ?_), q13, hm]
          · rfl
          · have hzk := i2 k z hk' (mla_lt _ _ hz).1 w.1
            subst hzk
            exact zp (mla_lt _ _ hz).2.symm
  · intro j hj
    rw [e 25 0 (by decide)] at hj
    obtain ⟨⟨b1, b2⟩, b3, b4⟩ := hB j hj
    unfold rB
    rw [e 26 j (by decide), e 27 j (by decide), (hcc _).1, hii _ _ (Or.inl (xne b1 t1 (by decide))), hro _ _ (by rw [b1]; decide) (by rw [b1]; decide) (by rw [b1]; decide)]
    refine ⟨⟨b1, by omega⟩, ?_, b4⟩
    rw [b3]
    by_cases z : M 26 j = 0
    · rw [if_pos z, if_pos z]
    · have := (hW.2.2.2.2.2.2.2 j hj).1
      rw [if_neg z, if_neg z, nup_n _ (show M 26 j - 1 ≠ M 12 0 by omega)]
  · rw [e 4 0 (by decide)]; exact i1
  · intro i j hi hj hij
    rw [e12] at hi hj
    by_cases z1 : i = M 12 0 <;> by_cases z2 : j = M 12 0
    · omega
    · rw [z1, nup_s, nup_n _ z2] at hij
      exact absurd hij.symm (hne j (by omega))
    · rw [z2, nup_s, nup_n _ z1] at hij
      exact absurd hij (hne i (by omega))
    · rw [nup_n _ z1, nup_n _ z2] at hij
      exact i2 i j (by omega) (by omega) hij
  · rw [e 25 0 (by decide)]; exact i3
set_option maxHeartbeats 4000000 in
set_option maxRecDepth 100000 in
theorem c_append {b a : Nat} (hb : xc S b = 2) (hz : ∀ z, xr S b 8 = some z → xc S z = 3) : xMet l D n0 mP_append 0 0 [.inr (.inr (some b)), .inr (.inr (some a))] S (fun r S' => r = none ∧ (xr S b 8 = none → S' = xpr (xpr S b 7 (some a)) b 8 (some a)) ∧ ∀ z, xr S b 8 = some z → S' = xpr (xpr S z 12 (some a)) b 8 (some a)) := by
  refine xMet.of (k := mP_append) (own := 1) (ini := false) xm_P_append (by decide +kernel) (by decide +kernel) (by decide) (Nat.le_of_ble_eq_true rfl) ?_
  intro V hV
  show V 0 [some (.inr (.inr (some b))), some (.inr (.inr (some a)))] [] S 0 0
  cases hl : xr S b 8 with
  | none =>
    refine xrun_ok hV [] 30 _ _ _ _ _ _ ?_
    simp (maxDischargeDepth := 60) only [xrun, xisc, ↓xstep, xget, xtgt, xcmp, xacmp, xprev, xisR, xnt, List.set, List.length, xsw, xlk, true_or, or_true, if_true, if_false, true_and, and_true, List.mem_cons, List.not_mem_nil, or_false, false_or, Bool.false_eq_true, reduceCtorEq, not_false_eq_true, forall_const, Nat.zero_add, Nat.reduceAdd, Nat.reduceSub, Int.reduceAdd, Int.reduceNeg, Int.reduceToNat, Nat.reduceEqDiff, Nat.reduceLT, Nat.reduceLeDiff, Int.reduceLE, Int.reduceLT, reduceIte, Int.cast_ofNat_Int, Int.natCast_zero, Int.natCast_one, Int.reduceAdd, eq_self, Int.reduceSub, List.length_cons, List.length_nil, xli_m1, xli_0, xli_1, xli_2, xli_3, xli_4, xli_5, xlb_8, xlb_12, xlb_31, xlb_32, xlb_64, xls_256, xls_513, xls_2048, xls_4096, xll_0, xll_1, xnr_i, xnr_0, xnr_1, xnr_ite, xft_i, xft_0, xft_1, xat_999, xat_1001, xat_1002, xat_1003, xat_2001, xat_2002, xat_2003, List.getElem?_cons_succ, List.getElem?_cons_zero, xfn_0, xfn_1, xfn_2, xfn_3, x10, x01, not_true_eq_false, false_implies, implies_true, true_implies, xrm_c, xrm_s, xnl_4, xnl_32, xnl_64, xnl_256, xtn_4, xtn_32, xtn_64, xtn_256, Option.some.injEq, Sum.inl.injEq, Sum.inr.injEq, exists_eq_left', exists_eq_right, Option.toList_some, Option.toList_none, List.cons_append, List.nil_append, xE, lg_cmp_ge, lg_cmp_le, lg_cmp_gt, lg_cmp_lt, lg_cmp_eq, Nat.le_refl, Nat.zero_le, ne_eq, Nat.add_zero, dP_append_0, dP_append_1, dP_append_4, dP_append_7, dP_append_8, dP_append_9, dP_append_12, dP_append_15, dP_append_16, dP_append_19, dP_append_20, dP_append_23, dP_append_24, dP_append_25, dP_append_28, xf_1_19, xf_1_23, xf_1_26, hb, hl, xc_pr]
  | some z =>
    have hzc := hz z hl
    refine xrun_ok hV [] 30 _ _ _ _ _ _ ?_
    simp (maxDischargeDepth := 60) only [xrun, xisc, ↓xstep, xget, xtgt, xcmp, xacmp, xprev, xisR, xnt, List.set, List.length, xsw, xlk, true_or, or_true, if_true, if_false, true_and, and_true, List.mem_cons, List.not_mem_nil, or_false, false_or, Bool.false_eq_true, reduceCtorEq, not_false_eq_true, forall_const, Nat.zero_add, Nat.reduceAdd, Nat.reduceSub, Int.reduceAdd, Int.reduceNeg, Int.reduceToNat, Nat.reduceEqDiff, Nat.reduceLT, Nat.reduceLeDiff, Int.reduceLE, Int.reduceLT, reduceIte, Int.cast_ofNat_Int, Int.natCast_zero, Int.natCast_one, Int.reduceAdd, eq_self, Int.reduceSub, List.length_cons, List.length_nil, xli_m1, xli_0, xli_1, xli_2, xli_3, xli_4, xli_5, xlb_8, xlb_12, xlb_31, xlb_32, xlb_64, xls_256, xls_513, xls_2048, xls_4096, xll_0, xll_1, xnr_i, xnr_0, xnr_1, xnr_ite, xft_i, xft_0, xft_1, xat_999, xat_1001, xat_1002, xat_1003, xat_2001, xat_2002, xat_2003, List.getElem?_cons_succ, List.getElem?_cons_zero, xfn_0, xfn_1, xfn_2, xfn_3, x10, x01, not_true_eq_false, false_implies, implies_true, true_implies, xrm_c, xrm_s, xnl_4, xnl_32, xnl_64, xnl_256, xtn_4, xtn_32, xtn_64, xtn_256, Option.some.injEq, Sum.inl.injEq, Sum.inr.injEq, exists_eq_left', exists_eq_right, Option.toList_some, Option.toList_none, List.cons_append, List.nil_append, xE, lg_cmp_ge, lg_cmp_le, lg_cmp_gt, lg_cmp_lt, lg_cmp_eq, Nat.le_refl, Nat.zero_le, ne_eq, Nat.add_zero, dP_append_0, dP_append_1, dP_append_4, dP_append_7, dP_append_8, dP_append_9, dP_append_12, dP_append_15, dP_append_16, dP_append_19, dP_append_20, dP_append_23, dP_append_24, dP_append_25, dP_append_28, xf_1_19, xf_1_23, xf_1_26, hb, hl, hzc, xc_pr]
    rintro _ rfl
    rfl
set_option maxHeartbeats 4000000 in
set_option maxRecDepth 100000 in
theorem c_addPiece {a pt s n w lb c t : Nat} (h : rC S th ar pa qa la M) (hN : rN S pa la a pt s n w lb c t) (ho : mOK M pt s n w lb c t) (hne : ∀ k, k < M 12 0 → qa k ≠ a) : xMet l D n0 mS_addPiece 0 0 [.inr (.inr (some th)), .inr (.inr (some a))] S (fun r S' => (M 12 0 < 256 → r = some (.inl (nI (M 12 0))) ∧ rC S' th ar pa (nup qa (M 12 0) a) la (madd M pt s n w lb c t)) ∧ (¬ M 12 0 < 256 → r = some (.inl (-1)) ∧ S' = S) ∧ xFr tC S S') := by
  refine xMet.of (k := mS_addPiece) (own := 3) (ini := false) xm_S_addPiece (by decide +kernel) (by decide +kernel) (by decide) (Nat.le_of_ble_eq_true rfl) ?_
  intro V hV
  show V 0 [some (.inr (.inr (some th))), some (.inr (.inr (some a)))] [] S 0 0
  have h1 := h.th
  have h2 := (h.2.1.2.1 1 (by decide)).1
  have h3 := h.2.1.2.2.1.2.1
  have h4 := h.2.1.2.2.2.1.2.1
  have h5 := h.2.1.2.2.2.2.2.1.2.1
  have hw := h.1.1.2.2.1
  have hpt := ho.2.1
  have ha := hN.1.1
  have hap := hN.2.2.1
  have h6 : (nI (M 12 0) < Int32.ofNat 256) = (M 12 0 < 256) := propext (nI_ltI (by omega) (by decide))
  have e0 : (nI (M 12 0)).toNatClampNeg = M 12 0 := nI_clamp (by omega)
  have hP := h.2.2.2.1 pt hpt
  have hnA : a ≠ ar 1 := xne ha h3 (by decide)
  have hnP : pa pt ≠ ar 1 := xne hP.1.1 h3 (by decide)
  have hnT : th ≠ ar 1 := xne h1 h3 (by decide)
  refine xrun_ok hV [] 30 _ _ _ _ _ _ ?_
  simp (maxDischargeDepth := 60) only [xrun, xisc, ↓xstep, xget, xtgt, xcmp, xacmp, xprev, xisR, xnt, List.set, List.length, xsw, xlk, true_or, or_true, if_true, if_false, true_and, and_true, List.mem_cons, List.not_mem_nil, or_false, false_or, Bool.false_eq_true, reduceCtorEq, not_false_eq_true, forall_const, Nat.zero_add, Nat.reduceAdd, Nat.reduceSub, Int.reduceAdd, Int.reduceNeg, Int.reduceToNat, Nat.reduceEqDiff, Nat.reduceLT, Nat.reduceLeDiff, Int.reduceLE, Int.reduceLT, reduceIte, Int.cast_ofNat_Int, Int.natCast_zero, Int.natCast_one, Int.reduceAdd, eq_self, Int.reduceSub, List.length_cons, List.length_nil, xli_m1, xli_0, xli_1, xli_2, xli_3, xli_4, xli_5, xlb_8, xlb_12, xlb_31, xlb_32, xlb_64, xls_256, xls_513, xls_2048, xls_4096, xll_0, xll_1, xnr_i, xnr_0, xnr_1, xnr_ite, xft_i, xft_0, xft_1, xat_999, xat_1001, xat_1002, xat_1003, xat_2001, xat_2002, xat_2003, List.getElem?_cons_succ, List.getElem?_cons_zero, xfn_0, xfn_1, xfn_2, xfn_3, x10, x01, not_true_eq_false, false_implies, implies_true, true_implies, xrm_c, xrm_s, xnl_4, xnl_32, xnl_64, xnl_256, xtn_4, xtn_32, xtn_64, xtn_256, Option.some.injEq, Sum.inl.injEq, Sum.inr.injEq, exists_eq_left', exists_eq_right, Option.toList_some, Option.toList_none, List.cons_append, List.nil_append, xE, lg_cmp_ge, lg_cmp_le, lg_cmp_gt, lg_cmp_lt, lg_cmp_eq, Nat.le_refl, Nat.zero_le, ne_eq, Nat.add_zero, dS_addPiece_0, dS_addPiece_1, dS_addPiece_4, dS_addPiece_5, dS_addPiece_8, dS_addPiece_9, dS_addPiece_12, dS_addPiece_13, dS_addPiece_14, dS_addPiece_15, dS_addPiece_18, dS_addPiece_19, dS_addPiece_22, dS_addPiece_23, dS_addPiece_24, dS_addPiece_25, dS_addPiece_28, dS_addPiece_29, dS_addPiece_32, dS_addPiece_33, dS_addPiece_34, dS_addPiece_37, dS_addPiece_38, dS_addPiece_39, dS_addPiece_42, dS_addPiece_43, dS_addPiece_46, dS_addPiece_47, dS_addPiece_48, xf_3_186, xf_3_17, xf_3_144, h1, h2, h3, h4, h5, h6, ha, hap, e0, xc_pr, xr_pr, hnA, false_and]
  refine ⟨⟨_, rfl⟩, fun z => ?_, fun z => ?_⟩
  · refine ⟨ar 1, a, 2, _, rfl, rfl, rfl, ha, by rw [h3]; rfl, by rw [h4]; exact vp_in_nI z (by decide), ?_⟩
    have hl : xr (xpr S (ar 1) (M 12 0) (some a)) (pa pt) 8 = (mla M pt (M 12 0)).map qa := by rw [xr_pr, if_neg (fun q => hnP q.1)]; exact hP.2.2.2
    refine hV.call [] (As := [.inr (.inr (some (pa pt))), .inr (.inr (some a))]) xh_3_189 dS_addPiece_29 (c_append (S := xpr S (ar 1) (M 12 0) (some a)) (b := pa pt) (a := a) (by rw [xc_pr]; exact hP.1.1) (fun y hy => ?_)) (Or.inr ⟨_, _, rfl, fun _ => by rw [xc_pr]; exact hP.1.1⟩) (by rw [if_neg (fun q => hnA q.1)]; rfl) rfl (by decide) (by decide) (by decide) ?_
    · rw [hl] at hy
      obtain ⟨j, hj, rfl⟩ := Option.map_eq_some_iff.mp hy
      rw [xc_pr]
      exact (h.2.2.2.2.1 j (mla_lt _ _ hj).1).1.1
    rintro r S2 ⟨rfl, g1, g2⟩
    rw [hl] at g1 g2
    cases hm : mla M pt (M 12 0) with
    | none =>
      have hS2 := g1 (by rw [hm]; rfl)
      subst hS2
      refine xrun_ok hV [] 30 _ _ _ _ _ _ ?_
      simp (maxDischargeDepth := 60) only [xrun, xisc, ↓xstep, xget, xtgt, xcmp, xacmp, xprev, xisR, xnt, List.set, List.length, xsw, xlk, true_or, or_true, if_true, if_false, true_and, and_true, List.mem_cons, List.not_mem_nil, or_false, false_or, Bool.false_eq_true, reduceCtorEq, not_false_eq_true, forall_const, Nat.zero_add, Nat.reduceAdd, Nat.reduceSub, Int.reduceAdd, Int.reduceNeg, Int.reduceToNat, Nat.reduceEqDiff, Nat.reduceLT, Nat.reduceLeDiff, Int.reduceLE, Int.reduceLT, reduceIte, Int.cast_ofNat_Int, Int.natCast_zero, Int.natCast_one, Int.reduceAdd, eq_self, Int.reduceSub, List.length_cons, List.length_nil, xli_m1, xli_0, xli_1, xli_2, xli_3, xli_4, xli_5, xlb_8, xlb_12, xlb_31, xlb_32, xlb_64, xls_256, xls_513, xls_2048, xls_4096, xll_0, xll_1, xnr_i, xnr_0, xnr_1, xnr_ite, xft_i, xft_0, xft_1, xat_999, xat_1001, xat_1002, xat_1003, xat_2001, xat_2002, xat_2003, List.getElem?_cons_succ, List.getElem?_cons_zero, xfn_0, xfn_1, xfn_2, xfn_3, x10, x01, not_true_eq_false, false_implies, implies_true, true_implies, xrm_c, xrm_s, xnl_4, xnl_32, xnl_64, xnl_256, xtn_4, xtn_32, xtn_64, xtn_256, Option.some.injEq, Sum.inl.injEq, Sum.inr.injEq, exists_eq_left', exists_eq_right, Option.toList_some, Option.toList_none, List.cons_append, List.nil_append, xE, lg_cmp_ge, lg_cmp_le, lg_cmp_gt, lg_cmp_lt, lg_cmp_eq, Nat.le_refl, Nat.zero_le, ne_eq, Nat.add_zero, dS_addPiece_0, dS_addPiece_1, dS_addPiece_4, dS_addPiece_5, dS_addPiece_8, dS_addPiece_9, dS_addPiece_12, dS_addPiece_13, dS_addPiece_14, dS_addPiece_15, dS_addPiece_18, dS_addPiece_19, dS_addPiece_22, dS_addPiece_23, dS_addPiece_24, dS_addPiece_25, dS_addPiece_28, dS_addPiece_29, dS_addPiece_32, dS_addPiece_33, dS_addPiece_34, dS_addPiece_37, dS_addPiece_38, dS_addPiece_39, dS_addPiece_42, dS_addPiece_43, dS_addPiece_46, dS_addPiece_47, dS_addPiece_48, xf_3_186, xf_3_17, xf_3_144, h1, h5, xc_pr, xi_pr, xc_pi, xi_pi]
      refine ⟨fun _ => ⟨by rw [nI_1, nI_pred], ?_⟩, fun q => absurd z q, ?_⟩
      · refine rC_add h z hN ho hne rfl (fun b => ⟨rfl, rfl⟩) (fun b k q => ?_) ?_ (fun b k q1 q2 q3 => ?_) ?_ ?_ ?_ (fun y hy => by rw [hm] at hy; cases hy)
        · rw [xi_pi, if_neg (fun y => by rcases q with q | q; exact q y.1; exact q y.2)]; rfl
        · rw [xi_pi, if_pos ⟨rfl, rfl⟩, nI_1]
        · rw [xr_pi, xr_pr, if_neg (fun y => q2 ⟨y.1, Or.inr y.2⟩), xr_pr, if_neg (fun y => q2 ⟨y.1, Or.inl y.2⟩), xr_pr, if_neg q1]
        · rw [xr_pi, xr_pr, if_neg (fun y => hnP y.1.symm), xr_pr, if_neg (fun y => hnP y.1.symm), xr_pr, if_pos ⟨rfl, rfl⟩]
        · rw [xr_pi, xr_pr, if_pos ⟨rfl, rfl⟩]
        · rw [hm, if_pos rfl, xr_pi, xr_pr, if_neg (by simp), xr_pr, if_pos ⟨rfl, rfl⟩]
      · exact (((xFr.pr (by rw [h3]; rfl)).tr (xFr.pr (by rw [xc_pr, hP.1.1]; rfl))).tr (xFr.pr (by rw [xc_pr, xc_pr, hP.1.1]; rfl))).tr (xFr.pi (by rw [xc_pr, xc_pr, xc_pr, h1]; rfl))
    | some j =>
      have hS2 := g2 (qa j) (by rw [hm]; rfl)
      subst hS2
      have hj := (mla_lt _ _ hm).1
      have hjc := (h.2.2.2.2.1 j hj).1.1
      have hn1 : qa j ≠ ar 1 := xne hjc h3 (by decide)
      have hn2 : qa j ≠ pa pt := xne hjc hP.1.1 (by decide)
      refine xrun_ok hV [] 30 _ _ _ _ _ _ ?_
      simp (maxDischargeDepth := 60) only [xrun, xisc, ↓xstep, xget, xtgt, xcmp, xacmp, xprev, xisR, xnt, List.set, List.length, xsw, xlk, true_or, or_true, if_true, if_false, true_and, and_true, List.mem_cons, List.not_mem_nil, or_false, false_or, Bool.false_eq_true, reduceCtorEq, not_false_eq_true, forall_const, Nat.zero_add, Nat.reduceAdd, Nat.reduceSub, Int.reduceAdd, Int.reduceNeg, Int.reduceToNat, Nat.reduceEqDiff, Nat.reduceLT, Nat.reduceLeDiff, Int.reduceLE, Int.reduceLT, reduceIte, Int.cast_ofNat_Int, Int.natCast_zero, Int.natCast_one, Int.reduceAdd, eq_self, Int.reduceSub, List.length_cons, List.length_nil, xli_m1, xli_0, xli_1, xli_2, xli_3, xli_4, xli_5, xlb_8, xlb_12, xlb_31, xlb_32, xlb_64, xls_256, xls_513, xls_2048, xls_4096, xll_0, xll_1, xnr_i, xnr_0, xnr_1, xnr_ite, xft_i, xft_0, xft_1, xat_999, xat_1001, xat_1002, xat_1003, xat_2001, xat_2002, xat_2003, List.getElem?_cons_succ, List.getElem?_cons_zero, xfn_0, xfn_1, xfn_2, xfn_3, x10, x01, not_true_eq_false, false_implies, implies_true, true_implies, xrm_c, xrm_s, xnl_4, xnl_32, xnl_64, xnl_256, xtn_4, xtn_32, xtn_64, xtn_256, Option.some.injEq, Sum.inl.injEq, Sum.inr.injEq, exists_eq_left', exists_eq_right, Option.toList_some, Option.toList_none, List.cons_append, List.nil_append, xE, lg_cmp_ge, lg_cmp_le, lg_cmp_gt, lg_cmp_lt, lg_cmp_eq, Nat.le_refl, Nat.zero_le, ne_eq, Nat.add_zero, dS_addPiece_0, dS_addPiece_1, dS_addPiece_4, dS_addPiece_5, dS_addPiece_8, dS_addPiece_9, dS_addPiece_12, dS_addPiece_13, dS_addPiece_14, dS_addPiece_15, dS_addPiece_18, dS_addPiece_19, dS_addPiece_22, dS_addPiece_23, dS_addPiece_24, dS_addPiece_25, dS_addPiece_28, dS_addPiece_29, dS_addPiece_32, dS_addPiece_33, dS_addPiece_34, dS_addPiece_37, dS_addPiece_38, dS_addPiece_39, dS_addPiece_42, dS_addPiece_43, dS_addPiece_46, dS_addPiece_47, dS_addPiece_48, xf_3_186, xf_3_17, xf_3_144, h1, h5, xc_pr, xi_pr, xc_pi, xi_pi]
      refine ⟨fun _ => ⟨by rw [nI_1, nI_pred], ?_⟩, fun q => absurd z q, ?_⟩
      · refine rC_add h z hN ho hne rfl (fun b => ⟨rfl, rfl⟩) (fun b k q => ?_) ?_ (fun b k q1 q2 q3 => ?_) ?_ ?_ ?_ (fun y hy => ?_)
        · rw [xi_pi, if_neg (fun y => by rcases q with q | q; exact q y.1; exact q y.2)]; rfl
        · rw [xi_pi, if_pos ⟨rfl, rfl⟩, nI_1]
        · rw [xr_pi, xr_pr, if_neg (fun y => q2 ⟨y.1, Or.inr y.2⟩), xr_pr, if_neg (q3 j hm), xr_pr, if_neg q1]
        · rw [xr_pi, xr_pr, if_neg (fun y => hnP y.1.symm), xr_pr, if_neg (fun y => hn1 y.1.symm), xr_pr, if_pos ⟨rfl, rfl⟩]
        · rw [xr_pi, xr_pr, if_pos ⟨rfl, rfl⟩]
        · rw [hm, if_neg (by simp), xr_pi, xr_pr, if_neg (by simp), xr_pr, if_neg (fun y => hn2 y.1.symm), xr_pr, if_neg (fun y => hnP y.1)]
        · rw [hm] at hy
          cases hy
          rw [xr_pi, xr_pr, if_neg (fun y => hn2 y.1), xr_pr, if_pos ⟨rfl, rfl⟩]
      · exact (((xFr.pr (by rw [h3]; rfl)).tr (xFr.pr (by rw [xc_pr, hjc]; rfl))).tr (xFr.pr (by rw [xc_pr, xc_pr, hP.1.1]; rfl))).tr (xFr.pi (by rw [xc_pr, xc_pr, xc_pr, h1]; rfl))
  · exact ⟨fun q => absurd q z, xFr.rf _ _⟩
end PIECE
