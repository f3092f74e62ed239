/-! HOW THE PICTURE OF THE CLASS IS KEPT -/
theorem xne {S : xS} {a b t u : Nat} (ha : xc S a = t) (hb : xc S b = u) (h : t ≠ u) : a ≠ b := by
  rintro rfl
  exact h (ha.symm.trans hb)
theorem rP.pi {S : xS} {pa qa : Nat → Nat} {M : mT} {p a k : Nat} {x : Int32} (h : rP S pa qa M p) (hne : pa p ≠ a) : rP (xpi S a k x) pa qa M p := by
  simpa only [rP, xc_pi, xn_pi, xr_pi, xi_pi, hne, false_and, if_false] using h
theorem rP.pr {S : xS} {pa qa : Nat → Nat} {M : mT} {p a k : Nat} {x : Option Nat} (h : rP S pa qa M p) (hne : pa p ≠ a) : rP (xpr S a k x) pa qa M p := by
  simpa only [rP, xc_pr, xn_pr, xi_pr, xr_pr, hne, false_and, if_false] using h
theorem rP.mk {S : xS} {pa qa : Nat → Nat} {M : mT} {p t n : Nat} (h : rP S pa qa M p) : rP (xmk S t n) pa qa M p := by
  have hne : pa p ≠ xn S := Nat.ne_of_lt h.1.2
  have hlt : pa p < xn S + 1 := Nat.lt_succ_of_lt h.1.2
  obtain ⟨⟨h1, -⟩, h2⟩ := h
  exact ⟨⟨by rw [xc_mk, if_neg hne]; exact h1, hlt⟩, by simpa only [xi_mk, xr_mk, hne, if_false] using h2⟩
theorem rQ.pi {S : xS} {pa qa la : Nat → Nat} {M : mT} {p a k : Nat} {x : Int32} (h : rQ S pa qa la M p) (hne : qa p ≠ a) : rQ (xpi S a k x) pa qa la M p := by
  simpa only [rQ, xc_pi, xn_pi, xr_pi, xi_pi, hne, false_and, if_false] using h
theorem rQ.pr {S : xS} {pa qa la : Nat → Nat} {M : mT} {p a k : Nat} {x : Option Nat} (h : rQ S pa qa la M p) (hne : qa p ≠ a) : rQ (xpr S a k x) pa qa la M p := by
  simpa only [rQ, xc_pr, xn_pr, xi_pr, xr_pr, hne, false_and, if_false] using h
theorem rQ.mk {S : xS} {pa qa la : Nat → Nat} {M : mT} {p t n : Nat} (h : rQ S pa qa la M p) : rQ (xmk S t n) pa qa la M p := by
  have hne : qa p ≠ xn S := Nat.ne_of_lt h.1.2
  have hlt : qa p < xn S + 1 := Nat.lt_succ_of_lt h.1.2
  obtain ⟨⟨h1, -⟩, h2⟩ := h
  exact ⟨⟨by rw [xc_mk, if_neg hne]; exact h1, hlt⟩, by simpa only [xi_mk, xr_mk, hne, if_false] using h2⟩
theorem rB.pi {S : xS} {qa la : Nat → Nat} {M : mT} {p a k : Nat} {x : Int32} (h : rB S qa la M p) (hne : la p ≠ a) : rB (xpi S a k x) qa la M p := by
  simpa only [rB, xc_pi, xn_pi, xr_pi, xi_pi, hne, false_and, if_false] using h
theorem rB.pr {S : xS} {qa la : Nat → Nat} {M : mT} {p a k : Nat} {x : Option Nat} (h : rB S qa la M p) (hne : la p ≠ a) : rB (xpr S a k x) qa la M p := by
  simpa only [rB, xc_pr, xn_pr, xi_pr, xr_pr, hne, false_and, if_false] using h
theorem rB.mk {S : xS} {qa la : Nat → Nat} {M : mT} {p t n : Nat} (h : rB S qa la M p) : rB (xmk S t n) qa la M p := by
  have hne : la p ≠ xn S := Nat.ne_of_lt h.1.2
  have hlt : la p < xn S + 1 := Nat.lt_succ_of_lt h.1.2
  obtain ⟨⟨h1, -⟩, h2⟩ := h
  exact ⟨⟨by rw [xc_mk, if_neg hne]; exact h1, hlt⟩, by simpa only [xi_mk, xr_mk, hne, if_false] using h2⟩
-- the models agree where it counts
theorem mnx_congr {M M' : mT} {p : Nat} : ∀ (d k : Nat), (∀ j, j < k + d → M' 14 j = M 14 j) → mnx M' p k d = mnx M p k d
  | 0, k, _ => rfl
  | d + 1, k, h => by
    rw [mnx, mnx, h k (by omega), mnx_congr d (k + 1) (fun j hj => h j (by omega))]
theorem mla_congr {M M' : mT} {p : Nat} : ∀ (k : Nat), (∀ j, j < k → M' 14 j = M 14 j) → mla M' p k = mla M p k
  | 0, _ => rfl
  | k + 1, h => by
    rw [mla, mla, h k (by omega), mla_congr k (fun j hj => h j (by omega))]
theorem mnx_lt {M : mT} {p : Nat} : ∀ (d k j : Nat), mnx M p k d = some j → k ≤ j ∧ j < k + d ∧ M 14 j = p
  | 0, k, j, h => by cases h
  | d + 1, k, j, h => by
    rw [mnx] at h
    split at h
    · cases h; rename_i e; exact ⟨Nat.le_refl _, by omega, e⟩
    · obtain ⟨h1, h2, h3⟩ := mnx_lt d (k + 1) j h
      exact ⟨by omega, by omega, h3⟩
theorem mla_lt {M : mT} {p : Nat} : ∀ (k j : Nat), mla M p k = some j → j < k ∧ M 14 j = p
  | 0, j, h => by cases h
  | k + 1, j, h => by
    rw [mla] at h
    split at h
    · cases h; rename_i e; exact ⟨by omega, e⟩
    · obtain ⟨h1, h2⟩ := mla_lt k j h
      exact ⟨by omega, h2⟩
theorem rP.to {S : xS} {pa qa pa' qa' : Nat → Nat} {M M' : mT} {p : Nat} (h : rP S pa qa M p) (hp : pa' p = pa p) (hq : ∀ k, k < M 12 0 → qa' k = qa k) (h12 : M' 12 0 = M 12 0) (h14 : ∀ k, k < M 12 0 → M' 14 k = M 14 k) (h5 : M' 5 p = M 5 p ∧ M' 6 p = M 6 p ∧ M' 7 p = M 7 p ∧ M' 8 p = M 8 p) : rP S pa' qa' M' p := by
  obtain ⟨e5, e6, e7, e8⟩ := h5
  have hm : ∀ o : Option Nat, (∀ j, o = some j → j < M 12 0) → o.map qa' = o.map qa := by
    intro o ho
    cases o with
    | none => rfl
    | some j => simp [hq j (ho j rfl)]
  have e1 : (mfirst M' p).map qa' = (mfirst M p).map qa := by
    unfold mfirst
    rw [h12, mnx_congr (M := M) _ _ (fun j hj => h14 j (by omega))]
    exact hm _ (fun j hj => by have := mnx_lt _ _ _ hj; omega)
  have e2 : (mla M' p (M' 12 0)).map qa' = (mla M p (M 12 0)).map qa := by
    rw [h12, mla_congr (M := M) _ (fun j hj => h14 j hj)]
    exact hm _ (fun j hj => (mla_lt _ _ hj).1)
  unfold rP
  rw [hp, e1, e2, e5, e6, e7, e8]
  exact h
theorem rQ.to {S : xS} {pa qa la pa' qa' la' : Nat → Nat} {M M' : mT} {k : Nat} (h : rQ S pa qa la M k) (hk : k < M 12 0) (hpa : pa' (M 14 k) = pa (M 14 k)) (hq : ∀ j, j < M 12 0 → qa' j = qa j) (hla : maim M k = true → la' (M 18 k) = la (M 18 k)) (h12 : M' 12 0 = M 12 0) (h14 : ∀ j, j < M 12 0 → M' 14 j = M 14 j)
    (hf : M' 13 k = M 13 k ∧ (M 13 k ≠ 4 → M' 15 k = M 15 k) ∧ M' 16 k = M 16 k ∧ M' 17 k = M 17 k ∧ M' 18 k = M 18 k ∧ M' 19 k = M 19 k ∧ M' 20 k = M 20 k ∧ M' 21 k = M 21 k) : rQ S pa' qa' la' M' k := by
  obtain ⟨e13, e15, e16, e17, e18, e19, e20, e21⟩ := hf
  have ea : maim M' k = maim M k := by simp [maim, e13]
  have e1 : (mnext M' k).map qa' = (mnext M k).map qa := by
    unfold mnext
    rw [h12, h14 k hk, mnx_congr (M := M) _ _ (fun j hj => h14 j (by omega))]
    cases ho : mnx M (M 14 k) (k + 1) (M 12 0 - (k + 1)) with
    | none => rfl
    | some j =>
      have := mnx_lt _ _ _ ho
      simp [hq j (by omega)]
  have e2 : (if maim M k = true then some (la' (M 18 k)) else none) = (if maim M k = true then some (la (M 18 k)) else none) := by
    by_cases z : maim M k = true
    · rw [if_pos z, if_pos z, hla z]
    · rw [if_neg z, if_neg z]
  obtain ⟨h1, h2, h3, h4, h5⟩ := h
  unfold rQ
  rw [hq k hk, e1, e13, h14 k hk, hpa, ea, e16, e17, e18, e19, e20, e21, e2]
  exact ⟨h1, h2, fun z => by rw [e15 z]; exact h3 z, h4, h5⟩
theorem rB.to {S : xS} {qa la qa' la' : Nat → Nat} {M M' : mT} {j : Nat} (h : rB S qa la M j) (hla : la' j = la j) (h26 : M' 26 j = M 26 j) (h27 : M' 27 j = M 27 j) (hq : M 26 j ≠ 0 → qa' (M 26 j - 1) = qa (M 26 j - 1)) : rB S qa' la' M' j := by
  have e : (if M 26 j = 0 then none else some (qa' (M 26 j - 1))) = (if M 26 j = 0 then none else some (qa (M 26 j - 1))) := by
    by_cases z : M 26 j = 0
    · rw [if_pos z, if_pos z]
    · rw [if_neg z, if_neg z, hq z]
  unfold rB
  rw [hla, h26, h27, e]
  exact h
theorem rC_init (S : xS) {a : Nat} (h : xc S a = 4) (hl : a < xn S) (hz : ∀ k, xi S a k = 0) (pa qa la : Nat → Nat) : rC (mkA S a [(0, 2001, 32), (1, 2002, 256), (2, 2003, 64), (3, 1001, 4), (4, 1001, 4), (5, 1001, 4)]) a (fun f => xn S + f) pa qa la (fun _ _ => 0) ∧ xFr tC S (mkA S a [(0, 2001, 32), (1, 2002, 256), (2, 2003, 64), (3, 1001, 4), (4, 1001, 4), (5, 1001, 4)]) := by
  generalize hLe : [(0, 2001, 32), (1, 2002, 256), (2, 2003, 64), (3, 1001, 4), (4, 1001, 4), (5, 1001, 4)] = L
  have hn := mkA_n L S a
  obtain ⟨o1, o2, o3, -⟩ := mkA_old L S a a hl
  have ht := (mkA_this L S a hl).1
  have hnew := mkA_new L S a hl
  have hlen : L.length = 6 := by rw [← hLe]; rfl
  have q0 := hnew 0 (0, 2001, 32) (by rw [← hLe]; rfl)
  have q1 := hnew 1 (1, 2002, 256) (by rw [← hLe]; rfl)
  have q2 := hnew 2 (2, 2003, 64) (by rw [← hLe]; rfl)
  have q3 := hnew 3 (3, 1001, 4) (by rw [← hLe]; rfl)
  have q4 := hnew 4 (4, 1001, 4) (by rw [← hLe]; rfl)
  have q5 := hnew 5 (5, 1001, 4) (by rw [← hLe]; rfl)
  have hr : ∀ f, f < 6 → xr (mkA S a L) a f = some (xn S + f) := by
    intro f hf
    have hu : ∀ (i : Nat) (q : Nat × Nat × Nat), L[i]? = some q → q.1 = i := by
      intro i q hq
      have : i < 6 := by rw [← hlen]; exact (List.getElem?_eq_some_iff.mp hq).1
      rw [← hLe] at hq
      rcases (show i = 0 ∨ i = 1 ∨ i = 2 ∨ i = 3 ∨ i = 4 ∨ i = 5 by omega) with rfl | rfl | rfl | rfl | rfl | rfl <;> (simp at hq; rw [← hq])
    have hf' : f < L.length := by omega
    have e := hu f L[f] (List.getElem?_eq_getElem hf')
    have := ht f L[f] (List.getElem?_eq_getElem hf') (fun j q' hj he => by rw [hu j q' hj, e] at he; exact he)
    rw [e] at this
    exact this
  refine ⟨⟨?_, ?_, ?_, ?_, ?_, ?_, ?_, ?_, ?_⟩, ?_⟩
  · refine ⟨⟨by decide, by decide, by decide, by decide⟩, fun o _ => Nat.zero_le _, fun p hp => absurd hp (by simp), fun p hp => absurd hp (by simp), fun p hp => absurd hp (by simp), fun p hp => absurd hp (by simp), fun p hp => absurd hp (by simp), fun p hp => absurd hp (by simp)⟩
  · refine ⟨⟨o1.trans h, by omega⟩, fun f hf => ⟨hr f hf, by show xn S + f < _; omega⟩, ⟨q0.1, q1.1, q2.1, q3.1, q4.1, q5.1⟩, ⟨q0.2.1, q1.2.1, q2.2.1, q3.2.1, q4.2.1, q5.2.1⟩, ⟨by show xn S + 3 ≠ xn S + 4; omega, by show xn S + 3 ≠ xn S + 5; omega, by show xn S + 4 ≠ xn S + 5; omega⟩, ⟨?_, ?_, ?_, ?_⟩, fun o _ => q3.2.2.1 o⟩ <;> (rw [o3, hz]; rfl)
  · exact ⟨fun p _ => by rw [if_neg (by simp)]; exact q0.2.2.2 p, fun p _ => by rw [if_neg (by simp)]; exact q1.2.2.2 p, fun p _ => by rw [if_neg (by simp)]; exact q2.2.2.2 p⟩
  · exact fun p hp => absurd hp (by simp)
  · exact fun p hp => absurd hp (by simp)
  · exact fun p hp => absurd hp (by simp)
  · exact fun i j hi => absurd hi (by simp)
  · exact fun i j hi => absurd hi (by simp)
  · exact fun i j hi => absurd hi (by simp)
  · refine ⟨by omega, fun b hb => ?_⟩
    obtain ⟨b1, b2, b3, b4⟩ := mkA_old L S a b hb
    refine ⟨b1, b2, fun ht k => ⟨b3 k, b4 (fun e => ?_) k⟩⟩
    rw [e, h] at ht
    cases ht
