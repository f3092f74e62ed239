/-! THE REFERENCE holds the model -/
def vOK (M : mT) (f i : Nat) (x : Int32) : Prop := match f with
  | 0 => x = nI (M 0 0)
  | 1 => i < 4 → x = nI (2 ^ M 1 i)
  | 4 => x = nI (M 4 0)
  | 5 => i < M 4 0 → x = nI (M 5 i)
  | 6 => i < M 4 0 → x = nI (2 ^ M 6 i)
  | 7 => x = nI (if i < M 4 0 then M 7 i else 0)
  | 8 => x = nI (if i < M 4 0 then M 8 i else 0)
  | 12 => x = nI (M 12 0)
  | 13 => i < M 12 0 → x = nI (M 13 i)
  | 14 => i < M 12 0 → x = nI (M 14 i)
  | 15 => i < M 12 0 → M 13 i ≠ 4 → x = nI (M 15 i)
  | 16 => i < M 12 0 → x = nI (M 16 i)
  | 17 => x = nI (if i < M 12 0 then M 17 i else 0)
  | 18 => x = nI (if i < M 12 0 then M 18 i else 0)
  | 19 => x = nI (if i < M 12 0 then M 19 i else 0)
  | 20 => x = nI (if i < M 12 0 then M 20 i else 0)
  | 21 => x = nI (if i < M 12 0 then M 21 i else 0)
  | 25 => x = nI (M 25 0)
  | 26 => i < M 25 0 → x = nI (M 26 i) - 1
  | 27 => x = nI (if i < M 25 0 then M 27 i else 0)
  | _ => True
def rS (S : xS) (mo : Nat) (A : Nat → Nat) : Prop :=
  (xc S mo = 5 ∧ mo < xn S) ∧ (∀ f, mar f = true → xr S mo f = some (A f) ∧ A f < xn S ∧ xc S (A f) = mtg f ∧ xl S (A f) = ml f) ∧ (∀ f g, mar f = true → mar g = true → A f = A g → f = g)
def xW (S : xS) (mo : Nat) (A : Nat → Nat) (f i : Nat) : Int32 := if mar f = true then xi S (A f) i else xi S mo f
def rF (S : xS) (mo : Nat) (A : Nat → Nat) (M : mT) : Prop := mWF M ∧ rS S mo A ∧ ∀ f i, vOK M f i (xW S mo A f i)
def rFx (S : xS) (mo : Nat) (M : mT) : Prop := ∃ A, rF S mo A M
def oN (S : xS) (mo : Nat) (o : Int32 × mT) : Option xVal → xS → Prop := fun r S' => r = some (.inl o.1) ∧ rFx S' mo o.2 ∧ xFr tM S S'
-- of a call that changes no more than what is reckoned
def qN (S : xS) (mo : Nat) (A : Nat → Nat) (M : mT) (v : xVal) : Option xVal → xS → Prop := fun r S' => r = some v ∧ rF S' mo A M ∧ xFr tM S S'
theorem mtg_T (f : Nat) : tM (mtg f) = true := by unfold mtg; split <;> rfl
theorem mtg_n5 (f : Nat) : mtg f ≠ 5 := by unfold mtg; split <;> decide
theorem rS.pi {S : xS} {mo : Nat} {A : Nat → Nat} (h : rS S mo A) (a k : Nat) (x : Int32) : rS (xpi S a k x) mo A := h
theorem rS.ne {S : xS} {mo : Nat} {A : Nat → Nat} (h : rS S mo A) {f : Nat} (hf : mar f = true) : A f ≠ mo := by
  intro e
  have h1 := (h.2.1 f hf).2.2.1
  rw [e, h.1.1] at h1
  exact mtg_n5 f h1.symm
theorem xW_a {S : xS} {mo : Nat} {A : Nat → Nat} (h : rS S mo A) {f : Nat} (hf : mar f = true) (i : Nat) (x : Int32) (g j : Nat) : xW (xpi S (A f) i x) mo A g j = if g = f ∧ j = i then x else xW S mo A g j := by
  unfold xW
  by_cases hg : mar g = true
  · rw [if_pos hg, if_pos hg, xi_pi]
    by_cases e : g = f ∧ j = i
    · rw [if_pos e, if_pos ⟨by rw [e.1], e.2⟩]
    · rw [if_neg e, if_neg (fun z => e ⟨h.2.2 g f hg hf z.1, z.2⟩)]
  · rw [if_neg hg, if_neg hg, xi_pi, if_neg (fun z => h.ne hf z.1.symm), if_neg]
    rintro ⟨rfl, -⟩
    exact hg hf
theorem xW_s {S : xS} {mo : Nat} {A : Nat → Nat} (h : rS S mo A) {f : Nat} (hf : mar f = false) (x : Int32) (g j : Nat) : xW (xpi S mo f x) mo A g j = if g = f then x else xW S mo A g j := by
  unfold xW
  by_cases hg : mar g = true
  · rw [if_pos hg, if_pos hg, xi_pi, if_neg (fun z => h.ne hg z.1), if_neg]
    rintro rfl
    rw [hf] at hg
    cases hg
  · rw [if_neg hg, if_neg hg, xi_pi]
    by_cases e : g = f
    · rw [if_pos e, if_pos ⟨rfl, e⟩]
    · rw [if_neg e, if_neg (fun z => e z.2)]
theorem xFr.ar {S : xS} {mo : Nat} {A : Nat → Nat} (h : rS S mo A) {f : Nat} (hf : mar f = true) (i : Nat) (x : Int32) : xFr tM S (xpi S (A f) i x) := xFr.pi (by rw [(h.2.1 f hf).2.2.1]; exact mtg_T f)
theorem xFr.sc {S : xS} {mo : Nat} {A : Nat → Nat} (h : rS S mo A) (f : Nat) (x : Int32) : xFr tM S (xpi S mo f x) := xFr.pi (by rw [h.1.1]; rfl)
theorem vOK_to {M M' : mT} {f i : Nat} {x : Int32} (h : vOK M f i x) (h4 : 5 ≤ f ∧ f ≤ 8 → M' 4 0 = M 4 0) (h12 : 13 ≤ f ∧ f ≤ 21 → M' 12 0 = M 12 0) (h25 : 26 ≤ f ∧ f ≤ 27 → M' 25 0 = M 25 0) (h13 : f = 15 → M' 13 i = M 13 i) (hs : f = 0 ∨ f = 4 ∨ f = 12 ∨ f = 25 → M' f 0 = M f 0) (hv : M' f i = M f i) : vOK M' f i x := by
  unfold vOK at h ⊢
  split at h <;> simp_all
theorem rF.wr {S : xS} {mo : Nat} {A : Nat → Nat} {M M' : mT} {f i : Nat} {x : Int32} (h : rF S mo A M) (hf : mar f = true) (hM : mWF M') (hx : vOK M' f i x) (ho : ∀ g j y, ¬ (g = f ∧ j = i) → vOK M g j y → vOK M' g j y) : rF (xpi S (A f) i x) mo A M' := by
  refine ⟨hM, h.2.1, fun g j => ?_⟩
  rw [xW_a h.2.1 hf]
  split
  · rename_i z; rw [z.1, z.2]; exact hx
  · rename_i z; exact ho g j _ z (h.2.2 g j)
theorem rF.ws {S : xS} {mo : Nat} {A : Nat → Nat} {M M' : mT} {f : Nat} {x : Int32} (h : rF S mo A M) (hf : mar f = false) (hM : mWF M') (hx : ∀ i, vOK M' f i x) (ho : ∀ g j y, g ≠ f → vOK M g j y → vOK M' g j y) : rF (xpi S mo f x) mo A M' := by
  refine ⟨hM, h.2.1, fun g j => ?_⟩
  rw [xW_s h.2.1 hf]
  split
  · rename_i z; rw [z]; exact hx j
  · rename_i z; exact ho g j _ z (h.2.2 g j)
-- what is written over, where the model says nothing
theorem rF.free {S : xS} {mo : Nat} {A : Nat → Nat} {M : mT} {f i : Nat} {x : Int32} (h : rF S mo A M) (hf : mar f = true) (hx : vOK M f i x) : rF (xpi S (A f) i x) mo A M := h.wr hf h.1 hx (fun _ _ _ _ z => z)
theorem rF.ar {S : xS} {mo : Nat} {A : Nat → Nat} {M : mT} (h : rF S mo A M) (f : Nat) (hf : mar f = true) : xr S mo f = some (A f) := (h.2.1.2.1 f hf).1
theorem rF.tg {S : xS} {mo : Nat} {A : Nat → Nat} {M : mT} (h : rF S mo A M) (f : Nat) (hf : mar f = true) : xc S (A f) = mtg f := (h.2.1.2.1 f hf).2.2.1
theorem rF.ln {S : xS} {mo : Nat} {A : Nat → Nat} {M : mT} (h : rF S mo A M) (f : Nat) (hf : mar f = true) : xl S (A f) = ml f := (h.2.1.2.1 f hf).2.2.2
theorem rF.mo {S : xS} {o : Nat} {A : Nat → Nat} {M : mT} (h : rF S o A M) : xc S o = 5 := h.2.1.1.1
theorem rF.v {S : xS} {mo : Nat} {A : Nat → Nat} {M : mT} (h : rF S mo A M) (f i : Nat) : vOK M f i (xW S mo A f i) := h.2.2 f i
theorem rF.s4 {S : xS} {mo : Nat} {A : Nat → Nat} {M : mT} (h : rF S mo A M) : xi S mo 4 = nI (M 4 0) := h.v 4 0
theorem rF.s12 {S : xS} {mo : Nat} {A : Nat → Nat} {M : mT} (h : rF S mo A M) : xi S mo 12 = nI (M 12 0) := h.v 12 0
theorem rF.s25 {S : xS} {mo : Nat} {A : Nat → Nat} {M : mT} (h : rF S mo A M) : xi S mo 25 = nI (M 25 0) := h.v 25 0
theorem rF.s0 {S : xS} {mo : Nat} {A : Nat → Nat} {M : mT} (h : rF S mo A M) : xi S mo 0 = nI (M 0 0) := h.v 0 0
theorem rF.v8 {S : xS} {mo : Nat} {A : Nat → Nat} {M : mT} (h : rF S mo A M) {p : Nat} (hp : p < M 4 0) : xi S (A 8) p = nI (M 8 p) := by
  have := h.v 8 p
  simpa [vOK, xW, mar, hp] using this
theorem rF.v7 {S : xS} {mo : Nat} {A : Nat → Nat} {M : mT} (h : rF S mo A M) {p : Nat} (hp : p < M 4 0) : xi S (A 7) p = nI (M 7 p) := by
  have := h.v 7 p
  simpa [vOK, xW, mar, hp] using this
theorem rF.v5 {S : xS} {mo : Nat} {A : Nat → Nat} {M : mT} (h : rF S mo A M) {p : Nat} (hp : p < M 4 0) : xi S (A 5) p = nI (M 5 p) := h.v 5 p hp
theorem rF.v6 {S : xS} {mo : Nat} {A : Nat → Nat} {M : mT} (h : rF S mo A M) {p : Nat} (hp : p < M 4 0) : xi S (A 6) p = nI (2 ^ M 6 p) := h.v 6 p hp
theorem rF.v1 {S : xS} {mo : Nat} {A : Nat → Nat} {M : mT} (h : rF S mo A M) {p : Nat} (hp : p < 4) : xi S (A 1) p = nI (2 ^ M 1 p) := h.v 1 p hp
theorem rF.v13 {S : xS} {mo : Nat} {A : Nat → Nat} {M : mT} (h : rF S mo A M) {k : Nat} (hk : k < M 12 0) : xi S (A 13) k = nI (M 13 k) := h.v 13 k hk
theorem rF.v14 {S : xS} {mo : Nat} {A : Nat → Nat} {M : mT} (h : rF S mo A M) {k : Nat} (hk : k < M 12 0) : xi S (A 14) k = nI (M 14 k) := h.v 14 k hk
theorem rF.v15 {S : xS} {mo : Nat} {A : Nat → Nat} {M : mT} (h : rF S mo A M) {k : Nat} (hk : k < M 12 0) (h4 : M 13 k ≠ 4) : xi S (A 15) k = nI (M 15 k) := h.v 15 k hk h4
theorem rF.v16 {S : xS} {mo : Nat} {A : Nat → Nat} {M : mT} (h : rF S mo A M) {k : Nat} (hk : k < M 12 0) : xi S (A 16) k = nI (M 16 k) := h.v 16 k hk
theorem rF.v17 {S : xS} {mo : Nat} {A : Nat → Nat} {M : mT} (h : rF S mo A M) {k : Nat} (hk : k < M 12 0) : xi S (A 17) k = nI (M 17 k) := by
  have := h.v 17 k
  simpa [vOK, xW, mar, hk] using this
theorem rF.v18 {S : xS} {mo : Nat} {A : Nat → Nat} {M : mT} (h : rF S mo A M) {k : Nat} (hk : k < M 12 0) : xi S (A 18) k = nI (M 18 k) := by
  have := h.v 18 k
  simpa [vOK, xW, mar, hk] using this
theorem rF.v19 {S : xS} {mo : Nat} {A : Nat → Nat} {M : mT} (h : rF S mo A M) {k : Nat} (hk : k < M 12 0) : xi S (A 19) k = nI (M 19 k) := by
  have := h.v 19 k
  simpa [vOK, xW, mar, hk] using this
theorem rF.v20 {S : xS} {mo : Nat} {A : Nat → Nat} {M : mT} (h : rF S mo A M) {k : Nat} (hk : k < M 12 0) : xi S (A 20) k = nI (M 20 k) := by
  have := h.v 20 k
  simpa [vOK, xW, mar, hk] using this
theorem rF.v21 {S : xS} {mo : Nat} {A : Nat → Nat} {M : mT} (h : rF S mo A M) {k : Nat} (hk : k < M 12 0) : xi S (A 21) k = nI (M 21 k) := by
  have := h.v 21 k
  simpa [vOK, xW, mar, hk] using this
theorem rF.v26 {S : xS} {mo : Nat} {A : Nat → Nat} {M : mT} (h : rF S mo A M) {k : Nat} (hk : k < M 25 0) : xi S (A 26) k = nI (M 26 k) - 1 := h.v 26 k hk
theorem rF.v27 {S : xS} {mo : Nat} {A : Nat → Nat} {M : mT} (h : rF S mo A M) {k : Nat} (hk : k < M 25 0) : xi S (A 27) k = nI (M 27 k) := by
  have := h.v 27 k
  simpa [vOK, xW, mar, hk] using this
theorem xI_lt_z (x : Int32) : (x < 0) = (x.toInt < 0) := by rw [xI32lt]; rfl
section REF
variable {l : Launch} {D : va_G} {n0 : Nat}
set_option maxHeartbeats 4000000 in
set_option maxRecDepth 100000 in
theorem d_within (S : xS) (x lo hi : Int32) : xMet l D n0 mM_within 0 0 [.inl x, .inl lo, .inl hi] S (fun r S' => r = some (.inl (if lo.toInt ≤ x.toInt ∧ x.toInt ≤ hi.toInt then 1 else 0)) ∧ S' = S) := by
  refine xMet.of (k := mM_within) (own := 4) (ini := false) xm_M_within (by decide +kernel) (by decide +kernel) (by decide) (Nat.le_of_ble_eq_true rfl) ?_
  intro V hV
  show V 0 [some (.inl x), some (.inl lo), some (.inl hi)] [] S 0 0
  refine xrun_ok hV [] 20 _ _ _ _ _ _ ?_
  simp (maxDischargeDepth := 60) only [xrun, xisc, ↓xstep, xget, xtgt, xcmp, xacmp, xprev, xisR, xnt, List.set, List.length, xsw, xlk, true_or, or_true, if_true, if_false, true_and, and_true, List.mem_cons, List.not_mem_nil, or_false, false_or, Bool.false_eq_true, reduceCtorEq, not_false_eq_true, forall_const, Nat.zero_add, Nat.reduceAdd, Nat.reduceSub, Int.reduceAdd, Int.reduceNeg, Int.reduceToNat, Nat.reduceEqDiff, Nat.reduceLT, Nat.reduceLeDiff, Int.reduceLE, Int.reduceLT, reduceIte, Int.cast_ofNat_Int, Int.natCast_zero, Int.natCast_one, Int.reduceAdd, eq_self, Int.reduceSub, List.length_cons, List.length_nil, xli_m1, xli_0, xli_1, xli_2, xli_3, xli_4, xli_5, xlb_8, xlb_12, xlb_31, xlb_32, xlb_64, xls_256, xls_513, xls_2048, xls_4096, xll_0, xll_1, xnr_i, xnr_0, xnr_1, xnr_ite, xft_i, xft_0, xft_1, xat_999, xat_1001, xat_1002, xat_1003, xat_2001, xat_2002, xat_2003, List.getElem?_cons_succ, List.getElem?_cons_zero, xfn_0, xfn_1, xfn_2, xfn_3, x10, x01, not_true_eq_false, false_implies, implies_true, true_implies, xrm_c, xrm_s, xnl_4, xnl_32, xnl_64, xnl_256, xtn_4, xtn_32, xtn_64, xtn_256, Option.some.injEq, Sum.inl.injEq, Sum.inr.injEq, exists_eq_left', exists_eq_right, Option.toList_some, Option.toList_none, List.cons_append, List.nil_append, xE, lg_cmp_ge, lg_cmp_le, lg_cmp_gt, lg_cmp_lt, lg_cmp_eq, Nat.le_refl, Nat.zero_le, ne_eq, Nat.add_zero, dM_within_0, dM_within_1, dM_within_2, dM_within_5, dM_within_6, dM_within_7, dM_within_10, dM_within_11, dM_within_14, dM_within_15]
  simp only [xI32lt]
  refine ⟨fun h => ?_, fun h => ⟨fun h1 => ?_, fun h1 => ?_⟩⟩
  · rw [if_neg (by omega)]
  · rw [if_neg (by omega)]
  · rw [if_pos (by omega)]
set_option maxHeartbeats 4000000 in
set_option maxRecDepth 100000 in
theorem d_greatest (S : xS) {s : Nat} (hs : s ≤ 4) : xMet l D n0 mM_greatest 0 0 [.inl (nI s)] S (fun r S' => r = some (.inl (nI (mgr s))) ∧ S' = S) := by
  refine xMet.of (k := mM_greatest) (own := 4) (ini := false) xm_M_greatest (by decide +kernel) (by decide +kernel) (by decide) (Nat.le_of_ble_eq_true rfl) ?_
  intro V hV
  show V 0 [some (.inl (nI s))] [] S 0 0
  have e : (nI s = 1) = (s = 1) := propext (nI_eq (b := 1) (by omega) (by decide))
  refine xrun_ok hV [] 20 _ _ _ _ _ _ ?_
  simp (maxDischargeDepth := 60) only [xrun, xisc, ↓xstep, xget, xtgt, xcmp, xacmp, xprev, xisR, xnt, List.set, List.length, xsw, xlk, true_or, or_true, if_true, if_false, true_and, and_true, List.mem_cons, List.not_mem_nil, or_false, false_or, Bool.false_eq_true, reduceCtorEq, not_false_eq_true, forall_const, Nat.zero_add, Nat.reduceAdd, Nat.reduceSub, Int.reduceAdd, Int.reduceNeg, Int.reduceToNat, Nat.reduceEqDiff, Nat.reduceLT, Nat.reduceLeDiff, Int.reduceLE, Int.reduceLT, reduceIte, Int.cast_ofNat_Int, Int.natCast_zero, Int.natCast_one, Int.reduceAdd, eq_self, Int.reduceSub, List.length_cons, List.length_nil, xli_m1, xli_0, xli_1, xli_2, xli_3, xli_4, xli_5, xlb_8, xlb_12, xlb_31, xlb_32, xlb_64, xls_256, xls_513, xls_2048, xls_4096, xll_0, xll_1, xnr_i, xnr_0, xnr_1, xnr_ite, xft_i, xft_0, xft_1, xat_999, xat_1001, xat_1002, xat_1003, xat_2001, xat_2002, xat_2003, List.getElem?_cons_succ, List.getElem?_cons_zero, xfn_0, xfn_1, xfn_2, xfn_3, x10, x01, not_true_eq_false, false_implies, implies_true, true_implies, xrm_c, xrm_s, xnl_4, xnl_32, xnl_64, xnl_256, xtn_4, xtn_32, xtn_64, xtn_256, Option.some.injEq, Sum.inl.injEq, Sum.inr.injEq, exists_eq_left', exists_eq_right, Option.toList_some, Option.toList_none, List.cons_append, List.nil_append, xE, lg_cmp_ge, lg_cmp_le, lg_cmp_gt, lg_cmp_lt, lg_cmp_eq, Nat.le_refl, Nat.zero_le, ne_eq, Nat.add_zero, dM_greatest_0, dM_greatest_1, dM_greatest_2, dM_greatest_5, dM_greatest_7, dM_greatest_10, dM_greatest_11, e]
  refine ⟨fun z => ?_, fun z => ?_⟩ <;> (unfold mgr; simp [z]; rfl)
theorem nI_div {a b : Nat} (ha : a < 2 ^ 31) (hb : b < 2 ^ 31) : nI a / nI b = nI (a / b) := by
  apply Int32.toInt_inj.mp
  have h1 := nI_toInt ha
  have h2 := nI_toInt hb
  have hq : a / b ≤ a := Nat.div_le_self a b
  rw [Int32.toInt_div, h1, h2, nI_toInt (by omega)]
  have : ((a : Int).tdiv b) = ((a / b : Nat) : Int) := by rw [Int.ofNat_tdiv]
  rw [this]
  generalize a / b = q at hq
  exact Int.bmod_eq_of_le (by omega) (by omega)
theorem nI_mul {a b : Nat} : nI a * nI b = nI (a * b) := by
  unfold nI
  exact (Int32.ofNat_mul a b).symm
theorem mup_div {x p : Nat} : (x + 2 ^ p - 1) / 2 ^ p * 2 ^ p = mup x p := by
  have hp : 0 < 2 ^ p := Nat.two_pow_pos p
  unfold mup mpad
  generalize 2 ^ p = b at hp
  have h1 := Nat.div_add_mod x b
  have h2 : x % b < b := Nat.mod_lt _ hp
  by_cases z : x % b = 0
  · rw [z, Nat.sub_zero, Nat.mod_self, Nat.add_zero]
    have e : (x + b - 1) / b = x / b := by
      have e1 : x + b - 1 = (b - 1) + b * (x / b) := by omega
      rw [e1, Nat.add_mul_div_left _ _ hp, Nat.div_eq_of_lt (by omega), Nat.zero_add]
    rw [e, Nat.mul_comm]
    omega
  · rw [Nat.mod_eq_of_lt (by omega : b - x % b < b)]
    have e : (x + b - 1) / b = x / b + 1 := by
      have e1 : x + b - 1 = (x % b - 1) + b * (x / b + 1) := by rw [Nat.mul_add]; omega
      rw [e1, Nat.add_mul_div_left _ _ hp, Nat.div_eq_of_lt (by omega), Nat.zero_add]
    rw [e, Nat.add_mul, Nat.mul_comm]
    omega
set_option maxHeartbeats 4000000 in
set_option maxRecDepth 100000 in
theorem d_roundUp (S : xS) {x p : Nat} (hx : x ≤ 1074937820) (hp : p ≤ 12) : xMet l D n0 mM_roundUp 0 0 [.inl (nI x), .inl (nI (2 ^ p))] S (fun r S' => r = some (.inl (nI (mup x p))) ∧ S' = S) := by
  refine xMet.of (k := mM_roundUp) (own := 4) (ini := false) xm_M_roundUp (by decide +kernel) (by decide +kernel) (by decide) (Nat.le_of_ble_eq_true rfl) ?_
  intro V hV
  show V 0 [some (.inl (nI x)), some (.inl (nI (2 ^ p)))] [] S 0 0
  have h1 := xpow_le hp
  have h2 : 0 < 2 ^ p := Nat.two_pow_pos p
  have e0 : (nI (2 ^ p) = 0) = False := eq_false (nI_ne0 h2 (by omega))
  have e1 : nI (x + 2 ^ p) - 1 = nI (x + 2 ^ p - 1) := pk_sub (a := x + 2 ^ p) (b := 1) (by omega)
  have e2 : nI (x + 2 ^ p - 1) / nI (2 ^ p) = nI ((x + 2 ^ p - 1) / 2 ^ p) := nI_div (by omega) (by omega)
  refine xrun_ok hV [] 20 _ _ _ _ _ _ ?_
  simp (maxDischargeDepth := 60) only [xrun, xisc, ↓xstep, xget, xtgt, xcmp, xacmp, xprev, xisR, xnt, List.set, List.length, xsw, xlk, true_or, or_true, if_true, if_false, true_and, and_true, List.mem_cons, List.not_mem_nil, or_false, false_or, Bool.false_eq_true, reduceCtorEq, not_false_eq_true, forall_const, Nat.zero_add, Nat.reduceAdd, Nat.reduceSub, Int.reduceAdd, Int.reduceNeg, Int.reduceToNat, Nat.reduceEqDiff, Nat.reduceLT, Nat.reduceLeDiff, Int.reduceLE, Int.reduceLT, reduceIte, Int.cast_ofNat_Int, Int.natCast_zero, Int.natCast_one, Int.reduceAdd, eq_self, Int.reduceSub, List.length_cons, List.length_nil, xli_m1, xli_0, xli_1, xli_2, xli_3, xli_4, xli_5, xlb_8, xlb_12, xlb_31, xlb_32, xlb_64, xls_256, xls_513, xls_2048, xls_4096, xll_0, xll_1, xnr_i, xnr_0, xnr_1, xnr_ite, xft_i, xft_0, xft_1, xat_999, xat_1001, xat_1002, xat_1003, xat_2001, xat_2002, xat_2003, List.getElem?_cons_succ, List.getElem?_cons_zero, xfn_0, xfn_1, xfn_2, xfn_3, x10, x01, not_true_eq_false, false_implies, implies_true, true_implies, xrm_c, xrm_s, xnl_4, xnl_32, xnl_64, xnl_256, xtn_4, xtn_32, xtn_64, xtn_256, Option.some.injEq, Sum.inl.injEq, Sum.inr.injEq, exists_eq_left', exists_eq_right, Option.toList_some, Option.toList_none, List.cons_append, List.nil_append, xE, lg_cmp_ge, lg_cmp_le, lg_cmp_gt, lg_cmp_lt, lg_cmp_eq, Nat.le_refl, Nat.zero_le, ne_eq, Nat.add_zero, dM_roundUp_0, dM_roundUp_1, dM_roundUp_2, dM_roundUp_3, dM_roundUp_4, dM_roundUp_5, dM_roundUp_6, dM_roundUp_7, dM_roundUp_8, dM_roundUp_9, nI_add, e0, e1, e2, nI_mul, mup_div]
variable {S : xS} {mo : Nat} {A : Nat → Nat} {M : mT}
theorem nI_cnt {n : Nat} (h : n ≤ 4096) : (nI n - 1).toInt = (n : Int) - 1 := by
  cases n with
  | zero => decide
  | succ n => rw [nI_pred, nI_toInt (by omega)]; omega
set_option maxHeartbeats 4000000 in
set_option maxRecDepth 100000 in
theorem d_isPart (h : rF S mo A M) (x : Int32) : xMet l D n0 mM_isPart 0 0 [.inr (.inr (some mo)), .inl x] S (fun r S' => r = some (.inl (if isP M x = true then 1 else 0)) ∧ S' = S) := by
  refine xMet.of (k := mM_isPart) (own := 4) (ini := false) xm_M_isPart (by decide +kernel) (by decide +kernel) (by decide) (Nat.le_of_ble_eq_true rfl) ?_
  intro V hV
  show V 0 [some (.inr (.inr (some mo))), some (.inl x)] [] S 0 0
  have hmo := h.mo
  have hs := h.s4
  have hw := h.1.1.2.1
  refine xrun_ok hV [] 20 _ _ _ _ _ _ ?_
  simp (maxDischargeDepth := 60) only [xrun, xisc, ↓xstep, xget, xtgt, xcmp, xacmp, xprev, xisR, xnt, List.set, List.length, xsw, xlk, true_or, or_true, if_true, if_false, true_and, and_true, List.mem_cons, List.not_mem_nil, or_false, false_or, Bool.false_eq_true, reduceCtorEq, not_false_eq_true, forall_const, Nat.zero_add, Nat.reduceAdd, Nat.reduceSub, Int.reduceAdd, Int.reduceNeg, Int.reduceToNat, Nat.reduceEqDiff, Nat.reduceLT, Nat.reduceLeDiff, Int.reduceLE, Int.reduceLT, reduceIte, Int.cast_ofNat_Int, Int.natCast_zero, Int.natCast_one, Int.reduceAdd, eq_self, Int.reduceSub, List.length_cons, List.length_nil, xli_m1, xli_0, xli_1, xli_2, xli_3, xli_4, xli_5, xlb_8, xlb_12, xlb_31, xlb_32, xlb_64, xls_256, xls_513, xls_2048, xls_4096, xll_0, xll_1, xnr_i, xnr_0, xnr_1, xnr_ite, xft_i, xft_0, xft_1, xat_999, xat_1001, xat_1002, xat_1003, xat_2001, xat_2002, xat_2003, List.getElem?_cons_succ, List.getElem?_cons_zero, xfn_0, xfn_1, xfn_2, xfn_3, x10, x01, not_true_eq_false, false_implies, implies_true, true_implies, xrm_c, xrm_s, xnl_4, xnl_32, xnl_64, xnl_256, xtn_4, xtn_32, xtn_64, xtn_256, Option.some.injEq, Sum.inl.injEq, Sum.inr.injEq, exists_eq_left', exists_eq_right, Option.toList_some, Option.toList_none, List.cons_append, List.nil_append, xE, lg_cmp_ge, lg_cmp_le, lg_cmp_gt, lg_cmp_lt, lg_cmp_eq, Nat.le_refl, Nat.zero_le, ne_eq, Nat.add_zero, dM_isPart_0, dM_isPart_1, dM_isPart_2, dM_isPart_3, dM_isPart_6, dM_isPart_7, dM_isPart_8, dM_isPart_11, xf_4_83, hmo, hs]
  refine hV.call [] xh_4_87 dM_isPart_8 (d_within S x 0 (nI (M 4 0) - 1)) (Or.inl rfl) rfl rfl (by decide) (by decide) (by decide) ?_
  rintro r S' ⟨rfl, rfl⟩
  refine xrun_ok hV [] 20 _ _ _ _ _ _ ?_
  simp (maxDischargeDepth := 60) only [xrun, xisc, ↓xstep, xget, xtgt, xcmp, xacmp, xprev, xisR, xnt, List.set, List.length, xsw, xlk, true_or, or_true, if_true, if_false, true_and, and_true, List.mem_cons, List.not_mem_nil, or_false, false_or, Bool.false_eq_true, reduceCtorEq, not_false_eq_true, forall_const, Nat.zero_add, Nat.reduceAdd, Nat.reduceSub, Int.reduceAdd, Int.reduceNeg, Int.reduceToNat, Nat.reduceEqDiff, Nat.reduceLT, Nat.reduceLeDiff, Int.reduceLE, Int.reduceLT, reduceIte, Int.cast_ofNat_Int, Int.natCast_zero, Int.natCast_one, Int.reduceAdd, eq_self, Int.reduceSub, List.length_cons, List.length_nil, xli_m1, xli_0, xli_1, xli_2, xli_3, xli_4, xli_5, xlb_8, xlb_12, xlb_31, xlb_32, xlb_64, xls_256, xls_513, xls_2048, xls_4096, xll_0, xll_1, xnr_i, xnr_0, xnr_1, xnr_ite, xft_i, xft_0, xft_1, xat_999, xat_1001, xat_1002, xat_1003, xat_2001, xat_2002, xat_2003, List.getElem?_cons_succ, List.getElem?_cons_zero, xfn_0, xfn_1, xfn_2, xfn_3, x10, x01, not_true_eq_false, false_implies, implies_true, true_implies, xrm_c, xrm_s, xnl_4, xnl_32, xnl_64, xnl_256, xtn_4, xtn_32, xtn_64, xtn_256, Option.some.injEq, Sum.inl.injEq, Sum.inr.injEq, exists_eq_left', exists_eq_right, Option.toList_some, Option.toList_none, List.cons_append, List.nil_append, xE, lg_cmp_ge, lg_cmp_le, lg_cmp_gt, lg_cmp_lt, lg_cmp_eq, Nat.le_refl, Nat.zero_le, ne_eq, Nat.add_zero, dM_isPart_0, dM_isPart_1, dM_isPart_2, dM_isPart_3, dM_isPart_6, dM_isPart_7, dM_isPart_8, dM_isPart_11, xf_4_83]
  congr 1
  have e := nI_cnt (n := M 4 0) (by omega)
  have z0 : (0 : Int32).toInt = 0 := rfl
  rw [isP_iff, e, z0]
  apply propext
  constructor <;> intro z <;> exact ⟨z.1, by omega⟩
set_option maxHeartbeats 4000000 in
set_option maxRecDepth 100000 in
theorem d_isPiece (h : rF S mo A M) (x : Int32) : xMet l D n0 mM_isPiece 0 0 [.inr (.inr (some mo)), .inl x] S (fun r S' => r = some (.inl (if isQ M x = true then 1 else 0)) ∧ S' = S) := by
  refine xMet.of (k := mM_isPiece) (own := 4) (ini := false) xm_M_isPiece (by decide +kernel) (by decide +kernel) (by decide) (Nat.le_of_ble_eq_true rfl) ?_
  intro V hV
  show V 0 [some (.inr (.inr (some mo))), some (.inl x)] [] S 0 0
  have hmo := h.mo
  have hs := h.s12
  have hw := h.1.1.2.2.1
  refine xrun_ok hV [] 20 _ _ _ _ _ _ ?_
  simp (maxDischargeDepth := 60) only [xrun, xisc, ↓xstep, xget, xtgt, xcmp, xacmp, xprev, xisR, xnt, List.set, List.length, xsw, xlk, true_or, or_true, if_true, if_false, true_and, and_true, List.mem_cons, List.not_mem_nil, or_false, false_or, Bool.false_eq_true, reduceCtorEq, not_false_eq_true, forall_const, Nat.zero_add, Nat.reduceAdd, Nat.reduceSub, Int.reduceAdd, Int.reduceNeg, Int.reduceToNat, Nat.reduceEqDiff, Nat.reduceLT, Nat.reduceLeDiff, Int.reduceLE, Int.reduceLT, reduceIte, Int.cast_ofNat_Int, Int.natCast_zero, Int.natCast_one, Int.reduceAdd, eq_self, Int.reduceSub, List.length_cons, List.length_nil, xli_m1, xli_0, xli_1, xli_2, xli_3, xli_4, xli_5, xlb_8, xlb_12, xlb_31, xlb_32, xlb_64, xls_256, xls_513, xls_2048, xls_4096, xll_0, xll_1, xnr_i, xnr_0, xnr_1, xnr_ite, xft_i, xft_0, xft_1, xat_999, xat_1001, xat_1002, xat_1003, xat_2001, xat_2002, xat_2003, List.getElem?_cons_succ, List.getElem?_cons_zero, xfn_0, xfn_1, xfn_2, xfn_3, x10, x01, not_true_eq_false, false_implies, implies_true, true_implies, xrm_c, xrm_s, xnl_4, xnl_32, xnl_64, xnl_256, xtn_4, xtn_32, xtn_64, xtn_256, Option.some.injEq, Sum.inl.injEq, Sum.inr.injEq, exists_eq_left', exists_eq_right, Option.toList_some, Option.toList_none, List.cons_append, List.nil_append, xE, lg_cmp_ge, lg_cmp_le, lg_cmp_gt, lg_cmp_lt, lg_cmp_eq, Nat.le_refl, Nat.zero_le, ne_eq, Nat.add_zero, dM_isPiece_0, dM_isPiece_1, dM_isPiece_2, dM_isPiece_3, dM_isPiece_6, dM_isPiece_7, dM_isPiece_8, dM_isPiece_11, xf_4_91, hmo, hs]
  refine hV.call [] xh_4_87 dM_isPiece_8 (d_within S x 0 (nI (M 12 0) - 1)) (Or.inl rfl) rfl rfl (by decide) (by decide) (by decide) ?_
  rintro r S' ⟨rfl, rfl⟩
  refine xrun_ok hV [] 20 _ _ _ _ _ _ ?_
  simp (maxDischargeDepth := 60) only [xrun, xisc, ↓xstep, xget, xtgt, xcmp, xacmp, xprev, xisR, xnt, List.set, List.length, xsw, xlk, true_or, or_true, if_true, if_false, true_and, and_true, List.mem_cons, List.not_mem_nil, or_false, false_or, Bool.false_eq_true, reduceCtorEq, not_false_eq_true, forall_const, Nat.zero_add, Nat.reduceAdd, Nat.reduceSub, Int.reduceAdd, Int.reduceNeg, Int.reduceToNat, Nat.reduceEqDiff, Nat.reduceLT, Nat.reduceLeDiff, Int.reduceLE, Int.reduceLT, reduceIte, Int.cast_ofNat_Int, Int.natCast_zero, Int.natCast_one, Int.reduceAdd, eq_self, Int.reduceSub, List.length_cons, List.length_nil, xli_m1, xli_0, xli_1, xli_2, xli_3, xli_4, xli_5, xlb_8, xlb_12, xlb_31, xlb_32, xlb_64, xls_256, xls_513, xls_2048, xls_4096, xll_0, xll_1, xnr_i, xnr_0, xnr_1, xnr_ite, xft_i, xft_0, xft_1, xat_999, xat_1001, xat_1002, xat_1003, xat_2001, xat_2002, xat_2003, List.getElem?_cons_succ, List.getElem?_cons_zero, xfn_0, xfn_1, xfn_2, xfn_3, x10, x01, not_true_eq_false, false_implies, implies_true, true_implies, xrm_c, xrm_s, xnl_4, xnl_32, xnl_64, xnl_256, xtn_4, xtn_32, xtn_64, xtn_256, Option.some.injEq, Sum.inl.injEq, Sum.inr.injEq, exists_eq_left', exists_eq_right, Option.toList_some, Option.toList_none, List.cons_append, List.nil_append, xE, lg_cmp_ge, lg_cmp_le, lg_cmp_gt, lg_cmp_lt, lg_cmp_eq, Nat.le_refl, Nat.zero_le, ne_eq, Nat.add_zero, dM_isPiece_0, dM_isPiece_1, dM_isPiece_2, dM_isPiece_3, dM_isPiece_6, dM_isPiece_7, dM_isPiece_8, dM_isPiece_11, xf_4_91]
  congr 1
  have e := nI_cnt (n := M 12 0) (by omega)
  have z0 : (0 : Int32).toInt = 0 := rfl
  rw [isQ_iff, e, z0]
  apply propext
  constructor <;> intro z <;> exact ⟨z.1, by omega⟩
set_option maxHeartbeats 4000000 in
set_option maxRecDepth 100000 in
theorem d_isLabel (h : rF S mo A M) (x : Int32) : xMet l D n0 mM_isLabel 0 0 [.inr (.inr (some mo)), .inl x] S (fun r S' => r = some (.inl (if isL M x = true then 1 else 0)) ∧ S' = S) := by
  refine xMet.of (k := mM_isLabel) (own := 4) (ini := false) xm_M_isLabel (by decide +kernel) (by decide +kernel) (by decide) (Nat.le_of_ble_eq_true rfl) ?_
  intro V hV
  show V 0 [some (.inr (.inr (some mo))), some (.inl x)] [] S 0 0
  have hmo := h.mo
  have hs := h.s25
  have hw := h.1.1.2.2.2
  refine xrun_ok hV [] 20 _ _ _ _ _ _ ?_
  simp (maxDischargeDepth := 60) only [xrun, xisc, ↓xstep, xget, xtgt, xcmp, xacmp, xprev, xisR, xnt, List.set, List.length, xsw, xlk, true_or, or_true, if_true, if_false, true_and, and_true, List.mem_cons, List.not_mem_nil, or_false, false_or, Bool.false_eq_true, reduceCtorEq, not_false_eq_true, forall_const, Nat.zero_add, Nat.reduceAdd, Nat.reduceSub, Int.reduceAdd, Int.reduceNeg, Int.reduceToNat, Nat.reduceEqDiff, Nat.reduceLT, Nat.reduceLeDiff, Int.reduceLE, Int.reduceLT, reduceIte, Int.cast_ofNat_Int, Int.natCast_zero, Int.natCast_one, Int.reduceAdd, eq_self, Int.reduceSub, List.length_cons, List.length_nil, xli_m1, xli_0, xli_1, xli_2, xli_3, xli_4, xli_5, xlb_8, xlb_12, xlb_31, xlb_32, xlb_64, xls_256, xls_513, xls_2048, xls_4096, xll_0, xll_1, xnr_i, xnr_0, xnr_1, xnr_ite, xft_i, xft_0, xft_1, xat_999, xat_1001, xat_1002, xat_1003, xat_2001, xat_2002, xat_2003, List.getElem?_cons_succ, List.getElem?_cons_zero, xfn_0, xfn_1, xfn_2, xfn_3, x10, x01, not_true_eq_false, false_implies, implies_true, true_implies, xrm_c, xrm_s, xnl_4, xnl_32, xnl_64, xnl_256, xtn_4, xtn_32, xtn_64, xtn_256, Option.some.injEq, Sum.inl.injEq, Sum.inr.injEq, exists_eq_left', exists_eq_right, Option.toList_some, Option.toList_none, List.cons_append, List.nil_append, xE, lg_cmp_ge, lg_cmp_le, lg_cmp_gt, lg_cmp_lt, lg_cmp_eq, Nat.le_refl, Nat.zero_le, ne_eq, Nat.add_zero, dM_isLabel_0, dM_isLabel_1, dM_isLabel_2, dM_isLabel_3, dM_isLabel_6, dM_isLabel_7, dM_isLabel_8, dM_isLabel_11, xf_4_94, hmo, hs]
  refine hV.call [] xh_4_87 dM_isLabel_8 (d_within S x 0 (nI (M 25 0) - 1)) (Or.inl rfl) rfl rfl (by decide) (by decide) (by decide) ?_
  rintro r S' ⟨rfl, rfl⟩
  refine xrun_ok hV [] 20 _ _ _ _ _ _ ?_
  simp (maxDischargeDepth := 60) only [xrun, xisc, ↓xstep, xget, xtgt, xcmp, xacmp, xprev, xisR, xnt, List.set, List.length, xsw, xlk, true_or, or_true, if_true, if_false, true_and, and_true, List.mem_cons, List.not_mem_nil, or_false, false_or, Bool.false_eq_true, reduceCtorEq, not_false_eq_true, forall_const, Nat.zero_add, Nat.reduceAdd, Nat.reduceSub, Int.reduceAdd, Int.reduceNeg, Int.reduceToNat, Nat.reduceEqDiff, Nat.reduceLT, Nat.reduceLeDiff, Int.reduceLE, Int.reduceLT, reduceIte, Int.cast_ofNat_Int, Int.natCast_zero, Int.natCast_one, Int.reduceAdd, eq_self, Int.reduceSub, List.length_cons, List.length_nil, xli_m1, xli_0, xli_1, xli_2, xli_3, xli_4, xli_5, xlb_8, xlb_12, xlb_31, xlb_32, xlb_64, xls_256, xls_513, xls_2048, xls_4096, xll_0, xll_1, xnr_i, xnr_0, xnr_1, xnr_ite, xft_i, xft_0, xft_1, xat_999, xat_1001, xat_1002, xat_1003, xat_2001, xat_2002, xat_2003, List.getElem?_cons_succ, List.getElem?_cons_zero, xfn_0, xfn_1, xfn_2, xfn_3, x10, x01, not_true_eq_false, false_implies, implies_true, true_implies, xrm_c, xrm_s, xnl_4, xnl_32, xnl_64, xnl_256, xtn_4, xtn_32, xtn_64, xtn_256, Option.some.injEq, Sum.inl.injEq, Sum.inr.injEq, exists_eq_left', exists_eq_right, Option.toList_some, Option.toList_none, List.cons_append, List.nil_append, xE, lg_cmp_ge, lg_cmp_le, lg_cmp_gt, lg_cmp_lt, lg_cmp_eq, Nat.le_refl, Nat.zero_le, ne_eq, Nat.add_zero, dM_isLabel_0, dM_isLabel_1, dM_isLabel_2, dM_isLabel_3, dM_isLabel_6, dM_isLabel_7, dM_isLabel_8, dM_isLabel_11, xf_4_94]
  congr 1
  have e := nI_cnt (n := M 25 0) (by omega)
  have z0 : (0 : Int32).toInt = 0 := rfl
  rw [isL_iff, e, z0]
  apply propext
  constructor <;> intro z <;> exact ⟨z.1, by omega⟩
end REF
