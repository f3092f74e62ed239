/-! NUMBERS that the code writes -/
theorem xli_m1 : Int32.ofInt (-1) = (-1 : Int32) := by decide +kernel
theorem xli_0 : Int32.ofInt (0) = (0 : Int32) := by decide +kernel
theorem xli_1 : Int32.ofInt (1) = (1 : Int32) := by decide +kernel
theorem xli_2 : Int32.ofInt (2) = (2 : Int32) := by decide +kernel
theorem xli_3 : Int32.ofInt (3) = (3 : Int32) := by decide +kernel
theorem xli_4 : Int32.ofInt (4) = (4 : Int32) := by decide +kernel
theorem xli_5 : Int32.ofInt (5) = (5 : Int32) := by decide +kernel
theorem xlb_8 : (Int8.ofInt (8)).toInt32 = (8 : Int32) := by decide +kernel
theorem xlb_12 : (Int8.ofInt (12)).toInt32 = (12 : Int32) := by decide +kernel
theorem xlb_31 : (Int8.ofInt (31)).toInt32 = (31 : Int32) := by decide +kernel
theorem xlb_32 : (Int8.ofInt (32)).toInt32 = (32 : Int32) := by decide +kernel
theorem xlb_64 : (Int8.ofInt (64)).toInt32 = (64 : Int32) := by decide +kernel
theorem xls_256 : (Int16.ofInt (256)).toInt32 = (256 : Int32) := by decide +kernel
theorem xls_513 : (Int16.ofInt (513)).toInt32 = (513 : Int32) := by decide +kernel
theorem xls_2048 : (Int16.ofInt (2048)).toInt32 = (2048 : Int32) := by decide +kernel
theorem xls_4096 : (Int16.ofInt (4096)).toInt32 = (4096 : Int32) := by decide +kernel
theorem xll_0 : Int64.ofNat ((0 : Fin 2) : Nat) = (0 : Int64) := by decide +kernel
theorem xll_1 : Int64.ofNat ((1 : Fin 2) : Nat) = (1 : Int64) := by decide +kernel
theorem xnr_i (x : Int32) : narrow .int (.int x) = .int x := rfl
theorem xnr_0 : narrow .boolean (.int 0) = .int 0 := by decide +kernel
theorem xnr_1 : narrow .boolean (.int 1) = .int 1 := by decide +kernel
theorem xnr_ite (c : Prop) [Decidable c] : narrow .boolean (.int (if c then 1 else 0)) = .int (if c then 1 else 0) := by split <;> decide +kernel
theorem xft_i (x : Int32) : xfit .int x := ⟨rfl, rfl, rfl⟩
theorem xft_0 : xfit .boolean 0 := ⟨by decide +kernel, by decide +kernel, by decide +kernel⟩
theorem xft_1 : xfit .boolean 1 := ⟨by decide +kernel, by decide +kernel, by decide +kernel⟩
theorem xat_999 : xat 999 = some .int := rfl
theorem xat_1001 : xat 1001 = some .int := rfl
theorem xat_1002 : xat 1002 = some .int := rfl
theorem xat_1003 : xat 1003 = some .boolean := rfl
theorem xat_2001 : xat 2001 = some (.object "ShrinkLayout$Part") := rfl
theorem xat_2002 : xat 2002 = some (.object "ShrinkLayout$Piece") := rfl
theorem xat_2003 : xat 2003 = some (.object "ShrinkLayout$Label") := rfl
-- numbers
theorem xpow_le {p : Nat} (h : p ≤ 12) : 2 ^ p ≤ 4096 := Nat.pow_le_pow_right (by decide) h
theorem xshl_m1 : ∀ p, p < 13 → ((1 : Int32) <<< (nI p &&& 31) - 1).toBitVec.toNat = 2 ^ p - 1 := by decide +kernel
theorem xshl : ∀ p, p < 13 → (1 : Int32) <<< (nI p &&& 31) = nI (2 ^ p) := by decide +kernel
theorem xneg_toNat {x : Nat} (h : x < 2 ^ 31) : (-(nI x)).toBitVec.toNat = (2 ^ 32 - x) % 2 ^ 32 := by
  rw [Int32.toBitVec_neg, BitVec.toNat_neg, pk_tn (by omega)]
theorem xI32le (x y : Int32) : (x ≤ y) = (x.toInt ≤ y.toInt) := propext Int32.le_iff_toInt_le
theorem xI32lt (x y : Int32) : (x < y) = (x.toInt < y.toInt) := propext Int32.lt_iff_toInt_lt
theorem xI64le (x y : Int64) : (x ≤ y) = (x.toInt ≤ y.toInt) := propext Int64.le_iff_toInt_le
theorem xI64lt (x y : Int64) : (x < y) = (x.toInt < y.toInt) := propext Int64.lt_iff_toInt_lt
theorem xtn_4 : Int32.toNatClampNeg 4 = 4 := by decide +kernel
theorem xtn_32 : Int32.toNatClampNeg 32 = 32 := by decide +kernel
theorem xtn_64 : Int32.toNatClampNeg 64 = 64 := by decide +kernel
theorem xtn_256 : Int32.toNatClampNeg 256 = 256 := by decide +kernel
theorem xlt_s {a n : Nat} (h : a < n) : (a < n + 1) = True := by simp; omega
theorem xc_mk_lt {S : xS} {t n a : Nat} (h : a < xn S) : xc (xmk S t n) a = xc S a := by rw [xc_mk, if_neg (Nat.ne_of_lt h)]
-- cells that a constructor makes: field, tag, length
def mkA : xS → Nat → List (Nat × Nat × Nat) → xS
  | S, _, [] => S
  | S, a, q :: L => mkA (xpr (xmk S q.2.1 q.2.2) a q.1 (some (xn S))) a L
theorem mkA_n : ∀ (L : List (Nat × Nat × Nat)) (S : xS) (a : Nat), xn (mkA S a L) = xn S + L.length
  | [], S, a => rfl
  | q :: L, S, a => by rw [mkA, mkA_n L]; simp only [xn_pr, xn_mk, List.length_cons]; omega
theorem mkA_old : ∀ (L : List (Nat × Nat × Nat)) (S : xS) (a b : Nat), b < xn S → xc (mkA S a L) b = xc S b ∧ xl (mkA S a L) b = xl S b ∧ (∀ k, xi (mkA S a L) b k = xi S b k) ∧ (b ≠ a → ∀ k, xr (mkA S a L) b k = xr S b k)
  | [], S, a, b, h => ⟨rfl, rfl, fun _ => rfl, fun _ _ => rfl⟩
  | q :: L, S, a, b, h => by
    obtain ⟨h1, h2, h3, h4⟩ := mkA_old L (xpr (xmk S q.2.1 q.2.2) a q.1 (some (xn S))) a b (by rw [xn_pr, xn_mk]; omega)
    have hne : b ≠ xn S := Nat.ne_of_lt h
    refine ⟨?_, ?_, fun k => ?_, fun hb k => ?_⟩
    · rw [mkA, h1, xc_pr, xc_mk, if_neg hne]
    · rw [mkA, h2, xl_pr, xl_mk, if_neg hne]
    · rw [mkA, h3, xi_pr, xi_mk, if_neg hne]
    · rw [mkA, h4 hb, xr_pr, if_neg (fun z => hb z.1), xr_mk, if_neg hne]
theorem mkA_this : ∀ (L : List (Nat × Nat × Nat)) (S : xS) (a : Nat), a < xn S → (∀ (i : Nat) (q : Nat × Nat × Nat), L[i]? = some q → (∀ (j : Nat) (q' : Nat × Nat × Nat), L[j]? = some q' → q'.1 = q.1 → j = i) → xr (mkA S a L) a q.1 = some (xn S + i)) ∧ ∀ f, (∀ q ∈ L, q.1 ≠ f) → xr (mkA S a L) a f = xr S a f
  | [], S, a, h => ⟨fun i q hq => by simp at hq, fun f _ => rfl⟩
  | q :: L, S, a, h => by
    obtain ⟨h1, h2⟩ := mkA_this L (xpr (xmk S q.2.1 q.2.2) a q.1 (some (xn S))) a (by rw [xn_pr, xn_mk]; omega)
    refine ⟨fun i r hr hu => ?_, fun f hf => ?_⟩
    · rw [mkA]
      cases i with
      | zero =>
        simp at hr
        subst hr
        rw [h2 q.1 (fun q' hq' => ?_), xr_pr, if_pos ⟨rfl, rfl⟩]
        · simp
        · intro e
          obtain ⟨j, hj⟩ := List.getElem?_of_mem hq'
          have := hu (j + 1) q' (by simpa using hj) e
          omega
      | succ i =>
        rw [h1 i r (by simpa using hr) (fun j q' hj e => ?_), xn_pr, xn_mk]
        · congr 1; omega
        · have := hu (j + 1) q' (by simpa using hj) e
          omega
    · rw [mkA, h2 f (fun q' hq' => hf q' (List.mem_cons_of_mem _ hq')), xr_pr, if_neg (fun z => hf q List.mem_cons_self z.2.symm), xr_mk, if_neg (Nat.ne_of_lt h)]
theorem mkA_new : ∀ (L : List (Nat × Nat × Nat)) (S : xS) (a : Nat), a < xn S → ∀ (i : Nat) (q : Nat × Nat × Nat), L[i]? = some q → xc (mkA S a L) (xn S + i) = q.2.1 ∧ xl (mkA S a L) (xn S + i) = q.2.2 ∧ (∀ k, xi (mkA S a L) (xn S + i) k = 0) ∧ ∀ k, xr (mkA S a L) (xn S + i) k = none
  | [], S, a, h, i, q, hq => by simp at hq
  | q :: L, S, a, h, i, r, hr => by
    cases i with
    | zero =>
      simp at hr
      subst hr
      have hne : xn S ≠ a := Ne.symm (Nat.ne_of_lt h)
      obtain ⟨h1, h2, h3, h4⟩ := mkA_old L (xpr (xmk S q.2.1 q.2.2) a q.1 (some (xn S))) a (xn S) (by rw [xn_pr, xn_mk]; omega)
      refine ⟨?_, ?_, fun k => ?_, fun k => ?_⟩
      · rw [mkA, Nat.add_zero, h1, xc_pr, xc_mk, if_pos rfl]
      · rw [mkA, Nat.add_zero, h2, xl_pr, xl_mk, if_pos rfl]
      · rw [mkA, Nat.add_zero, h3, xi_pr, xi_mk, if_pos rfl]
      · rw [mkA, Nat.add_zero, h4 hne, xr_pr, if_neg (fun z => hne z.1), xr_mk, if_pos rfl]
    | succ i =>
      have := mkA_new L (xpr (xmk S q.2.1 q.2.2) a q.1 (some (xn S))) a (by rw [xn_pr, xn_mk]; omega) i r (by simpa using hr)
      rw [xn_pr, xn_mk] at this
      rw [mkA, show xn S + (i + 1) = xn S + 1 + i by omega]
      exact this
theorem xrm_c (k mc ms : Nat) : (xrm k mc ms).cells = mc := rfl
theorem xrm_s (k mc ms : Nat) : (xrm k mc ms).slots = ms := rfl
theorem xnl_4 : ((4 : Int32) < 0) = False := by decide +kernel
theorem xnl_32 : ((32 : Int32) < 0) = False := by decide +kernel
theorem xnl_64 : ((64 : Int32) < 0) = False := by decide +kernel
theorem xnl_256 : ((256 : Int32) < 0) = False := by decide +kernel
theorem x10 : ((1 : Int32) = 0) = False := by decide +kernel
theorem x01 : ((0 : Int32) = 1) = False := by decide +kernel
theorem xfn_0 : ((0 : Fin 4) : Nat) = 0 := rfl
theorem xfn_1 : ((1 : Fin 4) : Nat) = 1 := rfl
theorem xfn_2 : ((2 : Fin 4) : Nat) = 2 := rfl
theorem xfn_3 : ((3 : Fin 4) : Nat) = 3 := rfl
