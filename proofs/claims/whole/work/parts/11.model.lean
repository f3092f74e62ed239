/-! THE MODEL: M f i, f by the numbers of the reference's fields: 0 base, 1 output's power, 4 parts, 5 a part's output, 6 its power, 7 root, 8 gone, 12 pieces, 13 sort, 14 part, 15 size, 16 most, 17 power, 18 label, 19 constant (its 32 bits), 20 two, 21 fixed, 25 labels, 26 a label's piece and 1 (0: none), 27 spot -/
abbrev mT : Type := Nat → Nat → Nat
def mset (M : mT) (f i v : Nat) : mT := fun g j => if g = f ∧ j = i then v else M g j
theorem mset_eq (M : mT) (f i v g j : Nat) : mset M f i v g j = if g = f ∧ j = i then v else M g j := rfl
def mgr (s : Nat) : Nat := if s = 1 then 8 else 4
def maim (M : mT) (k : Nat) : Bool := decide (1 ≤ M 13 k) && decide (M 13 k < 4)
def mnot (M : mT) (k : Nat) : Bool := decide (M 8 (M 14 k) = 0)
-- bytes that lack to the next multiple of 2^p; the next multiple
def mpad (x p : Nat) : Nat := (2 ^ p - x % 2 ^ p) % 2 ^ p
def mup (x p : Nat) : Nat := x + mpad x p
-- the size of piece k at the place a
def msz (M : mT) (k a : Nat) : Nat := if M 13 k = 4 then min (mpad a (M 17 k)) (M 16 k) else M 15 k
-- where a part's pieces below k end, the part beginning at b
def mlay (M : mT) (p b : Nat) : Nat → Nat
  | 0 => b
  | k + 1 => if M 14 k = p then mlay M p b k + msz M k (mlay M p b k) else mlay M p b k
-- where an output's parts below p end, the output beginning at b
def mout (M : mT) (o b : Nat) : Nat → Nat
  | 0 => b
  | p + 1 => if M 5 p = o ∧ M 8 p = 0 then mlay M p (mup (mout M o b p) (M 6 p)) (M 12 0) else mout M o b p
-- where the outputs below o end; where output o begins and ends
def mend (M : mT) : Nat → Nat
  | 0 => M 0 0
  | o + 1 => mout M o (mup (mend M o) (M 1 o)) (M 4 0)
def mob (M : mT) (o : Nat) : Nat := mup (mend M o) (M 1 o)
def mpb (M : mT) (p : Nat) : Nat := mup (mout M (M 5 p) (mob M (M 5 p)) p) (M 6 p)
def mpe (M : mT) (p : Nat) : Nat := mlay M p (mpb M p) (M 12 0)
def mpl (M : mT) (k : Nat) : Nat := mlay M (M 14 k) (mpb M (M 14 k)) k
def msize (M : mT) (k : Nat) : Nat := msz M k (mpl M k)
-- has a label a value; the value
def mhv (M : mT) (l : Nat) : Bool := decide (M 26 l ≠ 0) && mnot M (M 26 l - 1)
def mval (M : mT) (l : Nat) : Nat := if M 13 (M 26 l - 1) = 0 ∨ M 27 l = 0 then mpl M (M 26 l - 1) + M 27 l else mpl M (M 26 l - 1) + msize M (M 26 l - 1)
def mcon (M : mT) (k : Nat) : Int := (nI (M 19 k)).toInt
def maimv (M : mT) (k : Nat) : Int := (mval M (M 18 k) : Int) + mcon M k
def mnear (x : Int) : Bool := decide (-2048 ≤ x) && decide (x ≤ 2047)
def mlc (d : Int) (two : Bool) : Nat := if two = true ∧ d % 2 = 0 ∧ mnear d = true then 2 else if d % 2 = 0 ∧ -1048576 ≤ d ∧ d ≤ 1048574 then 4 else 8
def mll (a gp : Int) (two : Bool) : Nat := if mnear a = true ∨ mnear (a - gp) = true then 0 else if two = true ∧ 4096 ≤ a + 2048 ∧ a + 2048 < 131072 then 2 else 4
def mhas (M : mT) (k : Nat) : Bool := maim M k && mhv M (M 18 k)
def mleast (M : mT) (k : Nat) : Nat := if maim M k = true then (if mhv M (M 18 k) = true then (if M 13 k = 1 then mlc (maimv M k - mpl M k) (decide (M 20 k = 1)) else mll (maimv M k) ((mob M 2 : Int) + 2048) (decide (M 20 k = 1))) else mgr (M 13 k)) else msize M k
def mszk (s z : Nat) : Bool := if s = 1 then (z == 2 || z == 4 || z == 8) else (z == 0 || z == 2 || z == 4)
/-- what always holds of a model's state -/
def mWF (M : mT) : Prop :=
  (M 0 0 ≤ 1048576 ∧ M 4 0 ≤ 32 ∧ M 12 0 ≤ 256 ∧ M 25 0 ≤ 64) ∧ (∀ o, o < 4 → M 1 o ≤ 12) ∧
  (∀ p, p < M 4 0 → M 5 p ≤ 3 ∧ M 6 p ≤ 12 ∧ M 7 p ≤ 1 ∧ M 8 p ≤ 1) ∧
  (∀ k, k < M 12 0 → M 13 k ≤ 4 ∧ M 14 k < M 4 0 ∧ M 20 k ≤ 1 ∧ M 21 k ≤ 1 ∧ M 19 k < 2 ^ 32 ∧ M 17 k ≤ 12) ∧
  (∀ k, k < M 12 0 → M 13 k = 0 → M 15 k = M 16 k ∧ M 16 k ≤ 4194304) ∧
  (∀ k, k < M 12 0 → maim M k = true → M 16 k = mgr (M 13 k) ∧ M 15 k ≤ mgr (M 13 k) ∧ M 18 k < M 25 0 ∧ (M 21 k = 1 → M 15 k = mgr (M 13 k)) ∧ (M 13 k = 3 → M 20 k = 0) ∧ mszk (M 13 k) (M 15 k) = true) ∧
  (∀ k, k < M 12 0 → M 13 k = 4 → M 16 k ≤ 4096) ∧
  (∀ l, l < M 25 0 → M 26 l ≤ M 12 0 ∧ (M 26 l ≠ 0 → M 27 l ≤ if M 13 (M 26 l - 1) = 0 then M 16 (M 26 l - 1) else 1))
-- the first piece of part p from k on, among d more
def mnx (M : mT) (p : Nat) : Nat → Nat → Option Nat
  | _, 0 => none
  | k, d + 1 => if M 14 k = p then some k else mnx M p (k + 1) d
def mfirst (M : mT) (p : Nat) : Option Nat := mnx M p 0 (M 12 0)
def mnext (M : mT) (k : Nat) : Option Nat := mnx M (M 14 k) (k + 1) (M 12 0 - (k + 1))
-- the last piece of part p below k
def mla (M : mT) (p : Nat) : Nat → Option Nat
  | 0 => none
  | k + 1 => if M 14 k = p then some k else mla M p k
/-! THE CLASS holds the model -/
def rT (S : xS) (th : Nat) (ar : Nat → Nat) (M : mT) : Prop :=
  (xc S th = 4 ∧ th < xn S) ∧ (∀ f, f < 6 → xr S th f = some (ar f) ∧ ar f < xn S) ∧
  (xc S (ar 0) = 2001 ∧ xc S (ar 1) = 2002 ∧ xc S (ar 2) = 2003 ∧ xc S (ar 3) = 1001 ∧ xc S (ar 4) = 1001 ∧ xc S (ar 5) = 1001) ∧
  (xl S (ar 0) = 32 ∧ xl S (ar 1) = 256 ∧ xl S (ar 2) = 64 ∧ xl S (ar 3) = 4 ∧ xl S (ar 4) = 4 ∧ xl S (ar 5) = 4) ∧
  (ar 3 ≠ ar 4 ∧ ar 3 ≠ ar 5 ∧ ar 4 ≠ ar 5) ∧
  (xi S th 6 = nI (M 4 0) ∧ xi S th 7 = nI (M 12 0) ∧ xi S th 8 = nI (M 25 0) ∧ xi S th 9 = nI (M 0 0)) ∧
  ∀ o, o < 4 → xi S (ar 3) o = nI (M 1 o)
def rA (S : xS) (ar pa qa la : Nat → Nat) (M : mT) : Prop :=
  (∀ p, p < 32 → xr S (ar 0) p = if p < M 4 0 then some (pa p) else none) ∧
  (∀ k, k < 256 → xr S (ar 1) k = if k < M 12 0 then some (qa k) else none) ∧
  (∀ j, j < 64 → xr S (ar 2) j = if j < M 25 0 then some (la j) else none)
def rP (S : xS) (pa qa : Nat → Nat) (M : mT) (p : Nat) : Prop :=
  (xc S (pa p) = 2 ∧ pa p < xn S) ∧ (xi S (pa p) 0 = nI p ∧ xi S (pa p) 1 = nI (M 5 p) ∧ xi S (pa p) 2 = nI (M 6 p) ∧ xi S (pa p) 3 = nI (M 8 p) ∧ xi S (pa p) 4 = nI (M 7 p)) ∧
  xr S (pa p) 7 = (mfirst M p).map qa ∧ xr S (pa p) 8 = (mla M p (M 12 0)).map qa
def rQ (S : xS) (pa qa la : Nat → Nat) (M : mT) (k : Nat) : Prop :=
  (xc S (qa k) = 3 ∧ qa k < xn S) ∧ (xi S (qa k) 0 = nI (M 13 k) ∧ xr S (qa k) 1 = some (pa (M 14 k)) ∧ xr S (qa k) 2 = (if maim M k = true then some (la (M 18 k)) else none) ∧ xi S (qa k) 3 = nI (M 19 k) ∧ xi S (qa k) 4 = nI (M 20 k) ∧ xi S (qa k) 5 = nI (M 17 k) ∧ (maim M k = false → xi S (qa k) 6 = nI (M 16 k)) ∧ xi S (qa k) 7 = nI (M 16 k)) ∧
  (M 13 k ≠ 4 → xi S (qa k) 8 = nI (M 15 k)) ∧ xi S (qa k) 11 = nI (M 21 k) ∧ xr S (qa k) 12 = (mnext M k).map qa
def rB (S : xS) (qa la : Nat → Nat) (M : mT) (j : Nat) : Prop :=
  (xc S (la j) = 1 ∧ la j < xn S) ∧ xr S (la j) 0 = (if M 26 j = 0 then none else some (qa (M 26 j - 1))) ∧ xi S (la j) 1 = nI (M 27 j)
def rI (f : Nat → Nat) (n : Nat) : Prop := ∀ i j, i < n → j < n → f i = f j → i = j
def rC (S : xS) (th : Nat) (ar pa qa la : Nat → Nat) (M : mT) : Prop :=
  mWF M ∧ rT S th ar M ∧ rA S ar pa qa la M ∧ (∀ p, p < M 4 0 → rP S pa qa M p) ∧ (∀ k, k < M 12 0 → rQ S pa qa la M k) ∧ (∀ j, j < M 25 0 → rB S qa la M j) ∧ rI pa (M 4 0) ∧ rI qa (M 12 0) ∧ rI la (M 25 0)
/-! THE REFERENCE holds the model -/
def ml (f : Nat) : Nat := if f ≤ 3 then 4 else if f ≤ 11 then 32 else if f ≤ 24 then 256 else 64
def mtg (f : Nat) : Nat := if f = 7 ∨ f = 8 ∨ f = 9 ∨ f = 20 ∨ f = 21 then 1003 else 1002
def mar (f : Nat) : Bool := decide (f < 28) && decide (f ≠ 0) && decide (f ≠ 4) && decide (f ≠ 12) && decide (f ≠ 25)
def rM (S : xS) (mo : Nat) (A : Nat → Nat) (M : mT) : Prop :=
  mWF M ∧ (xc S mo = 5 ∧ mo < xn S) ∧ (∀ f, mar f = true → xr S mo f = some (A f) ∧ A f < xn S ∧ xc S (A f) = mtg f ∧ xl S (A f) = ml f) ∧ (∀ f g, mar f = true → mar g = true → A f = A g → f = g) ∧
  (xi S mo 0 = nI (M 0 0) ∧ xi S mo 4 = nI (M 4 0) ∧ xi S mo 12 = nI (M 12 0) ∧ xi S mo 25 = nI (M 25 0)) ∧
  (∀ o, o < 4 → xi S (A 1) o = nI (2 ^ M 1 o)) ∧
  (∀ p, p < M 4 0 → xi S (A 5) p = nI (M 5 p) ∧ xi S (A 6) p = nI (2 ^ M 6 p) ∧ xi S (A 7) p = nI (M 7 p) ∧ xi S (A 8) p = nI (M 8 p)) ∧
  (∀ p, M 4 0 ≤ p → p < 32 → xi S (A 7) p = 0 ∧ xi S (A 8) p = 0) ∧
  (∀ k, k < M 12 0 → xi S (A 13) k = nI (M 13 k) ∧ xi S (A 14) k = nI (M 14 k) ∧ (M 13 k ≠ 4 → xi S (A 15) k = nI (M 15 k)) ∧ xi S (A 16) k = nI (M 16 k) ∧ xi S (A 17) k = nI (M 17 k) ∧ xi S (A 18) k = nI (M 18 k) ∧ xi S (A 19) k = nI (M 19 k) ∧ xi S (A 20) k = nI (M 20 k) ∧ xi S (A 21) k = nI (M 21 k)) ∧
  (∀ k, M 12 0 ≤ k → k < 256 → xi S (A 17) k = 0 ∧ xi S (A 18) k = 0 ∧ xi S (A 19) k = 0 ∧ xi S (A 20) k = 0 ∧ xi S (A 21) k = 0) ∧
  (∀ j, j < M 25 0 → xi S (A 26) j = nI (M 26 j) - 1 ∧ xi S (A 27) j = nI (M 27 j)) ∧
  (∀ j, M 25 0 ≤ j → j < 64 → xi S (A 27) j = 0)
/-! what one side's work leaves alone -/
def tC (t : Nat) : Bool := t == 1 || t == 2 || t == 3 || t == 4 || t == 1001 || t == 2001 || t == 2002 || t == 2003
def tM (t : Nat) : Bool := t == 5 || t == 1002 || t == 1003
def xFr (T : Nat → Bool) (S S' : xS) : Prop := xn S ≤ xn S' ∧ ∀ a, a < xn S → xc S' a = xc S a ∧ xl S' a = xl S a ∧ (T (xc S a) = false → ∀ k, xi S' a k = xi S a k ∧ xr S' a k = xr S a k)
theorem xFr.rf (T : Nat → Bool) (S : xS) : xFr T S S := ⟨Nat.le_refl _, fun _ _ => ⟨rfl, rfl, fun _ _ => ⟨rfl, rfl⟩⟩⟩
theorem xFr.tr {T : Nat → Bool} {S S1 S2 : xS} (h : xFr T S S1) (h1 : xFr T S1 S2) : xFr T S S2 := by
  refine ⟨Nat.le_trans h.1 h1.1, fun a ha => ?_⟩
  obtain ⟨a1, a2, a3⟩ := h.2 a ha
  obtain ⟨b1, b2, b3⟩ := h1.2 a (Nat.lt_of_lt_of_le ha h.1)
  refine ⟨b1.trans a1, b2.trans a2, fun ht k => ?_⟩
  have b4 := b3 (by rw [a1]; exact ht) k
  exact ⟨b4.1.trans (a3 ht k).1, b4.2.trans (a3 ht k).2⟩
theorem xFr.pi {T : Nat → Bool} {S : xS} {a k : Nat} {x : Int32} (h : T (xc S a) = true) : xFr T S (xpi S a k x) := by
  refine ⟨Nat.le_refl _, fun b _ => ⟨rfl, rfl, fun ht j => ⟨?_, rfl⟩⟩⟩
  rw [xi_pi, if_neg]
  rintro ⟨rfl, -⟩
  rw [h] at ht
  cases ht
theorem xFr.pr {T : Nat → Bool} {S : xS} {a k : Nat} {x : Option Nat} (h : T (xc S a) = true) : xFr T S (xpr S a k x) := by
  refine ⟨Nat.le_refl _, fun b _ => ⟨rfl, rfl, fun ht j => ⟨rfl, ?_⟩⟩⟩
  rw [xr_pr, if_neg]
  rintro ⟨rfl, -⟩
  rw [h] at ht
  cases ht
theorem xFr.mk {T : Nat → Bool} {S : xS} {t n : Nat} : xFr T S (xmk S t n) := by
  refine ⟨Nat.le_succ _, fun b hb => ⟨?_, ?_, fun _ j => ⟨?_, ?_⟩⟩⟩
  · rw [xc_mk, if_neg (Nat.ne_of_lt hb)]
  · rw [xl_mk, if_neg (Nat.ne_of_lt hb)]
  · rw [xi_mk, if_neg (Nat.ne_of_lt hb)]
  · rw [xr_mk, if_neg (Nat.ne_of_lt hb)]
/-! THE CALLS on the model: what is answered, and the state behind it -/
def inR (x : Int32) (lo hi : Int) : Bool := decide (lo ≤ x.toInt) && decide (x.toInt ≤ hi)
def isP (M : mT) (x : Int32) : Bool := decide (0 ≤ x.toInt) && decide (x.toInt < M 4 0)
def isQ (M : mT) (x : Int32) : Bool := decide (0 ≤ x.toInt) && decide (x.toInt < M 12 0)
def isL (M : mT) (x : Int32) : Bool := decide (0 ≤ x.toInt) && decide (x.toInt < M 25 0)
def mpart (M : mT) (o p : Nat) : mT := mset (mset (mset (mset (mset M 5 (M 4 0) o) 6 (M 4 0) p) 7 (M 4 0) 0) 8 (M 4 0) 0) 4 0 (M 4 0 + 1)
def oPart (M : mT) (x y : Int32) : Int32 × mT := if M 4 0 < 32 ∧ inR x 0 3 = true ∧ inR y 0 12 = true then (nI (M 4 0), mpart M x.toNatClampNeg y.toNatClampNeg) else (-1, M)
def madd (M : mT) (pt s n w lb c t : Nat) : mT :=
  mset (mset (mset (mset (mset (mset (mset (mset (mset (mset M 13 (M 12 0) s) 14 (M 12 0) pt) 15 (M 12 0) n) 16 (M 12 0) n) 17 (M 12 0) w) 18 (M 12 0) lb) 19 (M 12 0) c) 20 (M 12 0) t) 21 (M 12 0) 0) 12 0 (M 12 0 + 1)
def oPlain (M : mT) (x n : Int32) : Int32 × mT := if M 12 0 < 256 ∧ isP M x = true ∧ inR n 0 4194304 = true then (nI (M 12 0), madd M x.toNatClampNeg 0 n.toNatClampNeg 0 0 0 0) else (-1, M)
def oAimed (M : mT) (s : Nat) (x y c : Int32) (t : Nat) : Int32 × mT := if M 12 0 < 256 ∧ isP M x = true ∧ isL M y = true then (nI (M 12 0), madd M x.toNatClampNeg s (mgr s) 0 y.toNatClampNeg c.toBitVec.toNat t) else (-1, M)
def oFill (M : mT) (x p n : Int32) : Int32 × mT := if M 12 0 < 256 ∧ isP M x = true ∧ inR p 0 12 = true ∧ inR n 0 4096 = true then (nI (M 12 0), madd M x.toNatClampNeg 4 n.toNatClampNeg p.toNatClampNeg 0 0 0) else (-1, M)
def oLabel (M : mT) : Int32 × mT := if M 25 0 < 64 then (nI (M 25 0), mset (mset (mset M 26 (M 25 0) 0) 27 (M 25 0) 0) 25 0 (M 25 0 + 1)) else (-1, M)
def oPut (M : mT) (y x a : Int32) : Int32 × mT := if isL M y = true ∧ isQ M x = true ∧ inR a 0 (if M 13 x.toNatClampNeg = 0 then M 16 x.toNatClampNeg else 1) = true then (1, mset (mset M 26 y.toNatClampNeg (x.toNatClampNeg + 1)) 27 y.toNatClampNeg a.toNatClampNeg) else (0, M)
def oBase (M : mT) (x : Int32) : Int32 × mT := if inR x 0 1048576 = true then (1, mset M 0 0 x.toNatClampNeg) else (0, M)
def oAlign (M : mT) (x y : Int32) : Int32 × mT := if inR x 0 3 = true ∧ inR y 0 12 = true then (1, mset M 1 x.toNatClampNeg y.toNatClampNeg) else (0, M)
def oRoot (M : mT) (x : Int32) (on : Nat) : Int32 × mT := if isP M x = true ∧ M 7 x.toNatClampNeg ≠ on then (1, mset M 7 x.toNatClampNeg on) else (0, M)
-- the class's side, the reference's side, addresses left out
def rCx (S : xS) (th : Nat) (M : mT) : Prop := ∃ ar pa qa la, rC S th ar pa qa la M
def rMx (S : xS) (mo : Nat) (M : mT) : Prop := ∃ A, rM S mo A M
def oC (S : xS) (th : Nat) (o : Int32 × mT) : Option xVal → xS → Prop := fun r S' => r = some (.inl o.1) ∧ rCx S' th o.2 ∧ xFr tC S S'
def oM (S : xS) (mo : Nat) (o : Int32 × mT) : Option xVal → xS → Prop := fun r S' => r = some (.inl o.1) ∧ rMx S' mo o.2 ∧ xFr tM S S'
theorem inR_iff {x : Int32} {lo hi : Int} : inR x lo hi = true ↔ lo ≤ x.toInt ∧ x.toInt ≤ hi := by simp [inR]
theorem isP_iff {M : mT} {x : Int32} : isP M x = true ↔ 0 ≤ x.toInt ∧ x.toInt < M 4 0 := by simp [isP]
theorem isQ_iff {M : mT} {x : Int32} : isQ M x = true ↔ 0 ≤ x.toInt ∧ x.toInt < M 12 0 := by simp [isQ]
theorem isL_iff {M : mT} {x : Int32} : isL M x = true ↔ 0 ≤ x.toInt ∧ x.toInt < M 25 0 := by simp [isL]
theorem nI_cl {x : Int32} (h : 0 ≤ x.toInt) : nI x.toNatClampNeg = x := by
  have e : x.toNatClampNeg = x.toInt.toNat := rfl
  have hb := Int32.toInt_lt x
  apply Int32.toInt_inj.mp
  rw [nI_toInt (by omega)]
  omega
