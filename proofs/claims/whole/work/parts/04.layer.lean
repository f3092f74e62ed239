/-! THE LAYER: a method's walk over a picture of the heap that is functions of addresses (x-rows). -/
-- values: an int, a long, a reference or null
abbrev xVal : Type := Int32 ⊕ (Int64 ⊕ Option Nat)
def xv (v : xVal) : Value := match v with
  | .inl x => .int x
  | .inr (.inl y) => .long y
  | .inr (.inr o) => va_rf o
def xcat (v : xVal) : Nat := match v with
  | .inl _ => 1
  | .inr (.inl _) => 2
  | .inr (.inr _) => 1
theorem xcat_ok (v : xVal) : (xv v).category = xcat v := by
  rcases v with x | y | o
  · rfl
  · rfl
  · cases o <;> rfl
-- the heap: its size, the tag of a cell (0: none of ours), its ints, its references, its length
abbrev xS : Type := Nat × (Nat → Nat) × (Nat → Nat → Int32) × (Nat → Nat → Option Nat) × (Nat → Nat)
def xn (S : xS) : Nat := S.1
def xc (S : xS) : Nat → Nat := S.2.1
def xi (S : xS) : Nat → Nat → Int32 := S.2.2.1
def xr (S : xS) : Nat → Nat → Option Nat := S.2.2.2.1
def xl (S : xS) : Nat → Nat := S.2.2.2.2
def xpi (S : xS) (a k : Nat) (x : Int32) : xS := (xn S, xc S, fun b j => if b = a ∧ j = k then x else xi S b j, xr S, xl S)
def xpr (S : xS) (a k : Nat) (o : Option Nat) : xS := (xn S, xc S, xi S, fun b j => if b = a ∧ j = k then o else xr S b j, xl S)
def xmk (S : xS) (t n : Nat) : xS := (xn S + 1, fun b => if b = xn S then t else xc S b, fun b j => if b = xn S then 0 else xi S b j, fun b j => if b = xn S then none else xr S b j, fun b => if b = xn S then n else xl S b)
theorem xn_pi (S : xS) (a k : Nat) (x : Int32) : xn (xpi S a k x) = xn S := rfl
theorem xc_pi (S : xS) (a k : Nat) (x : Int32) : xc (xpi S a k x) = xc S := rfl
theorem xr_pi (S : xS) (a k : Nat) (x : Int32) : xr (xpi S a k x) = xr S := rfl
theorem xl_pi (S : xS) (a k : Nat) (x : Int32) : xl (xpi S a k x) = xl S := rfl
theorem xi_pi (S : xS) (a k : Nat) (x : Int32) (b j : Nat) : xi (xpi S a k x) b j = if b = a ∧ j = k then x else xi S b j := rfl
theorem xn_pr (S : xS) (a k : Nat) (o : Option Nat) : xn (xpr S a k o) = xn S := rfl
theorem xc_pr (S : xS) (a k : Nat) (o : Option Nat) : xc (xpr S a k o) = xc S := rfl
theorem xi_pr (S : xS) (a k : Nat) (o : Option Nat) : xi (xpr S a k o) = xi S := rfl
theorem xl_pr (S : xS) (a k : Nat) (o : Option Nat) : xl (xpr S a k o) = xl S := rfl
theorem xr_pr (S : xS) (a k : Nat) (o : Option Nat) (b j : Nat) : xr (xpr S a k o) b j = if b = a ∧ j = k then o else xr S b j := rfl
theorem xn_mk (S : xS) (t n : Nat) : xn (xmk S t n) = xn S + 1 := rfl
theorem xc_mk (S : xS) (t n b : Nat) : xc (xmk S t n) b = if b = xn S then t else xc S b := rfl
theorem xi_mk (S : xS) (t n b j : Nat) : xi (xmk S t n) b j = if b = xn S then 0 else xi S b j := rfl
theorem xr_mk (S : xS) (t n b j : Nat) : xr (xmk S t n) b j = if b = xn S then none else xr S b j := rfl
theorem xl_mk (S : xS) (t n b : Nat) : xl (xmk S t n) b = if b = xn S then n else xl S b := rfl
-- a field's, or an element's, value by its type
def xfv (ty : FieldType) (S : xS) (a k : Nat) : Value := match ty with
  | .object _ => va_rf (xr S a k)
  | .array _ => va_rf (xr S a k)
  | _ => .int (xi S a k)
theorem xfv_congr {ty : FieldType} {S S' : xS} {a k : Nat} (h1 : xi S' a k = xi S a k) (h2 : xr S' a k = xr S a k) : xfv ty S' a k = xfv ty S a k := by
  cases ty <;> simp [xfv, h1, h2]
theorem xfv_R {ty : FieldType} (h : xisR ty = true) (S : xS) (a k : Nat) : xfv ty S a k = va_rf (xr S a k) := by
  cases ty <;> simp_all [xfv, xisR]
theorem xfv_I {ty : FieldType} (h : xisR ty = false) (S : xS) (a k : Nat) : xfv ty S a k = .int (xi S a k) := by
  cases ty <;> simp_all [xfv, xisR]
-- the picture
def xObj (D : va_G) (S : xS) (a ci : Nat) (q : vw_C) (H : Heap) : Prop := t_OB a (D.1 ci) q.2.2 (D.2 ci) H (fun k => xfv (xty ci k) S a k)
def xArr (U : State) (S : xS) (a : Nat) (ty : FieldType) (H : Heap) : Prop := ∃ (cell : Cell) (kA : Class) (comp : ClassId), H[a]? = some cell ∧ (∀ z, cell.vm ≠ .statics z) ∧ cell.vm ≠ .unknown ∧ U.vm.classes[cell.cls]? = some kA ∧ kA.kind = .array comp ty ∧ (∀ C, ty = .object C → U.vm.findClass C = some comp) ∧ cell.slots.size = xl S a ∧ ∀ j, j < xl S a → cell.slots[j]? = some (xfv ty S a j)
def xRel (D : va_G) (n0 : Nat) (U : State) (S : xS) (H : Heap) : Prop :=
  H.size = xn S ∧ n0 ≤ xn S ∧ (∀ a, xn S ≤ a → xc S a = 0) ∧ (∀ a ci q, xc S a = ci + 1 → xcls[ci]? = some q → xObj D S a ci q H) ∧ (∀ a ty, xat (xc S a) = some ty → xArr U S a ty H) ∧ ∀ a, xc S a ≠ 0 → xc S a ≠ 999 → n0 ≤ a
theorem xArr.moved {u U : State} {S : xS} {a : Nat} {ty : FieldType} {H : Heap} (hvm : u.vm.Alike U.vm) (h : xArr u S a ty H) : xArr U S a ty H := by
  obtain ⟨cell, kA, comp, h1, h2, h3, h4, h5, h6, h7, h8⟩ := h
  obtain ⟨k', hk', he⟩ := hvm.2.2 _ _ h4
  exact ⟨cell, k', comp, h1, h2, h3, hk', by rw [he]; exact h5, fun C hC => by rw [hvm.findClass]; exact h6 C hC, h7, h8⟩
theorem xRel.moved {D : va_G} {n0 : Nat} {u U : State} {S : xS} {H : Heap} (hvm : u.vm.Alike U.vm) (h : xRel D n0 u S H) : xRel D n0 U S H :=
  ⟨h.1, h.2.1, h.2.2.1, h.2.2.2.1, fun a ty ha => (h.2.2.2.2.1 a ty ha).moved hvm, h.2.2.2.2.2⟩
theorem xArr.isA {U : State} {S : xS} {a : Nat} {ty : FieldType} {H : Heap} (h : xArr U S a ty H) : ∃ cell : Cell, H[a]? = some cell ∧ U.isArrayOf cell ty ∧ cell.vm ≠ .unknown ∧ cell.slots.size = xl S a ∧ ∀ j, j < xl S a → cell.slots[j]? = some (xfv ty S a j) := by
  obtain ⟨cell, kA, comp, h1, h2, h3, h4, h5, h6, h7, h8⟩ := h
  exact ⟨cell, h1, ⟨h2, kA, h4, comp, h5⟩, h3, h7, h8⟩
theorem xRel.lt {D : va_G} {n0 : Nat} {U : State} {S : xS} {H : Heap} (h : xRel D n0 U S H) {a : Nat} (ha : xc S a ≠ 0) : a < xn S := by
  rcases Nat.lt_or_ge a (xn S) with q | q
  · exact q
  · exact absurd (h.2.2.1 a q) ha
/-- a cell has changed in the heap and in the picture, nothing else -/
theorem xRel.set {D : va_G} {n0 : Nat} {U : State} {S S' : xS} {H H' : Heap} {a : Nat} (h : xRel D n0 U S H) (hn : xn S' = xn S) (hc : xc S' = xc S) (hl : xl S' = xl S)
    (hi : ∀ b j, b ≠ a → xi S' b j = xi S b j) (hr : ∀ b j, b ≠ a → xr S' b j = xr S b j) (hz : H'.size = H.size) (ho : ∀ q, q ≠ a → H'[q]? = H[q]?)
    (h1 : ∀ ci q, xc S a = ci + 1 → xcls[ci]? = some q → xObj D S' a ci q H') (h2 : ∀ ty, xat (xc S a) = some ty → xArr U S' a ty H') : xRel D n0 U S' H' := by
  obtain ⟨g1, g2, g3, g4, g5, g6⟩ := h
  refine ⟨by rw [hz, hn]; exact g1, by rw [hn]; exact g2, by rw [hn, hc]; exact g3, fun b ci q hb hq => ?_, fun b ty hb => ?_, by rw [hc]; exact g6⟩
  · rw [hc] at hb
    by_cases e : b = a
    · subst e; exact h1 ci q hb hq
    · have g := g4 b ci q hb hq
      exact (g.kept (ho b e)).to (fun k _ => (xfv_congr (hi b k e) (hr b k e)).symm)
  · rw [hc] at hb
    by_cases e : b = a
    · subst e; exact h2 ty hb
    · obtain ⟨cell, kA, comp, q1, q2, q3, q4, q5, q6, q7, q8⟩ := g5 b ty hb
      exact ⟨cell, kA, comp, by rw [ho b e]; exact q1, q2, q3, q4, q5, q6, by rw [hl]; exact q7, fun j hj => by rw [hl] at hj; rw [xfv_congr (hi b j e) (hr b j e)]; exact q8 j hj⟩
/-- a cell is new -/
theorem xRel.push {D : va_G} {n0 : Nat} {U : State} {S : xS} {H H' : Heap} {t n : Nat} (h : xRel D n0 U S H) (hz : H'.size = xn S + 1) (ho : ∀ q, q < xn S → H'[q]? = H[q]?)
    (h1 : ∀ ci q, t = ci + 1 → xcls[ci]? = some q → xObj D (xmk S t n) (xn S) ci q H') (h2 : ∀ ty, xat t = some ty → xArr U (xmk S t n) (xn S) ty H') : xRel D n0 U (xmk S t n) H' := by
  have hlt := fun a => h.lt (a := a)
  obtain ⟨g1, g2, g3, g4, g5, g6⟩ := h
  have hX0 : xat 0 = none := rfl
  refine ⟨by rw [hz, xn_mk], by rw [xn_mk]; omega, fun a ha => ?_, fun b ci q hb hq => ?_, fun b ty hb => ?_, fun a ha hb => ?_⟩
  · rw [xn_mk] at ha
    rw [xc_mk, if_neg (by omega)]
    exact g3 a (by omega)
  · rw [xc_mk] at hb
    by_cases e : b = xn S
    · rw [if_pos e] at hb; subst e; exact h1 ci q hb hq
    · rw [if_neg e] at hb
      have hb' : b < xn S := hlt b (by rw [hb]; exact Nat.succ_ne_zero _)
      exact ((g4 b ci q hb hq).kept (ho b hb')).to (fun k _ => (xfv_congr (by rw [xi_mk, if_neg e]) (by rw [xr_mk, if_neg e])).symm)
  · rw [xc_mk] at hb
    by_cases e : b = xn S
    · rw [if_pos e] at hb; subst e; exact h2 ty hb
    · rw [if_neg e] at hb
      have hb' : b < xn S := hlt b (by intro z; rw [z, hX0] at hb; cases hb)
      obtain ⟨cell, kA, comp, q1, q2, q3, q4, q5, q6, q7, q8⟩ := g5 b ty hb
      exact ⟨cell, kA, comp, by rw [ho b hb']; exact q1, q2, q3, q4, q5, q6, by rw [xl_mk, if_neg e]; exact q7, fun j hj => by
        rw [xl_mk, if_neg e] at hj
        rw [xfv_congr (S := S) (by rw [xi_mk, if_neg e]) (by rw [xr_mk, if_neg e])]
        exact q8 j hj⟩
  · rw [xc_mk] at ha hb
    by_cases e : a = xn S
    · omega
    · rw [if_neg e] at ha hb
      exact g6 a ha hb
-- the locals: a list, 'none' where nothing is known
def xLs (ls : Array Slot) (nL : Nat) (lv : List (Option xVal)) : Prop := (ls.size = nL ∧ lv.length ≤ nL) ∧ lv_wf ls ∧ ∀ (i : Nat) (v : xVal), lv[i]? = some (some v) → ls[i]? = some (.val (xv v))
def xas : List (Option xVal) → Nat → List (Nat × Value)
  | [], _ => []
  | none :: t, i => xas t (i + 1)
  | some v :: t, i => (i, xv v) :: xas t (i + 1)
theorem xas_mem : ∀ (lv : List (Option xVal)) (i0 : Nat) (q : Nat × Value), q ∈ xas lv i0 ↔ ∃ (k : Nat) (w : xVal), q = (i0 + k, xv w) ∧ lv[k]? = some (some w)
  | [], i0, q => by simp [xas]
  | none :: t, i0, q => by
    rw [xas, xas_mem t (i0 + 1) q]
    constructor
    · rintro ⟨k, w, h1, h2⟩
      exact ⟨k + 1, w, by rw [h1]; congr 1; omega, by simpa using h2⟩
    · rintro ⟨k, w, h1, h2⟩
      cases k with
      | zero => simp at h2
      | succ k => exact ⟨k, w, by rw [h1]; congr 1; omega, by simpa using h2⟩
  | some v :: t, i0, q => by
    rw [xas, List.mem_cons, xas_mem t (i0 + 1) q]
    constructor
    · rintro (h | ⟨k, w, h1, h2⟩)
      · exact ⟨0, v, h, rfl⟩
      · exact ⟨k + 1, w, by rw [h1]; congr 1; omega, by simpa using h2⟩
    · rintro ⟨k, w, h1, h2⟩
      cases k with
      | zero =>
        left
        simp at h2
        rw [h1, h2]; rfl
      | succ k => exact Or.inr ⟨k, w, by rw [h1]; congr 1; omega, by simpa using h2⟩
theorem xLs.has {ls : Array Slot} {nL : Nat} {lv : List (Option xVal)} (h : xLs ls nL lv) : lv_has ls nL (xas lv 0) := by
  refine ⟨h.1.1, h.2.1, fun q hq => ?_⟩
  obtain ⟨k, w, e, hk⟩ := (xas_mem lv 0 q).mp hq
  subst e
  simpa using h.2.2 k w hk
-- is the slot ahead of i free of a long?
def xprev (lv : List (Option xVal)) (i : Nat) : Bool := match i with
  | 0 => true
  | j + 1 => match lv[j]? with
    | some (some (.inr (.inl _))) => false
    | _ => true
theorem xprev_ok {lv : List (Option xVal)} {i j : Nat} {w : xVal} (h : xprev lv i = true) (hj : lv[j]? = some (some w)) (e : j + 1 = i) : ¬ (xv w).category = 2 := by
  subst e
  simp only [xprev, hj] at h
  rw [xcat_ok]
  rcases w with x | y | o
  · simp [xcat]
  · simp at h
  · simp [xcat]
theorem xset_get {lv : List (Option xVal)} {i j : Nat} {v : Option xVal} {w : xVal} (h : (lv.set i v)[j]? = some (some w)) : (j = i ∧ v = some w) ∨ (j ≠ i ∧ lv[j]? = some (some w)) := by
  by_cases e : j = i
  · subst e
    left
    refine ⟨rfl, ?_⟩
    rw [List.getElem?_set] at h
    simp at h
    exact h.2
  · right
    rw [List.getElem?_set_ne (Ne.symm e)] at h
    exact ⟨e, h⟩
theorem xLs.of1 {ls' : Array Slot} {nL i : Nat} {lv : List (Option xVal)} {v : xVal} (hz : lv.length ≤ nL) (hp : xprev lv i = true)
    (h' : lv_has ls' nL ((i, xv v) :: (xas lv 0).filter (fun q => !(q.1 == i) && !(q.1 + 1 == i && q.2.category == 2)))) : xLs ls' nL (lv.set i (some v)) := by
  refine ⟨⟨h'.1, by simpa using hz⟩, h'.2.1, fun j w hj => ?_⟩
  rcases xset_get hj with ⟨rfl, e⟩ | ⟨e, hk⟩
  · cases e
    exact h'.2.2 _ List.mem_cons_self
  · refine h'.2.2 (j, xv w) (List.mem_cons_of_mem _ (List.mem_filter.mpr ⟨(xas_mem lv 0 _).mpr ⟨j, w, by simp, hk⟩, ?_⟩))
    have h2 := fun z => xprev_ok hp hk z
    simp only [Bool.and_eq_true, Bool.not_eq_true', beq_eq_false_iff_ne, Bool.and_eq_false_iff]
    refine ⟨e, ?_⟩
    by_cases z : j + 1 = i
    · exact Or.inr (h2 z)
    · exact Or.inl z
theorem xLs.of2 {ls' : Array Slot} {nL i : Nat} {lv : List (Option xVal)} {v : xVal} (hz : lv.length ≤ nL) (hp : xprev lv i = true)
    (h' : lv_has ls' nL ((i, xv v) :: (xas lv 0).filter (fun q => !(q.1 == i) && (!(q.1 == i + 1) && !(q.1 + 1 == i && q.2.category == 2))))) : xLs ls' nL ((lv.set i (some v)).set (i + 1) none) := by
  refine ⟨⟨h'.1, by simpa using hz⟩, h'.2.1, fun j w hj => ?_⟩
  rcases xset_get hj with ⟨-, e⟩ | ⟨e1, hj⟩
  · cases e
  rcases xset_get hj with ⟨rfl, e⟩ | ⟨e, hk⟩
  · cases e
    exact h'.2.2 _ List.mem_cons_self
  · refine h'.2.2 (j, xv w) (List.mem_cons_of_mem _ (List.mem_filter.mpr ⟨(xas_mem lv 0 _).mpr ⟨j, w, by simp, hk⟩, ?_⟩))
    have h2 := fun z => xprev_ok hp hk z
    simp only [Bool.and_eq_true, Bool.not_eq_true', beq_eq_false_iff_ne, Bool.and_eq_false_iff]
    refine ⟨e, e1, ?_⟩
    by_cases z : j + 1 = i
    · exact Or.inr (h2 z)
    · exact Or.inl z
-- fewer known locals
def xle : List (Option xVal) → List (Option xVal) → Prop
  | [], [] => True
  | none :: t, _ :: t' => xle t t'
  | some v :: t, o :: t' => o = some v ∧ xle t t'
  | _, _ => False
theorem xle_get : ∀ (l l' : List (Option xVal)), xle l l' → l.length = l'.length ∧ ∀ (i : Nat) (v : xVal), l[i]? = some (some v) → l'[i]? = some (some v)
  | [], [], _ => ⟨rfl, fun i v h => h⟩
  | [], _ :: _, h => (h : False).elim
  | none :: t, [], h => (h : False).elim
  | some w :: t, [], h => (h : False).elim
  | none :: t, o :: t', hl => by
    obtain ⟨h1, h2⟩ := xle_get t t' hl
    refine ⟨by simp [h1], fun i v h => ?_⟩
    cases i with
    | zero => simp at h
    | succ i => simpa using h2 i v (by simpa using h)
  | some w :: t, o :: t', hl => by
    obtain ⟨e, hl⟩ := hl
    obtain ⟨h1, h2⟩ := xle_get t t' hl
    refine ⟨by simp [h1], fun i v h => ?_⟩
    cases i with
    | zero => simp at h; simp [e, h]
    | succ i => simpa using h2 i v (by simpa using h)
theorem xLs.le {ls : Array Slot} {nL : Nat} {l l' : List (Option xVal)} (h : xLs ls nL l') (hl : xle l l') : xLs ls nL l :=
  ⟨⟨h.1.1, by rw [(xle_get l l' hl).1]; exact h.1.2⟩, h.2.1, fun i v hi => h.2.2 i v ((xle_get l l' hl).2 i v hi)⟩
