/-! ONE INSTRUCTION, over the picture -/
def xget : List (Option xVal) → Nat → Option xVal
  | [], _ => none
  | o :: _, 0 => o
  | _ :: t, n + 1 => xget t n
theorem xget_ok : ∀ (lv : List (Option xVal)) (i : Nat) (v : xVal), xget lv i = some v → lv[i]? = some (some v)
  | [], i, v, h => by simp [xget] at h
  | o :: t, 0, v, h => by simp [xget] at h; simp [h]
  | o :: t, n + 1, v, h => by simpa using xget_ok t n v (by simpa [xget] using h)
def xtgt (pc : Nat) (off : Int) : Nat := ((pc : Int) + off).toNat
theorem xtgt_ok {pc : Nat} {off : Int} (h : 0 ≤ (pc : Int) + off) : (pc : Int) + off = (xtgt pc off : Int) := by unfold xtgt; omega
abbrev xKt : Type := Nat → List (Option xVal) → List xVal → xS → Nat → Nat → Prop
abbrev xEt : Type := Option xVal → xS → Nat → Nat → Prop
def xcmp (c : ClassFile.Cond) (x y : Int32) (A B : Prop) : Prop := match c with
  | .eq => (x = y → A) ∧ (¬ x = y → B)
  | .ne => (¬ x = y → A) ∧ (x = y → B)
  | .lt => (x < y → A) ∧ (¬ x < y → B)
  | .ge => (y ≤ x → A) ∧ (¬ y ≤ x → B)
  | .gt => (y < x → A) ∧ (¬ y < x → B)
  | .le => (x ≤ y → A) ∧ (¬ x ≤ y → B)
def xacmp (c : ClassFile.ACond) (x y : Option Nat) (A B : Prop) : Prop := match c with
  | .eq => (x = y → A) ∧ (¬ x = y → B)
  | .ne => (¬ x = y → A) ∧ (x = y → B)
/-- the table of a switch: from the number i on -/
def xsw (x : Int) (pc : Nat) (K : Nat → Prop) : List Int → Int → Prop
  | [], _ => True
  | o :: t, i => (x = i → 0 ≤ (pc : Int) + o ∧ K (xtgt pc o)) ∧ xsw x pc K t (i + 1)
def xlk (x : Int) (pc : Nat) (K : Nat → Prop) (d : Int) : List (Int × Int) → Prop
  | [] => 0 ≤ (pc : Int) + d ∧ K (xtgt pc d)
  | q :: t => (x = q.1 → 0 ≤ (pc : Int) + q.2 ∧ K (xtgt pc q.2)) ∧ (¬ x = q.1 → xlk x pc K d t)
/-- an int is stored in a field or an element of that type as it is -/
def xfit (ty : FieldType) (x : Int32) : Prop := xisR ty = false ∧ narrow ty (.int x) = .int x ∧ fits ty (.int x) = true
def xstep (own : Nat) (ini : Bool) (ret : Option FieldType) (R : Room) (i : Instr) (len pc : Nat) (lv : List (Option xVal)) (st : List xVal) (S : xS) (cs sl : Nat) (K : xKt) (E : xEt) : Prop := match i with
  | .aconst_null => len = 1 ∧ K (pc + 1) lv (.inr (.inr none) :: st) S cs sl
  | .iconst n => len = 1 ∧ K (pc + 1) lv (.inl (Int32.ofInt n) :: st) S cs sl
  | .bipush n => len = 2 ∧ K (pc + 2) lv (.inl (Int8.ofInt n).toInt32 :: st) S cs sl
  | .sipush n => len = 3 ∧ K (pc + 3) lv (.inl (Int16.ofInt n).toInt32 :: st) S cs sl
  | .lconst n => len = 1 ∧ K (pc + 1) lv (.inr (.inl (Int64.ofNat (n : Nat))) :: st) S cs sl
  | .ldc k => match xki own k with
    | some v => len = 2 ∧ K (pc + 2) lv (.inl v :: st) S cs sl
    | none => False
  | .ldc2_w k => match xkl own k with
    | some v => len = 3 ∧ K (pc + 3) lv (.inr (.inl v) :: st) S cs sl
    | none => False
  | .iload k => match xget lv k with
    | some (.inl x) => len = 2 ∧ K (pc + 2) lv (.inl x :: st) S cs sl
    | _ => False
  | .iload_n k => match xget lv k.val with
    | some (.inl x) => len = 1 ∧ K (pc + 1) lv (.inl x :: st) S cs sl
    | _ => False
  | .lload k => match xget lv k with
    | some (.inr (.inl x)) => len = 2 ∧ K (pc + 2) lv (.inr (.inl x) :: st) S cs sl
    | _ => False
  | .lload_n k => match xget lv k.val with
    | some (.inr (.inl x)) => len = 1 ∧ K (pc + 1) lv (.inr (.inl x) :: st) S cs sl
    | _ => False
  | .aload k => match xget lv k with
    | some (.inr (.inr x)) => len = 2 ∧ K (pc + 2) lv (.inr (.inr x) :: st) S cs sl
    | _ => False
  | .aload_n k => match xget lv k.val with
    | some (.inr (.inr x)) => len = 1 ∧ K (pc + 1) lv (.inr (.inr x) :: st) S cs sl
    | _ => False
  | .istore k => match st with
    | .inl x :: r => len = 2 ∧ k < lv.length ∧ xprev lv k = true ∧ K (pc + 2) (lv.set k (some (.inl x))) r S cs sl
    | _ => False
  | .istore_n k => match st with
    | .inl x :: r => len = 1 ∧ k.val < lv.length ∧ xprev lv k.val = true ∧ K (pc + 1) (lv.set k.val (some (.inl x))) r S cs sl
    | _ => False
  | .astore k => match st with
    | .inr (.inr x) :: r => len = 2 ∧ k < lv.length ∧ xprev lv k = true ∧ K (pc + 2) (lv.set k (some (.inr (.inr x)))) r S cs sl
    | _ => False
  | .astore_n k => match st with
    | .inr (.inr x) :: r => len = 1 ∧ k.val < lv.length ∧ xprev lv k.val = true ∧ K (pc + 1) (lv.set k.val (some (.inr (.inr x)))) r S cs sl
    | _ => False
  | .lstore k => match st with
    | .inr (.inl x) :: r => len = 2 ∧ k + 1 < lv.length ∧ xprev lv k = true ∧ K (pc + 2) ((lv.set k (some (.inr (.inl x)))).set (k + 1) none) r S cs sl
    | _ => False
  | .lstore_n k => match st with
    | .inr (.inl x) :: r => len = 1 ∧ k.val + 1 < lv.length ∧ xprev lv k.val = true ∧ K (pc + 1) ((lv.set k.val (some (.inr (.inl x)))).set (k.val + 1) none) r S cs sl
    | _ => False
  | .iinc k n => match xget lv k with
    | some (.inl x) => len = 3 ∧ k < lv.length ∧ xprev lv k = true ∧ K (pc + 3) (lv.set k (some (.inl (x + Int32.ofInt n)))) st S cs sl
    | _ => False
  | .iadd => match st with
    | .inl y :: .inl x :: r => len = 1 ∧ K (pc + 1) lv (.inl (x + y) :: r) S cs sl
    | _ => False
  | .isub => match st with
    | .inl y :: .inl x :: r => len = 1 ∧ K (pc + 1) lv (.inl (x - y) :: r) S cs sl
    | _ => False
  | .imul => match st with
    | .inl y :: .inl x :: r => len = 1 ∧ K (pc + 1) lv (.inl (x * y) :: r) S cs sl
    | _ => False
  | .idiv => match st with
    | .inl y :: .inl x :: r => len = 1 ∧ ¬ y = 0 ∧ K (pc + 1) lv (.inl (x / y) :: r) S cs sl
    | _ => False
  | .irem => match st with
    | .inl y :: .inl x :: r => len = 1 ∧ ¬ y = 0 ∧ K (pc + 1) lv (.inl (x - x / y * y) :: r) S cs sl
    | _ => False
  | .iand => match st with
    | .inl y :: .inl x :: r => len = 1 ∧ K (pc + 1) lv (.inl (x &&& y) :: r) S cs sl
    | _ => False
  | .ior => match st with
    | .inl y :: .inl x :: r => len = 1 ∧ K (pc + 1) lv (.inl (x ||| y) :: r) S cs sl
    | _ => False
  | .ixor => match st with
    | .inl y :: .inl x :: r => len = 1 ∧ K (pc + 1) lv (.inl (x ^^^ y) :: r) S cs sl
    | _ => False
  | .ishl => match st with
    | .inl y :: .inl x :: r => len = 1 ∧ K (pc + 1) lv (.inl (x <<< (y &&& 31)) :: r) S cs sl
    | _ => False
  | .ishr => match st with
    | .inl y :: .inl x :: r => len = 1 ∧ K (pc + 1) lv (.inl (x >>> (y &&& 31)) :: r) S cs sl
    | _ => False
  | .iushr => match st with
    | .inl y :: .inl x :: r => len = 1 ∧ K (pc + 1) lv (.inl (x.toUInt32 >>> (y.toUInt32 &&& Int32.toUInt32 31)).toInt32 :: r) S cs sl
    | _ => False
  | .ineg => match st with
    | .inl x :: r => len = 1 ∧ K (pc + 1) lv (.inl (-x) :: r) S cs sl
    | _ => False
  | .ladd => match st with
    | .inr (.inl y) :: .inr (.inl x) :: r => len = 1 ∧ K (pc + 1) lv (.inr (.inl (x + y)) :: r) S cs sl
    | _ => False
  | .lsub => match st with
    | .inr (.inl y) :: .inr (.inl x) :: r => len = 1 ∧ K (pc + 1) lv (.inr (.inl (x - y)) :: r) S cs sl
    | _ => False
  | .lmul => match st with
    | .inr (.inl y) :: .inr (.inl x) :: r => len = 1 ∧ K (pc + 1) lv (.inr (.inl (x * y)) :: r) S cs sl
    | _ => False
  | .ldiv => match st with
    | .inr (.inl y) :: .inr (.inl x) :: r => len = 1 ∧ ¬ y = 0 ∧ K (pc + 1) lv (.inr (.inl (x / y)) :: r) S cs sl
    | _ => False
  | .lrem => match st with
    | .inr (.inl y) :: .inr (.inl x) :: r => len = 1 ∧ ¬ y = 0 ∧ K (pc + 1) lv (.inr (.inl (x - x / y * y)) :: r) S cs sl
    | _ => False
  | .land => match st with
    | .inr (.inl y) :: .inr (.inl x) :: r => len = 1 ∧ K (pc + 1) lv (.inr (.inl (x &&& y)) :: r) S cs sl
    | _ => False
  | .lxor => match st with
    | .inr (.inl y) :: .inr (.inl x) :: r => len = 1 ∧ K (pc + 1) lv (.inr (.inl (x ^^^ y)) :: r) S cs sl
    | _ => False
  | .lneg => match st with
    | .inr (.inl x) :: r => len = 1 ∧ K (pc + 1) lv (.inr (.inl (-x)) :: r) S cs sl
    | _ => False
  | .lshl => match st with
    | .inl y :: .inr (.inl x) :: r => len = 1 ∧ K (pc + 1) lv (.inr (.inl (x <<< (y.toInt64 &&& 63))) :: r) S cs sl
    | _ => False
  | .lshr => match st with
    | .inl y :: .inr (.inl x) :: r => len = 1 ∧ K (pc + 1) lv (.inr (.inl (x >>> (y.toInt64 &&& 63))) :: r) S cs sl
    | _ => False
  | .i2l => match st with
    | .inl x :: r => len = 1 ∧ K (pc + 1) lv (.inr (.inl x.toInt64) :: r) S cs sl
    | _ => False
  | .l2i => match st with
    | .inr (.inl x) :: r => len = 1 ∧ K (pc + 1) lv (.inl x.toInt32 :: r) S cs sl
    | _ => False
  | .lcmp => match st with
    | .inr (.inl y) :: .inr (.inl x) :: r => len = 1 ∧ K (pc + 1) lv (.inl (lg_cmp x y) :: r) S cs sl
    | _ => False
  | .dup => match st with
    | .inl x :: r => len = 1 ∧ K (pc + 1) lv (.inl x :: .inl x :: r) S cs sl
    | .inr (.inr x) :: r => len = 1 ∧ K (pc + 1) lv (.inr (.inr x) :: .inr (.inr x) :: r) S cs sl
    | _ => False
  | .pop => match st with
    | .inl _ :: r => len = 1 ∧ K (pc + 1) lv r S cs sl
    | .inr (.inr _) :: r => len = 1 ∧ K (pc + 1) lv r S cs sl
    | _ => False
  | .dup_x1 => match st with
    | v :: w :: r => len = 1 ∧ xcat v = 1 ∧ xcat w = 1 ∧ K (pc + 1) lv (v :: w :: v :: r) S cs sl
    | _ => False
  | .dup_x2 => match st with
    | v :: w :: u :: r => len = 1 ∧ xcat v = 1 ∧ xcat w = 1 ∧ xcat u = 1 ∧ K (pc + 1) lv (v :: w :: u :: v :: r) S cs sl
    | _ => False
  | .dup2 => match st with
    | v :: w :: r => len = 1 ∧ xcat v = 1 ∧ xcat w = 1 ∧ K (pc + 1) lv (v :: w :: v :: w :: r) S cs sl
    | _ => False
  | .goto off => len = 3 ∧ 0 ≤ (pc : Int) + off ∧ K (xtgt pc off) lv st S cs sl
  | .ifCond c off => match st with
    | .inl x :: r => len = 3 ∧ 0 ≤ (pc : Int) + off ∧ xcmp c x 0 (K (xtgt pc off) lv r S cs sl) (K (pc + 3) lv r S cs sl)
    | _ => False
  | .if_icmp c off => match st with
    | .inl y :: .inl x :: r => len = 3 ∧ 0 ≤ (pc : Int) + off ∧ xcmp c x y (K (xtgt pc off) lv r S cs sl) (K (pc + 3) lv r S cs sl)
    | _ => False
  | .if_acmp c off => match st with
    | .inr (.inr y) :: .inr (.inr x) :: r => len = 3 ∧ 0 ≤ (pc : Int) + off ∧ xacmp c x y (K (xtgt pc off) lv r S cs sl) (K (pc + 3) lv r S cs sl)
    | _ => False
  | .ifnull off => match st with
    | .inr (.inr x) :: r => len = 3 ∧ 0 ≤ (pc : Int) + off ∧ (x = none → K (xtgt pc off) lv r S cs sl) ∧ (¬ x = none → K (pc + 3) lv r S cs sl)
    | _ => False
  | .ifnonnull off => match st with
    | .inr (.inr x) :: r => len = 3 ∧ 0 ≤ (pc : Int) + off ∧ (¬ x = none → K (xtgt pc off) lv r S cs sl) ∧ (x = none → K (pc + 3) lv r S cs sl)
    | _ => False
  | .tableswitch d lo hi offs => match st with
    | .inl x :: r => (lo + offs.toList.length = hi + 1) ∧ ((x.toInt < lo ∨ hi < x.toInt) → 0 ≤ (pc : Int) + d ∧ K (xtgt pc d) lv r S cs sl) ∧ xsw x.toInt pc (fun t => K t lv r S cs sl) offs.toList lo
    | _ => False
  | .lookupswitch d ps => match st with
    | .inl x :: r => (ps.toList.zip (ps.toList.drop 1)).all (fun (a, next) => a.1 < next.1) = true ∧ xlk x.toInt pc (fun t => K t lv r S cs sl) d ps.toList
    | _ => False
  | .getfield k => match st with
    | .inr (.inr o) :: r => match xfl own k with
      | some (ci, j, _, ty) => len = 3 ∧ ∃ a, o = some a ∧ xc S a = ci + 1 ∧ K (pc + 3) lv ((if xisR ty = true then .inr (.inr (xr S a j)) else .inl (xi S a j)) :: r) S cs sl
      | none => False
    | _ => False
  | .putfield k => match st with
    | .inl x :: .inr (.inr o) :: r => match xfl own k with
      | some (ci, j, fin, ty) => len = 3 ∧ (fin = false ∨ (ini = true ∧ xnm own = xnm ci)) ∧ xfit ty x ∧ ∃ a, o = some a ∧ xc S a = ci + 1 ∧ K (pc + 3) lv r (xpi S a j x) cs sl
      | none => False
    | .inr (.inr v) :: .inr (.inr o) :: r => match xfl own k with
      | some (ci, j, fin, ty) => len = 3 ∧ (fin = false ∨ (ini = true ∧ xnm own = xnm ci)) ∧ xisR ty = true ∧ ∃ a, o = some a ∧ xc S a = ci + 1 ∧ K (pc + 3) lv r (xpr S a j v) cs sl
      | none => False
    | _ => False
  | .arraylength => match st with
    | .inr (.inr o) :: r => len = 1 ∧ ∃ a, o = some a ∧ (∃ ty, xat (xc S a) = some ty) ∧ K (pc + 1) lv (.inl (Int32.ofNat (xl S a)) :: r) S cs sl
    | _ => False
  | .iaload => match st with
    | .inl x :: .inr (.inr o) :: r => len = 1 ∧ ∃ a, o = some a ∧ xat (xc S a) = some .int ∧ vp_in x (xl S a) ∧ K (pc + 1) lv (.inl (xi S a x.toNatClampNeg) :: r) S cs sl
    | _ => False
  | .baload => match st with
    | .inl x :: .inr (.inr o) :: r => len = 1 ∧ ∃ a, o = some a ∧ xat (xc S a) = some .boolean ∧ vp_in x (xl S a) ∧ K (pc + 1) lv (.inl (xi S a x.toNatClampNeg) :: r) S cs sl
    | _ => False
  | .bastore => match st with
    | .inl v :: .inl x :: .inr (.inr o) :: r => len = 1 ∧ ∃ a, o = some a ∧ xat (xc S a) = some .boolean ∧ narrow .boolean (.int v) = .int v ∧ vp_in x (xl S a) ∧ K (pc + 1) lv r (xpi S a x.toNatClampNeg v) cs sl
    | _ => False
  | .aaload => match st with
    | .inl x :: .inr (.inr o) :: r => len = 1 ∧ ∃ a, o = some a ∧ (∃ C, xat (xc S a) = some (.object C)) ∧ vp_in x (xl S a) ∧ K (pc + 1) lv (.inr (.inr (xr S a x.toNatClampNeg)) :: r) S cs sl
    | _ => False
  | .iastore => match st with
    | .inl v :: .inl x :: .inr (.inr o) :: r => len = 1 ∧ ∃ a, o = some a ∧ xat (xc S a) = some .int ∧ xc S a ≠ 999 ∧ vp_in x (xl S a) ∧ K (pc + 1) lv r (xpi S a x.toNatClampNeg v) cs sl
    | _ => False
  | .aastore => match st with
    | .inr (.inr v) :: .inl x :: .inr (.inr o) :: r => len = 1 ∧ ∃ a b ci q, o = some a ∧ v = some b ∧ xcls[ci]? = some q ∧ xc S b = ci + 1 ∧ xat (xc S a) = some (.object q.1) ∧ vp_in x (xl S a) ∧ K (pc + 1) lv r (xpr S a x.toNatClampNeg v) cs sl
    | _ => False
  | .new k => match xnc own k with
    | some (ci, N) => len = 3 ∧ cs + 1 ≤ R.cells ∧ sl + N ≤ R.slots ∧ K (pc + 3) lv (.inr (.inr (some (xn S))) :: st) (xmk S (ci + 1) 0) (cs + 1) (sl + N)
    | none => False
  | .newarray t => match st with
    | .inl x :: r => match xnt own t with
      | some tg => len = 2 ∧ ¬ x < 0 ∧ x.toNatClampNeg ≤ 10000 ∧ cs + 1 ≤ R.cells ∧ sl + x.toNatClampNeg ≤ R.slots ∧ K (pc + 2) lv (.inr (.inr (some (xn S))) :: r) (xmk S tg x.toNatClampNeg) (cs + 1) (sl + x.toNatClampNeg)
      | none => False
    | _ => False
  | .anewarray k => match st with
    | .inl x :: r => match xna own k with
      | some tg => len = 3 ∧ ¬ x < 0 ∧ x.toNatClampNeg ≤ 10000 ∧ cs + 1 ≤ R.cells ∧ sl + x.toNatClampNeg ≤ R.slots ∧ K (pc + 3) lv (.inr (.inr (some (xn S))) :: r) (xmk S tg x.toNatClampNeg) (cs + 1) (sl + x.toNatClampNeg)
      | none => False
    | _ => False
  | .invokespecial k => match st with
    | .inr (.inr o) :: r => xoi own k = true ∧ len = 3 ∧ (∃ a, o = some a) ∧ 1 ≤ R.frames ∧ (r.map xcat).sum + 12 ≤ R.locals ∧ K (pc + 3) lv r S cs sl
    | _ => False
  | .ireturn => match st with
    | [.inl x] => len = 1 ∧ (∃ ty, ret = some ty ∧ narrow ty (.int x) = .int x) ∧ E (some (.inl x)) S cs sl
    | _ => False
  | .lreturn => match st with
    | [.inr (.inl x)] => len = 1 ∧ ret = some .long ∧ E (some (.inr (.inl x))) S cs sl
    | _ => False
  | .areturn => match st with
    | [.inr (.inr x)] => len = 1 ∧ ((∃ C, ret = some (.object C)) ∨ ∃ t, ret = some (.array t)) ∧ E (some (.inr (.inr x))) S cs sl
    | _ => False
  | .return_ => match st with
    | [] => len = 1 ∧ ret = none ∧ E none S cs sl
    | _ => False
  | _ => False
