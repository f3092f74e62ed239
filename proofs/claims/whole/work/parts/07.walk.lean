/-! THE WALK: V at a place of the code, the step, the call, the contract -/
def xNw (U : State) : Prop := va_Nw (.methodLinkNest xnest.1 xnest.2.1 xnest.2.2 (xnm 3)) U ∧ ∀ C ∈ xAO, va_AO C U
section XW
variable (p : Program) (l : Launch) (e : Env) (R : Room) (s : State) (m : MethodId) (args : Array Value) (below : List Frame) (meth : Method) (c : Code) (Q : State → Prop) (D : va_G) (n0 : Nat)
def xV (pc : Nat) (lv : List (Option xVal)) (st : List xVal) (S : xS) (cs sl : Nat) : Prop :=
  ∀ (H : Heap) (locs : List Loc) (ls : Array Slot), xRel D n0 s S H → (∀ q ∈ locs, n0 ≤ q.base) → xLs ls c.maxLocals lv → W p l e R s m args below meth c H locs cs sl Q (F0 m pc ls (st.map xv))
def xCx (own : Nat) (cc : ByteArray) (ini : Bool) (ret : Option FieldType) : Prop :=
  p.tables.exec = Jvm.exec ∧ c.code = cc ∧ s.vm.findClass (xnm own) = some m.cls ∧ (∀ w ∈ xtb, w.before args s = true) ∧ va_K D xcls [] s ∧ (ini = true → meth.name = "<init>") ∧ meth.sig.returnType = ret ∧ meth.locks = false ∧ xNw s
/-- how the method is left -/
def xEx (cc : ByteArray) (ret : Option FieldType) (E : xEt) : Prop :=
  (∀ (x : Int32) (S : xS) (cs sl pc : Nat) (ls : Array Slot) (H : Heap) (locs : List Loc), E (some (.inl x)) S cs sl → (∃ ty, ret = some ty ∧ narrow ty (.int x) = .int x) → decode cc pc = .ok (.ireturn, 1) → xRel D n0 s S H → (∀ q ∈ locs, n0 ≤ q.base) → W p l e R s m args below meth c H locs cs sl Q (F0 m pc ls [.int x])) ∧
  (∀ (x : Int64) (S : xS) (cs sl pc : Nat) (ls : Array Slot) (H : Heap) (locs : List Loc), E (some (.inr (.inl x))) S cs sl → ret = some .long → decode cc pc = .ok (.lreturn, 1) → xRel D n0 s S H → (∀ q ∈ locs, n0 ≤ q.base) → W p l e R s m args below meth c H locs cs sl Q (F0 m pc ls [.long x])) ∧
  (∀ (x : Option Nat) (S : xS) (cs sl pc : Nat) (ls : Array Slot) (H : Heap) (locs : List Loc), E (some (.inr (.inr x))) S cs sl → ((∃ C, ret = some (.object C)) ∨ ∃ t, ret = some (.array t)) → decode cc pc = .ok (.areturn, 1) → xRel D n0 s S H → (∀ q ∈ locs, n0 ≤ q.base) → W p l e R s m args below meth c H locs cs sl Q (F0 m pc ls [va_rf x])) ∧
  (∀ (S : xS) (cs sl pc : Nat) (ls : Array Slot) (H : Heap) (locs : List Loc), E none S cs sl → ret = none → decode cc pc = .ok (.return_, 1) → xRel D n0 s S H → (∀ q ∈ locs, n0 ≤ q.base) → W p l e R s m args below meth c H locs cs sl Q (F0 m pc ls []))
end XW
theorem xsum (r : List xVal) : ((r.map xv).map fun v => v.category).sum = (r.map xcat).sum := by
  induction r with
  | nil => rfl
  | cons v t ih => simp only [List.map_cons, List.sum_cons, ih, xcat_ok]
theorem xsw_get {x : Int} {pc : Nat} {K : Nat → Prop} : ∀ (offs : List Int) (lo : Int) (n : Nat) (o : Int), xsw x pc K offs lo → offs[n]? = some o → x = lo + n → 0 ≤ (pc : Int) + o ∧ K (xtgt pc o)
  | [], lo, n, o, _, h, _ => by simp at h
  | o' :: t, lo, 0, o, hs, h, hx => by
    simp at h
    subst h
    exact hs.1 (by simpa using hx)
  | o' :: t, lo, n + 1, o, hs, h, hx => xsw_get t (lo + 1) n o hs.2 (by simpa using h) (by rw [hx]; push_cast; omega)
theorem xlk_get {x : Int} {pc : Nat} {K : Nat → Prop} {d : Int} : ∀ (ps : List (Int × Int)), xlk x pc K d ps → 0 ≤ (pc : Int) + Op.lookupswitch.offset ps d x ∧ K (xtgt pc (Op.lookupswitch.offset ps d x))
  | [], h => by simp only [xlk] at h; simpa [Op.lookupswitch.offset] using h
  | q :: t, h => by
    by_cases e : x = q.1
    · have h1 := h.1 e
      simpa [Op.lookupswitch.offset, e] using h1
    · have h1 := xlk_get t (h.2 e)
      have e' : ¬ q.1 = x := fun z => e z.symm
      simpa [Op.lookupswitch.offset, e, e'] using h1
section XSTEP
variable {p : Program} {l : Launch} {e : Env} {R : Room} {s : State} {m : MethodId} {args : Array Value} {below : List Frame} {meth : Method} {c : Code} {Q : State → Prop} {D : va_G} {n0 : Nat}
variable {own : Nat} {cc : ByteArray} {ini : Bool} {ret : Option FieldType} {E : xEt}
set_option maxHeartbeats 4000000 in
set_option maxRecDepth 100000 in
theorem x_step (C : xCx p s m args meth c D own cc ini ret) (hE : xEx p l e R s m args below meth c Q D n0 cc ret E) {pc : Nat} {lv : List (Option xVal)} {st : List xVal} {S : xS} {cs sl : Nat} {i : Instr} {len : Nat} (hd : decode cc pc = .ok (i, len))
    (h : xstep own ini ret R i len pc lv st S cs sl (xV p l e R s m args below meth c Q D n0) E) : xV p l e R s m args below meth c Q D n0 pc lv st S cs sl := by
  obtain ⟨hx, hb, hown, hts, hK, hini, hr, hlocks, hNw⟩ := C
  intro H locs ls hR hL hls
  have hlen := hls.1.2
  cases i
  case aconst_null => obtain ⟨rfl, k⟩ := h; exact lv_null hx hb hd (k H locs ls hR hL hls)
  case iconst n => obtain ⟨rfl, k⟩ := h; exact lv_iconst hx hb hd rfl (k H locs ls hR hL hls)
  case bipush n => obtain ⟨rfl, k⟩ := h; exact lv_bipush hx hb hd rfl (k H locs ls hR hL hls)
  case sipush n => obtain ⟨rfl, k⟩ := h; exact lv_sipush hx hb hd rfl (k H locs ls hR hL hls)
  case lconst n => obtain ⟨rfl, k⟩ := h; exact lv_lconst hx hb hd rfl (k H locs ls hR hL hls)
  case ldc n =>
    simp only [xstep] at h
    split at h
    · rename_i v hv
      obtain ⟨rfl, k⟩ := h
      exact lv_ldc hx hb hown (hts _ (xki_ok hv)) hd (k H locs ls hR hL hls)
    · exact False.elim h
  case ldc2_w n =>
    simp only [xstep] at h
    split at h
    · rename_i v hv
      obtain ⟨rfl, k⟩ := h
      exact lv_ldc2 hx hb hown (hts _ (xkl_ok hv)) hd (k H locs ls hR hL hls)
    · exact False.elim h
  case iload n =>
    simp only [xstep] at h
    split at h
    · rename_i x hv
      obtain ⟨rfl, k⟩ := h
      exact lv_iload hx hb hd (hls.2.2 _ _ (xget_ok _ _ _ hv)) (k H locs ls hR hL hls)
    · exact False.elim h
  case iload_n n =>
    simp only [xstep] at h
    split at h
    · rename_i x hv
      obtain ⟨rfl, k⟩ := h
      exact lv_iload_n hx hb hd rfl (hls.2.2 _ _ (xget_ok _ _ _ hv)) (k H locs ls hR hL hls)
    · exact False.elim h
  case lload n =>
    simp only [xstep] at h
    split at h
    · rename_i x hv
      obtain ⟨rfl, k⟩ := h
      exact lv_lload hx hb hd (hls.2.2 _ _ (xget_ok _ _ _ hv)) (k H locs ls hR hL hls)
    · exact False.elim h
  case lload_n n =>
    simp only [xstep] at h
    split at h
    · rename_i x hv
      obtain ⟨rfl, k⟩ := h
      exact lv_lload_n hx hb hd rfl (hls.2.2 _ _ (xget_ok _ _ _ hv)) (k H locs ls hR hL hls)
    · exact False.elim h
  case aload n =>
    simp only [xstep] at h
    split at h
    · rename_i x hv
      obtain ⟨rfl, k⟩ := h
      cases x with
      | none => exact lv_aloadN hx hb hd (hls.2.2 _ _ (xget_ok _ _ _ hv)) (k H locs ls hR hL hls)
      | some a => exact lv_aload hx hb hd (hls.2.2 _ _ (xget_ok _ _ _ hv)) (k H locs ls hR hL hls)
    · exact False.elim h
  case aload_n n =>
    simp only [xstep] at h
    split at h
    · rename_i x hv
      obtain ⟨rfl, k⟩ := h
      cases x with
      | none => exact lv_aload_nN hx hb hd rfl (hls.2.2 _ _ (xget_ok _ _ _ hv)) (k H locs ls hR hL hls)
      | some a => exact lv_aload_n hx hb hd rfl (hls.2.2 _ _ (xget_ok _ _ _ hv)) (k H locs ls hR hL hls)
    · exact False.elim h
  case istore n =>
    rcases st with _ | ⟨x | x | x, r⟩ <;> first
      | exact False.elim h
      | (obtain ⟨rfl, h1, h2, k⟩ := h
         exact lv_istore hx hb hd hls.has (by omega) rfl (fun ls' hl' => k H locs ls' hR hL (xLs.of1 hlen h2 hl')))
  case istore_n n =>
    rcases st with _ | ⟨x | x | x, r⟩ <;> first
      | exact False.elim h
      | (obtain ⟨rfl, h1, h2, k⟩ := h
         exact lv_istore_n hx hb hd rfl hls.has (by omega) rfl (fun ls' hl' => k H locs ls' hR hL (xLs.of1 hlen h2 hl')))
  case astore n =>
    rcases st with _ | ⟨x | x | x, r⟩
    · exact False.elim h
    · exact False.elim h
    · exact False.elim h
    · obtain ⟨rfl, h1, h2, k⟩ := h
      cases x with
      | none => exact lv_astoreN hx hb hd hls.has (by omega) rfl (fun ls' hl' => k H locs ls' hR hL (xLs.of1 (v := .inr (.inr none)) hlen h2 hl'))
      | some a => exact lv_astore hx hb hd hls.has (by omega) rfl (fun ls' hl' => k H locs ls' hR hL (xLs.of1 (v := .inr (.inr (some a))) hlen h2 hl'))
  case astore_n n =>
    rcases st with _ | ⟨x | x | x, r⟩
    · exact False.elim h
    · exact False.elim h
    · exact False.elim h
    · obtain ⟨rfl, h1, h2, k⟩ := h
      cases x with
      | none => exact lv_astore_nN hx hb hd rfl hls.has (by omega) rfl (fun ls' hl' => k H locs ls' hR hL (xLs.of1 (v := .inr (.inr none)) hlen h2 hl'))
      | some a => exact lv_astore_n hx hb hd rfl hls.has (by omega) rfl (fun ls' hl' => k H locs ls' hR hL (xLs.of1 (v := .inr (.inr (some a))) hlen h2 hl'))
  case lstore n =>
    rcases st with _ | ⟨x | x | x, r⟩ <;> first
      | exact False.elim h
      | (obtain ⟨rfl, h1, h2, k⟩ := h
         exact lv_lstore hx hb hd hls.has (by omega) rfl (fun ls' hl' => k H locs ls' hR hL (xLs.of2 (v := .inr (.inl x)) hlen h2 hl')))
  case lstore_n n =>
    rcases st with _ | ⟨x | x | x, r⟩ <;> first
      | exact False.elim h
      | (obtain ⟨rfl, h1, h2, k⟩ := h
         exact lv_lstore_n hx hb hd rfl hls.has (by omega) rfl (fun ls' hl' => k H locs ls' hR hL (xLs.of2 (v := .inr (.inl x)) hlen h2 hl')))
  case iinc n w =>
    simp only [xstep] at h
    split at h
    · rename_i x hv
      obtain ⟨rfl, h1, h2, k⟩ := h
      obtain ⟨kk, hkk⟩ := List.getElem?_of_mem ((xas_mem lv 0 (n, xv (.inl x))).mpr ⟨n, .inl x, by simp, xget_ok _ _ _ hv⟩)
      exact lv_iinc hx hb hd hls.has hkk rfl (by omega) rfl (fun ls' hl' => k H locs ls' hR hL (xLs.of1 (v := .inl (x + Int32.ofInt w)) hlen h2 hl'))
    · exact False.elim h
  case iadd => rcases st with _ | ⟨y | y | y, _ | ⟨x | x | x, r⟩⟩ <;> first | exact False.elim h | (obtain ⟨rfl, k⟩ := h; exact lv_iadd hx hb hd (k H locs ls hR hL hls))
  case isub => rcases st with _ | ⟨y | y | y, _ | ⟨x | x | x, r⟩⟩ <;> first | exact False.elim h | (obtain ⟨rfl, k⟩ := h; exact lv_isub hx hb hd (k H locs ls hR hL hls))
  case imul => rcases st with _ | ⟨y | y | y, _ | ⟨x | x | x, r⟩⟩ <;> first | exact False.elim h | (obtain ⟨rfl, k⟩ := h; exact lv_imul hx hb hd (k H locs ls hR hL hls))
  case idiv => rcases st with _ | ⟨y | y | y, _ | ⟨x | x | x, r⟩⟩ <;> first | exact False.elim h | (obtain ⟨rfl, h1, k⟩ := h; exact lv_idiv hx hb hd h1 (k H locs ls hR hL hls))
  case irem => rcases st with _ | ⟨y | y | y, _ | ⟨x | x | x, r⟩⟩ <;> first | exact False.elim h | (obtain ⟨rfl, h1, k⟩ := h; exact lv_irem hx hb hd h1 (k H locs ls hR hL hls))
  case iand => rcases st with _ | ⟨y | y | y, _ | ⟨x | x | x, r⟩⟩ <;> first | exact False.elim h | (obtain ⟨rfl, k⟩ := h; exact lv_iand hx hb hd (k H locs ls hR hL hls))
  case ior => rcases st with _ | ⟨y | y | y, _ | ⟨x | x | x, r⟩⟩ <;> first | exact False.elim h | (obtain ⟨rfl, k⟩ := h; exact lv_ior hx hb hd (k H locs ls hR hL hls))
  case ixor => rcases st with _ | ⟨y | y | y, _ | ⟨x | x | x, r⟩⟩ <;> first | exact False.elim h | (obtain ⟨rfl, k⟩ := h; exact lv_ixor hx hb hd (k H locs ls hR hL hls))
  case ishl => rcases st with _ | ⟨y | y | y, _ | ⟨x | x | x, r⟩⟩ <;> first | exact False.elim h | (obtain ⟨rfl, k⟩ := h; exact lv_ishl hx hb hd (k H locs ls hR hL hls))
  case ishr => rcases st with _ | ⟨y | y | y, _ | ⟨x | x | x, r⟩⟩ <;> first | exact False.elim h | (obtain ⟨rfl, k⟩ := h; exact lv_ishr hx hb hd (k H locs ls hR hL hls))
  case iushr => rcases st with _ | ⟨y | y | y, _ | ⟨x | x | x, r⟩⟩ <;> first | exact False.elim h | (obtain ⟨rfl, k⟩ := h; exact lv_iushr hx hb hd rfl (k H locs ls hR hL hls))
  case ineg => rcases st with _ | ⟨x | x | x, r⟩ <;> first | exact False.elim h | (obtain ⟨rfl, k⟩ := h; exact lv_ineg hx hb hd (k H locs ls hR hL hls))
  case ladd => rcases st with _ | ⟨y | y | y, _ | ⟨x | x | x, r⟩⟩ <;> first | exact False.elim h | (obtain ⟨rfl, k⟩ := h; exact lv_ladd hx hb hd (k H locs ls hR hL hls))
  case lsub => rcases st with _ | ⟨y | y | y, _ | ⟨x | x | x, r⟩⟩ <;> first | exact False.elim h | (obtain ⟨rfl, k⟩ := h; exact lv_lsub hx hb hd (k H locs ls hR hL hls))
  case lmul => rcases st with _ | ⟨y | y | y, _ | ⟨x | x | x, r⟩⟩ <;> first | exact False.elim h | (obtain ⟨rfl, k⟩ := h; exact lv_lmul hx hb hd (k H locs ls hR hL hls))
  case ldiv => rcases st with _ | ⟨y | y | y, _ | ⟨x | x | x, r⟩⟩ <;> first | exact False.elim h | (obtain ⟨rfl, h1, k⟩ := h; exact lv_ldiv hx hb hd h1 (k H locs ls hR hL hls))
  case lrem => rcases st with _ | ⟨y | y | y, _ | ⟨x | x | x, r⟩⟩ <;> first | exact False.elim h | (obtain ⟨rfl, h1, k⟩ := h; exact lv_lrem hx hb hd h1 (k H locs ls hR hL hls))
  case land => rcases st with _ | ⟨y | y | y, _ | ⟨x | x | x, r⟩⟩ <;> first | exact False.elim h | (obtain ⟨rfl, k⟩ := h; exact lv_land hx hb hd (k H locs ls hR hL hls))
  case lxor => rcases st with _ | ⟨y | y | y, _ | ⟨x | x | x, r⟩⟩ <;> first | exact False.elim h | (obtain ⟨rfl, k⟩ := h; exact lv_lxor hx hb hd (k H locs ls hR hL hls))
  case lneg => rcases st with _ | ⟨x | x | x, r⟩ <;> first | exact False.elim h | (obtain ⟨rfl, k⟩ := h; exact lv_lneg hx hb hd (k H locs ls hR hL hls))
  case lshl => rcases st with _ | ⟨y | y | y, _ | ⟨x | x | x, r⟩⟩ <;> first | exact False.elim h | (obtain ⟨rfl, k⟩ := h; exact lv_lshl hx hb hd rfl (k H locs ls hR hL hls))
  case lshr => rcases st with _ | ⟨y | y | y, _ | ⟨x | x | x, r⟩⟩ <;> first | exact False.elim h | (obtain ⟨rfl, k⟩ := h; exact lv_lshr hx hb hd rfl (k H locs ls hR hL hls))
  case i2l => rcases st with _ | ⟨x | x | x, r⟩ <;> first | exact False.elim h | (obtain ⟨rfl, k⟩ := h; exact lv_i2l hx hb hd rfl (k H locs ls hR hL hls))
  case l2i => rcases st with _ | ⟨x | x | x, r⟩ <;> first | exact False.elim h | (obtain ⟨rfl, k⟩ := h; exact lv_l2i hx hb hd rfl (k H locs ls hR hL hls))
  case lcmp => rcases st with _ | ⟨y | y | y, _ | ⟨x | x | x, r⟩⟩ <;> first | exact False.elim h | (obtain ⟨rfl, k⟩ := h; exact W.lcmp hx hb hd (k H locs ls hR hL hls))
  case dup => rcases st with _ | ⟨x | x | x, r⟩ <;> first | exact False.elim h | (obtain ⟨rfl, k⟩ := h; exact lv_dup hx hb hd (by rw [xcat_ok]; rfl) (k H locs ls hR hL hls))
  case pop => rcases st with _ | ⟨x | x | x, r⟩ <;> first | exact False.elim h | (obtain ⟨rfl, k⟩ := h; exact lv_pop hx hb hd (by rw [xcat_ok]; rfl) (k H locs ls hR hL hls))
  case dup_x1 => rcases st with _ | ⟨v, _ | ⟨w, r⟩⟩ <;> first | exact False.elim h | (obtain ⟨rfl, h1, h2, k⟩ := h; exact lv_dup_x1 hx hb hd (by rw [xcat_ok]; exact h1) (by rw [xcat_ok]; exact h2) (k H locs ls hR hL hls))
  case dup_x2 => rcases st with _ | ⟨v, _ | ⟨w, _ | ⟨u, r⟩⟩⟩ <;> first | exact False.elim h | (obtain ⟨rfl, h1, h2, h3, k⟩ := h; exact lv_dup_x2 hx hb hd (by rw [xcat_ok]; exact h1) (by rw [xcat_ok]; exact h2) (by rw [xcat_ok]; exact h3) (k H locs ls hR hL hls))
  case dup2 => rcases st with _ | ⟨v, _ | ⟨w, r⟩⟩ <;> first | exact False.elim h | (obtain ⟨rfl, h1, h2, k⟩ := h; exact lv_dup2_11 hx hb hd (by rw [xcat_ok]; exact h1) (by rw [xcat_ok]; exact h2) (k H locs ls hR hL hls))
  case goto off => obtain ⟨rfl, h1, k⟩ := h; exact lv_goto hx hb hd (xtgt_ok h1) (k H locs ls hR hL hls)
  case ifCond cd off =>
    rcases st with _ | ⟨x | x | x, r⟩
    · exact False.elim h
    · obtain ⟨rfl, h1, k⟩ := h
      cases cd
      · exact lv_if_eq hx hb hd (xtgt_ok h1) (fun z => k.1 z H locs ls hR hL hls) (fun z => k.2 z H locs ls hR hL hls)
      · exact lv_if_ne hx hb hd (xtgt_ok h1) (fun z => k.1 z H locs ls hR hL hls) (fun z => k.2 z H locs ls hR hL hls)
      · exact lv_if_lt hx hb hd (xtgt_ok h1) (fun z => k.1 z H locs ls hR hL hls) (fun z => k.2 z H locs ls hR hL hls)
      · exact lv_if_ge hx hb hd (xtgt_ok h1) (fun z => k.1 z H locs ls hR hL hls) (fun z => k.2 z H locs ls hR hL hls)
      · exact lv_if_gt hx hb hd (xtgt_ok h1) (fun z => k.1 z H locs ls hR hL hls) (fun z => k.2 z H locs ls hR hL hls)
      · exact lv_if_le hx hb hd (xtgt_ok h1) (fun z => k.1 z H locs ls hR hL hls) (fun z => k.2 z H locs ls hR hL hls)
    · exact False.elim h
    · exact False.elim h
  case if_icmp cd off =>
    rcases st with _ | ⟨y | y | y, _ | ⟨x | x | x, r⟩⟩ <;> first
      | exact False.elim h
      | (obtain ⟨rfl, h1, k⟩ := h
         cases cd
         · exact lv_icmp_eq hx hb hd (xtgt_ok h1) (fun z => k.1 z H locs ls hR hL hls) (fun z => k.2 z H locs ls hR hL hls)
         · exact lv_icmp_ne hx hb hd (xtgt_ok h1) (fun z => k.1 z H locs ls hR hL hls) (fun z => k.2 z H locs ls hR hL hls)
         · exact lv_icmp_lt hx hb hd (xtgt_ok h1) (fun z => k.1 z H locs ls hR hL hls) (fun z => k.2 z H locs ls hR hL hls)
         · exact lv_icmp_ge hx hb hd (xtgt_ok h1) (fun z => k.1 z H locs ls hR hL hls) (fun z => k.2 z H locs ls hR hL hls)
         · exact lv_icmp_gt hx hb hd (xtgt_ok h1) (fun z => k.1 z H locs ls hR hL hls) (fun z => k.2 z H locs ls hR hL hls)
         · exact lv_icmp_le hx hb hd (xtgt_ok h1) (fun z => k.1 z H locs ls hR hL hls) (fun z => k.2 z H locs ls hR hL hls))
  case if_acmp cd off =>
    rcases st with _ | ⟨y | y | y, _ | ⟨x | x | x, r⟩⟩ <;> first
      | exact False.elim h
      | (obtain ⟨rfl, h1, k⟩ := h
         cases cd
         · exact lv_acmp_eq hx hb hd (xtgt_ok h1) (fun z => k.1 z H locs ls hR hL hls) (fun z => k.2 z H locs ls hR hL hls)
         · exact lv_acmp_ne hx hb hd (xtgt_ok h1) (fun z => k.1 z H locs ls hR hL hls) (fun z => k.2 z H locs ls hR hL hls))
  case ifnull off =>
    rcases st with _ | ⟨x | x | x, r⟩
    · exact False.elim h
    · exact False.elim h
    · exact False.elim h
    · obtain ⟨rfl, h1, k1, k2⟩ := h
      cases x with
      | none => exact lv_ifnullN hx hb hd (xtgt_ok h1) (k1 rfl H locs ls hR hL hls)
      | some a => exact lv_ifnull hx hb hd (k2 (by simp) H locs ls hR hL hls)
  case ifnonnull off =>
    rcases st with _ | ⟨x | x | x, r⟩
    · exact False.elim h
    · exact False.elim h
    · exact False.elim h
    · obtain ⟨rfl, h1, k1, k2⟩ := h
      cases x with
      | none => exact lv_ifnonnullN hx hb hd (k2 rfl H locs ls hR hL hls)
      | some a => exact lv_ifnonnull hx hb hd (xtgt_ok h1) (k1 (by simp) H locs ls hR hL hls)
  case tableswitch d lo hi offs =>
    rcases st with _ | ⟨x | x | x, r⟩
    · exact False.elim h
    · obtain ⟨h0, k1, k2⟩ := h
      by_cases hz : x.toInt < lo ∨ hi < x.toInt
      · obtain ⟨h1, k⟩ := k1 hz
        exact lv_tableOut hx hb hd hz (xtgt_ok h1) (k H locs ls hR hL hls)
      · have z1 : ¬ x.toInt < lo := fun z => hz (Or.inl z)
        have z2 : ¬ hi < x.toInt := fun z => hz (Or.inr z)
        have hlt : (x.toInt - lo).toNat < offs.toList.length := by omega
        obtain ⟨h1, k⟩ := xsw_get offs.toList lo (x.toInt - lo).toNat offs.toList[(x.toInt - lo).toNat] k2 (List.getElem?_eq_getElem hlt) (by omega)
        exact lv_tableIn hx hb hd z1 z2 (by rw [← Array.getElem?_toList]; exact List.getElem?_eq_getElem hlt) (xtgt_ok h1) (k H locs ls hR hL hls)
    · exact False.elim h
    · exact False.elim h
  case lookupswitch d ps =>
    rcases st with _ | ⟨x | x | x, r⟩
    · exact False.elim h
    · obtain ⟨h0, k1⟩ := h
      obtain ⟨h1, k⟩ := xlk_get ps.toList k1
      exact lv_lookup hx hb hd h0 rfl (xtgt_ok h1) (k H locs ls hR hL hls)
    · exact False.elim h
    · exact False.elim h
  case getfield n =>
    rcases st with _ | ⟨x | x | x, r⟩
    · exact False.elim h
    · exact False.elim h
    · exact False.elim h
    · simp only [xstep] at h
      split at h
      · rename_i ci j fin ty hf
        obtain ⟨rfl, a, rfl, hc, k⟩ := h
        refine xo_get hx hb hown hts hK hR hf hc hd ?_
        by_cases hz : xisR ty = true
        · rw [if_pos hz] at k
          rw [xfv_R hz]
          exact k H locs ls hR hL hls
        · rw [if_neg hz] at k
          rw [xfv_I (by simpa using hz)]
          exact k H locs ls hR hL hls
      · exact False.elim h
  case putfield n =>
    rcases st with _ | ⟨v | v | v, _ | ⟨x | x | x, r⟩⟩ <;> first
      | exact False.elim h
      | (simp only [xstep] at h
         split at h
         · rename_i ci j fin ty hf
           obtain ⟨rfl, hfin, ⟨hv1, hv2, hv3⟩, a, rfl, hc, k⟩ := h
           refine xo_put (v := .int v) (S' := xpi S a j v) hx hb hown hts hK hR hL hf (hfin.imp id (fun z => ⟨hini z.1, z.2⟩)) hc hv2 hv3 rfl rfl rfl (fun b z q => ?_) (fun b z q => rfl) ?_ hd (fun H1 locs1 hR1 hL1 => k H1 locs1 ls hR1 hL1 hls)
           · rw [xi_pi, if_neg (fun w => by rcases q with q | q; exact q w.1; exact q w.2)]
           · rw [xfv_I hv1, xi_pi, if_pos ⟨rfl, rfl⟩]
         · exact False.elim h)
      | (simp only [xstep] at h
         split at h
         · rename_i ci j fin ty hf
           obtain ⟨rfl, hfin, hv1, a, rfl, hc, k⟩ := h
           refine xo_put (v := va_rf v) (S' := xpr S a j v) hx hb hown hts hK hR hL hf (hfin.imp id (fun z => ⟨hini z.1, z.2⟩)) hc (by cases ty <;> simp_all [xisR] <;> cases v <;> rfl) (by cases ty <;> simp_all [xisR] <;> cases v <;> rfl) rfl rfl rfl (fun b z q => rfl) (fun b z q => ?_) ?_ hd (fun H1 locs1 hR1 hL1 => k H1 locs1 ls hR1 hL1 hls)
           · rw [xr_pr, if_neg (fun w => by rcases q with q | q; exact q w.1; exact q w.2)]
           · rw [xfv_R hv1, xr_pr, if_pos ⟨rfl, rfl⟩]
         · exact False.elim h)
  case arraylength =>
    rcases st with _ | ⟨x | x | x, r⟩
    · exact False.elim h
    · exact False.elim h
    · exact False.elim h
    · obtain ⟨rfl, a, rfl, ⟨ty, ht⟩, k⟩ := h
      exact xo_alen hx hb hR ht hd (k H locs ls hR hL hls)
  case iaload =>
    rcases st with _ | ⟨y | y | y, _ | ⟨x | x | x, r⟩⟩ <;> first
      | exact False.elim h
      | (obtain ⟨rfl, a, rfl, ht, hin, k⟩ := h
         exact xo_iald hx hb hR ht hin hd (k H locs ls hR hL hls))
  case baload =>
    rcases st with _ | ⟨y | y | y, _ | ⟨x | x | x, r⟩⟩ <;> first
      | exact False.elim h
      | (obtain ⟨rfl, a, rfl, ht, hin, k⟩ := h
         exact xo_zald hx hb hR ht hin hd (k H locs ls hR hL hls))
  case bastore =>
    rcases st with _ | ⟨v | v | v, _ | ⟨y | y | y, _ | ⟨x | x | x, r⟩⟩⟩ <;> first
      | exact False.elim h
      | (obtain ⟨rfl, a, rfl, ht, hnx, hin, k⟩ := h
         exact xo_zast hx hb hR hL ht hnx hin hd (fun H1 locs1 hR1 hL1 => k H1 locs1 ls hR1 hL1 hls))
  case aaload =>
    rcases st with _ | ⟨y | y | y, _ | ⟨x | x | x, r⟩⟩ <;> first
      | exact False.elim h
      | (obtain ⟨rfl, a, rfl, ⟨C, ht⟩, hin, k⟩ := h
         exact xo_aald hx hb hR ht hin hd (k H locs ls hR hL hls))
  case iastore =>
    rcases st with _ | ⟨v | v | v, _ | ⟨y | y | y, _ | ⟨x | x | x, r⟩⟩⟩ <;> first
      | exact False.elim h
      | (obtain ⟨rfl, a, rfl, ht, h9, hin, k⟩ := h
         exact xo_iast hx hb hR hL ht h9 hin hd (fun H1 locs1 hR1 hL1 => k H1 locs1 ls hR1 hL1 hls))
  case aastore =>
    rcases st with _ | ⟨v | v | v, _ | ⟨y | y | y, _ | ⟨x | x | x, r⟩⟩⟩ <;> first
      | exact False.elim h
      | (obtain ⟨rfl, a, b, ci, q, rfl, rfl, hq, hcb, ht, hin, k⟩ := h
         exact xo_aast hx hb hK hR hL hq hcb ht hin hd (fun H1 locs1 hR1 hL1 => k H1 locs1 ls hR1 hL1 hls))
  case new n =>
    simp only [xstep] at h
    split at h
    · rename_i ci N hf
      obtain ⟨rfl, h1, h2, k⟩ := h
      exact xo_new hx hb hown hts hK hR hf h1 h2 hd (fun H1 hR1 => k H1 locs ls hR1 hL hls)
    · exact False.elim h
  case newarray t =>
    rcases st with _ | ⟨x | x | x, r⟩
    · exact False.elim h
    · simp only [xstep] at h
      split at h
      · rename_i tg hf
        obtain ⟨rfl, h1, h2, h3, h4, k⟩ := h
        exact xo_newi hx hb hts hR hf h1 h2 h3 h4 hd (fun H1 hR1 => k H1 locs ls hR1 hL hls)
      · exact False.elim h
    · exact False.elim h
    · exact False.elim h
  case anewarray n =>
    rcases st with _ | ⟨x | x | x, r⟩
    · exact False.elim h
    · simp only [xstep] at h
      split at h
      · rename_i tg hf
        obtain ⟨rfl, h1, h2, h3, h4, k⟩ := h
        exact xo_newr hx hb hown hts hNw.2 hR hf h1 h2 h3 h4 hd (fun H1 hR1 => k H1 locs ls hR1 hL hls)
      · exact False.elim h
    · exact False.elim h
    · exact False.elim h
  case invokespecial n =>
    rcases st with _ | ⟨x | x | x, r⟩
    · exact False.elim h
    · exact False.elim h
    · exact False.elim h
    · obtain ⟨h1, rfl, ⟨a, rfl⟩, h2, h3, k⟩ := h
      exact W.objInit hx hb hown (hts _ (xoi_ok h1)) (hts _ xOI_ok2.1) (hts _ xOI_ok2.2) rfl hls.1.1 rfl hd h2 (by rw [xsum]; show 2 * 0 + _ + 12 ≤ _; omega) (k H locs ls hR hL hls)
  case ireturn =>
    rcases st with _ | ⟨x | x | x, _ | ⟨y, r⟩⟩ <;> first
      | exact False.elim h
      | (obtain ⟨rfl, h1, k⟩ := h; exact hE.1 x S cs sl pc ls H locs k h1 hd hR hL)
  case lreturn =>
    rcases st with _ | ⟨x | x | x, _ | ⟨y, r⟩⟩ <;> first
      | exact False.elim h
      | (obtain ⟨rfl, h1, k⟩ := h; exact hE.2.1 x S cs sl pc ls H locs k h1 hd hR hL)
  case areturn =>
    rcases st with _ | ⟨x | x | x, _ | ⟨y, r⟩⟩ <;> first
      | exact False.elim h
      | (obtain ⟨rfl, h1, k⟩ := h; exact hE.2.2.1 x S cs sl pc ls H locs k h1 hd hR hL)
  case return_ =>
    rcases st with _ | ⟨x, r⟩
    · obtain ⟨rfl, h1, k⟩ := h
      exact hE.2.2.2 S cs sl pc ls H locs k h1 hd hR hL
    · exact False.elim h
  all_goals exact False.elim h
end XSTEP
