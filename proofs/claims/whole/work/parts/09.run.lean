theorem xcmp_mono {c : ClassFile.Cond} {x y : Int32} {A A' B B' : Prop} (ha : A → A') (hb : B → B') (h : xcmp c x y A B) : xcmp c x y A' B' := by
  cases c <;> exact And.intro (fun z => ha (And.left h z)) (fun z => hb (And.right h z))
theorem xacmp_mono {c : ClassFile.ACond} {x y : Option Nat} {A A' B B' : Prop} (ha : A → A') (hb : B → B') (h : xacmp c x y A B) : xacmp c x y A' B' := by
  cases c <;> exact And.intro (fun z => ha (And.left h z)) (fun z => hb (And.right h z))
theorem xsw_mono {x : Int} {pc : Nat} {K K' : Nat → Prop} (hK : ∀ t, K t → K' t) : ∀ (offs : List Int) (lo : Int), xsw x pc K offs lo → xsw x pc K' offs lo
  | [], _, _ => trivial
  | _ :: t, lo, h => ⟨fun z => ⟨(h.1 z).1, hK _ (h.1 z).2⟩, xsw_mono hK t (lo + 1) h.2⟩
theorem xlk_mono {x : Int} {pc : Nat} {K K' : Nat → Prop} {d : Int} (hK : ∀ t, K t → K' t) : ∀ (ps : List (Int × Int)), xlk x pc K d ps → xlk x pc K' d ps
  | [], h => ⟨h.1, hK _ h.2⟩
  | _ :: t, h => ⟨fun z => ⟨(h.1 z).1, hK _ (h.1 z).2⟩, fun z => xlk_mono hK t (h.2 z)⟩
set_option maxHeartbeats 4000000 in
set_option maxRecDepth 100000 in
theorem xstep_mono {own : Nat} {ini : Bool} {ret : Option FieldType} {R : Room} {i : Instr} {len pc : Nat} {lv : List (Option xVal)} {st : List xVal} {S : xS} {cs sl : Nat} {K K' : xKt} {E : xEt} (hK : ∀ pc lv st S cs sl, K pc lv st S cs sl → K' pc lv st S cs sl)
    (h : xstep own ini ret R i len pc lv st S cs sl K E) : xstep own ini ret R i len pc lv st S cs sl K' E := by
  cases i
  case aconst_null => exact And.intro (And.left h) (hK _ _ _ _ _ _ (And.right h))
  case iconst n => exact And.intro (And.left h) (hK _ _ _ _ _ _ (And.right h))
  case bipush n => exact And.intro (And.left h) (hK _ _ _ _ _ _ (And.right h))
  case sipush n => exact And.intro (And.left h) (hK _ _ _ _ _ _ (And.right h))
  case lconst n => exact And.intro (And.left h) (hK _ _ _ _ _ _ (And.right h))
  case ldc n =>
    simp only [xstep] at h ⊢
    split at h
    · exact And.intro h.1 (hK _ _ _ _ _ _ h.2)
    · exact False.elim h
  case ldc2_w n =>
    simp only [xstep] at h ⊢
    split at h
    · exact And.intro h.1 (hK _ _ _ _ _ _ h.2)
    · exact False.elim h
  case iload n =>
    simp only [xstep] at h ⊢
    split at h
    · exact And.intro h.1 (hK _ _ _ _ _ _ h.2)
    · exact False.elim h
  case iload_n n =>
    simp only [xstep] at h ⊢
    split at h
    · exact And.intro h.1 (hK _ _ _ _ _ _ h.2)
    · exact False.elim h
  case lload n =>
    simp only [xstep] at h ⊢
    split at h
    · exact And.intro h.1 (hK _ _ _ _ _ _ h.2)
    · exact False.elim h
  case lload_n n =>
    simp only [xstep] at h ⊢
    split at h
    · exact And.intro h.1 (hK _ _ _ _ _ _ h.2)
    · exact False.elim h
  case aload n =>
    simp only [xstep] at h ⊢
    split at h
    · exact And.intro h.1 (hK _ _ _ _ _ _ h.2)
    · exact False.elim h
  case aload_n n =>
    simp only [xstep] at h ⊢
    split at h
    · exact And.intro h.1 (hK _ _ _ _ _ _ h.2)
    · exact False.elim h
  case new n =>
    simp only [xstep] at h ⊢
    split at h
    · exact And.intro h.1 (And.intro h.2.1 (And.intro h.2.2.1 (hK _ _ _ _ _ _ h.2.2.2)))
    · exact False.elim h
  case iinc n w =>
    simp only [xstep] at h ⊢
    split at h
    · exact And.intro h.1 (And.intro h.2.1 (And.intro h.2.2.1 (hK _ _ _ _ _ _ h.2.2.2)))
    · exact False.elim h
  case istore n => rcases st with _ | ⟨x | x | x, r⟩ <;> first | exact False.elim h | exact And.intro (And.left h) (And.intro (And.left (And.right h)) (And.intro (And.left (And.right (And.right h))) (hK _ _ _ _ _ _ (And.right (And.right (And.right h))))))
  case istore_n n => rcases st with _ | ⟨x | x | x, r⟩ <;> first | exact False.elim h | exact And.intro (And.left h) (And.intro (And.left (And.right h)) (And.intro (And.left (And.right (And.right h))) (hK _ _ _ _ _ _ (And.right (And.right (And.right h))))))
  case astore n => rcases st with _ | ⟨x | x | x, r⟩ <;> first | exact False.elim h | exact And.intro (And.left h) (And.intro (And.left (And.right h)) (And.intro (And.left (And.right (And.right h))) (hK _ _ _ _ _ _ (And.right (And.right (And.right h))))))
  case astore_n n => rcases st with _ | ⟨x | x | x, r⟩ <;> first | exact False.elim h | exact And.intro (And.left h) (And.intro (And.left (And.right h)) (And.intro (And.left (And.right (And.right h))) (hK _ _ _ _ _ _ (And.right (And.right (And.right h))))))
  case lstore n => rcases st with _ | ⟨x | x | x, r⟩ <;> first | exact False.elim h | exact And.intro (And.left h) (And.intro (And.left (And.right h)) (And.intro (And.left (And.right (And.right h))) (hK _ _ _ _ _ _ (And.right (And.right (And.right h))))))
  case lstore_n n => rcases st with _ | ⟨x | x | x, r⟩ <;> first | exact False.elim h | exact And.intro (And.left h) (And.intro (And.left (And.right h)) (And.intro (And.left (And.right (And.right h))) (hK _ _ _ _ _ _ (And.right (And.right (And.right h))))))
  case iadd => rcases st with _ | ⟨y | y | y, _ | ⟨x | x | x, r⟩⟩ <;> first | exact False.elim h | exact And.intro (And.left h) (hK _ _ _ _ _ _ (And.right h))
  case isub => rcases st with _ | ⟨y | y | y, _ | ⟨x | x | x, r⟩⟩ <;> first | exact False.elim h | exact And.intro (And.left h) (hK _ _ _ _ _ _ (And.right h))
  case imul => rcases st with _ | ⟨y | y | y, _ | ⟨x | x | x, r⟩⟩ <;> first | exact False.elim h | exact And.intro (And.left h) (hK _ _ _ _ _ _ (And.right h))
  case iand => rcases st with _ | ⟨y | y | y, _ | ⟨x | x | x, r⟩⟩ <;> first | exact False.elim h | exact And.intro (And.left h) (hK _ _ _ _ _ _ (And.right h))
  case ior => rcases st with _ | ⟨y | y | y, _ | ⟨x | x | x, r⟩⟩ <;> first | exact False.elim h | exact And.intro (And.left h) (hK _ _ _ _ _ _ (And.right h))
  case ixor => rcases st with _ | ⟨y | y | y, _ | ⟨x | x | x, r⟩⟩ <;> first | exact False.elim h | exact And.intro (And.left h) (hK _ _ _ _ _ _ (And.right h))
  case ishl => rcases st with _ | ⟨y | y | y, _ | ⟨x | x | x, r⟩⟩ <;> first | exact False.elim h | exact And.intro (And.left h) (hK _ _ _ _ _ _ (And.right h))
  case ishr => rcases st with _ | ⟨y | y | y, _ | ⟨x | x | x, r⟩⟩ <;> first | exact False.elim h | exact And.intro (And.left h) (hK _ _ _ _ _ _ (And.right h))
  case iushr => rcases st with _ | ⟨y | y | y, _ | ⟨x | x | x, r⟩⟩ <;> first | exact False.elim h | exact And.intro (And.left h) (hK _ _ _ _ _ _ (And.right h))
  case ladd => rcases st with _ | ⟨y | y | y, _ | ⟨x | x | x, r⟩⟩ <;> first | exact False.elim h | exact And.intro (And.left h) (hK _ _ _ _ _ _ (And.right h))
  case lsub => rcases st with _ | ⟨y | y | y, _ | ⟨x | x | x, r⟩⟩ <;> first | exact False.elim h | exact And.intro (And.left h) (hK _ _ _ _ _ _ (And.right h))
  case lmul => rcases st with _ | ⟨y | y | y, _ | ⟨x | x | x, r⟩⟩ <;> first | exact False.elim h | exact And.intro (And.left h) (hK _ _ _ _ _ _ (And.right h))
  case land => rcases st with _ | ⟨y | y | y, _ | ⟨x | x | x, r⟩⟩ <;> first | exact False.elim h | exact And.intro (And.left h) (hK _ _ _ _ _ _ (And.right h))
  case lxor => rcases st with _ | ⟨y | y | y, _ | ⟨x | x | x, r⟩⟩ <;> first | exact False.elim h | exact And.intro (And.left h) (hK _ _ _ _ _ _ (And.right h))
  case lshl => rcases st with _ | ⟨y | y | y, _ | ⟨x | x | x, r⟩⟩ <;> first | exact False.elim h | exact And.intro (And.left h) (hK _ _ _ _ _ _ (And.right h))
  case lshr => rcases st with _ | ⟨y | y | y, _ | ⟨x | x | x, r⟩⟩ <;> first | exact False.elim h | exact And.intro (And.left h) (hK _ _ _ _ _ _ (And.right h))
  case lcmp => rcases st with _ | ⟨y | y | y, _ | ⟨x | x | x, r⟩⟩ <;> first | exact False.elim h | exact And.intro (And.left h) (hK _ _ _ _ _ _ (And.right h))
  case idiv => rcases st with _ | ⟨y | y | y, _ | ⟨x | x | x, r⟩⟩ <;> first | exact False.elim h | exact And.intro (And.left h) (And.intro (And.left (And.right h)) (hK _ _ _ _ _ _ (And.right (And.right h))))
  case irem => rcases st with _ | ⟨y | y | y, _ | ⟨x | x | x, r⟩⟩ <;> first | exact False.elim h | exact And.intro (And.left h) (And.intro (And.left (And.right h)) (hK _ _ _ _ _ _ (And.right (And.right h))))
  case ldiv => rcases st with _ | ⟨y | y | y, _ | ⟨x | x | x, r⟩⟩ <;> first | exact False.elim h | exact And.intro (And.left h) (And.intro (And.left (And.right h)) (hK _ _ _ _ _ _ (And.right (And.right h))))
  case lrem => rcases st with _ | ⟨y | y | y, _ | ⟨x | x | x, r⟩⟩ <;> first | exact False.elim h | exact And.intro (And.left h) (And.intro (And.left (And.right h)) (hK _ _ _ _ _ _ (And.right (And.right h))))
  case ineg => rcases st with _ | ⟨x | x | x, r⟩ <;> first | exact False.elim h | exact And.intro (And.left h) (hK _ _ _ _ _ _ (And.right h))
  case lneg => rcases st with _ | ⟨x | x | x, r⟩ <;> first | exact False.elim h | exact And.intro (And.left h) (hK _ _ _ _ _ _ (And.right h))
  case i2l => rcases st with _ | ⟨x | x | x, r⟩ <;> first | exact False.elim h | exact And.intro (And.left h) (hK _ _ _ _ _ _ (And.right h))
  case l2i => rcases st with _ | ⟨x | x | x, r⟩ <;> first | exact False.elim h | exact And.intro (And.left h) (hK _ _ _ _ _ _ (And.right h))
  case dup => rcases st with _ | ⟨x | x | x, r⟩ <;> first | exact False.elim h | exact And.intro (And.left h) (hK _ _ _ _ _ _ (And.right h))
  case pop => rcases st with _ | ⟨x | x | x, r⟩ <;> first | exact False.elim h | exact And.intro (And.left h) (hK _ _ _ _ _ _ (And.right h))
  case dup_x1 => rcases st with _ | ⟨y, _ | ⟨x, r⟩⟩ <;> first | exact False.elim h | (obtain ⟨h1, h2, h3, k⟩ := h; exact And.intro h1 (And.intro h2 (And.intro h3 (hK _ _ _ _ _ _ k))))
  case dup_x2 => rcases st with _ | ⟨y, _ | ⟨x, _ | ⟨z, r⟩⟩⟩ <;> first | exact False.elim h | (obtain ⟨h1, h2, h3, h4, k⟩ := h; exact And.intro h1 (And.intro h2 (And.intro h3 (And.intro h4 (hK _ _ _ _ _ _ k)))))
  case dup2 => rcases st with _ | ⟨y, _ | ⟨x, r⟩⟩ <;> first | exact False.elim h | (obtain ⟨h1, h2, h3, k⟩ := h; exact And.intro h1 (And.intro h2 (And.intro h3 (hK _ _ _ _ _ _ k))))
  case goto off => obtain ⟨h1, h2, k⟩ := h; exact And.intro h1 (And.intro h2 (hK _ _ _ _ _ _ k))
  case ifCond c off => rcases st with _ | ⟨x | x | x, r⟩ <;> first | exact False.elim h | (obtain ⟨h1, h2, k⟩ := h; exact And.intro h1 (And.intro h2 (xcmp_mono (hK _ _ _ _ _ _) (hK _ _ _ _ _ _) k)))
  case if_icmp c off => rcases st with _ | ⟨y | y | y, _ | ⟨x | x | x, r⟩⟩ <;> first | exact False.elim h | (obtain ⟨h1, h2, k⟩ := h; exact And.intro h1 (And.intro h2 (xcmp_mono (hK _ _ _ _ _ _) (hK _ _ _ _ _ _) k)))
  case if_acmp c off => rcases st with _ | ⟨y | y | y, _ | ⟨x | x | x, r⟩⟩ <;> first | exact False.elim h | (obtain ⟨h1, h2, k⟩ := h; exact And.intro h1 (And.intro h2 (xacmp_mono (hK _ _ _ _ _ _) (hK _ _ _ _ _ _) k)))
  case ifnull off => rcases st with _ | ⟨x | x | x, r⟩ <;> first | exact False.elim h | (obtain ⟨h1, h2, k1, k2⟩ := h; exact And.intro h1 (And.intro h2 (And.intro (fun z => hK _ _ _ _ _ _ (k1 z)) (fun z => hK _ _ _ _ _ _ (k2 z)))))
  case ifnonnull off => rcases st with _ | ⟨x | x | x, r⟩ <;> first | exact False.elim h | (obtain ⟨h1, h2, k1, k2⟩ := h; exact And.intro h1 (And.intro h2 (And.intro (fun z => hK _ _ _ _ _ _ (k1 z)) (fun z => hK _ _ _ _ _ _ (k2 z)))))
  case tableswitch d lo hi offs => rcases st with _ | ⟨x | x | x, r⟩ <;> first | exact False.elim h | (obtain ⟨h1, k1, k2⟩ := h; exact And.intro h1 (And.intro (fun z => ⟨(k1 z).1, hK _ _ _ _ _ _ (k1 z).2⟩) (xsw_mono (fun t k => hK _ _ _ _ _ _ k) _ _ k2)))
  case lookupswitch d ps => rcases st with _ | ⟨x | x | x, r⟩ <;> first | exact False.elim h | (obtain ⟨h1, k1⟩ := h; exact And.intro h1 (xlk_mono (fun t k => hK _ _ _ _ _ _ k) _ k1))
  case getfield n =>
    rcases st with _ | ⟨x | x | x, r⟩ <;> first | exact False.elim h | (simp only [xstep] at h ⊢; split at h; (obtain ⟨h1, a, h2, h3, k⟩ := h; exact And.intro h1 ⟨a, h2, h3, hK _ _ _ _ _ _ k⟩); exact False.elim h)
  case putfield n =>
    rcases st with _ | ⟨y | y | y, _ | ⟨x | x | x, r⟩⟩ <;> first | exact False.elim h | (simp only [xstep] at h ⊢; split at h; (obtain ⟨h1, h2, h3, a, h4, h5, k⟩ := h; exact And.intro h1 (And.intro h2 (And.intro h3 ⟨a, h4, h5, hK _ _ _ _ _ _ k⟩))); exact False.elim h)
  case arraylength => rcases st with _ | ⟨x | x | x, r⟩ <;> first | exact False.elim h | (obtain ⟨h1, a, h2, h3, k⟩ := h; exact And.intro h1 ⟨a, h2, h3, hK _ _ _ _ _ _ k⟩)
  case iaload => rcases st with _ | ⟨y | y | y, _ | ⟨x | x | x, r⟩⟩ <;> first | exact False.elim h | (obtain ⟨h1, a, h2, h3, h4, k⟩ := h; exact And.intro h1 ⟨a, h2, h3, h4, hK _ _ _ _ _ _ k⟩)
  case aaload => rcases st with _ | ⟨y | y | y, _ | ⟨x | x | x, r⟩⟩ <;> first | exact False.elim h | (obtain ⟨h1, a, h2, h3, h4, k⟩ := h; exact And.intro h1 ⟨a, h2, h3, h4, hK _ _ _ _ _ _ k⟩)
  case baload => rcases st with _ | ⟨y | y | y, _ | ⟨x | x | x, r⟩⟩ <;> first | exact False.elim h | (obtain ⟨h1, a, h2, h3, h4, k⟩ := h; exact And.intro h1 ⟨a, h2, h3, h4, hK _ _ _ _ _ _ k⟩)
  case bastore => rcases st with _ | ⟨y | y | y, _ | ⟨x | x | x, _ | ⟨z | z | z, r⟩⟩⟩ <;> first | exact False.elim h | (obtain ⟨h1, a, h2, h3, h4, h5, k⟩ := h; exact And.intro h1 ⟨a, h2, h3, h4, h5, hK _ _ _ _ _ _ k⟩)
  case iastore => rcases st with _ | ⟨y | y | y, _ | ⟨x | x | x, _ | ⟨z | z | z, r⟩⟩⟩ <;> first | exact False.elim h | (obtain ⟨h1, a, h2, h3, h4, h5, k⟩ := h; exact And.intro h1 ⟨a, h2, h3, h4, h5, hK _ _ _ _ _ _ k⟩)
  case aastore => rcases st with _ | ⟨y | y | y, _ | ⟨x | x | x, _ | ⟨z | z | z, r⟩⟩⟩ <;> first | exact False.elim h | (obtain ⟨h1, a, b, ci, q, h2, h3, h4, h5, h6, h7, k⟩ := h; exact And.intro h1 ⟨a, b, ci, q, h2, h3, h4, h5, h6, h7, hK _ _ _ _ _ _ k⟩)
  case newarray t =>
    rcases st with _ | ⟨x | x | x, r⟩ <;> first | exact False.elim h | (simp only [xstep] at h ⊢; split at h; (obtain ⟨h1, h2, h3, h4, h5, k⟩ := h; exact And.intro h1 ⟨h2, h3, h4, h5, hK _ _ _ _ _ _ k⟩); exact False.elim h)
  case anewarray n =>
    rcases st with _ | ⟨x | x | x, r⟩ <;> first | exact False.elim h | (simp only [xstep] at h ⊢; split at h; (obtain ⟨h1, h2, h3, h4, h5, k⟩ := h; exact And.intro h1 ⟨h2, h3, h4, h5, hK _ _ _ _ _ _ k⟩); exact False.elim h)
  case invokespecial n => rcases st with _ | ⟨x | x | x, r⟩ <;> first | exact False.elim h | (obtain ⟨h1, h2, h3, h4, h5, k⟩ := h; exact And.intro h1 ⟨h2, h3, h4, h5, hK _ _ _ _ _ _ k⟩)
  case ireturn => exact h
  case lreturn => exact h
  case areturn => exact h
  case return_ => exact h
  all_goals exact False.elim h
theorem xrun_ok {l : Launch} {D : va_G} {n0 own : Nat} {cc : ByteArray} {ini : Bool} {ret : Option FieldType} {R : Room} {V : xKt} {E : xEt} (hV : xCl l D n0 own cc ini ret R V E) (stops : List Nat) : ∀ (f pc : Nat) (lv : List (Option xVal)) (st : List xVal) (S : xS) (cs sl : Nat), xrun own cc ini ret R stops V E f (decode cc pc) pc lv st S cs sl → V pc lv st S cs sl
  | 0, _, _, _, _, _, _, h => h
  | f + 1, pc, lv, st, S, cs, sl, h => by
    cases hd : decode cc pc with
    | error z => rw [hd] at h; exact False.elim h
    | ok q =>
      obtain ⟨i, len⟩ := q
      rw [hd] at h
      unfold xrun at h
      split at h
      · exact h
      · refine hV.1 pc lv st S cs sl i len hd (xstep_mono (fun pc' lv' st' S' cs' sl' h' => ?_) h)
        split at h'
        · exact h'
        · exact xrun_ok hV stops f pc' lv' st' S' cs' sl' h'
