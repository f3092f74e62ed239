/-! CONTRACTS AND CALLS -/
def xrm (k mc ms : Nat) : Room := { frames := xfr k, cells := mc, slots := ms, locals := xlo k }
def xml (k : Nat) : Nat := match xmi k with
  | some r => r.2.2.1
  | none => 0
def xPc (D : va_G) (n0 : Nat) (As : List xVal) (S : xS) : Array Value → State → Prop := va_Pc (As.map xv) (fun U => xRel D n0 U S U.heap ∧ va_K D xcls [] U ∧ xNw U)
def xQc (D : va_G) (n0 : Nat) (Qr : Option xVal → xS → Prop) : Array Value → State → Outcome → State → Prop := fun _ _ o t => ∃ (r : Option xVal) (S' : xS), o = .returned (r.map xv) ∧ xRel D n0 t S' t.heap ∧ Qr r S'
/-- the contract of method k: from the picture S, with the arguments As, it makes at most mc cells of ms slots, and ends with Qr -/
def xMet (l : Launch) (D : va_G) (n0 k mc ms : Nat) (As : List xVal) (S : xS) (Qr : Option xVal → xS → Prop) : Prop := match xmi k with
  | some (y, cc, maxL, ret, _, _) => Met l y (Jvm.Cond.code y cc maxL ret :: xtb) (xrm k mc ms) (xPc D n0 As S) (xQc D n0 Qr) mc ms (fun q => n0 ≤ q)
  | none => False
def xarg (k : Nat) : Nat := match xmi k with
  | some r => if r.2.2.2.2.1 = 0 then r.2.2.2.2.2 else r.2.2.2.2.2 + 1
  | none => 0
def xinv (kd idx : Nat) : Instr := match kd with
  | 0 => .invokestatic idx
  | 1 => .invokevirtual idx
  | _ => .invokespecial idx
theorem xPc_blind (D : va_G) (n0 : Nat) (As : List xVal) (S : xS) : FrameBlind (xPc D n0 As S) := by
  intro a U g mk h
  obtain ⟨h1, h2, h3, h4⟩ := h
  exact ⟨h1, h2.moved (U := U.calling g mk a) (Vm.Alike.refl U.vm), va_K.moved (u := U) (U := U.calling g mk a) (Vm.Alike.refl U.vm) h3, va_Nw.same rfl rfl h4.1, fun C hC => (h4.2 C hC).moved (U := U.calling g mk a) (Vm.Alike.refl U.vm)⟩
theorem xtb_goodIn {y : MethodName} {cc : ByteArray} {maxL : Nat} {ret : Option FieldType} (h : Jvm.Cond.code y cc maxL ret ∈ xtb) {ws : List Jvm.Cond} (hw : ∀ w ∈ ws, w ∈ xtb) : GoodIn xtb (ws ++ (Jvm.Cond.code y cc maxL ret :: xtb)) := by
  intro w hm
  have h1 : w ∈ xtb := by
    rcases List.mem_append.mp hm with h2 | h2
    · exact hw w h2
    · rcases List.mem_cons.mp h2 with h3 | h3
      · rw [h3]; exact h
      · exact h3
  exact ⟨h1, xtb_good w h1⟩
theorem xcl_ok {own idx k kd cj : Nat} (h : xcl own idx = some (k, kd, cj)) : xCLP (own, idx, k, kd, cj) := by
  unfold xcl at h
  obtain ⟨r, hr, e⟩ := Option.map_eq_some_iff.mp h
  obtain ⟨hm, hp⟩ := xfind hr
  simp only [Bool.and_eq_true, beq_iff_eq] at hp
  have hk := xCL_ok r hm
  obtain ⟨r1, r2, r3, r4, r5⟩ := r
  obtain ⟨rfl, rfl⟩ := hp
  cases e
  exact hk
section XCALL
variable {p : Program} {l : Launch} {e : Env} {R : Room} {s : State} {m : MethodId} {args : Array Value} {below : List Frame} {meth : Method} {c : Code} {Q : State → Prop} {D : va_G} {n0 : Nat} {H : Heap} {locs : List Loc} {cs sl : Nat}
variable {own : Nat} {cc : ByteArray} {ini : Bool} {ret : Option FieldType} {E : xEt}
theorem x_after {pc mc ms : Nat} {ls : Array Slot} {st0 rest : List Value} {Qr : Option xVal → xS → Prop} {a : Array Value} (hr : va_Run p l e R s m args below meth c H locs cs sl mc ms (F0 m pc ls st0) rest (xQc D n0 Qr a) (fun q => n0 ≤ q)) (hL : ∀ q ∈ locs, n0 ≤ q.base)
    (kk : ∀ (r : Option xVal) (S' : xS) (H1 : Heap) (locs1 : List Loc), Qr r S' → xRel D n0 s S' H1 → (∀ q ∈ locs1, n0 ≤ q.base) → W p l e R s m args below meth c H1 locs1 (cs + mc) (sl + ms) Q (F0 m (pc + 3) ls ((r.map xv).toList ++ rest))) : W p l e R s m args below meth c H locs cs sl Q (F0 m pc ls st0) := by
  intro T hT X
  obtain ⟨v, st₀, t, T', L, h0, X', hLL, e1, e2, ⟨r, S', hv, hrel, hq⟩, st⟩ := hr T hT X
  cases hv
  have hal : t.vm.Alike s.vm := by rw [← e2]; exact X'.warmed.alike.symm
  obtain ⟨t2, a1, b1⟩ := kk r S' T'.heap (locs ++ L) hq (by rw [e1]; exact hrel.moved hal) (fun q hq => by
    rcases List.mem_append.mp hq with h | h
    · exact hL q h
    · exact hLL q h) T' rfl X'
  exact ⟨t2, st t2 a1, b1⟩
set_option maxHeartbeats 1000000 in
theorem x_call (C : xCx p s m args meth c D own cc ini ret) {pc : Nat} {lv : List (Option xVal)} {st : List xVal} {S : xS} {idx k kd cj mc ms : Nat} {As rest : List xVal} {Qr : Option xVal → xS → Prop}
    (hd : decode cc pc = .ok (xinv kd idx, 3)) (hc : xcl own idx = some (k, kd, cj)) (hst : st = As.reverse ++ rest) (hAs : As.length = xarg k) (hrec : kd = 0 ∨ ∃ b t, As = .inr (.inr (some b)) :: t ∧ (kd = 1 → xc S b = cj + 1)) (hsum : (rest.map xcat).sum ≤ 8)
    (hM : xMet l D n0 k mc ms As S Qr) (hfr : xfr k + 1 ≤ R.frames) (hlo : 19 + xml k + xlo k ≤ R.locals) (hcs : cs + mc ≤ R.cells) (hsl : sl + ms ≤ R.slots)
    (kk : ∀ (r : Option xVal) (S' : xS), Qr r S' → xV p l e R s m args below meth c Q D n0 (pc + 3) lv (r.toList ++ rest) S' (cs + mc) (sl + ms)) : xV p l e R s m args below meth c Q D n0 pc lv st S cs sl := by
  obtain ⟨hx, hb, hown, hts, hK, hini, hr, hlocks, hNw⟩ := C
  obtain ⟨y, cb, maxL, rt, n, hy, w1, w2, w4, w5, w7⟩ := xcl_ok hc
  have hmx : xml k = maxL := by simp [xml, hy]
  rw [hmx] at hlo
  have hlen : As.length = if kd = 0 then n else n + 1 := by rw [hAs]; simp [xarg, hy]
  unfold xMet at hM
  rw [hy] at hM
  intro H locs ls hR hL hls
  subst hst
  have hG : GoodIn xtb (Jvm.Cond.code y cb maxL rt :: xtb) := xtb_goodIn (ws := []) w1 (fun w h => by cases h)
  have hRoom : (xrm k mc ms).frames + 1 ≤ R.frames ∧ 8 + (maxL + 11) + (xrm k mc ms).locals ≤ R.locals := ⟨hfr, by show 8 + (maxL + 11) + xlo k ≤ _; omega⟩
  have hmono : 2 * (F0 m pc ls ((As.reverse ++ rest).map xv)).monitorRoom + ((rest.map xv).map fun v => v.category).sum ≤ 8 := by rw [xsum]; show 2 * 0 + _ ≤ 8; omega
  have hPre : ∀ U : State, U.heap = H → s.WarmedH U.vm → xPc D n0 As S (As.map xv).toArray U := fun U hU hW => ⟨rfl, by rw [hU]; exact hR.moved hW.alike, va_K.moved hW.alike hK, va_Nw.warmM hW hNw.1, fun C hC => (hNw.2 C hC).moved hW.alike⟩
  refine x_after (D := D) (Qr := Qr) (mc := mc) (ms := ms) (rest := rest.map xv) (a := (As.map xv).toArray) ?_ hL (fun r S' H1 locs1 hq hR1 hL1 => ?_)
  · rcases kd with _ | _ | _ | kd
    · obtain ⟨w3, w7⟩ := w7
      exact va_runS (cc := cc) (nL := c.maxLocals) (Ts := xtb) (own := xnm own) (As := As.map xv) ⟨hx, hb, rfl, hown, hts⟩ hM (va_cwS n hts (xtb_goodIn (ws := [.methodLink (xnm own) idx y, .static y, .initialized y.cls]) w1 (by intro w h; simp at h; rcases h with rfl | rfl | rfl; exact w3; exact w7; exact w2)) rfl rfl rfl ⟨w4.1, w4.2, w5⟩ hRoom) ⟨xPc_blind D n0 As S, hPre⟩ rfl (by simpa using hlen) hls.1.1 (by simp) hmono hd ⟨hcs, hsl⟩
    · obtain ⟨w3, u1, u2, u3⟩ := w7
      rcases hrec with h | ⟨b, t, rfl, hcb⟩
      · exact absurd h (by decide)
      obtain ⟨q, hq, hqn⟩ := Option.map_eq_some_iff.mp u3
      have hcell : ∃ cell : Cell, H[b]? = some cell ∧ cell.vm.isStatics = false ∧ s.vm.findClass y.cls = some cell.cls := by
        obtain ⟨cell, q1, q2, q3, -⟩ := hR.2.2.2.1 b cj q (hcb rfl) hq
        exact ⟨cell, q1, by rw [q3]; rfl, by rw [q2, ← hqn]; exact (hK.1 cj q hq).2.1⟩
      exact va_runV (cc := cc) (nL := c.maxLocals) (Ts := xtb) (own := xnm own) (C := y.cls) (b := b) (As := t.map xv) ⟨hx, hb, rfl, hown, hts⟩ hM (cwV n hts (xtb_goodIn (ws := [.methodLink (xnm own) idx y, .instanceMethod y, .selects y.cls y y, .initialized y.cls]) w1 (by intro w h; simp at h; rcases h with rfl | rfl | rfl | rfl; exact w3; exact u1; exact u2; exact w2)) rfl rfl rfl ⟨rfl, w4.1, w4.2, w5⟩ hRoom) ⟨xPc_blind D n0 _ S, hcell, hPre⟩ rfl (by simpa using hlen) hls.1.1 (by simp [xv, va_rf]) hmono hd ⟨hcs, hsl⟩
    · obtain ⟨w3, u1, u2, rfl⟩ := w7
      rcases hrec with h | ⟨b, t, rfl, hcb⟩
      · exact absurd h (by omega)
      exact va_runI (cc := cc) (nL := c.maxLocals) (Ts := xtb) (own := xnm own) (b := b) (As := t.map xv) ⟨hx, hb, rfl, hown, hts⟩ hM (cwI n hts hG rfl rfl rfl (hts _ w2) (hts _ w3) (hts _ u1) u2 ⟨w4.1, w4.2, w5⟩ hRoom) ⟨xPc_blind D n0 _ S, hPre⟩ rfl (by simpa using hlen) hls.1.1 (by simp [xv, va_rf]) hmono hd ⟨hcs, hsl⟩
    · obtain ⟨w3, u1, u2, rfl⟩ := w7
      rcases hrec with h | ⟨b, t, rfl, hcb⟩
      · exact absurd h (by omega)
      have hNw' : va_Nw (.methodLinkNest (xnm own) idx y (xnm 3)) s := by
        have h9 := hNw.1
        rw [w3] at h9
        exact h9
      exact va_runIN (cc := cc) (nL := c.maxLocals) (Ts := xtb) (own := xnm own) (host := xnm 3) (b := b) (As := t.map xv) ⟨hx, hb, rfl, hown, hts⟩ hM ⟨va_cnB n hts hG rfl rfl rfl hNw' (hts _ w2) ⟨w4.1, w4.2, w5⟩ hRoom, u2, hts _ u1⟩ ⟨xPc_blind D n0 _ S, hPre⟩ rfl (by simpa using hlen) hls.1.1 (by simp [xv, va_rf]) hmono hd ⟨hcs, hsl⟩
  · have h1 := kk r S' hq H1 locs1 ls hR1 hL1 hls
    rw [show List.map xv (r.toList ++ rest) = (r.map xv).toList ++ rest.map xv by cases r <;> simp] at h1
    exact h1
end XCALL
/-- V is closed under the steps of the code cc of class own, and under its calls -/
def xCl (l : Launch) (D : va_G) (n0 own : Nat) (cc : ByteArray) (ini : Bool) (ret : Option FieldType) (R : Room) (V : xKt) (E : xEt) : Prop :=
  (∀ pc lv st S cs sl i len, decode cc pc = .ok (i, len) → xstep own ini ret R i len pc lv st S cs sl V E → V pc lv st S cs sl) ∧
  (∀ pc lv lv' st S cs sl cs' sl', xle lv' lv → cs ≤ cs' → sl ≤ sl' → V pc lv' st S cs' sl' → V pc lv st S cs sl) ∧
  (∀ pc lv st S cs sl idx k kd cj mc ms As rest Qr, decode cc pc = .ok (xinv kd idx, 3) → xcl own idx = some (k, kd, cj) → st = As.reverse ++ rest → As.length = xarg k → (kd = 0 ∨ ∃ b t, As = .inr (.inr (some b)) :: t ∧ (kd = 1 → xc S b = cj + 1)) → (rest.map xcat).sum ≤ 8 →
    xMet l D n0 k mc ms As S Qr → xfr k + 1 ≤ R.frames → 19 + xml k + xlo k ≤ R.locals → cs + mc ≤ R.cells → sl + ms ≤ R.slots →
    (∀ (r : Option xVal) (S' : xS), Qr r S' → V (pc + 3) lv (r.toList ++ rest) S' (cs + mc) (sl + ms)) → V pc lv st S cs sl)
theorem xV_closed {p : Program} {l : Launch} {e : Env} {R : Room} {s : State} {m : MethodId} {args : Array Value} {below : List Frame} {meth : Method} {c : Code} {Q : State → Prop} {D : va_G} {n0 own : Nat} {cc : ByteArray} {ini : Bool} {ret : Option FieldType} {E : xEt}
    (C : xCx p s m args meth c D own cc ini ret) (hE : xEx p l e R s m args below meth c Q D n0 cc ret E) : xCl l D n0 own cc ini ret R (xV p l e R s m args below meth c Q D n0) E :=
  ⟨fun _ _ _ _ _ _ _ _ hd h => x_step C hE hd h,
   fun _ _ _ _ _ _ _ _ _ h1 h2 h3 k H locs ls hR hL hls => W.widen h2 h3 (k H locs ls hR hL (hls.le h1)),
   fun _ _ _ _ _ _ _ _ _ _ _ _ _ _ _ hd hc hst hAs hrec hsum hM h1 h2 h3 h4 kk => x_call C hd hc hst hAs hrec hsum hM h1 h2 h3 h4 kk⟩
theorem xCl.call {l : Launch} {D : va_G} {n0 own : Nat} {cc : ByteArray} {ini : Bool} {ret : Option FieldType} {R : Room} {V : xKt} {E : xEt} (hV : xCl l D n0 own cc ini ret R V E) {pc : Nat} {lv : List (Option xVal)} {st : List xVal} {S : xS} {cs sl idx k kd cj mc ms : Nat} {As : List xVal} (rest : List xVal) {Qr : Option xVal → xS → Prop}
    (hc : xcl own idx = some (k, kd, cj)) (hd : decode cc pc = .ok (xinv kd idx, 3)) (hM : xMet l D n0 k mc ms As S Qr) (hrec : kd = 0 ∨ ∃ b t, As = .inr (.inr (some b)) :: t ∧ (kd = 1 → xc S b = cj + 1)) (hst : st = As.reverse ++ rest) (hAs : As.length = xarg k) (hsum : (rest.map xcat).sum ≤ 8) (hR : xfr k + 1 ≤ R.frames ∧ 19 + xml k + xlo k ≤ R.locals) (hC : cs + mc ≤ R.cells ∧ sl + ms ≤ R.slots)
    (kk : ∀ (r : Option xVal) (S' : xS), Qr r S' → V (pc + 3) lv (r.toList ++ rest) S' (cs + mc) (sl + ms)) : V pc lv st S cs sl :=
  hV.2.2 pc lv st S cs sl idx k kd cj mc ms As rest Qr hd hc hst hAs hrec hsum hM hR.1 hR.2 hC.1 hC.2 kk
theorem xCl.weak {l : Launch} {D : va_G} {n0 own : Nat} {cc : ByteArray} {ini : Bool} {ret : Option FieldType} {R : Room} {V : xKt} {E : xEt} (hV : xCl l D n0 own cc ini ret R V E) {pc : Nat} {lv : List (Option xVal)} {st : List xVal} {S : xS} {cs sl : Nat} (lv' : List (Option xVal)) (hl : xle lv' lv) (k : V pc lv' st S cs sl) : V pc lv st S cs sl :=
  hV.2.1 pc lv lv' st S cs sl cs sl hl (Nat.le_refl _) (Nat.le_refl _) k
-- the locals at the entry
def xent : List xVal → List (Option xVal)
  | [] => []
  | .inr (.inl y) :: t => some (.inr (.inl y)) :: none :: xent t
  | v :: t => some v :: xent t
theorem xent_args : ∀ (As : List xVal) (i0 i : Nat) (v : xVal), (xent As)[i]? = some (some v) → (i0 + i, xv v) ∈ lv_args i0 (As.map xv)
  | [], i0, i, v, h => by simp [xent] at h
  | .inl x :: t, i0, i, v, h => by
    rw [List.map_cons, lv_args]
    cases i with
    | zero =>
      simp [xent] at h
      subst h
      exact List.mem_cons_self
    | succ i =>
      have h1 := xent_args t (i0 + 1) i v (by simpa [xent] using h)
      refine List.mem_cons_of_mem _ ?_
      rw [show i0 + (i + 1) = i0 + 1 + i by omega]
      exact h1
  | .inr (.inl y) :: t, i0, i, v, h => by
    rw [List.map_cons, lv_args]
    cases i with
    | zero =>
      simp [xent] at h
      subst h
      exact List.mem_cons_self
    | succ i =>
      cases i with
      | zero => simp [xent] at h
      | succ i =>
        have h1 := xent_args t (i0 + 2) i v (by simpa [xent] using h)
        refine List.mem_cons_of_mem _ ?_
        rw [show i0 + (i + 1 + 1) = i0 + 2 + i by omega]
        exact h1
  | .inr (.inr o) :: t, i0, i, v, h => by
    rw [List.map_cons, lv_args]
    cases i with
    | zero =>
      simp [xent] at h
      subst h
      exact List.mem_cons_self
    | succ i =>
      have h1 := xent_args t (i0 + 1) i v (by simpa [xent] using h)
      refine List.mem_cons_of_mem _ ?_
      rw [show i0 + (i + 1) = i0 + 1 + i by omega, show (xv (.inr (.inr o))).category = 1 from xcat_ok _]
      exact h1
theorem xent_len : ∀ (As : List xVal), (xent As).length = (lg_sl (As.map xv)).length
  | [] => rfl
  | .inl x :: t => by simp [xent, xent_len t, lg_sl, xv, Value.category]
  | .inr (.inl y) :: t => by simp [xent, xent_len t, lg_sl, xv, Value.category]
  | .inr (.inr o) :: t => by
    have := xent_len t
    cases o <;> simp [xent, this, lg_sl, xv, va_rf, Value.category]
theorem xent_Ls {As : List xVal} {maxL : Nat} (h : (xent As).length ≤ maxL) : xLs ((lg_sl (As.map xv) ++ List.replicate (maxL - (lg_sl (As.map xv)).length) Slot.unset).toArray) maxL (xent As ++ List.replicate (maxL - (xent As).length) none) := by
  have hl := lv_entry (As.map xv) (n := maxL) (by rw [← xent_len]; exact h)
  refine ⟨⟨hl.1, by simp; omega⟩, hl.2.1, fun i v hi => ?_⟩
  have h1 : (xent As)[i]? = some (some v) := by
    by_cases hz : i < (xent As).length
    · rw [List.getElem?_append_left hz] at hi
      exact hi
    · rw [List.getElem?_append_right (by omega)] at hi
      have := List.mem_of_getElem? hi
      simp at this
  have h2 := hl.2.2 _ (xent_args As 0 i v h1)
  simpa using h2
def xE (mc ms : Nat) (Qr : Option xVal → xS → Prop) : xEt := fun v S cs sl => cs ≤ mc ∧ sl ≤ ms ∧ Qr v S
theorem xMet.of {l : Launch} {D : va_G} {n0 k mc ms : Nat} {As : List xVal} {S : xS} {Qr : Option xVal → xS → Prop} {y : MethodName} {cc : ByteArray} {maxL : Nat} {ret : Option FieldType} {kd n own : Nat} {ini : Bool}
    (hk : xmi k = some (y, cc, maxL, ret, kd, n)) (hpl : plainFor y = true) (hown : y.cls = xnm own) (hini : ini = true → y.name = "<init>") (hlen : (xent As).length ≤ maxL)
    (body : ∀ V : xKt, xCl l D n0 own cc ini ret (xrm k mc ms) V (xE mc ms Qr) → V 0 (xent As ++ List.replicate (maxL - (xent As).length) none) [] S 0 0) : xMet l D n0 k mc ms As S Qr := by
  unfold xMet
  rw [hk]
  refine va_MetF (cc := cc) (maxL := maxL) (ret := ret) hpl rfl ?_
  intro p e s m args below meth c s₁ B hml hv
  obtain ⟨rfl, hR, hK, hNw⟩ := hv
  have hts := atoms_spec (ws := Jvm.Cond.code y cc maxL ret :: xtb) B.pre
  have hts' : ∀ w ∈ xtb, w.before (As.map xv).toArray s = true := fun w h => hts w (List.mem_cons_of_mem _ h)
  have hown' : s.vm.findClass (xnm own) = some m.cls := by rw [← hown]; exact findClass_of_methodNamed B.named
  have hlocks := B.notSynchronized
  have C : xCx p s m (As.map xv).toArray meth c D own cc ini ret := ⟨B.exec, B.bytes, hown', hts', hK, fun h => by rw [(name_of_methodNamed B.named B.method).1]; exact hini h, B.returns, hlocks, hNw⟩
  have hE : xEx p l e (headSpec (Jvm.Cond.code y cc maxL ret :: xtb) (xrm k mc ms)).room s m (As.map xv).toArray below meth c (MQ below (xQc D n0 Qr) (As.map xv).toArray s mc ms (fun q => n0 ≤ q)) D n0 cc ret (xE mc ms Qr) := by
    refine ⟨?_, ?_, ?_, ?_⟩
    · intro x S cs sl pc ls H locs hE hn hd hR hL
      obtain ⟨h1, h2, hq⟩ := hE
      obtain ⟨ty, hret, hnar⟩ := hn
      exact W.widen h1 h2 (W.zret B.exec B.bytes (by rw [B.returns, hret]) hnar (fun t ht hW => ⟨some (.inl x), S, rfl, by rw [ht]; exact hR.moved hW.alike, hq⟩) hL hd)
    · intro x S cs sl pc ls H locs hE hn hd hR hL
      obtain ⟨h1, h2, hq⟩ := hE
      exact W.widen h1 h2 (W.lret B.exec B.bytes (by rw [B.returns, hn]) (fun t ht hW => ⟨some (.inr (.inl x)), S, rfl, by rw [ht]; exact hR.moved hW.alike, hq⟩) hL hd)
    · intro x S cs sl pc ls H locs hE hn hd hR hL
      obtain ⟨h1, h2, hq⟩ := hE
      have hv : va_rf x = .null ∨ ∃ a, va_rf x = .ref a := by
        cases x with
        | none => exact Or.inl rfl
        | some a => exact Or.inr ⟨a, rfl⟩
      rcases hn with ⟨C, hn⟩ | ⟨t, hn⟩
      · exact W.widen h1 h2 (W.aret B.exec B.bytes (by rw [B.returns, hn]) (Or.inl ⟨C, rfl⟩) hv (fun t ht hW => ⟨some (.inr (.inr x)), S, rfl, by rw [ht]; exact hR.moved hW.alike, hq⟩) hL hd)
      · exact W.widen h1 h2 (W.aret B.exec B.bytes (by rw [B.returns, hn]) (Or.inr ⟨t, rfl⟩) hv (fun t ht hW => ⟨some (.inr (.inr x)), S, rfl, by rw [ht]; exact hR.moved hW.alike, hq⟩) hL hd)
    · intro S cs sl pc ls H locs hE hn hd hR hL
      obtain ⟨h1, h2, hq⟩ := hE
      exact W.widen h1 h2 (W.vret B.exec B.bytes (by rw [B.returns, hn]) (fun t ht hW => ⟨none, S, rfl, by rw [ht]; exact hR.moved hW.alike, hq⟩) hL hd)
  have hV := body _ (xV_closed C hE)
  rw [lg_entry_eq]
  exact hV s.heap [] _ hR (by simp) (by rw [hml]; exact xent_Ls hlen)
-- many steps: until a stop, a call, or the fuel's end
def xisc (i : Instr) : Bool := match i with
  | .invokestatic _ => true
  | .invokevirtual _ => true
  | _ => false
def xrun (own : Nat) (cc : ByteArray) (ini : Bool) (ret : Option FieldType) (R : Room) (stops : List Nat) (V : xKt) (E : xEt) : Nat → Except DecodeError (Instr × Nat) → xKt
  | 0, _, pc, lv, st, S, cs, sl => V pc lv st S cs sl
  | f + 1, .ok (i, len), pc, lv, st, S, cs, sl => if xisc i = true then V pc lv st S cs sl else xstep own ini ret R i len pc lv st S cs sl (fun pc' lv' st' S' cs' sl' => if pc' ∈ stops then V pc' lv' st' S' cs' sl' else xrun own cc ini ret R stops V E f (decode cc pc') pc' lv' st' S' cs' sl') E
  | _ + 1, .error _, _, _, _, _, _, _ => False
