/-! THE STEP IS SOUND -/
theorem xfind {α : Type} {T : List α} {P : α → Bool} {r : α} (h : T.find? P = some r) : r ∈ T ∧ P r = true := ⟨List.mem_of_find?_eq_some h, List.find?_some h⟩
theorem xfl_ok {own idx ci j : Nat} {fin : Bool} {ty : FieldType} (h : xfl own idx = some (ci, j, fin, ty)) : ∃ q : vw_C, xcls[ci]? = some q ∧ j < q.2.2 ∧ (q.2.1 j).2.2.2 = fin ∧ parseFieldDescriptor (q.2.1 j).2.2.1 = some ty ∧ Jvm.Cond.fieldLink (xnm own) idx (q.2.1 j).1 (q.2.1 j).2.1 (q.2.1 j).2.2.1 ∈ xtb := by
  unfold xfl at h
  obtain ⟨r, hr, e⟩ := Option.map_eq_some_iff.mp h
  obtain ⟨hm, hp⟩ := xfind hr
  simp only [Bool.and_eq_true, beq_iff_eq] at hp
  have hk := xFL_ok r hm
  obtain ⟨r1, r2, r3, r4, r5, r6⟩ := r
  obtain ⟨rfl, rfl⟩ := hp
  cases e
  dsimp only at hk
  split at hk
  · rename_i q hq
    simp only [Bool.and_eq_true, decide_eq_true_eq] at hk
    exact ⟨q, hq, hk.1.1.1, hk.1.1.2, hk.1.2, hk.2⟩
  · cases hk
theorem xnc_ok {own idx ci N : Nat} (h : xnc own idx = some (ci, N)) : ∃ q : vw_C, xcls[ci]? = some q ∧ q.2.2 = N ∧ Jvm.Cond.classLink (xnm own) idx q.1 ∈ xtb ∧ Jvm.Cond.instantiable q.1 q.2.2 ∈ xtb ∧ Jvm.Cond.initialized q.1 ∈ xtb := by
  unfold xnc at h
  obtain ⟨r, hr, e⟩ := Option.map_eq_some_iff.mp h
  obtain ⟨hm, hp⟩ := xfind hr
  simp only [Bool.and_eq_true, beq_iff_eq] at hp
  have hk := xNC_ok r hm
  obtain ⟨r1, r2, r3, r4⟩ := r
  obtain ⟨rfl, rfl⟩ := hp
  cases e
  dsimp only at hk
  split at hk
  · rename_i q hq
    simp only [Bool.and_eq_true, decide_eq_true_eq] at hk
    exact ⟨q, hq, hk.1.1.1, hk.1.1.2, hk.1.2, hk.2⟩
  · cases hk
theorem xna_ok {own idx tg : Nat} (h : xna own idx = some tg) : ∃ C, xat tg = some (.object C) ∧ xcls.length < tg ∧ tg ≠ 999 ∧ Jvm.Cond.classLink (xnm own) idx C ∈ xtb ∧ C ∈ xAO := by
  unfold xna at h
  obtain ⟨r, hr, e⟩ := Option.map_eq_some_iff.mp h
  obtain ⟨hm, hp⟩ := xfind hr
  simp only [Bool.and_eq_true, beq_iff_eq] at hp
  have hk := xNA_ok r hm
  obtain ⟨r1, r2, r3, r4⟩ := r
  obtain ⟨rfl, rfl⟩ := hp
  cases e
  exact ⟨_, hk⟩
theorem xki_ok {own idx : Nat} {v : Int32} (h : xki own idx = some v) : Jvm.Cond.constant (xnm own) idx v ∈ xtb := by
  unfold xki at h
  obtain ⟨r, hr, e⟩ := Option.map_eq_some_iff.mp h
  obtain ⟨hm, hp⟩ := xfind hr
  simp only [Bool.and_eq_true, beq_iff_eq] at hp
  have hk := xKI_ok r hm
  obtain ⟨r1, r2, r3⟩ := r
  obtain ⟨rfl, rfl⟩ := hp
  cases e
  exact hk
theorem xkl_ok {own idx : Nat} {v : Int64} (h : xkl own idx = some v) : Jvm.Cond.constantLong (xnm own) idx v ∈ xtb := by
  unfold xkl at h
  obtain ⟨r, hr, e⟩ := Option.map_eq_some_iff.mp h
  obtain ⟨hm, hp⟩ := xfind hr
  simp only [Bool.and_eq_true, beq_iff_eq] at hp
  have hk := xKL_ok r hm
  obtain ⟨r1, r2, r3⟩ := r
  obtain ⟨rfl, rfl⟩ := hp
  cases e
  exact hk
theorem xoi_ok {own idx : Nat} (h : xoi own idx = true) : Jvm.Cond.methodLink (xnm own) idx objectInit ∈ xtb := by
  unfold xoi at h
  obtain ⟨r, hr⟩ := Option.isSome_iff_exists.mp h
  obtain ⟨hm, hp⟩ := xfind hr
  simp only [Bool.and_eq_true, beq_iff_eq] at hp
  have hk := xOI_ok r hm
  obtain ⟨r1, r2⟩ := r
  obtain ⟨rfl, rfl⟩ := hp
  exact hk
theorem xty_of {ci k : Nat} {q : vw_C} {ty : FieldType} (hq : xcls[ci]? = some q) (h : parseFieldDescriptor (q.2.1 k).2.2.1 = some ty) : xty ci k = ty := by
  simp [xty, hq, h]
theorem xcl_lt {ci : Nat} {q : vw_C} (hq : xcls[ci]? = some q) : ci < xcls.length := (List.getElem?_eq_some_iff.mp hq).1
theorem xcl_mem {ci : Nat} {q : vw_C} (hq : xcls[ci]? = some q) : q ∈ xcls := List.mem_of_getElem? hq
theorem xcl_nm {ci : Nat} {q : vw_C} (hq : xcls[ci]? = some q) : xnm ci = q.1 := by
  have h := xcls_nm ci (xcl_lt hq)
  rw [hq] at h
  exact (Option.some.inj h).symm
theorem xty_hty {ci : Nat} {q : vw_C} (hq : xcls[ci]? = some q) : ∀ k, k < q.2.2 → parseFieldDescriptor (q.2.1 k).2.2.1 = some (xty ci k) := by
  intro k hk
  have h := ((xcls_ok q (xcl_mem hq)).2.2 k hk).2
  cases hp : parseFieldDescriptor (q.2.1 k).2.2.1 with
  | none => rw [hp] at h; cases h
  | some ty => rw [xty_of hq hp]
theorem xty_simple {ci : Nat} {q : vw_C} (hq : xcls[ci]? = some q) {k : Nat} (hk : k < q.2.2) : xsimple (xty ci k) = true := by
  have h := ((xcls_ok q (xcl_mem hq)).2.2 k hk).2
  rw [xty_hty hq k hk] at h
  exact Option.some.inj h
theorem xdef {ty : FieldType} (h : xsimple ty = true) (S : xS) (t n k : Nat) : defaultValue ty = xfv ty (xmk S t n) (xn S) k := by
  cases ty <;> simp_all [xsimple, xfv, xi_mk, xr_mk, defaultValue, va_rf]
section XSOUND
variable {p : Program} {l : Launch} {e : Env} {R : Room} {s : State} {m : MethodId} {args : Array Value} {below : List Frame} {meth : Method} {c : Code} {H : Heap} {locs : List Loc} {cells slots : Nat} {Q : State → Prop} {D : va_G} {n0 : Nat}
variable {own : Nat} {cc : ByteArray} {pc : Nat} {ls : Array Slot} {rest : List Value} {S : xS} {a : Nat}
theorem xo_get (hx : p.tables.exec = Jvm.exec) (hb : c.code = cc) (hown : s.vm.findClass (xnm own) = some m.cls) (hts : ∀ w ∈ xtb, w.before args s = true) (hK : va_K D xcls [] s) (hR : xRel D n0 s S H) {idx ci j : Nat} {fin : Bool} {ty : FieldType} (hf : xfl own idx = some (ci, j, fin, ty)) (hc : xc S a = ci + 1) (hd : decode cc pc = .ok (.getfield idx, 3))
    (kk : W p l e R s m args below meth c H locs cells slots Q (F0 m (pc + 3) ls (xfv ty S a j :: rest))) : W p l e R s m args below meth c H locs cells slots Q (F0 m pc ls (.ref a :: rest)) := by
  obtain ⟨q, hq, hj, -, hty, hlink⟩ := xfl_ok hf
  obtain ⟨cell, q1, q2, q3, q4⟩ := hR.2.2.2.1 a ci q hc hq
  obtain ⟨hS, hfc, kC, hkC, hkind⟩ := hK.1 ci q hq
  obtain ⟨cf, kf, fi, f, hi, hsl⟩ := hS j hj
  refine W.getf hx hb hown (hts _ hlink) hi (u_facts hfc hkC (u_lays hts (xcls_ok q (xcl_mem hq)).1 hj) hi).1 q1 (by rw [q3]; exact fun h => by cases h) (v := xfv ty S a j) ?_ rfl rfl hd kk
  rw [hsl, q4 j hj]
  show some (xfv (xty ci j) S a j) = _
  rw [xty_of hq hty]
theorem xo_put (hx : p.tables.exec = Jvm.exec) (hb : c.code = cc) (hown : s.vm.findClass (xnm own) = some m.cls) (hts : ∀ w ∈ xtb, w.before args s = true) (hK : va_K D xcls [] s) (hR : xRel D n0 s S H) (hL : ∀ q ∈ locs, n0 ≤ q.base) {idx ci j : Nat} {fin : Bool} {ty : FieldType} (hf : xfl own idx = some (ci, j, fin, ty)) (hfin : fin = false ∨ (meth.name = "<init>" ∧ xnm own = xnm ci)) (hc : xc S a = ci + 1) {v : Value} {S' : xS} (hn : narrow ty v = v) (hfit : fits ty v = true)
    (hSn : xn S' = xn S) (hSc : xc S' = xc S) (hSl : xl S' = xl S) (hSi : ∀ b k, (b ≠ a ∨ k ≠ j) → xi S' b k = xi S b k) (hSr : ∀ b k, (b ≠ a ∨ k ≠ j) → xr S' b k = xr S b k) (hv : v = xfv ty S' a j) (hd : decode cc pc = .ok (.putfield idx, 3))
    (kk : ∀ (H1 : Heap) (locs1 : List Loc), xRel D n0 s S' H1 → (∀ q ∈ locs1, n0 ≤ q.base) → W p l e R s m args below meth c H1 locs1 cells slots Q (F0 m (pc + 3) ls rest)) : W p l e R s m args below meth c H locs cells slots Q (F0 m pc ls (v :: .ref a :: rest)) := by
  obtain ⟨q, hq, hj, hfl, hty, hlink⟩ := xfl_ok hf
  have hcls := xcls_ok q (xcl_mem hq)
  obtain ⟨cell, q1, q2, q3, q4⟩ := hR.2.2.2.1 a ci q hc hq
  have hap := va_apart (own := xnm own) (C := q.1) (T := q.2.1) (N := q.2.2) hts hcls.1 (xty ci) (xty_hty hq) hcls.2.1 hK hq
  obtain ⟨hS, hfc, kC, hkC, hkind⟩ := hK.1 ci q hq
  obtain ⟨cf, kf, fi, f, hi, hsl⟩ := hS j hj
  have hst := (u_facts hfc hkC (u_lays hts hcls.1 hj) hi).1
  have han : n0 ≤ a := hR.2.2.2.2.2 a (by rw [hc]; exact Nat.succ_ne_zero _) (by
    rw [hc]
    have h1 := xcls_tag ci (xcl_lt hq)
    intro z
    rw [z] at h1
    revert h1
    decide +kernel)
  have fin' : ∀ H' : Heap, H'[a]? = some (cell.setSlot (D.2 ci j) v) → H'.size = H.size → (∀ q, q ≠ a → H'[q]? = H[q]?) → xRel D n0 s S' H' := by
    intro H' e1 e2 e3
    refine hR.set hSn hSc hSl (fun b k h => hSi b k (Or.inl h)) (fun b k h => hSr b k (Or.inl h)) e2 e3 (fun ci' q' h1 h2 => ?_) (fun ty' h => ?_)
    · have hci : ci' = ci := by rw [hc] at h1; omega
      subst hci
      cases hq.symm.trans h2
      refine t_OB.to (V := updV (fun k => xfv (xty ci' k) S a k) j v) ⟨_, e1, q2, q3, t_set q4 hap hj v⟩ (fun k _ => ?_)
      by_cases hkj : k = j
      · subst hkj
        rw [xty_of hq hty, ← hv]
        simp [updV]
      · rw [xfv_congr (hSi a k (Or.inr hkj)) (hSr a k (Or.inr hkj))]
        simp [updV, hkj]
    · rw [hc, xcls_tag ci (xcl_lt hq)] at h
      cases h
  have hlay := hts _ (hcls.1 _ (u_in_lay hj))
  have hlo : ∀ z ∈ locs ++ [(⟨a, f.slot⟩ : Loc)], n0 ≤ z.base := by
    intro z hz
    rcases List.mem_append.mp hz with h | h
    · exact hL z h
    · rw [List.mem_singleton.mp h]; exact han
  have hslot : f.slot < cell.slots.size := by rw [hsl]; exact k2_hasslot (q4 j hj)
  unfold u_lay at hlay
  by_cases hff : (q.2.1 j).2.2.2 = true
  · rw [if_pos hff] at hlay
    rcases hfin with hz | ⟨hin, hnm⟩
    · rw [← hfl, hff] at hz; cases hz
    have hcf : m.cls = cf := by
      obtain ⟨_, _, c', _, _, _, -, -, hf', -, -, -, hown2, -⟩ := Cond.laysFinal_spec hlay
      have e1 : c' = cf := by have := hi.symm.trans hf'; simp at this; exact this.1.symm
      rw [(hcls.2.2 j hj).1, ← xcl_nm hq, ← hnm] at hown2
      rw [← e1]; exact Option.some.inj (hown.symm.trans hown2)
    have h6 := u_fits hfc hkC hkind (Or.inr hlay) hi hty hn hfit
    refine W.putFinK hx hb hown (hts _ hlink) hi hst hcf hin (by rw [q2]; exact h6) q1 q3 hslot rfl rfl hd fun H' e1 e2 e3 => ?_
    exact kk H' _ (fin' H' (by rw [← hsl]; exact e1) e2 e3) hlo
  · rw [if_neg hff] at hlay
    have h6 := u_store hfc hkC hkind hlay hi hty hn hfit
    refine W.putK hx hb (f := f) ⟨hown, hts _ hlink, ⟨_, _, _, hi⟩, hst⟩ (by rw [q2]; exact h6) q1 q3 hslot rfl rfl hd fun H' e1 e2 e3 => ?_
    exact kk H' _ (fin' H' (by rw [← hsl]; exact e1) e2 e3) hlo
theorem xo_notobj {t ci : Nat} {q : vw_C} {ty : FieldType} (h : xat t = some ty) (h1 : t = ci + 1) (hq : xcls[ci]? = some q) : False := by
  subst h1
  rw [xcls_tag ci (xcl_lt hq)] at h
  cases h
theorem xo_alen (hx : p.tables.exec = Jvm.exec) (hb : c.code = cc) (hR : xRel D n0 s S H) {ty : FieldType} (ht : xat (xc S a) = some ty) (hd : decode cc pc = .ok (.arraylength, 1))
    (kk : W p l e R s m args below meth c H locs cells slots Q (F0 m (pc + 1) ls (.int (Int32.ofNat (xl S a)) :: rest))) : W p l e R s m args below meth c H locs cells slots Q (F0 m pc ls (.ref a :: rest)) := by
  obtain ⟨cell, h1, h2, h3, h4, h5⟩ := (hR.2.2.2.2.1 a ty ht).isA
  exact W.alen (n := Int32.ofNat (xl S a)) hx hb h1 h2 (by rw [h4] <;> rfl) rfl rfl hd kk
theorem xo_iald (hx : p.tables.exec = Jvm.exec) (hb : c.code = cc) (hR : xRel D n0 s S H) (ht : xat (xc S a) = some .int) {i : Int32} (hin : vp_in i (xl S a)) (hd : decode cc pc = .ok (.iaload, 1))
    (kk : W p l e R s m args below meth c H locs cells slots Q (F0 m (pc + 1) ls (.int (xi S a i.toNatClampNeg) :: rest))) : W p l e R s m args below meth c H locs cells slots Q (F0 m pc ls (.int i :: .ref a :: rest)) := by
  obtain ⟨cell, h1, h2, h3, h4, h5⟩ := (hR.2.2.2.2.1 a _ ht).isA
  have hlt : i.toNatClampNeg < xl S a := Nat.not_le.mp fun q => hin (Or.inr q)
  exact W.iald (v := .int (xi S a i.toNatClampNeg)) hx hb h1 h2 h3 (by rw [h4]; exact hin) (h5 _ hlt) rfl rfl hd kk
theorem xo_zald (hx : p.tables.exec = Jvm.exec) (hb : c.code = cc) (hR : xRel D n0 s S H) (ht : xat (xc S a) = some .boolean) {i : Int32} (hin : vp_in i (xl S a)) (hd : decode cc pc = .ok (.baload, 1))
    (kk : W p l e R s m args below meth c H locs cells slots Q (F0 m (pc + 1) ls (.int (xi S a i.toNatClampNeg) :: rest))) : W p l e R s m args below meth c H locs cells slots Q (F0 m pc ls (.int i :: .ref a :: rest)) := by
  obtain ⟨cell, h1, h2, h3, h4, h5⟩ := (hR.2.2.2.2.1 a _ ht).isA
  have hlt : i.toNatClampNeg < xl S a := Nat.not_le.mp fun q => hin (Or.inr q)
  exact W.zald (v := .int (xi S a i.toNatClampNeg)) hx hb h1 h2 h3 (by rw [h4]; exact hin) (h5 _ hlt) rfl rfl hd kk
theorem xo_aald (hx : p.tables.exec = Jvm.exec) (hb : c.code = cc) (hR : xRel D n0 s S H) {C : String} (ht : xat (xc S a) = some (.object C)) {i : Int32} (hin : vp_in i (xl S a)) (hd : decode cc pc = .ok (.aaload, 1))
    (kk : W p l e R s m args below meth c H locs cells slots Q (F0 m (pc + 1) ls (va_rf (xr S a i.toNatClampNeg) :: rest))) : W p l e R s m args below meth c H locs cells slots Q (F0 m pc ls (.int i :: .ref a :: rest)) := by
  obtain ⟨cell, h1, h2, h3, h4, h5⟩ := (hR.2.2.2.2.1 a _ ht).isA
  have hlt : i.toNatClampNeg < xl S a := Nat.not_le.mp fun q => hin (Or.inr q)
  exact W.aald (v := va_rf (xr S a i.toNatClampNeg)) (ty := .object C) hx hb h1 h2 rfl h3 (by rw [h4]; exact hin) (h5 _ hlt) rfl rfl hd kk
theorem xo_setA {S' : xS} {ty : FieldType} {j : Nat} {v : Value} {cell : Cell} {H' : Heap} (hR : xRel D n0 s S H) (ht : xat (xc S a) = some ty) (hcell : H[a]? = some cell) (hSn : xn S' = xn S) (hSc : xc S' = xc S) (hSl : xl S' = xl S) (hSi : ∀ b k, (b ≠ a ∨ k ≠ j) → xi S' b k = xi S b k) (hSr : ∀ b k, (b ≠ a ∨ k ≠ j) → xr S' b k = xr S b k) (hv : v = xfv ty S' a j)
    (e1 : H'[a]? = some (cell.setSlot j v)) (e2 : H'.size = H.size) (e3 : ∀ q, q ≠ a → H'[q]? = H[q]?) : xRel D n0 s S' H' := by
  have hA := hR.2.2.2.2.1 a ty ht
  refine hR.set hSn hSc hSl (fun b k h => hSi b k (Or.inl h)) (fun b k h => hSr b k (Or.inl h)) e2 e3 (fun ci q h1 h2 => (xo_notobj ht h1 h2).elim) (fun ty' h => ?_)
  cases ht.symm.trans h
  obtain ⟨cell', kA, comp, g1, g2, g3, g4, g5, g6, g7, g8⟩ := hA
  cases hcell.symm.trans g1
  refine ⟨_, kA, comp, e1, g2, g3, g4, g5, g6, by rw [hSl]; simpa [Cell.setSlot] using g7, fun k hk => ?_⟩
  rw [hSl] at hk
  by_cases hkj : k = j
  · subst hkj
    rw [← hv]
    simp [Cell.setSlot, g7, hk]
  · rw [xfv_congr (hSi a k (Or.inr hkj)) (hSr a k (Or.inr hkj)), ← g8 k hk]
    simp [Cell.setSlot, Array.getElem?_setIfInBounds, Ne.symm hkj]
theorem xo_iast (hx : p.tables.exec = Jvm.exec) (hb : c.code = cc) (hR : xRel D n0 s S H) (hL : ∀ q ∈ locs, n0 ≤ q.base) (ht : xat (xc S a) = some .int) (h9 : xc S a ≠ 999) {i x : Int32} (hin : vp_in i (xl S a)) (hd : decode cc pc = .ok (.iastore, 1))
    (kk : ∀ (H1 : Heap) (locs1 : List Loc), xRel D n0 s (xpi S a i.toNatClampNeg x) H1 → (∀ q ∈ locs1, n0 ≤ q.base) → W p l e R s m args below meth c H1 locs1 cells slots Q (F0 m (pc + 1) ls rest)) : W p l e R s m args below meth c H locs cells slots Q (F0 m pc ls (.int x :: .int i :: .ref a :: rest)) := by
  obtain ⟨cell, h1, h2, h3, h4, h5⟩ := (hR.2.2.2.2.1 a _ ht).isA
  have h0 : xat 0 = none := rfl
  have han : n0 ≤ a := hR.2.2.2.2.2 a (by intro z; rw [z, h0] at ht; cases ht) h9
  refine W.iast hx hb h1 h2 h3 (by rw [h4]; exact hin) rfl rfl hd fun H' e1 e2 e3 => ?_
  refine kk H' _ (xo_setA hR ht h1 rfl rfl rfl (fun b k h => ?_) (fun b k h => rfl) ?_ e1 e2 e3) (fun z hz => ?_)
  · rw [xi_pi, if_neg (fun z => by rcases h with h | h; exact h z.1; exact h z.2)]
  · simp [xfv, xi_pi]
  · rcases List.mem_append.mp hz with h | h
    · exact hL z h
    · rw [List.mem_singleton.mp h]; exact han
theorem xo_zast (hx : p.tables.exec = Jvm.exec) (hb : c.code = cc) (hR : xRel D n0 s S H) (hL : ∀ q ∈ locs, n0 ≤ q.base) (ht : xat (xc S a) = some .boolean) {i x : Int32} (hnx : narrow .boolean (.int x) = .int x) (hin : vp_in i (xl S a)) (hd : decode cc pc = .ok (.bastore, 1))
    (kk : ∀ (H1 : Heap) (locs1 : List Loc), xRel D n0 s (xpi S a i.toNatClampNeg x) H1 → (∀ q ∈ locs1, n0 ≤ q.base) → W p l e R s m args below meth c H1 locs1 cells slots Q (F0 m (pc + 1) ls rest)) : W p l e R s m args below meth c H locs cells slots Q (F0 m pc ls (.int x :: .int i :: .ref a :: rest)) := by
  obtain ⟨cell, h1, h2, h3, h4, h5⟩ := (hR.2.2.2.2.1 a _ ht).isA
  have h0 : xat 0 = none := rfl
  have h99 : xat 999 = some .int := rfl
  have han : n0 ≤ a := hR.2.2.2.2.2 a (by intro z; rw [z, h0] at ht; cases ht) (by intro z; rw [z, h99] at ht; cases ht)
  refine W.zast hx hb h1 h2 h3 (by rw [h4]; exact hin) rfl rfl hd fun H' e1 e2 e3 => ?_
  rw [hnx] at e1
  refine kk H' _ (xo_setA hR ht h1 rfl rfl rfl (fun b k h => ?_) (fun b k h => rfl) ?_ e1 e2 e3) (fun z hz => ?_)
  · rw [xi_pi, if_neg (fun z => by rcases h with h | h; exact h z.1; exact h z.2)]
  · simp [xfv, xi_pi]
  · rcases List.mem_append.mp hz with h | h
    · exact hL z h
    · rw [List.mem_singleton.mp h]; exact han
theorem xo_aast (hx : p.tables.exec = Jvm.exec) (hb : c.code = cc) (hK : va_K D xcls [] s) (hR : xRel D n0 s S H) (hL : ∀ q ∈ locs, n0 ≤ q.base) {b ci : Nat} {q : vw_C} (hq : xcls[ci]? = some q) (hcb : xc S b = ci + 1) (ht : xat (xc S a) = some (.object q.1)) {i : Int32} (hin : vp_in i (xl S a)) (hd : decode cc pc = .ok (.aastore, 1))
    (kk : ∀ (H1 : Heap) (locs1 : List Loc), xRel D n0 s (xpr S a i.toNatClampNeg (some b)) H1 → (∀ q ∈ locs1, n0 ≤ q.base) → W p l e R s m args below meth c H1 locs1 cells slots Q (F0 m (pc + 1) ls rest)) : W p l e R s m args below meth c H locs cells slots Q (F0 m pc ls (.ref b :: .int i :: .ref a :: rest)) := by
  have h0 : xat 0 = none := rfl
  have h99 : xat 999 = some .int := rfl
  have han : n0 ≤ a := hR.2.2.2.2.2 a (by intro z; rw [z, h0] at ht; cases ht) (by intro z; rw [z, h99] at ht; cases ht)
  obtain ⟨cell, kA, comp, g1, g2, g3, g4, g5, g6, g7, g8⟩ := hR.2.2.2.2.1 a _ ht
  obtain ⟨cellV, v1, v2, v3, -⟩ := hR.2.2.2.1 b ci q hcb hq
  have hcls := (hK.1 ci q hq).2
  have hcomp : comp = D.1 ci := Option.some.inj ((g6 q.1 rfl).symm.trans hcls.1)
  subst hcomp
  obtain ⟨kC, hkC, -⟩ := hcls.2
  have hlt : i.toNatClampNeg < xl S a := Nat.not_le.mp fun q => hin (Or.inr q)
  refine W.aast hx hb g1 g2 g3 g4 g5 rfl hkC ⟨fun q => hin (Or.inl q), by rw [g7]; exact hlt⟩ v1 (fun q h => by rw [v3] at h; cases h) (by rw [v2]; exact hkC) (by rw [v2]; exact va_assign hcls) rfl rfl hd fun H' e1 e2 e3 => ?_
  refine kk H' _ (xo_setA hR ht g1 rfl rfl rfl (fun b k h => rfl) (fun b k h => ?_) ?_ e1 e2 e3) (fun z hz => ?_)
  · rw [xr_pr, if_neg (fun z => by rcases h with h | h; exact h z.1; exact h z.2)]
  · simp [xfv, xr_pr, va_rf]
  · rcases List.mem_append.mp hz with h | h
    · exact hL z h
    · rw [List.mem_singleton.mp h]; exact han
theorem xo_new (hx : p.tables.exec = Jvm.exec) (hb : c.code = cc) (hown : s.vm.findClass (xnm own) = some m.cls) (hts : ∀ w ∈ xtb, w.before args s = true) (hK : va_K D xcls [] s) (hR : xRel D n0 s S H) {idx ci N : Nat} (hf : xnc own idx = some (ci, N)) (hcells : cells + 1 ≤ R.cells) (hslots : slots + N ≤ R.slots) (hd : decode cc pc = .ok (.new idx, 3))
    (kk : ∀ H1 : Heap, xRel D n0 s (xmk S (ci + 1) 0) H1 → W p l e R s m args below meth c H1 locs (cells + 1) (slots + N) Q (F0 m (pc + 3) ls (.ref (xn S) :: rest))) : W p l e R s m args below meth c H locs cells slots Q (F0 m pc ls rest) := by
  obtain ⟨q, hq, rfl, h1, h2, h3⟩ := xnc_ok hf
  have hKn := hK.1 ci q hq
  refine W.newcK hx hb hown (hts _ h1) (hts _ h2) (hts _ h3) rfl hd hcells hslots hKn.2.1 hR.1 fun H1 kC hkC e1 z1 o1 => ?_
  refine kk H1 (hR.push z1 o1 (fun ci' q' h4 h5 => ?_) (fun ty h => (xo_notobj h rfl hq).elim))
  have hci : ci' = ci := by omega
  subst hci
  cases hq.symm.trans h5
  exact (u_born (xty ci') hts (xcls_ok q (xcl_mem hq)).1 hKn hkC e1 (xty_hty hq)).to (fun k hk => xdef (xty_simple hq hk) S _ _ k)
theorem xo_newi (hx : p.tables.exec = Jvm.exec) (hb : c.code = cc) (hts : ∀ w ∈ xtb, w.before args s = true) (hR : xRel D n0 s S H) {t : ArrayType} {tg : Nat} (hf : xnt own t = some tg) {x : Int32} (hn : ¬ x < 0) (hN : x.toNatClampNeg ≤ 10000) (hcells : cells + 1 ≤ R.cells) (hslots : slots + x.toNatClampNeg ≤ R.slots) (hd : decode cc pc = .ok (.newarray t, 2))
    (kk : ∀ H1 : Heap, xRel D n0 s (xmk S tg x.toNatClampNeg) H1 → W p l e R s m args below meth c H1 locs (cells + 1) (slots + x.toNatClampNeg) Q (F0 m (pc + 2) ls (.ref (xn S) :: rest))) : W p l e R s m args below meth c H locs cells slots Q (F0 m pc ls (.int x :: rest)) := by
  obtain ⟨t1, t2, t3, t4, t5, t6⟩ := xnt_ok own t tg hf
  have hcb : componentBytes (newarray.typeOf t) ≤ 8 := by cases t <;> decide
  refine va_newaK hx hb (hts _ t4) rfl hd rfl hn rfl (Nat.le_trans (Nat.mul_le_mul hN hcb) (by decide)) hcells hslots hR.1 fun H1 cA e1 z1 o1 hAr hNm => ?_
  refine kk H1 (hR.push z1 o1 (fun ci q h1 h2 => (xo_notobj t1 h1 h2).elim) (fun ty h => ?_))
  cases t1.symm.trans h
  obtain ⟨g1, kA, g2, comp, g3⟩ := hAr x.toNatClampNeg (fun _ => defaultValue (newarray.typeOf t))
  refine ⟨_, kA, comp, e1, g1, (fun h => by cases h), g2, g3, (fun C h => by rw [h] at t6; cases t6), by rw [xl_mk, if_pos rfl]; exact arrV_size _ _ _, fun j hj => ?_⟩
  rw [xl_mk, if_pos rfl] at hj
  rw [show (arrV cA x.toNatClampNeg (fun _ => defaultValue (newarray.typeOf t))).slots[j]? = _ from arrV_read cA _ hj]
  exact congrArg some (xdef t5 S _ _ j)
theorem xo_newr (hx : p.tables.exec = Jvm.exec) (hb : c.code = cc) (hown : s.vm.findClass (xnm own) = some m.cls) (hts : ∀ w ∈ xtb, w.before args s = true) (hAO : ∀ C ∈ xAO, va_AO C s) (hR : xRel D n0 s S H) {idx tg : Nat} (hf : xna own idx = some tg) {x : Int32} (hn : ¬ x < 0) (hN : x.toNatClampNeg ≤ 10000) (hcells : cells + 1 ≤ R.cells) (hslots : slots + x.toNatClampNeg ≤ R.slots) (hd : decode cc pc = .ok (.anewarray idx, 3))
    (kk : ∀ H1 : Heap, xRel D n0 s (xmk S tg x.toNatClampNeg) H1 → W p l e R s m args below meth c H1 locs (cells + 1) (slots + x.toNatClampNeg) Q (F0 m (pc + 3) ls (.ref (xn S) :: rest))) : W p l e R s m args below meth c H locs cells slots Q (F0 m pc ls (.int x :: rest)) := by
  obtain ⟨C, t1, t2, t3, h1, h2⟩ := xna_ok hf
  refine W.anew hx hb hown (hts _ h1) (va_AO.use (hAO _ h2)) rfl hd rfl hn (by omega) hcells hslots fun cA kA comp f1 f2 f3 f4 => ?_
  rw [arrV_new]
  have hz : H.size = xn S := hR.1
  rw [hz]
  refine kk _ (hR.push (by rw [Array.size_push, hz]) (fun q hq => by rw [Array.getElem?_push, if_neg (by omega)]) (fun ci q h1 h2 => (xo_notobj t1 h1 h2).elim) (fun ty h => ?_))
  cases t1.symm.trans h
  refine ⟨arrV cA x.toNatClampNeg (fun _ => .null), kA, comp, by rw [← hz, Array.getElem?_push_size], (fun z h => by cases h), (fun h => by cases h), f2, f3, (fun C' h => by cases h; exact f4), by rw [xl_mk, if_pos rfl]; exact arrV_size _ _ _, fun j hj => ?_⟩
  rw [xl_mk, if_pos rfl] at hj
  rw [arrV_read cA _ hj]
  exact congrArg some (xdef (ty := .object C) rfl S _ _ j)
end XSOUND
