/-! THE LAW, from its entry -/
theorem xcls_new : ∀ q ∈ xcls, Cond.instantiable q.1 q.2.2 ∈ xtb := by decide +kernel
theorem xAO_in : ∀ C ∈ xAO, Cond.arrayOver (.object C) ∈ lw_tbl := by decide +kernel
theorem xnest_in : Cond.methodLinkNest xnest.1 xnest.2.1 xnest.2.2 (xnm 3) ∈ lw_tbl := by decide +kernel
theorem xD_ex {s : State} {args : Array Value} (hts : ∀ w ∈ lw_tbl, w.before args s = true) (c0 : ClassId) : ∃ D : va_G, va_K D xcls [] s := by
  have h : ∀ c : Nat, ∃ r : ClassId × (Nat → Nat), ∀ q, xcls[c]? = some q → u_Kn s q.1 q.2.1 q.2.2 r.1 r.2 := by
    intro c
    cases hq : xcls[c]? with
    | none => exact ⟨(c0, fun _ => 0), fun q h => by cases h⟩
    | some q =>
      have hm : q ∈ xcls := List.mem_of_getElem? hq
      obtain ⟨cC, iS, hk⟩ := u_known (ws := xtb) (s := s) (args := args) (C := q.1) (T := q.2.1) (N := q.2.2) (n := q.2.2) (fun w h => hts w (xtb_in h)) (xcls_ok q hm).1 (hts _ (xtb_in (xcls_new q hm)))
      exact ⟨(cC, iS), fun q' h => by cases h; exact hk⟩
  obtain ⟨f, hf⟩ := Classical.axiomOfChoice h
  exact ⟨(fun c => (f c).1, fun c => (f c).2), fun c q hq => hf c q hq, fun k q h => by simp at h⟩
-- the picture at the entry: the script alone
def xS0 (n b L : Nat) (xs : Nat → Int32) : xS := (n, fun a => if a = b then 999 else 0, fun a j => if a = b then xs j else 0, fun _ _ => none, fun a => if a = b then L else 0)
theorem xS0_ok {D : va_G} {s : State} {b L : Nat} {xs : Nat → Int32} (hX : va_X b L xs s s.heap) (hbl : b < s.heap.size) : xRel D s.heap.size s (xS0 s.heap.size b L xs) s.heap ∧ lwS (xS0 s.heap.size b L xs) b L xs := by
  have hc : ∀ a, xc (xS0 s.heap.size b L xs) a = if a = b then 999 else 0 := fun _ => rfl
  refine ⟨⟨rfl, Nat.le_refl _, fun a ha => ?_, fun a ci q hq hcl => ?_, fun a ty ht => ?_, fun a h0 h9 => ?_⟩, ?_, hbl, ?_, fun j => ?_⟩
  · rw [hc, if_neg]
    rintro rfl
    exact absurd hbl (Nat.not_lt.mpr ha)
  · rw [hc] at hq
    split at hq
    · have : ci = 998 := by omega
      rw [this, show xcls[998]? = none from rfl] at hcl
      cases hcl
    · omega
  · rw [hc] at ht
    split at ht
    · rename_i e
      rw [xat_999] at ht
      cases ht
      subst e
      obtain ⟨scr, h1, ⟨h2, kA, h4, comp, h5⟩, h3, h6, h7⟩ := hX
      refine ⟨scr, kA, comp, h1, h2, h3, h4, h5, (fun C h => by cases h), ?_, fun j hj => ?_⟩
      · rw [h6]
        show L = if a = a then L else 0
        rw [if_pos rfl]
      · have hj' : j < L := by
          have e : xl (xS0 s.heap.size a L xs) a = L := by
            show (if a = a then L else 0) = L
            rw [if_pos rfl]
          rw [e] at hj
          exact hj
        rw [h7 j hj', xfv_I rfl]
        show some (Value.int (xs j)) = some (Value.int (if a = a then xs j else 0))
        rw [if_pos rfl]
    · cases ht
  · rw [hc] at h0 h9
    split at h9
    · exact absurd rfl h9
    · rename_i e
      rw [if_neg e] at h0
      exact absurd rfl h0
  · rw [hc, if_pos rfl]
  · show (if b = b then L else 0) = L
    rw [if_pos rfl]
  · show (if b = b then xs j else 0) = xs j
    rw [if_pos rfl]
set_option maxHeartbeats 4000000 in
set_option maxRecDepth 100000 in
/-- from the entry, for every script of at most 2560 ints, the law comes to its end with true -/
theorem whole_start {p : Program} {e : Env} {s : State} {m : MethodId} {below : List Frame} {meth : Method} {c : Code} (l : Launch) {b L : Nat} {xs : Nat → Int32} (hL : L ≤ 2560) (C0 : lw_At p s m meth c b L xs) : W p l e room_1 s m #[Value.ref b] below meth c s.heap [] 0 0 (lw_Z below #[Value.ref b] s) (entryFrame m ([Value.ref b] : List Value).toArray 4) := by
  obtain ⟨hx, hb, hr, hml, hown, hts, hX, hbl, hlocks, hgv⟩ := C0
  obtain ⟨D, hK⟩ := xD_ex hts m.cls
  have hNw : xNw s := ⟨va_Nw.of rfl (hts _ xnest_in), fun C hC => va_AO.of (hts _ (xAO_in C hC))⟩
  have C : xCx p s m #[Value.ref b] meth c D 5 cL_law false (some .boolean) := ⟨hx, hb, hown, fun w h => hts w (xtb_in h), hK, (fun h => by cases h), hr, hlocks, hNw⟩
  have hE : xEx p l e room_1 s m #[Value.ref b] below meth c (lw_Z below #[Value.ref b] s) D s.heap.size cL_law (some .boolean) (xE 600000 7302250 (fun r _ => r = some (.inl 1))) := by
    refine ⟨?_, ?_, ?_, ?_⟩
    · intro x S cs sl pc ls H locs hE hn hd hR hLo
      obtain ⟨h1, h2, hq⟩ := hE
      cases hq
      exact W.widen h1 h2 (va_forget (fun q hq => hLo q hq) (lw_ret hx hb hr hlocks hd))
    · intro x S cs sl pc ls H locs hE hn
      cases hn
    · intro x S cs sl pc ls H locs hE hn
      rcases hn with ⟨C, hn⟩ | ⟨t, hn⟩ <;> cases hn
    · intro S cs sl pc ls H locs hE hn
      cases hn
  have hV := xV_closed C hE
  obtain ⟨hR, hS⟩ := xS0_ok (D := D) hX hbl
  have h0 := law_start hV hL (fun _ => rfl) hS
  rw [lg_entry_eq]
  exact h0 s.heap [] _ hR (by simp) (by rw [hml]; exact xent_Ls (As := [.inr (.inr (some b))]) (Nat.le_of_ble_eq_true rfl))
