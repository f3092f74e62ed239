/-! THE CLASS: part, label, put, pieces -/
def nup (f : Nat → Nat) (k v : Nat) : Nat → Nat := fun j => if j = k then v else f j
theorem nup_s (f : Nat → Nat) (k v : Nat) : nup f k v k = v := if_pos rfl
theorem nup_n (f : Nat → Nat) {k v j : Nat} (h : j ≠ k) : nup f k v j = f j := if_neg h
def xSame (S S' : xS) (b : Nat) : Prop := xc S' b = xc S b ∧ xl S' b = xl S b ∧ (∀ k, xi S' b k = xi S b k) ∧ ∀ k, xr S' b k = xr S b k
theorem rP.same {S S' : xS} {pa qa : Nat → Nat} {M : mT} {p : Nat} (h : rP S pa qa M p) (hn : xn S ≤ xn S') (hs : xSame S S' (pa p)) : rP S' pa qa M p := by
  obtain ⟨e1, e2, e3, e4⟩ := hs
  obtain ⟨⟨h1, h2⟩, h3⟩ := h
  unfold rP
  simp only [e1, e3, e4]
  exact ⟨⟨h1, by omega⟩, h3⟩
theorem rQ.same {S S' : xS} {pa qa la : Nat → Nat} {M : mT} {k : Nat} (h : rQ S pa qa la M k) (hn : xn S ≤ xn S') (hs : xSame S S' (qa k)) : rQ S' pa qa la M k := by
  obtain ⟨e1, e2, e3, e4⟩ := hs
  obtain ⟨⟨h1, h2⟩, h3⟩ := h
  unfold rQ
  simp only [e1, e3, e4]
  exact ⟨⟨h1, by omega⟩, h3⟩
theorem rB.same {S S' : xS} {qa la : Nat → Nat} {M : mT} {k : Nat} (h : rB S qa la M k) (hn : xn S ≤ xn S') (hs : xSame S S' (la k)) : rB S' qa la M k := by
  obtain ⟨e1, e2, e3, e4⟩ := hs
  obtain ⟨⟨h1, h2⟩, h3⟩ := h
  unfold rB
  simp only [e1, e3, e4]
  exact ⟨⟨h1, by omega⟩, h3⟩
-- a part is new
theorem mpart_f (M : mT) (o b f i : Nat) (h : f ≠ 4 ∧ f ≠ 5 ∧ f ≠ 6 ∧ f ≠ 7 ∧ f ≠ 8) : mpart M o b f i = M f i := by
  obtain ⟨h1, h2, h3, h4, h5⟩ := h
  simp [mpart, mset_eq, h1, h2, h3, h4, h5]
theorem mpart_o (M : mT) (o b f i : Nat) (h : i < M 4 0) (hf : f ≠ 4) : mpart M o b f i = M f i := by
  have : i ≠ M 4 0 := Nat.ne_of_lt h
  simp [mpart, mset_eq, hf, this]
theorem mpart_4 (M : mT) (o b : Nat) : mpart M o b 4 0 = M 4 0 + 1 := by simp [mpart, mset_eq]
theorem mpart_5 (M : mT) (o b : Nat) : mpart M o b 5 (M 4 0) = o := by simp [mpart, mset_eq]
theorem mpart_6 (M : mT) (o b : Nat) : mpart M o b 6 (M 4 0) = b := by simp [mpart, mset_eq]
theorem mpart_7 (M : mT) (o b : Nat) : mpart M o b 7 (M 4 0) = 0 := by simp [mpart, mset_eq]
theorem mpart_8 (M : mT) (o b : Nat) : mpart M o b 8 (M 4 0) = 0 := by simp [mpart, mset_eq]
theorem mWF_part {M : mT} (h : mWF M) {o b : Nat} (hn : M 4 0 < 32) (ho : o ≤ 3) (hb : b ≤ 12) : mWF (mpart M o b) := by
  obtain ⟨⟨w1, w2, w3, w4⟩, w5, w6, w7, w8, w9, w10, w11⟩ := h
  have e := fun f i => mpart_f M o b f i
  unfold mWF maim
  rw [mpart_4, e 0 0 (by decide), e 12 0 (by decide), e 25 0 (by decide)]
  refine ⟨⟨w1, by omega, w3, w4⟩, fun q hq => ?_, fun q hq => ?_, fun q hq => ?_, fun q hq => ?_, fun q hq => ?_, fun q hq => ?_, fun q hq => ?_⟩
  · rw [e 1 q (by decide)]; exact w5 q hq
  · by_cases z : q < M 4 0
    · rw [mpart_o _ _ _ _ _ z (by decide), mpart_o _ _ _ _ _ z (by decide), mpart_o _ _ _ _ _ z (by decide), mpart_o _ _ _ _ _ z (by decide)]
      exact w6 q z
    · have : q = M 4 0 := by omega
      subst this
      rw [mpart_5, mpart_6, mpart_7, mpart_8]
      exact ⟨ho, hb, by decide, by decide⟩
  · rw [e 13 q (by decide), e 14 q (by decide), e 20 q (by decide), e 21 q (by decide), e 19 q (by decide), e 17 q (by decide)]
    have := w7 q hq
    exact ⟨this.1, by omega, this.2.2⟩
  · rw [e 13 q (by decide), e 15 q (by decide), e 16 q (by decide)]; exact w8 q hq
  · rw [e 13 q (by decide), e 15 q (by decide), e 16 q (by decide), e 18 q (by decide), e 20 q (by decide), e 21 q (by decide)]; exact w9 q hq
  · rw [e 13 q (by decide), e 16 q (by decide)]; exact w10 q hq
  · rw [e 26 q (by decide), e 27 q (by decide), e 13 _ (by decide), e 16 _ (by decide)]; exact w11 q hq
theorem mnx_none {M : mT} {p : Nat} : ∀ (d k : Nat), (∀ j, k ≤ j → j < k + d → M 14 j ≠ p) → mnx M p k d = none
  | 0, _, _ => rfl
  | d + 1, k, h => by
    rw [mnx, if_neg (h k (Nat.le_refl _) (by omega))]
    exact mnx_none d (k + 1) (fun j h1 h2 => h j (by omega) (by omega))
theorem mla_none {M : mT} {p : Nat} : ∀ (k : Nat), (∀ j, j < k → M 14 j ≠ p) → mla M p k = none
  | 0, _ => rfl
  | k + 1, h => by
    rw [mla, if_neg (h k (by omega))]
    exact mla_none k (fun j h1 => h j (by omega))
section ADD
variable {l : Launch} {D : va_G} {n0 : Nat} {S : xS} {th : Nat} {ar pa qa la : Nat → Nat} {M : mT}
def sPart (S : xS) (th r0 np : Nat) (x y : Int32) : xS := xpi (xpr (xpi (xpi (xpi (xmk S 2 0) (xn S) 0 (nI np)) (xn S) 1 x) (xn S) 2 y) r0 np (some (xn S))) th 6 (nI np + 1)
theorem rC_part (h : rC S th ar pa qa la M) (hn : M 4 0 < 32) {o b : Nat} (ho : o ≤ 3) (hb : b ≤ 12) : rC (sPart S th (ar 0) (M 4 0) (nI o) (nI b)) th ar (nup pa (M 4 0) (xn S)) qa la (mpart M o b) := by
  obtain ⟨hW, hT, hA, hP, hQ, hB, i1, i2, i3⟩ := h
  obtain ⟨⟨t1, t2⟩, t3, ⟨c0, c1, c2, c3, c4, c5⟩, t4, t5, ⟨t6, t7, t8, t9⟩, t10⟩ := hT
  have e := fun f i => mpart_f M o b f i
  have a0 := (t3 0 (by decide)).2
  have hnth : th ≠ xn S := Nat.ne_of_lt t2
  have hn0 : ar 0 ≠ xn S := Nat.ne_of_lt a0
  have hth0 : th ≠ ar 0 := xne t1 c0 (by decide)
  have hsz : xn (sPart S th (ar 0) (M 4 0) (nI o) (nI b)) = xn S + 1 := rfl
  have hcc : ∀ c, c < xn S → xc (sPart S th (ar 0) (M 4 0) (nI o) (nI b)) c = xc S c ∧ xl (sPart S th (ar 0) (M 4 0) (nI o) (nI b)) c = xl S c := by
    intro c hc
    have z : c ≠ xn S := Nat.ne_of_lt hc
    constructor <;> simp only [sPart, xc_pi, xc_pr, xl_pi, xl_pr, xc_mk, xl_mk, if_neg z]
  have hii : ∀ c, c < xn S → ∀ k, (c ≠ th ∨ k ≠ 6) → xi (sPart S th (ar 0) (M 4 0) (nI o) (nI b)) c k = xi S c k := by
    intro c hc k hk
    have z : c ≠ xn S := Nat.ne_of_lt hc
    have z2 : ¬ (c = th ∧ k = 6) := fun w => by rcases hk with q | q; exact q w.1; exact q w.2
    simp only [sPart, xi_pi, xi_pr, xi_mk, z, z2, false_and, if_false]
  have hrr : ∀ c, c < xn S → ∀ k, (c ≠ ar 0 ∨ k ≠ M 4 0) → xr (sPart S th (ar 0) (M 4 0) (nI o) (nI b)) c k = xr S c k := by
    intro c hc k hk
    have z : c ≠ xn S := Nat.ne_of_lt hc
    have z2 : ¬ (c = ar 0 ∧ k = M 4 0) := fun w => by rcases hk with q | q; exact q w.1; exact q w.2
    simp only [sPart, xr_pi, xr_pr, xr_mk, z, z2, if_false]
  have hsame : ∀ c, c < xn S → c ≠ th → c ≠ ar 0 → xSame S (sPart S th (ar 0) (M 4 0) (nI o) (nI b)) c := fun c hc h1 h2 => ⟨(hcc c hc).1, (hcc c hc).2, fun k => hii c hc k (Or.inl h1), fun k => hrr c hc k (Or.inl h2)⟩
  refine ⟨mWF_part hW hn ho hb, ?_, ?_, ?_, ?_, ?_, ?_, ?_, ?_⟩
  · refine ⟨⟨(hcc th t2).1.trans t1, by omega⟩, fun f hf => ⟨?_, by have := (t3 f hf).2; omega⟩, ?_, ?_, t5, ⟨?_, ?_, ?_, ?_⟩, fun q hq => ?_⟩
    · rw [hrr th t2 f (Or.inl hth0)]; exact (t3 f hf).1
    · rw [(hcc _ (t3 0 (by decide)).2).1, (hcc _ (t3 1 (by decide)).2).1, (hcc _ (t3 2 (by decide)).2).1, (hcc _ (t3 3 (by decide)).2).1, (hcc _ (t3 4 (by decide)).2).1, (hcc _ (t3 5 (by decide)).2).1]
      exact ⟨c0, c1, c2, c3, c4, c5⟩
    · rw [(hcc _ (t3 0 (by decide)).2).2, (hcc _ (t3 1 (by decide)).2).2, (hcc _ (t3 2 (by decide)).2).2, (hcc _ (t3 3 (by decide)).2).2, (hcc _ (t3 4 (by decide)).2).2, (hcc _ (t3 5 (by decide)).2).2]
      exact t4
    · rw [mpart_4, ← nI_1]
      simp only [sPart, xi_pi, and_self, if_true]
    · rw [hii th t2 7 (Or.inr (by decide)), e 12 0 (by decide)]; exact t7
    · rw [hii th t2 8 (Or.inr (by decide)), e 25 0 (by decide)]; exact t8
    · rw [hii th t2 9 (Or.inr (by decide)), e 0 0 (by decide)]; exact t9
    · rw [hii (ar 3) (t3 3 (by decide)).2 q (Or.inl (xne c3 t1 (by decide))), e 1 q (by decide)]; exact t10 q hq
  · refine ⟨fun q hq => ?_, fun q hq => ?_, fun q hq => ?_⟩
    · rw [mpart_4]
      by_cases z : q = M 4 0
      · subst z
        rw [if_pos (by omega), nup_s]
        simp only [sPart, xr_pi, xr_pr, and_self, if_true]
      · rw [hrr (ar 0) a0 q (Or.inr z), hA.1 q hq]
        by_cases z2 : q < M 4 0
        · rw [if_pos z2, if_pos (by omega), nup_n _ z]
        · rw [if_neg z2, if_neg (by omega)]
    · rw [hrr (ar 1) (t3 1 (by decide)).2 q (Or.inl (xne c1 c0 (by decide))), e 12 0 (by decide)]; exact hA.2.1 q hq
    · rw [hrr (ar 2) (t3 2 (by decide)).2 q (Or.inl (xne c2 c0 (by decide))), e 25 0 (by decide)]; exact hA.2.2 q hq
  · intro q hq
    rw [mpart_4] at hq
    by_cases z : q = M 4 0
    · subst z
      unfold rP
      rw [nup_s, mpart_5, mpart_6, mpart_7, mpart_8]
      have f1 : mfirst (mpart M o b) (M 4 0) = none := mnx_none _ _ (fun j _ hj => by
        rw [e 14 j (by decide)]
        have := (hW.2.2.2.1 j (by rw [e 12 0 (by decide)] at hj; omega)).2.1
        omega)
      have f2 : mla (mpart M o b) (M 4 0) (mpart M o b 12 0) = none := mla_none _ (fun j hj => by
        rw [e 14 j (by decide)]
        have := (hW.2.2.2.1 j (by rw [e 12 0 (by decide)] at hj; omega)).2.1
        omega)
      rw [f1, f2]
      have hnx : xn S ≠ th := Ne.symm hnth
      have hnr : xn S ≠ ar 0 := Ne.symm hn0
      refine ⟨⟨?_, by omega⟩, ⟨?_, ?_, ?_, ?_, ?_⟩, ?_, ?_⟩ <;> simp [sPart, xc_pi, xc_pr, xc_mk, xi_pi, xi_pr, xi_mk, xr_pi, xr_pr, xr_mk, hnx, hnr] <;> rfl
    · have hq' : q < M 4 0 := by omega
      have r := hP q hq'
      refine (r.same (by omega) (hsame _ r.1.2 (xne r.1.1 t1 (by decide)) (xne r.1.1 c0 (by decide)))).to (nup_n _ z) (fun _ _ => rfl) (e 12 0 (by decide)) (fun _ _ => e 14 _ (by decide)) ?_
      exact ⟨mpart_o _ _ _ _ _ hq' (by decide), mpart_o _ _ _ _ _ hq' (by decide), mpart_o _ _ _ _ _ hq' (by decide), mpart_o _ _ _ _ _ hq' (by decide)⟩
  · intro k hk
    rw [e 12 0 (by decide)] at hk
    have r := hQ k hk
    have hlt := (hW.2.2.2.1 k hk).2.1
    exact (r.same (by omega) (hsame _ r.1.2 (xne r.1.1 t1 (by decide)) (xne r.1.1 c0 (by decide)))).to hk (nup_n _ (by omega)) (fun _ _ => rfl) (fun _ => rfl) (e 12 0 (by decide)) (fun _ _ => e 14 _ (by decide)) ⟨e 13 k (by decide), fun _ => e 15 k (by decide), e 16 k (by decide), e 17 k (by decide), e 18 k (by decide), e 19 k (by decide), e 20 k (by decide), e 21 k (by decide)⟩
  · intro j hj
    rw [e 25 0 (by decide)] at hj
    have r := hB j hj
    exact (r.same (by omega) (hsame _ r.1.2 (xne r.1.1 t1 (by decide)) (xne r.1.1 c0 (by decide)))).to rfl (e 26 j (by decide)) (e 27 j (by decide)) (fun _ => rfl)
  · intro i j hi hj hij
    rw [mpart_4] at hi hj
    by_cases z1 : i = M 4 0 <;> by_cases z2 : j = M 4 0
    · omega
    · rw [z1, nup_s, nup_n _ z2] at hij
      have := (hP j (by omega)).1.2
      omega
    · rw [z2, nup_s, nup_n _ z1] at hij
      have := (hP i (by omega)).1.2
      omega
    · rw [nup_n _ z1, nup_n _ z2] at hij
      exact i1 i j (by omega) (by omega) hij
  · rw [e 12 0 (by decide)]; exact i2
  · rw [e 25 0 (by decide)]; exact i3
theorem xI_le_nI {x : Nat} (h : x < 2 ^ 31) (y : Nat) (hy : y < 2 ^ 31) : (nI y ≤ nI x) = (y ≤ x) := propext (nI_leI hy h)
set_option maxHeartbeats 4000000 in
set_option maxRecDepth 100000 in
theorem c_part (h : rCx S th M) (x y : Int32) : xMet l D n0 mS_part 1 9 [.inr (.inr (some th)), .inl x, .inl y] S (oC S th (oPart M x y)) := by
  obtain ⟨ar, pa, qa, la, h⟩ := h
  refine xMet.of (k := mS_part) (own := 3) (ini := false) xm_S_part (by decide +kernel) (by decide +kernel) (by decide) (Nat.le_of_ble_eq_true rfl) ?_
  intro V hV
  show V 0 [some (.inr (.inr (some th))), some (.inl x), some (.inl y)] [] S 0 0
  have h1 := h.th
  have h2 := (h.2.1.2.1 0 (by decide)).1
  have h3 := h.2.1.2.2.1.1
  have h4 := h.2.1.2.2.2.1.1
  have h5 := h.2.1.2.2.2.2.2.1.1
  have hw := h.1.1.2.1
  have h6 : (Int32.ofNat 32 ≤ nI (M 4 0)) = (32 ≤ M 4 0) := xI_le_nI (by omega) 32 (by decide)
  refine xrun_ok hV [46] 20 _ _ _ _ _ _ ?_
  simp (maxDischargeDepth := 60) only [xrun, xisc, ↓xstep, xget, xtgt, xcmp, xacmp, xprev, xisR, xnt, List.set, List.length, xsw, xlk, true_or, or_true, if_true, if_false, true_and, and_true, List.mem_cons, List.not_mem_nil, or_false, false_or, Bool.false_eq_true, reduceCtorEq, not_false_eq_true, forall_const, Nat.zero_add, Nat.reduceAdd, Nat.reduceSub, Int.reduceAdd, Int.reduceNeg, Int.reduceToNat, Nat.reduceEqDiff, Nat.reduceLT, Nat.reduceLeDiff, Int.reduceLE, Int.reduceLT, reduceIte, Int.cast_ofNat_Int, Int.natCast_zero, Int.natCast_one, Int.reduceAdd, eq_self, Int.reduceSub, List.length_cons, List.length_nil, xli_m1, xli_0, xli_1, xli_2, xli_3, xli_4, xli_5, xlb_8, xlb_12, xlb_31, xlb_32, xlb_64, xls_256, xls_513, xls_2048, xls_4096, xll_0, xll_1, xnr_i, xnr_0, xnr_1, xnr_ite, xft_i, xft_0, xft_1, xat_999, xat_1001, xat_1002, xat_1003, xat_2001, xat_2002, xat_2003, List.getElem?_cons_succ, List.getElem?_cons_zero, xfn_0, xfn_1, xfn_2, xfn_3, x10, x01, not_true_eq_false, false_implies, implies_true, true_implies, xrm_c, xrm_s, xnl_4, xnl_32, xnl_64, xnl_256, xtn_4, xtn_32, xtn_64, xtn_256, Option.some.injEq, Sum.inl.injEq, Sum.inr.injEq, exists_eq_left', exists_eq_right, Option.toList_some, Option.toList_none, List.cons_append, List.nil_append, xE, lg_cmp_ge, lg_cmp_le, lg_cmp_gt, lg_cmp_lt, lg_cmp_eq, Nat.le_refl, Nat.zero_le, ne_eq, Nat.add_zero, dS_part_0, dS_part_1, dS_part_4, dS_part_5, dS_part_8, dS_part_9, dS_part_12, dS_part_13, dS_part_16, dS_part_19, dS_part_20, dS_part_23, dS_part_26, dS_part_27, dS_part_28, dS_part_29, dS_part_32, dS_part_33, dS_part_36, dS_part_39, dS_part_40, dS_part_41, dS_part_44, dS_part_45, dS_part_46, dS_part_49, dS_part_50, dS_part_51, dS_part_52, dS_part_55, dS_part_56, dS_part_57, dS_part_60, dS_part_61, dS_part_64, dS_part_65, dS_part_66, xf_3_37, xf_3_11, xe_3_9, xg_3_9, h1, h2, h3, h4, h5, h6]
  refine ⟨⟨_, rfl⟩, fun z => ?_, fun z => ?_⟩
  · unfold oPart
    rw [if_neg (fun q => by omega)]
    exact ⟨rfl, ⟨ar, pa, qa, la, h⟩, xFr.rf _ _⟩
  refine hV.call [] xh_3_41 dS_part_13 (c_isOutput S x) (Or.inl rfl) rfl rfl (by decide) (by decide) (by decide) ?_
  rintro r S' ⟨rfl, rfl⟩
  by_cases hx : 0 ≤ x.toInt ∧ x.toInt ≤ 3
  case neg =>
    rw [if_neg hx]
    refine xrun_ok hV [46] 20 _ _ _ _ _ _ ?_
    simp (maxDischargeDepth := 60) only [xrun, xisc, ↓xstep, xget, xtgt, xcmp, xacmp, xprev, xisR, xnt, List.set, List.length, xsw, xlk, true_or, or_true, if_true, if_false, true_and, and_true, List.mem_cons, List.not_mem_nil, or_false, false_or, Bool.false_eq_true, reduceCtorEq, not_false_eq_true, forall_const, Nat.zero_add, Nat.reduceAdd, Nat.reduceSub, Int.reduceAdd, Int.reduceNeg, Int.reduceToNat, Nat.reduceEqDiff, Nat.reduceLT, Nat.reduceLeDiff, Int.reduceLE, Int.reduceLT, reduceIte, Int.cast_ofNat_Int, Int.natCast_zero, Int.natCast_one, Int.reduceAdd, eq_self, Int.reduceSub, List.length_cons, List.length_nil, xli_m1, xli_0, xli_1, xli_2, xli_3, xli_4, xli_5, xlb_8, xlb_12, xlb_31, xlb_32, xlb_64, xls_256, xls_513, xls_2048, xls_4096, xll_0, xll_1, xnr_i, xnr_0, xnr_1, xnr_ite, xft_i, xft_0, xft_1, xat_999, xat_1001, xat_1002, xat_1003, xat_2001, xat_2002, xat_2003, List.getElem?_cons_succ, List.getElem?_cons_zero, xfn_0, xfn_1, xfn_2, xfn_3, x10, x01, not_true_eq_false, false_implies, implies_true, true_implies, xrm_c, xrm_s, xnl_4, xnl_32, xnl_64, xnl_256, xtn_4, xtn_32, xtn_64, xtn_256, Option.some.injEq, Sum.inl.injEq, Sum.inr.injEq, exists_eq_left', exists_eq_right, Option.toList_some, Option.toList_none, List.cons_append, List.nil_append, xE, lg_cmp_ge, lg_cmp_le, lg_cmp_gt, lg_cmp_lt, lg_cmp_eq, Nat.le_refl, Nat.zero_le, ne_eq, Nat.add_zero, dS_part_0, dS_part_1, dS_part_4, dS_part_5, dS_part_8, dS_part_9, dS_part_12, dS_part_13, dS_part_16, dS_part_19, dS_part_20, dS_part_23, dS_part_26, dS_part_27, dS_part_28, dS_part_29, dS_part_32, dS_part_33, dS_part_36, dS_part_39, dS_part_40, dS_part_41, dS_part_44, dS_part_45, dS_part_46, dS_part_49, dS_part_50, dS_part_51, dS_part_52, dS_part_55, dS_part_56, dS_part_57, dS_part_60, dS_part_61, dS_part_64, dS_part_65, dS_part_66, xf_3_37, xf_3_11, xe_3_9, xg_3_9]
    unfold oPart
    rw [if_neg (fun q => hx (inR_iff.mp q.2.1))]
    exact ⟨rfl, ⟨ar, pa, qa, la, h⟩, xFr.rf _ _⟩
  rw [if_pos hx]
  refine xrun_ok hV [46] 20 _ _ _ _ _ _ ?_
  simp (maxDischargeDepth := 60) only [xrun, xisc, ↓xstep, xget, xtgt, xcmp, xacmp, xprev, xisR, xnt, List.set, List.length, xsw, xlk, true_or, or_true, if_true, if_false, true_and, and_true, List.mem_cons, List.not_mem_nil, or_false, false_or, Bool.false_eq_true, reduceCtorEq, not_false_eq_true, forall_const, Nat.zero_add, Nat.reduceAdd, Nat.reduceSub, Int.reduceAdd, Int.reduceNeg, Int.reduceToNat, Nat.reduceEqDiff, Nat.reduceLT, Nat.reduceLeDiff, Int.reduceLE, Int.reduceLT, reduceIte, Int.cast_ofNat_Int, Int.natCast_zero, Int.natCast_one, Int.reduceAdd, eq_self, Int.reduceSub, List.length_cons, List.length_nil, xli_m1, xli_0, xli_1, xli_2, xli_3, xli_4, xli_5, xlb_8, xlb_12, xlb_31, xlb_32, xlb_64, xls_256, xls_513, xls_2048, xls_4096, xll_0, xll_1, xnr_i, xnr_0, xnr_1, xnr_ite, xft_i, xft_0, xft_1, xat_999, xat_1001, xat_1002, xat_1003, xat_2001, xat_2002, xat_2003, List.getElem?_cons_succ, List.getElem?_cons_zero, xfn_0, xfn_1, xfn_2, xfn_3, x10, x01, not_true_eq_false, false_implies, implies_true, true_implies, xrm_c, xrm_s, xnl_4, xnl_32, xnl_64, xnl_256, xtn_4, xtn_32, xtn_64, xtn_256, Option.some.injEq, Sum.inl.injEq, Sum.inr.injEq, exists_eq_left', exists_eq_right, Option.toList_some, Option.toList_none, List.cons_append, List.nil_append, xE, lg_cmp_ge, lg_cmp_le, lg_cmp_gt, lg_cmp_lt, lg_cmp_eq, Nat.le_refl, Nat.zero_le, ne_eq, Nat.add_zero, dS_part_0, dS_part_1, dS_part_4, dS_part_5, dS_part_8, dS_part_9, dS_part_12, dS_part_13, dS_part_16, dS_part_19, dS_part_20, dS_part_23, dS_part_26, dS_part_27, dS_part_28, dS_part_29, dS_part_32, dS_part_33, dS_part_36, dS_part_39, dS_part_40, dS_part_41, dS_part_44, dS_part_45, dS_part_46, dS_part_49, dS_part_50, dS_part_51, dS_part_52, dS_part_55, dS_part_56, dS_part_57, dS_part_60, dS_part_61, dS_part_64, dS_part_65, dS_part_66, xf_3_37, xf_3_11, xe_3_9, xg_3_9]
  refine hV.call [] xh_3_45 dS_part_20 (c_isPower S' y) (Or.inl rfl) rfl rfl (by decide) (by decide) (by decide) ?_
  rintro r S' ⟨rfl, rfl⟩
  by_cases hy : 0 ≤ y.toInt ∧ y.toInt ≤ 12
  case neg =>
    rw [if_neg hy]
    refine xrun_ok hV [46] 20 _ _ _ _ _ _ ?_
    simp (maxDischargeDepth := 60) only [xrun, xisc, ↓xstep, xget, xtgt, xcmp, xacmp, xprev, xisR, xnt, List.set, List.length, xsw, xlk, true_or, or_true, if_true, if_false, true_and, and_true, List.mem_cons, List.not_mem_nil, or_false, false_or, Bool.false_eq_true, reduceCtorEq, not_false_eq_true, forall_const, Nat.zero_add, Nat.reduceAdd, Nat.reduceSub, Int.reduceAdd, Int.reduceNeg, Int.reduceToNat, Nat.reduceEqDiff, Nat.reduceLT, Nat.reduceLeDiff, Int.reduceLE, Int.reduceLT, reduceIte, Int.cast_ofNat_Int, Int.natCast_zero, Int.natCast_one, Int.reduceAdd, eq_self, Int.reduceSub, List.length_cons, List.length_nil, xli_m1, xli_0, xli_1, xli_2, xli_3, xli_4, xli_5, xlb_8, xlb_12, xlb_31, xlb_32, xlb_64, xls_256, xls_513, xls_2048, xls_4096, xll_0, xll_1, xnr_i, xnr_0, xnr_1, xnr_ite, xft_i, xft_0, xft_1, xat_999, xat_1001, xat_1002, xat_1003, xat_2001, xat_2002, xat_2003, List.getElem?_cons_succ, List.getElem?_cons_zero, xfn_0, xfn_1, xfn_2, xfn_3, x10, x01, not_true_eq_false, false_implies, implies_true, true_implies, xrm_c, xrm_s, xnl_4, xnl_32, xnl_64, xnl_256, xtn_4, xtn_32, xtn_64, xtn_256, Option.some.injEq, Sum.inl.injEq, Sum.inr.injEq, exists_eq_left', exists_eq_right, Option.toList_some, Option.toList_none, List.cons_append, List.nil_append, xE, lg_cmp_ge, lg_cmp_le, lg_cmp_gt, lg_cmp_lt, lg_cmp_eq, Nat.le_refl, Nat.zero_le, ne_eq, Nat.add_zero, dS_part_0, dS_part_1, dS_part_4, dS_part_5, dS_part_8, dS_part_9, dS_part_12, dS_part_13, dS_part_16, dS_part_19, dS_part_20, dS_part_23, dS_part_26, dS_part_27, dS_part_28, dS_part_29, dS_part_32, dS_part_33, dS_part_36, dS_part_39, dS_part_40, dS_part_41, dS_part_44, dS_part_45, dS_part_46, dS_part_49, dS_part_50, dS_part_51, dS_part_52, dS_part_55, dS_part_56, dS_part_57, dS_part_60, dS_part_61, dS_part_64, dS_part_65, dS_part_66, xf_3_37, xf_3_11, xe_3_9, xg_3_9]
    unfold oPart
    rw [if_neg (fun q => hy (inR_iff.mp q.2.2))]
    exact ⟨rfl, ⟨ar, pa, qa, la, h⟩, xFr.rf _ _⟩
  rw [if_pos hy]
  have k1 : xc (xmk S' 2 0) th = 4 := by rw [xc_mk_lt h.2.1.1.2]; exact h1
  have k2 : xi (xmk S' 2 0) th 6 = nI (M 4 0) := by rw [xi_mk, if_neg (Nat.ne_of_lt h.2.1.1.2)]; exact h5
  refine xrun_ok hV [46] 20 _ _ _ _ _ _ ?_
  simp (maxDischargeDepth := 60) only [xrun, xisc, ↓xstep, xget, xtgt, xcmp, xacmp, xprev, xisR, xnt, List.set, List.length, xsw, xlk, true_or, or_true, if_true, if_false, true_and, and_true, List.mem_cons, List.not_mem_nil, or_false, false_or, Bool.false_eq_true, reduceCtorEq, not_false_eq_true, forall_const, Nat.zero_add, Nat.reduceAdd, Nat.reduceSub, Int.reduceAdd, Int.reduceNeg, Int.reduceToNat, Nat.reduceEqDiff, Nat.reduceLT, Nat.reduceLeDiff, Int.reduceLE, Int.reduceLT, reduceIte, Int.cast_ofNat_Int, Int.natCast_zero, Int.natCast_one, Int.reduceAdd, eq_self, Int.reduceSub, List.length_cons, List.length_nil, xli_m1, xli_0, xli_1, xli_2, xli_3, xli_4, xli_5, xlb_8, xlb_12, xlb_31, xlb_32, xlb_64, xls_256, xls_513, xls_2048, xls_4096, xll_0, xll_1, xnr_i, xnr_0, xnr_1, xnr_ite, xft_i, xft_0, xft_1, xat_999, xat_1001, xat_1002, xat_1003, xat_2001, xat_2002, xat_2003, List.getElem?_cons_succ, List.getElem?_cons_zero, xfn_0, xfn_1, xfn_2, xfn_3, x10, x01, not_true_eq_false, false_implies, implies_true, true_implies, xrm_c, xrm_s, xnl_4, xnl_32, xnl_64, xnl_256, xtn_4, xtn_32, xtn_64, xtn_256, Option.some.injEq, Sum.inl.injEq, Sum.inr.injEq, exists_eq_left', exists_eq_right, Option.toList_some, Option.toList_none, List.cons_append, List.nil_append, xE, lg_cmp_ge, lg_cmp_le, lg_cmp_gt, lg_cmp_lt, lg_cmp_eq, Nat.le_refl, Nat.zero_le, ne_eq, Nat.add_zero, dS_part_0, dS_part_1, dS_part_4, dS_part_5, dS_part_8, dS_part_9, dS_part_12, dS_part_13, dS_part_16, dS_part_19, dS_part_20, dS_part_23, dS_part_26, dS_part_27, dS_part_28, dS_part_29, dS_part_32, dS_part_33, dS_part_36, dS_part_39, dS_part_40, dS_part_41, dS_part_44, dS_part_45, dS_part_46, dS_part_49, dS_part_50, dS_part_51, dS_part_52, dS_part_55, dS_part_56, dS_part_57, dS_part_60, dS_part_61, dS_part_64, dS_part_65, dS_part_66, xf_3_37, xf_3_11, xe_3_9, xg_3_9, h1, h2, h3, h4, h5, h6, k1, k2]
  refine hV.call [.inr (.inr (some (xn S'))), .inl (nI (M 4 0)), .inr (.inr (some (ar 0)))] (As := [.inr (.inr (some (xn S'))), .inl (nI (M 4 0)), .inl x, .inl y]) xh_3_48 dS_part_46 (c_P_init (xmk S' 2 0) (a := xn S') (by rw [xc_mk, if_pos rfl]) (nI (M 4 0)) x y) (Or.inr ⟨_, _, rfl, fun q => absurd q (by decide)⟩) rfl rfl (Nat.le_of_ble_eq_true rfl) (by decide) (by decide) ?_
  rintro r S2 ⟨rfl, rfl⟩
  have hth := h.2.1.1.2
  have har := (h.2.1.2.1 0 (by decide)).2
  have hnt : th ≠ xn S' := Nat.ne_of_lt hth
  have hnr : ar 0 ≠ xn S' := Nat.ne_of_lt har
  have g3 : xc (xmk S' 2 0) (ar 0) = 2001 := by rw [xc_mk_lt har]; exact h3
  have g4 : xl (xmk S' 2 0) (ar 0) = 32 := by rw [xl_mk, if_neg hnr]; exact h4
  have g5 : xc (xmk S' 2 0) (xn S') = 2 := by rw [xc_mk, if_pos rfl]
  have e0 : (nI (M 4 0)).toNatClampNeg = M 4 0 := nI_clamp (by omega)
  refine xrun_ok hV [46] 20 _ _ _ _ _ _ ?_
  simp (maxDischargeDepth := 60) only [xrun, xisc, ↓xstep, xget, xtgt, xcmp, xacmp, xprev, xisR, xnt, List.set, List.length, xsw, xlk, true_or, or_true, if_true, if_false, true_and, and_true, List.mem_cons, List.not_mem_nil, or_false, false_or, Bool.false_eq_true, reduceCtorEq, not_false_eq_true, forall_const, Nat.zero_add, Nat.reduceAdd, Nat.reduceSub, Int.reduceAdd, Int.reduceNeg, Int.reduceToNat, Nat.reduceEqDiff, Nat.reduceLT, Nat.reduceLeDiff, Int.reduceLE, Int.reduceLT, reduceIte, Int.cast_ofNat_Int, Int.natCast_zero, Int.natCast_one, Int.reduceAdd, eq_self, Int.reduceSub, List.length_cons, List.length_nil, xli_m1, xli_0, xli_1, xli_2, xli_3, xli_4, xli_5, xlb_8, xlb_12, xlb_31, xlb_32, xlb_64, xls_256, xls_513, xls_2048, xls_4096, xll_0, xll_1, xnr_i, xnr_0, xnr_1, xnr_ite, xft_i, xft_0, xft_1, xat_999, xat_1001, xat_1002, xat_1003, xat_2001, xat_2002, xat_2003, List.getElem?_cons_succ, List.getElem?_cons_zero, xfn_0, xfn_1, xfn_2, xfn_3, x10, x01, not_true_eq_false, false_implies, implies_true, true_implies, xrm_c, xrm_s, xnl_4, xnl_32, xnl_64, xnl_256, xtn_4, xtn_32, xtn_64, xtn_256, Option.some.injEq, Sum.inl.injEq, Sum.inr.injEq, exists_eq_left', exists_eq_right, Option.toList_some, Option.toList_none, List.cons_append, List.nil_append, xE, lg_cmp_ge, lg_cmp_le, lg_cmp_gt, lg_cmp_lt, lg_cmp_eq, Nat.le_refl, Nat.zero_le, ne_eq, Nat.add_zero, dS_part_0, dS_part_1, dS_part_4, dS_part_5, dS_part_8, dS_part_9, dS_part_12, dS_part_13, dS_part_16, dS_part_19, dS_part_20, dS_part_23, dS_part_26, dS_part_27, dS_part_28, dS_part_29, dS_part_32, dS_part_33, dS_part_36, dS_part_39, dS_part_40, dS_part_41, dS_part_44, dS_part_45, dS_part_46, dS_part_49, dS_part_50, dS_part_51, dS_part_52, dS_part_55, dS_part_56, dS_part_57, dS_part_60, dS_part_61, dS_part_64, dS_part_65, dS_part_66, xf_3_37, xf_3_11, xe_3_9, xg_3_9, k1, k2, g3, g4, g5, xc_pi, xc_pr, xl_pi, xl_pr, xi_pi, xi_pr, hnt, false_and, e0]
  have e1 : x.toNatClampNeg = x.toInt.toNat := rfl
  have e2 : y.toNatClampNeg = y.toInt.toNat := rfl
  have hp := rC_part h (by omega) (o := x.toNatClampNeg) (b := y.toNatClampNeg) (by omega) (by omega)
  rw [nI_cl hx.1, nI_cl hy.1] at hp
  unfold oPart
  rw [if_pos ⟨by omega, inR_iff.mpr hx, inR_iff.mpr hy⟩]
  refine ⟨ar 0, xn S', 1, _, rfl, rfl, rfl, g5, by rw [g3]; rfl, by rw [g4]; exact vp_in_nI (by omega) (by decide), ?_, ⟨_, _, _, _, hp⟩, ?_⟩
  · rw [nI_1, nI_pred]
  · exact (((((xFr.mk (t := 2) (n := 0)).tr (xFr.pi (by rw [g5]; rfl))).tr (xFr.pi (by rw [xc_pi, g5]; rfl))).tr (xFr.pi (by rw [xc_pi, xc_pi, g5]; rfl))).tr (xFr.pr (by rw [xc_pi, xc_pi, xc_pi, g3]; rfl))).tr (xFr.pi (by rw [xc_pr, xc_pi, xc_pi, xc_pi, k1]; rfl))
-- a label is new
def mlab (M : mT) : mT := mset (mset (mset M 26 (M 25 0) 0) 27 (M 25 0) 0) 25 0 (M 25 0 + 1)
theorem mlab_f (M : mT) (f i : Nat) (h : f ≠ 25 ∧ f ≠ 26 ∧ f ≠ 27) : mlab M f i = M f i := by
  obtain ⟨h1, h2, h3⟩ := h
  simp [mlab, mset_eq, h1, h2, h3]
theorem mlab_o (M : mT) (f i : Nat) (h : i < M 25 0) (hf : f ≠ 25) : mlab M f i = M f i := by
  have : i ≠ M 25 0 := Nat.ne_of_lt h
  simp [mlab, mset_eq, hf, this]
theorem mlab_25 (M : mT) : mlab M 25 0 = M 25 0 + 1 := by simp [mlab, mset_eq]
theorem mlab_26 (M : mT) : mlab M 26 (M 25 0) = 0 := by simp [mlab, mset_eq]
theorem mlab_27 (M : mT) : mlab M 27 (M 25 0) = 0 := by simp [mlab, mset_eq]
theorem mWF_lab {M : mT} (h : mWF M) (hn : M 25 0 < 64) : mWF (mlab M) := by
  obtain ⟨⟨w1, w2, w3, w4⟩, w5, w6, w7, w8, w9, w10, w11⟩ := h
  have e := fun f i => mlab_f M f i
  unfold mWF maim
  rw [mlab_25, e 0 0 (by decide), e 12 0 (by decide), e 4 0 (by decide)]
  refine ⟨⟨w1, w2, w3, by omega⟩, fun q hq => ?_, fun q hq => ?_, fun q hq => ?_, fun q hq => ?_, fun q hq => ?_, fun q hq => ?_, fun q hq => ?_⟩
  · rw [e 1 q (by decide)]; exact w5 q hq
  · rw [e 5 q (by decide), e 6 q (by decide), e 7 q (by decide), e 8 q (by decide)]; exact w6 q hq
  · rw [e 13 q (by decide), e 14 q (by decide), e 20 q (by decide), e 21 q (by decide), e 19 q (by decide), e 17 q (by decide)]; exact w7 q hq
  · rw [e 13 q (by decide), e 15 q (by decide), e 16 q (by decide)]; exact w8 q hq
  · rw [e 13 q (by decide), e 15 q (by decide), e 16 q (by decide), e 18 q (by decide), e 20 q (by decide), e 21 q (by decide)]
    intro z
    obtain ⟨a1, a2, a3, a4⟩ := w9 q hq z
    exact ⟨a1, a2, by omega, a4⟩
  · rw [e 13 q (by decide), e 16 q (by decide)]; exact w10 q hq
  · by_cases z : q < M 25 0
    · rw [mlab_o _ _ _ z (by decide), mlab_o _ _ _ z (by decide), e 13 _ (by decide), e 16 _ (by decide)]; exact w11 q z
    · have : q = M 25 0 := by omega
      subst this
      rw [mlab_26]
      exact ⟨Nat.zero_le _, fun z => absurd rfl z⟩
def sLab (S : xS) (th r2 nl : Nat) : xS := xpi (xpr (xmk S 1 0) r2 nl (some (xn S))) th 8 (nI nl + 1)
theorem rC_lab (h : rC S th ar pa qa la M) (hn : M 25 0 < 64) : rC (sLab S th (ar 2) (M 25 0)) th ar pa qa (nup la (M 25 0) (xn S)) (mlab M) := by
  obtain ⟨hW, hT, hA, hP, hQ, hB, i1, i2, i3⟩ := h
  obtain ⟨⟨t1, t2⟩, t3, ⟨c0, c1, c2, c3, c4, c5⟩, t4, t5, ⟨t6, t7, t8, t9⟩, t10⟩ := hT
  have e := fun f i => mlab_f M f i
  have a2 := (t3 2 (by decide)).2
  have hnth : th ≠ xn S := Nat.ne_of_lt t2
  have hn2 : ar 2 ≠ xn S := Nat.ne_of_lt a2
  have hth2 : th ≠ ar 2 := xne t1 c2 (by decide)
  generalize hSe : sLab S th (ar 2) (M 25 0) = S'
  have hsz : xn S' = xn S + 1 := by rw [← hSe]; rfl
  have hcc : ∀ c, c < xn S → xc S' c = xc S c ∧ xl S' c = xl S c := by
    intro c hc
    have z : c ≠ xn S := Nat.ne_of_lt hc
    rw [← hSe]
    constructor <;> simp only [sLab, xc_pi, xc_pr, xl_pi, xl_pr, xc_mk, xl_mk, if_neg z]
  have hii : ∀ c, c < xn S → ∀ k, (c ≠ th ∨ k ≠ 8) → xi S' c k = xi S c k := by
    intro c hc k hk
    have z : c ≠ xn S := Nat.ne_of_lt hc
    have z2 : ¬ (c = th ∧ k = 8) := fun w => by rcases hk with q | q; exact q w.1; exact q w.2
    rw [← hSe]
    simp only [sLab, xi_pi, xi_pr, xi_mk, z, z2, if_false]
  have hrr : ∀ c, c < xn S → ∀ k, (c ≠ ar 2 ∨ k ≠ M 25 0) → xr S' c k = xr S c k := by
    intro c hc k hk
    have z : c ≠ xn S := Nat.ne_of_lt hc
    have z2 : ¬ (c = ar 2 ∧ k = M 25 0) := fun w => by rcases hk with q | q; exact q w.1; exact q w.2
    rw [← hSe]
    simp only [sLab, xr_pi, xr_pr, xr_mk, z, z2, if_false]
  have hsame : ∀ c, c < xn S → c ≠ th → c ≠ ar 2 → xSame S S' c := fun c hc h1 h2 => ⟨(hcc c hc).1, (hcc c hc).2, fun k => hii c hc k (Or.inl h1), fun k => hrr c hc k (Or.inl h2)⟩
  refine ⟨mWF_lab hW hn, ?_, ?_, ?_, ?_, ?_, ?_, ?_, ?_⟩
  · refine ⟨⟨(hcc th t2).1.trans t1, by omega⟩, fun f hf => ⟨?_, by have := (t3 f hf).2; omega⟩, ?_, ?_, t5, ⟨?_, ?_, ?_, ?_⟩, fun q hq => ?_⟩
    · rw [hrr th t2 f (Or.inl hth2)]; exact (t3 f hf).1
    · rw [(hcc _ (t3 0 (by decide)).2).1, (hcc _ (t3 1 (by decide)).2).1, (hcc _ (t3 2 (by decide)).2).1, (hcc _ (t3 3 (by decide)).2).1, (hcc _ (t3 4 (by decide)).2).1, (hcc _ (t3 5 (by decide)).2).1]
      exact ⟨c0, c1, c2, c3, c4, c5⟩
    · rw [(hcc _ (t3 0 (by decide)).2).2, (hcc _ (t3 1 (by decide)).2).2, (hcc _ (t3 2 (by decide)).2).2, (hcc _ (t3 3 (by decide)).2).2, (hcc _ (t3 4 (by decide)).2).2, (hcc _ (t3 5 (by decide)).2).2]
      exact t4
    · rw [hii th t2 6 (Or.inr (by decide)), e 4 0 (by decide)]; exact t6
    · rw [hii th t2 7 (Or.inr (by decide)), e 12 0 (by decide)]; exact t7
    · rw [mlab_25, ← nI_1, ← hSe]
      simp only [sLab, xi_pi, and_self, if_true]
    · rw [hii th t2 9 (Or.inr (by decide)), e 0 0 (by decide)]; exact t9
    · rw [hii (ar 3) (t3 3 (by decide)).2 q (Or.inl (xne c3 t1 (by decide))), e 1 q (by decide)]; exact t10 q hq
  · refine ⟨fun q hq => ?_, fun q hq => ?_, fun q hq => ?_⟩
    · rw [hrr (ar 0) (t3 0 (by decide)).2 q (Or.inl (xne c0 c2 (by decide))), e 4 0 (by decide)]; exact hA.1 q hq
    · rw [hrr (ar 1) (t3 1 (by decide)).2 q (Or.inl (xne c1 c2 (by decide))), e 12 0 (by decide)]; exact hA.2.1 q hq
    · rw [mlab_25]
      by_cases z : q = M 25 0
      · subst z
        rw [if_pos (by omega), nup_s, ← hSe]
        simp only [sLab, xr_pi, xr_pr, and_self, if_true]
      · rw [hrr (ar 2) a2 q (Or.inr z), hA.2.2 q hq]
        by_cases z2 : q < M 25 0
        · rw [if_pos z2, if_pos (by omega), nup_n _ z]
        · rw [if_neg z2, if_neg (by omega)]
  · intro q hq
    rw [e 4 0 (by decide)] at hq
    have r := hP q hq
    exact (r.same (by omega) (hsame _ r.1.2 (xne r.1.1 t1 (by decide)) (xne r.1.1 c2 (by decide)))).to rfl (fun _ _ => rfl) (e 12 0 (by decide)) (fun _ _ => e 14 _ (by decide)) ⟨e 5 q (by decide), e 6 q (by decide), e 7 q (by decide), e 8 q (by decide)⟩
  · intro k hk
    rw [e 12 0 (by decide)] at hk
    have r := hQ k hk
    exact (r.same (by omega) (hsame _ r.1.2 (xne r.1.1 t1 (by decide)) (xne r.1.1 c2 (by decide)))).to hk rfl (fun _ _ => rfl) (fun z => nup_n _ (by have := (hW.2.2.2.2.2.1 k hk z).2.2.1; omega)) (e 12 0 (by decide)) (fun _ _ => e 14 _ (by decide)) ⟨e 13 k (by decide), fun _ => e 15 k (by decide), e 16 k (by decide), e 17 k (by decide), e 18 k (by decide), e 19 k (by decide), e 20 k (by decide), e 21 k (by decide)⟩
  · intro j hj
    rw [mlab_25] at hj
    by_cases z : j = M 25 0
    · subst z
      have hnx : xn S ≠ th := Ne.symm hnth
      have hnr : xn S ≠ ar 2 := Ne.symm hn2
      unfold rB
      rw [nup_s, mlab_26, mlab_27, if_pos rfl]
      refine ⟨⟨?_, by omega⟩, ?_, ?_⟩ <;> rw [← hSe] <;> simp [sLab, xc_pi, xc_pr, xc_mk, xi_pi, xi_pr, xi_mk, xr_pi, xr_pr, xr_mk, hnx, hnr] <;> rfl
    · have hj' : j < M 25 0 := by omega
      have r := hB j hj'
      exact (r.same (by omega) (hsame _ r.1.2 (xne r.1.1 t1 (by decide)) (xne r.1.1 c2 (by decide)))).to (nup_n _ z) (mlab_o _ _ _ hj' (by decide)) (mlab_o _ _ _ hj' (by decide)) (fun _ => rfl)
  · rw [e 4 0 (by decide)]; exact i1
  · rw [e 12 0 (by decide)]; exact i2
  · intro i j hi hj hij
    rw [mlab_25] at hi hj
    by_cases z1 : i = M 25 0 <;> by_cases z2 : j = M 25 0
    · omega
    · rw [z1, nup_s, nup_n _ z2] at hij
      have := (hB j (by omega)).1.2
      omega
    · rw [z2, nup_s, nup_n _ z1] at hij
      have := (hB i (by omega)).1.2
      omega
    · rw [nup_n _ z1, nup_n _ z2] at hij
      exact i3 i j (by omega) (by omega) hij
set_option maxHeartbeats 4000000 in
set_option maxRecDepth 100000 in
theorem c_label (h : rCx S th M) : xMet l D n0 mS_label 1 2 [.inr (.inr (some th))] S (oC S th (oLabel M)) := by
  obtain ⟨ar, pa, qa, la, h⟩ := h
  refine xMet.of (k := mS_label) (own := 3) (ini := false) xm_S_label (by decide +kernel) (by decide +kernel) (by decide) (Nat.le_of_ble_eq_true rfl) ?_
  intro V hV
  show V 0 [some (.inr (.inr (some th)))] [] S 0 0
  have h1 := h.th
  have h2 := (h.2.1.2.1 2 (by decide)).1
  have h3 := h.2.1.2.2.1.2.2.1
  have h4 := h.2.1.2.2.2.1.2.2.1
  have h5 := h.2.1.2.2.2.2.2.1.2.2.1
  have hw := h.1.1.2.2.2
  have hth := h.2.1.1.2
  have har := (h.2.1.2.1 2 (by decide)).2
  have h6 : (nI (M 25 0) < Int32.ofNat 64) = (M 25 0 < 64) := propext (nI_ltI (by omega) (by decide))
  refine xrun_ok hV [26] 20 _ _ _ _ _ _ ?_
  simp (maxDischargeDepth := 60) only [xrun, xisc, ↓xstep, xget, xtgt, xcmp, xacmp, xprev, xisR, xnt, List.set, List.length, xsw, xlk, true_or, or_true, if_true, if_false, true_and, and_true, List.mem_cons, List.not_mem_nil, or_false, false_or, Bool.false_eq_true, reduceCtorEq, not_false_eq_true, forall_const, Nat.zero_add, Nat.reduceAdd, Nat.reduceSub, Int.reduceAdd, Int.reduceNeg, Int.reduceToNat, Nat.reduceEqDiff, Nat.reduceLT, Nat.reduceLeDiff, Int.reduceLE, Int.reduceLT, reduceIte, Int.cast_ofNat_Int, Int.natCast_zero, Int.natCast_one, Int.reduceAdd, eq_self, Int.reduceSub, List.length_cons, List.length_nil, xli_m1, xli_0, xli_1, xli_2, xli_3, xli_4, xli_5, xlb_8, xlb_12, xlb_31, xlb_32, xlb_64, xls_256, xls_513, xls_2048, xls_4096, xll_0, xll_1, xnr_i, xnr_0, xnr_1, xnr_ite, xft_i, xft_0, xft_1, xat_999, xat_1001, xat_1002, xat_1003, xat_2001, xat_2002, xat_2003, List.getElem?_cons_succ, List.getElem?_cons_zero, xfn_0, xfn_1, xfn_2, xfn_3, x10, x01, not_true_eq_false, false_implies, implies_true, true_implies, xrm_c, xrm_s, xnl_4, xnl_32, xnl_64, xnl_256, xtn_4, xtn_32, xtn_64, xtn_256, Option.some.injEq, Sum.inl.injEq, Sum.inr.injEq, exists_eq_left', exists_eq_right, Option.toList_some, Option.toList_none, List.cons_append, List.nil_append, xE, lg_cmp_ge, lg_cmp_le, lg_cmp_gt, lg_cmp_lt, lg_cmp_eq, Nat.le_refl, Nat.zero_le, ne_eq, Nat.add_zero, dS_label_0, dS_label_1, dS_label_4, dS_label_5, dS_label_8, dS_label_9, dS_label_12, dS_label_13, dS_label_14, dS_label_15, dS_label_18, dS_label_19, dS_label_22, dS_label_25, dS_label_26, dS_label_29, dS_label_30, dS_label_31, dS_label_32, dS_label_35, dS_label_36, dS_label_37, dS_label_40, dS_label_41, dS_label_44, dS_label_45, dS_label_46, xf_3_74, xf_3_23, xe_3_21, xg_3_21, h1, h2, h3, h4, h5, h6]
  refine ⟨⟨_, rfl⟩, fun z => ?_, fun z => ?_⟩
  · have g5 : xc (xmk S 1 0) (xn S) = 1 := by rw [xc_mk, if_pos rfl]
    refine hV.call [.inr (.inr (some (xn S))), .inl (nI (M 25 0)), .inr (.inr (some (ar 2)))] (As := [.inr (.inr (some (xn S)))]) xh_3_77 dS_label_26 (c_B_init (xmk S 1 0) (a := xn S) g5) (Or.inr ⟨_, _, rfl, fun q => absurd q (by decide)⟩) rfl rfl (Nat.le_of_ble_eq_true rfl) (by decide) (by decide) ?_
    rintro r S2 ⟨rfl, rfl⟩
    have hnt : th ≠ xn S := Nat.ne_of_lt hth
    have hnr : ar 2 ≠ xn S := Nat.ne_of_lt har
    have k1 : xc (xmk S 1 0) th = 4 := by rw [xc_mk_lt hth]; exact h1
    have k2 : xi (xmk S 1 0) th 8 = nI (M 25 0) := by rw [xi_mk, if_neg hnt]; exact h5
    have g3 : xc (xmk S 1 0) (ar 2) = 2003 := by rw [xc_mk_lt har]; exact h3
    have g4 : xl (xmk S 1 0) (ar 2) = 64 := by rw [xl_mk, if_neg hnr]; exact h4
    have e0 : (nI (M 25 0)).toNatClampNeg = M 25 0 := nI_clamp (by omega)
    refine xrun_ok hV [26] 20 _ _ _ _ _ _ ?_
    simp (maxDischargeDepth := 60) only [xrun, xisc, ↓xstep, xget, xtgt, xcmp, xacmp, xprev, xisR, xnt, List.set, List.length, xsw, xlk, true_or, or_true, if_true, if_false, true_and, and_true, List.mem_cons, List.not_mem_nil, or_false, false_or, Bool.false_eq_true, reduceCtorEq, not_false_eq_true, forall_const, Nat.zero_add, Nat.reduceAdd, Nat.reduceSub, Int.reduceAdd, Int.reduceNeg, Int.reduceToNat, Nat.reduceEqDiff, Nat.reduceLT, Nat.reduceLeDiff, Int.reduceLE, Int.reduceLT, reduceIte, Int.cast_ofNat_Int, Int.natCast_zero, Int.natCast_one, Int.reduceAdd, eq_self, Int.reduceSub, List.length_cons, List.length_nil, xli_m1, xli_0, xli_1, xli_2, xli_3, xli_4, xli_5, xlb_8, xlb_12, xlb_31, xlb_32, xlb_64, xls_256, xls_513, xls_2048, xls_4096, xll_0, xll_1, xnr_i, xnr_0, xnr_1, xnr_ite, xft_i, xft_0, xft_1, xat_999, xat_1001, xat_1002, xat_1003, xat_2001, xat_2002, xat_2003, List.getElem?_cons_succ, List.getElem?_cons_zero, xfn_0, xfn_1, xfn_2, xfn_3, x10, x01, not_true_eq_false, false_implies, implies_true, true_implies, xrm_c, xrm_s, xnl_4, xnl_32, xnl_64, xnl_256, xtn_4, xtn_32, xtn_64, xtn_256, Option.some.injEq, Sum.inl.injEq, Sum.inr.injEq, exists_eq_left', exists_eq_right, Option.toList_some, Option.toList_none, List.cons_append, List.nil_append, xE, lg_cmp_ge, lg_cmp_le, lg_cmp_gt, lg_cmp_lt, lg_cmp_eq, Nat.le_refl, Nat.zero_le, ne_eq, Nat.add_zero, dS_label_0, dS_label_1, dS_label_4, dS_label_5, dS_label_8, dS_label_9, dS_label_12, dS_label_13, dS_label_14, dS_label_15, dS_label_18, dS_label_19, dS_label_22, dS_label_25, dS_label_26, dS_label_29, dS_label_30, dS_label_31, dS_label_32, dS_label_35, dS_label_36, dS_label_37, dS_label_40, dS_label_41, dS_label_44, dS_label_45, dS_label_46, xf_3_74, xf_3_23, xe_3_21, xg_3_21, k1, k2, g3, g4, g5, xc_pi, xc_pr, xl_pi, xl_pr, xi_pi, xi_pr, hnt, false_and, e0]
    unfold oLabel
    rw [if_pos z]
    refine ⟨ar 2, xn S, 0, _, rfl, rfl, rfl, g5, by rw [g3]; rfl, by rw [g4]; exact vp_in_nI (by omega) (by decide), ?_, ⟨_, _, _, _, rC_lab h z⟩, ?_⟩
    · rw [nI_1, nI_pred]
    · exact ((xFr.mk (t := 1) (n := 0)).tr (xFr.pr (by rw [g3]; rfl))).tr (xFr.pi (by rw [xc_pr, k1]; rfl))
  · unfold oLabel
    rw [if_neg z]
    exact ⟨rfl, ⟨ar, pa, qa, la, h⟩, xFr.rf _ _⟩
end ADD
