/-! LEAVES of the class -/
theorem mpad_num {x p : Nat} (hx : x < 2 ^ 31) (hp : p ≤ 12) : (-(nI x)) &&& ((1 : Int32) <<< (nI p &&& 31) - 1) = nI (mpad x p) := by
  rw [pk_and (-(nI x)) p (xshl_m1 p (by omega)), xneg_toNat hx]
  congr 1
  have h : p = 0 ∨ p = 1 ∨ p = 2 ∨ p = 3 ∨ p = 4 ∨ p = 5 ∨ p = 6 ∨ p = 7 ∨ p = 8 ∨ p = 9 ∨ p = 10 ∨ p = 11 ∨ p = 12 := by omega
  unfold mpad
  rcases h with rfl | rfl | rfl | rfl | rfl | rfl | rfl | rfl | rfl | rfl | rfl | rfl | rfl <;> omega
theorem mpad_lt {x p : Nat} (hp : p ≤ 12) : mpad x p < 4096 := by
  have h1 := xpow_le hp
  have h2 : 0 < 2 ^ p := Nat.two_pow_pos p
  have h3 : mpad x p < 2 ^ p := Nat.mod_lt _ h2
  omega
section LEAF
variable {l : Launch} {D : va_G} {n0 : Nat}
set_option maxHeartbeats 4000000 in
set_option maxRecDepth 100000 in
theorem c_isWithin (S : xS) (x lo hi : Int64) : xMet l D n0 mS_isWithin 0 0 [.inr (.inl x), .inr (.inl lo), .inr (.inl hi)] S (fun r S' => r = some (.inl (if lo.toInt ≤ x.toInt ∧ x.toInt ≤ hi.toInt then 1 else 0)) ∧ S' = S) := by
  refine xMet.of (k := mS_isWithin) (own := 3) (ini := false) xm_S_isWithin (by decide +kernel) (by decide +kernel) (by decide) (Nat.le_of_ble_eq_true rfl) ?_
  intro V hV
  show V 0 [some (.inr (.inl x)), none, some (.inr (.inl lo)), none, some (.inr (.inl hi)), none] [] S 0 0
  refine xrun_ok hV [] 20 _ _ _ _ _ _ ?_
  simp (maxDischargeDepth := 60) only [xrun, xisc, ↓xstep, xget, xtgt, xcmp, xacmp, xprev, xisR, xnt, List.set, List.length, xsw, xlk, true_or, or_true, if_true, if_false, true_and, and_true, List.mem_cons, List.not_mem_nil, or_false, false_or, Bool.false_eq_true, reduceCtorEq, not_false_eq_true, forall_const, Nat.zero_add, Nat.reduceAdd, Nat.reduceSub, Int.reduceAdd, Int.reduceNeg, Int.reduceToNat, Nat.reduceEqDiff, Nat.reduceLT, Nat.reduceLeDiff, Int.reduceLE, Int.reduceLT, reduceIte, Int.cast_ofNat_Int, Int.natCast_zero, Int.natCast_one, Int.reduceAdd, eq_self, Int.reduceSub, List.length_cons, List.length_nil, xli_m1, xli_0, xli_1, xli_2, xli_3, xli_4, xli_5, xlb_8, xlb_12, xlb_31, xlb_32, xlb_64, xls_256, xls_513, xls_2048, xls_4096, xll_0, xll_1, xnr_i, xnr_0, xnr_1, xnr_ite, xft_i, xft_0, xft_1, xat_999, xat_1001, xat_1002, xat_1003, xat_2001, xat_2002, xat_2003, List.getElem?_cons_succ, List.getElem?_cons_zero, xfn_0, xfn_1, xfn_2, xfn_3, x10, x01, not_true_eq_false, false_implies, implies_true, true_implies, xrm_c, xrm_s, xnl_4, xnl_32, xnl_64, xnl_256, xtn_4, xtn_32, xtn_64, xtn_256, Option.some.injEq, Sum.inl.injEq, Sum.inr.injEq, exists_eq_left', exists_eq_right, Option.toList_some, Option.toList_none, List.cons_append, List.nil_append, xE, lg_cmp_ge, lg_cmp_le, lg_cmp_gt, lg_cmp_lt, lg_cmp_eq, Nat.le_refl, Nat.zero_le, ne_eq, Nat.add_zero, dS_isWithin_0, dS_isWithin_1, dS_isWithin_2, dS_isWithin_3, dS_isWithin_6, dS_isWithin_7, dS_isWithin_9, dS_isWithin_10, dS_isWithin_13, dS_isWithin_14, dS_isWithin_17, dS_isWithin_18]
  simp only [xI64lt]
  refine ⟨fun h => ?_, fun h => ⟨fun h1 => ?_, fun h1 => ?_⟩⟩
  · rw [if_neg (by omega)]
  · rw [if_neg (by omega)]
  · rw [if_pos (by omega)]
set_option maxHeartbeats 4000000 in
set_option maxRecDepth 100000 in
theorem c_isOutput (S : xS) (x : Int32) : xMet l D n0 mS_isOutput 0 0 [.inl x] S (fun r S' => r = some (.inl (if 0 ≤ x.toInt ∧ x.toInt ≤ 3 then 1 else 0)) ∧ S' = S) := by
  refine xMet.of (k := mS_isOutput) (own := 3) (ini := false) xm_S_isOutput (by decide +kernel) (by decide +kernel) (by decide) (Nat.le_of_ble_eq_true rfl) ?_
  intro V hV
  show V 0 [some (.inl x)] [] S 0 0
  refine xrun_ok hV [] 20 _ _ _ _ _ _ ?_
  simp (maxDischargeDepth := 60) only [xrun, xisc, ↓xstep, xget, xtgt, xcmp, xacmp, xprev, xisR, xnt, List.set, List.length, xsw, xlk, true_or, or_true, if_true, if_false, true_and, and_true, List.mem_cons, List.not_mem_nil, or_false, false_or, Bool.false_eq_true, reduceCtorEq, not_false_eq_true, forall_const, Nat.zero_add, Nat.reduceAdd, Nat.reduceSub, Int.reduceAdd, Int.reduceNeg, Int.reduceToNat, Nat.reduceEqDiff, Nat.reduceLT, Nat.reduceLeDiff, Int.reduceLE, Int.reduceLT, reduceIte, Int.cast_ofNat_Int, Int.natCast_zero, Int.natCast_one, Int.reduceAdd, eq_self, Int.reduceSub, List.length_cons, List.length_nil, xli_m1, xli_0, xli_1, xli_2, xli_3, xli_4, xli_5, xlb_8, xlb_12, xlb_31, xlb_32, xlb_64, xls_256, xls_513, xls_2048, xls_4096, xll_0, xll_1, xnr_i, xnr_0, xnr_1, xnr_ite, xft_i, xft_0, xft_1, xat_999, xat_1001, xat_1002, xat_1003, xat_2001, xat_2002, xat_2003, List.getElem?_cons_succ, List.getElem?_cons_zero, xfn_0, xfn_1, xfn_2, xfn_3, x10, x01, not_true_eq_false, false_implies, implies_true, true_implies, xrm_c, xrm_s, xnl_4, xnl_32, xnl_64, xnl_256, xtn_4, xtn_32, xtn_64, xtn_256, Option.some.injEq, Sum.inl.injEq, Sum.inr.injEq, exists_eq_left', exists_eq_right, Option.toList_some, Option.toList_none, List.cons_append, List.nil_append, xE, lg_cmp_ge, lg_cmp_le, lg_cmp_gt, lg_cmp_lt, lg_cmp_eq, Nat.le_refl, Nat.zero_le, ne_eq, Nat.add_zero, dS_isOutput_0, dS_isOutput_1, dS_isOutput_2, dS_isOutput_3, dS_isOutput_6, dS_isOutput_9, xj_3_251]
  refine hV.call [] xh_3_57 dS_isOutput_6 (c_isWithin S x.toInt64 0 3) (Or.inl rfl) rfl rfl (by decide) (by decide) (by decide) ?_
  rintro r S' ⟨rfl, rfl⟩
  refine xrun_ok hV [] 20 _ _ _ _ _ _ ?_
  simp (maxDischargeDepth := 60) only [xrun, xisc, ↓xstep, xget, xtgt, xcmp, xacmp, xprev, xisR, xnt, List.set, List.length, xsw, xlk, true_or, or_true, if_true, if_false, true_and, and_true, List.mem_cons, List.not_mem_nil, or_false, false_or, Bool.false_eq_true, reduceCtorEq, not_false_eq_true, forall_const, Nat.zero_add, Nat.reduceAdd, Nat.reduceSub, Int.reduceAdd, Int.reduceNeg, Int.reduceToNat, Nat.reduceEqDiff, Nat.reduceLT, Nat.reduceLeDiff, Int.reduceLE, Int.reduceLT, reduceIte, Int.cast_ofNat_Int, Int.natCast_zero, Int.natCast_one, Int.reduceAdd, eq_self, Int.reduceSub, List.length_cons, List.length_nil, xli_m1, xli_0, xli_1, xli_2, xli_3, xli_4, xli_5, xlb_8, xlb_12, xlb_31, xlb_32, xlb_64, xls_256, xls_513, xls_2048, xls_4096, xll_0, xll_1, xnr_i, xnr_0, xnr_1, xnr_ite, xft_i, xft_0, xft_1, xat_999, xat_1001, xat_1002, xat_1003, xat_2001, xat_2002, xat_2003, List.getElem?_cons_succ, List.getElem?_cons_zero, xfn_0, xfn_1, xfn_2, xfn_3, x10, x01, not_true_eq_false, false_implies, implies_true, true_implies, xrm_c, xrm_s, xnl_4, xnl_32, xnl_64, xnl_256, xtn_4, xtn_32, xtn_64, xtn_256, Option.some.injEq, Sum.inl.injEq, Sum.inr.injEq, exists_eq_left', exists_eq_right, Option.toList_some, Option.toList_none, List.cons_append, List.nil_append, xE, lg_cmp_ge, lg_cmp_le, lg_cmp_gt, lg_cmp_lt, lg_cmp_eq, Nat.le_refl, Nat.zero_le, ne_eq, Nat.add_zero, dS_isOutput_0, dS_isOutput_1, dS_isOutput_2, dS_isOutput_3, dS_isOutput_6, dS_isOutput_9, xj_3_251]
  simp only [Int32.toInt_toInt64]
  rfl
set_option maxHeartbeats 4000000 in
set_option maxRecDepth 100000 in
theorem c_isPower (S : xS) (x : Int32) : xMet l D n0 mS_isPower 0 0 [.inl x] S (fun r S' => r = some (.inl (if 0 ≤ x.toInt ∧ x.toInt ≤ 12 then 1 else 0)) ∧ S' = S) := by
  refine xMet.of (k := mS_isPower) (own := 3) (ini := false) xm_S_isPower (by decide +kernel) (by decide +kernel) (by decide) (Nat.le_of_ble_eq_true rfl) ?_
  intro V hV
  show V 0 [some (.inl x)] [] S 0 0
  refine xrun_ok hV [] 20 _ _ _ _ _ _ ?_
  simp (maxDischargeDepth := 60) only [xrun, xisc, ↓xstep, xget, xtgt, xcmp, xacmp, xprev, xisR, xnt, List.set, List.length, xsw, xlk, true_or, or_true, if_true, if_false, true_and, and_true, List.mem_cons, List.not_mem_nil, or_false, false_or, Bool.false_eq_true, reduceCtorEq, not_false_eq_true, forall_const, Nat.zero_add, Nat.reduceAdd, Nat.reduceSub, Int.reduceAdd, Int.reduceNeg, Int.reduceToNat, Nat.reduceEqDiff, Nat.reduceLT, Nat.reduceLeDiff, Int.reduceLE, Int.reduceLT, reduceIte, Int.cast_ofNat_Int, Int.natCast_zero, Int.natCast_one, Int.reduceAdd, eq_self, Int.reduceSub, List.length_cons, List.length_nil, xli_m1, xli_0, xli_1, xli_2, xli_3, xli_4, xli_5, xlb_8, xlb_12, xlb_31, xlb_32, xlb_64, xls_256, xls_513, xls_2048, xls_4096, xll_0, xll_1, xnr_i, xnr_0, xnr_1, xnr_ite, xft_i, xft_0, xft_1, xat_999, xat_1001, xat_1002, xat_1003, xat_2001, xat_2002, xat_2003, List.getElem?_cons_succ, List.getElem?_cons_zero, xfn_0, xfn_1, xfn_2, xfn_3, x10, x01, not_true_eq_false, false_implies, implies_true, true_implies, xrm_c, xrm_s, xnl_4, xnl_32, xnl_64, xnl_256, xtn_4, xtn_32, xtn_64, xtn_256, Option.some.injEq, Sum.inl.injEq, Sum.inr.injEq, exists_eq_left', exists_eq_right, Option.toList_some, Option.toList_none, List.cons_append, List.nil_append, xE, lg_cmp_ge, lg_cmp_le, lg_cmp_gt, lg_cmp_lt, lg_cmp_eq, Nat.le_refl, Nat.zero_le, ne_eq, Nat.add_zero, dS_isPower_0, dS_isPower_1, dS_isPower_2, dS_isPower_3, dS_isPower_6, dS_isPower_9, xj_3_253]
  refine hV.call [] xh_3_57 dS_isPower_6 (c_isWithin S x.toInt64 0 12) (Or.inl rfl) rfl rfl (by decide) (by decide) (by decide) ?_
  rintro r S' ⟨rfl, rfl⟩
  refine xrun_ok hV [] 20 _ _ _ _ _ _ ?_
  simp (maxDischargeDepth := 60) only [xrun, xisc, ↓xstep, xget, xtgt, xcmp, xacmp, xprev, xisR, xnt, List.set, List.length, xsw, xlk, true_or, or_true, if_true, if_false, true_and, and_true, List.mem_cons, List.not_mem_nil, or_false, false_or, Bool.false_eq_true, reduceCtorEq, not_false_eq_true, forall_const, Nat.zero_add, Nat.reduceAdd, Nat.reduceSub, Int.reduceAdd, Int.reduceNeg, Int.reduceToNat, Nat.reduceEqDiff, Nat.reduceLT, Nat.reduceLeDiff, Int.reduceLE, Int.reduceLT, reduceIte, Int.cast_ofNat_Int, Int.natCast_zero, Int.natCast_one, Int.reduceAdd, eq_self, Int.reduceSub, List.length_cons, List.length_nil, xli_m1, xli_0, xli_1, xli_2, xli_3, xli_4, xli_5, xlb_8, xlb_12, xlb_31, xlb_32, xlb_64, xls_256, xls_513, xls_2048, xls_4096, xll_0, xll_1, xnr_i, xnr_0, xnr_1, xnr_ite, xft_i, xft_0, xft_1, xat_999, xat_1001, xat_1002, xat_1003, xat_2001, xat_2002, xat_2003, List.getElem?_cons_succ, List.getElem?_cons_zero, xfn_0, xfn_1, xfn_2, xfn_3, x10, x01, not_true_eq_false, false_implies, implies_true, true_implies, xrm_c, xrm_s, xnl_4, xnl_32, xnl_64, xnl_256, xtn_4, xtn_32, xtn_64, xtn_256, Option.some.injEq, Sum.inl.injEq, Sum.inr.injEq, exists_eq_left', exists_eq_right, Option.toList_some, Option.toList_none, List.cons_append, List.nil_append, xE, lg_cmp_ge, lg_cmp_le, lg_cmp_gt, lg_cmp_lt, lg_cmp_eq, Nat.le_refl, Nat.zero_le, ne_eq, Nat.add_zero, dS_isPower_0, dS_isPower_1, dS_isPower_2, dS_isPower_3, dS_isPower_6, dS_isPower_9, xj_3_253]
  simp only [Int32.toInt_toInt64]
  rfl
set_option maxHeartbeats 4000000 in
set_option maxRecDepth 100000 in
theorem c_bytes (S : xS) {x p : Nat} (hx : x < 2 ^ 31) (hp : p ≤ 12) : xMet l D n0 mS_bytesToMultiple 0 0 [.inl (nI x), .inl (nI p)] S (fun r S' => r = some (.inl (nI (mpad x p))) ∧ S' = S) := by
  refine xMet.of (k := mS_bytesToMultiple) (own := 3) (ini := false) xm_S_bytesToMultiple (by decide +kernel) (by decide +kernel) (by decide) (Nat.le_of_ble_eq_true rfl) ?_
  intro V hV
  show V 0 [some (.inl (nI x)), some (.inl (nI p))] [] S 0 0
  refine xrun_ok hV [] 20 _ _ _ _ _ _ ?_
  simp (maxDischargeDepth := 60) only [xrun, xisc, ↓xstep, xget, xtgt, xcmp, xacmp, xprev, xisR, xnt, List.set, List.length, xsw, xlk, true_or, or_true, if_true, if_false, true_and, and_true, List.mem_cons, List.not_mem_nil, or_false, false_or, Bool.false_eq_true, reduceCtorEq, not_false_eq_true, forall_const, Nat.zero_add, Nat.reduceAdd, Nat.reduceSub, Int.reduceAdd, Int.reduceNeg, Int.reduceToNat, Nat.reduceEqDiff, Nat.reduceLT, Nat.reduceLeDiff, Int.reduceLE, Int.reduceLT, reduceIte, Int.cast_ofNat_Int, Int.natCast_zero, Int.natCast_one, Int.reduceAdd, eq_self, Int.reduceSub, List.length_cons, List.length_nil, xli_m1, xli_0, xli_1, xli_2, xli_3, xli_4, xli_5, xlb_8, xlb_12, xlb_31, xlb_32, xlb_64, xls_256, xls_513, xls_2048, xls_4096, xll_0, xll_1, xnr_i, xnr_0, xnr_1, xnr_ite, xft_i, xft_0, xft_1, xat_999, xat_1001, xat_1002, xat_1003, xat_2001, xat_2002, xat_2003, List.getElem?_cons_succ, List.getElem?_cons_zero, xfn_0, xfn_1, xfn_2, xfn_3, x10, x01, not_true_eq_false, false_implies, implies_true, true_implies, xrm_c, xrm_s, xnl_4, xnl_32, xnl_64, xnl_256, xtn_4, xtn_32, xtn_64, xtn_256, Option.some.injEq, Sum.inl.injEq, Sum.inr.injEq, exists_eq_left', exists_eq_right, Option.toList_some, Option.toList_none, List.cons_append, List.nil_append, xE, lg_cmp_ge, lg_cmp_le, lg_cmp_gt, lg_cmp_lt, lg_cmp_eq, Nat.le_refl, Nat.zero_le, ne_eq, Nat.add_zero, dS_bytesToMultiple_0, dS_bytesToMultiple_1, dS_bytesToMultiple_2, dS_bytesToMultiple_3, dS_bytesToMultiple_4, dS_bytesToMultiple_5, dS_bytesToMultiple_6, dS_bytesToMultiple_7, dS_bytesToMultiple_8]
  exact mpad_num hx hp
set_option maxHeartbeats 4000000 in
set_option maxRecDepth 100000 in
theorem c_min (S : xS) (x y : Int32) : xMet l D n0 mA_min 0 0 [.inl x, .inl y] S (fun r S' => r = some (.inl (if y < x then y else x)) ∧ S' = S) := by
  refine xMet.of (k := mA_min) (own := 6) (ini := false) xm_A_min (by decide +kernel) (by decide +kernel) (by decide) (Nat.le_of_ble_eq_true rfl) ?_
  intro V hV
  show V 0 [some (.inl x), some (.inl y)] [] S 0 0
  refine xrun_ok hV [] 20 _ _ _ _ _ _ ?_
  simp (maxDischargeDepth := 60) only [xrun, xisc, ↓xstep, xget, xtgt, xcmp, xacmp, xprev, xisR, xnt, List.set, List.length, xsw, xlk, true_or, or_true, if_true, if_false, true_and, and_true, List.mem_cons, List.not_mem_nil, or_false, false_or, Bool.false_eq_true, reduceCtorEq, not_false_eq_true, forall_const, Nat.zero_add, Nat.reduceAdd, Nat.reduceSub, Int.reduceAdd, Int.reduceNeg, Int.reduceToNat, Nat.reduceEqDiff, Nat.reduceLT, Nat.reduceLeDiff, Int.reduceLE, Int.reduceLT, reduceIte, Int.cast_ofNat_Int, Int.natCast_zero, Int.natCast_one, Int.reduceAdd, eq_self, Int.reduceSub, List.length_cons, List.length_nil, xli_m1, xli_0, xli_1, xli_2, xli_3, xli_4, xli_5, xlb_8, xlb_12, xlb_31, xlb_32, xlb_64, xls_256, xls_513, xls_2048, xls_4096, xll_0, xll_1, xnr_i, xnr_0, xnr_1, xnr_ite, xft_i, xft_0, xft_1, xat_999, xat_1001, xat_1002, xat_1003, xat_2001, xat_2002, xat_2003, List.getElem?_cons_succ, List.getElem?_cons_zero, xfn_0, xfn_1, xfn_2, xfn_3, x10, x01, not_true_eq_false, false_implies, implies_true, true_implies, xrm_c, xrm_s, xnl_4, xnl_32, xnl_64, xnl_256, xtn_4, xtn_32, xtn_64, xtn_256, Option.some.injEq, Sum.inl.injEq, Sum.inr.injEq, exists_eq_left', exists_eq_right, Option.toList_some, Option.toList_none, List.cons_append, List.nil_append, xE, lg_cmp_ge, lg_cmp_le, lg_cmp_gt, lg_cmp_lt, lg_cmp_eq, Nat.le_refl, Nat.zero_le, ne_eq, Nat.add_zero, dA_min_0, dA_min_1, dA_min_2, dA_min_5, dA_min_6, dA_min_9, dA_min_10]
  refine ⟨fun h => ?_, fun h => ?_⟩
  · rw [if_pos h]
  · rw [if_neg h]
set_option maxHeartbeats 4000000 in
set_option maxRecDepth 100000 in
theorem c_partAt {S : xS} {th : Nat} {ar pa qa la : Nat → Nat} {M : mT} (h : rC S th ar pa qa la M) (x : Int32) : xMet l D n0 mS_partAt 0 0 [.inr (.inr (some th)), .inl x] S (fun r S' => r = some (.inr (.inr (if 0 ≤ x.toInt ∧ x.toInt < M 4 0 then some (pa x.toNatClampNeg) else none))) ∧ S' = S) := by
  refine xMet.of (k := mS_partAt) (own := 3) (ini := false) xm_S_partAt (by decide +kernel) (by decide +kernel) (by decide) (Nat.le_of_ble_eq_true rfl) ?_
  intro V hV
  show V 0 [some (.inr (.inr (some th))), some (.inl x)] [] S 0 0
  have h1 := h.2.1.1.1
  have h2 := (h.2.1.2.1 0 (by decide)).1
  have h3 := h.2.1.2.2.1.1
  have h4 := h.2.1.2.2.2.1.1
  refine xrun_ok hV [] 20 _ _ _ _ _ _ ?_
  simp (maxDischargeDepth := 60) only [xrun, xisc, ↓xstep, xget, xtgt, xcmp, xacmp, xprev, xisR, xnt, List.set, List.length, xsw, xlk, true_or, or_true, if_true, if_false, true_and, and_true, List.mem_cons, List.not_mem_nil, or_false, false_or, Bool.false_eq_true, reduceCtorEq, not_false_eq_true, forall_const, Nat.zero_add, Nat.reduceAdd, Nat.reduceSub, Int.reduceAdd, Int.reduceNeg, Int.reduceToNat, Nat.reduceEqDiff, Nat.reduceLT, Nat.reduceLeDiff, Int.reduceLE, Int.reduceLT, reduceIte, Int.cast_ofNat_Int, Int.natCast_zero, Int.natCast_one, Int.reduceAdd, eq_self, Int.reduceSub, List.length_cons, List.length_nil, xli_m1, xli_0, xli_1, xli_2, xli_3, xli_4, xli_5, xlb_8, xlb_12, xlb_31, xlb_32, xlb_64, xls_256, xls_513, xls_2048, xls_4096, xll_0, xll_1, xnr_i, xnr_0, xnr_1, xnr_ite, xft_i, xft_0, xft_1, xat_999, xat_1001, xat_1002, xat_1003, xat_2001, xat_2002, xat_2003, List.getElem?_cons_succ, List.getElem?_cons_zero, xfn_0, xfn_1, xfn_2, xfn_3, x10, x01, not_true_eq_false, false_implies, implies_true, true_implies, xrm_c, xrm_s, xnl_4, xnl_32, xnl_64, xnl_256, xtn_4, xtn_32, xtn_64, xtn_256, Option.some.injEq, Sum.inl.injEq, Sum.inr.injEq, exists_eq_left', exists_eq_right, Option.toList_some, Option.toList_none, List.cons_append, List.nil_append, xE, lg_cmp_ge, lg_cmp_le, lg_cmp_gt, lg_cmp_lt, lg_cmp_eq, Nat.le_refl, Nat.zero_le, ne_eq, Nat.add_zero, dS_partAt_0, dS_partAt_1, dS_partAt_4, dS_partAt_5, dS_partAt_6, dS_partAt_9, dS_partAt_10, dS_partAt_13, dS_partAt_14, dS_partAt_17, dS_partAt_18, dS_partAt_19, dS_partAt_22, dS_partAt_23, xf_3_11, h1, h2, h3, h4]
  refine ⟨fun z => ⟨Or.inl ⟨_, rfl⟩, ?_⟩, fun z => ⟨⟨_, rfl⟩, fun z1 => ⟨Or.inl ⟨_, rfl⟩, ?_⟩, fun z1 => ⟨⟨_, rfl⟩, ?_, Or.inl ⟨_, rfl⟩, ?_⟩⟩⟩
  · rw [xI32lt] at z
    rw [if_neg (fun q => by have : x.toInt < 0 := z; omega)]
  · rw [xI32le] at z1
    have z2 : (32 : Int) ≤ x.toInt := z1
    have := h.1.1.2.1
    rw [if_neg (by omega)]
  · rw [xI32lt] at z
    rw [xI32le] at z1
    have z2 : ¬ (32 : Int) ≤ x.toInt := z1
    have z3 : ¬ x.toInt < 0 := z
    exact vp_in_iff.mpr ⟨by omega, by omega⟩
  · rw [xI32lt] at z
    rw [xI32le] at z1
    have z2 : ¬ (32 : Int) ≤ x.toInt := z1
    have z3 : ¬ x.toInt < 0 := z
    have z4 : x.toNatClampNeg = x.toInt.toNat := rfl
    rw [h.2.2.1.1 x.toNatClampNeg (by omega)]
    by_cases hz : x.toInt < M 4 0
    · rw [if_pos (by omega), if_pos ⟨by omega, hz⟩]
    · rw [if_neg (by omega), if_neg (fun q => hz q.2)]
set_option maxHeartbeats 4000000 in
set_option maxRecDepth 100000 in
theorem c_pieceAt {S : xS} {th : Nat} {ar pa qa la : Nat → Nat} {M : mT} (h : rC S th ar pa qa la M) (x : Int32) : xMet l D n0 mS_pieceAt 0 0 [.inr (.inr (some th)), .inl x] S (fun r S' => r = some (.inr (.inr (if 0 ≤ x.toInt ∧ x.toInt < M 12 0 then some (qa x.toNatClampNeg) else none))) ∧ S' = S) := by
  refine xMet.of (k := mS_pieceAt) (own := 3) (ini := false) xm_S_pieceAt (by decide +kernel) (by decide +kernel) (by decide) (Nat.le_of_ble_eq_true rfl) ?_
  intro V hV
  show V 0 [some (.inr (.inr (some th))), some (.inl x)] [] S 0 0
  have h1 := h.2.1.1.1
  have h2 := (h.2.1.2.1 1 (by decide)).1
  have h3 := h.2.1.2.2.1.2.1
  have h4 := h.2.1.2.2.2.1.2.1
  refine xrun_ok hV [] 20 _ _ _ _ _ _ ?_
  simp (maxDischargeDepth := 60) only [xrun, xisc, ↓xstep, xget, xtgt, xcmp, xacmp, xprev, xisR, xnt, List.set, List.length, xsw, xlk, true_or, or_true, if_true, if_false, true_and, and_true, List.mem_cons, List.not_mem_nil, or_false, false_or, Bool.false_eq_true, reduceCtorEq, not_false_eq_true, forall_const, Nat.zero_add, Nat.reduceAdd, Nat.reduceSub, Int.reduceAdd, Int.reduceNeg, Int.reduceToNat, Nat.reduceEqDiff, Nat.reduceLT, Nat.reduceLeDiff, Int.reduceLE, Int.reduceLT, reduceIte, Int.cast_ofNat_Int, Int.natCast_zero, Int.natCast_one, Int.reduceAdd, eq_self, Int.reduceSub, List.length_cons, List.length_nil, xli_m1, xli_0, xli_1, xli_2, xli_3, xli_4, xli_5, xlb_8, xlb_12, xlb_31, xlb_32, xlb_64, xls_256, xls_513, xls_2048, xls_4096, xll_0, xll_1, xnr_i, xnr_0, xnr_1, xnr_ite, xft_i, xft_0, xft_1, xat_999, xat_1001, xat_1002, xat_1003, xat_2001, xat_2002, xat_2003, List.getElem?_cons_succ, List.getElem?_cons_zero, xfn_0, xfn_1, xfn_2, xfn_3, x10, x01, not_true_eq_false, false_implies, implies_true, true_implies, xrm_c, xrm_s, xnl_4, xnl_32, xnl_64, xnl_256, xtn_4, xtn_32, xtn_64, xtn_256, Option.some.injEq, Sum.inl.injEq, Sum.inr.injEq, exists_eq_left', exists_eq_right, Option.toList_some, Option.toList_none, List.cons_append, List.nil_append, xE, lg_cmp_ge, lg_cmp_le, lg_cmp_gt, lg_cmp_lt, lg_cmp_eq, Nat.le_refl, Nat.zero_le, ne_eq, Nat.add_zero, dS_pieceAt_0, dS_pieceAt_1, dS_pieceAt_4, dS_pieceAt_5, dS_pieceAt_6, dS_pieceAt_9, dS_pieceAt_10, dS_pieceAt_13, dS_pieceAt_14, dS_pieceAt_17, dS_pieceAt_18, dS_pieceAt_19, dS_pieceAt_22, dS_pieceAt_23, xf_3_17, h1, h2, h3, h4]
  refine ⟨fun z => ⟨Or.inl ⟨_, rfl⟩, ?_⟩, fun z => ⟨⟨_, rfl⟩, fun z1 => ⟨Or.inl ⟨_, rfl⟩, ?_⟩, fun z1 => ⟨⟨_, rfl⟩, ?_, Or.inl ⟨_, rfl⟩, ?_⟩⟩⟩
  · rw [xI32lt] at z
    rw [if_neg (fun q => by have : x.toInt < 0 := z; omega)]
  · rw [xI32le] at z1
    have z2 : (256 : Int) ≤ x.toInt := z1
    have := h.1.1.2.2.1
    rw [if_neg (by omega)]
  · rw [xI32lt] at z
    rw [xI32le] at z1
    have z2 : ¬ (256 : Int) ≤ x.toInt := z1
    have z3 : ¬ x.toInt < 0 := z
    exact vp_in_iff.mpr ⟨by omega, by omega⟩
  · rw [xI32lt] at z
    rw [xI32le] at z1
    have z2 : ¬ (256 : Int) ≤ x.toInt := z1
    have z3 : ¬ x.toInt < 0 := z
    have z4 : x.toNatClampNeg = x.toInt.toNat := rfl
    rw [h.2.2.1.2.1 x.toNatClampNeg (by omega)]
    by_cases hz : x.toInt < M 12 0
    · rw [if_pos (by omega), if_pos ⟨by omega, hz⟩]
    · rw [if_neg (by omega), if_neg (fun q => hz q.2)]
set_option maxHeartbeats 4000000 in
set_option maxRecDepth 100000 in
theorem c_labelAt {S : xS} {th : Nat} {ar pa qa la : Nat → Nat} {M : mT} (h : rC S th ar pa qa la M) (x : Int32) : xMet l D n0 mS_labelAt 0 0 [.inr (.inr (some th)), .inl x] S (fun r S' => r = some (.inr (.inr (if 0 ≤ x.toInt ∧ x.toInt < M 25 0 then some (la x.toNatClampNeg) else none))) ∧ S' = S) := by
  refine xMet.of (k := mS_labelAt) (own := 3) (ini := false) xm_S_labelAt (by decide +kernel) (by decide +kernel) (by decide) (Nat.le_of_ble_eq_true rfl) ?_
  intro V hV
  show V 0 [some (.inr (.inr (some th))), some (.inl x)] [] S 0 0
  have h1 := h.2.1.1.1
  have h2 := (h.2.1.2.1 2 (by decide)).1
  have h3 := h.2.1.2.2.1.2.2.1
  have h4 := h.2.1.2.2.2.1.2.2.1
  refine xrun_ok hV [] 20 _ _ _ _ _ _ ?_
  simp (maxDischargeDepth := 60) only [xrun, xisc, ↓xstep, xget, xtgt, xcmp, xacmp, xprev, xisR, xnt, List.set, List.length, xsw, xlk, true_or, or_true, if_true, if_false, true_and, and_true, List.mem_cons, List.not_mem_nil, or_false, false_or, Bool.false_eq_true, reduceCtorEq, not_false_eq_true, forall_const, Nat.zero_add, Nat.reduceAdd, Nat.reduceSub, Int.reduceAdd, Int.reduceNeg, Int.reduceToNat, Nat.reduceEqDiff, Nat.reduceLT, Nat.reduceLeDiff, Int.reduceLE, Int.reduceLT, reduceIte, Int.cast_ofNat_Int, Int.natCast_zero, Int.natCast_one, Int.reduceAdd, eq_self, Int.reduceSub, List.length_cons, List.length_nil, xli_m1, xli_0, xli_1, xli_2, xli_3, xli_4, xli_5, xlb_8, xlb_12, xlb_31, xlb_32, xlb_64, xls_256, xls_513, xls_2048, xls_4096, xll_0, xll_1, xnr_i, xnr_0, xnr_1, xnr_ite, xft_i, xft_0, xft_1, xat_999, xat_1001, xat_1002, xat_1003, xat_2001, xat_2002, xat_2003, List.getElem?_cons_succ, List.getElem?_cons_zero, xfn_0, xfn_1, xfn_2, xfn_3, x10, x01, not_true_eq_false, false_implies, implies_true, true_implies, xrm_c, xrm_s, xnl_4, xnl_32, xnl_64, xnl_256, xtn_4, xtn_32, xtn_64, xtn_256, Option.some.injEq, Sum.inl.injEq, Sum.inr.injEq, exists_eq_left', exists_eq_right, Option.toList_some, Option.toList_none, List.cons_append, List.nil_append, xE, lg_cmp_ge, lg_cmp_le, lg_cmp_gt, lg_cmp_lt, lg_cmp_eq, Nat.le_refl, Nat.zero_le, ne_eq, Nat.add_zero, dS_labelAt_0, dS_labelAt_1, dS_labelAt_4, dS_labelAt_5, dS_labelAt_6, dS_labelAt_9, dS_labelAt_10, dS_labelAt_13, dS_labelAt_14, dS_labelAt_17, dS_labelAt_18, dS_labelAt_19, dS_labelAt_22, dS_labelAt_23, xf_3_23, h1, h2, h3, h4]
  refine ⟨fun z => ⟨Or.inl ⟨_, rfl⟩, ?_⟩, fun z => ⟨⟨_, rfl⟩, fun z1 => ⟨Or.inl ⟨_, rfl⟩, ?_⟩, fun z1 => ⟨⟨_, rfl⟩, ?_, Or.inl ⟨_, rfl⟩, ?_⟩⟩⟩
  · rw [xI32lt] at z
    rw [if_neg (fun q => by have : x.toInt < 0 := z; omega)]
  · rw [xI32le] at z1
    have z2 : (64 : Int) ≤ x.toInt := z1
    have := h.1.1.2.2.2
    rw [if_neg (by omega)]
  · rw [xI32lt] at z
    rw [xI32le] at z1
    have z2 : ¬ (64 : Int) ≤ x.toInt := z1
    have z3 : ¬ x.toInt < 0 := z
    exact vp_in_iff.mpr ⟨by omega, by omega⟩
  · rw [xI32lt] at z
    rw [xI32le] at z1
    have z2 : ¬ (64 : Int) ≤ x.toInt := z1
    have z3 : ¬ x.toInt < 0 := z
    have z4 : x.toNatClampNeg = x.toInt.toNat := rfl
    rw [h.2.2.1.2.2 x.toNatClampNeg (by omega)]
    by_cases hz : x.toInt < M 25 0
    · rw [if_pos (by omega), if_pos ⟨by omega, hz⟩]
    · rw [if_neg (by omega), if_neg (fun q => hz q.2)]
end LEAF
