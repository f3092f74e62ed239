/-! LEAVES of the class -/
set_option maxHeartbeats 4000000 in
set_option maxRecDepth 100000 in
theorem c_isWithin {l : Launch} {D : va_G} {n0 : Nat} (S : xS) (x lo hi : Int64) : xMet l D n0 mS_isWithin 0 0 [.inr (.inl x), .inr (.inl lo), .inr (.inl hi)] S (fun r S' => r = some (.inl (if lo ≤ x ∧ x ≤ hi then 1 else 0)) ∧ S' = S) := by
  refine xMet.of (k := mS_isWithin) (own := 3) (ini := false) xm_S_isWithin (by decide +kernel) (by decide +kernel) (by decide) (Nat.le_of_ble_eq_true rfl) ?_
  intro V hV
  show V 0 [some (.inr (.inl x)), none, some (.inr (.inl lo)), none, some (.inr (.inl hi)), none] [] S 0 0
  refine xrun_ok hV [] 20 _ _ _ _ _ _ ?_
  simp only [xrun, xisc, ↓xstep, xget, xtgt, xcmp, xacmp, xprev, xisR, xnt, List.set, List.length, xsw, xlk, if_true, if_false, true_and, and_true, List.mem_cons, List.not_mem_nil, or_false, false_or, Bool.false_eq_true, reduceCtorEq, not_false_eq_true, forall_const, Nat.zero_add, Nat.reduceAdd, Nat.reduceSub, Int.reduceAdd, Int.reduceNeg, Int.reduceToNat, Nat.reduceEqDiff, Nat.reduceLT, Nat.reduceLeDiff, Int.reduceLE, Int.reduceLT, reduceIte, Int.cast_ofNat_Int, Int.natCast_zero, Int.natCast_one, Int.reduceAdd, eq_self, Int.reduceSub, List.length_cons, List.length_nil, xli_m1, xli_0, xli_1, xli_2, xli_3, xli_4, xli_5, xlb_8, xlb_12, xlb_31, xlb_32, xlb_64, xls_256, xls_513, xls_2048, xls_4096, xll_0, xll_1, xnr_i, xnr_0, xnr_1, xnr_ite, xft_i, xft_0, xft_1, Option.some.injEq, exists_eq_left', exists_eq_right, Option.toList_some, Option.toList_none, List.cons_append, List.nil_append, xE, lg_cmp_ge, lg_cmp_le, lg_cmp_gt, lg_cmp_lt, lg_cmp_eq, Nat.le_refl, Nat.zero_le, ne_eq, Nat.add_zero, dS_isWithin_0, dS_isWithin_1, dS_isWithin_2, dS_isWithin_3, dS_isWithin_6, dS_isWithin_7, dS_isWithin_9, dS_isWithin_10, dS_isWithin_13, dS_isWithin_14, dS_isWithin_17, dS_isWithin_18]
  trace_state
  sorry
