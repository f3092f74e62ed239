/-! TABLES: what the rows of the pool mean, and the checks that the words are there -/
def xgood (w : Jvm.Cond) : Bool := (w.onTables && w.keeps) || (match w with | .arrayClass _ => true | _ => false)
def xtb : List Jvm.Cond := lw_tbl.filter xgood
theorem xtb_in {w : Jvm.Cond} (h : w ∈ xtb) : w ∈ lw_tbl := (List.mem_filter.mp h).1
theorem xtb_good : ∀ w ∈ xtb, (w.onTables && w.keeps) = true ∨ ∃ ty, w = .arrayClass ty := by
  intro w h
  have h2 := (List.mem_filter.mp h).2
  unfold xgood at h2
  rw [Bool.or_eq_true] at h2
  rcases h2 with h2 | h2
  · exact Or.inl h2
  · cases w <;> first | (exact Or.inr ⟨_, rfl⟩) | (cases h2)
def xty (ci k : Nat) : FieldType := match xcls[ci]? with
  | some q => (parseFieldDescriptor (q.2.1 k).2.2.1).getD .int
  | none => .int
def xsimple (ty : FieldType) : Bool := match ty with
  | .object _ => true
  | .array _ => true
  | .int => true
  | .boolean => true
  | _ => false
def xisR (ty : FieldType) : Bool := match ty with
  | .object _ => true
  | .array _ => true
  | _ => false
def xat (t : Nat) : Option FieldType := match t with
  | 999 => some .int
  | 1001 => some .int
  | 1002 => some .int
  | 1003 => some .boolean
  | 2001 => some (.object "ShrinkLayout$Part")
  | 2002 => some (.object "ShrinkLayout$Piece")
  | 2003 => some (.object "ShrinkLayout$Label")
  | _ => none
def xnt (own : Nat) (t : ArrayType) : Option Nat := match t with
  | .int => match own with
    | 4 => some 1002
    | _ => some 1001
  | .boolean => match own with
    | 4 => some 1003
    | _ => none
  | _ => none
def xFL : List (Nat × Nat × Nat × Nat × Bool × FieldType) := [(3, 11, 3, 0, true, .array (.object "ShrinkLayout$Part")),
  (3, 17, 3, 1, true, .array (.object "ShrinkLayout$Piece")),
  (3, 23, 3, 2, true, .array (.object "ShrinkLayout$Label")),
  (3, 27, 3, 3, true, .array (.int)),
  (3, 31, 3, 4, true, .array (.int)),
  (3, 34, 3, 5, true, .array (.int)),
  (3, 37, 3, 6, false, .int),
  (3, 186, 3, 7, false, .int),
  (3, 74, 3, 8, false, .int),
  (3, 101, 3, 9, false, .int),
  (1, 7, 1, 0, true, .int),
  (3, 161, 1, 0, true, .int),
  (1, 13, 1, 1, true, .int),
  (3, 174, 1, 1, true, .int),
  (1, 16, 1, 2, true, .int),
  (3, 207, 1, 2, true, .int),
  (3, 108, 1, 3, false, .boolean),
  (3, 104, 1, 4, false, .boolean),
  (3, 177, 1, 5, false, .int),
  (3, 180, 1, 6, false, .int),
  (1, 23, 1, 7, false, .object "ShrinkLayout$Piece"),
  (3, 208, 1, 7, false, .object "ShrinkLayout$Piece"),
  (1, 19, 1, 8, false, .object "ShrinkLayout$Piece"),
  (2, 9, 2, 0, true, .int),
  (3, 86, 2, 0, true, .int),
  (2, 15, 2, 1, true, .object "ShrinkLayout$Part"),
  (3, 144, 2, 1, true, .object "ShrinkLayout$Part"),
  (2, 19, 2, 2, true, .object "ShrinkLayout$Label"),
  (3, 128, 2, 2, true, .object "ShrinkLayout$Label"),
  (2, 23, 2, 3, true, .int),
  (3, 248, 2, 3, true, .int),
  (2, 26, 2, 4, true, .boolean),
  (3, 219, 2, 4, true, .boolean),
  (2, 30, 2, 5, true, .int),
  (3, 154, 2, 5, true, .int),
  (2, 33, 2, 6, true, .int),
  (3, 89, 2, 6, true, .int),
  (2, 36, 2, 7, true, .int),
  (3, 132, 2, 7, true, .int),
  (2, 39, 2, 8, false, .int),
  (3, 135, 2, 8, false, .int),
  (3, 151, 2, 9, false, .int),
  (3, 148, 2, 10, false, .int),
  (3, 138, 2, 11, false, .boolean),
  (1, 26, 2, 12, false, .object "ShrinkLayout$Piece"),
  (3, 216, 2, 12, false, .object "ShrinkLayout$Piece"),
  (3, 92, 0, 0, false, .object "ShrinkLayout$Piece"),
  (3, 96, 0, 1, false, .int),
  (4, 97, 4, 0, false, .int),
  (4, 7, 4, 1, true, .array (.int)),
  (4, 13, 4, 2, true, .array (.int)),
  (4, 16, 4, 3, true, .array (.int)),
  (4, 83, 4, 4, false, .int),
  (4, 19, 4, 5, true, .array (.int)),
  (4, 22, 4, 6, true, .array (.int)),
  (4, 25, 4, 7, true, .array (.boolean)),
  (4, 29, 4, 8, true, .array (.boolean)),
  (4, 32, 4, 9, true, .array (.boolean)),
  (4, 35, 4, 10, true, .array (.int)),
  (4, 38, 4, 11, true, .array (.int)),
  (4, 91, 4, 12, false, .int),
  (4, 41, 4, 13, true, .array (.int)),
  (4, 44, 4, 14, true, .array (.int)),
  (4, 47, 4, 15, true, .array (.int)),
  (4, 50, 4, 16, true, .array (.int)),
  (4, 53, 4, 17, true, .array (.int)),
  (4, 56, 4, 18, true, .array (.int)),
  (4, 59, 4, 19, true, .array (.int)),
  (4, 62, 4, 20, true, .array (.boolean)),
  (4, 65, 4, 21, true, .array (.boolean)),
  (4, 68, 4, 22, true, .array (.int)),
  (4, 71, 4, 23, true, .array (.int)),
  (4, 74, 4, 24, true, .array (.int)),
  (4, 94, 4, 25, false, .int),
  (4, 77, 4, 26, true, .array (.int)),
  (4, 80, 4, 27, true, .array (.int))]
def xNC : List (Nat × Nat × Nat × Nat) := [(3, 9, 1, 9), (3, 15, 2, 13), (3, 21, 0, 2), (5, 7, 3, 10), (5, 10, 4, 28)]
def xNA : List (Nat × Nat × Nat × String) := [(3, 9, 2001, "ShrinkLayout$Part"), (3, 15, 2002, "ShrinkLayout$Piece"), (3, 21, 2003, "ShrinkLayout$Label")]
def xKI : List (Nat × Nat × Int32) := [(4, 157, 4194304), (4, 169, 1048576)]
def xKL : List (Nat × Nat × Int64) := [(3, 164, 1099511627776), (3, 230, -2048), (3, 232, 2046), (3, 234, -1048576), (3, 236, 1048574), (3, 238, 2047), (3, 240, 2048), (3, 246, 31), (3, 251, 3), (3, 253, 12), (3, 55, 4194304), (3, 72, 4096), (3, 99, 1048576), (4, 124, -2048), (4, 126, 2047), (4, 138, 2), (4, 144, -1048576), (4, 146, 1048574), (4, 148, 2048), (4, 150, 4096), (4, 152, 131072), (4, 186, 1099511627776)]
def xnest : String × Nat × MethodName := ("ShrinkLayout", 77, yB_init)
def xOI : List (Nat × Nat) := [(0, 1), (1, 1), (2, 3), (3, 3), (4, 1)]
def xMI : List (MethodName × ByteArray × Nat × Option FieldType × Nat × Nat) := [(yS_init, cS_init, 1, none, 2, 0),
  (yS_part, cS_part, 3, (some .int), 1, 2),
  (yS_isOutput, cS_isOutput, 1, (some .boolean), 0, 1),
  (yS_isWithin, cS_isWithin, 6, (some .boolean), 0, 3),
  (yS_isPower, cS_isPower, 1, (some .boolean), 0, 1),
  (yP_init, cP_init, 4, none, 2, 3),
  (yS_plain, cS_plain, 4, (some .int), 1, 2),
  (yQ_init, cQ_init, 5, none, 2, 4),
  (yS_addPiece, cS_addPiece, 2, (some .int), 1, 1),
  (yP_append, cP_append, 2, none, 1, 1),
  (yS_call, cS_call, 5, (some .int), 1, 4),
  (yS_addAimed, cS_addAimed, 8, (some .int), 1, 5),
  (yQ_init2, cQ_init2, 6, none, 2, 5),
  (yS_upper, cS_upper, 5, (some .int), 1, 4),
  (yS_near, cS_near, 4, (some .int), 1, 3),
  (yS_fill, cS_fill, 5, (some .int), 1, 3),
  (yS_label, cS_label, 1, (some .int), 1, 0),
  (yB_init, cB_init, 1, none, 3, 0),
  (yS_put, cS_put, 7, (some .boolean), 1, 3),
  (yS_base, cS_base, 2, (some .boolean), 1, 1),
  (yS_align, cS_align, 3, (some .boolean), 1, 2),
  (yS_root, cS_root, 4, (some .boolean), 1, 2),
  (yS_sweep, cS_sweep, 5, (some .int), 1, 0),
  (yS_bringWhatIsLedTo, cS_bringWhatIsLedTo, 7, (some .boolean), 1, 0),
  (yS_countGone, cS_countGone, 6, (some .int), 1, 0),
  (yS_back, cS_back, 5, none, 1, 0),
  (yS_pass, cS_pass, 1, (some .int), 1, 0),
  (yS_makePass, cS_makePass, 6, (some .int), 1, 0),
  (yS_survey, cS_survey, 6, none, 1, 0),
  (yS_placeOutput, cS_placeOutput, 8, (some .int), 1, 2),
  (yS_bytesToMultiple, cS_bytesToMultiple, 2, (some .int), 0, 2),
  (yS_placePart, cS_placePart, 4, (some .int), 0, 2),
  (yA_min, cA_min, 2, (some .int), 0, 2),
  (yS_leastSize, cS_leastSize, 4, (some .int), 1, 1),
  (yS_aimOf, cS_aimOf, 2, (some .long), 0, 1),
  (yS_valueOf, cS_valueOf, 2, (some .int), 0, 1),
  (yS_leastCall, cS_leastCall, 4, (some .int), 0, 2),
  (yS_leastLoad, cS_leastLoad, 5, (some .int), 0, 3),
  (yA_floorDiv, cA_floorDiv, 6, (some .long), 0, 2),
  (yS_shrink, cS_shrink, 1, (some .int), 1, 0),
  (yS_makePasses, cS_makePasses, 3, (some .int), 1, 0),
  (yS_settle, cS_settle, 4, (some .int), 1, 0),
  (yS_fixWhatDoesNotHold, cS_fixWhatDoesNotHold, 6, (some .int), 1, 0),
  (yS_reset, cS_reset, 5, none, 1, 0),
  (yS_holds, cS_holds, 3, (some .int), 1, 0),
  (yS_lacks, cS_lacks, 3, (some .int), 1, 0),
  (yS_piece, cS_piece, 5, (some .int), 1, 2),
  (yS_aim, cS_aim, 3, (some .long), 1, 1),
  (yS_value, cS_value, 3, (some .int), 1, 1),
  (yS_span, cS_span, 4, (some .int), 1, 2),
  (yS_output, cS_output, 3, (some .int), 1, 2),
  (yS_saved, cS_saved, 6, (some .int), 1, 0),
  (yM_init, cM_init, 1, none, 2, 0),
  (yM_part, cM_part, 3, (some .int), 1, 2),
  (yM_within, cM_within, 3, (some .boolean), 0, 3),
  (yM_plain, cM_plain, 3, (some .int), 1, 2),
  (yM_isPart, cM_isPart, 2, (some .boolean), 1, 1),
  (yM_added, cM_added, 4, (some .int), 1, 3),
  (yM_call, cM_call, 5, (some .int), 1, 4),
  (yM_aimed, cM_aimed, 6, (some .int), 1, 5),
  (yM_isLabel, cM_isLabel, 2, (some .boolean), 1, 1),
  (yM_greatest, cM_greatest, 1, (some .int), 0, 1),
  (yM_upper, cM_upper, 5, (some .int), 1, 4),
  (yM_near, cM_near, 4, (some .int), 1, 3),
  (yM_fill, cM_fill, 4, (some .int), 1, 3),
  (yM_label, cM_label, 1, (some .int), 1, 0),
  (yM_put, cM_put, 4, (some .boolean), 1, 3),
  (yM_isPiece, cM_isPiece, 2, (some .boolean), 1, 1),
  (yM_base, cM_base, 2, (some .boolean), 1, 1),
  (yM_align, cM_align, 3, (some .boolean), 1, 2),
  (yM_root, cM_root, 3, (some .boolean), 1, 2),
  (yM_sweep, cM_sweep, 4, (some .int), 1, 0),
  (yM_shrinks, cM_shrinks, 2, (some .boolean), 1, 1),
  (yM_back, cM_back, 2, none, 1, 0),
  (yM_pass, cM_pass, 3, (some .int), 1, 0),
  (yM_reckon, cM_reckon, 4, none, 1, 0),
  (yM_roundUp, cM_roundUp, 2, (some .int), 0, 2),
  (yM_lay, cM_lay, 6, (some .int), 1, 2),
  (yM_leastOf, cM_leastOf, 7, (some .int), 1, 1),
  (yM_hasAim, cM_hasAim, 2, (some .boolean), 1, 1),
  (yM_hasValue, cM_hasValue, 2, (some .boolean), 1, 1),
  (yM_isGone, cM_isGone, 2, (some .boolean), 1, 1),
  (yM_aimOf, cM_aimOf, 2, (some .long), 1, 1),
  (yM_valueOf, cM_valueOf, 3, (some .int), 1, 1),
  (yM_isNear, cM_isNear, 2, (some .boolean), 0, 1),
  (yM_shrink, cM_shrink, 2, (some .int), 1, 0),
  (yM_settle, cM_settle, 5, (some .int), 1, 0),
  (yM_isTight, cM_isTight, 2, (some .boolean), 1, 1),
  (yM_reset, cM_reset, 2, none, 1, 0),
  (yM_holds, cM_holds, 2, (some .int), 1, 0),
  (yM_lacks, cM_lacks, 2, (some .int), 1, 0),
  (yM_piece, cM_piece, 4, (some .int), 1, 2),
  (yM_aim, cM_aim, 2, (some .long), 1, 1),
  (yM_value, cM_value, 2, (some .int), 1, 1),
  (yM_span, cM_span, 3, (some .int), 1, 2),
  (yM_output, cM_output, 3, (some .int), 1, 2),
  (yM_saved, cM_saved, 3, (some .int), 1, 0),
  (yS_partAt, cS_partAt, 2, (some (.object "ShrinkLayout$Part")), 1, 1),
  (yS_labelAt, cS_labelAt, 2, (some (.object "ShrinkLayout$Label")), 1, 1),
  (yS_pieceAt, cS_pieceAt, 2, (some (.object "ShrinkLayout$Piece")), 1, 1),
  (yS_partLedTo, cS_partLedTo, 1, (some (.object "ShrinkLayout$Part")), 0, 1),
  (yL_law, cL_law, 4, (some .boolean), 0, 1)]
def xmi (k : Nat) : Option (MethodName × ByteArray × Nat × Option FieldType × Nat × Nat) := xMI[k]?
def xFR : List (Nat × Nat) := [(1, 14), (2, 45), (1, 25), (0, 0), (1, 25), (1, 14), (2, 42), (1, 14), (1, 21), (0, 0), (3, 69), (2, 42), (1, 14), (3, 69), (3, 69), (2, 45), (2, 34), (1, 14), (1, 25), (1, 25), (2, 45), (1, 21), (2, 46), (1, 20), (0, 0), (0, 0), (5, 122), (4, 97), (3, 72), (2, 44), (0, 0), (1, 21), (0, 0), (2, 49), (1, 21), (0, 0), (1, 25), (1, 25), (0, 0), (6, 144), (5, 122), (6, 144), (4, 97), (0, 0), (4, 97), (4, 97), (4, 97), (4, 97), (4, 97), (4, 97), (4, 97), (0, 0), (1, 14), (1, 22), (0, 0), (2, 43), (1, 22), (0, 0), (3, 68), (2, 43), (1, 22), (0, 0), (3, 68), (3, 68), (2, 43), (0, 0), (2, 43), (1, 22), (1, 22), (1, 22), (2, 43), (1, 21), (0, 0), (0, 0), (5, 111), (1, 25), (0, 0), (0, 0), (4, 85), (3, 64), (2, 43), (0, 0), (1, 22), (0, 0), (0, 0), (6, 133), (7, 154), (5, 111), (1, 21), (6, 132), (2, 48), (5, 111), (4, 85), (3, 64), (2, 48), (2, 48), (1, 21), (0, 0), (0, 0), (0, 0), (0, 0), (8, 178)]
def xfr (k : Nat) : Nat := (xFR.getD k (0, 0)).1
def xlo (k : Nat) : Nat := (xFR.getD k (0, 0)).2
def xCL : List (Nat × Nat × Nat × Nat × Nat) := [(3, 41, mS_isOutput, 0, 3),
  (3, 45, mS_isPower, 0, 3),
  (3, 48, mP_init, 2, 1),
  (3, 51, mS_partAt, 1, 3),
  (3, 57, mS_isWithin, 0, 3),
  (3, 61, mQ_init, 2, 2),
  (3, 64, mS_addPiece, 1, 3),
  (3, 68, mS_addAimed, 1, 3),
  (3, 77, mB_init, 3, 0),
  (3, 78, mS_labelAt, 1, 3),
  (3, 82, mS_pieceAt, 1, 3),
  (3, 111, mS_bringWhatIsLedTo, 1, 3),
  (3, 115, mS_countGone, 1, 3),
  (3, 119, mS_makePass, 1, 3),
  (3, 122, mS_makePasses, 1, 3),
  (3, 125, mS_fixWhatDoesNotHold, 1, 3),
  (3, 141, mS_survey, 1, 3),
  (3, 157, mS_bytesToMultiple, 0, 3),
  (3, 166, mS_aimOf, 0, 3),
  (3, 170, mS_valueOf, 0, 3),
  (3, 183, mQ_init2, 2, 2),
  (3, 189, mP_append, 1, 1),
  (3, 193, mS_partLedTo, 0, 3),
  (3, 197, mS_placeOutput, 1, 3),
  (3, 200, mS_leastSize, 1, 3),
  (3, 203, mS_placePart, 0, 3),
  (3, 211, mA_min, 0, 0),
  (3, 222, mS_leastCall, 0, 3),
  (3, 226, mS_leastLoad, 0, 3),
  (3, 242, mA_floorDiv, 0, 0),
  (4, 87, mM_within, 0, 4),
  (4, 100, mM_roundUp, 0, 4),
  (4, 104, mM_lay, 1, 4),
  (4, 107, mM_isLabel, 1, 4),
  (4, 111, mM_isGone, 1, 4),
  (4, 114, mM_shrinks, 1, 4),
  (4, 117, mM_hasValue, 1, 4),
  (4, 120, mM_valueOf, 1, 4),
  (4, 128, mM_hasAim, 1, 4),
  (4, 131, mM_greatest, 0, 4),
  (4, 134, mM_aimOf, 1, 4),
  (4, 140, mM_isNear, 0, 4),
  (4, 154, mM_isPart, 1, 4),
  (4, 158, mM_added, 1, 4),
  (4, 162, mM_aimed, 1, 4),
  (4, 166, mM_isPiece, 1, 4),
  (4, 170, mM_reckon, 1, 4),
  (4, 173, mM_leastOf, 1, 4),
  (4, 176, mM_pass, 1, 4),
  (4, 180, mM_shrink, 1, 4),
  (4, 183, mM_isTight, 1, 4),
  (5, 9, mS_init, 2, 3),
  (5, 12, mM_init, 2, 4),
  (5, 13, mS_part, 1, 3),
  (5, 17, mM_part, 1, 4),
  (5, 18, mS_plain, 1, 3),
  (5, 21, mM_plain, 1, 4),
  (5, 22, mS_call, 1, 3),
  (5, 26, mM_call, 1, 4),
  (5, 27, mS_upper, 1, 3),
  (5, 30, mM_upper, 1, 4),
  (5, 31, mS_near, 1, 3),
  (5, 35, mM_near, 1, 4),
  (5, 36, mS_fill, 1, 3),
  (5, 39, mM_fill, 1, 4),
  (5, 40, mS_label, 1, 3),
  (5, 44, mM_label, 1, 4),
  (5, 45, mS_put, 1, 3),
  (5, 49, mM_put, 1, 4),
  (5, 50, mS_base, 1, 3),
  (5, 54, mM_base, 1, 4),
  (5, 55, mS_align, 1, 3),
  (5, 59, mM_align, 1, 4),
  (5, 60, mS_root, 1, 3),
  (5, 64, mM_root, 1, 4),
  (5, 65, mS_sweep, 1, 3),
  (5, 68, mM_sweep, 1, 4),
  (5, 69, mS_back, 1, 3),
  (5, 72, mM_back, 1, 4),
  (5, 73, mS_pass, 1, 3),
  (5, 76, mM_pass, 1, 4),
  (5, 77, mS_shrink, 1, 3),
  (5, 80, mM_shrink, 1, 4),
  (5, 81, mS_settle, 1, 3),
  (5, 84, mM_settle, 1, 4),
  (5, 85, mS_reset, 1, 3),
  (5, 88, mM_reset, 1, 4),
  (5, 89, mS_holds, 1, 3),
  (5, 92, mM_holds, 1, 4),
  (5, 93, mS_lacks, 1, 3),
  (5, 96, mM_lacks, 1, 4),
  (5, 97, mS_piece, 1, 3),
  (5, 100, mM_piece, 1, 4),
  (5, 101, mS_aim, 1, 3),
  (5, 105, mM_aim, 1, 4),
  (5, 106, mS_value, 1, 3),
  (5, 110, mM_value, 1, 4),
  (5, 111, mS_span, 1, 3),
  (5, 114, mM_span, 1, 4),
  (5, 115, mS_output, 1, 3),
  (5, 118, mM_output, 1, 4),
  (5, 119, mS_saved, 1, 3),
  (5, 122, mM_saved, 1, 4)]
def xAO : List String := ["ShrinkLayout$Part", "ShrinkLayout$Piece", "ShrinkLayout$Label"]
def xfl (own idx : Nat) : Option (Nat × Nat × Bool × FieldType) := (xFL.find? (fun r => r.1 == own && r.2.1 == idx)).map (fun r => r.2.2)
def xnc (own idx : Nat) : Option (Nat × Nat) := (xNC.find? (fun r => r.1 == own && r.2.1 == idx)).map (fun r => r.2.2)
def xna (own idx : Nat) : Option Nat := (xNA.find? (fun r => r.1 == own && r.2.1 == idx)).map (fun r => r.2.2.1)
def xki (own idx : Nat) : Option Int32 := (xKI.find? (fun r => r.1 == own && r.2.1 == idx)).map (fun r => r.2.2)
def xkl (own idx : Nat) : Option Int64 := (xKL.find? (fun r => r.1 == own && r.2.1 == idx)).map (fun r => r.2.2)
def xoi (own idx : Nat) : Bool := (xOI.find? (fun r => r.1 == own && r.2 == idx)).isSome
def xcl (own idx : Nat) : Option (Nat × Nat × Nat) := (xCL.find? (fun r => r.1 == own && r.2.1 == idx)).map (fun r => r.2.2)
-- checks
theorem xcls_ok : ∀ q ∈ xcls, (∀ w ∈ u_ws q.1 q.2.1 q.2.2, w ∈ xtb) ∧ (∀ a, a < q.2.2 → ∀ b, b < q.2.2 → a ≠ b → (q.2.1 a).2.1 ≠ (q.2.1 b).2.1) ∧ (∀ k, k < q.2.2 → (q.2.1 k).1 = q.1 ∧ ((parseFieldDescriptor (q.2.1 k).2.2.1).map xsimple) = some true) := by decide +kernel
theorem xcls_tag : ∀ ci, ci < xcls.length → xat (ci + 1) = none := by decide +kernel
theorem xcls_nm : ∀ ci, ci < xcls.length → (xcls[ci]?).map (fun q => q.1) = some (xnm ci) := by decide +kernel
theorem xFL_ok : ∀ r ∈ xFL, (match xcls[r.2.2.1]? with | some q => decide (r.2.2.2.1 < q.2.2) && decide ((q.2.1 r.2.2.2.1).2.2.2 = r.2.2.2.2.1) && decide (parseFieldDescriptor (q.2.1 r.2.2.2.1).2.2.1 = some r.2.2.2.2.2) && decide (Jvm.Cond.fieldLink (xnm r.1) r.2.1 (q.2.1 r.2.2.2.1).1 (q.2.1 r.2.2.2.1).2.1 (q.2.1 r.2.2.2.1).2.2.1 ∈ xtb) | none => false) = true := by decide +kernel
theorem xNC_ok : ∀ r ∈ xNC, (match xcls[r.2.2.1]? with | some q => decide (q.2.2 = r.2.2.2) && decide (Jvm.Cond.classLink (xnm r.1) r.2.1 q.1 ∈ xtb) && decide (Jvm.Cond.instantiable q.1 q.2.2 ∈ xtb) && decide (Jvm.Cond.initialized q.1 ∈ xtb) | none => false) = true := by decide +kernel
theorem xNA_ok : ∀ r ∈ xNA, xat r.2.2.1 = some (.object r.2.2.2) ∧ xcls.length < r.2.2.1 ∧ r.2.2.1 ≠ 999 ∧ Jvm.Cond.classLink (xnm r.1) r.2.1 r.2.2.2 ∈ xtb ∧ r.2.2.2 ∈ xAO := by decide +kernel
theorem xKI_ok : ∀ r ∈ xKI, Jvm.Cond.constant (xnm r.1) r.2.1 r.2.2 ∈ xtb := by decide +kernel
theorem xKL_ok : ∀ r ∈ xKL, Jvm.Cond.constantLong (xnm r.1) r.2.1 r.2.2 ∈ xtb := by decide +kernel
theorem xOI_ok : ∀ r ∈ xOI, Jvm.Cond.methodLink (xnm r.1) r.2 objectInit ∈ xtb := by decide +kernel
theorem xOI_ok2 : Jvm.Cond.instanceMethod objectInit ∈ xtb ∧ Jvm.Cond.code objectInit ⟨#[0xb1]⟩ 1 none ∈ xtb := by decide +kernel
theorem xnt_ok : ∀ own t tg, xnt own t = some tg → xat tg = some (newarray.typeOf t) ∧ xcls.length < tg ∧ tg ≠ 999 ∧ Jvm.Cond.arrayClass (newarray.typeOf t) ∈ xtb ∧ xsimple (newarray.typeOf t) = true ∧ xisR (newarray.typeOf t) = false := by
  intro own t tg h
  cases t <;> simp only [xnt] at h <;> (try (cases h; done)) <;> (split at h <;> cases h <;> decide +kernel)
/-- what a call's row says: the callee, its words, and how it is called -/
def xCLP (r : Nat × Nat × Nat × Nat × Nat) : Prop := ∃ (y : MethodName) (cc : ByteArray) (maxL : Nat) (ret : Option FieldType) (n : Nat), xmi r.2.2.1 = some (y, cc, maxL, ret, r.2.2.2.1, n) ∧ Jvm.Cond.code y cc maxL ret ∈ xtb ∧ Jvm.Cond.initialized y.cls ∈ xtb ∧ (y.cls ≠ "java/lang/invoke/MethodHandle" ∧ y.cls ≠ "java/lang/invoke/VarHandle") ∧ (parseMethodDescriptor y.desc).map (fun d => d.parameters.length) = some n ∧
    (match r.2.2.2.1 with
       | 0 => Jvm.Cond.methodLink (xnm r.1) r.2.1 y ∈ xtb ∧ Jvm.Cond.static y ∈ xtb
       | 1 => Jvm.Cond.methodLink (xnm r.1) r.2.1 y ∈ xtb ∧ Jvm.Cond.instanceMethod y ∈ xtb ∧ Jvm.Cond.selects y.cls y y ∈ xtb ∧ (xcls[r.2.2.2.2]?).map (fun q => q.1) = some y.cls
       | 2 => Jvm.Cond.methodLink (xnm r.1) r.2.1 y ∈ xtb ∧ Jvm.Cond.instanceMethod y ∈ xtb ∧ y.name = "<init>" ∧ ret = none
       | _ => xnest = (xnm r.1, r.2.1, y) ∧ Jvm.Cond.instanceMethod y ∈ xtb ∧ y.name = "<init>" ∧ ret = none)
theorem xa_c {α : Type} {P : α → Prop} {a : α} {l : List α} (h : P a) (t : ∀ r ∈ l, P r) : ∀ r ∈ a :: l, P r := by
  intro r hr
  rcases List.mem_cons.mp hr with rfl | h1
  · exact h
  · exact t r h1
theorem xa_n {α : Type} {P : α → Prop} : ∀ r ∈ ([] : List α), P r := fun r h => by cases h
theorem xtb_at {w : Jvm.Cond} (i : Nat) (h : lw_tbl[i]? = some w) (hg : xgood w = true) : w ∈ xtb := List.mem_filter.mpr ⟨List.mem_of_getElem? h, hg⟩
theorem xw_in_0 : Jvm.Cond.initialized "ShrinkLayout$Label" ∈ xtb := xtb_at 33 (by decide +kernel) (by decide +kernel)
theorem xw_in_1 : Jvm.Cond.initialized "ShrinkLayout$Part" ∈ xtb := xtb_at 31 (by decide +kernel) (by decide +kernel)
theorem xw_in_2 : Jvm.Cond.initialized "ShrinkLayout$Piece" ∈ xtb := xtb_at 32 (by decide +kernel) (by decide +kernel)
theorem xw_in_3 : Jvm.Cond.initialized "ShrinkLayout" ∈ xtb := xtb_at 29 (by decide +kernel) (by decide +kernel)
theorem xw_in_4 : Jvm.Cond.initialized "ShrinkLayoutModel" ∈ xtb := xtb_at 30 (by decide +kernel) (by decide +kernel)
theorem xw_in_5 : Jvm.Cond.initialized "ShrinkLayoutLaw" ∈ xtb := xtb_at 28 (by decide +kernel) (by decide +kernel)
theorem xw_in_6 : Jvm.Cond.initialized "java/lang/Math" ∈ xtb := xtb_at 34 (by decide +kernel) (by decide +kernel)
theorem xw_c_S_init : Jvm.Cond.code yS_init cS_init 1 none ∈ xtb := xtb_at 39 (by decide +kernel) (by decide +kernel)
theorem xw_i_S_init : Jvm.Cond.instanceMethod yS_init ∈ xtb := xtb_at 38 (by decide +kernel) (by decide +kernel)
theorem xw_c_S_part : Jvm.Cond.code yS_part cS_part 3 (some .int) ∈ xtb := xtb_at 84 (by decide +kernel) (by decide +kernel)
theorem xw_i_S_part : Jvm.Cond.instanceMethod yS_part ∈ xtb := xtb_at 82 (by decide +kernel) (by decide +kernel)
theorem xw_v_S_part : Jvm.Cond.selects "ShrinkLayout" yS_part yS_part ∈ xtb := xtb_at 83 (by decide +kernel) (by decide +kernel)
theorem xw_c_S_isOutput : Jvm.Cond.code yS_isOutput cS_isOutput 1 (some .boolean) ∈ xtb := xtb_at 87 (by decide +kernel) (by decide +kernel)
theorem xw_s_S_isOutput : Jvm.Cond.static yS_isOutput ∈ xtb := xtb_at 86 (by decide +kernel) (by decide +kernel)
theorem xw_c_S_isWithin : Jvm.Cond.code yS_isWithin cS_isWithin 6 (some .boolean) ∈ xtb := xtb_at 91 (by decide +kernel) (by decide +kernel)
theorem xw_s_S_isWithin : Jvm.Cond.static yS_isWithin ∈ xtb := xtb_at 90 (by decide +kernel) (by decide +kernel)
theorem xw_c_S_isPower : Jvm.Cond.code yS_isPower cS_isPower 1 (some .boolean) ∈ xtb := xtb_at 94 (by decide +kernel) (by decide +kernel)
theorem xw_s_S_isPower : Jvm.Cond.static yS_isPower ∈ xtb := xtb_at 93 (by decide +kernel) (by decide +kernel)
theorem xw_c_P_init : Jvm.Cond.code yP_init cP_init 4 none ∈ xtb := xtb_at 99 (by decide +kernel) (by decide +kernel)
theorem xw_i_P_init : Jvm.Cond.instanceMethod yP_init ∈ xtb := xtb_at 98 (by decide +kernel) (by decide +kernel)
theorem xw_c_S_plain : Jvm.Cond.code yS_plain cS_plain 4 (some .int) ∈ xtb := xtb_at 136 (by decide +kernel) (by decide +kernel)
theorem xw_i_S_plain : Jvm.Cond.instanceMethod yS_plain ∈ xtb := xtb_at 134 (by decide +kernel) (by decide +kernel)
theorem xw_v_S_plain : Jvm.Cond.selects "ShrinkLayout" yS_plain yS_plain ∈ xtb := xtb_at 135 (by decide +kernel) (by decide +kernel)
theorem xw_c_Q_init : Jvm.Cond.code yQ_init cQ_init 5 none ∈ xtb := xtb_at 145 (by decide +kernel) (by decide +kernel)
theorem xw_i_Q_init : Jvm.Cond.instanceMethod yQ_init ∈ xtb := xtb_at 144 (by decide +kernel) (by decide +kernel)
theorem xw_c_S_addPiece : Jvm.Cond.code yS_addPiece cS_addPiece 2 (some .int) ∈ xtb := xtb_at 200 (by decide +kernel) (by decide +kernel)
theorem xw_i_S_addPiece : Jvm.Cond.instanceMethod yS_addPiece ∈ xtb := xtb_at 199 (by decide +kernel) (by decide +kernel)
theorem xw_v_S_addPiece : Jvm.Cond.selects "ShrinkLayout" yS_addPiece yS_addPiece ∈ xtb := xtb_at 1 (by decide +kernel) (by decide +kernel)
theorem xw_c_P_append : Jvm.Cond.code yP_append cP_append 2 none ∈ xtb := xtb_at 204 (by decide +kernel) (by decide +kernel)
theorem xw_i_P_append : Jvm.Cond.instanceMethod yP_append ∈ xtb := xtb_at 202 (by decide +kernel) (by decide +kernel)
theorem xw_v_P_append : Jvm.Cond.selects "ShrinkLayout$Part" yP_append yP_append ∈ xtb := xtb_at 203 (by decide +kernel) (by decide +kernel)
theorem xw_c_S_call : Jvm.Cond.code yS_call cS_call 5 (some .int) ∈ xtb := xtb_at 208 (by decide +kernel) (by decide +kernel)
theorem xw_i_S_call : Jvm.Cond.instanceMethod yS_call ∈ xtb := xtb_at 206 (by decide +kernel) (by decide +kernel)
theorem xw_v_S_call : Jvm.Cond.selects "ShrinkLayout" yS_call yS_call ∈ xtb := xtb_at 207 (by decide +kernel) (by decide +kernel)
theorem xw_c_S_addAimed : Jvm.Cond.code yS_addAimed cS_addAimed 8 (some .int) ∈ xtb := xtb_at 212 (by decide +kernel) (by decide +kernel)
theorem xw_i_S_addAimed : Jvm.Cond.instanceMethod yS_addAimed ∈ xtb := xtb_at 211 (by decide +kernel) (by decide +kernel)
theorem xw_v_S_addAimed : Jvm.Cond.selects "ShrinkLayout" yS_addAimed yS_addAimed ∈ xtb := xtb_at 2 (by decide +kernel) (by decide +kernel)
theorem xw_c_Q_init2 : Jvm.Cond.code yQ_init2 cQ_init2 6 none ∈ xtb := xtb_at 219 (by decide +kernel) (by decide +kernel)
theorem xw_i_Q_init2 : Jvm.Cond.instanceMethod yQ_init2 ∈ xtb := xtb_at 218 (by decide +kernel) (by decide +kernel)
theorem xw_c_S_upper : Jvm.Cond.code yS_upper cS_upper 5 (some .int) ∈ xtb := xtb_at 223 (by decide +kernel) (by decide +kernel)
theorem xw_i_S_upper : Jvm.Cond.instanceMethod yS_upper ∈ xtb := xtb_at 221 (by decide +kernel) (by decide +kernel)
theorem xw_v_S_upper : Jvm.Cond.selects "ShrinkLayout" yS_upper yS_upper ∈ xtb := xtb_at 222 (by decide +kernel) (by decide +kernel)
theorem xw_c_S_near : Jvm.Cond.code yS_near cS_near 4 (some .int) ∈ xtb := xtb_at 227 (by decide +kernel) (by decide +kernel)
theorem xw_i_S_near : Jvm.Cond.instanceMethod yS_near ∈ xtb := xtb_at 225 (by decide +kernel) (by decide +kernel)
theorem xw_v_S_near : Jvm.Cond.selects "ShrinkLayout" yS_near yS_near ∈ xtb := xtb_at 226 (by decide +kernel) (by decide +kernel)
theorem xw_c_S_fill : Jvm.Cond.code yS_fill cS_fill 5 (some .int) ∈ xtb := xtb_at 231 (by decide +kernel) (by decide +kernel)
theorem xw_i_S_fill : Jvm.Cond.instanceMethod yS_fill ∈ xtb := xtb_at 229 (by decide +kernel) (by decide +kernel)
theorem xw_v_S_fill : Jvm.Cond.selects "ShrinkLayout" yS_fill yS_fill ∈ xtb := xtb_at 230 (by decide +kernel) (by decide +kernel)
theorem xw_c_S_label : Jvm.Cond.code yS_label cS_label 1 (some .int) ∈ xtb := xtb_at 236 (by decide +kernel) (by decide +kernel)
theorem xw_i_S_label : Jvm.Cond.instanceMethod yS_label ∈ xtb := xtb_at 234 (by decide +kernel) (by decide +kernel)
theorem xw_v_S_label : Jvm.Cond.selects "ShrinkLayout" yS_label yS_label ∈ xtb := xtb_at 235 (by decide +kernel) (by decide +kernel)
theorem xw_c_B_init : Jvm.Cond.code yB_init cB_init 1 none ∈ xtb := xtb_at 240 (by decide +kernel) (by decide +kernel)
theorem xw_i_B_init : Jvm.Cond.instanceMethod yB_init ∈ xtb := xtb_at 239 (by decide +kernel) (by decide +kernel)
theorem xw_c_S_put : Jvm.Cond.code yS_put cS_put 7 (some .boolean) ∈ xtb := xtb_at 252 (by decide +kernel) (by decide +kernel)
theorem xw_i_S_put : Jvm.Cond.instanceMethod yS_put ∈ xtb := xtb_at 250 (by decide +kernel) (by decide +kernel)
theorem xw_v_S_put : Jvm.Cond.selects "ShrinkLayout" yS_put yS_put ∈ xtb := xtb_at 251 (by decide +kernel) (by decide +kernel)
theorem xw_c_S_base : Jvm.Cond.code yS_base cS_base 2 (some .boolean) ∈ xtb := xtb_at 260 (by decide +kernel) (by decide +kernel)
theorem xw_i_S_base : Jvm.Cond.instanceMethod yS_base ∈ xtb := xtb_at 258 (by decide +kernel) (by decide +kernel)
theorem xw_v_S_base : Jvm.Cond.selects "ShrinkLayout" yS_base yS_base ∈ xtb := xtb_at 259 (by decide +kernel) (by decide +kernel)
theorem xw_c_S_align : Jvm.Cond.code yS_align cS_align 3 (some .boolean) ∈ xtb := xtb_at 265 (by decide +kernel) (by decide +kernel)
theorem xw_i_S_align : Jvm.Cond.instanceMethod yS_align ∈ xtb := xtb_at 263 (by decide +kernel) (by decide +kernel)
theorem xw_v_S_align : Jvm.Cond.selects "ShrinkLayout" yS_align yS_align ∈ xtb := xtb_at 264 (by decide +kernel) (by decide +kernel)
theorem xw_c_S_root : Jvm.Cond.code yS_root cS_root 4 (some .boolean) ∈ xtb := xtb_at 269 (by decide +kernel) (by decide +kernel)
theorem xw_i_S_root : Jvm.Cond.instanceMethod yS_root ∈ xtb := xtb_at 267 (by decide +kernel) (by decide +kernel)
theorem xw_v_S_root : Jvm.Cond.selects "ShrinkLayout" yS_root yS_root ∈ xtb := xtb_at 268 (by decide +kernel) (by decide +kernel)
theorem xw_c_S_sweep : Jvm.Cond.code yS_sweep cS_sweep 5 (some .int) ∈ xtb := xtb_at 273 (by decide +kernel) (by decide +kernel)
theorem xw_i_S_sweep : Jvm.Cond.instanceMethod yS_sweep ∈ xtb := xtb_at 271 (by decide +kernel) (by decide +kernel)
theorem xw_v_S_sweep : Jvm.Cond.selects "ShrinkLayout" yS_sweep yS_sweep ∈ xtb := xtb_at 272 (by decide +kernel) (by decide +kernel)
theorem xw_c_S_bringWhatIsLedTo : Jvm.Cond.code yS_bringWhatIsLedTo cS_bringWhatIsLedTo 7 (some .boolean) ∈ xtb := xtb_at 277 (by decide +kernel) (by decide +kernel)
theorem xw_i_S_bringWhatIsLedTo : Jvm.Cond.instanceMethod yS_bringWhatIsLedTo ∈ xtb := xtb_at 276 (by decide +kernel) (by decide +kernel)
theorem xw_v_S_bringWhatIsLedTo : Jvm.Cond.selects "ShrinkLayout" yS_bringWhatIsLedTo yS_bringWhatIsLedTo ∈ xtb := xtb_at 5 (by decide +kernel) (by decide +kernel)
theorem xw_c_S_countGone : Jvm.Cond.code yS_countGone cS_countGone 6 (some .int) ∈ xtb := xtb_at 284 (by decide +kernel) (by decide +kernel)
theorem xw_i_S_countGone : Jvm.Cond.instanceMethod yS_countGone ∈ xtb := xtb_at 283 (by decide +kernel) (by decide +kernel)
theorem xw_v_S_countGone : Jvm.Cond.selects "ShrinkLayout" yS_countGone yS_countGone ∈ xtb := xtb_at 6 (by decide +kernel) (by decide +kernel)
theorem xw_c_S_back : Jvm.Cond.code yS_back cS_back 5 none ∈ xtb := xtb_at 288 (by decide +kernel) (by decide +kernel)
theorem xw_i_S_back : Jvm.Cond.instanceMethod yS_back ∈ xtb := xtb_at 286 (by decide +kernel) (by decide +kernel)
theorem xw_v_S_back : Jvm.Cond.selects "ShrinkLayout" yS_back yS_back ∈ xtb := xtb_at 287 (by decide +kernel) (by decide +kernel)
theorem xw_c_S_pass : Jvm.Cond.code yS_pass cS_pass 1 (some .int) ∈ xtb := xtb_at 292 (by decide +kernel) (by decide +kernel)
theorem xw_i_S_pass : Jvm.Cond.instanceMethod yS_pass ∈ xtb := xtb_at 290 (by decide +kernel) (by decide +kernel)
theorem xw_v_S_pass : Jvm.Cond.selects "ShrinkLayout" yS_pass yS_pass ∈ xtb := xtb_at 291 (by decide +kernel) (by decide +kernel)
theorem xw_c_S_makePass : Jvm.Cond.code yS_makePass cS_makePass 6 (some .int) ∈ xtb := xtb_at 296 (by decide +kernel) (by decide +kernel)
theorem xw_i_S_makePass : Jvm.Cond.instanceMethod yS_makePass ∈ xtb := xtb_at 295 (by decide +kernel) (by decide +kernel)
theorem xw_v_S_makePass : Jvm.Cond.selects "ShrinkLayout" yS_makePass yS_makePass ∈ xtb := xtb_at 7 (by decide +kernel) (by decide +kernel)
theorem xw_c_S_survey : Jvm.Cond.code yS_survey cS_survey 6 none ∈ xtb := xtb_at 300 (by decide +kernel) (by decide +kernel)
theorem xw_i_S_survey : Jvm.Cond.instanceMethod yS_survey ∈ xtb := xtb_at 299 (by decide +kernel) (by decide +kernel)
theorem xw_v_S_survey : Jvm.Cond.selects "ShrinkLayout" yS_survey yS_survey ∈ xtb := xtb_at 8 (by decide +kernel) (by decide +kernel)
theorem xw_c_S_placeOutput : Jvm.Cond.code yS_placeOutput cS_placeOutput 8 (some .int) ∈ xtb := xtb_at 304 (by decide +kernel) (by decide +kernel)
theorem xw_i_S_placeOutput : Jvm.Cond.instanceMethod yS_placeOutput ∈ xtb := xtb_at 303 (by decide +kernel) (by decide +kernel)
theorem xw_v_S_placeOutput : Jvm.Cond.selects "ShrinkLayout" yS_placeOutput yS_placeOutput ∈ xtb := xtb_at 9 (by decide +kernel) (by decide +kernel)
theorem xw_c_S_bytesToMultiple : Jvm.Cond.code yS_bytesToMultiple cS_bytesToMultiple 2 (some .int) ∈ xtb := xtb_at 307 (by decide +kernel) (by decide +kernel)
theorem xw_s_S_bytesToMultiple : Jvm.Cond.static yS_bytesToMultiple ∈ xtb := xtb_at 306 (by decide +kernel) (by decide +kernel)
theorem xw_c_S_placePart : Jvm.Cond.code yS_placePart cS_placePart 4 (some .int) ∈ xtb := xtb_at 310 (by decide +kernel) (by decide +kernel)
theorem xw_s_S_placePart : Jvm.Cond.static yS_placePart ∈ xtb := xtb_at 309 (by decide +kernel) (by decide +kernel)
theorem xw_c_A_min : Jvm.Cond.code yA_min cA_min 2 (some .int) ∈ xtb := xtb_at 313 (by decide +kernel) (by decide +kernel)
theorem xw_s_A_min : Jvm.Cond.static yA_min ∈ xtb := xtb_at 312 (by decide +kernel) (by decide +kernel)
theorem xw_c_S_leastSize : Jvm.Cond.code yS_leastSize cS_leastSize 4 (some .int) ∈ xtb := xtb_at 317 (by decide +kernel) (by decide +kernel)
theorem xw_i_S_leastSize : Jvm.Cond.instanceMethod yS_leastSize ∈ xtb := xtb_at 316 (by decide +kernel) (by decide +kernel)
theorem xw_v_S_leastSize : Jvm.Cond.selects "ShrinkLayout" yS_leastSize yS_leastSize ∈ xtb := xtb_at 10 (by decide +kernel) (by decide +kernel)
theorem xw_c_S_aimOf : Jvm.Cond.code yS_aimOf cS_aimOf 2 (some .long) ∈ xtb := xtb_at 320 (by decide +kernel) (by decide +kernel)
theorem xw_s_S_aimOf : Jvm.Cond.static yS_aimOf ∈ xtb := xtb_at 319 (by decide +kernel) (by decide +kernel)
theorem xw_c_S_valueOf : Jvm.Cond.code yS_valueOf cS_valueOf 2 (some .int) ∈ xtb := xtb_at 324 (by decide +kernel) (by decide +kernel)
theorem xw_s_S_valueOf : Jvm.Cond.static yS_valueOf ∈ xtb := xtb_at 323 (by decide +kernel) (by decide +kernel)
theorem xw_c_S_leastCall : Jvm.Cond.code yS_leastCall cS_leastCall 4 (some .int) ∈ xtb := xtb_at 327 (by decide +kernel) (by decide +kernel)
theorem xw_s_S_leastCall : Jvm.Cond.static yS_leastCall ∈ xtb := xtb_at 326 (by decide +kernel) (by decide +kernel)
theorem xw_c_S_leastLoad : Jvm.Cond.code yS_leastLoad cS_leastLoad 5 (some .int) ∈ xtb := xtb_at 334 (by decide +kernel) (by decide +kernel)
theorem xw_s_S_leastLoad : Jvm.Cond.static yS_leastLoad ∈ xtb := xtb_at 333 (by decide +kernel) (by decide +kernel)
theorem xw_c_A_floorDiv : Jvm.Cond.code yA_floorDiv cA_floorDiv 6 (some .long) ∈ xtb := xtb_at 339 (by decide +kernel) (by decide +kernel)
theorem xw_s_A_floorDiv : Jvm.Cond.static yA_floorDiv ∈ xtb := xtb_at 338 (by decide +kernel) (by decide +kernel)
theorem xw_c_S_shrink : Jvm.Cond.code yS_shrink cS_shrink 1 (some .int) ∈ xtb := xtb_at 344 (by decide +kernel) (by decide +kernel)
theorem xw_i_S_shrink : Jvm.Cond.instanceMethod yS_shrink ∈ xtb := xtb_at 342 (by decide +kernel) (by decide +kernel)
theorem xw_v_S_shrink : Jvm.Cond.selects "ShrinkLayout" yS_shrink yS_shrink ∈ xtb := xtb_at 343 (by decide +kernel) (by decide +kernel)
theorem xw_c_S_makePasses : Jvm.Cond.code yS_makePasses cS_makePasses 3 (some .int) ∈ xtb := xtb_at 348 (by decide +kernel) (by decide +kernel)
theorem xw_i_S_makePasses : Jvm.Cond.instanceMethod yS_makePasses ∈ xtb := xtb_at 347 (by decide +kernel) (by decide +kernel)
theorem xw_v_S_makePasses : Jvm.Cond.selects "ShrinkLayout" yS_makePasses yS_makePasses ∈ xtb := xtb_at 11 (by decide +kernel) (by decide +kernel)
theorem xw_c_S_settle : Jvm.Cond.code yS_settle cS_settle 4 (some .int) ∈ xtb := xtb_at 352 (by decide +kernel) (by decide +kernel)
theorem xw_i_S_settle : Jvm.Cond.instanceMethod yS_settle ∈ xtb := xtb_at 350 (by decide +kernel) (by decide +kernel)
theorem xw_v_S_settle : Jvm.Cond.selects "ShrinkLayout" yS_settle yS_settle ∈ xtb := xtb_at 351 (by decide +kernel) (by decide +kernel)
theorem xw_c_S_fixWhatDoesNotHold : Jvm.Cond.code yS_fixWhatDoesNotHold cS_fixWhatDoesNotHold 6 (some .int) ∈ xtb := xtb_at 356 (by decide +kernel) (by decide +kernel)
theorem xw_i_S_fixWhatDoesNotHold : Jvm.Cond.instanceMethod yS_fixWhatDoesNotHold ∈ xtb := xtb_at 355 (by decide +kernel) (by decide +kernel)
theorem xw_v_S_fixWhatDoesNotHold : Jvm.Cond.selects "ShrinkLayout" yS_fixWhatDoesNotHold yS_fixWhatDoesNotHold ∈ xtb := xtb_at 12 (by decide +kernel) (by decide +kernel)
theorem xw_c_S_reset : Jvm.Cond.code yS_reset cS_reset 5 none ∈ xtb := xtb_at 360 (by decide +kernel) (by decide +kernel)
theorem xw_i_S_reset : Jvm.Cond.instanceMethod yS_reset ∈ xtb := xtb_at 358 (by decide +kernel) (by decide +kernel)
theorem xw_v_S_reset : Jvm.Cond.selects "ShrinkLayout" yS_reset yS_reset ∈ xtb := xtb_at 359 (by decide +kernel) (by decide +kernel)
theorem xw_c_S_holds : Jvm.Cond.code yS_holds cS_holds 3 (some .int) ∈ xtb := xtb_at 364 (by decide +kernel) (by decide +kernel)
theorem xw_i_S_holds : Jvm.Cond.instanceMethod yS_holds ∈ xtb := xtb_at 362 (by decide +kernel) (by decide +kernel)
theorem xw_v_S_holds : Jvm.Cond.selects "ShrinkLayout" yS_holds yS_holds ∈ xtb := xtb_at 363 (by decide +kernel) (by decide +kernel)
theorem xw_c_S_lacks : Jvm.Cond.code yS_lacks cS_lacks 3 (some .int) ∈ xtb := xtb_at 368 (by decide +kernel) (by decide +kernel)
theorem xw_i_S_lacks : Jvm.Cond.instanceMethod yS_lacks ∈ xtb := xtb_at 366 (by decide +kernel) (by decide +kernel)
theorem xw_v_S_lacks : Jvm.Cond.selects "ShrinkLayout" yS_lacks yS_lacks ∈ xtb := xtb_at 367 (by decide +kernel) (by decide +kernel)
theorem xw_c_S_piece : Jvm.Cond.code yS_piece cS_piece 5 (some .int) ∈ xtb := xtb_at 372 (by decide +kernel) (by decide +kernel)
theorem xw_i_S_piece : Jvm.Cond.instanceMethod yS_piece ∈ xtb := xtb_at 370 (by decide +kernel) (by decide +kernel)
theorem xw_v_S_piece : Jvm.Cond.selects "ShrinkLayout" yS_piece yS_piece ∈ xtb := xtb_at 371 (by decide +kernel) (by decide +kernel)
theorem xw_c_S_aim : Jvm.Cond.code yS_aim cS_aim 3 (some .long) ∈ xtb := xtb_at 376 (by decide +kernel) (by decide +kernel)
theorem xw_i_S_aim : Jvm.Cond.instanceMethod yS_aim ∈ xtb := xtb_at 374 (by decide +kernel) (by decide +kernel)
theorem xw_v_S_aim : Jvm.Cond.selects "ShrinkLayout" yS_aim yS_aim ∈ xtb := xtb_at 375 (by decide +kernel) (by decide +kernel)
theorem xw_c_S_value : Jvm.Cond.code yS_value cS_value 3 (some .int) ∈ xtb := xtb_at 380 (by decide +kernel) (by decide +kernel)
theorem xw_i_S_value : Jvm.Cond.instanceMethod yS_value ∈ xtb := xtb_at 378 (by decide +kernel) (by decide +kernel)
theorem xw_v_S_value : Jvm.Cond.selects "ShrinkLayout" yS_value yS_value ∈ xtb := xtb_at 379 (by decide +kernel) (by decide +kernel)
theorem xw_c_S_span : Jvm.Cond.code yS_span cS_span 4 (some .int) ∈ xtb := xtb_at 384 (by decide +kernel) (by decide +kernel)
theorem xw_i_S_span : Jvm.Cond.instanceMethod yS_span ∈ xtb := xtb_at 382 (by decide +kernel) (by decide +kernel)
theorem xw_v_S_span : Jvm.Cond.selects "ShrinkLayout" yS_span yS_span ∈ xtb := xtb_at 383 (by decide +kernel) (by decide +kernel)
theorem xw_c_S_output : Jvm.Cond.code yS_output cS_output 3 (some .int) ∈ xtb := xtb_at 388 (by decide +kernel) (by decide +kernel)
theorem xw_i_S_output : Jvm.Cond.instanceMethod yS_output ∈ xtb := xtb_at 386 (by decide +kernel) (by decide +kernel)
theorem xw_v_S_output : Jvm.Cond.selects "ShrinkLayout" yS_output yS_output ∈ xtb := xtb_at 387 (by decide +kernel) (by decide +kernel)
theorem xw_c_S_saved : Jvm.Cond.code yS_saved cS_saved 6 (some .int) ∈ xtb := xtb_at 392 (by decide +kernel) (by decide +kernel)
theorem xw_i_S_saved : Jvm.Cond.instanceMethod yS_saved ∈ xtb := xtb_at 390 (by decide +kernel) (by decide +kernel)
theorem xw_v_S_saved : Jvm.Cond.selects "ShrinkLayout" yS_saved yS_saved ∈ xtb := xtb_at 391 (by decide +kernel) (by decide +kernel)
theorem xw_c_M_init : Jvm.Cond.code yM_init cM_init 1 none ∈ xtb := xtb_at 397 (by decide +kernel) (by decide +kernel)
theorem xw_i_M_init : Jvm.Cond.instanceMethod yM_init ∈ xtb := xtb_at 396 (by decide +kernel) (by decide +kernel)
theorem xw_c_M_part : Jvm.Cond.code yM_part cM_part 3 (some .int) ∈ xtb := xtb_at 488 (by decide +kernel) (by decide +kernel)
theorem xw_i_M_part : Jvm.Cond.instanceMethod yM_part ∈ xtb := xtb_at 486 (by decide +kernel) (by decide +kernel)
theorem xw_v_M_part : Jvm.Cond.selects "ShrinkLayoutModel" yM_part yM_part ∈ xtb := xtb_at 487 (by decide +kernel) (by decide +kernel)
theorem xw_c_M_within : Jvm.Cond.code yM_within cM_within 3 (some .boolean) ∈ xtb := xtb_at 491 (by decide +kernel) (by decide +kernel)
theorem xw_s_M_within : Jvm.Cond.static yM_within ∈ xtb := xtb_at 490 (by decide +kernel) (by decide +kernel)
theorem xw_c_M_plain : Jvm.Cond.code yM_plain cM_plain 3 (some .int) ∈ xtb := xtb_at 495 (by decide +kernel) (by decide +kernel)
theorem xw_i_M_plain : Jvm.Cond.instanceMethod yM_plain ∈ xtb := xtb_at 493 (by decide +kernel) (by decide +kernel)
theorem xw_v_M_plain : Jvm.Cond.selects "ShrinkLayoutModel" yM_plain yM_plain ∈ xtb := xtb_at 494 (by decide +kernel) (by decide +kernel)
theorem xw_c_M_isPart : Jvm.Cond.code yM_isPart cM_isPart 2 (some .boolean) ∈ xtb := xtb_at 499 (by decide +kernel) (by decide +kernel)
theorem xw_i_M_isPart : Jvm.Cond.instanceMethod yM_isPart ∈ xtb := xtb_at 498 (by decide +kernel) (by decide +kernel)
theorem xw_v_M_isPart : Jvm.Cond.selects "ShrinkLayoutModel" yM_isPart yM_isPart ∈ xtb := xtb_at 13 (by decide +kernel) (by decide +kernel)
theorem xw_c_M_added : Jvm.Cond.code yM_added cM_added 4 (some .int) ∈ xtb := xtb_at 504 (by decide +kernel) (by decide +kernel)
theorem xw_i_M_added : Jvm.Cond.instanceMethod yM_added ∈ xtb := xtb_at 503 (by decide +kernel) (by decide +kernel)
theorem xw_v_M_added : Jvm.Cond.selects "ShrinkLayoutModel" yM_added yM_added ∈ xtb := xtb_at 14 (by decide +kernel) (by decide +kernel)
theorem xw_c_M_call : Jvm.Cond.code yM_call cM_call 5 (some .int) ∈ xtb := xtb_at 508 (by decide +kernel) (by decide +kernel)
theorem xw_i_M_call : Jvm.Cond.instanceMethod yM_call ∈ xtb := xtb_at 506 (by decide +kernel) (by decide +kernel)
theorem xw_v_M_call : Jvm.Cond.selects "ShrinkLayoutModel" yM_call yM_call ∈ xtb := xtb_at 507 (by decide +kernel) (by decide +kernel)
theorem xw_c_M_aimed : Jvm.Cond.code yM_aimed cM_aimed 6 (some .int) ∈ xtb := xtb_at 512 (by decide +kernel) (by decide +kernel)
theorem xw_i_M_aimed : Jvm.Cond.instanceMethod yM_aimed ∈ xtb := xtb_at 511 (by decide +kernel) (by decide +kernel)
theorem xw_v_M_aimed : Jvm.Cond.selects "ShrinkLayoutModel" yM_aimed yM_aimed ∈ xtb := xtb_at 15 (by decide +kernel) (by decide +kernel)
theorem xw_c_M_isLabel : Jvm.Cond.code yM_isLabel cM_isLabel 2 (some .boolean) ∈ xtb := xtb_at 516 (by decide +kernel) (by decide +kernel)
theorem xw_i_M_isLabel : Jvm.Cond.instanceMethod yM_isLabel ∈ xtb := xtb_at 515 (by decide +kernel) (by decide +kernel)
theorem xw_v_M_isLabel : Jvm.Cond.selects "ShrinkLayoutModel" yM_isLabel yM_isLabel ∈ xtb := xtb_at 16 (by decide +kernel) (by decide +kernel)
theorem xw_c_M_greatest : Jvm.Cond.code yM_greatest cM_greatest 1 (some .int) ∈ xtb := xtb_at 519 (by decide +kernel) (by decide +kernel)
theorem xw_s_M_greatest : Jvm.Cond.static yM_greatest ∈ xtb := xtb_at 518 (by decide +kernel) (by decide +kernel)
theorem xw_c_M_upper : Jvm.Cond.code yM_upper cM_upper 5 (some .int) ∈ xtb := xtb_at 523 (by decide +kernel) (by decide +kernel)
theorem xw_i_M_upper : Jvm.Cond.instanceMethod yM_upper ∈ xtb := xtb_at 521 (by decide +kernel) (by decide +kernel)
theorem xw_v_M_upper : Jvm.Cond.selects "ShrinkLayoutModel" yM_upper yM_upper ∈ xtb := xtb_at 522 (by decide +kernel) (by decide +kernel)
theorem xw_c_M_near : Jvm.Cond.code yM_near cM_near 4 (some .int) ∈ xtb := xtb_at 527 (by decide +kernel) (by decide +kernel)
theorem xw_i_M_near : Jvm.Cond.instanceMethod yM_near ∈ xtb := xtb_at 525 (by decide +kernel) (by decide +kernel)
theorem xw_v_M_near : Jvm.Cond.selects "ShrinkLayoutModel" yM_near yM_near ∈ xtb := xtb_at 526 (by decide +kernel) (by decide +kernel)
theorem xw_c_M_fill : Jvm.Cond.code yM_fill cM_fill 4 (some .int) ∈ xtb := xtb_at 531 (by decide +kernel) (by decide +kernel)
theorem xw_i_M_fill : Jvm.Cond.instanceMethod yM_fill ∈ xtb := xtb_at 529 (by decide +kernel) (by decide +kernel)
theorem xw_v_M_fill : Jvm.Cond.selects "ShrinkLayoutModel" yM_fill yM_fill ∈ xtb := xtb_at 530 (by decide +kernel) (by decide +kernel)
theorem xw_c_M_label : Jvm.Cond.code yM_label cM_label 1 (some .int) ∈ xtb := xtb_at 535 (by decide +kernel) (by decide +kernel)
theorem xw_i_M_label : Jvm.Cond.instanceMethod yM_label ∈ xtb := xtb_at 533 (by decide +kernel) (by decide +kernel)
theorem xw_v_M_label : Jvm.Cond.selects "ShrinkLayoutModel" yM_label yM_label ∈ xtb := xtb_at 534 (by decide +kernel) (by decide +kernel)
theorem xw_c_M_put : Jvm.Cond.code yM_put cM_put 4 (some .boolean) ∈ xtb := xtb_at 539 (by decide +kernel) (by decide +kernel)
theorem xw_i_M_put : Jvm.Cond.instanceMethod yM_put ∈ xtb := xtb_at 537 (by decide +kernel) (by decide +kernel)
theorem xw_v_M_put : Jvm.Cond.selects "ShrinkLayoutModel" yM_put yM_put ∈ xtb := xtb_at 538 (by decide +kernel) (by decide +kernel)
theorem xw_c_M_isPiece : Jvm.Cond.code yM_isPiece cM_isPiece 2 (some .boolean) ∈ xtb := xtb_at 543 (by decide +kernel) (by decide +kernel)
theorem xw_i_M_isPiece : Jvm.Cond.instanceMethod yM_isPiece ∈ xtb := xtb_at 542 (by decide +kernel) (by decide +kernel)
theorem xw_v_M_isPiece : Jvm.Cond.selects "ShrinkLayoutModel" yM_isPiece yM_isPiece ∈ xtb := xtb_at 17 (by decide +kernel) (by decide +kernel)
theorem xw_c_M_base : Jvm.Cond.code yM_base cM_base 2 (some .boolean) ∈ xtb := xtb_at 547 (by decide +kernel) (by decide +kernel)
theorem xw_i_M_base : Jvm.Cond.instanceMethod yM_base ∈ xtb := xtb_at 545 (by decide +kernel) (by decide +kernel)
theorem xw_v_M_base : Jvm.Cond.selects "ShrinkLayoutModel" yM_base yM_base ∈ xtb := xtb_at 546 (by decide +kernel) (by decide +kernel)
theorem xw_c_M_align : Jvm.Cond.code yM_align cM_align 3 (some .boolean) ∈ xtb := xtb_at 552 (by decide +kernel) (by decide +kernel)
theorem xw_i_M_align : Jvm.Cond.instanceMethod yM_align ∈ xtb := xtb_at 550 (by decide +kernel) (by decide +kernel)
theorem xw_v_M_align : Jvm.Cond.selects "ShrinkLayoutModel" yM_align yM_align ∈ xtb := xtb_at 551 (by decide +kernel) (by decide +kernel)
theorem xw_c_M_root : Jvm.Cond.code yM_root cM_root 3 (some .boolean) ∈ xtb := xtb_at 556 (by decide +kernel) (by decide +kernel)
theorem xw_i_M_root : Jvm.Cond.instanceMethod yM_root ∈ xtb := xtb_at 554 (by decide +kernel) (by decide +kernel)
theorem xw_v_M_root : Jvm.Cond.selects "ShrinkLayoutModel" yM_root yM_root ∈ xtb := xtb_at 555 (by decide +kernel) (by decide +kernel)
theorem xw_c_M_sweep : Jvm.Cond.code yM_sweep cM_sweep 4 (some .int) ∈ xtb := xtb_at 560 (by decide +kernel) (by decide +kernel)
theorem xw_i_M_sweep : Jvm.Cond.instanceMethod yM_sweep ∈ xtb := xtb_at 558 (by decide +kernel) (by decide +kernel)
theorem xw_v_M_sweep : Jvm.Cond.selects "ShrinkLayoutModel" yM_sweep yM_sweep ∈ xtb := xtb_at 559 (by decide +kernel) (by decide +kernel)
theorem xw_c_M_shrinks : Jvm.Cond.code yM_shrinks cM_shrinks 2 (some .boolean) ∈ xtb := xtb_at 564 (by decide +kernel) (by decide +kernel)
theorem xw_i_M_shrinks : Jvm.Cond.instanceMethod yM_shrinks ∈ xtb := xtb_at 563 (by decide +kernel) (by decide +kernel)
theorem xw_v_M_shrinks : Jvm.Cond.selects "ShrinkLayoutModel" yM_shrinks yM_shrinks ∈ xtb := xtb_at 18 (by decide +kernel) (by decide +kernel)
theorem xw_c_M_back : Jvm.Cond.code yM_back cM_back 2 none ∈ xtb := xtb_at 568 (by decide +kernel) (by decide +kernel)
theorem xw_i_M_back : Jvm.Cond.instanceMethod yM_back ∈ xtb := xtb_at 566 (by decide +kernel) (by decide +kernel)
theorem xw_v_M_back : Jvm.Cond.selects "ShrinkLayoutModel" yM_back yM_back ∈ xtb := xtb_at 567 (by decide +kernel) (by decide +kernel)
theorem xw_c_M_pass : Jvm.Cond.code yM_pass cM_pass 3 (some .int) ∈ xtb := xtb_at 572 (by decide +kernel) (by decide +kernel)
theorem xw_i_M_pass : Jvm.Cond.instanceMethod yM_pass ∈ xtb := xtb_at 570 (by decide +kernel) (by decide +kernel)
theorem xw_v_M_pass : Jvm.Cond.selects "ShrinkLayoutModel" yM_pass yM_pass ∈ xtb := xtb_at 571 (by decide +kernel) (by decide +kernel)
theorem xw_c_M_reckon : Jvm.Cond.code yM_reckon cM_reckon 4 none ∈ xtb := xtb_at 576 (by decide +kernel) (by decide +kernel)
theorem xw_i_M_reckon : Jvm.Cond.instanceMethod yM_reckon ∈ xtb := xtb_at 575 (by decide +kernel) (by decide +kernel)
theorem xw_v_M_reckon : Jvm.Cond.selects "ShrinkLayoutModel" yM_reckon yM_reckon ∈ xtb := xtb_at 19 (by decide +kernel) (by decide +kernel)
theorem xw_c_M_roundUp : Jvm.Cond.code yM_roundUp cM_roundUp 2 (some .int) ∈ xtb := xtb_at 579 (by decide +kernel) (by decide +kernel)
theorem xw_s_M_roundUp : Jvm.Cond.static yM_roundUp ∈ xtb := xtb_at 578 (by decide +kernel) (by decide +kernel)
theorem xw_c_M_lay : Jvm.Cond.code yM_lay cM_lay 6 (some .int) ∈ xtb := xtb_at 583 (by decide +kernel) (by decide +kernel)
theorem xw_i_M_lay : Jvm.Cond.instanceMethod yM_lay ∈ xtb := xtb_at 582 (by decide +kernel) (by decide +kernel)
theorem xw_v_M_lay : Jvm.Cond.selects "ShrinkLayoutModel" yM_lay yM_lay ∈ xtb := xtb_at 20 (by decide +kernel) (by decide +kernel)
theorem xw_c_M_leastOf : Jvm.Cond.code yM_leastOf cM_leastOf 7 (some .int) ∈ xtb := xtb_at 587 (by decide +kernel) (by decide +kernel)
theorem xw_i_M_leastOf : Jvm.Cond.instanceMethod yM_leastOf ∈ xtb := xtb_at 586 (by decide +kernel) (by decide +kernel)
theorem xw_v_M_leastOf : Jvm.Cond.selects "ShrinkLayoutModel" yM_leastOf yM_leastOf ∈ xtb := xtb_at 21 (by decide +kernel) (by decide +kernel)
theorem xw_c_M_hasAim : Jvm.Cond.code yM_hasAim cM_hasAim 2 (some .boolean) ∈ xtb := xtb_at 591 (by decide +kernel) (by decide +kernel)
theorem xw_i_M_hasAim : Jvm.Cond.instanceMethod yM_hasAim ∈ xtb := xtb_at 590 (by decide +kernel) (by decide +kernel)
theorem xw_v_M_hasAim : Jvm.Cond.selects "ShrinkLayoutModel" yM_hasAim yM_hasAim ∈ xtb := xtb_at 22 (by decide +kernel) (by decide +kernel)
theorem xw_c_M_hasValue : Jvm.Cond.code yM_hasValue cM_hasValue 2 (some .boolean) ∈ xtb := xtb_at 595 (by decide +kernel) (by decide +kernel)
theorem xw_i_M_hasValue : Jvm.Cond.instanceMethod yM_hasValue ∈ xtb := xtb_at 594 (by decide +kernel) (by decide +kernel)
theorem xw_v_M_hasValue : Jvm.Cond.selects "ShrinkLayoutModel" yM_hasValue yM_hasValue ∈ xtb := xtb_at 23 (by decide +kernel) (by decide +kernel)
theorem xw_c_M_isGone : Jvm.Cond.code yM_isGone cM_isGone 2 (some .boolean) ∈ xtb := xtb_at 599 (by decide +kernel) (by decide +kernel)
theorem xw_i_M_isGone : Jvm.Cond.instanceMethod yM_isGone ∈ xtb := xtb_at 598 (by decide +kernel) (by decide +kernel)
theorem xw_v_M_isGone : Jvm.Cond.selects "ShrinkLayoutModel" yM_isGone yM_isGone ∈ xtb := xtb_at 24 (by decide +kernel) (by decide +kernel)
theorem xw_c_M_aimOf : Jvm.Cond.code yM_aimOf cM_aimOf 2 (some .long) ∈ xtb := xtb_at 603 (by decide +kernel) (by decide +kernel)
theorem xw_i_M_aimOf : Jvm.Cond.instanceMethod yM_aimOf ∈ xtb := xtb_at 602 (by decide +kernel) (by decide +kernel)
theorem xw_v_M_aimOf : Jvm.Cond.selects "ShrinkLayoutModel" yM_aimOf yM_aimOf ∈ xtb := xtb_at 25 (by decide +kernel) (by decide +kernel)
theorem xw_c_M_valueOf : Jvm.Cond.code yM_valueOf cM_valueOf 3 (some .int) ∈ xtb := xtb_at 607 (by decide +kernel) (by decide +kernel)
theorem xw_i_M_valueOf : Jvm.Cond.instanceMethod yM_valueOf ∈ xtb := xtb_at 606 (by decide +kernel) (by decide +kernel)
theorem xw_v_M_valueOf : Jvm.Cond.selects "ShrinkLayoutModel" yM_valueOf yM_valueOf ∈ xtb := xtb_at 26 (by decide +kernel) (by decide +kernel)
theorem xw_c_M_isNear : Jvm.Cond.code yM_isNear cM_isNear 2 (some .boolean) ∈ xtb := xtb_at 611 (by decide +kernel) (by decide +kernel)
theorem xw_s_M_isNear : Jvm.Cond.static yM_isNear ∈ xtb := xtb_at 610 (by decide +kernel) (by decide +kernel)
theorem xw_c_M_shrink : Jvm.Cond.code yM_shrink cM_shrink 2 (some .int) ∈ xtb := xtb_at 622 (by decide +kernel) (by decide +kernel)
theorem xw_i_M_shrink : Jvm.Cond.instanceMethod yM_shrink ∈ xtb := xtb_at 620 (by decide +kernel) (by decide +kernel)
theorem xw_v_M_shrink : Jvm.Cond.selects "ShrinkLayoutModel" yM_shrink yM_shrink ∈ xtb := xtb_at 621 (by decide +kernel) (by decide +kernel)
theorem xw_c_M_settle : Jvm.Cond.code yM_settle cM_settle 5 (some .int) ∈ xtb := xtb_at 627 (by decide +kernel) (by decide +kernel)
theorem xw_i_M_settle : Jvm.Cond.instanceMethod yM_settle ∈ xtb := xtb_at 625 (by decide +kernel) (by decide +kernel)
theorem xw_v_M_settle : Jvm.Cond.selects "ShrinkLayoutModel" yM_settle yM_settle ∈ xtb := xtb_at 626 (by decide +kernel) (by decide +kernel)
theorem xw_c_M_isTight : Jvm.Cond.code yM_isTight cM_isTight 2 (some .boolean) ∈ xtb := xtb_at 632 (by decide +kernel) (by decide +kernel)
theorem xw_i_M_isTight : Jvm.Cond.instanceMethod yM_isTight ∈ xtb := xtb_at 631 (by decide +kernel) (by decide +kernel)
theorem xw_v_M_isTight : Jvm.Cond.selects "ShrinkLayoutModel" yM_isTight yM_isTight ∈ xtb := xtb_at 27 (by decide +kernel) (by decide +kernel)
theorem xw_c_M_reset : Jvm.Cond.code yM_reset cM_reset 2 none ∈ xtb := xtb_at 636 (by decide +kernel) (by decide +kernel)
theorem xw_i_M_reset : Jvm.Cond.instanceMethod yM_reset ∈ xtb := xtb_at 634 (by decide +kernel) (by decide +kernel)
theorem xw_v_M_reset : Jvm.Cond.selects "ShrinkLayoutModel" yM_reset yM_reset ∈ xtb := xtb_at 635 (by decide +kernel) (by decide +kernel)
theorem xw_c_M_holds : Jvm.Cond.code yM_holds cM_holds 2 (some .int) ∈ xtb := xtb_at 640 (by decide +kernel) (by decide +kernel)
theorem xw_i_M_holds : Jvm.Cond.instanceMethod yM_holds ∈ xtb := xtb_at 638 (by decide +kernel) (by decide +kernel)
theorem xw_v_M_holds : Jvm.Cond.selects "ShrinkLayoutModel" yM_holds yM_holds ∈ xtb := xtb_at 639 (by decide +kernel) (by decide +kernel)
theorem xw_c_M_lacks : Jvm.Cond.code yM_lacks cM_lacks 2 (some .int) ∈ xtb := xtb_at 644 (by decide +kernel) (by decide +kernel)
theorem xw_i_M_lacks : Jvm.Cond.instanceMethod yM_lacks ∈ xtb := xtb_at 642 (by decide +kernel) (by decide +kernel)
theorem xw_v_M_lacks : Jvm.Cond.selects "ShrinkLayoutModel" yM_lacks yM_lacks ∈ xtb := xtb_at 643 (by decide +kernel) (by decide +kernel)
theorem xw_c_M_piece : Jvm.Cond.code yM_piece cM_piece 4 (some .int) ∈ xtb := xtb_at 648 (by decide +kernel) (by decide +kernel)
theorem xw_i_M_piece : Jvm.Cond.instanceMethod yM_piece ∈ xtb := xtb_at 646 (by decide +kernel) (by decide +kernel)
theorem xw_v_M_piece : Jvm.Cond.selects "ShrinkLayoutModel" yM_piece yM_piece ∈ xtb := xtb_at 647 (by decide +kernel) (by decide +kernel)
theorem xw_c_M_aim : Jvm.Cond.code yM_aim cM_aim 2 (some .long) ∈ xtb := xtb_at 652 (by decide +kernel) (by decide +kernel)
theorem xw_i_M_aim : Jvm.Cond.instanceMethod yM_aim ∈ xtb := xtb_at 650 (by decide +kernel) (by decide +kernel)
theorem xw_v_M_aim : Jvm.Cond.selects "ShrinkLayoutModel" yM_aim yM_aim ∈ xtb := xtb_at 651 (by decide +kernel) (by decide +kernel)
theorem xw_c_M_value : Jvm.Cond.code yM_value cM_value 2 (some .int) ∈ xtb := xtb_at 657 (by decide +kernel) (by decide +kernel)
theorem xw_i_M_value : Jvm.Cond.instanceMethod yM_value ∈ xtb := xtb_at 655 (by decide +kernel) (by decide +kernel)
theorem xw_v_M_value : Jvm.Cond.selects "ShrinkLayoutModel" yM_value yM_value ∈ xtb := xtb_at 656 (by decide +kernel) (by decide +kernel)
theorem xw_c_M_span : Jvm.Cond.code yM_span cM_span 3 (some .int) ∈ xtb := xtb_at 661 (by decide +kernel) (by decide +kernel)
theorem xw_i_M_span : Jvm.Cond.instanceMethod yM_span ∈ xtb := xtb_at 659 (by decide +kernel) (by decide +kernel)
theorem xw_v_M_span : Jvm.Cond.selects "ShrinkLayoutModel" yM_span yM_span ∈ xtb := xtb_at 660 (by decide +kernel) (by decide +kernel)
theorem xw_c_M_output : Jvm.Cond.code yM_output cM_output 3 (some .int) ∈ xtb := xtb_at 665 (by decide +kernel) (by decide +kernel)
theorem xw_i_M_output : Jvm.Cond.instanceMethod yM_output ∈ xtb := xtb_at 663 (by decide +kernel) (by decide +kernel)
theorem xw_v_M_output : Jvm.Cond.selects "ShrinkLayoutModel" yM_output yM_output ∈ xtb := xtb_at 664 (by decide +kernel) (by decide +kernel)
theorem xw_c_M_saved : Jvm.Cond.code yM_saved cM_saved 3 (some .int) ∈ xtb := xtb_at 669 (by decide +kernel) (by decide +kernel)
theorem xw_i_M_saved : Jvm.Cond.instanceMethod yM_saved ∈ xtb := xtb_at 667 (by decide +kernel) (by decide +kernel)
theorem xw_v_M_saved : Jvm.Cond.selects "ShrinkLayoutModel" yM_saved yM_saved ∈ xtb := xtb_at 668 (by decide +kernel) (by decide +kernel)
theorem xw_c_S_partAt : Jvm.Cond.code yS_partAt cS_partAt 2 (some (.object "ShrinkLayout$Part")) ∈ xtb := xtb_at 140 (by decide +kernel) (by decide +kernel)
theorem xw_i_S_partAt : Jvm.Cond.instanceMethod yS_partAt ∈ xtb := xtb_at 139 (by decide +kernel) (by decide +kernel)
theorem xw_v_S_partAt : Jvm.Cond.selects "ShrinkLayout" yS_partAt yS_partAt ∈ xtb := xtb_at 0 (by decide +kernel) (by decide +kernel)
theorem xw_c_S_labelAt : Jvm.Cond.code yS_labelAt cS_labelAt 2 (some (.object "ShrinkLayout$Label")) ∈ xtb := xtb_at 216 (by decide +kernel) (by decide +kernel)
theorem xw_i_S_labelAt : Jvm.Cond.instanceMethod yS_labelAt ∈ xtb := xtb_at 215 (by decide +kernel) (by decide +kernel)
theorem xw_v_S_labelAt : Jvm.Cond.selects "ShrinkLayout" yS_labelAt yS_labelAt ∈ xtb := xtb_at 3 (by decide +kernel) (by decide +kernel)
theorem xw_c_S_pieceAt : Jvm.Cond.code yS_pieceAt cS_pieceAt 2 (some (.object "ShrinkLayout$Piece")) ∈ xtb := xtb_at 256 (by decide +kernel) (by decide +kernel)
theorem xw_i_S_pieceAt : Jvm.Cond.instanceMethod yS_pieceAt ∈ xtb := xtb_at 255 (by decide +kernel) (by decide +kernel)
theorem xw_v_S_pieceAt : Jvm.Cond.selects "ShrinkLayout" yS_pieceAt yS_pieceAt ∈ xtb := xtb_at 4 (by decide +kernel) (by decide +kernel)
theorem xw_c_S_partLedTo : Jvm.Cond.code yS_partLedTo cS_partLedTo 1 (some (.object "ShrinkLayout$Part")) ∈ xtb := xtb_at 280 (by decide +kernel) (by decide +kernel)
theorem xw_s_S_partLedTo : Jvm.Cond.static yS_partLedTo ∈ xtb := xtb_at 279 (by decide +kernel) (by decide +kernel)
theorem xw_l_3_41 : Jvm.Cond.methodLink "ShrinkLayout" 41 yS_isOutput ∈ xtb := xtb_at 85 (by decide +kernel) (by decide +kernel)
theorem xw_l_3_45 : Jvm.Cond.methodLink "ShrinkLayout" 45 yS_isPower ∈ xtb := xtb_at 92 (by decide +kernel) (by decide +kernel)
theorem xw_l_3_48 : Jvm.Cond.methodLink "ShrinkLayout" 48 yP_init ∈ xtb := xtb_at 97 (by decide +kernel) (by decide +kernel)
theorem xw_l_3_51 : Jvm.Cond.methodLink "ShrinkLayout" 51 yS_partAt ∈ xtb := xtb_at 137 (by decide +kernel) (by decide +kernel)
theorem xw_l_3_57 : Jvm.Cond.methodLink "ShrinkLayout" 57 yS_isWithin ∈ xtb := xtb_at 89 (by decide +kernel) (by decide +kernel)
theorem xw_l_3_61 : Jvm.Cond.methodLink "ShrinkLayout" 61 yQ_init ∈ xtb := xtb_at 143 (by decide +kernel) (by decide +kernel)
theorem xw_l_3_64 : Jvm.Cond.methodLink "ShrinkLayout" 64 yS_addPiece ∈ xtb := xtb_at 197 (by decide +kernel) (by decide +kernel)
theorem xw_l_3_68 : Jvm.Cond.methodLink "ShrinkLayout" 68 yS_addAimed ∈ xtb := xtb_at 209 (by decide +kernel) (by decide +kernel)
theorem xw_l_3_78 : Jvm.Cond.methodLink "ShrinkLayout" 78 yS_labelAt ∈ xtb := xtb_at 213 (by decide +kernel) (by decide +kernel)
theorem xw_l_3_82 : Jvm.Cond.methodLink "ShrinkLayout" 82 yS_pieceAt ∈ xtb := xtb_at 253 (by decide +kernel) (by decide +kernel)
theorem xw_l_3_111 : Jvm.Cond.methodLink "ShrinkLayout" 111 yS_bringWhatIsLedTo ∈ xtb := xtb_at 274 (by decide +kernel) (by decide +kernel)
theorem xw_l_3_115 : Jvm.Cond.methodLink "ShrinkLayout" 115 yS_countGone ∈ xtb := xtb_at 281 (by decide +kernel) (by decide +kernel)
theorem xw_l_3_119 : Jvm.Cond.methodLink "ShrinkLayout" 119 yS_makePass ∈ xtb := xtb_at 293 (by decide +kernel) (by decide +kernel)
theorem xw_l_3_122 : Jvm.Cond.methodLink "ShrinkLayout" 122 yS_makePasses ∈ xtb := xtb_at 345 (by decide +kernel) (by decide +kernel)
theorem xw_l_3_125 : Jvm.Cond.methodLink "ShrinkLayout" 125 yS_fixWhatDoesNotHold ∈ xtb := xtb_at 353 (by decide +kernel) (by decide +kernel)
theorem xw_l_3_141 : Jvm.Cond.methodLink "ShrinkLayout" 141 yS_survey ∈ xtb := xtb_at 297 (by decide +kernel) (by decide +kernel)
theorem xw_l_3_157 : Jvm.Cond.methodLink "ShrinkLayout" 157 yS_bytesToMultiple ∈ xtb := xtb_at 305 (by decide +kernel) (by decide +kernel)
theorem xw_l_3_166 : Jvm.Cond.methodLink "ShrinkLayout" 166 yS_aimOf ∈ xtb := xtb_at 318 (by decide +kernel) (by decide +kernel)
theorem xw_l_3_170 : Jvm.Cond.methodLink "ShrinkLayout" 170 yS_valueOf ∈ xtb := xtb_at 322 (by decide +kernel) (by decide +kernel)
theorem xw_l_3_183 : Jvm.Cond.methodLink "ShrinkLayout" 183 yQ_init2 ∈ xtb := xtb_at 217 (by decide +kernel) (by decide +kernel)
theorem xw_l_3_189 : Jvm.Cond.methodLink "ShrinkLayout" 189 yP_append ∈ xtb := xtb_at 201 (by decide +kernel) (by decide +kernel)
theorem xw_l_3_193 : Jvm.Cond.methodLink "ShrinkLayout" 193 yS_partLedTo ∈ xtb := xtb_at 278 (by decide +kernel) (by decide +kernel)
theorem xw_l_3_197 : Jvm.Cond.methodLink "ShrinkLayout" 197 yS_placeOutput ∈ xtb := xtb_at 301 (by decide +kernel) (by decide +kernel)
theorem xw_l_3_200 : Jvm.Cond.methodLink "ShrinkLayout" 200 yS_leastSize ∈ xtb := xtb_at 314 (by decide +kernel) (by decide +kernel)
theorem xw_l_3_203 : Jvm.Cond.methodLink "ShrinkLayout" 203 yS_placePart ∈ xtb := xtb_at 308 (by decide +kernel) (by decide +kernel)
theorem xw_l_3_211 : Jvm.Cond.methodLink "ShrinkLayout" 211 yA_min ∈ xtb := xtb_at 311 (by decide +kernel) (by decide +kernel)
theorem xw_l_3_222 : Jvm.Cond.methodLink "ShrinkLayout" 222 yS_leastCall ∈ xtb := xtb_at 325 (by decide +kernel) (by decide +kernel)
theorem xw_l_3_226 : Jvm.Cond.methodLink "ShrinkLayout" 226 yS_leastLoad ∈ xtb := xtb_at 332 (by decide +kernel) (by decide +kernel)
theorem xw_l_3_242 : Jvm.Cond.methodLink "ShrinkLayout" 242 yA_floorDiv ∈ xtb := xtb_at 337 (by decide +kernel) (by decide +kernel)
theorem xw_l_4_87 : Jvm.Cond.methodLink "ShrinkLayoutModel" 87 yM_within ∈ xtb := xtb_at 489 (by decide +kernel) (by decide +kernel)
theorem xw_l_4_100 : Jvm.Cond.methodLink "ShrinkLayoutModel" 100 yM_roundUp ∈ xtb := xtb_at 577 (by decide +kernel) (by decide +kernel)
theorem xw_l_4_104 : Jvm.Cond.methodLink "ShrinkLayoutModel" 104 yM_lay ∈ xtb := xtb_at 580 (by decide +kernel) (by decide +kernel)
theorem xw_l_4_107 : Jvm.Cond.methodLink "ShrinkLayoutModel" 107 yM_isLabel ∈ xtb := xtb_at 513 (by decide +kernel) (by decide +kernel)
theorem xw_l_4_111 : Jvm.Cond.methodLink "ShrinkLayoutModel" 111 yM_isGone ∈ xtb := xtb_at 596 (by decide +kernel) (by decide +kernel)
theorem xw_l_4_114 : Jvm.Cond.methodLink "ShrinkLayoutModel" 114 yM_shrinks ∈ xtb := xtb_at 561 (by decide +kernel) (by decide +kernel)
theorem xw_l_4_117 : Jvm.Cond.methodLink "ShrinkLayoutModel" 117 yM_hasValue ∈ xtb := xtb_at 592 (by decide +kernel) (by decide +kernel)
theorem xw_l_4_120 : Jvm.Cond.methodLink "ShrinkLayoutModel" 120 yM_valueOf ∈ xtb := xtb_at 604 (by decide +kernel) (by decide +kernel)
theorem xw_l_4_128 : Jvm.Cond.methodLink "ShrinkLayoutModel" 128 yM_hasAim ∈ xtb := xtb_at 588 (by decide +kernel) (by decide +kernel)
theorem xw_l_4_131 : Jvm.Cond.methodLink "ShrinkLayoutModel" 131 yM_greatest ∈ xtb := xtb_at 517 (by decide +kernel) (by decide +kernel)
theorem xw_l_4_134 : Jvm.Cond.methodLink "ShrinkLayoutModel" 134 yM_aimOf ∈ xtb := xtb_at 600 (by decide +kernel) (by decide +kernel)
theorem xw_l_4_140 : Jvm.Cond.methodLink "ShrinkLayoutModel" 140 yM_isNear ∈ xtb := xtb_at 609 (by decide +kernel) (by decide +kernel)
theorem xw_l_4_154 : Jvm.Cond.methodLink "ShrinkLayoutModel" 154 yM_isPart ∈ xtb := xtb_at 496 (by decide +kernel) (by decide +kernel)
theorem xw_l_4_158 : Jvm.Cond.methodLink "ShrinkLayoutModel" 158 yM_added ∈ xtb := xtb_at 501 (by decide +kernel) (by decide +kernel)
theorem xw_l_4_162 : Jvm.Cond.methodLink "ShrinkLayoutModel" 162 yM_aimed ∈ xtb := xtb_at 509 (by decide +kernel) (by decide +kernel)
theorem xw_l_4_166 : Jvm.Cond.methodLink "ShrinkLayoutModel" 166 yM_isPiece ∈ xtb := xtb_at 540 (by decide +kernel) (by decide +kernel)
theorem xw_l_4_170 : Jvm.Cond.methodLink "ShrinkLayoutModel" 170 yM_reckon ∈ xtb := xtb_at 573 (by decide +kernel) (by decide +kernel)
theorem xw_l_4_173 : Jvm.Cond.methodLink "ShrinkLayoutModel" 173 yM_leastOf ∈ xtb := xtb_at 584 (by decide +kernel) (by decide +kernel)
theorem xw_l_4_176 : Jvm.Cond.methodLink "ShrinkLayoutModel" 176 yM_pass ∈ xtb := xtb_at 623 (by decide +kernel) (by decide +kernel)
theorem xw_l_4_180 : Jvm.Cond.methodLink "ShrinkLayoutModel" 180 yM_shrink ∈ xtb := xtb_at 628 (by decide +kernel) (by decide +kernel)
theorem xw_l_4_183 : Jvm.Cond.methodLink "ShrinkLayoutModel" 183 yM_isTight ∈ xtb := xtb_at 629 (by decide +kernel) (by decide +kernel)
theorem xw_l_5_9 : Jvm.Cond.methodLink "ShrinkLayoutLaw" 9 yS_init ∈ xtb := xtb_at 37 (by decide +kernel) (by decide +kernel)
theorem xw_l_5_12 : Jvm.Cond.methodLink "ShrinkLayoutLaw" 12 yM_init ∈ xtb := xtb_at 395 (by decide +kernel) (by decide +kernel)
theorem xw_l_5_13 : Jvm.Cond.methodLink "ShrinkLayoutLaw" 13 yS_part ∈ xtb := xtb_at 81 (by decide +kernel) (by decide +kernel)
theorem xw_l_5_17 : Jvm.Cond.methodLink "ShrinkLayoutLaw" 17 yM_part ∈ xtb := xtb_at 485 (by decide +kernel) (by decide +kernel)
theorem xw_l_5_18 : Jvm.Cond.methodLink "ShrinkLayoutLaw" 18 yS_plain ∈ xtb := xtb_at 133 (by decide +kernel) (by decide +kernel)
theorem xw_l_5_21 : Jvm.Cond.methodLink "ShrinkLayoutLaw" 21 yM_plain ∈ xtb := xtb_at 492 (by decide +kernel) (by decide +kernel)
theorem xw_l_5_22 : Jvm.Cond.methodLink "ShrinkLayoutLaw" 22 yS_call ∈ xtb := xtb_at 205 (by decide +kernel) (by decide +kernel)
theorem xw_l_5_26 : Jvm.Cond.methodLink "ShrinkLayoutLaw" 26 yM_call ∈ xtb := xtb_at 505 (by decide +kernel) (by decide +kernel)
theorem xw_l_5_27 : Jvm.Cond.methodLink "ShrinkLayoutLaw" 27 yS_upper ∈ xtb := xtb_at 220 (by decide +kernel) (by decide +kernel)
theorem xw_l_5_30 : Jvm.Cond.methodLink "ShrinkLayoutLaw" 30 yM_upper ∈ xtb := xtb_at 520 (by decide +kernel) (by decide +kernel)
theorem xw_l_5_31 : Jvm.Cond.methodLink "ShrinkLayoutLaw" 31 yS_near ∈ xtb := xtb_at 224 (by decide +kernel) (by decide +kernel)
theorem xw_l_5_35 : Jvm.Cond.methodLink "ShrinkLayoutLaw" 35 yM_near ∈ xtb := xtb_at 524 (by decide +kernel) (by decide +kernel)
theorem xw_l_5_36 : Jvm.Cond.methodLink "ShrinkLayoutLaw" 36 yS_fill ∈ xtb := xtb_at 228 (by decide +kernel) (by decide +kernel)
theorem xw_l_5_39 : Jvm.Cond.methodLink "ShrinkLayoutLaw" 39 yM_fill ∈ xtb := xtb_at 528 (by decide +kernel) (by decide +kernel)
theorem xw_l_5_40 : Jvm.Cond.methodLink "ShrinkLayoutLaw" 40 yS_label ∈ xtb := xtb_at 233 (by decide +kernel) (by decide +kernel)
theorem xw_l_5_44 : Jvm.Cond.methodLink "ShrinkLayoutLaw" 44 yM_label ∈ xtb := xtb_at 532 (by decide +kernel) (by decide +kernel)
theorem xw_l_5_45 : Jvm.Cond.methodLink "ShrinkLayoutLaw" 45 yS_put ∈ xtb := xtb_at 249 (by decide +kernel) (by decide +kernel)
theorem xw_l_5_49 : Jvm.Cond.methodLink "ShrinkLayoutLaw" 49 yM_put ∈ xtb := xtb_at 536 (by decide +kernel) (by decide +kernel)
theorem xw_l_5_50 : Jvm.Cond.methodLink "ShrinkLayoutLaw" 50 yS_base ∈ xtb := xtb_at 257 (by decide +kernel) (by decide +kernel)
theorem xw_l_5_54 : Jvm.Cond.methodLink "ShrinkLayoutLaw" 54 yM_base ∈ xtb := xtb_at 544 (by decide +kernel) (by decide +kernel)
theorem xw_l_5_55 : Jvm.Cond.methodLink "ShrinkLayoutLaw" 55 yS_align ∈ xtb := xtb_at 262 (by decide +kernel) (by decide +kernel)
theorem xw_l_5_59 : Jvm.Cond.methodLink "ShrinkLayoutLaw" 59 yM_align ∈ xtb := xtb_at 549 (by decide +kernel) (by decide +kernel)
theorem xw_l_5_60 : Jvm.Cond.methodLink "ShrinkLayoutLaw" 60 yS_root ∈ xtb := xtb_at 266 (by decide +kernel) (by decide +kernel)
theorem xw_l_5_64 : Jvm.Cond.methodLink "ShrinkLayoutLaw" 64 yM_root ∈ xtb := xtb_at 553 (by decide +kernel) (by decide +kernel)
theorem xw_l_5_65 : Jvm.Cond.methodLink "ShrinkLayoutLaw" 65 yS_sweep ∈ xtb := xtb_at 270 (by decide +kernel) (by decide +kernel)
theorem xw_l_5_68 : Jvm.Cond.methodLink "ShrinkLayoutLaw" 68 yM_sweep ∈ xtb := xtb_at 557 (by decide +kernel) (by decide +kernel)
theorem xw_l_5_69 : Jvm.Cond.methodLink "ShrinkLayoutLaw" 69 yS_back ∈ xtb := xtb_at 285 (by decide +kernel) (by decide +kernel)
theorem xw_l_5_72 : Jvm.Cond.methodLink "ShrinkLayoutLaw" 72 yM_back ∈ xtb := xtb_at 565 (by decide +kernel) (by decide +kernel)
theorem xw_l_5_73 : Jvm.Cond.methodLink "ShrinkLayoutLaw" 73 yS_pass ∈ xtb := xtb_at 289 (by decide +kernel) (by decide +kernel)
theorem xw_l_5_76 : Jvm.Cond.methodLink "ShrinkLayoutLaw" 76 yM_pass ∈ xtb := xtb_at 569 (by decide +kernel) (by decide +kernel)
theorem xw_l_5_77 : Jvm.Cond.methodLink "ShrinkLayoutLaw" 77 yS_shrink ∈ xtb := xtb_at 341 (by decide +kernel) (by decide +kernel)
theorem xw_l_5_80 : Jvm.Cond.methodLink "ShrinkLayoutLaw" 80 yM_shrink ∈ xtb := xtb_at 619 (by decide +kernel) (by decide +kernel)
theorem xw_l_5_81 : Jvm.Cond.methodLink "ShrinkLayoutLaw" 81 yS_settle ∈ xtb := xtb_at 349 (by decide +kernel) (by decide +kernel)
theorem xw_l_5_84 : Jvm.Cond.methodLink "ShrinkLayoutLaw" 84 yM_settle ∈ xtb := xtb_at 624 (by decide +kernel) (by decide +kernel)
theorem xw_l_5_85 : Jvm.Cond.methodLink "ShrinkLayoutLaw" 85 yS_reset ∈ xtb := xtb_at 357 (by decide +kernel) (by decide +kernel)
theorem xw_l_5_88 : Jvm.Cond.methodLink "ShrinkLayoutLaw" 88 yM_reset ∈ xtb := xtb_at 633 (by decide +kernel) (by decide +kernel)
theorem xw_l_5_89 : Jvm.Cond.methodLink "ShrinkLayoutLaw" 89 yS_holds ∈ xtb := xtb_at 361 (by decide +kernel) (by decide +kernel)
theorem xw_l_5_92 : Jvm.Cond.methodLink "ShrinkLayoutLaw" 92 yM_holds ∈ xtb := xtb_at 637 (by decide +kernel) (by decide +kernel)
theorem xw_l_5_93 : Jvm.Cond.methodLink "ShrinkLayoutLaw" 93 yS_lacks ∈ xtb := xtb_at 365 (by decide +kernel) (by decide +kernel)
theorem xw_l_5_96 : Jvm.Cond.methodLink "ShrinkLayoutLaw" 96 yM_lacks ∈ xtb := xtb_at 641 (by decide +kernel) (by decide +kernel)
theorem xw_l_5_97 : Jvm.Cond.methodLink "ShrinkLayoutLaw" 97 yS_piece ∈ xtb := xtb_at 369 (by decide +kernel) (by decide +kernel)
theorem xw_l_5_100 : Jvm.Cond.methodLink "ShrinkLayoutLaw" 100 yM_piece ∈ xtb := xtb_at 645 (by decide +kernel) (by decide +kernel)
theorem xw_l_5_101 : Jvm.Cond.methodLink "ShrinkLayoutLaw" 101 yS_aim ∈ xtb := xtb_at 373 (by decide +kernel) (by decide +kernel)
theorem xw_l_5_105 : Jvm.Cond.methodLink "ShrinkLayoutLaw" 105 yM_aim ∈ xtb := xtb_at 649 (by decide +kernel) (by decide +kernel)
theorem xw_l_5_106 : Jvm.Cond.methodLink "ShrinkLayoutLaw" 106 yS_value ∈ xtb := xtb_at 377 (by decide +kernel) (by decide +kernel)
theorem xw_l_5_110 : Jvm.Cond.methodLink "ShrinkLayoutLaw" 110 yM_value ∈ xtb := xtb_at 654 (by decide +kernel) (by decide +kernel)
theorem xw_l_5_111 : Jvm.Cond.methodLink "ShrinkLayoutLaw" 111 yS_span ∈ xtb := xtb_at 381 (by decide +kernel) (by decide +kernel)
theorem xw_l_5_114 : Jvm.Cond.methodLink "ShrinkLayoutLaw" 114 yM_span ∈ xtb := xtb_at 658 (by decide +kernel) (by decide +kernel)
theorem xw_l_5_115 : Jvm.Cond.methodLink "ShrinkLayoutLaw" 115 yS_output ∈ xtb := xtb_at 385 (by decide +kernel) (by decide +kernel)
theorem xw_l_5_118 : Jvm.Cond.methodLink "ShrinkLayoutLaw" 118 yM_output ∈ xtb := xtb_at 662 (by decide +kernel) (by decide +kernel)
theorem xw_l_5_119 : Jvm.Cond.methodLink "ShrinkLayoutLaw" 119 yS_saved ∈ xtb := xtb_at 389 (by decide +kernel) (by decide +kernel)
theorem xw_l_5_122 : Jvm.Cond.methodLink "ShrinkLayoutLaw" 122 yM_saved ∈ xtb := xtb_at 666 (by decide +kernel) (by decide +kernel)
theorem xr_3_41 : xCLP (3, 41, mS_isOutput, 0, 3) := ⟨yS_isOutput, cS_isOutput, 1, (some .boolean), 1, rfl, xw_c_S_isOutput, xw_in_3, ⟨by decide +kernel, by decide +kernel⟩, by decide +kernel, ⟨xw_l_3_41, xw_s_S_isOutput⟩⟩
theorem xr_3_45 : xCLP (3, 45, mS_isPower, 0, 3) := ⟨yS_isPower, cS_isPower, 1, (some .boolean), 1, rfl, xw_c_S_isPower, xw_in_3, ⟨by decide +kernel, by decide +kernel⟩, by decide +kernel, ⟨xw_l_3_45, xw_s_S_isPower⟩⟩
theorem xr_3_48 : xCLP (3, 48, mP_init, 2, 1) := ⟨yP_init, cP_init, 4, none, 3, rfl, xw_c_P_init, xw_in_1, ⟨by decide +kernel, by decide +kernel⟩, by decide +kernel, ⟨xw_l_3_48, xw_i_P_init, rfl, rfl⟩⟩
theorem xr_3_51 : xCLP (3, 51, mS_partAt, 1, 3) := ⟨yS_partAt, cS_partAt, 2, (some (.object "ShrinkLayout$Part")), 1, rfl, xw_c_S_partAt, xw_in_3, ⟨by decide +kernel, by decide +kernel⟩, by decide +kernel, ⟨xw_l_3_51, xw_i_S_partAt, xw_v_S_partAt, by decide +kernel⟩⟩
theorem xr_3_57 : xCLP (3, 57, mS_isWithin, 0, 3) := ⟨yS_isWithin, cS_isWithin, 6, (some .boolean), 3, rfl, xw_c_S_isWithin, xw_in_3, ⟨by decide +kernel, by decide +kernel⟩, by decide +kernel, ⟨xw_l_3_57, xw_s_S_isWithin⟩⟩
theorem xr_3_61 : xCLP (3, 61, mQ_init, 2, 2) := ⟨yQ_init, cQ_init, 5, none, 4, rfl, xw_c_Q_init, xw_in_2, ⟨by decide +kernel, by decide +kernel⟩, by decide +kernel, ⟨xw_l_3_61, xw_i_Q_init, rfl, rfl⟩⟩
theorem xr_3_64 : xCLP (3, 64, mS_addPiece, 1, 3) := ⟨yS_addPiece, cS_addPiece, 2, (some .int), 1, rfl, xw_c_S_addPiece, xw_in_3, ⟨by decide +kernel, by decide +kernel⟩, by decide +kernel, ⟨xw_l_3_64, xw_i_S_addPiece, xw_v_S_addPiece, by decide +kernel⟩⟩
theorem xr_3_68 : xCLP (3, 68, mS_addAimed, 1, 3) := ⟨yS_addAimed, cS_addAimed, 8, (some .int), 5, rfl, xw_c_S_addAimed, xw_in_3, ⟨by decide +kernel, by decide +kernel⟩, by decide +kernel, ⟨xw_l_3_68, xw_i_S_addAimed, xw_v_S_addAimed, by decide +kernel⟩⟩
theorem xr_3_77 : xCLP (3, 77, mB_init, 3, 0) := ⟨yB_init, cB_init, 1, none, 0, rfl, xw_c_B_init, xw_in_0, ⟨by decide +kernel, by decide +kernel⟩, by decide +kernel, ⟨by decide +kernel, xw_i_B_init, rfl, rfl⟩⟩
theorem xr_3_78 : xCLP (3, 78, mS_labelAt, 1, 3) := ⟨yS_labelAt, cS_labelAt, 2, (some (.object "ShrinkLayout$Label")), 1, rfl, xw_c_S_labelAt, xw_in_3, ⟨by decide +kernel, by decide +kernel⟩, by decide +kernel, ⟨xw_l_3_78, xw_i_S_labelAt, xw_v_S_labelAt, by decide +kernel⟩⟩
theorem xr_3_82 : xCLP (3, 82, mS_pieceAt, 1, 3) := ⟨yS_pieceAt, cS_pieceAt, 2, (some (.object "ShrinkLayout$Piece")), 1, rfl, xw_c_S_pieceAt, xw_in_3, ⟨by decide +kernel, by decide +kernel⟩, by decide +kernel, ⟨xw_l_3_82, xw_i_S_pieceAt, xw_v_S_pieceAt, by decide +kernel⟩⟩
theorem xr_3_111 : xCLP (3, 111, mS_bringWhatIsLedTo, 1, 3) := ⟨yS_bringWhatIsLedTo, cS_bringWhatIsLedTo, 7, (some .boolean), 0, rfl, xw_c_S_bringWhatIsLedTo, xw_in_3, ⟨by decide +kernel, by decide +kernel⟩, by decide +kernel, ⟨xw_l_3_111, xw_i_S_bringWhatIsLedTo, xw_v_S_bringWhatIsLedTo, by decide +kernel⟩⟩
theorem xr_3_115 : xCLP (3, 115, mS_countGone, 1, 3) := ⟨yS_countGone, cS_countGone, 6, (some .int), 0, rfl, xw_c_S_countGone, xw_in_3, ⟨by decide +kernel, by decide +kernel⟩, by decide +kernel, ⟨xw_l_3_115, xw_i_S_countGone, xw_v_S_countGone, by decide +kernel⟩⟩
theorem xr_3_119 : xCLP (3, 119, mS_makePass, 1, 3) := ⟨yS_makePass, cS_makePass, 6, (some .int), 0, rfl, xw_c_S_makePass, xw_in_3, ⟨by decide +kernel, by decide +kernel⟩, by decide +kernel, ⟨xw_l_3_119, xw_i_S_makePass, xw_v_S_makePass, by decide +kernel⟩⟩
theorem xr_3_122 : xCLP (3, 122, mS_makePasses, 1, 3) := ⟨yS_makePasses, cS_makePasses, 3, (some .int), 0, rfl, xw_c_S_makePasses, xw_in_3, ⟨by decide +kernel, by decide +kernel⟩, by decide +kernel, ⟨xw_l_3_122, xw_i_S_makePasses, xw_v_S_makePasses, by decide +kernel⟩⟩
theorem xr_3_125 : xCLP (3, 125, mS_fixWhatDoesNotHold, 1, 3) := ⟨yS_fixWhatDoesNotHold, cS_fixWhatDoesNotHold, 6, (some .int), 0, rfl, xw_c_S_fixWhatDoesNotHold, xw_in_3, ⟨by decide +kernel, by decide +kernel⟩, by decide +kernel, ⟨xw_l_3_125, xw_i_S_fixWhatDoesNotHold, xw_v_S_fixWhatDoesNotHold, by decide +kernel⟩⟩
theorem xr_3_141 : xCLP (3, 141, mS_survey, 1, 3) := ⟨yS_survey, cS_survey, 6, none, 0, rfl, xw_c_S_survey, xw_in_3, ⟨by decide +kernel, by decide +kernel⟩, by decide +kernel, ⟨xw_l_3_141, xw_i_S_survey, xw_v_S_survey, by decide +kernel⟩⟩
theorem xr_3_157 : xCLP (3, 157, mS_bytesToMultiple, 0, 3) := ⟨yS_bytesToMultiple, cS_bytesToMultiple, 2, (some .int), 2, rfl, xw_c_S_bytesToMultiple, xw_in_3, ⟨by decide +kernel, by decide +kernel⟩, by decide +kernel, ⟨xw_l_3_157, xw_s_S_bytesToMultiple⟩⟩
theorem xr_3_166 : xCLP (3, 166, mS_aimOf, 0, 3) := ⟨yS_aimOf, cS_aimOf, 2, (some .long), 1, rfl, xw_c_S_aimOf, xw_in_3, ⟨by decide +kernel, by decide +kernel⟩, by decide +kernel, ⟨xw_l_3_166, xw_s_S_aimOf⟩⟩
theorem xr_3_170 : xCLP (3, 170, mS_valueOf, 0, 3) := ⟨yS_valueOf, cS_valueOf, 2, (some .int), 1, rfl, xw_c_S_valueOf, xw_in_3, ⟨by decide +kernel, by decide +kernel⟩, by decide +kernel, ⟨xw_l_3_170, xw_s_S_valueOf⟩⟩
theorem xr_3_183 : xCLP (3, 183, mQ_init2, 2, 2) := ⟨yQ_init2, cQ_init2, 6, none, 5, rfl, xw_c_Q_init2, xw_in_2, ⟨by decide +kernel, by decide +kernel⟩, by decide +kernel, ⟨xw_l_3_183, xw_i_Q_init2, rfl, rfl⟩⟩
theorem xr_3_189 : xCLP (3, 189, mP_append, 1, 1) := ⟨yP_append, cP_append, 2, none, 1, rfl, xw_c_P_append, xw_in_1, ⟨by decide +kernel, by decide +kernel⟩, by decide +kernel, ⟨xw_l_3_189, xw_i_P_append, xw_v_P_append, by decide +kernel⟩⟩
theorem xr_3_193 : xCLP (3, 193, mS_partLedTo, 0, 3) := ⟨yS_partLedTo, cS_partLedTo, 1, (some (.object "ShrinkLayout$Part")), 1, rfl, xw_c_S_partLedTo, xw_in_3, ⟨by decide +kernel, by decide +kernel⟩, by decide +kernel, ⟨xw_l_3_193, xw_s_S_partLedTo⟩⟩
theorem xr_3_197 : xCLP (3, 197, mS_placeOutput, 1, 3) := ⟨yS_placeOutput, cS_placeOutput, 8, (some .int), 2, rfl, xw_c_S_placeOutput, xw_in_3, ⟨by decide +kernel, by decide +kernel⟩, by decide +kernel, ⟨xw_l_3_197, xw_i_S_placeOutput, xw_v_S_placeOutput, by decide +kernel⟩⟩
theorem xr_3_200 : xCLP (3, 200, mS_leastSize, 1, 3) := ⟨yS_leastSize, cS_leastSize, 4, (some .int), 1, rfl, xw_c_S_leastSize, xw_in_3, ⟨by decide +kernel, by decide +kernel⟩, by decide +kernel, ⟨xw_l_3_200, xw_i_S_leastSize, xw_v_S_leastSize, by decide +kernel⟩⟩
theorem xr_3_203 : xCLP (3, 203, mS_placePart, 0, 3) := ⟨yS_placePart, cS_placePart, 4, (some .int), 2, rfl, xw_c_S_placePart, xw_in_3, ⟨by decide +kernel, by decide +kernel⟩, by decide +kernel, ⟨xw_l_3_203, xw_s_S_placePart⟩⟩
theorem xr_3_211 : xCLP (3, 211, mA_min, 0, 0) := ⟨yA_min, cA_min, 2, (some .int), 2, rfl, xw_c_A_min, xw_in_6, ⟨by decide +kernel, by decide +kernel⟩, by decide +kernel, ⟨xw_l_3_211, xw_s_A_min⟩⟩
theorem xr_3_222 : xCLP (3, 222, mS_leastCall, 0, 3) := ⟨yS_leastCall, cS_leastCall, 4, (some .int), 2, rfl, xw_c_S_leastCall, xw_in_3, ⟨by decide +kernel, by decide +kernel⟩, by decide +kernel, ⟨xw_l_3_222, xw_s_S_leastCall⟩⟩
theorem xr_3_226 : xCLP (3, 226, mS_leastLoad, 0, 3) := ⟨yS_leastLoad, cS_leastLoad, 5, (some .int), 3, rfl, xw_c_S_leastLoad, xw_in_3, ⟨by decide +kernel, by decide +kernel⟩, by decide +kernel, ⟨xw_l_3_226, xw_s_S_leastLoad⟩⟩
theorem xr_3_242 : xCLP (3, 242, mA_floorDiv, 0, 0) := ⟨yA_floorDiv, cA_floorDiv, 6, (some .long), 2, rfl, xw_c_A_floorDiv, xw_in_6, ⟨by decide +kernel, by decide +kernel⟩, by decide +kernel, ⟨xw_l_3_242, xw_s_A_floorDiv⟩⟩
theorem xr_4_87 : xCLP (4, 87, mM_within, 0, 4) := ⟨yM_within, cM_within, 3, (some .boolean), 3, rfl, xw_c_M_within, xw_in_4, ⟨by decide +kernel, by decide +kernel⟩, by decide +kernel, ⟨xw_l_4_87, xw_s_M_within⟩⟩
theorem xr_4_100 : xCLP (4, 100, mM_roundUp, 0, 4) := ⟨yM_roundUp, cM_roundUp, 2, (some .int), 2, rfl, xw_c_M_roundUp, xw_in_4, ⟨by decide +kernel, by decide +kernel⟩, by decide +kernel, ⟨xw_l_4_100, xw_s_M_roundUp⟩⟩
theorem xr_4_104 : xCLP (4, 104, mM_lay, 1, 4) := ⟨yM_lay, cM_lay, 6, (some .int), 2, rfl, xw_c_M_lay, xw_in_4, ⟨by decide +kernel, by decide +kernel⟩, by decide +kernel, ⟨xw_l_4_104, xw_i_M_lay, xw_v_M_lay, by decide +kernel⟩⟩
theorem xr_4_107 : xCLP (4, 107, mM_isLabel, 1, 4) := ⟨yM_isLabel, cM_isLabel, 2, (some .boolean), 1, rfl, xw_c_M_isLabel, xw_in_4, ⟨by decide +kernel, by decide +kernel⟩, by decide +kernel, ⟨xw_l_4_107, xw_i_M_isLabel, xw_v_M_isLabel, by decide +kernel⟩⟩
theorem xr_4_111 : xCLP (4, 111, mM_isGone, 1, 4) := ⟨yM_isGone, cM_isGone, 2, (some .boolean), 1, rfl, xw_c_M_isGone, xw_in_4, ⟨by decide +kernel, by decide +kernel⟩, by decide +kernel, ⟨xw_l_4_111, xw_i_M_isGone, xw_v_M_isGone, by decide +kernel⟩⟩
theorem xr_4_114 : xCLP (4, 114, mM_shrinks, 1, 4) := ⟨yM_shrinks, cM_shrinks, 2, (some .boolean), 1, rfl, xw_c_M_shrinks, xw_in_4, ⟨by decide +kernel, by decide +kernel⟩, by decide +kernel, ⟨xw_l_4_114, xw_i_M_shrinks, xw_v_M_shrinks, by decide +kernel⟩⟩
theorem xr_4_117 : xCLP (4, 117, mM_hasValue, 1, 4) := ⟨yM_hasValue, cM_hasValue, 2, (some .boolean), 1, rfl, xw_c_M_hasValue, xw_in_4, ⟨by decide +kernel, by decide +kernel⟩, by decide +kernel, ⟨xw_l_4_117, xw_i_M_hasValue, xw_v_M_hasValue, by decide +kernel⟩⟩
theorem xr_4_120 : xCLP (4, 120, mM_valueOf, 1, 4) := ⟨yM_valueOf, cM_valueOf, 3, (some .int), 1, rfl, xw_c_M_valueOf, xw_in_4, ⟨by decide +kernel, by decide +kernel⟩, by decide +kernel, ⟨xw_l_4_120, xw_i_M_valueOf, xw_v_M_valueOf, by decide +kernel⟩⟩
theorem xr_4_128 : xCLP (4, 128, mM_hasAim, 1, 4) := ⟨yM_hasAim, cM_hasAim, 2, (some .boolean), 1, rfl, xw_c_M_hasAim, xw_in_4, ⟨by decide +kernel, by decide +kernel⟩, by decide +kernel, ⟨xw_l_4_128, xw_i_M_hasAim, xw_v_M_hasAim, by decide +kernel⟩⟩
theorem xr_4_131 : xCLP (4, 131, mM_greatest, 0, 4) := ⟨yM_greatest, cM_greatest, 1, (some .int), 1, rfl, xw_c_M_greatest, xw_in_4, ⟨by decide +kernel, by decide +kernel⟩, by decide +kernel, ⟨xw_l_4_131, xw_s_M_greatest⟩⟩
theorem xr_4_134 : xCLP (4, 134, mM_aimOf, 1, 4) := ⟨yM_aimOf, cM_aimOf, 2, (some .long), 1, rfl, xw_c_M_aimOf, xw_in_4, ⟨by decide +kernel, by decide +kernel⟩, by decide +kernel, ⟨xw_l_4_134, xw_i_M_aimOf, xw_v_M_aimOf, by decide +kernel⟩⟩
theorem xr_4_140 : xCLP (4, 140, mM_isNear, 0, 4) := ⟨yM_isNear, cM_isNear, 2, (some .boolean), 1, rfl, xw_c_M_isNear, xw_in_4, ⟨by decide +kernel, by decide +kernel⟩, by decide +kernel, ⟨xw_l_4_140, xw_s_M_isNear⟩⟩
theorem xr_4_154 : xCLP (4, 154, mM_isPart, 1, 4) := ⟨yM_isPart, cM_isPart, 2, (some .boolean), 1, rfl, xw_c_M_isPart, xw_in_4, ⟨by decide +kernel, by decide +kernel⟩, by decide +kernel, ⟨xw_l_4_154, xw_i_M_isPart, xw_v_M_isPart, by decide +kernel⟩⟩
theorem xr_4_158 : xCLP (4, 158, mM_added, 1, 4) := ⟨yM_added, cM_added, 4, (some .int), 3, rfl, xw_c_M_added, xw_in_4, ⟨by decide +kernel, by decide +kernel⟩, by decide +kernel, ⟨xw_l_4_158, xw_i_M_added, xw_v_M_added, by decide +kernel⟩⟩
theorem xr_4_162 : xCLP (4, 162, mM_aimed, 1, 4) := ⟨yM_aimed, cM_aimed, 6, (some .int), 5, rfl, xw_c_M_aimed, xw_in_4, ⟨by decide +kernel, by decide +kernel⟩, by decide +kernel, ⟨xw_l_4_162, xw_i_M_aimed, xw_v_M_aimed, by decide +kernel⟩⟩
theorem xr_4_166 : xCLP (4, 166, mM_isPiece, 1, 4) := ⟨yM_isPiece, cM_isPiece, 2, (some .boolean), 1, rfl, xw_c_M_isPiece, xw_in_4, ⟨by decide +kernel, by decide +kernel⟩, by decide +kernel, ⟨xw_l_4_166, xw_i_M_isPiece, xw_v_M_isPiece, by decide +kernel⟩⟩
theorem xr_4_170 : xCLP (4, 170, mM_reckon, 1, 4) := ⟨yM_reckon, cM_reckon, 4, none, 0, rfl, xw_c_M_reckon, xw_in_4, ⟨by decide +kernel, by decide +kernel⟩, by decide +kernel, ⟨xw_l_4_170, xw_i_M_reckon, xw_v_M_reckon, by decide +kernel⟩⟩
theorem xr_4_173 : xCLP (4, 173, mM_leastOf, 1, 4) := ⟨yM_leastOf, cM_leastOf, 7, (some .int), 1, rfl, xw_c_M_leastOf, xw_in_4, ⟨by decide +kernel, by decide +kernel⟩, by decide +kernel, ⟨xw_l_4_173, xw_i_M_leastOf, xw_v_M_leastOf, by decide +kernel⟩⟩
theorem xr_4_176 : xCLP (4, 176, mM_pass, 1, 4) := ⟨yM_pass, cM_pass, 3, (some .int), 0, rfl, xw_c_M_pass, xw_in_4, ⟨by decide +kernel, by decide +kernel⟩, by decide +kernel, ⟨xw_l_4_176, xw_i_M_pass, xw_v_M_pass, by decide +kernel⟩⟩
theorem xr_4_180 : xCLP (4, 180, mM_shrink, 1, 4) := ⟨yM_shrink, cM_shrink, 2, (some .int), 0, rfl, xw_c_M_shrink, xw_in_4, ⟨by decide +kernel, by decide +kernel⟩, by decide +kernel, ⟨xw_l_4_180, xw_i_M_shrink, xw_v_M_shrink, by decide +kernel⟩⟩
theorem xr_4_183 : xCLP (4, 183, mM_isTight, 1, 4) := ⟨yM_isTight, cM_isTight, 2, (some .boolean), 1, rfl, xw_c_M_isTight, xw_in_4, ⟨by decide +kernel, by decide +kernel⟩, by decide +kernel, ⟨xw_l_4_183, xw_i_M_isTight, xw_v_M_isTight, by decide +kernel⟩⟩
theorem xr_5_9 : xCLP (5, 9, mS_init, 2, 3) := ⟨yS_init, cS_init, 1, none, 0, rfl, xw_c_S_init, xw_in_3, ⟨by decide +kernel, by decide +kernel⟩, by decide +kernel, ⟨xw_l_5_9, xw_i_S_init, rfl, rfl⟩⟩
theorem xr_5_12 : xCLP (5, 12, mM_init, 2, 4) := ⟨yM_init, cM_init, 1, none, 0, rfl, xw_c_M_init, xw_in_4, ⟨by decide +kernel, by decide +kernel⟩, by decide +kernel, ⟨xw_l_5_12, xw_i_M_init, rfl, rfl⟩⟩
theorem xr_5_13 : xCLP (5, 13, mS_part, 1, 3) := ⟨yS_part, cS_part, 3, (some .int), 2, rfl, xw_c_S_part, xw_in_3, ⟨by decide +kernel, by decide +kernel⟩, by decide +kernel, ⟨xw_l_5_13, xw_i_S_part, xw_v_S_part, by decide +kernel⟩⟩
theorem xr_5_17 : xCLP (5, 17, mM_part, 1, 4) := ⟨yM_part, cM_part, 3, (some .int), 2, rfl, xw_c_M_part, xw_in_4, ⟨by decide +kernel, by decide +kernel⟩, by decide +kernel, ⟨xw_l_5_17, xw_i_M_part, xw_v_M_part, by decide +kernel⟩⟩
theorem xr_5_18 : xCLP (5, 18, mS_plain, 1, 3) := ⟨yS_plain, cS_plain, 4, (some .int), 2, rfl, xw_c_S_plain, xw_in_3, ⟨by decide +kernel, by decide +kernel⟩, by decide +kernel, ⟨xw_l_5_18, xw_i_S_plain, xw_v_S_plain, by decide +kernel⟩⟩
theorem xr_5_21 : xCLP (5, 21, mM_plain, 1, 4) := ⟨yM_plain, cM_plain, 3, (some .int), 2, rfl, xw_c_M_plain, xw_in_4, ⟨by decide +kernel, by decide +kernel⟩, by decide +kernel, ⟨xw_l_5_21, xw_i_M_plain, xw_v_M_plain, by decide +kernel⟩⟩
theorem xr_5_22 : xCLP (5, 22, mS_call, 1, 3) := ⟨yS_call, cS_call, 5, (some .int), 4, rfl, xw_c_S_call, xw_in_3, ⟨by decide +kernel, by decide +kernel⟩, by decide +kernel, ⟨xw_l_5_22, xw_i_S_call, xw_v_S_call, by decide +kernel⟩⟩
theorem xr_5_26 : xCLP (5, 26, mM_call, 1, 4) := ⟨yM_call, cM_call, 5, (some .int), 4, rfl, xw_c_M_call, xw_in_4, ⟨by decide +kernel, by decide +kernel⟩, by decide +kernel, ⟨xw_l_5_26, xw_i_M_call, xw_v_M_call, by decide +kernel⟩⟩
theorem xr_5_27 : xCLP (5, 27, mS_upper, 1, 3) := ⟨yS_upper, cS_upper, 5, (some .int), 4, rfl, xw_c_S_upper, xw_in_3, ⟨by decide +kernel, by decide +kernel⟩, by decide +kernel, ⟨xw_l_5_27, xw_i_S_upper, xw_v_S_upper, by decide +kernel⟩⟩
theorem xr_5_30 : xCLP (5, 30, mM_upper, 1, 4) := ⟨yM_upper, cM_upper, 5, (some .int), 4, rfl, xw_c_M_upper, xw_in_4, ⟨by decide +kernel, by decide +kernel⟩, by decide +kernel, ⟨xw_l_5_30, xw_i_M_upper, xw_v_M_upper, by decide +kernel⟩⟩
theorem xr_5_31 : xCLP (5, 31, mS_near, 1, 3) := ⟨yS_near, cS_near, 4, (some .int), 3, rfl, xw_c_S_near, xw_in_3, ⟨by decide +kernel, by decide +kernel⟩, by decide +kernel, ⟨xw_l_5_31, xw_i_S_near, xw_v_S_near, by decide +kernel⟩⟩
theorem xr_5_35 : xCLP (5, 35, mM_near, 1, 4) := ⟨yM_near, cM_near, 4, (some .int), 3, rfl, xw_c_M_near, xw_in_4, ⟨by decide +kernel, by decide +kernel⟩, by decide +kernel, ⟨xw_l_5_35, xw_i_M_near, xw_v_M_near, by decide +kernel⟩⟩
theorem xr_5_36 : xCLP (5, 36, mS_fill, 1, 3) := ⟨yS_fill, cS_fill, 5, (some .int), 3, rfl, xw_c_S_fill, xw_in_3, ⟨by decide +kernel, by decide +kernel⟩, by decide +kernel, ⟨xw_l_5_36, xw_i_S_fill, xw_v_S_fill, by decide +kernel⟩⟩
theorem xr_5_39 : xCLP (5, 39, mM_fill, 1, 4) := ⟨yM_fill, cM_fill, 4, (some .int), 3, rfl, xw_c_M_fill, xw_in_4, ⟨by decide +kernel, by decide +kernel⟩, by decide +kernel, ⟨xw_l_5_39, xw_i_M_fill, xw_v_M_fill, by decide +kernel⟩⟩
theorem xr_5_40 : xCLP (5, 40, mS_label, 1, 3) := ⟨yS_label, cS_label, 1, (some .int), 0, rfl, xw_c_S_label, xw_in_3, ⟨by decide +kernel, by decide +kernel⟩, by decide +kernel, ⟨xw_l_5_40, xw_i_S_label, xw_v_S_label, by decide +kernel⟩⟩
theorem xr_5_44 : xCLP (5, 44, mM_label, 1, 4) := ⟨yM_label, cM_label, 1, (some .int), 0, rfl, xw_c_M_label, xw_in_4, ⟨by decide +kernel, by decide +kernel⟩, by decide +kernel, ⟨xw_l_5_44, xw_i_M_label, xw_v_M_label, by decide +kernel⟩⟩
theorem xr_5_45 : xCLP (5, 45, mS_put, 1, 3) := ⟨yS_put, cS_put, 7, (some .boolean), 3, rfl, xw_c_S_put, xw_in_3, ⟨by decide +kernel, by decide +kernel⟩, by decide +kernel, ⟨xw_l_5_45, xw_i_S_put, xw_v_S_put, by decide +kernel⟩⟩
theorem xr_5_49 : xCLP (5, 49, mM_put, 1, 4) := ⟨yM_put, cM_put, 4, (some .boolean), 3, rfl, xw_c_M_put, xw_in_4, ⟨by decide +kernel, by decide +kernel⟩, by decide +kernel, ⟨xw_l_5_49, xw_i_M_put, xw_v_M_put, by decide +kernel⟩⟩
theorem xr_5_50 : xCLP (5, 50, mS_base, 1, 3) := ⟨yS_base, cS_base, 2, (some .boolean), 1, rfl, xw_c_S_base, xw_in_3, ⟨by decide +kernel, by decide +kernel⟩, by decide +kernel, ⟨xw_l_5_50, xw_i_S_base, xw_v_S_base, by decide +kernel⟩⟩
theorem xr_5_54 : xCLP (5, 54, mM_base, 1, 4) := ⟨yM_base, cM_base, 2, (some .boolean), 1, rfl, xw_c_M_base, xw_in_4, ⟨by decide +kernel, by decide +kernel⟩, by decide +kernel, ⟨xw_l_5_54, xw_i_M_base, xw_v_M_base, by decide +kernel⟩⟩
theorem xr_5_55 : xCLP (5, 55, mS_align, 1, 3) := ⟨yS_align, cS_align, 3, (some .boolean), 2, rfl, xw_c_S_align, xw_in_3, ⟨by decide +kernel, by decide +kernel⟩, by decide +kernel, ⟨xw_l_5_55, xw_i_S_align, xw_v_S_align, by decide +kernel⟩⟩
theorem xr_5_59 : xCLP (5, 59, mM_align, 1, 4) := ⟨yM_align, cM_align, 3, (some .boolean), 2, rfl, xw_c_M_align, xw_in_4, ⟨by decide +kernel, by decide +kernel⟩, by decide +kernel, ⟨xw_l_5_59, xw_i_M_align, xw_v_M_align, by decide +kernel⟩⟩
theorem xr_5_60 : xCLP (5, 60, mS_root, 1, 3) := ⟨yS_root, cS_root, 4, (some .boolean), 2, rfl, xw_c_S_root, xw_in_3, ⟨by decide +kernel, by decide +kernel⟩, by decide +kernel, ⟨xw_l_5_60, xw_i_S_root, xw_v_S_root, by decide +kernel⟩⟩
theorem xr_5_64 : xCLP (5, 64, mM_root, 1, 4) := ⟨yM_root, cM_root, 3, (some .boolean), 2, rfl, xw_c_M_root, xw_in_4, ⟨by decide +kernel, by decide +kernel⟩, by decide +kernel, ⟨xw_l_5_64, xw_i_M_root, xw_v_M_root, by decide +kernel⟩⟩
theorem xr_5_65 : xCLP (5, 65, mS_sweep, 1, 3) := ⟨yS_sweep, cS_sweep, 5, (some .int), 0, rfl, xw_c_S_sweep, xw_in_3, ⟨by decide +kernel, by decide +kernel⟩, by decide +kernel, ⟨xw_l_5_65, xw_i_S_sweep, xw_v_S_sweep, by decide +kernel⟩⟩
theorem xr_5_68 : xCLP (5, 68, mM_sweep, 1, 4) := ⟨yM_sweep, cM_sweep, 4, (some .int), 0, rfl, xw_c_M_sweep, xw_in_4, ⟨by decide +kernel, by decide +kernel⟩, by decide +kernel, ⟨xw_l_5_68, xw_i_M_sweep, xw_v_M_sweep, by decide +kernel⟩⟩
theorem xr_5_69 : xCLP (5, 69, mS_back, 1, 3) := ⟨yS_back, cS_back, 5, none, 0, rfl, xw_c_S_back, xw_in_3, ⟨by decide +kernel, by decide +kernel⟩, by decide +kernel, ⟨xw_l_5_69, xw_i_S_back, xw_v_S_back, by decide +kernel⟩⟩
theorem xr_5_72 : xCLP (5, 72, mM_back, 1, 4) := ⟨yM_back, cM_back, 2, none, 0, rfl, xw_c_M_back, xw_in_4, ⟨by decide +kernel, by decide +kernel⟩, by decide +kernel, ⟨xw_l_5_72, xw_i_M_back, xw_v_M_back, by decide +kernel⟩⟩
theorem xr_5_73 : xCLP (5, 73, mS_pass, 1, 3) := ⟨yS_pass, cS_pass, 1, (some .int), 0, rfl, xw_c_S_pass, xw_in_3, ⟨by decide +kernel, by decide +kernel⟩, by decide +kernel, ⟨xw_l_5_73, xw_i_S_pass, xw_v_S_pass, by decide +kernel⟩⟩
theorem xr_5_76 : xCLP (5, 76, mM_pass, 1, 4) := ⟨yM_pass, cM_pass, 3, (some .int), 0, rfl, xw_c_M_pass, xw_in_4, ⟨by decide +kernel, by decide +kernel⟩, by decide +kernel, ⟨xw_l_5_76, xw_i_M_pass, xw_v_M_pass, by decide +kernel⟩⟩
theorem xr_5_77 : xCLP (5, 77, mS_shrink, 1, 3) := ⟨yS_shrink, cS_shrink, 1, (some .int), 0, rfl, xw_c_S_shrink, xw_in_3, ⟨by decide +kernel, by decide +kernel⟩, by decide +kernel, ⟨xw_l_5_77, xw_i_S_shrink, xw_v_S_shrink, by decide +kernel⟩⟩
theorem xr_5_80 : xCLP (5, 80, mM_shrink, 1, 4) := ⟨yM_shrink, cM_shrink, 2, (some .int), 0, rfl, xw_c_M_shrink, xw_in_4, ⟨by decide +kernel, by decide +kernel⟩, by decide +kernel, ⟨xw_l_5_80, xw_i_M_shrink, xw_v_M_shrink, by decide +kernel⟩⟩
theorem xr_5_81 : xCLP (5, 81, mS_settle, 1, 3) := ⟨yS_settle, cS_settle, 4, (some .int), 0, rfl, xw_c_S_settle, xw_in_3, ⟨by decide +kernel, by decide +kernel⟩, by decide +kernel, ⟨xw_l_5_81, xw_i_S_settle, xw_v_S_settle, by decide +kernel⟩⟩
theorem xr_5_84 : xCLP (5, 84, mM_settle, 1, 4) := ⟨yM_settle, cM_settle, 5, (some .int), 0, rfl, xw_c_M_settle, xw_in_4, ⟨by decide +kernel, by decide +kernel⟩, by decide +kernel, ⟨xw_l_5_84, xw_i_M_settle, xw_v_M_settle, by decide +kernel⟩⟩
theorem xr_5_85 : xCLP (5, 85, mS_reset, 1, 3) := ⟨yS_reset, cS_reset, 5, none, 0, rfl, xw_c_S_reset, xw_in_3, ⟨by decide +kernel, by decide +kernel⟩, by decide +kernel, ⟨xw_l_5_85, xw_i_S_reset, xw_v_S_reset, by decide +kernel⟩⟩
theorem xr_5_88 : xCLP (5, 88, mM_reset, 1, 4) := ⟨yM_reset, cM_reset, 2, none, 0, rfl, xw_c_M_reset, xw_in_4, ⟨by decide +kernel, by decide +kernel⟩, by decide +kernel, ⟨xw_l_5_88, xw_i_M_reset, xw_v_M_reset, by decide +kernel⟩⟩
theorem xr_5_89 : xCLP (5, 89, mS_holds, 1, 3) := ⟨yS_holds, cS_holds, 3, (some .int), 0, rfl, xw_c_S_holds, xw_in_3, ⟨by decide +kernel, by decide +kernel⟩, by decide +kernel, ⟨xw_l_5_89, xw_i_S_holds, xw_v_S_holds, by decide +kernel⟩⟩
theorem xr_5_92 : xCLP (5, 92, mM_holds, 1, 4) := ⟨yM_holds, cM_holds, 2, (some .int), 0, rfl, xw_c_M_holds, xw_in_4, ⟨by decide +kernel, by decide +kernel⟩, by decide +kernel, ⟨xw_l_5_92, xw_i_M_holds, xw_v_M_holds, by decide +kernel⟩⟩
theorem xr_5_93 : xCLP (5, 93, mS_lacks, 1, 3) := ⟨yS_lacks, cS_lacks, 3, (some .int), 0, rfl, xw_c_S_lacks, xw_in_3, ⟨by decide +kernel, by decide +kernel⟩, by decide +kernel, ⟨xw_l_5_93, xw_i_S_lacks, xw_v_S_lacks, by decide +kernel⟩⟩
theorem xr_5_96 : xCLP (5, 96, mM_lacks, 1, 4) := ⟨yM_lacks, cM_lacks, 2, (some .int), 0, rfl, xw_c_M_lacks, xw_in_4, ⟨by decide +kernel, by decide +kernel⟩, by decide +kernel, ⟨xw_l_5_96, xw_i_M_lacks, xw_v_M_lacks, by decide +kernel⟩⟩
theorem xr_5_97 : xCLP (5, 97, mS_piece, 1, 3) := ⟨yS_piece, cS_piece, 5, (some .int), 2, rfl, xw_c_S_piece, xw_in_3, ⟨by decide +kernel, by decide +kernel⟩, by decide +kernel, ⟨xw_l_5_97, xw_i_S_piece, xw_v_S_piece, by decide +kernel⟩⟩
theorem xr_5_100 : xCLP (5, 100, mM_piece, 1, 4) := ⟨yM_piece, cM_piece, 4, (some .int), 2, rfl, xw_c_M_piece, xw_in_4, ⟨by decide +kernel, by decide +kernel⟩, by decide +kernel, ⟨xw_l_5_100, xw_i_M_piece, xw_v_M_piece, by decide +kernel⟩⟩
theorem xr_5_101 : xCLP (5, 101, mS_aim, 1, 3) := ⟨yS_aim, cS_aim, 3, (some .long), 1, rfl, xw_c_S_aim, xw_in_3, ⟨by decide +kernel, by decide +kernel⟩, by decide +kernel, ⟨xw_l_5_101, xw_i_S_aim, xw_v_S_aim, by decide +kernel⟩⟩
theorem xr_5_105 : xCLP (5, 105, mM_aim, 1, 4) := ⟨yM_aim, cM_aim, 2, (some .long), 1, rfl, xw_c_M_aim, xw_in_4, ⟨by decide +kernel, by decide +kernel⟩, by decide +kernel, ⟨xw_l_5_105, xw_i_M_aim, xw_v_M_aim, by decide +kernel⟩⟩
theorem xr_5_106 : xCLP (5, 106, mS_value, 1, 3) := ⟨yS_value, cS_value, 3, (some .int), 1, rfl, xw_c_S_value, xw_in_3, ⟨by decide +kernel, by decide +kernel⟩, by decide +kernel, ⟨xw_l_5_106, xw_i_S_value, xw_v_S_value, by decide +kernel⟩⟩
theorem xr_5_110 : xCLP (5, 110, mM_value, 1, 4) := ⟨yM_value, cM_value, 2, (some .int), 1, rfl, xw_c_M_value, xw_in_4, ⟨by decide +kernel, by decide +kernel⟩, by decide +kernel, ⟨xw_l_5_110, xw_i_M_value, xw_v_M_value, by decide +kernel⟩⟩
theorem xr_5_111 : xCLP (5, 111, mS_span, 1, 3) := ⟨yS_span, cS_span, 4, (some .int), 2, rfl, xw_c_S_span, xw_in_3, ⟨by decide +kernel, by decide +kernel⟩, by decide +kernel, ⟨xw_l_5_111, xw_i_S_span, xw_v_S_span, by decide +kernel⟩⟩
theorem xr_5_114 : xCLP (5, 114, mM_span, 1, 4) := ⟨yM_span, cM_span, 3, (some .int), 2, rfl, xw_c_M_span, xw_in_4, ⟨by decide +kernel, by decide +kernel⟩, by decide +kernel, ⟨xw_l_5_114, xw_i_M_span, xw_v_M_span, by decide +kernel⟩⟩
theorem xr_5_115 : xCLP (5, 115, mS_output, 1, 3) := ⟨yS_output, cS_output, 3, (some .int), 2, rfl, xw_c_S_output, xw_in_3, ⟨by decide +kernel, by decide +kernel⟩, by decide +kernel, ⟨xw_l_5_115, xw_i_S_output, xw_v_S_output, by decide +kernel⟩⟩
theorem xr_5_118 : xCLP (5, 118, mM_output, 1, 4) := ⟨yM_output, cM_output, 3, (some .int), 2, rfl, xw_c_M_output, xw_in_4, ⟨by decide +kernel, by decide +kernel⟩, by decide +kernel, ⟨xw_l_5_118, xw_i_M_output, xw_v_M_output, by decide +kernel⟩⟩
theorem xr_5_119 : xCLP (5, 119, mS_saved, 1, 3) := ⟨yS_saved, cS_saved, 6, (some .int), 0, rfl, xw_c_S_saved, xw_in_3, ⟨by decide +kernel, by decide +kernel⟩, by decide +kernel, ⟨xw_l_5_119, xw_i_S_saved, xw_v_S_saved, by decide +kernel⟩⟩
theorem xr_5_122 : xCLP (5, 122, mM_saved, 1, 4) := ⟨yM_saved, cM_saved, 3, (some .int), 0, rfl, xw_c_M_saved, xw_in_4, ⟨by decide +kernel, by decide +kernel⟩, by decide +kernel, ⟨xw_l_5_122, xw_i_M_saved, xw_v_M_saved, by decide +kernel⟩⟩
set_option maxRecDepth 100000 in
theorem xCL_ok : ∀ r ∈ xCL, xCLP r := xa_c xr_3_41 (xa_c xr_3_45 (xa_c xr_3_48 (xa_c xr_3_51 (xa_c xr_3_57 (xa_c xr_3_61 (xa_c xr_3_64 (xa_c xr_3_68 (xa_c xr_3_77 (xa_c xr_3_78 (xa_c xr_3_82 (xa_c xr_3_111 (xa_c xr_3_115 (xa_c xr_3_119 (xa_c xr_3_122 (xa_c xr_3_125 (xa_c xr_3_141 (xa_c xr_3_157 (xa_c xr_3_166 (xa_c xr_3_170 (xa_c xr_3_183 (xa_c xr_3_189 (xa_c xr_3_193 (xa_c xr_3_197 (xa_c xr_3_200 (xa_c xr_3_203 (xa_c xr_3_211 (xa_c xr_3_222 (xa_c xr_3_226 (xa_c xr_3_242 (xa_c xr_4_87 (xa_c xr_4_100 (xa_c xr_4_104 (xa_c xr_4_107 (xa_c xr_4_111 (xa_c xr_4_114 (xa_c xr_4_117 (xa_c xr_4_120 (xa_c xr_4_128 (xa_c xr_4_131 (xa_c xr_4_134 (xa_c xr_4_140 (xa_c xr_4_154 (xa_c xr_4_158 (xa_c xr_4_162 (xa_c xr_4_166 (xa_c xr_4_170 (xa_c xr_4_173 (xa_c xr_4_176 (xa_c xr_4_180 (xa_c xr_4_183 (xa_c xr_5_9 (xa_c xr_5_12 (xa_c xr_5_13 (xa_c xr_5_17 (xa_c xr_5_18 (xa_c xr_5_21 (xa_c xr_5_22 (xa_c xr_5_26 (xa_c xr_5_27 (xa_c xr_5_30 (xa_c xr_5_31 (xa_c xr_5_35 (xa_c xr_5_36 (xa_c xr_5_39 (xa_c xr_5_40 (xa_c xr_5_44 (xa_c xr_5_45 (xa_c xr_5_49 (xa_c xr_5_50 (xa_c xr_5_54 (xa_c xr_5_55 (xa_c xr_5_59 (xa_c xr_5_60 (xa_c xr_5_64 (xa_c xr_5_65 (xa_c xr_5_68 (xa_c xr_5_69 (xa_c xr_5_72 (xa_c xr_5_73 (xa_c xr_5_76 (xa_c xr_5_77 (xa_c xr_5_80 (xa_c xr_5_81 (xa_c xr_5_84 (xa_c xr_5_85 (xa_c xr_5_88 (xa_c xr_5_89 (xa_c xr_5_92 (xa_c xr_5_93 (xa_c xr_5_96 (xa_c xr_5_97 (xa_c xr_5_100 (xa_c xr_5_101 (xa_c xr_5_105 (xa_c xr_5_106 (xa_c xr_5_110 (xa_c xr_5_111 (xa_c xr_5_114 (xa_c xr_5_115 (xa_c xr_5_118 (xa_c xr_5_119 (xa_c xr_5_122 xa_n))))))))))))))))))))))))))))))))))))))))))))))))))))))))))))))))))))))))))))))))))))))))))))))))))))))
theorem xf_3_11 : xfl 3 11 = some (3, 0, true, .array (.object "ShrinkLayout$Part")) := by decide +kernel
theorem xf_3_17 : xfl 3 17 = some (3, 1, true, .array (.object "ShrinkLayout$Piece")) := by decide +kernel
theorem xf_3_23 : xfl 3 23 = some (3, 2, true, .array (.object "ShrinkLayout$Label")) := by decide +kernel
theorem xf_3_27 : xfl 3 27 = some (3, 3, true, .array (.int)) := by decide +kernel
theorem xf_3_31 : xfl 3 31 = some (3, 4, true, .array (.int)) := by decide +kernel
theorem xf_3_34 : xfl 3 34 = some (3, 5, true, .array (.int)) := by decide +kernel
theorem xf_3_37 : xfl 3 37 = some (3, 6, false, .int) := by decide +kernel
theorem xf_3_186 : xfl 3 186 = some (3, 7, false, .int) := by decide +kernel
theorem xf_3_74 : xfl 3 74 = some (3, 8, false, .int) := by decide +kernel
theorem xf_3_101 : xfl 3 101 = some (3, 9, false, .int) := by decide +kernel
theorem xf_1_7 : xfl 1 7 = some (1, 0, true, .int) := by decide +kernel
theorem xf_3_161 : xfl 3 161 = some (1, 0, true, .int) := by decide +kernel
theorem xf_1_13 : xfl 1 13 = some (1, 1, true, .int) := by decide +kernel
theorem xf_3_174 : xfl 3 174 = some (1, 1, true, .int) := by decide +kernel
theorem xf_1_16 : xfl 1 16 = some (1, 2, true, .int) := by decide +kernel
theorem xf_3_207 : xfl 3 207 = some (1, 2, true, .int) := by decide +kernel
theorem xf_3_108 : xfl 3 108 = some (1, 3, false, .boolean) := by decide +kernel
theorem xf_3_104 : xfl 3 104 = some (1, 4, false, .boolean) := by decide +kernel
theorem xf_3_177 : xfl 3 177 = some (1, 5, false, .int) := by decide +kernel
theorem xf_3_180 : xfl 3 180 = some (1, 6, false, .int) := by decide +kernel
theorem xf_1_23 : xfl 1 23 = some (1, 7, false, .object "ShrinkLayout$Piece") := by decide +kernel
theorem xf_3_208 : xfl 3 208 = some (1, 7, false, .object "ShrinkLayout$Piece") := by decide +kernel
theorem xf_1_19 : xfl 1 19 = some (1, 8, false, .object "ShrinkLayout$Piece") := by decide +kernel
theorem xf_2_9 : xfl 2 9 = some (2, 0, true, .int) := by decide +kernel
theorem xf_3_86 : xfl 3 86 = some (2, 0, true, .int) := by decide +kernel
theorem xf_2_15 : xfl 2 15 = some (2, 1, true, .object "ShrinkLayout$Part") := by decide +kernel
theorem xf_3_144 : xfl 3 144 = some (2, 1, true, .object "ShrinkLayout$Part") := by decide +kernel
theorem xf_2_19 : xfl 2 19 = some (2, 2, true, .object "ShrinkLayout$Label") := by decide +kernel
theorem xf_3_128 : xfl 3 128 = some (2, 2, true, .object "ShrinkLayout$Label") := by decide +kernel
theorem xf_2_23 : xfl 2 23 = some (2, 3, true, .int) := by decide +kernel
theorem xf_3_248 : xfl 3 248 = some (2, 3, true, .int) := by decide +kernel
theorem xf_2_26 : xfl 2 26 = some (2, 4, true, .boolean) := by decide +kernel
theorem xf_3_219 : xfl 3 219 = some (2, 4, true, .boolean) := by decide +kernel
theorem xf_2_30 : xfl 2 30 = some (2, 5, true, .int) := by decide +kernel
theorem xf_3_154 : xfl 3 154 = some (2, 5, true, .int) := by decide +kernel
theorem xf_2_33 : xfl 2 33 = some (2, 6, true, .int) := by decide +kernel
theorem xf_3_89 : xfl 3 89 = some (2, 6, true, .int) := by decide +kernel
theorem xf_2_36 : xfl 2 36 = some (2, 7, true, .int) := by decide +kernel
theorem xf_3_132 : xfl 3 132 = some (2, 7, true, .int) := by decide +kernel
theorem xf_2_39 : xfl 2 39 = some (2, 8, false, .int) := by decide +kernel
theorem xf_3_135 : xfl 3 135 = some (2, 8, false, .int) := by decide +kernel
theorem xf_3_151 : xfl 3 151 = some (2, 9, false, .int) := by decide +kernel
theorem xf_3_148 : xfl 3 148 = some (2, 10, false, .int) := by decide +kernel
theorem xf_3_138 : xfl 3 138 = some (2, 11, false, .boolean) := by decide +kernel
theorem xf_1_26 : xfl 1 26 = some (2, 12, false, .object "ShrinkLayout$Piece") := by decide +kernel
theorem xf_3_216 : xfl 3 216 = some (2, 12, false, .object "ShrinkLayout$Piece") := by decide +kernel
theorem xf_3_92 : xfl 3 92 = some (0, 0, false, .object "ShrinkLayout$Piece") := by decide +kernel
theorem xf_3_96 : xfl 3 96 = some (0, 1, false, .int) := by decide +kernel
theorem xf_4_97 : xfl 4 97 = some (4, 0, false, .int) := by decide +kernel
theorem xf_4_7 : xfl 4 7 = some (4, 1, true, .array (.int)) := by decide +kernel
theorem xf_4_13 : xfl 4 13 = some (4, 2, true, .array (.int)) := by decide +kernel
theorem xf_4_16 : xfl 4 16 = some (4, 3, true, .array (.int)) := by decide +kernel
theorem xf_4_83 : xfl 4 83 = some (4, 4, false, .int) := by decide +kernel
theorem xf_4_19 : xfl 4 19 = some (4, 5, true, .array (.int)) := by decide +kernel
theorem xf_4_22 : xfl 4 22 = some (4, 6, true, .array (.int)) := by decide +kernel
theorem xf_4_25 : xfl 4 25 = some (4, 7, true, .array (.boolean)) := by decide +kernel
theorem xf_4_29 : xfl 4 29 = some (4, 8, true, .array (.boolean)) := by decide +kernel
theorem xf_4_32 : xfl 4 32 = some (4, 9, true, .array (.boolean)) := by decide +kernel
theorem xf_4_35 : xfl 4 35 = some (4, 10, true, .array (.int)) := by decide +kernel
theorem xf_4_38 : xfl 4 38 = some (4, 11, true, .array (.int)) := by decide +kernel
theorem xf_4_91 : xfl 4 91 = some (4, 12, false, .int) := by decide +kernel
theorem xf_4_41 : xfl 4 41 = some (4, 13, true, .array (.int)) := by decide +kernel
theorem xf_4_44 : xfl 4 44 = some (4, 14, true, .array (.int)) := by decide +kernel
theorem xf_4_47 : xfl 4 47 = some (4, 15, true, .array (.int)) := by decide +kernel
theorem xf_4_50 : xfl 4 50 = some (4, 16, true, .array (.int)) := by decide +kernel
theorem xf_4_53 : xfl 4 53 = some (4, 17, true, .array (.int)) := by decide +kernel
theorem xf_4_56 : xfl 4 56 = some (4, 18, true, .array (.int)) := by decide +kernel
theorem xf_4_59 : xfl 4 59 = some (4, 19, true, .array (.int)) := by decide +kernel
theorem xf_4_62 : xfl 4 62 = some (4, 20, true, .array (.boolean)) := by decide +kernel
theorem xf_4_65 : xfl 4 65 = some (4, 21, true, .array (.boolean)) := by decide +kernel
theorem xf_4_68 : xfl 4 68 = some (4, 22, true, .array (.int)) := by decide +kernel
theorem xf_4_71 : xfl 4 71 = some (4, 23, true, .array (.int)) := by decide +kernel
theorem xf_4_74 : xfl 4 74 = some (4, 24, true, .array (.int)) := by decide +kernel
theorem xf_4_94 : xfl 4 94 = some (4, 25, false, .int) := by decide +kernel
theorem xf_4_77 : xfl 4 77 = some (4, 26, true, .array (.int)) := by decide +kernel
theorem xf_4_80 : xfl 4 80 = some (4, 27, true, .array (.int)) := by decide +kernel
theorem xe_3_9 : xnc 3 9 = some (1, 9) := by decide +kernel
theorem xe_3_15 : xnc 3 15 = some (2, 13) := by decide +kernel
theorem xe_3_21 : xnc 3 21 = some (0, 2) := by decide +kernel
theorem xe_5_7 : xnc 5 7 = some (3, 10) := by decide +kernel
theorem xe_5_10 : xnc 5 10 = some (4, 28) := by decide +kernel
theorem xg_3_9 : xna 3 9 = some 2001 := by decide +kernel
theorem xg_3_15 : xna 3 15 = some 2002 := by decide +kernel
theorem xg_3_21 : xna 3 21 = some 2003 := by decide +kernel
theorem xk_4_157 : xki 4 157 = some (4194304) := by decide +kernel
theorem xk_4_169 : xki 4 169 = some (1048576) := by decide +kernel
theorem xj_3_164 : xkl 3 164 = some (1099511627776) := by decide +kernel
theorem xj_3_230 : xkl 3 230 = some (-2048) := by decide +kernel
theorem xj_3_232 : xkl 3 232 = some (2046) := by decide +kernel
theorem xj_3_234 : xkl 3 234 = some (-1048576) := by decide +kernel
theorem xj_3_236 : xkl 3 236 = some (1048574) := by decide +kernel
theorem xj_3_238 : xkl 3 238 = some (2047) := by decide +kernel
theorem xj_3_240 : xkl 3 240 = some (2048) := by decide +kernel
theorem xj_3_246 : xkl 3 246 = some (31) := by decide +kernel
theorem xj_3_251 : xkl 3 251 = some (3) := by decide +kernel
theorem xj_3_253 : xkl 3 253 = some (12) := by decide +kernel
theorem xj_3_55 : xkl 3 55 = some (4194304) := by decide +kernel
theorem xj_3_72 : xkl 3 72 = some (4096) := by decide +kernel
theorem xj_3_99 : xkl 3 99 = some (1048576) := by decide +kernel
theorem xj_4_124 : xkl 4 124 = some (-2048) := by decide +kernel
theorem xj_4_126 : xkl 4 126 = some (2047) := by decide +kernel
theorem xj_4_138 : xkl 4 138 = some (2) := by decide +kernel
theorem xj_4_144 : xkl 4 144 = some (-1048576) := by decide +kernel
theorem xj_4_146 : xkl 4 146 = some (1048574) := by decide +kernel
theorem xj_4_148 : xkl 4 148 = some (2048) := by decide +kernel
theorem xj_4_150 : xkl 4 150 = some (4096) := by decide +kernel
theorem xj_4_152 : xkl 4 152 = some (131072) := by decide +kernel
theorem xj_4_186 : xkl 4 186 = some (1099511627776) := by decide +kernel
theorem xo_0_1 : xoi 0 1 = true := by decide +kernel
theorem xo_1_1 : xoi 1 1 = true := by decide +kernel
theorem xo_2_3 : xoi 2 3 = true := by decide +kernel
theorem xo_3_3 : xoi 3 3 = true := by decide +kernel
theorem xo_4_1 : xoi 4 1 = true := by decide +kernel
theorem xh_3_41 : xcl 3 41 = some (mS_isOutput, 0, 3) := by decide +kernel
theorem xh_3_45 : xcl 3 45 = some (mS_isPower, 0, 3) := by decide +kernel
theorem xh_3_48 : xcl 3 48 = some (mP_init, 2, 1) := by decide +kernel
theorem xh_3_51 : xcl 3 51 = some (mS_partAt, 1, 3) := by decide +kernel
theorem xh_3_57 : xcl 3 57 = some (mS_isWithin, 0, 3) := by decide +kernel
theorem xh_3_61 : xcl 3 61 = some (mQ_init, 2, 2) := by decide +kernel
theorem xh_3_64 : xcl 3 64 = some (mS_addPiece, 1, 3) := by decide +kernel
theorem xh_3_68 : xcl 3 68 = some (mS_addAimed, 1, 3) := by decide +kernel
theorem xh_3_77 : xcl 3 77 = some (mB_init, 3, 0) := by decide +kernel
theorem xh_3_78 : xcl 3 78 = some (mS_labelAt, 1, 3) := by decide +kernel
theorem xh_3_82 : xcl 3 82 = some (mS_pieceAt, 1, 3) := by decide +kernel
theorem xh_3_111 : xcl 3 111 = some (mS_bringWhatIsLedTo, 1, 3) := by decide +kernel
theorem xh_3_115 : xcl 3 115 = some (mS_countGone, 1, 3) := by decide +kernel
theorem xh_3_119 : xcl 3 119 = some (mS_makePass, 1, 3) := by decide +kernel
theorem xh_3_122 : xcl 3 122 = some (mS_makePasses, 1, 3) := by decide +kernel
theorem xh_3_125 : xcl 3 125 = some (mS_fixWhatDoesNotHold, 1, 3) := by decide +kernel
theorem xh_3_141 : xcl 3 141 = some (mS_survey, 1, 3) := by decide +kernel
theorem xh_3_157 : xcl 3 157 = some (mS_bytesToMultiple, 0, 3) := by decide +kernel
theorem xh_3_166 : xcl 3 166 = some (mS_aimOf, 0, 3) := by decide +kernel
theorem xh_3_170 : xcl 3 170 = some (mS_valueOf, 0, 3) := by decide +kernel
theorem xh_3_183 : xcl 3 183 = some (mQ_init2, 2, 2) := by decide +kernel
theorem xh_3_189 : xcl 3 189 = some (mP_append, 1, 1) := by decide +kernel
theorem xh_3_193 : xcl 3 193 = some (mS_partLedTo, 0, 3) := by decide +kernel
theorem xh_3_197 : xcl 3 197 = some (mS_placeOutput, 1, 3) := by decide +kernel
theorem xh_3_200 : xcl 3 200 = some (mS_leastSize, 1, 3) := by decide +kernel
theorem xh_3_203 : xcl 3 203 = some (mS_placePart, 0, 3) := by decide +kernel
theorem xh_3_211 : xcl 3 211 = some (mA_min, 0, 0) := by decide +kernel
theorem xh_3_222 : xcl 3 222 = some (mS_leastCall, 0, 3) := by decide +kernel
theorem xh_3_226 : xcl 3 226 = some (mS_leastLoad, 0, 3) := by decide +kernel
theorem xh_3_242 : xcl 3 242 = some (mA_floorDiv, 0, 0) := by decide +kernel
theorem xh_4_87 : xcl 4 87 = some (mM_within, 0, 4) := by decide +kernel
theorem xh_4_100 : xcl 4 100 = some (mM_roundUp, 0, 4) := by decide +kernel
theorem xh_4_104 : xcl 4 104 = some (mM_lay, 1, 4) := by decide +kernel
theorem xh_4_107 : xcl 4 107 = some (mM_isLabel, 1, 4) := by decide +kernel
theorem xh_4_111 : xcl 4 111 = some (mM_isGone, 1, 4) := by decide +kernel
theorem xh_4_114 : xcl 4 114 = some (mM_shrinks, 1, 4) := by decide +kernel
theorem xh_4_117 : xcl 4 117 = some (mM_hasValue, 1, 4) := by decide +kernel
theorem xh_4_120 : xcl 4 120 = some (mM_valueOf, 1, 4) := by decide +kernel
theorem xh_4_128 : xcl 4 128 = some (mM_hasAim, 1, 4) := by decide +kernel
theorem xh_4_131 : xcl 4 131 = some (mM_greatest, 0, 4) := by decide +kernel
theorem xh_4_134 : xcl 4 134 = some (mM_aimOf, 1, 4) := by decide +kernel
theorem xh_4_140 : xcl 4 140 = some (mM_isNear, 0, 4) := by decide +kernel
theorem xh_4_154 : xcl 4 154 = some (mM_isPart, 1, 4) := by decide +kernel
theorem xh_4_158 : xcl 4 158 = some (mM_added, 1, 4) := by decide +kernel
theorem xh_4_162 : xcl 4 162 = some (mM_aimed, 1, 4) := by decide +kernel
theorem xh_4_166 : xcl 4 166 = some (mM_isPiece, 1, 4) := by decide +kernel
theorem xh_4_170 : xcl 4 170 = some (mM_reckon, 1, 4) := by decide +kernel
theorem xh_4_173 : xcl 4 173 = some (mM_leastOf, 1, 4) := by decide +kernel
theorem xh_4_176 : xcl 4 176 = some (mM_pass, 1, 4) := by decide +kernel
theorem xh_4_180 : xcl 4 180 = some (mM_shrink, 1, 4) := by decide +kernel
theorem xh_4_183 : xcl 4 183 = some (mM_isTight, 1, 4) := by decide +kernel
theorem xh_5_9 : xcl 5 9 = some (mS_init, 2, 3) := by decide +kernel
theorem xh_5_12 : xcl 5 12 = some (mM_init, 2, 4) := by decide +kernel
theorem xh_5_13 : xcl 5 13 = some (mS_part, 1, 3) := by decide +kernel
theorem xh_5_17 : xcl 5 17 = some (mM_part, 1, 4) := by decide +kernel
theorem xh_5_18 : xcl 5 18 = some (mS_plain, 1, 3) := by decide +kernel
theorem xh_5_21 : xcl 5 21 = some (mM_plain, 1, 4) := by decide +kernel
theorem xh_5_22 : xcl 5 22 = some (mS_call, 1, 3) := by decide +kernel
theorem xh_5_26 : xcl 5 26 = some (mM_call, 1, 4) := by decide +kernel
theorem xh_5_27 : xcl 5 27 = some (mS_upper, 1, 3) := by decide +kernel
theorem xh_5_30 : xcl 5 30 = some (mM_upper, 1, 4) := by decide +kernel
theorem xh_5_31 : xcl 5 31 = some (mS_near, 1, 3) := by decide +kernel
theorem xh_5_35 : xcl 5 35 = some (mM_near, 1, 4) := by decide +kernel
theorem xh_5_36 : xcl 5 36 = some (mS_fill, 1, 3) := by decide +kernel
theorem xh_5_39 : xcl 5 39 = some (mM_fill, 1, 4) := by decide +kernel
theorem xh_5_40 : xcl 5 40 = some (mS_label, 1, 3) := by decide +kernel
theorem xh_5_44 : xcl 5 44 = some (mM_label, 1, 4) := by decide +kernel
theorem xh_5_45 : xcl 5 45 = some (mS_put, 1, 3) := by decide +kernel
theorem xh_5_49 : xcl 5 49 = some (mM_put, 1, 4) := by decide +kernel
theorem xh_5_50 : xcl 5 50 = some (mS_base, 1, 3) := by decide +kernel
theorem xh_5_54 : xcl 5 54 = some (mM_base, 1, 4) := by decide +kernel
theorem xh_5_55 : xcl 5 55 = some (mS_align, 1, 3) := by decide +kernel
theorem xh_5_59 : xcl 5 59 = some (mM_align, 1, 4) := by decide +kernel
theorem xh_5_60 : xcl 5 60 = some (mS_root, 1, 3) := by decide +kernel
theorem xh_5_64 : xcl 5 64 = some (mM_root, 1, 4) := by decide +kernel
theorem xh_5_65 : xcl 5 65 = some (mS_sweep, 1, 3) := by decide +kernel
theorem xh_5_68 : xcl 5 68 = some (mM_sweep, 1, 4) := by decide +kernel
theorem xh_5_69 : xcl 5 69 = some (mS_back, 1, 3) := by decide +kernel
theorem xh_5_72 : xcl 5 72 = some (mM_back, 1, 4) := by decide +kernel
theorem xh_5_73 : xcl 5 73 = some (mS_pass, 1, 3) := by decide +kernel
theorem xh_5_76 : xcl 5 76 = some (mM_pass, 1, 4) := by decide +kernel
theorem xh_5_77 : xcl 5 77 = some (mS_shrink, 1, 3) := by decide +kernel
theorem xh_5_80 : xcl 5 80 = some (mM_shrink, 1, 4) := by decide +kernel
theorem xh_5_81 : xcl 5 81 = some (mS_settle, 1, 3) := by decide +kernel
theorem xh_5_84 : xcl 5 84 = some (mM_settle, 1, 4) := by decide +kernel
theorem xh_5_85 : xcl 5 85 = some (mS_reset, 1, 3) := by decide +kernel
theorem xh_5_88 : xcl 5 88 = some (mM_reset, 1, 4) := by decide +kernel
theorem xh_5_89 : xcl 5 89 = some (mS_holds, 1, 3) := by decide +kernel
theorem xh_5_92 : xcl 5 92 = some (mM_holds, 1, 4) := by decide +kernel
theorem xh_5_93 : xcl 5 93 = some (mS_lacks, 1, 3) := by decide +kernel
theorem xh_5_96 : xcl 5 96 = some (mM_lacks, 1, 4) := by decide +kernel
theorem xh_5_97 : xcl 5 97 = some (mS_piece, 1, 3) := by decide +kernel
theorem xh_5_100 : xcl 5 100 = some (mM_piece, 1, 4) := by decide +kernel
theorem xh_5_101 : xcl 5 101 = some (mS_aim, 1, 3) := by decide +kernel
theorem xh_5_105 : xcl 5 105 = some (mM_aim, 1, 4) := by decide +kernel
theorem xh_5_106 : xcl 5 106 = some (mS_value, 1, 3) := by decide +kernel
theorem xh_5_110 : xcl 5 110 = some (mM_value, 1, 4) := by decide +kernel
theorem xh_5_111 : xcl 5 111 = some (mS_span, 1, 3) := by decide +kernel
theorem xh_5_114 : xcl 5 114 = some (mM_span, 1, 4) := by decide +kernel
theorem xh_5_115 : xcl 5 115 = some (mS_output, 1, 3) := by decide +kernel
theorem xh_5_118 : xcl 5 118 = some (mM_output, 1, 4) := by decide +kernel
theorem xh_5_119 : xcl 5 119 = some (mS_saved, 1, 3) := by decide +kernel
theorem xh_5_122 : xcl 5 122 = some (mM_saved, 1, 4) := by decide +kernel
theorem xm_S_init : xmi mS_init = some (yS_init, cS_init, 1, none, 2, 0) := rfl
theorem xm_S_part : xmi mS_part = some (yS_part, cS_part, 3, (some .int), 1, 2) := rfl
theorem xm_S_isOutput : xmi mS_isOutput = some (yS_isOutput, cS_isOutput, 1, (some .boolean), 0, 1) := rfl
theorem xm_S_isWithin : xmi mS_isWithin = some (yS_isWithin, cS_isWithin, 6, (some .boolean), 0, 3) := rfl
theorem xm_S_isPower : xmi mS_isPower = some (yS_isPower, cS_isPower, 1, (some .boolean), 0, 1) := rfl
theorem xm_P_init : xmi mP_init = some (yP_init, cP_init, 4, none, 2, 3) := rfl
theorem xm_S_plain : xmi mS_plain = some (yS_plain, cS_plain, 4, (some .int), 1, 2) := rfl
theorem xm_Q_init : xmi mQ_init = some (yQ_init, cQ_init, 5, none, 2, 4) := rfl
theorem xm_S_addPiece : xmi mS_addPiece = some (yS_addPiece, cS_addPiece, 2, (some .int), 1, 1) := rfl
theorem xm_P_append : xmi mP_append = some (yP_append, cP_append, 2, none, 1, 1) := rfl
theorem xm_S_call : xmi mS_call = some (yS_call, cS_call, 5, (some .int), 1, 4) := rfl
theorem xm_S_addAimed : xmi mS_addAimed = some (yS_addAimed, cS_addAimed, 8, (some .int), 1, 5) := rfl
theorem xm_Q_init2 : xmi mQ_init2 = some (yQ_init2, cQ_init2, 6, none, 2, 5) := rfl
theorem xm_S_upper : xmi mS_upper = some (yS_upper, cS_upper, 5, (some .int), 1, 4) := rfl
theorem xm_S_near : xmi mS_near = some (yS_near, cS_near, 4, (some .int), 1, 3) := rfl
theorem xm_S_fill : xmi mS_fill = some (yS_fill, cS_fill, 5, (some .int), 1, 3) := rfl
theorem xm_S_label : xmi mS_label = some (yS_label, cS_label, 1, (some .int), 1, 0) := rfl
theorem xm_B_init : xmi mB_init = some (yB_init, cB_init, 1, none, 3, 0) := rfl
theorem xm_S_put : xmi mS_put = some (yS_put, cS_put, 7, (some .boolean), 1, 3) := rfl
theorem xm_S_base : xmi mS_base = some (yS_base, cS_base, 2, (some .boolean), 1, 1) := rfl
theorem xm_S_align : xmi mS_align = some (yS_align, cS_align, 3, (some .boolean), 1, 2) := rfl
theorem xm_S_root : xmi mS_root = some (yS_root, cS_root, 4, (some .boolean), 1, 2) := rfl
theorem xm_S_sweep : xmi mS_sweep = some (yS_sweep, cS_sweep, 5, (some .int), 1, 0) := rfl
theorem xm_S_bringWhatIsLedTo : xmi mS_bringWhatIsLedTo = some (yS_bringWhatIsLedTo, cS_bringWhatIsLedTo, 7, (some .boolean), 1, 0) := rfl
theorem xm_S_countGone : xmi mS_countGone = some (yS_countGone, cS_countGone, 6, (some .int), 1, 0) := rfl
theorem xm_S_back : xmi mS_back = some (yS_back, cS_back, 5, none, 1, 0) := rfl
theorem xm_S_pass : xmi mS_pass = some (yS_pass, cS_pass, 1, (some .int), 1, 0) := rfl
theorem xm_S_makePass : xmi mS_makePass = some (yS_makePass, cS_makePass, 6, (some .int), 1, 0) := rfl
theorem xm_S_survey : xmi mS_survey = some (yS_survey, cS_survey, 6, none, 1, 0) := rfl
theorem xm_S_placeOutput : xmi mS_placeOutput = some (yS_placeOutput, cS_placeOutput, 8, (some .int), 1, 2) := rfl
theorem xm_S_bytesToMultiple : xmi mS_bytesToMultiple = some (yS_bytesToMultiple, cS_bytesToMultiple, 2, (some .int), 0, 2) := rfl
theorem xm_S_placePart : xmi mS_placePart = some (yS_placePart, cS_placePart, 4, (some .int), 0, 2) := rfl
theorem xm_A_min : xmi mA_min = some (yA_min, cA_min, 2, (some .int), 0, 2) := rfl
theorem xm_S_leastSize : xmi mS_leastSize = some (yS_leastSize, cS_leastSize, 4, (some .int), 1, 1) := rfl
theorem xm_S_aimOf : xmi mS_aimOf = some (yS_aimOf, cS_aimOf, 2, (some .long), 0, 1) := rfl
theorem xm_S_valueOf : xmi mS_valueOf = some (yS_valueOf, cS_valueOf, 2, (some .int), 0, 1) := rfl
theorem xm_S_leastCall : xmi mS_leastCall = some (yS_leastCall, cS_leastCall, 4, (some .int), 0, 2) := rfl
theorem xm_S_leastLoad : xmi mS_leastLoad = some (yS_leastLoad, cS_leastLoad, 5, (some .int), 0, 3) := rfl
theorem xm_A_floorDiv : xmi mA_floorDiv = some (yA_floorDiv, cA_floorDiv, 6, (some .long), 0, 2) := rfl
theorem xm_S_shrink : xmi mS_shrink = some (yS_shrink, cS_shrink, 1, (some .int), 1, 0) := rfl
theorem xm_S_makePasses : xmi mS_makePasses = some (yS_makePasses, cS_makePasses, 3, (some .int), 1, 0) := rfl
theorem xm_S_settle : xmi mS_settle = some (yS_settle, cS_settle, 4, (some .int), 1, 0) := rfl
theorem xm_S_fixWhatDoesNotHold : xmi mS_fixWhatDoesNotHold = some (yS_fixWhatDoesNotHold, cS_fixWhatDoesNotHold, 6, (some .int), 1, 0) := rfl
theorem xm_S_reset : xmi mS_reset = some (yS_reset, cS_reset, 5, none, 1, 0) := rfl
theorem xm_S_holds : xmi mS_holds = some (yS_holds, cS_holds, 3, (some .int), 1, 0) := rfl
theorem xm_S_lacks : xmi mS_lacks = some (yS_lacks, cS_lacks, 3, (some .int), 1, 0) := rfl
theorem xm_S_piece : xmi mS_piece = some (yS_piece, cS_piece, 5, (some .int), 1, 2) := rfl
theorem xm_S_aim : xmi mS_aim = some (yS_aim, cS_aim, 3, (some .long), 1, 1) := rfl
theorem xm_S_value : xmi mS_value = some (yS_value, cS_value, 3, (some .int), 1, 1) := rfl
theorem xm_S_span : xmi mS_span = some (yS_span, cS_span, 4, (some .int), 1, 2) := rfl
theorem xm_S_output : xmi mS_output = some (yS_output, cS_output, 3, (some .int), 1, 2) := rfl
theorem xm_S_saved : xmi mS_saved = some (yS_saved, cS_saved, 6, (some .int), 1, 0) := rfl
theorem xm_M_init : xmi mM_init = some (yM_init, cM_init, 1, none, 2, 0) := rfl
theorem xm_M_part : xmi mM_part = some (yM_part, cM_part, 3, (some .int), 1, 2) := rfl
theorem xm_M_within : xmi mM_within = some (yM_within, cM_within, 3, (some .boolean), 0, 3) := rfl
theorem xm_M_plain : xmi mM_plain = some (yM_plain, cM_plain, 3, (some .int), 1, 2) := rfl
theorem xm_M_isPart : xmi mM_isPart = some (yM_isPart, cM_isPart, 2, (some .boolean), 1, 1) := rfl
theorem xm_M_added : xmi mM_added = some (yM_added, cM_added, 4, (some .int), 1, 3) := rfl
theorem xm_M_call : xmi mM_call = some (yM_call, cM_call, 5, (some .int), 1, 4) := rfl
theorem xm_M_aimed : xmi mM_aimed = some (yM_aimed, cM_aimed, 6, (some .int), 1, 5) := rfl
theorem xm_M_isLabel : xmi mM_isLabel = some (yM_isLabel, cM_isLabel, 2, (some .boolean), 1, 1) := rfl
theorem xm_M_greatest : xmi mM_greatest = some (yM_greatest, cM_greatest, 1, (some .int), 0, 1) := rfl
theorem xm_M_upper : xmi mM_upper = some (yM_upper, cM_upper, 5, (some .int), 1, 4) := rfl
theorem xm_M_near : xmi mM_near = some (yM_near, cM_near, 4, (some .int), 1, 3) := rfl
theorem xm_M_fill : xmi mM_fill = some (yM_fill, cM_fill, 4, (some .int), 1, 3) := rfl
theorem xm_M_label : xmi mM_label = some (yM_label, cM_label, 1, (some .int), 1, 0) := rfl
theorem xm_M_put : xmi mM_put = some (yM_put, cM_put, 4, (some .boolean), 1, 3) := rfl
theorem xm_M_isPiece : xmi mM_isPiece = some (yM_isPiece, cM_isPiece, 2, (some .boolean), 1, 1) := rfl
theorem xm_M_base : xmi mM_base = some (yM_base, cM_base, 2, (some .boolean), 1, 1) := rfl
theorem xm_M_align : xmi mM_align = some (yM_align, cM_align, 3, (some .boolean), 1, 2) := rfl
theorem xm_M_root : xmi mM_root = some (yM_root, cM_root, 3, (some .boolean), 1, 2) := rfl
theorem xm_M_sweep : xmi mM_sweep = some (yM_sweep, cM_sweep, 4, (some .int), 1, 0) := rfl
theorem xm_M_shrinks : xmi mM_shrinks = some (yM_shrinks, cM_shrinks, 2, (some .boolean), 1, 1) := rfl
theorem xm_M_back : xmi mM_back = some (yM_back, cM_back, 2, none, 1, 0) := rfl
theorem xm_M_pass : xmi mM_pass = some (yM_pass, cM_pass, 3, (some .int), 1, 0) := rfl
theorem xm_M_reckon : xmi mM_reckon = some (yM_reckon, cM_reckon, 4, none, 1, 0) := rfl
theorem xm_M_roundUp : xmi mM_roundUp = some (yM_roundUp, cM_roundUp, 2, (some .int), 0, 2) := rfl
theorem xm_M_lay : xmi mM_lay = some (yM_lay, cM_lay, 6, (some .int), 1, 2) := rfl
theorem xm_M_leastOf : xmi mM_leastOf = some (yM_leastOf, cM_leastOf, 7, (some .int), 1, 1) := rfl
theorem xm_M_hasAim : xmi mM_hasAim = some (yM_hasAim, cM_hasAim, 2, (some .boolean), 1, 1) := rfl
theorem xm_M_hasValue : xmi mM_hasValue = some (yM_hasValue, cM_hasValue, 2, (some .boolean), 1, 1) := rfl
theorem xm_M_isGone : xmi mM_isGone = some (yM_isGone, cM_isGone, 2, (some .boolean), 1, 1) := rfl
theorem xm_M_aimOf : xmi mM_aimOf = some (yM_aimOf, cM_aimOf, 2, (some .long), 1, 1) := rfl
theorem xm_M_valueOf : xmi mM_valueOf = some (yM_valueOf, cM_valueOf, 3, (some .int), 1, 1) := rfl
theorem xm_M_isNear : xmi mM_isNear = some (yM_isNear, cM_isNear, 2, (some .boolean), 0, 1) := rfl
theorem xm_M_shrink : xmi mM_shrink = some (yM_shrink, cM_shrink, 2, (some .int), 1, 0) := rfl
theorem xm_M_settle : xmi mM_settle = some (yM_settle, cM_settle, 5, (some .int), 1, 0) := rfl
theorem xm_M_isTight : xmi mM_isTight = some (yM_isTight, cM_isTight, 2, (some .boolean), 1, 1) := rfl
theorem xm_M_reset : xmi mM_reset = some (yM_reset, cM_reset, 2, none, 1, 0) := rfl
theorem xm_M_holds : xmi mM_holds = some (yM_holds, cM_holds, 2, (some .int), 1, 0) := rfl
theorem xm_M_lacks : xmi mM_lacks = some (yM_lacks, cM_lacks, 2, (some .int), 1, 0) := rfl
theorem xm_M_piece : xmi mM_piece = some (yM_piece, cM_piece, 4, (some .int), 1, 2) := rfl
theorem xm_M_aim : xmi mM_aim = some (yM_aim, cM_aim, 2, (some .long), 1, 1) := rfl
theorem xm_M_value : xmi mM_value = some (yM_value, cM_value, 2, (some .int), 1, 1) := rfl
theorem xm_M_span : xmi mM_span = some (yM_span, cM_span, 3, (some .int), 1, 2) := rfl
theorem xm_M_output : xmi mM_output = some (yM_output, cM_output, 3, (some .int), 1, 2) := rfl
theorem xm_M_saved : xmi mM_saved = some (yM_saved, cM_saved, 3, (some .int), 1, 0) := rfl
theorem xm_S_partAt : xmi mS_partAt = some (yS_partAt, cS_partAt, 2, (some (.object "ShrinkLayout$Part")), 1, 1) := rfl
theorem xm_S_labelAt : xmi mS_labelAt = some (yS_labelAt, cS_labelAt, 2, (some (.object "ShrinkLayout$Label")), 1, 1) := rfl
theorem xm_S_pieceAt : xmi mS_pieceAt = some (yS_pieceAt, cS_pieceAt, 2, (some (.object "ShrinkLayout$Piece")), 1, 1) := rfl
theorem xm_S_partLedTo : xmi mS_partLedTo = some (yS_partLedTo, cS_partLedTo, 1, (some (.object "ShrinkLayout$Part")), 0, 1) := rfl
theorem xm_L_law : xmi mL_law = some (yL_law, cL_law, 4, (some .boolean), 0, 1) := rfl
