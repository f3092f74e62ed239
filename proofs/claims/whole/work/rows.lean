section
-- ===== PART A: goes FIRST, ahead of the names: the tables' words, and 'selects' of the private methods out of them =====
/-- a private method of a class that the tables say can be made, by its rows of tables_1 -/
def lw_okq (q : MethodName × Nat) : Prop := (q.1.cls ≠ "java/lang/invoke/MethodHandle" ∧ q.1.cls ≠ "java/lang/invoke/VarHandle") ∧ Cond.instantiable q.1.cls q.2 ∈ tables_1 ∧ Cond.privateMethod q.1 ∈ tables_1 ∧ Cond.instanceMethod q.1 ∈ tables_1
theorem lw_p0 : lw_okq (⟨"ShrinkLayout", "partAt", "(I)LShrinkLayout$Part;"⟩, 10) := ⟨⟨by decide +kernel, by decide +kernel⟩, List.mem_of_getElem? (i := 8) (by decide +kernel), List.mem_of_getElem? (i := 110) (by decide +kernel), List.mem_of_getElem? (i := 111) (by decide +kernel)⟩
theorem lw_p1 : lw_okq (⟨"ShrinkLayout", "addPiece", "(LShrinkLayout$Piece;)I"⟩, 10) := ⟨⟨by decide +kernel, by decide +kernel⟩, List.mem_of_getElem? (i := 8) (by decide +kernel), List.mem_of_getElem? (i := 170) (by decide +kernel), List.mem_of_getElem? (i := 171) (by decide +kernel)⟩
theorem lw_p2 : lw_okq (⟨"ShrinkLayout", "addAimed", "(IIIIZ)I"⟩, 10) := ⟨⟨by decide +kernel, by decide +kernel⟩, List.mem_of_getElem? (i := 8) (by decide +kernel), List.mem_of_getElem? (i := 182) (by decide +kernel), List.mem_of_getElem? (i := 183) (by decide +kernel)⟩
theorem lw_p3 : lw_okq (⟨"ShrinkLayout", "labelAt", "(I)LShrinkLayout$Label;"⟩, 10) := ⟨⟨by decide +kernel, by decide +kernel⟩, List.mem_of_getElem? (i := 8) (by decide +kernel), List.mem_of_getElem? (i := 186) (by decide +kernel), List.mem_of_getElem? (i := 187) (by decide +kernel)⟩
theorem lw_p4 : lw_okq (⟨"ShrinkLayout", "pieceAt", "(I)LShrinkLayout$Piece;"⟩, 10) := ⟨⟨by decide +kernel, by decide +kernel⟩, List.mem_of_getElem? (i := 8) (by decide +kernel), List.mem_of_getElem? (i := 226) (by decide +kernel), List.mem_of_getElem? (i := 227) (by decide +kernel)⟩
theorem lw_p5 : lw_okq (⟨"ShrinkLayout", "bringWhatIsLedTo", "()Z"⟩, 10) := ⟨⟨by decide +kernel, by decide +kernel⟩, List.mem_of_getElem? (i := 8) (by decide +kernel), List.mem_of_getElem? (i := 247) (by decide +kernel), List.mem_of_getElem? (i := 248) (by decide +kernel)⟩
theorem lw_p6 : lw_okq (⟨"ShrinkLayout", "countGone", "()I"⟩, 10) := ⟨⟨by decide +kernel, by decide +kernel⟩, List.mem_of_getElem? (i := 8) (by decide +kernel), List.mem_of_getElem? (i := 254) (by decide +kernel), List.mem_of_getElem? (i := 255) (by decide +kernel)⟩
theorem lw_p7 : lw_okq (⟨"ShrinkLayout", "makePass", "()I"⟩, 10) := ⟨⟨by decide +kernel, by decide +kernel⟩, List.mem_of_getElem? (i := 8) (by decide +kernel), List.mem_of_getElem? (i := 266) (by decide +kernel), List.mem_of_getElem? (i := 267) (by decide +kernel)⟩
theorem lw_p8 : lw_okq (⟨"ShrinkLayout", "survey", "()V"⟩, 10) := ⟨⟨by decide +kernel, by decide +kernel⟩, List.mem_of_getElem? (i := 8) (by decide +kernel), List.mem_of_getElem? (i := 270) (by decide +kernel), List.mem_of_getElem? (i := 271) (by decide +kernel)⟩
theorem lw_p9 : lw_okq (⟨"ShrinkLayout", "placeOutput", "(II)I"⟩, 10) := ⟨⟨by decide +kernel, by decide +kernel⟩, List.mem_of_getElem? (i := 8) (by decide +kernel), List.mem_of_getElem? (i := 274) (by decide +kernel), List.mem_of_getElem? (i := 275) (by decide +kernel)⟩
theorem lw_p10 : lw_okq (⟨"ShrinkLayout", "leastSize", "(LShrinkLayout$Piece;)I"⟩, 10) := ⟨⟨by decide +kernel, by decide +kernel⟩, List.mem_of_getElem? (i := 8) (by decide +kernel), List.mem_of_getElem? (i := 287) (by decide +kernel), List.mem_of_getElem? (i := 288) (by decide +kernel)⟩
theorem lw_p11 : lw_okq (⟨"ShrinkLayout", "makePasses", "()I"⟩, 10) := ⟨⟨by decide +kernel, by decide +kernel⟩, List.mem_of_getElem? (i := 8) (by decide +kernel), List.mem_of_getElem? (i := 318) (by decide +kernel), List.mem_of_getElem? (i := 319) (by decide +kernel)⟩
theorem lw_p12 : lw_okq (⟨"ShrinkLayout", "fixWhatDoesNotHold", "()I"⟩, 10) := ⟨⟨by decide +kernel, by decide +kernel⟩, List.mem_of_getElem? (i := 8) (by decide +kernel), List.mem_of_getElem? (i := 326) (by decide +kernel), List.mem_of_getElem? (i := 327) (by decide +kernel)⟩
theorem lw_p13 : lw_okq (⟨"ShrinkLayoutModel", "isPart", "(I)Z"⟩, 28) := ⟨⟨by decide +kernel, by decide +kernel⟩, List.mem_of_getElem? (i := 366) (by decide +kernel), List.mem_of_getElem? (i := 469) (by decide +kernel), List.mem_of_getElem? (i := 470) (by decide +kernel)⟩
theorem lw_p14 : lw_okq (⟨"ShrinkLayoutModel", "added", "(III)I"⟩, 28) := ⟨⟨by decide +kernel, by decide +kernel⟩, List.mem_of_getElem? (i := 366) (by decide +kernel), List.mem_of_getElem? (i := 474) (by decide +kernel), List.mem_of_getElem? (i := 475) (by decide +kernel)⟩
theorem lw_p15 : lw_okq (⟨"ShrinkLayoutModel", "aimed", "(IIIIZ)I"⟩, 28) := ⟨⟨by decide +kernel, by decide +kernel⟩, List.mem_of_getElem? (i := 366) (by decide +kernel), List.mem_of_getElem? (i := 482) (by decide +kernel), List.mem_of_getElem? (i := 483) (by decide +kernel)⟩
def lw_privs_1 : List (MethodName × Nat) := [(⟨"ShrinkLayout", "partAt", "(I)LShrinkLayout$Part;"⟩, 10), (⟨"ShrinkLayout", "addPiece", "(LShrinkLayout$Piece;)I"⟩, 10), (⟨"ShrinkLayout", "addAimed", "(IIIIZ)I"⟩, 10), (⟨"ShrinkLayout", "labelAt", "(I)LShrinkLayout$Label;"⟩, 10), (⟨"ShrinkLayout", "pieceAt", "(I)LShrinkLayout$Piece;"⟩, 10), (⟨"ShrinkLayout", "bringWhatIsLedTo", "()Z"⟩, 10), (⟨"ShrinkLayout", "countGone", "()I"⟩, 10), (⟨"ShrinkLayout", "makePass", "()I"⟩, 10), (⟨"ShrinkLayout", "survey", "()V"⟩, 10), (⟨"ShrinkLayout", "placeOutput", "(II)I"⟩, 10), (⟨"ShrinkLayout", "leastSize", "(LShrinkLayout$Piece;)I"⟩, 10), (⟨"ShrinkLayout", "makePasses", "()I"⟩, 10), (⟨"ShrinkLayout", "fixWhatDoesNotHold", "()I"⟩, 10), (⟨"ShrinkLayoutModel", "isPart", "(I)Z"⟩, 28), (⟨"ShrinkLayoutModel", "added", "(III)I"⟩, 28), (⟨"ShrinkLayoutModel", "aimed", "(IIIIZ)I"⟩, 28)]
theorem lw_r1 : ∀ q ∈ lw_privs_1, lw_okq q := List.forall_mem_cons.mpr ⟨lw_p0, List.forall_mem_cons.mpr ⟨lw_p1, List.forall_mem_cons.mpr ⟨lw_p2, List.forall_mem_cons.mpr ⟨lw_p3, List.forall_mem_cons.mpr ⟨lw_p4, List.forall_mem_cons.mpr ⟨lw_p5, List.forall_mem_cons.mpr ⟨lw_p6, List.forall_mem_cons.mpr ⟨lw_p7, List.forall_mem_cons.mpr ⟨lw_p8, List.forall_mem_cons.mpr ⟨lw_p9, List.forall_mem_cons.mpr ⟨lw_p10, List.forall_mem_cons.mpr ⟨lw_p11, List.forall_mem_cons.mpr ⟨lw_p12, List.forall_mem_cons.mpr ⟨lw_p13, List.forall_mem_cons.mpr ⟨lw_p14, List.forall_mem_cons.mpr ⟨lw_p15, fun _ h => absurd h List.not_mem_nil⟩⟩⟩⟩⟩⟩⟩⟩⟩⟩⟩⟩⟩⟩⟩⟩
theorem lw_p16 : lw_okq (⟨"ShrinkLayoutModel", "isLabel", "(I)Z"⟩, 28) := ⟨⟨by decide +kernel, by decide +kernel⟩, List.mem_of_getElem? (i := 366) (by decide +kernel), List.mem_of_getElem? (i := 486) (by decide +kernel), List.mem_of_getElem? (i := 487) (by decide +kernel)⟩
theorem lw_p17 : lw_okq (⟨"ShrinkLayoutModel", "isPiece", "(I)Z"⟩, 28) := ⟨⟨by decide +kernel, by decide +kernel⟩, List.mem_of_getElem? (i := 366) (by decide +kernel), List.mem_of_getElem? (i := 513) (by decide +kernel), List.mem_of_getElem? (i := 514) (by decide +kernel)⟩
theorem lw_p18 : lw_okq (⟨"ShrinkLayoutModel", "shrinks", "(I)Z"⟩, 28) := ⟨⟨by decide +kernel, by decide +kernel⟩, List.mem_of_getElem? (i := 366) (by decide +kernel), List.mem_of_getElem? (i := 534) (by decide +kernel), List.mem_of_getElem? (i := 535) (by decide +kernel)⟩
theorem lw_p19 : lw_okq (⟨"ShrinkLayoutModel", "reckon", "()V"⟩, 28) := ⟨⟨by decide +kernel, by decide +kernel⟩, List.mem_of_getElem? (i := 366) (by decide +kernel), List.mem_of_getElem? (i := 546) (by decide +kernel), List.mem_of_getElem? (i := 547) (by decide +kernel)⟩
theorem lw_p20 : lw_okq (⟨"ShrinkLayoutModel", "lay", "(II)I"⟩, 28) := ⟨⟨by decide +kernel, by decide +kernel⟩, List.mem_of_getElem? (i := 366) (by decide +kernel), List.mem_of_getElem? (i := 553) (by decide +kernel), List.mem_of_getElem? (i := 554) (by decide +kernel)⟩
theorem lw_p21 : lw_okq (⟨"ShrinkLayoutModel", "leastOf", "(I)I"⟩, 28) := ⟨⟨by decide +kernel, by decide +kernel⟩, List.mem_of_getElem? (i := 366) (by decide +kernel), List.mem_of_getElem? (i := 557) (by decide +kernel), List.mem_of_getElem? (i := 558) (by decide +kernel)⟩
theorem lw_p22 : lw_okq (⟨"ShrinkLayoutModel", "hasAim", "(I)Z"⟩, 28) := ⟨⟨by decide +kernel, by decide +kernel⟩, List.mem_of_getElem? (i := 366) (by decide +kernel), List.mem_of_getElem? (i := 561) (by decide +kernel), List.mem_of_getElem? (i := 562) (by decide +kernel)⟩
theorem lw_p23 : lw_okq (⟨"ShrinkLayoutModel", "hasValue", "(I)Z"⟩, 28) := ⟨⟨by decide +kernel, by decide +kernel⟩, List.mem_of_getElem? (i := 366) (by decide +kernel), List.mem_of_getElem? (i := 565) (by decide +kernel), List.mem_of_getElem? (i := 566) (by decide +kernel)⟩
theorem lw_p24 : lw_okq (⟨"ShrinkLayoutModel", "isGone", "(I)Z"⟩, 28) := ⟨⟨by decide +kernel, by decide +kernel⟩, List.mem_of_getElem? (i := 366) (by decide +kernel), List.mem_of_getElem? (i := 569) (by decide +kernel), List.mem_of_getElem? (i := 570) (by decide +kernel)⟩
theorem lw_p25 : lw_okq (⟨"ShrinkLayoutModel", "aimOf", "(I)J"⟩, 28) := ⟨⟨by decide +kernel, by decide +kernel⟩, List.mem_of_getElem? (i := 366) (by decide +kernel), List.mem_of_getElem? (i := 573) (by decide +kernel), List.mem_of_getElem? (i := 574) (by decide +kernel)⟩
theorem lw_p26 : lw_okq (⟨"ShrinkLayoutModel", "valueOf", "(I)I"⟩, 28) := ⟨⟨by decide +kernel, by decide +kernel⟩, List.mem_of_getElem? (i := 366) (by decide +kernel), List.mem_of_getElem? (i := 577) (by decide +kernel), List.mem_of_getElem? (i := 578) (by decide +kernel)⟩
theorem lw_p27 : lw_okq (⟨"ShrinkLayoutModel", "isTight", "(I)Z"⟩, 28) := ⟨⟨by decide +kernel, by decide +kernel⟩, List.mem_of_getElem? (i := 366) (by decide +kernel), List.mem_of_getElem? (i := 602) (by decide +kernel), List.mem_of_getElem? (i := 603) (by decide +kernel)⟩
def lw_privs_2 : List (MethodName × Nat) := [(⟨"ShrinkLayoutModel", "isLabel", "(I)Z"⟩, 28), (⟨"ShrinkLayoutModel", "isPiece", "(I)Z"⟩, 28), (⟨"ShrinkLayoutModel", "shrinks", "(I)Z"⟩, 28), (⟨"ShrinkLayoutModel", "reckon", "()V"⟩, 28), (⟨"ShrinkLayoutModel", "lay", "(II)I"⟩, 28), (⟨"ShrinkLayoutModel", "leastOf", "(I)I"⟩, 28), (⟨"ShrinkLayoutModel", "hasAim", "(I)Z"⟩, 28), (⟨"ShrinkLayoutModel", "hasValue", "(I)Z"⟩, 28), (⟨"ShrinkLayoutModel", "isGone", "(I)Z"⟩, 28), (⟨"ShrinkLayoutModel", "aimOf", "(I)J"⟩, 28), (⟨"ShrinkLayoutModel", "valueOf", "(I)I"⟩, 28), (⟨"ShrinkLayoutModel", "isTight", "(I)Z"⟩, 28)]
theorem lw_r2 : ∀ q ∈ lw_privs_2, lw_okq q := List.forall_mem_cons.mpr ⟨lw_p16, List.forall_mem_cons.mpr ⟨lw_p17, List.forall_mem_cons.mpr ⟨lw_p18, List.forall_mem_cons.mpr ⟨lw_p19, List.forall_mem_cons.mpr ⟨lw_p20, List.forall_mem_cons.mpr ⟨lw_p21, List.forall_mem_cons.mpr ⟨lw_p22, List.forall_mem_cons.mpr ⟨lw_p23, List.forall_mem_cons.mpr ⟨lw_p24, List.forall_mem_cons.mpr ⟨lw_p25, List.forall_mem_cons.mpr ⟨lw_p26, List.forall_mem_cons.mpr ⟨lw_p27, fun _ h => absurd h List.not_mem_nil⟩⟩⟩⟩⟩⟩⟩⟩⟩⟩⟩⟩
def lw_privs : List (MethodName × Nat) := lw_privs_1 ++ (lw_privs_2)
def lw_tbl : List Cond := k2_sels lw_privs ++ tables_1
theorem lw_privs_ok : ∀ q ∈ lw_privs, lw_okq q := by
  show ∀ q ∈ lw_privs_1 ++ (lw_privs_2), lw_okq q
  exact List.forall_mem_append.mpr ⟨lw_r1, lw_r2⟩

def TB_ : u_T := fun k => match k with
  | 0 => ("ShrinkLayout$Label", "target", "LShrinkLayout$Piece;", false)
  | _ => ("ShrinkLayout$Label", "at", "I", false)
def TP_ : u_T := fun k => match k with
  | 0 => ("ShrinkLayout$Part", "number", "I", true)
  | 1 => ("ShrinkLayout$Part", "output", "I", true)
  | 2 => ("ShrinkLayout$Part", "power", "I", true)
  | 3 => ("ShrinkLayout$Part", "gone", "Z", false)
  | 4 => ("ShrinkLayout$Part", "root", "Z", false)
  | 5 => ("ShrinkLayout$Part", "begin", "I", false)
  | 6 => ("ShrinkLayout$Part", "end", "I", false)
  | 7 => ("ShrinkLayout$Part", "first", "LShrinkLayout$Piece;", false)
  | _ => ("ShrinkLayout$Part", "last", "LShrinkLayout$Piece;", false)
def TQ_ : u_T := fun k => match k with
  | 0 => ("ShrinkLayout$Piece", "sort", "I", true)
  | 1 => ("ShrinkLayout$Piece", "part", "LShrinkLayout$Part;", true)
  | 2 => ("ShrinkLayout$Piece", "label", "LShrinkLayout$Label;", true)
  | 3 => ("ShrinkLayout$Piece", "constant", "I", true)
  | 4 => ("ShrinkLayout$Piece", "two", "Z", true)
  | 5 => ("ShrinkLayout$Piece", "power", "I", true)
  | 6 => ("ShrinkLayout$Piece", "bytes", "I", true)
  | 7 => ("ShrinkLayout$Piece", "greatest", "I", true)
  | 8 => ("ShrinkLayout$Piece", "size", "I", false)
  | 9 => ("ShrinkLayout$Piece", "place", "I", false)
  | 10 => ("ShrinkLayout$Piece", "least", "I", false)
  | 11 => ("ShrinkLayout$Piece", "fixed", "Z", false)
  | _ => ("ShrinkLayout$Piece", "next", "LShrinkLayout$Piece;", false)
def TS_ : u_T := fun k => match k with
  | 0 => ("ShrinkLayout", "parts", "[LShrinkLayout$Part;", true)
  | 1 => ("ShrinkLayout", "pieces", "[LShrinkLayout$Piece;", true)
  | 2 => ("ShrinkLayout", "labels", "[LShrinkLayout$Label;", true)
  | 3 => ("ShrinkLayout", "outputPower", "[I", true)
  | 4 => ("ShrinkLayout", "outputBegin", "[I", true)
  | 5 => ("ShrinkLayout", "outputEnd", "[I", true)
  | 6 => ("ShrinkLayout", "partCount", "I", false)
  | 7 => ("ShrinkLayout", "pieceCount", "I", false)
  | 8 => ("ShrinkLayout", "labelCount", "I", false)
  | _ => ("ShrinkLayout", "baseAt", "I", false)
def TM_ : u_T := fun k => match k with
  | 0 => ("ShrinkLayoutModel", "base", "I", false)
  | 1 => ("ShrinkLayoutModel", "outputAlign", "[I", true)
  | 2 => ("ShrinkLayoutModel", "outputBegin", "[I", true)
  | 3 => ("ShrinkLayoutModel", "outputEnd", "[I", true)
  | 4 => ("ShrinkLayoutModel", "parts", "I", false)
  | 5 => ("ShrinkLayoutModel", "output", "[I", true)
  | 6 => ("ShrinkLayoutModel", "align", "[I", true)
  | 7 => ("ShrinkLayoutModel", "isRoot", "[Z", true)
  | 8 => ("ShrinkLayoutModel", "gone", "[Z", true)
  | 9 => ("ShrinkLayoutModel", "met", "[Z", true)
  | 10 => ("ShrinkLayoutModel", "partBegin", "[I", true)
  | 11 => ("ShrinkLayoutModel", "partEnd", "[I", true)
  | 12 => ("ShrinkLayoutModel", "pieces", "I", false)
  | 13 => ("ShrinkLayoutModel", "sort", "[I", true)
  | 14 => ("ShrinkLayoutModel", "partOf", "[I", true)
  | 15 => ("ShrinkLayoutModel", "size", "[I", true)
  | 16 => ("ShrinkLayoutModel", "most", "[I", true)
  | 17 => ("ShrinkLayoutModel", "power", "[I", true)
  | 18 => ("ShrinkLayoutModel", "labelOf", "[I", true)
  | 19 => ("ShrinkLayoutModel", "constant", "[I", true)
  | 20 => ("ShrinkLayoutModel", "two", "[Z", true)
  | 21 => ("ShrinkLayoutModel", "fixed", "[Z", true)
  | 22 => ("ShrinkLayoutModel", "place", "[I", true)
  | 23 => ("ShrinkLayoutModel", "lack", "[I", true)
  | 24 => ("ShrinkLayoutModel", "least", "[I", true)
  | 25 => ("ShrinkLayoutModel", "labels", "I", false)
  | 26 => ("ShrinkLayoutModel", "pieceOf", "[I", true)
  | _ => ("ShrinkLayoutModel", "spot", "[I", true)
abbrev xcls : List vw_C := [("ShrinkLayout$Label", TB_, 2), ("ShrinkLayout$Part", TP_, 9), ("ShrinkLayout$Piece", TQ_, 13), ("ShrinkLayout", TS_, 10), ("ShrinkLayoutModel", TM_, 28)]
def xNM : List String := ["ShrinkLayout$Label", "ShrinkLayout$Part", "ShrinkLayout$Piece", "ShrinkLayout", "ShrinkLayoutModel", "ShrinkLayoutLaw", "java/lang/Math"]
def xnm (own : Nat) : String := xNM.getD own ""
abbrev cS_init : ByteArray := prog_1_method_1_code
def yS_init : MethodName := ⟨"ShrinkLayout", "<init>", "()V"⟩
abbrev mS_init : Nat := 0
abbrev cS_part : ByteArray := prog_1_method_2_code
def yS_part : MethodName := ⟨"ShrinkLayout", "part", "(II)I"⟩
abbrev mS_part : Nat := 1
abbrev cS_isOutput : ByteArray := prog_1_method_47_code
def yS_isOutput : MethodName := ⟨"ShrinkLayout", "isOutput", "(I)Z"⟩
abbrev mS_isOutput : Nat := 2
abbrev cS_isWithin : ByteArray := prog_1_method_49_code
def yS_isWithin : MethodName := ⟨"ShrinkLayout", "isWithin", "(JJJ)Z"⟩
abbrev mS_isWithin : Nat := 3
abbrev cS_isPower : ByteArray := prog_1_method_48_code
def yS_isPower : MethodName := ⟨"ShrinkLayout", "isPower", "(I)Z"⟩
abbrev mS_isPower : Nat := 4
abbrev cP_init : ByteArray := prog_3_method_1_code
def yP_init : MethodName := ⟨"ShrinkLayout$Part", "<init>", "(III)V"⟩
abbrev mP_init : Nat := 5
abbrev cS_plain : ByteArray := prog_1_method_3_code
def yS_plain : MethodName := ⟨"ShrinkLayout", "plain", "(II)I"⟩
abbrev mS_plain : Nat := 6
abbrev cQ_init : ByteArray := prog_4_method_1_code
def yQ_init : MethodName := ⟨"ShrinkLayout$Piece", "<init>", "(ILShrinkLayout$Part;II)V"⟩
abbrev mQ_init : Nat := 7
abbrev cS_addPiece : ByteArray := prog_1_method_28_code
def yS_addPiece : MethodName := ⟨"ShrinkLayout", "addPiece", "(LShrinkLayout$Piece;)I"⟩
abbrev mS_addPiece : Nat := 8
abbrev cP_append : ByteArray := prog_3_method_2_code
def yP_append : MethodName := ⟨"ShrinkLayout$Part", "append", "(LShrinkLayout$Piece;)V"⟩
abbrev mP_append : Nat := 9
abbrev cS_call : ByteArray := prog_1_method_4_code
def yS_call : MethodName := ⟨"ShrinkLayout", "call", "(IIIZ)I"⟩
abbrev mS_call : Nat := 10
abbrev cS_addAimed : ByteArray := prog_1_method_27_code
def yS_addAimed : MethodName := ⟨"ShrinkLayout", "addAimed", "(IIIIZ)I"⟩
abbrev mS_addAimed : Nat := 11
abbrev cQ_init2 : ByteArray := prog_4_method_2_code
def yQ_init2 : MethodName := ⟨"ShrinkLayout$Piece", "<init>", "(ILShrinkLayout$Part;LShrinkLayout$Label;IZ)V"⟩
abbrev mQ_init2 : Nat := 12
abbrev cS_upper : ByteArray := prog_1_method_5_code
def yS_upper : MethodName := ⟨"ShrinkLayout", "upper", "(IIIZ)I"⟩
abbrev mS_upper : Nat := 13
abbrev cS_near : ByteArray := prog_1_method_6_code
def yS_near : MethodName := ⟨"ShrinkLayout", "near", "(III)I"⟩
abbrev mS_near : Nat := 14
abbrev cS_fill : ByteArray := prog_1_method_7_code
def yS_fill : MethodName := ⟨"ShrinkLayout", "fill", "(III)I"⟩
abbrev mS_fill : Nat := 15
abbrev cS_label : ByteArray := prog_1_method_8_code
def yS_label : MethodName := ⟨"ShrinkLayout", "label", "()I"⟩
abbrev mS_label : Nat := 16
abbrev cB_init : ByteArray := prog_2_method_1_code
def yB_init : MethodName := ⟨"ShrinkLayout$Label", "<init>", "()V"⟩
abbrev mB_init : Nat := 17
abbrev cS_put : ByteArray := prog_1_method_9_code
def yS_put : MethodName := ⟨"ShrinkLayout", "put", "(III)Z"⟩
abbrev mS_put : Nat := 18
abbrev cS_base : ByteArray := prog_1_method_10_code
def yS_base : MethodName := ⟨"ShrinkLayout", "base", "(I)Z"⟩
abbrev mS_base : Nat := 19
abbrev cS_align : ByteArray := prog_1_method_11_code
def yS_align : MethodName := ⟨"ShrinkLayout", "align", "(II)Z"⟩
abbrev mS_align : Nat := 20
abbrev cS_root : ByteArray := prog_1_method_12_code
def yS_root : MethodName := ⟨"ShrinkLayout", "root", "(IZ)Z"⟩
abbrev mS_root : Nat := 21
abbrev cS_sweep : ByteArray := prog_1_method_13_code
def yS_sweep : MethodName := ⟨"ShrinkLayout", "sweep", "()I"⟩
abbrev mS_sweep : Nat := 22
abbrev cS_bringWhatIsLedTo : ByteArray := prog_1_method_32_code
def yS_bringWhatIsLedTo : MethodName := ⟨"ShrinkLayout", "bringWhatIsLedTo", "()Z"⟩
abbrev mS_bringWhatIsLedTo : Nat := 23
abbrev cS_countGone : ByteArray := prog_1_method_34_code
def yS_countGone : MethodName := ⟨"ShrinkLayout", "countGone", "()I"⟩
abbrev mS_countGone : Nat := 24
abbrev cS_back : ByteArray := prog_1_method_14_code
def yS_back : MethodName := ⟨"ShrinkLayout", "back", "()V"⟩
abbrev mS_back : Nat := 25
abbrev cS_pass : ByteArray := prog_1_method_15_code
def yS_pass : MethodName := ⟨"ShrinkLayout", "pass", "()I"⟩
abbrev mS_pass : Nat := 26
abbrev cS_makePass : ByteArray := prog_1_method_36_code
def yS_makePass : MethodName := ⟨"ShrinkLayout", "makePass", "()I"⟩
abbrev mS_makePass : Nat := 27
abbrev cS_survey : ByteArray := prog_1_method_38_code
def yS_survey : MethodName := ⟨"ShrinkLayout", "survey", "()V"⟩
abbrev mS_survey : Nat := 28
abbrev cS_placeOutput : ByteArray := prog_1_method_39_code
def yS_placeOutput : MethodName := ⟨"ShrinkLayout", "placeOutput", "(II)I"⟩
abbrev mS_placeOutput : Nat := 29
abbrev cS_bytesToMultiple : ByteArray := prog_1_method_41_code
def yS_bytesToMultiple : MethodName := ⟨"ShrinkLayout", "bytesToMultiple", "(II)I"⟩
abbrev mS_bytesToMultiple : Nat := 30
abbrev cS_placePart : ByteArray := prog_1_method_40_code
def yS_placePart : MethodName := ⟨"ShrinkLayout", "placePart", "(LShrinkLayout$Part;I)I"⟩
abbrev mS_placePart : Nat := 31
abbrev cA_min : ByteArray := prog_7_method_69_code
def yA_min : MethodName := ⟨"java/lang/Math", "min", "(II)I"⟩
abbrev mA_min : Nat := 32
abbrev cS_leastSize : ByteArray := prog_1_method_42_code
def yS_leastSize : MethodName := ⟨"ShrinkLayout", "leastSize", "(LShrinkLayout$Piece;)I"⟩
abbrev mS_leastSize : Nat := 33
abbrev cS_aimOf : ByteArray := prog_1_method_45_code
def yS_aimOf : MethodName := ⟨"ShrinkLayout", "aimOf", "(LShrinkLayout$Piece;)J"⟩
abbrev mS_aimOf : Nat := 34
abbrev cS_valueOf : ByteArray := prog_1_method_46_code
def yS_valueOf : MethodName := ⟨"ShrinkLayout", "valueOf", "(LShrinkLayout$Label;)I"⟩
abbrev mS_valueOf : Nat := 35
abbrev cS_leastCall : ByteArray := prog_1_method_43_code
def yS_leastCall : MethodName := ⟨"ShrinkLayout", "leastCall", "(JZ)I"⟩
abbrev mS_leastCall : Nat := 36
abbrev cS_leastLoad : ByteArray := prog_1_method_44_code
def yS_leastLoad : MethodName := ⟨"ShrinkLayout", "leastLoad", "(JJZ)I"⟩
abbrev mS_leastLoad : Nat := 37
abbrev cA_floorDiv : ByteArray := prog_7_method_49_code
def yA_floorDiv : MethodName := ⟨"java/lang/Math", "floorDiv", "(JJ)J"⟩
abbrev mA_floorDiv : Nat := 38
abbrev cS_shrink : ByteArray := prog_1_method_16_code
def yS_shrink : MethodName := ⟨"ShrinkLayout", "shrink", "()I"⟩
abbrev mS_shrink : Nat := 39
abbrev cS_makePasses : ByteArray := prog_1_method_35_code
def yS_makePasses : MethodName := ⟨"ShrinkLayout", "makePasses", "()I"⟩
abbrev mS_makePasses : Nat := 40
abbrev cS_settle : ByteArray := prog_1_method_17_code
def yS_settle : MethodName := ⟨"ShrinkLayout", "settle", "()I"⟩
abbrev mS_settle : Nat := 41
abbrev cS_fixWhatDoesNotHold : ByteArray := prog_1_method_37_code
def yS_fixWhatDoesNotHold : MethodName := ⟨"ShrinkLayout", "fixWhatDoesNotHold", "()I"⟩
abbrev mS_fixWhatDoesNotHold : Nat := 42
abbrev cS_reset : ByteArray := prog_1_method_18_code
def yS_reset : MethodName := ⟨"ShrinkLayout", "reset", "()V"⟩
abbrev mS_reset : Nat := 43
abbrev cS_holds : ByteArray := prog_1_method_19_code
def yS_holds : MethodName := ⟨"ShrinkLayout", "holds", "()I"⟩
abbrev mS_holds : Nat := 44
abbrev cS_lacks : ByteArray := prog_1_method_20_code
def yS_lacks : MethodName := ⟨"ShrinkLayout", "lacks", "()I"⟩
abbrev mS_lacks : Nat := 45
abbrev cS_piece : ByteArray := prog_1_method_21_code
def yS_piece : MethodName := ⟨"ShrinkLayout", "piece", "(II)I"⟩
abbrev mS_piece : Nat := 46
abbrev cS_aim : ByteArray := prog_1_method_22_code
def yS_aim : MethodName := ⟨"ShrinkLayout", "aim", "(I)J"⟩
abbrev mS_aim : Nat := 47
abbrev cS_value : ByteArray := prog_1_method_23_code
def yS_value : MethodName := ⟨"ShrinkLayout", "value", "(I)I"⟩
abbrev mS_value : Nat := 48
abbrev cS_span : ByteArray := prog_1_method_24_code
def yS_span : MethodName := ⟨"ShrinkLayout", "span", "(II)I"⟩
abbrev mS_span : Nat := 49
abbrev cS_output : ByteArray := prog_1_method_25_code
def yS_output : MethodName := ⟨"ShrinkLayout", "output", "(II)I"⟩
abbrev mS_output : Nat := 50
abbrev cS_saved : ByteArray := prog_1_method_26_code
def yS_saved : MethodName := ⟨"ShrinkLayout", "saved", "()I"⟩
abbrev mS_saved : Nat := 51
abbrev cM_init : ByteArray := prog_6_method_1_code
def yM_init : MethodName := ⟨"ShrinkLayoutModel", "<init>", "()V"⟩
abbrev mM_init : Nat := 52
abbrev cM_part : ByteArray := prog_6_method_19_code
def yM_part : MethodName := ⟨"ShrinkLayoutModel", "part", "(II)I"⟩
abbrev mM_part : Nat := 53
abbrev cM_within : ByteArray := prog_6_method_3_code
def yM_within : MethodName := ⟨"ShrinkLayoutModel", "within", "(III)Z"⟩
abbrev mM_within : Nat := 54
abbrev cM_plain : ByteArray := prog_6_method_21_code
def yM_plain : MethodName := ⟨"ShrinkLayoutModel", "plain", "(II)I"⟩
abbrev mM_plain : Nat := 55
abbrev cM_isPart : ByteArray := prog_6_method_4_code
def yM_isPart : MethodName := ⟨"ShrinkLayoutModel", "isPart", "(I)Z"⟩
abbrev mM_isPart : Nat := 56
abbrev cM_added : ByteArray := prog_6_method_20_code
def yM_added : MethodName := ⟨"ShrinkLayoutModel", "added", "(III)I"⟩
abbrev mM_added : Nat := 57
abbrev cM_call : ByteArray := prog_6_method_23_code
def yM_call : MethodName := ⟨"ShrinkLayoutModel", "call", "(IIIZ)I"⟩
abbrev mM_call : Nat := 58
abbrev cM_aimed : ByteArray := prog_6_method_22_code
def yM_aimed : MethodName := ⟨"ShrinkLayoutModel", "aimed", "(IIIIZ)I"⟩
abbrev mM_aimed : Nat := 59
abbrev cM_isLabel : ByteArray := prog_6_method_6_code
def yM_isLabel : MethodName := ⟨"ShrinkLayoutModel", "isLabel", "(I)Z"⟩
abbrev mM_isLabel : Nat := 60
abbrev cM_greatest : ByteArray := prog_6_method_17_code
def yM_greatest : MethodName := ⟨"ShrinkLayoutModel", "greatest", "(I)I"⟩
abbrev mM_greatest : Nat := 61
abbrev cM_upper : ByteArray := prog_6_method_24_code
def yM_upper : MethodName := ⟨"ShrinkLayoutModel", "upper", "(IIIZ)I"⟩
abbrev mM_upper : Nat := 62
abbrev cM_near : ByteArray := prog_6_method_25_code
def yM_near : MethodName := ⟨"ShrinkLayoutModel", "near", "(III)I"⟩
abbrev mM_near : Nat := 63
abbrev cM_fill : ByteArray := prog_6_method_26_code
def yM_fill : MethodName := ⟨"ShrinkLayoutModel", "fill", "(III)I"⟩
abbrev mM_fill : Nat := 64
abbrev cM_label : ByteArray := prog_6_method_27_code
def yM_label : MethodName := ⟨"ShrinkLayoutModel", "label", "()I"⟩
abbrev mM_label : Nat := 65
abbrev cM_put : ByteArray := prog_6_method_28_code
def yM_put : MethodName := ⟨"ShrinkLayoutModel", "put", "(III)Z"⟩
abbrev mM_put : Nat := 66
abbrev cM_isPiece : ByteArray := prog_6_method_5_code
def yM_isPiece : MethodName := ⟨"ShrinkLayoutModel", "isPiece", "(I)Z"⟩
abbrev mM_isPiece : Nat := 67
abbrev cM_base : ByteArray := prog_6_method_29_code
def yM_base : MethodName := ⟨"ShrinkLayoutModel", "base", "(I)Z"⟩
abbrev mM_base : Nat := 68
abbrev cM_align : ByteArray := prog_6_method_30_code
def yM_align : MethodName := ⟨"ShrinkLayoutModel", "align", "(II)Z"⟩
abbrev mM_align : Nat := 69
abbrev cM_root : ByteArray := prog_6_method_31_code
def yM_root : MethodName := ⟨"ShrinkLayoutModel", "root", "(IZ)Z"⟩
abbrev mM_root : Nat := 70
abbrev cM_sweep : ByteArray := prog_6_method_32_code
def yM_sweep : MethodName := ⟨"ShrinkLayoutModel", "sweep", "()I"⟩
abbrev mM_sweep : Nat := 71
abbrev cM_shrinks : ByteArray := prog_6_method_11_code
def yM_shrinks : MethodName := ⟨"ShrinkLayoutModel", "shrinks", "(I)Z"⟩
abbrev mM_shrinks : Nat := 72
abbrev cM_back : ByteArray := prog_6_method_33_code
def yM_back : MethodName := ⟨"ShrinkLayoutModel", "back", "()V"⟩
abbrev mM_back : Nat := 73
abbrev cM_pass : ByteArray := prog_6_method_34_code
def yM_pass : MethodName := ⟨"ShrinkLayoutModel", "pass", "()I"⟩
abbrev mM_pass : Nat := 74
abbrev cM_reckon : ByteArray := prog_6_method_8_code
def yM_reckon : MethodName := ⟨"ShrinkLayoutModel", "reckon", "()V"⟩
abbrev mM_reckon : Nat := 75
abbrev cM_roundUp : ByteArray := prog_6_method_7_code
def yM_roundUp : MethodName := ⟨"ShrinkLayoutModel", "roundUp", "(II)I"⟩
abbrev mM_roundUp : Nat := 76
abbrev cM_lay : ByteArray := prog_6_method_9_code
def yM_lay : MethodName := ⟨"ShrinkLayoutModel", "lay", "(II)I"⟩
abbrev mM_lay : Nat := 77
abbrev cM_leastOf : ByteArray := prog_6_method_18_code
def yM_leastOf : MethodName := ⟨"ShrinkLayoutModel", "leastOf", "(I)I"⟩
abbrev mM_leastOf : Nat := 78
abbrev cM_hasAim : ByteArray := prog_6_method_14_code
def yM_hasAim : MethodName := ⟨"ShrinkLayoutModel", "hasAim", "(I)Z"⟩
abbrev mM_hasAim : Nat := 79
abbrev cM_hasValue : ByteArray := prog_6_method_12_code
def yM_hasValue : MethodName := ⟨"ShrinkLayoutModel", "hasValue", "(I)Z"⟩
abbrev mM_hasValue : Nat := 80
abbrev cM_isGone : ByteArray := prog_6_method_10_code
def yM_isGone : MethodName := ⟨"ShrinkLayoutModel", "isGone", "(I)Z"⟩
abbrev mM_isGone : Nat := 81
abbrev cM_aimOf : ByteArray := prog_6_method_15_code
def yM_aimOf : MethodName := ⟨"ShrinkLayoutModel", "aimOf", "(I)J"⟩
abbrev mM_aimOf : Nat := 82
abbrev cM_valueOf : ByteArray := prog_6_method_13_code
def yM_valueOf : MethodName := ⟨"ShrinkLayoutModel", "valueOf", "(I)I"⟩
abbrev mM_valueOf : Nat := 83
abbrev cM_isNear : ByteArray := prog_6_method_16_code
def yM_isNear : MethodName := ⟨"ShrinkLayoutModel", "isNear", "(J)Z"⟩
abbrev mM_isNear : Nat := 84
abbrev cM_shrink : ByteArray := prog_6_method_35_code
def yM_shrink : MethodName := ⟨"ShrinkLayoutModel", "shrink", "()I"⟩
abbrev mM_shrink : Nat := 85
abbrev cM_settle : ByteArray := prog_6_method_37_code
def yM_settle : MethodName := ⟨"ShrinkLayoutModel", "settle", "()I"⟩
abbrev mM_settle : Nat := 86
abbrev cM_isTight : ByteArray := prog_6_method_36_code
def yM_isTight : MethodName := ⟨"ShrinkLayoutModel", "isTight", "(I)Z"⟩
abbrev mM_isTight : Nat := 87
abbrev cM_reset : ByteArray := prog_6_method_38_code
def yM_reset : MethodName := ⟨"ShrinkLayoutModel", "reset", "()V"⟩
abbrev mM_reset : Nat := 88
abbrev cM_holds : ByteArray := prog_6_method_39_code
def yM_holds : MethodName := ⟨"ShrinkLayoutModel", "holds", "()I"⟩
abbrev mM_holds : Nat := 89
abbrev cM_lacks : ByteArray := prog_6_method_40_code
def yM_lacks : MethodName := ⟨"ShrinkLayoutModel", "lacks", "()I"⟩
abbrev mM_lacks : Nat := 90
abbrev cM_piece : ByteArray := prog_6_method_41_code
def yM_piece : MethodName := ⟨"ShrinkLayoutModel", "piece", "(II)I"⟩
abbrev mM_piece : Nat := 91
abbrev cM_aim : ByteArray := prog_6_method_42_code
def yM_aim : MethodName := ⟨"ShrinkLayoutModel", "aim", "(I)J"⟩
abbrev mM_aim : Nat := 92
abbrev cM_value : ByteArray := prog_6_method_43_code
def yM_value : MethodName := ⟨"ShrinkLayoutModel", "value", "(I)I"⟩
abbrev mM_value : Nat := 93
abbrev cM_span : ByteArray := prog_6_method_44_code
def yM_span : MethodName := ⟨"ShrinkLayoutModel", "span", "(II)I"⟩
abbrev mM_span : Nat := 94
abbrev cM_output : ByteArray := prog_6_method_45_code
def yM_output : MethodName := ⟨"ShrinkLayoutModel", "output", "(II)I"⟩
abbrev mM_output : Nat := 95
abbrev cM_saved : ByteArray := prog_6_method_46_code
def yM_saved : MethodName := ⟨"ShrinkLayoutModel", "saved", "()I"⟩
abbrev mM_saved : Nat := 96
abbrev cS_partAt : ByteArray := prog_1_method_29_code
def yS_partAt : MethodName := ⟨"ShrinkLayout", "partAt", "(I)LShrinkLayout$Part;"⟩
abbrev mS_partAt : Nat := 97
abbrev cS_labelAt : ByteArray := prog_1_method_31_code
def yS_labelAt : MethodName := ⟨"ShrinkLayout", "labelAt", "(I)LShrinkLayout$Label;"⟩
abbrev mS_labelAt : Nat := 98
abbrev cS_pieceAt : ByteArray := prog_1_method_30_code
def yS_pieceAt : MethodName := ⟨"ShrinkLayout", "pieceAt", "(I)LShrinkLayout$Piece;"⟩
abbrev mS_pieceAt : Nat := 99
abbrev cS_partLedTo : ByteArray := prog_1_method_33_code
def yS_partLedTo : MethodName := ⟨"ShrinkLayout", "partLedTo", "(LShrinkLayout$Piece;)LShrinkLayout$Part;"⟩
abbrev mS_partLedTo : Nat := 100
abbrev cL_law : ByteArray := code
def yL_law : MethodName := ⟨"ShrinkLayoutLaw", "law", "([I)Z"⟩
abbrev mL_law : Nat := 101
end
section
theorem dP_init_0 : decode cP_init 0 = .ok (.aload_n 0, 1) := by decide +kernel
theorem dP_init_1 : decode cP_init 1 = .ok (.invokespecial 1, 3) := by decide +kernel
theorem dP_init_4 : decode cP_init 4 = .ok (.aload_n 0, 1) := by decide +kernel
theorem dP_init_5 : decode cP_init 5 = .ok (.iload_n 1, 1) := by decide +kernel
theorem dP_init_6 : decode cP_init 6 = .ok (.putfield 7, 3) := by decide +kernel
theorem dP_init_9 : decode cP_init 9 = .ok (.aload_n 0, 1) := by decide +kernel
theorem dP_init_10 : decode cP_init 10 = .ok (.iload_n 2, 1) := by decide +kernel
theorem dP_init_11 : decode cP_init 11 = .ok (.putfield 13, 3) := by decide +kernel
theorem dP_init_14 : decode cP_init 14 = .ok (.aload_n 0, 1) := by decide +kernel
theorem dP_init_15 : decode cP_init 15 = .ok (.iload_n 3, 1) := by decide +kernel
theorem dP_init_16 : decode cP_init 16 = .ok (.putfield 16, 3) := by decide +kernel
theorem dP_init_19 : decode cP_init 19 = .ok (.return_, 1) := by decide +kernel
theorem dQ_init_0 : decode cQ_init 0 = .ok (.aload_n 0, 1) := by decide +kernel
theorem dQ_init_1 : decode cQ_init 1 = .ok (.invokespecial 3, 3) := by decide +kernel
theorem dQ_init_4 : decode cQ_init 4 = .ok (.aload_n 0, 1) := by decide +kernel
theorem dQ_init_5 : decode cQ_init 5 = .ok (.iload_n 1, 1) := by decide +kernel
theorem dQ_init_6 : decode cQ_init 6 = .ok (.putfield 9, 3) := by decide +kernel
theorem dQ_init_9 : decode cQ_init 9 = .ok (.aload_n 0, 1) := by decide +kernel
theorem dQ_init_10 : decode cQ_init 10 = .ok (.aload_n 2, 1) := by decide +kernel
theorem dQ_init_11 : decode cQ_init 11 = .ok (.putfield 15, 3) := by decide +kernel
theorem dQ_init_14 : decode cQ_init 14 = .ok (.aload_n 0, 1) := by decide +kernel
theorem dQ_init_15 : decode cQ_init 15 = .ok (.aconst_null, 1) := by decide +kernel
theorem dQ_init_16 : decode cQ_init 16 = .ok (.putfield 19, 3) := by decide +kernel
theorem dQ_init_19 : decode cQ_init 19 = .ok (.aload_n 0, 1) := by decide +kernel
theorem dQ_init_20 : decode cQ_init 20 = .ok (.iconst 0, 1) := by decide +kernel
theorem dQ_init_21 : decode cQ_init 21 = .ok (.putfield 23, 3) := by decide +kernel
theorem dQ_init_24 : decode cQ_init 24 = .ok (.aload_n 0, 1) := by decide +kernel
theorem dQ_init_25 : decode cQ_init 25 = .ok (.iconst 0, 1) := by decide +kernel
theorem dQ_init_26 : decode cQ_init 26 = .ok (.putfield 26, 3) := by decide +kernel
theorem dQ_init_29 : decode cQ_init 29 = .ok (.aload_n 0, 1) := by decide +kernel
theorem dQ_init_30 : decode cQ_init 30 = .ok (.iload_n 3, 1) := by decide +kernel
theorem dQ_init_31 : decode cQ_init 31 = .ok (.putfield 30, 3) := by decide +kernel
theorem dQ_init_34 : decode cQ_init 34 = .ok (.aload_n 0, 1) := by decide +kernel
theorem dQ_init_35 : decode cQ_init 35 = .ok (.iload 4, 2) := by decide +kernel
theorem dQ_init_37 : decode cQ_init 37 = .ok (.putfield 33, 3) := by decide +kernel
theorem dQ_init_40 : decode cQ_init 40 = .ok (.aload_n 0, 1) := by decide +kernel
theorem dQ_init_41 : decode cQ_init 41 = .ok (.iload 4, 2) := by decide +kernel
theorem dQ_init_43 : decode cQ_init 43 = .ok (.putfield 36, 3) := by decide +kernel
theorem dQ_init_46 : decode cQ_init 46 = .ok (.aload_n 0, 1) := by decide +kernel
theorem dQ_init_47 : decode cQ_init 47 = .ok (.iload 4, 2) := by decide +kernel
theorem dQ_init_49 : decode cQ_init 49 = .ok (.putfield 39, 3) := by decide +kernel
theorem dQ_init_52 : decode cQ_init 52 = .ok (.return_, 1) := by decide +kernel
theorem dP_append_0 : decode cP_append 0 = .ok (.aload_n 0, 1) := by decide +kernel
theorem dP_append_1 : decode cP_append 1 = .ok (.getfield 19, 3) := by decide +kernel
theorem dP_append_4 : decode cP_append 4 = .ok (.ifnonnull (11), 3) := by decide +kernel
theorem dP_append_7 : decode cP_append 7 = .ok (.aload_n 0, 1) := by decide +kernel
theorem dP_append_8 : decode cP_append 8 = .ok (.aload_n 1, 1) := by decide +kernel
theorem dP_append_9 : decode cP_append 9 = .ok (.putfield 23, 3) := by decide +kernel
theorem dP_append_12 : decode cP_append 12 = .ok (.goto (11), 3) := by decide +kernel
theorem dP_append_15 : decode cP_append 15 = .ok (.aload_n 0, 1) := by decide +kernel
theorem dP_append_16 : decode cP_append 16 = .ok (.getfield 19, 3) := by decide +kernel
theorem dP_append_19 : decode cP_append 19 = .ok (.aload_n 1, 1) := by decide +kernel
theorem dP_append_20 : decode cP_append 20 = .ok (.putfield 26, 3) := by decide +kernel
theorem dP_append_23 : decode cP_append 23 = .ok (.aload_n 0, 1) := by decide +kernel
theorem dP_append_24 : decode cP_append 24 = .ok (.aload_n 1, 1) := by decide +kernel
theorem dP_append_25 : decode cP_append 25 = .ok (.putfield 19, 3) := by decide +kernel
theorem dP_append_28 : decode cP_append 28 = .ok (.return_, 1) := by decide +kernel
theorem dQ_init2_0 : decode cQ_init2 0 = .ok (.aload_n 0, 1) := by decide +kernel
theorem dQ_init2_1 : decode cQ_init2 1 = .ok (.invokespecial 3, 3) := by decide +kernel
theorem dQ_init2_4 : decode cQ_init2 4 = .ok (.aload_n 0, 1) := by decide +kernel
theorem dQ_init2_5 : decode cQ_init2 5 = .ok (.iload_n 1, 1) := by decide +kernel
theorem dQ_init2_6 : decode cQ_init2 6 = .ok (.putfield 9, 3) := by decide +kernel
theorem dQ_init2_9 : decode cQ_init2 9 = .ok (.aload_n 0, 1) := by decide +kernel
theorem dQ_init2_10 : decode cQ_init2 10 = .ok (.aload_n 2, 1) := by decide +kernel
theorem dQ_init2_11 : decode cQ_init2 11 = .ok (.putfield 15, 3) := by decide +kernel
theorem dQ_init2_14 : decode cQ_init2 14 = .ok (.aload_n 0, 1) := by decide +kernel
theorem dQ_init2_15 : decode cQ_init2 15 = .ok (.aload_n 3, 1) := by decide +kernel
theorem dQ_init2_16 : decode cQ_init2 16 = .ok (.putfield 19, 3) := by decide +kernel
theorem dQ_init2_19 : decode cQ_init2 19 = .ok (.aload_n 0, 1) := by decide +kernel
theorem dQ_init2_20 : decode cQ_init2 20 = .ok (.iload 4, 2) := by decide +kernel
theorem dQ_init2_22 : decode cQ_init2 22 = .ok (.putfield 23, 3) := by decide +kernel
theorem dQ_init2_25 : decode cQ_init2 25 = .ok (.aload_n 0, 1) := by decide +kernel
theorem dQ_init2_26 : decode cQ_init2 26 = .ok (.iload 5, 2) := by decide +kernel
theorem dQ_init2_28 : decode cQ_init2 28 = .ok (.putfield 26, 3) := by decide +kernel
theorem dQ_init2_31 : decode cQ_init2 31 = .ok (.aload_n 0, 1) := by decide +kernel
theorem dQ_init2_32 : decode cQ_init2 32 = .ok (.iconst 0, 1) := by decide +kernel
theorem dQ_init2_33 : decode cQ_init2 33 = .ok (.putfield 30, 3) := by decide +kernel
theorem dQ_init2_36 : decode cQ_init2 36 = .ok (.aload_n 0, 1) := by decide +kernel
theorem dQ_init2_37 : decode cQ_init2 37 = .ok (.iconst 0, 1) := by decide +kernel
theorem dQ_init2_38 : decode cQ_init2 38 = .ok (.putfield 33, 3) := by decide +kernel
theorem dQ_init2_41 : decode cQ_init2 41 = .ok (.aload_n 0, 1) := by decide +kernel
theorem dQ_init2_42 : decode cQ_init2 42 = .ok (.iload_n 1, 1) := by decide +kernel
theorem dQ_init2_43 : decode cQ_init2 43 = .ok (.iconst 1, 1) := by decide +kernel
theorem dQ_init2_44 : decode cQ_init2 44 = .ok (.if_icmp .ne (8), 3) := by decide +kernel
theorem dQ_init2_47 : decode cQ_init2 47 = .ok (.bipush (8), 2) := by decide +kernel
theorem dQ_init2_49 : decode cQ_init2 49 = .ok (.goto (4), 3) := by decide +kernel
theorem dQ_init2_52 : decode cQ_init2 52 = .ok (.iconst 4, 1) := by decide +kernel
theorem dQ_init2_53 : decode cQ_init2 53 = .ok (.putfield 36, 3) := by decide +kernel
theorem dQ_init2_56 : decode cQ_init2 56 = .ok (.aload_n 0, 1) := by decide +kernel
theorem dQ_init2_57 : decode cQ_init2 57 = .ok (.aload_n 0, 1) := by decide +kernel
theorem dQ_init2_58 : decode cQ_init2 58 = .ok (.getfield 36, 3) := by decide +kernel
theorem dQ_init2_61 : decode cQ_init2 61 = .ok (.putfield 39, 3) := by decide +kernel
theorem dQ_init2_64 : decode cQ_init2 64 = .ok (.return_, 1) := by decide +kernel
theorem dB_init_0 : decode cB_init 0 = .ok (.aload_n 0, 1) := by decide +kernel
theorem dB_init_1 : decode cB_init 1 = .ok (.invokespecial 1, 3) := by decide +kernel
theorem dB_init_4 : decode cB_init 4 = .ok (.return_, 1) := by decide +kernel
theorem dA_min_0 : decode cA_min 0 = .ok (.iload_n 0, 1) := by decide +kernel
theorem dA_min_1 : decode cA_min 1 = .ok (.iload_n 1, 1) := by decide +kernel
theorem dA_min_2 : decode cA_min 2 = .ok (.if_icmp .gt (7), 3) := by decide +kernel
theorem dA_min_5 : decode cA_min 5 = .ok (.iload_n 0, 1) := by decide +kernel
theorem dA_min_6 : decode cA_min 6 = .ok (.goto (4), 3) := by decide +kernel
theorem dA_min_9 : decode cA_min 9 = .ok (.iload_n 1, 1) := by decide +kernel
theorem dA_min_10 : decode cA_min 10 = .ok (.ireturn, 1) := by decide +kernel
theorem dA_floorDiv_0 : decode cA_floorDiv 0 = .ok (.lload_n 0, 1) := by decide +kernel
theorem dA_floorDiv_1 : decode cA_floorDiv 1 = .ok (.lload_n 2, 1) := by decide +kernel
theorem dA_floorDiv_2 : decode cA_floorDiv 2 = .ok (.ldiv, 1) := by decide +kernel
theorem dA_floorDiv_3 : decode cA_floorDiv 3 = .ok (.lstore 4, 2) := by decide +kernel
theorem dA_floorDiv_5 : decode cA_floorDiv 5 = .ok (.lload_n 0, 1) := by decide +kernel
theorem dA_floorDiv_6 : decode cA_floorDiv 6 = .ok (.lload_n 2, 1) := by decide +kernel
theorem dA_floorDiv_7 : decode cA_floorDiv 7 = .ok (.lxor, 1) := by decide +kernel
theorem dA_floorDiv_8 : decode cA_floorDiv 8 = .ok (.lconst 0, 1) := by decide +kernel
theorem dA_floorDiv_9 : decode cA_floorDiv 9 = .ok (.lcmp, 1) := by decide +kernel
theorem dA_floorDiv_10 : decode cA_floorDiv 10 = .ok (.ifCond .ge (17), 3) := by decide +kernel
theorem dA_floorDiv_13 : decode cA_floorDiv 13 = .ok (.lload 4, 2) := by decide +kernel
theorem dA_floorDiv_15 : decode cA_floorDiv 15 = .ok (.lload_n 2, 1) := by decide +kernel
theorem dA_floorDiv_16 : decode cA_floorDiv 16 = .ok (.lmul, 1) := by decide +kernel
theorem dA_floorDiv_17 : decode cA_floorDiv 17 = .ok (.lload_n 0, 1) := by decide +kernel
theorem dA_floorDiv_18 : decode cA_floorDiv 18 = .ok (.lcmp, 1) := by decide +kernel
theorem dA_floorDiv_19 : decode cA_floorDiv 19 = .ok (.ifCond .eq (8), 3) := by decide +kernel
theorem dA_floorDiv_22 : decode cA_floorDiv 22 = .ok (.lload 4, 2) := by decide +kernel
theorem dA_floorDiv_24 : decode cA_floorDiv 24 = .ok (.lconst 1, 1) := by decide +kernel
theorem dA_floorDiv_25 : decode cA_floorDiv 25 = .ok (.lsub, 1) := by decide +kernel
theorem dA_floorDiv_26 : decode cA_floorDiv 26 = .ok (.lreturn, 1) := by decide +kernel
theorem dA_floorDiv_27 : decode cA_floorDiv 27 = .ok (.lload 4, 2) := by decide +kernel
theorem dA_floorDiv_29 : decode cA_floorDiv 29 = .ok (.lreturn, 1) := by decide +kernel
theorem dS_init_0 : decode cS_init 0 = .ok (.aload_n 0, 1) := by decide +kernel
theorem dS_init_1 : decode cS_init 1 = .ok (.invokespecial 3, 3) := by decide +kernel
theorem dS_init_4 : decode cS_init 4 = .ok (.aload_n 0, 1) := by decide +kernel
theorem dS_init_5 : decode cS_init 5 = .ok (.bipush (32), 2) := by decide +kernel
theorem dS_init_7 : decode cS_init 7 = .ok (.anewarray 9, 3) := by decide +kernel
theorem dS_init_10 : decode cS_init 10 = .ok (.putfield 11, 3) := by decide +kernel
theorem dS_init_13 : decode cS_init 13 = .ok (.aload_n 0, 1) := by decide +kernel
theorem dS_init_14 : decode cS_init 14 = .ok (.sipush (256), 3) := by decide +kernel
theorem dS_init_17 : decode cS_init 17 = .ok (.anewarray 15, 3) := by decide +kernel
theorem dS_init_20 : decode cS_init 20 = .ok (.putfield 17, 3) := by decide +kernel
theorem dS_init_23 : decode cS_init 23 = .ok (.aload_n 0, 1) := by decide +kernel
theorem dS_init_24 : decode cS_init 24 = .ok (.bipush (64), 2) := by decide +kernel
theorem dS_init_26 : decode cS_init 26 = .ok (.anewarray 21, 3) := by decide +kernel
theorem dS_init_29 : decode cS_init 29 = .ok (.putfield 23, 3) := by decide +kernel
theorem dS_init_32 : decode cS_init 32 = .ok (.aload_n 0, 1) := by decide +kernel
theorem dS_init_33 : decode cS_init 33 = .ok (.iconst 4, 1) := by decide +kernel
theorem dS_init_34 : decode cS_init 34 = .ok (.newarray .int, 2) := by decide +kernel
theorem dS_init_36 : decode cS_init 36 = .ok (.putfield 27, 3) := by decide +kernel
theorem dS_init_39 : decode cS_init 39 = .ok (.aload_n 0, 1) := by decide +kernel
theorem dS_init_40 : decode cS_init 40 = .ok (.iconst 4, 1) := by decide +kernel
theorem dS_init_41 : decode cS_init 41 = .ok (.newarray .int, 2) := by decide +kernel
theorem dS_init_43 : decode cS_init 43 = .ok (.putfield 31, 3) := by decide +kernel
theorem dS_init_46 : decode cS_init 46 = .ok (.aload_n 0, 1) := by decide +kernel
theorem dS_init_47 : decode cS_init 47 = .ok (.iconst 4, 1) := by decide +kernel
theorem dS_init_48 : decode cS_init 48 = .ok (.newarray .int, 2) := by decide +kernel
theorem dS_init_50 : decode cS_init 50 = .ok (.putfield 34, 3) := by decide +kernel
theorem dS_init_53 : decode cS_init 53 = .ok (.return_, 1) := by decide +kernel
theorem dS_part_0 : decode cS_part 0 = .ok (.aload_n 0, 1) := by decide +kernel
theorem dS_part_1 : decode cS_part 1 = .ok (.getfield 37, 3) := by decide +kernel
theorem dS_part_4 : decode cS_part 4 = .ok (.aload_n 0, 1) := by decide +kernel
theorem dS_part_5 : decode cS_part 5 = .ok (.getfield 11, 3) := by decide +kernel
theorem dS_part_8 : decode cS_part 8 = .ok (.arraylength, 1) := by decide +kernel
theorem dS_part_9 : decode cS_part 9 = .ok (.if_icmp .ge (17), 3) := by decide +kernel
theorem dS_part_12 : decode cS_part 12 = .ok (.iload_n 1, 1) := by decide +kernel
theorem dS_part_13 : decode cS_part 13 = .ok (.invokestatic 41, 3) := by decide +kernel
theorem dS_part_16 : decode cS_part 16 = .ok (.ifCond .eq (10), 3) := by decide +kernel
theorem dS_part_19 : decode cS_part 19 = .ok (.iload_n 2, 1) := by decide +kernel
theorem dS_part_20 : decode cS_part 20 = .ok (.invokestatic 45, 3) := by decide +kernel
theorem dS_part_23 : decode cS_part 23 = .ok (.ifCond .ne (5), 3) := by decide +kernel
theorem dS_part_26 : decode cS_part 26 = .ok (.iconst (-1), 1) := by decide +kernel
theorem dS_part_27 : decode cS_part 27 = .ok (.ireturn, 1) := by decide +kernel
theorem dS_part_28 : decode cS_part 28 = .ok (.aload_n 0, 1) := by decide +kernel
theorem dS_part_29 : decode cS_part 29 = .ok (.getfield 11, 3) := by decide +kernel
theorem dS_part_32 : decode cS_part 32 = .ok (.aload_n 0, 1) := by decide +kernel
theorem dS_part_33 : decode cS_part 33 = .ok (.getfield 37, 3) := by decide +kernel
theorem dS_part_36 : decode cS_part 36 = .ok (.new 9, 3) := by decide +kernel
theorem dS_part_39 : decode cS_part 39 = .ok (.dup, 1) := by decide +kernel
theorem dS_part_40 : decode cS_part 40 = .ok (.aload_n 0, 1) := by decide +kernel
theorem dS_part_41 : decode cS_part 41 = .ok (.getfield 37, 3) := by decide +kernel
theorem dS_part_44 : decode cS_part 44 = .ok (.iload_n 1, 1) := by decide +kernel
theorem dS_part_45 : decode cS_part 45 = .ok (.iload_n 2, 1) := by decide +kernel
theorem dS_part_46 : decode cS_part 46 = .ok (.invokespecial 48, 3) := by decide +kernel
theorem dS_part_49 : decode cS_part 49 = .ok (.aastore, 1) := by decide +kernel
theorem dS_part_50 : decode cS_part 50 = .ok (.aload_n 0, 1) := by decide +kernel
theorem dS_part_51 : decode cS_part 51 = .ok (.dup, 1) := by decide +kernel
theorem dS_part_52 : decode cS_part 52 = .ok (.getfield 37, 3) := by decide +kernel
theorem dS_part_55 : decode cS_part 55 = .ok (.iconst 1, 1) := by decide +kernel
theorem dS_part_56 : decode cS_part 56 = .ok (.iadd, 1) := by decide +kernel
theorem dS_part_57 : decode cS_part 57 = .ok (.putfield 37, 3) := by decide +kernel
theorem dS_part_60 : decode cS_part 60 = .ok (.aload_n 0, 1) := by decide +kernel
theorem dS_part_61 : decode cS_part 61 = .ok (.getfield 37, 3) := by decide +kernel
theorem dS_part_64 : decode cS_part 64 = .ok (.iconst 1, 1) := by decide +kernel
theorem dS_part_65 : decode cS_part 65 = .ok (.isub, 1) := by decide +kernel
theorem dS_part_66 : decode cS_part 66 = .ok (.ireturn, 1) := by decide +kernel
theorem dS_isOutput_0 : decode cS_isOutput 0 = .ok (.iload_n 0, 1) := by decide +kernel
theorem dS_isOutput_1 : decode cS_isOutput 1 = .ok (.i2l, 1) := by decide +kernel
theorem dS_isOutput_2 : decode cS_isOutput 2 = .ok (.lconst 0, 1) := by decide +kernel
theorem dS_isOutput_3 : decode cS_isOutput 3 = .ok (.ldc2_w 251, 3) := by decide +kernel
theorem dS_isOutput_6 : decode cS_isOutput 6 = .ok (.invokestatic 57, 3) := by decide +kernel
theorem dS_isOutput_9 : decode cS_isOutput 9 = .ok (.ireturn, 1) := by decide +kernel
theorem dS_isWithin_0 : decode cS_isWithin 0 = .ok (.lload_n 0, 1) := by decide +kernel
theorem dS_isWithin_1 : decode cS_isWithin 1 = .ok (.lload_n 2, 1) := by decide +kernel
theorem dS_isWithin_2 : decode cS_isWithin 2 = .ok (.lcmp, 1) := by decide +kernel
theorem dS_isWithin_3 : decode cS_isWithin 3 = .ok (.ifCond .lt (14), 3) := by decide +kernel
theorem dS_isWithin_6 : decode cS_isWithin 6 = .ok (.lload_n 0, 1) := by decide +kernel
theorem dS_isWithin_7 : decode cS_isWithin 7 = .ok (.lload 4, 2) := by decide +kernel
theorem dS_isWithin_9 : decode cS_isWithin 9 = .ok (.lcmp, 1) := by decide +kernel
theorem dS_isWithin_10 : decode cS_isWithin 10 = .ok (.ifCond .gt (7), 3) := by decide +kernel
theorem dS_isWithin_13 : decode cS_isWithin 13 = .ok (.iconst 1, 1) := by decide +kernel
theorem dS_isWithin_14 : decode cS_isWithin 14 = .ok (.goto (4), 3) := by decide +kernel
theorem dS_isWithin_17 : decode cS_isWithin 17 = .ok (.iconst 0, 1) := by decide +kernel
theorem dS_isWithin_18 : decode cS_isWithin 18 = .ok (.ireturn, 1) := by decide +kernel
theorem dS_isPower_0 : decode cS_isPower 0 = .ok (.iload_n 0, 1) := by decide +kernel
theorem dS_isPower_1 : decode cS_isPower 1 = .ok (.i2l, 1) := by decide +kernel
theorem dS_isPower_2 : decode cS_isPower 2 = .ok (.lconst 0, 1) := by decide +kernel
theorem dS_isPower_3 : decode cS_isPower 3 = .ok (.ldc2_w 253, 3) := by decide +kernel
theorem dS_isPower_6 : decode cS_isPower 6 = .ok (.invokestatic 57, 3) := by decide +kernel
theorem dS_isPower_9 : decode cS_isPower 9 = .ok (.ireturn, 1) := by decide +kernel
theorem dS_plain_0 : decode cS_plain 0 = .ok (.aload_n 0, 1) := by decide +kernel
theorem dS_plain_1 : decode cS_plain 1 = .ok (.iload_n 1, 1) := by decide +kernel
theorem dS_plain_2 : decode cS_plain 2 = .ok (.invokevirtual 51, 3) := by decide +kernel
theorem dS_plain_5 : decode cS_plain 5 = .ok (.astore_n 3, 1) := by decide +kernel
theorem dS_plain_6 : decode cS_plain 6 = .ok (.aload_n 3, 1) := by decide +kernel
theorem dS_plain_7 : decode cS_plain 7 = .ok (.ifnull (15), 3) := by decide +kernel
theorem dS_plain_10 : decode cS_plain 10 = .ok (.iload_n 2, 1) := by decide +kernel
theorem dS_plain_11 : decode cS_plain 11 = .ok (.i2l, 1) := by decide +kernel
theorem dS_plain_12 : decode cS_plain 12 = .ok (.lconst 0, 1) := by decide +kernel
theorem dS_plain_13 : decode cS_plain 13 = .ok (.ldc2_w 55, 3) := by decide +kernel
theorem dS_plain_16 : decode cS_plain 16 = .ok (.invokestatic 57, 3) := by decide +kernel
theorem dS_plain_19 : decode cS_plain 19 = .ok (.ifCond .ne (5), 3) := by decide +kernel
theorem dS_plain_22 : decode cS_plain 22 = .ok (.iconst (-1), 1) := by decide +kernel
theorem dS_plain_23 : decode cS_plain 23 = .ok (.ireturn, 1) := by decide +kernel
theorem dS_plain_24 : decode cS_plain 24 = .ok (.aload_n 0, 1) := by decide +kernel
theorem dS_plain_25 : decode cS_plain 25 = .ok (.new 15, 3) := by decide +kernel
theorem dS_plain_28 : decode cS_plain 28 = .ok (.dup, 1) := by decide +kernel
theorem dS_plain_29 : decode cS_plain 29 = .ok (.iconst 0, 1) := by decide +kernel
theorem dS_plain_30 : decode cS_plain 30 = .ok (.aload_n 3, 1) := by decide +kernel
theorem dS_plain_31 : decode cS_plain 31 = .ok (.iconst 0, 1) := by decide +kernel
theorem dS_plain_32 : decode cS_plain 32 = .ok (.iload_n 2, 1) := by decide +kernel
theorem dS_plain_33 : decode cS_plain 33 = .ok (.invokespecial 61, 3) := by decide +kernel
theorem dS_plain_36 : decode cS_plain 36 = .ok (.invokevirtual 64, 3) := by decide +kernel
theorem dS_plain_39 : decode cS_plain 39 = .ok (.ireturn, 1) := by decide +kernel
theorem dS_addPiece_0 : decode cS_addPiece 0 = .ok (.aload_n 0, 1) := by decide +kernel
theorem dS_addPiece_1 : decode cS_addPiece 1 = .ok (.getfield 186, 3) := by decide +kernel
theorem dS_addPiece_4 : decode cS_addPiece 4 = .ok (.aload_n 0, 1) := by decide +kernel
theorem dS_addPiece_5 : decode cS_addPiece 5 = .ok (.getfield 17, 3) := by decide +kernel
theorem dS_addPiece_8 : decode cS_addPiece 8 = .ok (.arraylength, 1) := by decide +kernel
theorem dS_addPiece_9 : decode cS_addPiece 9 = .ok (.if_icmp .lt (5), 3) := by decide +kernel
theorem dS_addPiece_12 : decode cS_addPiece 12 = .ok (.iconst (-1), 1) := by decide +kernel
theorem dS_addPiece_13 : decode cS_addPiece 13 = .ok (.ireturn, 1) := by decide +kernel
theorem dS_addPiece_14 : decode cS_addPiece 14 = .ok (.aload_n 0, 1) := by decide +kernel
theorem dS_addPiece_15 : decode cS_addPiece 15 = .ok (.getfield 17, 3) := by decide +kernel
theorem dS_addPiece_18 : decode cS_addPiece 18 = .ok (.aload_n 0, 1) := by decide +kernel
theorem dS_addPiece_19 : decode cS_addPiece 19 = .ok (.getfield 186, 3) := by decide +kernel
theorem dS_addPiece_22 : decode cS_addPiece 22 = .ok (.aload_n 1, 1) := by decide +kernel
theorem dS_addPiece_23 : decode cS_addPiece 23 = .ok (.aastore, 1) := by decide +kernel
theorem dS_addPiece_24 : decode cS_addPiece 24 = .ok (.aload_n 1, 1) := by decide +kernel
theorem dS_addPiece_25 : decode cS_addPiece 25 = .ok (.getfield 144, 3) := by decide +kernel
theorem dS_addPiece_28 : decode cS_addPiece 28 = .ok (.aload_n 1, 1) := by decide +kernel
theorem dS_addPiece_29 : decode cS_addPiece 29 = .ok (.invokevirtual 189, 3) := by decide +kernel
theorem dS_addPiece_32 : decode cS_addPiece 32 = .ok (.aload_n 0, 1) := by decide +kernel
theorem dS_addPiece_33 : decode cS_addPiece 33 = .ok (.dup, 1) := by decide +kernel
theorem dS_addPiece_34 : decode cS_addPiece 34 = .ok (.getfield 186, 3) := by decide +kernel
theorem dS_addPiece_37 : decode cS_addPiece 37 = .ok (.iconst 1, 1) := by decide +kernel
theorem dS_addPiece_38 : decode cS_addPiece 38 = .ok (.iadd, 1) := by decide +kernel
theorem dS_addPiece_39 : decode cS_addPiece 39 = .ok (.putfield 186, 3) := by decide +kernel
theorem dS_addPiece_42 : decode cS_addPiece 42 = .ok (.aload_n 0, 1) := by decide +kernel
theorem dS_addPiece_43 : decode cS_addPiece 43 = .ok (.getfield 186, 3) := by decide +kernel
theorem dS_addPiece_46 : decode cS_addPiece 46 = .ok (.iconst 1, 1) := by decide +kernel
theorem dS_addPiece_47 : decode cS_addPiece 47 = .ok (.isub, 1) := by decide +kernel
theorem dS_addPiece_48 : decode cS_addPiece 48 = .ok (.ireturn, 1) := by decide +kernel
theorem dS_call_0 : decode cS_call 0 = .ok (.aload_n 0, 1) := by decide +kernel
theorem dS_call_1 : decode cS_call 1 = .ok (.iconst 1, 1) := by decide +kernel
theorem dS_call_2 : decode cS_call 2 = .ok (.iload_n 1, 1) := by decide +kernel
theorem dS_call_3 : decode cS_call 3 = .ok (.iload_n 2, 1) := by decide +kernel
theorem dS_call_4 : decode cS_call 4 = .ok (.iload_n 3, 1) := by decide +kernel
theorem dS_call_5 : decode cS_call 5 = .ok (.iload 4, 2) := by decide +kernel
theorem dS_call_7 : decode cS_call 7 = .ok (.invokevirtual 68, 3) := by decide +kernel
theorem dS_call_10 : decode cS_call 10 = .ok (.ireturn, 1) := by decide +kernel
theorem dS_addAimed_0 : decode cS_addAimed 0 = .ok (.aload_n 0, 1) := by decide +kernel
theorem dS_addAimed_1 : decode cS_addAimed 1 = .ok (.iload_n 2, 1) := by decide +kernel
theorem dS_addAimed_2 : decode cS_addAimed 2 = .ok (.invokevirtual 51, 3) := by decide +kernel
theorem dS_addAimed_5 : decode cS_addAimed 5 = .ok (.astore 6, 2) := by decide +kernel
theorem dS_addAimed_7 : decode cS_addAimed 7 = .ok (.aload_n 0, 1) := by decide +kernel
theorem dS_addAimed_8 : decode cS_addAimed 8 = .ok (.iload_n 3, 1) := by decide +kernel
theorem dS_addAimed_9 : decode cS_addAimed 9 = .ok (.invokevirtual 78, 3) := by decide +kernel
theorem dS_addAimed_12 : decode cS_addAimed 12 = .ok (.astore 7, 2) := by decide +kernel
theorem dS_addAimed_14 : decode cS_addAimed 14 = .ok (.aload 6, 2) := by decide +kernel
theorem dS_addAimed_16 : decode cS_addAimed 16 = .ok (.ifnull (8), 3) := by decide +kernel
theorem dS_addAimed_19 : decode cS_addAimed 19 = .ok (.aload 7, 2) := by decide +kernel
theorem dS_addAimed_21 : decode cS_addAimed 21 = .ok (.ifnonnull (5), 3) := by decide +kernel
theorem dS_addAimed_24 : decode cS_addAimed 24 = .ok (.iconst (-1), 1) := by decide +kernel
theorem dS_addAimed_25 : decode cS_addAimed 25 = .ok (.ireturn, 1) := by decide +kernel
theorem dS_addAimed_26 : decode cS_addAimed 26 = .ok (.aload_n 0, 1) := by decide +kernel
theorem dS_addAimed_27 : decode cS_addAimed 27 = .ok (.new 15, 3) := by decide +kernel
theorem dS_addAimed_30 : decode cS_addAimed 30 = .ok (.dup, 1) := by decide +kernel
theorem dS_addAimed_31 : decode cS_addAimed 31 = .ok (.iload_n 1, 1) := by decide +kernel
theorem dS_addAimed_32 : decode cS_addAimed 32 = .ok (.aload 6, 2) := by decide +kernel
theorem dS_addAimed_34 : decode cS_addAimed 34 = .ok (.aload 7, 2) := by decide +kernel
theorem dS_addAimed_36 : decode cS_addAimed 36 = .ok (.iload 4, 2) := by decide +kernel
theorem dS_addAimed_38 : decode cS_addAimed 38 = .ok (.iload 5, 2) := by decide +kernel
theorem dS_addAimed_40 : decode cS_addAimed 40 = .ok (.invokespecial 183, 3) := by decide +kernel
theorem dS_addAimed_43 : decode cS_addAimed 43 = .ok (.invokevirtual 64, 3) := by decide +kernel
theorem dS_addAimed_46 : decode cS_addAimed 46 = .ok (.ireturn, 1) := by decide +kernel
theorem dS_upper_0 : decode cS_upper 0 = .ok (.aload_n 0, 1) := by decide +kernel
theorem dS_upper_1 : decode cS_upper 1 = .ok (.iconst 2, 1) := by decide +kernel
theorem dS_upper_2 : decode cS_upper 2 = .ok (.iload_n 1, 1) := by decide +kernel
theorem dS_upper_3 : decode cS_upper 3 = .ok (.iload_n 2, 1) := by decide +kernel
theorem dS_upper_4 : decode cS_upper 4 = .ok (.iload_n 3, 1) := by decide +kernel
theorem dS_upper_5 : decode cS_upper 5 = .ok (.iload 4, 2) := by decide +kernel
theorem dS_upper_7 : decode cS_upper 7 = .ok (.invokevirtual 68, 3) := by decide +kernel
theorem dS_upper_10 : decode cS_upper 10 = .ok (.ireturn, 1) := by decide +kernel
theorem dS_near_0 : decode cS_near 0 = .ok (.aload_n 0, 1) := by decide +kernel
theorem dS_near_1 : decode cS_near 1 = .ok (.iconst 3, 1) := by decide +kernel
theorem dS_near_2 : decode cS_near 2 = .ok (.iload_n 1, 1) := by decide +kernel
theorem dS_near_3 : decode cS_near 3 = .ok (.iload_n 2, 1) := by decide +kernel
theorem dS_near_4 : decode cS_near 4 = .ok (.iload_n 3, 1) := by decide +kernel
theorem dS_near_5 : decode cS_near 5 = .ok (.iconst 0, 1) := by decide +kernel
theorem dS_near_6 : decode cS_near 6 = .ok (.invokevirtual 68, 3) := by decide +kernel
theorem dS_near_9 : decode cS_near 9 = .ok (.ireturn, 1) := by decide +kernel
theorem dS_fill_0 : decode cS_fill 0 = .ok (.aload_n 0, 1) := by decide +kernel
theorem dS_fill_1 : decode cS_fill 1 = .ok (.iload_n 1, 1) := by decide +kernel
theorem dS_fill_2 : decode cS_fill 2 = .ok (.invokevirtual 51, 3) := by decide +kernel
theorem dS_fill_5 : decode cS_fill 5 = .ok (.astore 4, 2) := by decide +kernel
theorem dS_fill_7 : decode cS_fill 7 = .ok (.aload 4, 2) := by decide +kernel
theorem dS_fill_9 : decode cS_fill 9 = .ok (.ifnull (22), 3) := by decide +kernel
theorem dS_fill_12 : decode cS_fill 12 = .ok (.iload_n 2, 1) := by decide +kernel
theorem dS_fill_13 : decode cS_fill 13 = .ok (.invokestatic 45, 3) := by decide +kernel
theorem dS_fill_16 : decode cS_fill 16 = .ok (.ifCond .eq (15), 3) := by decide +kernel
theorem dS_fill_19 : decode cS_fill 19 = .ok (.iload_n 3, 1) := by decide +kernel
theorem dS_fill_20 : decode cS_fill 20 = .ok (.i2l, 1) := by decide +kernel
theorem dS_fill_21 : decode cS_fill 21 = .ok (.lconst 0, 1) := by decide +kernel
theorem dS_fill_22 : decode cS_fill 22 = .ok (.ldc2_w 72, 3) := by decide +kernel
theorem dS_fill_25 : decode cS_fill 25 = .ok (.invokestatic 57, 3) := by decide +kernel
theorem dS_fill_28 : decode cS_fill 28 = .ok (.ifCond .ne (5), 3) := by decide +kernel
theorem dS_fill_31 : decode cS_fill 31 = .ok (.iconst (-1), 1) := by decide +kernel
theorem dS_fill_32 : decode cS_fill 32 = .ok (.ireturn, 1) := by decide +kernel
theorem dS_fill_33 : decode cS_fill 33 = .ok (.aload_n 0, 1) := by decide +kernel
theorem dS_fill_34 : decode cS_fill 34 = .ok (.new 15, 3) := by decide +kernel
theorem dS_fill_37 : decode cS_fill 37 = .ok (.dup, 1) := by decide +kernel
theorem dS_fill_38 : decode cS_fill 38 = .ok (.iconst 4, 1) := by decide +kernel
theorem dS_fill_39 : decode cS_fill 39 = .ok (.aload 4, 2) := by decide +kernel
theorem dS_fill_41 : decode cS_fill 41 = .ok (.iload_n 2, 1) := by decide +kernel
theorem dS_fill_42 : decode cS_fill 42 = .ok (.iload_n 3, 1) := by decide +kernel
theorem dS_fill_43 : decode cS_fill 43 = .ok (.invokespecial 61, 3) := by decide +kernel
theorem dS_fill_46 : decode cS_fill 46 = .ok (.invokevirtual 64, 3) := by decide +kernel
theorem dS_fill_49 : decode cS_fill 49 = .ok (.ireturn, 1) := by decide +kernel
theorem dS_label_0 : decode cS_label 0 = .ok (.aload_n 0, 1) := by decide +kernel
theorem dS_label_1 : decode cS_label 1 = .ok (.getfield 74, 3) := by decide +kernel
theorem dS_label_4 : decode cS_label 4 = .ok (.aload_n 0, 1) := by decide +kernel
theorem dS_label_5 : decode cS_label 5 = .ok (.getfield 23, 3) := by decide +kernel
theorem dS_label_8 : decode cS_label 8 = .ok (.arraylength, 1) := by decide +kernel
theorem dS_label_9 : decode cS_label 9 = .ok (.if_icmp .lt (5), 3) := by decide +kernel
theorem dS_label_12 : decode cS_label 12 = .ok (.iconst (-1), 1) := by decide +kernel
theorem dS_label_13 : decode cS_label 13 = .ok (.ireturn, 1) := by decide +kernel
theorem dS_label_14 : decode cS_label 14 = .ok (.aload_n 0, 1) := by decide +kernel
theorem dS_label_15 : decode cS_label 15 = .ok (.getfield 23, 3) := by decide +kernel
theorem dS_label_18 : decode cS_label 18 = .ok (.aload_n 0, 1) := by decide +kernel
theorem dS_label_19 : decode cS_label 19 = .ok (.getfield 74, 3) := by decide +kernel
theorem dS_label_22 : decode cS_label 22 = .ok (.new 21, 3) := by decide +kernel
theorem dS_label_25 : decode cS_label 25 = .ok (.dup, 1) := by decide +kernel
theorem dS_label_26 : decode cS_label 26 = .ok (.invokespecial 77, 3) := by decide +kernel
theorem dS_label_29 : decode cS_label 29 = .ok (.aastore, 1) := by decide +kernel
theorem dS_label_30 : decode cS_label 30 = .ok (.aload_n 0, 1) := by decide +kernel
theorem dS_label_31 : decode cS_label 31 = .ok (.dup, 1) := by decide +kernel
theorem dS_label_32 : decode cS_label 32 = .ok (.getfield 74, 3) := by decide +kernel
theorem dS_label_35 : decode cS_label 35 = .ok (.iconst 1, 1) := by decide +kernel
theorem dS_label_36 : decode cS_label 36 = .ok (.iadd, 1) := by decide +kernel
theorem dS_label_37 : decode cS_label 37 = .ok (.putfield 74, 3) := by decide +kernel
theorem dS_label_40 : decode cS_label 40 = .ok (.aload_n 0, 1) := by decide +kernel
theorem dS_label_41 : decode cS_label 41 = .ok (.getfield 74, 3) := by decide +kernel
theorem dS_label_44 : decode cS_label 44 = .ok (.iconst 1, 1) := by decide +kernel
theorem dS_label_45 : decode cS_label 45 = .ok (.isub, 1) := by decide +kernel
theorem dS_label_46 : decode cS_label 46 = .ok (.ireturn, 1) := by decide +kernel
theorem dS_put_0 : decode cS_put 0 = .ok (.aload_n 0, 1) := by decide +kernel
theorem dS_put_1 : decode cS_put 1 = .ok (.iload_n 1, 1) := by decide +kernel
theorem dS_put_2 : decode cS_put 2 = .ok (.invokevirtual 78, 3) := by decide +kernel
theorem dS_put_5 : decode cS_put 5 = .ok (.astore 4, 2) := by decide +kernel
theorem dS_put_7 : decode cS_put 7 = .ok (.aload_n 0, 1) := by decide +kernel
theorem dS_put_8 : decode cS_put 8 = .ok (.iload_n 2, 1) := by decide +kernel
theorem dS_put_9 : decode cS_put 9 = .ok (.invokevirtual 82, 3) := by decide +kernel
theorem dS_put_12 : decode cS_put 12 = .ok (.astore 5, 2) := by decide +kernel
theorem dS_put_14 : decode cS_put 14 = .ok (.aload 4, 2) := by decide +kernel
theorem dS_put_16 : decode cS_put 16 = .ok (.ifnull (8), 3) := by decide +kernel
theorem dS_put_19 : decode cS_put 19 = .ok (.aload 5, 2) := by decide +kernel
theorem dS_put_21 : decode cS_put 21 = .ok (.ifnonnull (5), 3) := by decide +kernel
theorem dS_put_24 : decode cS_put 24 = .ok (.iconst 0, 1) := by decide +kernel
theorem dS_put_25 : decode cS_put 25 = .ok (.ireturn, 1) := by decide +kernel
theorem dS_put_26 : decode cS_put 26 = .ok (.aload 5, 2) := by decide +kernel
theorem dS_put_28 : decode cS_put 28 = .ok (.getfield 86, 3) := by decide +kernel
theorem dS_put_31 : decode cS_put 31 = .ok (.ifCond .ne (11), 3) := by decide +kernel
theorem dS_put_34 : decode cS_put 34 = .ok (.aload 5, 2) := by decide +kernel
theorem dS_put_36 : decode cS_put 36 = .ok (.getfield 89, 3) := by decide +kernel
theorem dS_put_39 : decode cS_put 39 = .ok (.goto (4), 3) := by decide +kernel
theorem dS_put_42 : decode cS_put 42 = .ok (.iconst 1, 1) := by decide +kernel
theorem dS_put_43 : decode cS_put 43 = .ok (.istore 6, 2) := by decide +kernel
theorem dS_put_45 : decode cS_put 45 = .ok (.iload_n 3, 1) := by decide +kernel
theorem dS_put_46 : decode cS_put 46 = .ok (.i2l, 1) := by decide +kernel
theorem dS_put_47 : decode cS_put 47 = .ok (.lconst 0, 1) := by decide +kernel
theorem dS_put_48 : decode cS_put 48 = .ok (.iload 6, 2) := by decide +kernel
theorem dS_put_50 : decode cS_put 50 = .ok (.i2l, 1) := by decide +kernel
theorem dS_put_51 : decode cS_put 51 = .ok (.invokestatic 57, 3) := by decide +kernel
theorem dS_put_54 : decode cS_put 54 = .ok (.ifCond .ne (5), 3) := by decide +kernel
theorem dS_put_57 : decode cS_put 57 = .ok (.iconst 0, 1) := by decide +kernel
theorem dS_put_58 : decode cS_put 58 = .ok (.ireturn, 1) := by decide +kernel
theorem dS_put_59 : decode cS_put 59 = .ok (.aload 4, 2) := by decide +kernel
theorem dS_put_61 : decode cS_put 61 = .ok (.aload 5, 2) := by decide +kernel
theorem dS_put_63 : decode cS_put 63 = .ok (.putfield 92, 3) := by decide +kernel
theorem dS_put_66 : decode cS_put 66 = .ok (.aload 4, 2) := by decide +kernel
theorem dS_put_68 : decode cS_put 68 = .ok (.iload_n 3, 1) := by decide +kernel
theorem dS_put_69 : decode cS_put 69 = .ok (.putfield 96, 3) := by decide +kernel
theorem dS_put_72 : decode cS_put 72 = .ok (.iconst 1, 1) := by decide +kernel
theorem dS_put_73 : decode cS_put 73 = .ok (.ireturn, 1) := by decide +kernel
theorem dS_base_0 : decode cS_base 0 = .ok (.iload_n 1, 1) := by decide +kernel
theorem dS_base_1 : decode cS_base 1 = .ok (.i2l, 1) := by decide +kernel
theorem dS_base_2 : decode cS_base 2 = .ok (.lconst 0, 1) := by decide +kernel
theorem dS_base_3 : decode cS_base 3 = .ok (.ldc2_w 99, 3) := by decide +kernel
theorem dS_base_6 : decode cS_base 6 = .ok (.invokestatic 57, 3) := by decide +kernel
theorem dS_base_9 : decode cS_base 9 = .ok (.ifCond .ne (5), 3) := by decide +kernel
theorem dS_base_12 : decode cS_base 12 = .ok (.iconst 0, 1) := by decide +kernel
theorem dS_base_13 : decode cS_base 13 = .ok (.ireturn, 1) := by decide +kernel
theorem dS_base_14 : decode cS_base 14 = .ok (.aload_n 0, 1) := by decide +kernel
theorem dS_base_15 : decode cS_base 15 = .ok (.iload_n 1, 1) := by decide +kernel
theorem dS_base_16 : decode cS_base 16 = .ok (.putfield 101, 3) := by decide +kernel
theorem dS_base_19 : decode cS_base 19 = .ok (.iconst 1, 1) := by decide +kernel
theorem dS_base_20 : decode cS_base 20 = .ok (.ireturn, 1) := by decide +kernel
theorem dS_align_0 : decode cS_align 0 = .ok (.iload_n 1, 1) := by decide +kernel
theorem dS_align_1 : decode cS_align 1 = .ok (.invokestatic 41, 3) := by decide +kernel
theorem dS_align_4 : decode cS_align 4 = .ok (.ifCond .eq (10), 3) := by decide +kernel
theorem dS_align_7 : decode cS_align 7 = .ok (.iload_n 2, 1) := by decide +kernel
theorem dS_align_8 : decode cS_align 8 = .ok (.invokestatic 45, 3) := by decide +kernel
theorem dS_align_11 : decode cS_align 11 = .ok (.ifCond .ne (5), 3) := by decide +kernel
theorem dS_align_14 : decode cS_align 14 = .ok (.iconst 0, 1) := by decide +kernel
theorem dS_align_15 : decode cS_align 15 = .ok (.ireturn, 1) := by decide +kernel
theorem dS_align_16 : decode cS_align 16 = .ok (.aload_n 0, 1) := by decide +kernel
theorem dS_align_17 : decode cS_align 17 = .ok (.getfield 27, 3) := by decide +kernel
theorem dS_align_20 : decode cS_align 20 = .ok (.iload_n 1, 1) := by decide +kernel
theorem dS_align_21 : decode cS_align 21 = .ok (.iload_n 2, 1) := by decide +kernel
theorem dS_align_22 : decode cS_align 22 = .ok (.iastore, 1) := by decide +kernel
theorem dS_align_23 : decode cS_align 23 = .ok (.iconst 1, 1) := by decide +kernel
theorem dS_align_24 : decode cS_align 24 = .ok (.ireturn, 1) := by decide +kernel
theorem dS_root_0 : decode cS_root 0 = .ok (.aload_n 0, 1) := by decide +kernel
theorem dS_root_1 : decode cS_root 1 = .ok (.iload_n 1, 1) := by decide +kernel
theorem dS_root_2 : decode cS_root 2 = .ok (.invokevirtual 51, 3) := by decide +kernel
theorem dS_root_5 : decode cS_root 5 = .ok (.astore_n 3, 1) := by decide +kernel
theorem dS_root_6 : decode cS_root 6 = .ok (.aload_n 3, 1) := by decide +kernel
theorem dS_root_7 : decode cS_root 7 = .ok (.ifnull (11), 3) := by decide +kernel
theorem dS_root_10 : decode cS_root 10 = .ok (.aload_n 3, 1) := by decide +kernel
theorem dS_root_11 : decode cS_root 11 = .ok (.getfield 104, 3) := by decide +kernel
theorem dS_root_14 : decode cS_root 14 = .ok (.iload_n 2, 1) := by decide +kernel
theorem dS_root_15 : decode cS_root 15 = .ok (.if_icmp .ne (5), 3) := by decide +kernel
theorem dS_root_18 : decode cS_root 18 = .ok (.iconst 0, 1) := by decide +kernel
theorem dS_root_19 : decode cS_root 19 = .ok (.ireturn, 1) := by decide +kernel
theorem dS_root_20 : decode cS_root 20 = .ok (.aload_n 3, 1) := by decide +kernel
theorem dS_root_21 : decode cS_root 21 = .ok (.iload_n 2, 1) := by decide +kernel
theorem dS_root_22 : decode cS_root 22 = .ok (.putfield 104, 3) := by decide +kernel
theorem dS_root_25 : decode cS_root 25 = .ok (.iconst 1, 1) := by decide +kernel
theorem dS_root_26 : decode cS_root 26 = .ok (.ireturn, 1) := by decide +kernel
theorem dS_sweep_0 : decode cS_sweep 0 = .ok (.aload_n 0, 1) := by decide +kernel
theorem dS_sweep_1 : decode cS_sweep 1 = .ok (.getfield 11, 3) := by decide +kernel
theorem dS_sweep_4 : decode cS_sweep 4 = .ok (.astore_n 1, 1) := by decide +kernel
theorem dS_sweep_5 : decode cS_sweep 5 = .ok (.aload_n 1, 1) := by decide +kernel
theorem dS_sweep_6 : decode cS_sweep 6 = .ok (.arraylength, 1) := by decide +kernel
theorem dS_sweep_7 : decode cS_sweep 7 = .ok (.istore_n 2, 1) := by decide +kernel
theorem dS_sweep_8 : decode cS_sweep 8 = .ok (.iconst 0, 1) := by decide +kernel
theorem dS_sweep_9 : decode cS_sweep 9 = .ok (.istore_n 3, 1) := by decide +kernel
theorem dS_sweep_10 : decode cS_sweep 10 = .ok (.iload_n 3, 1) := by decide +kernel
theorem dS_sweep_11 : decode cS_sweep 11 = .ok (.iload_n 2, 1) := by decide +kernel
theorem dS_sweep_12 : decode cS_sweep 12 = .ok (.if_icmp .ge (40), 3) := by decide +kernel
theorem dS_sweep_15 : decode cS_sweep 15 = .ok (.aload_n 1, 1) := by decide +kernel
theorem dS_sweep_16 : decode cS_sweep 16 = .ok (.iload_n 3, 1) := by decide +kernel
theorem dS_sweep_17 : decode cS_sweep 17 = .ok (.aaload, 1) := by decide +kernel
theorem dS_sweep_18 : decode cS_sweep 18 = .ok (.astore 4, 2) := by decide +kernel
theorem dS_sweep_20 : decode cS_sweep 20 = .ok (.aload 4, 2) := by decide +kernel
theorem dS_sweep_22 : decode cS_sweep 22 = .ok (.ifnonnull (6), 3) := by decide +kernel
theorem dS_sweep_25 : decode cS_sweep 25 = .ok (.goto (27), 3) := by decide +kernel
theorem dS_sweep_28 : decode cS_sweep 28 = .ok (.aload 4, 2) := by decide +kernel
theorem dS_sweep_30 : decode cS_sweep 30 = .ok (.aload 4, 2) := by decide +kernel
theorem dS_sweep_32 : decode cS_sweep 32 = .ok (.getfield 104, 3) := by decide +kernel
theorem dS_sweep_35 : decode cS_sweep 35 = .ok (.ifCond .ne (7), 3) := by decide +kernel
theorem dS_sweep_38 : decode cS_sweep 38 = .ok (.iconst 1, 1) := by decide +kernel
theorem dS_sweep_39 : decode cS_sweep 39 = .ok (.goto (4), 3) := by decide +kernel
theorem dS_sweep_42 : decode cS_sweep 42 = .ok (.iconst 0, 1) := by decide +kernel
theorem dS_sweep_43 : decode cS_sweep 43 = .ok (.putfield 108, 3) := by decide +kernel
theorem dS_sweep_46 : decode cS_sweep 46 = .ok (.iinc 3 (1), 3) := by decide +kernel
theorem dS_sweep_49 : decode cS_sweep 49 = .ok (.goto (-39), 3) := by decide +kernel
theorem dS_sweep_52 : decode cS_sweep 52 = .ok (.iconst 0, 1) := by decide +kernel
theorem dS_sweep_53 : decode cS_sweep 53 = .ok (.istore_n 1, 1) := by decide +kernel
theorem dS_sweep_54 : decode cS_sweep 54 = .ok (.iload_n 1, 1) := by decide +kernel
theorem dS_sweep_55 : decode cS_sweep 55 = .ok (.bipush (32), 2) := by decide +kernel
theorem dS_sweep_57 : decode cS_sweep 57 = .ok (.if_icmp .ge (19), 3) := by decide +kernel
theorem dS_sweep_60 : decode cS_sweep 60 = .ok (.aload_n 0, 1) := by decide +kernel
theorem dS_sweep_61 : decode cS_sweep 61 = .ok (.invokevirtual 111, 3) := by decide +kernel
theorem dS_sweep_64 : decode cS_sweep 64 = .ok (.ifCond .ne (6), 3) := by decide +kernel
theorem dS_sweep_67 : decode cS_sweep 67 = .ok (.goto (9), 3) := by decide +kernel
theorem dS_sweep_70 : decode cS_sweep 70 = .ok (.iinc 1 (1), 3) := by decide +kernel
theorem dS_sweep_73 : decode cS_sweep 73 = .ok (.goto (-19), 3) := by decide +kernel
theorem dS_sweep_76 : decode cS_sweep 76 = .ok (.aload_n 0, 1) := by decide +kernel
theorem dS_sweep_77 : decode cS_sweep 77 = .ok (.invokevirtual 115, 3) := by decide +kernel
theorem dS_sweep_80 : decode cS_sweep 80 = .ok (.ireturn, 1) := by decide +kernel
end
section
theorem dS_bringWhatIsLedTo_0 : decode cS_bringWhatIsLedTo 0 = .ok (.iconst 0, 1) := by decide +kernel
theorem dS_bringWhatIsLedTo_1 : decode cS_bringWhatIsLedTo 1 = .ok (.istore_n 1, 1) := by decide +kernel
theorem dS_bringWhatIsLedTo_2 : decode cS_bringWhatIsLedTo 2 = .ok (.aload_n 0, 1) := by decide +kernel
theorem dS_bringWhatIsLedTo_3 : decode cS_bringWhatIsLedTo 3 = .ok (.getfield 17, 3) := by decide +kernel
theorem dS_bringWhatIsLedTo_6 : decode cS_bringWhatIsLedTo 6 = .ok (.astore_n 2, 1) := by decide +kernel
theorem dS_bringWhatIsLedTo_7 : decode cS_bringWhatIsLedTo 7 = .ok (.aload_n 2, 1) := by decide +kernel
theorem dS_bringWhatIsLedTo_8 : decode cS_bringWhatIsLedTo 8 = .ok (.arraylength, 1) := by decide +kernel
theorem dS_bringWhatIsLedTo_9 : decode cS_bringWhatIsLedTo 9 = .ok (.istore_n 3, 1) := by decide +kernel
theorem dS_bringWhatIsLedTo_10 : decode cS_bringWhatIsLedTo 10 = .ok (.iconst 0, 1) := by decide +kernel
theorem dS_bringWhatIsLedTo_11 : decode cS_bringWhatIsLedTo 11 = .ok (.istore 4, 2) := by decide +kernel
theorem dS_bringWhatIsLedTo_13 : decode cS_bringWhatIsLedTo 13 = .ok (.iload 4, 2) := by decide +kernel
theorem dS_bringWhatIsLedTo_15 : decode cS_bringWhatIsLedTo 15 = .ok (.iload_n 3, 1) := by decide +kernel
theorem dS_bringWhatIsLedTo_16 : decode cS_bringWhatIsLedTo 16 = .ok (.if_icmp .ge (62), 3) := by decide +kernel
theorem dS_bringWhatIsLedTo_19 : decode cS_bringWhatIsLedTo 19 = .ok (.aload_n 2, 1) := by decide +kernel
theorem dS_bringWhatIsLedTo_20 : decode cS_bringWhatIsLedTo 20 = .ok (.iload 4, 2) := by decide +kernel
theorem dS_bringWhatIsLedTo_22 : decode cS_bringWhatIsLedTo 22 = .ok (.aaload, 1) := by decide +kernel
theorem dS_bringWhatIsLedTo_23 : decode cS_bringWhatIsLedTo 23 = .ok (.astore 5, 2) := by decide +kernel
theorem dS_bringWhatIsLedTo_25 : decode cS_bringWhatIsLedTo 25 = .ok (.aload 5, 2) := by decide +kernel
theorem dS_bringWhatIsLedTo_27 : decode cS_bringWhatIsLedTo 27 = .ok (.ifnonnull (6), 3) := by decide +kernel
theorem dS_bringWhatIsLedTo_30 : decode cS_bringWhatIsLedTo 30 = .ok (.goto (48), 3) := by decide +kernel
theorem dS_bringWhatIsLedTo_33 : decode cS_bringWhatIsLedTo 33 = .ok (.aload 5, 2) := by decide +kernel
theorem dS_bringWhatIsLedTo_35 : decode cS_bringWhatIsLedTo 35 = .ok (.invokestatic 193, 3) := by decide +kernel
theorem dS_bringWhatIsLedTo_38 : decode cS_bringWhatIsLedTo 38 = .ok (.astore 6, 2) := by decide +kernel
theorem dS_bringWhatIsLedTo_40 : decode cS_bringWhatIsLedTo 40 = .ok (.aload 6, 2) := by decide +kernel
theorem dS_bringWhatIsLedTo_42 : decode cS_bringWhatIsLedTo 42 = .ok (.ifnull (30), 3) := by decide +kernel
theorem dS_bringWhatIsLedTo_45 : decode cS_bringWhatIsLedTo 45 = .ok (.aload 6, 2) := by decide +kernel
theorem dS_bringWhatIsLedTo_47 : decode cS_bringWhatIsLedTo 47 = .ok (.getfield 108, 3) := by decide +kernel
theorem dS_bringWhatIsLedTo_50 : decode cS_bringWhatIsLedTo 50 = .ok (.ifCond .eq (22), 3) := by decide +kernel
theorem dS_bringWhatIsLedTo_53 : decode cS_bringWhatIsLedTo 53 = .ok (.aload 5, 2) := by decide +kernel
theorem dS_bringWhatIsLedTo_55 : decode cS_bringWhatIsLedTo 55 = .ok (.getfield 144, 3) := by decide +kernel
theorem dS_bringWhatIsLedTo_58 : decode cS_bringWhatIsLedTo 58 = .ok (.getfield 108, 3) := by decide +kernel
theorem dS_bringWhatIsLedTo_61 : decode cS_bringWhatIsLedTo 61 = .ok (.ifCond .ne (11), 3) := by decide +kernel
theorem dS_bringWhatIsLedTo_64 : decode cS_bringWhatIsLedTo 64 = .ok (.aload 6, 2) := by decide +kernel
theorem dS_bringWhatIsLedTo_66 : decode cS_bringWhatIsLedTo 66 = .ok (.iconst 0, 1) := by decide +kernel
theorem dS_bringWhatIsLedTo_67 : decode cS_bringWhatIsLedTo 67 = .ok (.putfield 108, 3) := by decide +kernel
theorem dS_bringWhatIsLedTo_70 : decode cS_bringWhatIsLedTo 70 = .ok (.iconst 1, 1) := by decide +kernel
theorem dS_bringWhatIsLedTo_71 : decode cS_bringWhatIsLedTo 71 = .ok (.istore_n 1, 1) := by decide +kernel
theorem dS_bringWhatIsLedTo_72 : decode cS_bringWhatIsLedTo 72 = .ok (.iinc 4 (1), 3) := by decide +kernel
theorem dS_bringWhatIsLedTo_75 : decode cS_bringWhatIsLedTo 75 = .ok (.goto (-62), 3) := by decide +kernel
theorem dS_bringWhatIsLedTo_78 : decode cS_bringWhatIsLedTo 78 = .ok (.iload_n 1, 1) := by decide +kernel
theorem dS_bringWhatIsLedTo_79 : decode cS_bringWhatIsLedTo 79 = .ok (.ireturn, 1) := by decide +kernel
theorem dS_countGone_0 : decode cS_countGone 0 = .ok (.iconst 0, 1) := by decide +kernel
theorem dS_countGone_1 : decode cS_countGone 1 = .ok (.istore_n 1, 1) := by decide +kernel
theorem dS_countGone_2 : decode cS_countGone 2 = .ok (.aload_n 0, 1) := by decide +kernel
theorem dS_countGone_3 : decode cS_countGone 3 = .ok (.getfield 11, 3) := by decide +kernel
theorem dS_countGone_6 : decode cS_countGone 6 = .ok (.astore_n 2, 1) := by decide +kernel
theorem dS_countGone_7 : decode cS_countGone 7 = .ok (.aload_n 2, 1) := by decide +kernel
theorem dS_countGone_8 : decode cS_countGone 8 = .ok (.arraylength, 1) := by decide +kernel
theorem dS_countGone_9 : decode cS_countGone 9 = .ok (.istore_n 3, 1) := by decide +kernel
theorem dS_countGone_10 : decode cS_countGone 10 = .ok (.iconst 0, 1) := by decide +kernel
theorem dS_countGone_11 : decode cS_countGone 11 = .ok (.istore 4, 2) := by decide +kernel
theorem dS_countGone_13 : decode cS_countGone 13 = .ok (.iload 4, 2) := by decide +kernel
theorem dS_countGone_15 : decode cS_countGone 15 = .ok (.iload_n 3, 1) := by decide +kernel
theorem dS_countGone_16 : decode cS_countGone 16 = .ok (.if_icmp .ge (34), 3) := by decide +kernel
theorem dS_countGone_19 : decode cS_countGone 19 = .ok (.aload_n 2, 1) := by decide +kernel
theorem dS_countGone_20 : decode cS_countGone 20 = .ok (.iload 4, 2) := by decide +kernel
theorem dS_countGone_22 : decode cS_countGone 22 = .ok (.aaload, 1) := by decide +kernel
theorem dS_countGone_23 : decode cS_countGone 23 = .ok (.astore 5, 2) := by decide +kernel
theorem dS_countGone_25 : decode cS_countGone 25 = .ok (.aload 5, 2) := by decide +kernel
theorem dS_countGone_27 : decode cS_countGone 27 = .ok (.ifnonnull (6), 3) := by decide +kernel
theorem dS_countGone_30 : decode cS_countGone 30 = .ok (.goto (20), 3) := by decide +kernel
theorem dS_countGone_33 : decode cS_countGone 33 = .ok (.aload 5, 2) := by decide +kernel
theorem dS_countGone_35 : decode cS_countGone 35 = .ok (.getfield 108, 3) := by decide +kernel
theorem dS_countGone_38 : decode cS_countGone 38 = .ok (.ifCond .eq (6), 3) := by decide +kernel
theorem dS_countGone_41 : decode cS_countGone 41 = .ok (.iinc 1 (1), 3) := by decide +kernel
theorem dS_countGone_44 : decode cS_countGone 44 = .ok (.iinc 4 (1), 3) := by decide +kernel
theorem dS_countGone_47 : decode cS_countGone 47 = .ok (.goto (-34), 3) := by decide +kernel
theorem dS_countGone_50 : decode cS_countGone 50 = .ok (.iload_n 1, 1) := by decide +kernel
theorem dS_countGone_51 : decode cS_countGone 51 = .ok (.ireturn, 1) := by decide +kernel
theorem dS_back_0 : decode cS_back 0 = .ok (.aload_n 0, 1) := by decide +kernel
theorem dS_back_1 : decode cS_back 1 = .ok (.getfield 11, 3) := by decide +kernel
theorem dS_back_4 : decode cS_back 4 = .ok (.astore_n 1, 1) := by decide +kernel
theorem dS_back_5 : decode cS_back 5 = .ok (.aload_n 1, 1) := by decide +kernel
theorem dS_back_6 : decode cS_back 6 = .ok (.arraylength, 1) := by decide +kernel
theorem dS_back_7 : decode cS_back 7 = .ok (.istore_n 2, 1) := by decide +kernel
theorem dS_back_8 : decode cS_back 8 = .ok (.iconst 0, 1) := by decide +kernel
theorem dS_back_9 : decode cS_back 9 = .ok (.istore_n 3, 1) := by decide +kernel
theorem dS_back_10 : decode cS_back 10 = .ok (.iload_n 3, 1) := by decide +kernel
theorem dS_back_11 : decode cS_back 11 = .ok (.iload_n 2, 1) := by decide +kernel
theorem dS_back_12 : decode cS_back 12 = .ok (.if_icmp .ge (28), 3) := by decide +kernel
theorem dS_back_15 : decode cS_back 15 = .ok (.aload_n 1, 1) := by decide +kernel
theorem dS_back_16 : decode cS_back 16 = .ok (.iload_n 3, 1) := by decide +kernel
theorem dS_back_17 : decode cS_back 17 = .ok (.aaload, 1) := by decide +kernel
theorem dS_back_18 : decode cS_back 18 = .ok (.astore 4, 2) := by decide +kernel
theorem dS_back_20 : decode cS_back 20 = .ok (.aload 4, 2) := by decide +kernel
theorem dS_back_22 : decode cS_back 22 = .ok (.ifnonnull (6), 3) := by decide +kernel
theorem dS_back_25 : decode cS_back 25 = .ok (.goto (15), 3) := by decide +kernel
theorem dS_back_28 : decode cS_back 28 = .ok (.aload 4, 2) := by decide +kernel
theorem dS_back_30 : decode cS_back 30 = .ok (.iconst 0, 1) := by decide +kernel
theorem dS_back_31 : decode cS_back 31 = .ok (.putfield 108, 3) := by decide +kernel
theorem dS_back_34 : decode cS_back 34 = .ok (.iinc 3 (1), 3) := by decide +kernel
theorem dS_back_37 : decode cS_back 37 = .ok (.goto (-27), 3) := by decide +kernel
theorem dS_back_40 : decode cS_back 40 = .ok (.return_, 1) := by decide +kernel
theorem dS_pass_0 : decode cS_pass 0 = .ok (.aload_n 0, 1) := by decide +kernel
theorem dS_pass_1 : decode cS_pass 1 = .ok (.invokevirtual 119, 3) := by decide +kernel
theorem dS_pass_4 : decode cS_pass 4 = .ok (.ireturn, 1) := by decide +kernel
theorem dS_makePass_0 : decode cS_makePass 0 = .ok (.aload_n 0, 1) := by decide +kernel
theorem dS_makePass_1 : decode cS_makePass 1 = .ok (.invokevirtual 141, 3) := by decide +kernel
theorem dS_makePass_4 : decode cS_makePass 4 = .ok (.iconst 0, 1) := by decide +kernel
theorem dS_makePass_5 : decode cS_makePass 5 = .ok (.istore_n 1, 1) := by decide +kernel
theorem dS_makePass_6 : decode cS_makePass 6 = .ok (.aload_n 0, 1) := by decide +kernel
theorem dS_makePass_7 : decode cS_makePass 7 = .ok (.getfield 17, 3) := by decide +kernel
theorem dS_makePass_10 : decode cS_makePass 10 = .ok (.astore_n 2, 1) := by decide +kernel
theorem dS_makePass_11 : decode cS_makePass 11 = .ok (.aload_n 2, 1) := by decide +kernel
theorem dS_makePass_12 : decode cS_makePass 12 = .ok (.arraylength, 1) := by decide +kernel
theorem dS_makePass_13 : decode cS_makePass 13 = .ok (.istore_n 3, 1) := by decide +kernel
theorem dS_makePass_14 : decode cS_makePass 14 = .ok (.iconst 0, 1) := by decide +kernel
theorem dS_makePass_15 : decode cS_makePass 15 = .ok (.istore 4, 2) := by decide +kernel
theorem dS_makePass_17 : decode cS_makePass 17 = .ok (.iload 4, 2) := by decide +kernel
theorem dS_makePass_19 : decode cS_makePass 19 = .ok (.iload_n 3, 1) := by decide +kernel
theorem dS_makePass_20 : decode cS_makePass 20 = .ok (.if_icmp .ge (68), 3) := by decide +kernel
theorem dS_makePass_23 : decode cS_makePass 23 = .ok (.aload_n 2, 1) := by decide +kernel
theorem dS_makePass_24 : decode cS_makePass 24 = .ok (.iload 4, 2) := by decide +kernel
theorem dS_makePass_26 : decode cS_makePass 26 = .ok (.aaload, 1) := by decide +kernel
theorem dS_makePass_27 : decode cS_makePass 27 = .ok (.astore 5, 2) := by decide +kernel
theorem dS_makePass_29 : decode cS_makePass 29 = .ok (.aload 5, 2) := by decide +kernel
theorem dS_makePass_31 : decode cS_makePass 31 = .ok (.ifnonnull (6), 3) := by decide +kernel
theorem dS_makePass_34 : decode cS_makePass 34 = .ok (.goto (54), 3) := by decide +kernel
theorem dS_makePass_37 : decode cS_makePass 37 = .ok (.aload 5, 2) := by decide +kernel
theorem dS_makePass_39 : decode cS_makePass 39 = .ok (.getfield 138, 3) := by decide +kernel
theorem dS_makePass_42 : decode cS_makePass 42 = .ok (.ifCond .ne (40), 3) := by decide +kernel
theorem dS_makePass_45 : decode cS_makePass 45 = .ok (.aload 5, 2) := by decide +kernel
theorem dS_makePass_47 : decode cS_makePass 47 = .ok (.getfield 144, 3) := by decide +kernel
theorem dS_makePass_50 : decode cS_makePass 50 = .ok (.getfield 108, 3) := by decide +kernel
theorem dS_makePass_53 : decode cS_makePass 53 = .ok (.ifCond .ne (29), 3) := by decide +kernel
theorem dS_makePass_56 : decode cS_makePass 56 = .ok (.aload 5, 2) := by decide +kernel
theorem dS_makePass_58 : decode cS_makePass 58 = .ok (.getfield 148, 3) := by decide +kernel
theorem dS_makePass_61 : decode cS_makePass 61 = .ok (.aload 5, 2) := by decide +kernel
theorem dS_makePass_63 : decode cS_makePass 63 = .ok (.getfield 135, 3) := by decide +kernel
theorem dS_makePass_66 : decode cS_makePass 66 = .ok (.if_icmp .ge (16), 3) := by decide +kernel
theorem dS_makePass_69 : decode cS_makePass 69 = .ok (.aload 5, 2) := by decide +kernel
theorem dS_makePass_71 : decode cS_makePass 71 = .ok (.aload 5, 2) := by decide +kernel
theorem dS_makePass_73 : decode cS_makePass 73 = .ok (.getfield 148, 3) := by decide +kernel
theorem dS_makePass_76 : decode cS_makePass 76 = .ok (.putfield 135, 3) := by decide +kernel
theorem dS_makePass_79 : decode cS_makePass 79 = .ok (.iinc 1 (1), 3) := by decide +kernel
theorem dS_makePass_82 : decode cS_makePass 82 = .ok (.iinc 4 (1), 3) := by decide +kernel
theorem dS_makePass_85 : decode cS_makePass 85 = .ok (.goto (-68), 3) := by decide +kernel
theorem dS_makePass_88 : decode cS_makePass 88 = .ok (.iload_n 1, 1) := by decide +kernel
theorem dS_makePass_89 : decode cS_makePass 89 = .ok (.ireturn, 1) := by decide +kernel
theorem dS_survey_0 : decode cS_survey 0 = .ok (.aload_n 0, 1) := by decide +kernel
theorem dS_survey_1 : decode cS_survey 1 = .ok (.getfield 101, 3) := by decide +kernel
theorem dS_survey_4 : decode cS_survey 4 = .ok (.istore_n 1, 1) := by decide +kernel
theorem dS_survey_5 : decode cS_survey 5 = .ok (.iconst 0, 1) := by decide +kernel
theorem dS_survey_6 : decode cS_survey 6 = .ok (.istore_n 2, 1) := by decide +kernel
theorem dS_survey_7 : decode cS_survey 7 = .ok (.iload_n 2, 1) := by decide +kernel
theorem dS_survey_8 : decode cS_survey 8 = .ok (.iconst 4, 1) := by decide +kernel
theorem dS_survey_9 : decode cS_survey 9 = .ok (.if_icmp .ge (16), 3) := by decide +kernel
theorem dS_survey_12 : decode cS_survey 12 = .ok (.aload_n 0, 1) := by decide +kernel
theorem dS_survey_13 : decode cS_survey 13 = .ok (.iload_n 2, 1) := by decide +kernel
theorem dS_survey_14 : decode cS_survey 14 = .ok (.iload_n 1, 1) := by decide +kernel
theorem dS_survey_15 : decode cS_survey 15 = .ok (.invokevirtual 197, 3) := by decide +kernel
theorem dS_survey_18 : decode cS_survey 18 = .ok (.istore_n 1, 1) := by decide +kernel
theorem dS_survey_19 : decode cS_survey 19 = .ok (.iinc 2 (1), 3) := by decide +kernel
theorem dS_survey_22 : decode cS_survey 22 = .ok (.goto (-15), 3) := by decide +kernel
theorem dS_survey_25 : decode cS_survey 25 = .ok (.aload_n 0, 1) := by decide +kernel
theorem dS_survey_26 : decode cS_survey 26 = .ok (.getfield 17, 3) := by decide +kernel
theorem dS_survey_29 : decode cS_survey 29 = .ok (.astore_n 2, 1) := by decide +kernel
theorem dS_survey_30 : decode cS_survey 30 = .ok (.aload_n 2, 1) := by decide +kernel
theorem dS_survey_31 : decode cS_survey 31 = .ok (.arraylength, 1) := by decide +kernel
theorem dS_survey_32 : decode cS_survey 32 = .ok (.istore_n 3, 1) := by decide +kernel
theorem dS_survey_33 : decode cS_survey 33 = .ok (.iconst 0, 1) := by decide +kernel
theorem dS_survey_34 : decode cS_survey 34 = .ok (.istore 4, 2) := by decide +kernel
theorem dS_survey_36 : decode cS_survey 36 = .ok (.iload 4, 2) := by decide +kernel
theorem dS_survey_38 : decode cS_survey 38 = .ok (.iload_n 3, 1) := by decide +kernel
theorem dS_survey_39 : decode cS_survey 39 = .ok (.if_icmp .ge (45), 3) := by decide +kernel
theorem dS_survey_42 : decode cS_survey 42 = .ok (.aload_n 2, 1) := by decide +kernel
theorem dS_survey_43 : decode cS_survey 43 = .ok (.iload 4, 2) := by decide +kernel
theorem dS_survey_45 : decode cS_survey 45 = .ok (.aaload, 1) := by decide +kernel
theorem dS_survey_46 : decode cS_survey 46 = .ok (.astore 5, 2) := by decide +kernel
theorem dS_survey_48 : decode cS_survey 48 = .ok (.aload 5, 2) := by decide +kernel
theorem dS_survey_50 : decode cS_survey 50 = .ok (.ifnonnull (6), 3) := by decide +kernel
theorem dS_survey_53 : decode cS_survey 53 = .ok (.goto (31), 3) := by decide +kernel
theorem dS_survey_56 : decode cS_survey 56 = .ok (.aload 5, 2) := by decide +kernel
theorem dS_survey_58 : decode cS_survey 58 = .ok (.getfield 144, 3) := by decide +kernel
theorem dS_survey_61 : decode cS_survey 61 = .ok (.getfield 108, 3) := by decide +kernel
theorem dS_survey_64 : decode cS_survey 64 = .ok (.ifCond .ne (14), 3) := by decide +kernel
theorem dS_survey_67 : decode cS_survey 67 = .ok (.aload 5, 2) := by decide +kernel
theorem dS_survey_69 : decode cS_survey 69 = .ok (.aload_n 0, 1) := by decide +kernel
theorem dS_survey_70 : decode cS_survey 70 = .ok (.aload 5, 2) := by decide +kernel
theorem dS_survey_72 : decode cS_survey 72 = .ok (.invokevirtual 200, 3) := by decide +kernel
theorem dS_survey_75 : decode cS_survey 75 = .ok (.putfield 148, 3) := by decide +kernel
theorem dS_survey_78 : decode cS_survey 78 = .ok (.iinc 4 (1), 3) := by decide +kernel
theorem dS_survey_81 : decode cS_survey 81 = .ok (.goto (-45), 3) := by decide +kernel
theorem dS_survey_84 : decode cS_survey 84 = .ok (.return_, 1) := by decide +kernel
theorem dS_placeOutput_0 : decode cS_placeOutput 0 = .ok (.iload_n 2, 1) := by decide +kernel
theorem dS_placeOutput_1 : decode cS_placeOutput 1 = .ok (.iload_n 2, 1) := by decide +kernel
theorem dS_placeOutput_2 : decode cS_placeOutput 2 = .ok (.aload_n 0, 1) := by decide +kernel
theorem dS_placeOutput_3 : decode cS_placeOutput 3 = .ok (.getfield 27, 3) := by decide +kernel
theorem dS_placeOutput_6 : decode cS_placeOutput 6 = .ok (.iload_n 1, 1) := by decide +kernel
theorem dS_placeOutput_7 : decode cS_placeOutput 7 = .ok (.iaload, 1) := by decide +kernel
theorem dS_placeOutput_8 : decode cS_placeOutput 8 = .ok (.invokestatic 157, 3) := by decide +kernel
theorem dS_placeOutput_11 : decode cS_placeOutput 11 = .ok (.iadd, 1) := by decide +kernel
theorem dS_placeOutput_12 : decode cS_placeOutput 12 = .ok (.istore_n 3, 1) := by decide +kernel
theorem dS_placeOutput_13 : decode cS_placeOutput 13 = .ok (.aload_n 0, 1) := by decide +kernel
theorem dS_placeOutput_14 : decode cS_placeOutput 14 = .ok (.getfield 31, 3) := by decide +kernel
theorem dS_placeOutput_17 : decode cS_placeOutput 17 = .ok (.iload_n 1, 1) := by decide +kernel
theorem dS_placeOutput_18 : decode cS_placeOutput 18 = .ok (.iload_n 3, 1) := by decide +kernel
theorem dS_placeOutput_19 : decode cS_placeOutput 19 = .ok (.iastore, 1) := by decide +kernel
theorem dS_placeOutput_20 : decode cS_placeOutput 20 = .ok (.aload_n 0, 1) := by decide +kernel
theorem dS_placeOutput_21 : decode cS_placeOutput 21 = .ok (.getfield 11, 3) := by decide +kernel
theorem dS_placeOutput_24 : decode cS_placeOutput 24 = .ok (.astore 4, 2) := by decide +kernel
theorem dS_placeOutput_26 : decode cS_placeOutput 26 = .ok (.aload 4, 2) := by decide +kernel
theorem dS_placeOutput_28 : decode cS_placeOutput 28 = .ok (.arraylength, 1) := by decide +kernel
theorem dS_placeOutput_29 : decode cS_placeOutput 29 = .ok (.istore 5, 2) := by decide +kernel
theorem dS_placeOutput_31 : decode cS_placeOutput 31 = .ok (.iconst 0, 1) := by decide +kernel
theorem dS_placeOutput_32 : decode cS_placeOutput 32 = .ok (.istore 6, 2) := by decide +kernel
theorem dS_placeOutput_34 : decode cS_placeOutput 34 = .ok (.iload 6, 2) := by decide +kernel
theorem dS_placeOutput_36 : decode cS_placeOutput 36 = .ok (.iload 5, 2) := by decide +kernel
theorem dS_placeOutput_38 : decode cS_placeOutput 38 = .ok (.if_icmp .ge (48), 3) := by decide +kernel
theorem dS_placeOutput_41 : decode cS_placeOutput 41 = .ok (.aload 4, 2) := by decide +kernel
theorem dS_placeOutput_43 : decode cS_placeOutput 43 = .ok (.iload 6, 2) := by decide +kernel
theorem dS_placeOutput_45 : decode cS_placeOutput 45 = .ok (.aaload, 1) := by decide +kernel
theorem dS_placeOutput_46 : decode cS_placeOutput 46 = .ok (.astore 7, 2) := by decide +kernel
theorem dS_placeOutput_48 : decode cS_placeOutput 48 = .ok (.aload 7, 2) := by decide +kernel
theorem dS_placeOutput_50 : decode cS_placeOutput 50 = .ok (.ifnonnull (6), 3) := by decide +kernel
theorem dS_placeOutput_53 : decode cS_placeOutput 53 = .ok (.goto (33), 3) := by decide +kernel
theorem dS_placeOutput_56 : decode cS_placeOutput 56 = .ok (.aload 7, 2) := by decide +kernel
theorem dS_placeOutput_58 : decode cS_placeOutput 58 = .ok (.getfield 174, 3) := by decide +kernel
theorem dS_placeOutput_61 : decode cS_placeOutput 61 = .ok (.iload_n 1, 1) := by decide +kernel
theorem dS_placeOutput_62 : decode cS_placeOutput 62 = .ok (.if_icmp .ne (18), 3) := by decide +kernel
theorem dS_placeOutput_65 : decode cS_placeOutput 65 = .ok (.aload 7, 2) := by decide +kernel
theorem dS_placeOutput_67 : decode cS_placeOutput 67 = .ok (.getfield 108, 3) := by decide +kernel
theorem dS_placeOutput_70 : decode cS_placeOutput 70 = .ok (.ifCond .ne (10), 3) := by decide +kernel
theorem dS_placeOutput_73 : decode cS_placeOutput 73 = .ok (.aload 7, 2) := by decide +kernel
theorem dS_placeOutput_75 : decode cS_placeOutput 75 = .ok (.iload_n 3, 1) := by decide +kernel
theorem dS_placeOutput_76 : decode cS_placeOutput 76 = .ok (.invokestatic 203, 3) := by decide +kernel
theorem dS_placeOutput_79 : decode cS_placeOutput 79 = .ok (.istore_n 3, 1) := by decide +kernel
theorem dS_placeOutput_80 : decode cS_placeOutput 80 = .ok (.iinc 6 (1), 3) := by decide +kernel
theorem dS_placeOutput_83 : decode cS_placeOutput 83 = .ok (.goto (-49), 3) := by decide +kernel
theorem dS_placeOutput_86 : decode cS_placeOutput 86 = .ok (.aload_n 0, 1) := by decide +kernel
theorem dS_placeOutput_87 : decode cS_placeOutput 87 = .ok (.getfield 34, 3) := by decide +kernel
theorem dS_placeOutput_90 : decode cS_placeOutput 90 = .ok (.iload_n 1, 1) := by decide +kernel
theorem dS_placeOutput_91 : decode cS_placeOutput 91 = .ok (.iload_n 3, 1) := by decide +kernel
theorem dS_placeOutput_92 : decode cS_placeOutput 92 = .ok (.iastore, 1) := by decide +kernel
theorem dS_placeOutput_93 : decode cS_placeOutput 93 = .ok (.iload_n 3, 1) := by decide +kernel
theorem dS_placeOutput_94 : decode cS_placeOutput 94 = .ok (.ireturn, 1) := by decide +kernel
theorem dS_bytesToMultiple_0 : decode cS_bytesToMultiple 0 = .ok (.iload_n 0, 1) := by decide +kernel
theorem dS_bytesToMultiple_1 : decode cS_bytesToMultiple 1 = .ok (.ineg, 1) := by decide +kernel
theorem dS_bytesToMultiple_2 : decode cS_bytesToMultiple 2 = .ok (.iconst 1, 1) := by decide +kernel
theorem dS_bytesToMultiple_3 : decode cS_bytesToMultiple 3 = .ok (.iload_n 1, 1) := by decide +kernel
theorem dS_bytesToMultiple_4 : decode cS_bytesToMultiple 4 = .ok (.ishl, 1) := by decide +kernel
theorem dS_bytesToMultiple_5 : decode cS_bytesToMultiple 5 = .ok (.iconst 1, 1) := by decide +kernel
theorem dS_bytesToMultiple_6 : decode cS_bytesToMultiple 6 = .ok (.isub, 1) := by decide +kernel
theorem dS_bytesToMultiple_7 : decode cS_bytesToMultiple 7 = .ok (.iand, 1) := by decide +kernel
theorem dS_bytesToMultiple_8 : decode cS_bytesToMultiple 8 = .ok (.ireturn, 1) := by decide +kernel
theorem dS_placePart_0 : decode cS_placePart 0 = .ok (.iload_n 1, 1) := by decide +kernel
theorem dS_placePart_1 : decode cS_placePart 1 = .ok (.iload_n 1, 1) := by decide +kernel
theorem dS_placePart_2 : decode cS_placePart 2 = .ok (.aload_n 0, 1) := by decide +kernel
theorem dS_placePart_3 : decode cS_placePart 3 = .ok (.getfield 207, 3) := by decide +kernel
theorem dS_placePart_6 : decode cS_placePart 6 = .ok (.invokestatic 157, 3) := by decide +kernel
theorem dS_placePart_9 : decode cS_placePart 9 = .ok (.iadd, 1) := by decide +kernel
theorem dS_placePart_10 : decode cS_placePart 10 = .ok (.istore_n 2, 1) := by decide +kernel
theorem dS_placePart_11 : decode cS_placePart 11 = .ok (.aload_n 0, 1) := by decide +kernel
theorem dS_placePart_12 : decode cS_placePart 12 = .ok (.iload_n 2, 1) := by decide +kernel
theorem dS_placePart_13 : decode cS_placePart 13 = .ok (.putfield 177, 3) := by decide +kernel
theorem dS_placePart_16 : decode cS_placePart 16 = .ok (.aload_n 0, 1) := by decide +kernel
theorem dS_placePart_17 : decode cS_placePart 17 = .ok (.getfield 208, 3) := by decide +kernel
theorem dS_placePart_20 : decode cS_placePart 20 = .ok (.astore_n 3, 1) := by decide +kernel
theorem dS_placePart_21 : decode cS_placePart 21 = .ok (.aload_n 3, 1) := by decide +kernel
theorem dS_placePart_22 : decode cS_placePart 22 = .ok (.ifnull (50), 3) := by decide +kernel
theorem dS_placePart_25 : decode cS_placePart 25 = .ok (.aload_n 3, 1) := by decide +kernel
theorem dS_placePart_26 : decode cS_placePart 26 = .ok (.iload_n 2, 1) := by decide +kernel
theorem dS_placePart_27 : decode cS_placePart 27 = .ok (.putfield 151, 3) := by decide +kernel
theorem dS_placePart_30 : decode cS_placePart 30 = .ok (.aload_n 3, 1) := by decide +kernel
theorem dS_placePart_31 : decode cS_placePart 31 = .ok (.getfield 86, 3) := by decide +kernel
theorem dS_placePart_34 : decode cS_placePart 34 = .ok (.iconst 4, 1) := by decide +kernel
theorem dS_placePart_35 : decode cS_placePart 35 = .ok (.if_icmp .ne (22), 3) := by decide +kernel
theorem dS_placePart_38 : decode cS_placePart 38 = .ok (.aload_n 3, 1) := by decide +kernel
theorem dS_placePart_39 : decode cS_placePart 39 = .ok (.iload_n 2, 1) := by decide +kernel
theorem dS_placePart_40 : decode cS_placePart 40 = .ok (.aload_n 3, 1) := by decide +kernel
theorem dS_placePart_41 : decode cS_placePart 41 = .ok (.getfield 154, 3) := by decide +kernel
theorem dS_placePart_44 : decode cS_placePart 44 = .ok (.invokestatic 157, 3) := by decide +kernel
theorem dS_placePart_47 : decode cS_placePart 47 = .ok (.aload_n 3, 1) := by decide +kernel
theorem dS_placePart_48 : decode cS_placePart 48 = .ok (.getfield 89, 3) := by decide +kernel
theorem dS_placePart_51 : decode cS_placePart 51 = .ok (.invokestatic 211, 3) := by decide +kernel
theorem dS_placePart_54 : decode cS_placePart 54 = .ok (.putfield 135, 3) := by decide +kernel
theorem dS_placePart_57 : decode cS_placePart 57 = .ok (.iload_n 2, 1) := by decide +kernel
theorem dS_placePart_58 : decode cS_placePart 58 = .ok (.aload_n 3, 1) := by decide +kernel
theorem dS_placePart_59 : decode cS_placePart 59 = .ok (.getfield 135, 3) := by decide +kernel
theorem dS_placePart_62 : decode cS_placePart 62 = .ok (.iadd, 1) := by decide +kernel
theorem dS_placePart_63 : decode cS_placePart 63 = .ok (.istore_n 2, 1) := by decide +kernel
theorem dS_placePart_64 : decode cS_placePart 64 = .ok (.aload_n 3, 1) := by decide +kernel
theorem dS_placePart_65 : decode cS_placePart 65 = .ok (.getfield 216, 3) := by decide +kernel
theorem dS_placePart_68 : decode cS_placePart 68 = .ok (.astore_n 3, 1) := by decide +kernel
theorem dS_placePart_69 : decode cS_placePart 69 = .ok (.goto (-48), 3) := by decide +kernel
theorem dS_placePart_72 : decode cS_placePart 72 = .ok (.aload_n 0, 1) := by decide +kernel
theorem dS_placePart_73 : decode cS_placePart 73 = .ok (.iload_n 2, 1) := by decide +kernel
theorem dS_placePart_74 : decode cS_placePart 74 = .ok (.putfield 180, 3) := by decide +kernel
theorem dS_placePart_77 : decode cS_placePart 77 = .ok (.iload_n 2, 1) := by decide +kernel
theorem dS_placePart_78 : decode cS_placePart 78 = .ok (.ireturn, 1) := by decide +kernel
theorem dS_leastSize_0 : decode cS_leastSize 0 = .ok (.aload_n 1, 1) := by decide +kernel
theorem dS_leastSize_1 : decode cS_leastSize 1 = .ok (.getfield 128, 3) := by decide +kernel
theorem dS_leastSize_4 : decode cS_leastSize 4 = .ok (.ifnonnull (8), 3) := by decide +kernel
theorem dS_leastSize_7 : decode cS_leastSize 7 = .ok (.aload_n 1, 1) := by decide +kernel
theorem dS_leastSize_8 : decode cS_leastSize 8 = .ok (.getfield 135, 3) := by decide +kernel
theorem dS_leastSize_11 : decode cS_leastSize 11 = .ok (.ireturn, 1) := by decide +kernel
theorem dS_leastSize_12 : decode cS_leastSize 12 = .ok (.aload_n 1, 1) := by decide +kernel
theorem dS_leastSize_13 : decode cS_leastSize 13 = .ok (.invokestatic 166, 3) := by decide +kernel
theorem dS_leastSize_16 : decode cS_leastSize 16 = .ok (.lstore_n 2, 1) := by decide +kernel
theorem dS_leastSize_17 : decode cS_leastSize 17 = .ok (.lload_n 2, 1) := by decide +kernel
theorem dS_leastSize_18 : decode cS_leastSize 18 = .ok (.ldc2_w 164, 3) := by decide +kernel
theorem dS_leastSize_21 : decode cS_leastSize 21 = .ok (.lcmp, 1) := by decide +kernel
theorem dS_leastSize_22 : decode cS_leastSize 22 = .ok (.ifCond .ne (8), 3) := by decide +kernel
theorem dS_leastSize_25 : decode cS_leastSize 25 = .ok (.aload_n 1, 1) := by decide +kernel
theorem dS_leastSize_26 : decode cS_leastSize 26 = .ok (.getfield 132, 3) := by decide +kernel
theorem dS_leastSize_29 : decode cS_leastSize 29 = .ok (.ireturn, 1) := by decide +kernel
theorem dS_leastSize_30 : decode cS_leastSize 30 = .ok (.aload_n 1, 1) := by decide +kernel
theorem dS_leastSize_31 : decode cS_leastSize 31 = .ok (.getfield 86, 3) := by decide +kernel
theorem dS_leastSize_34 : decode cS_leastSize 34 = .ok (.iconst 1, 1) := by decide +kernel
theorem dS_leastSize_35 : decode cS_leastSize 35 = .ok (.if_icmp .ne (18), 3) := by decide +kernel
theorem dS_leastSize_38 : decode cS_leastSize 38 = .ok (.lload_n 2, 1) := by decide +kernel
theorem dS_leastSize_39 : decode cS_leastSize 39 = .ok (.aload_n 1, 1) := by decide +kernel
theorem dS_leastSize_40 : decode cS_leastSize 40 = .ok (.getfield 151, 3) := by decide +kernel
theorem dS_leastSize_43 : decode cS_leastSize 43 = .ok (.i2l, 1) := by decide +kernel
theorem dS_leastSize_44 : decode cS_leastSize 44 = .ok (.lsub, 1) := by decide +kernel
theorem dS_leastSize_45 : decode cS_leastSize 45 = .ok (.aload_n 1, 1) := by decide +kernel
theorem dS_leastSize_46 : decode cS_leastSize 46 = .ok (.getfield 219, 3) := by decide +kernel
theorem dS_leastSize_49 : decode cS_leastSize 49 = .ok (.invokestatic 222, 3) := by decide +kernel
theorem dS_leastSize_52 : decode cS_leastSize 52 = .ok (.ireturn, 1) := by decide +kernel
theorem dS_leastSize_53 : decode cS_leastSize 53 = .ok (.lload_n 2, 1) := by decide +kernel
theorem dS_leastSize_54 : decode cS_leastSize 54 = .ok (.aload_n 0, 1) := by decide +kernel
theorem dS_leastSize_55 : decode cS_leastSize 55 = .ok (.getfield 31, 3) := by decide +kernel
theorem dS_leastSize_58 : decode cS_leastSize 58 = .ok (.iconst 2, 1) := by decide +kernel
theorem dS_leastSize_59 : decode cS_leastSize 59 = .ok (.iaload, 1) := by decide +kernel
theorem dS_leastSize_60 : decode cS_leastSize 60 = .ok (.sipush (2048), 3) := by decide +kernel
theorem dS_leastSize_63 : decode cS_leastSize 63 = .ok (.iadd, 1) := by decide +kernel
theorem dS_leastSize_64 : decode cS_leastSize 64 = .ok (.i2l, 1) := by decide +kernel
theorem dS_leastSize_65 : decode cS_leastSize 65 = .ok (.aload_n 1, 1) := by decide +kernel
theorem dS_leastSize_66 : decode cS_leastSize 66 = .ok (.getfield 219, 3) := by decide +kernel
theorem dS_leastSize_69 : decode cS_leastSize 69 = .ok (.invokestatic 226, 3) := by decide +kernel
theorem dS_leastSize_72 : decode cS_leastSize 72 = .ok (.ireturn, 1) := by decide +kernel
theorem dS_aimOf_0 : decode cS_aimOf 0 = .ok (.aload_n 0, 1) := by decide +kernel
theorem dS_aimOf_1 : decode cS_aimOf 1 = .ok (.getfield 128, 3) := by decide +kernel
theorem dS_aimOf_4 : decode cS_aimOf 4 = .ok (.ifnonnull (7), 3) := by decide +kernel
theorem dS_aimOf_7 : decode cS_aimOf 7 = .ok (.ldc2_w 164, 3) := by decide +kernel
theorem dS_aimOf_10 : decode cS_aimOf 10 = .ok (.lreturn, 1) := by decide +kernel
theorem dS_aimOf_11 : decode cS_aimOf 11 = .ok (.aload_n 0, 1) := by decide +kernel
theorem dS_aimOf_12 : decode cS_aimOf 12 = .ok (.getfield 128, 3) := by decide +kernel
theorem dS_aimOf_15 : decode cS_aimOf 15 = .ok (.invokestatic 170, 3) := by decide +kernel
theorem dS_aimOf_18 : decode cS_aimOf 18 = .ok (.istore_n 1, 1) := by decide +kernel
theorem dS_aimOf_19 : decode cS_aimOf 19 = .ok (.iload_n 1, 1) := by decide +kernel
theorem dS_aimOf_20 : decode cS_aimOf 20 = .ok (.iconst (-1), 1) := by decide +kernel
theorem dS_aimOf_21 : decode cS_aimOf 21 = .ok (.if_icmp .ne (9), 3) := by decide +kernel
theorem dS_aimOf_24 : decode cS_aimOf 24 = .ok (.ldc2_w 164, 3) := by decide +kernel
theorem dS_aimOf_27 : decode cS_aimOf 27 = .ok (.goto (11), 3) := by decide +kernel
theorem dS_aimOf_30 : decode cS_aimOf 30 = .ok (.iload_n 1, 1) := by decide +kernel
theorem dS_aimOf_31 : decode cS_aimOf 31 = .ok (.i2l, 1) := by decide +kernel
theorem dS_aimOf_32 : decode cS_aimOf 32 = .ok (.aload_n 0, 1) := by decide +kernel
theorem dS_aimOf_33 : decode cS_aimOf 33 = .ok (.getfield 248, 3) := by decide +kernel
theorem dS_aimOf_36 : decode cS_aimOf 36 = .ok (.i2l, 1) := by decide +kernel
theorem dS_aimOf_37 : decode cS_aimOf 37 = .ok (.ladd, 1) := by decide +kernel
theorem dS_aimOf_38 : decode cS_aimOf 38 = .ok (.lreturn, 1) := by decide +kernel
theorem dS_valueOf_0 : decode cS_valueOf 0 = .ok (.aload_n 0, 1) := by decide +kernel
theorem dS_valueOf_1 : decode cS_valueOf 1 = .ok (.getfield 92, 3) := by decide +kernel
theorem dS_valueOf_4 : decode cS_valueOf 4 = .ok (.astore_n 1, 1) := by decide +kernel
theorem dS_valueOf_5 : decode cS_valueOf 5 = .ok (.aload_n 1, 1) := by decide +kernel
theorem dS_valueOf_6 : decode cS_valueOf 6 = .ok (.ifnull (13), 3) := by decide +kernel
theorem dS_valueOf_9 : decode cS_valueOf 9 = .ok (.aload_n 1, 1) := by decide +kernel
theorem dS_valueOf_10 : decode cS_valueOf 10 = .ok (.getfield 144, 3) := by decide +kernel
theorem dS_valueOf_13 : decode cS_valueOf 13 = .ok (.getfield 108, 3) := by decide +kernel
theorem dS_valueOf_16 : decode cS_valueOf 16 = .ok (.ifCond .eq (5), 3) := by decide +kernel
theorem dS_valueOf_19 : decode cS_valueOf 19 = .ok (.iconst (-1), 1) := by decide +kernel
theorem dS_valueOf_20 : decode cS_valueOf 20 = .ok (.ireturn, 1) := by decide +kernel
theorem dS_valueOf_21 : decode cS_valueOf 21 = .ok (.aload_n 1, 1) := by decide +kernel
theorem dS_valueOf_22 : decode cS_valueOf 22 = .ok (.getfield 86, 3) := by decide +kernel
theorem dS_valueOf_25 : decode cS_valueOf 25 = .ok (.ifCond .ne (13), 3) := by decide +kernel
theorem dS_valueOf_28 : decode cS_valueOf 28 = .ok (.aload_n 1, 1) := by decide +kernel
theorem dS_valueOf_29 : decode cS_valueOf 29 = .ok (.getfield 151, 3) := by decide +kernel
theorem dS_valueOf_32 : decode cS_valueOf 32 = .ok (.aload_n 0, 1) := by decide +kernel
theorem dS_valueOf_33 : decode cS_valueOf 33 = .ok (.getfield 96, 3) := by decide +kernel
theorem dS_valueOf_36 : decode cS_valueOf 36 = .ok (.iadd, 1) := by decide +kernel
theorem dS_valueOf_37 : decode cS_valueOf 37 = .ok (.ireturn, 1) := by decide +kernel
theorem dS_valueOf_38 : decode cS_valueOf 38 = .ok (.aload_n 0, 1) := by decide +kernel
theorem dS_valueOf_39 : decode cS_valueOf 39 = .ok (.getfield 96, 3) := by decide +kernel
theorem dS_valueOf_42 : decode cS_valueOf 42 = .ok (.ifCond .ne (10), 3) := by decide +kernel
theorem dS_valueOf_45 : decode cS_valueOf 45 = .ok (.aload_n 1, 1) := by decide +kernel
theorem dS_valueOf_46 : decode cS_valueOf 46 = .ok (.getfield 151, 3) := by decide +kernel
theorem dS_valueOf_49 : decode cS_valueOf 49 = .ok (.goto (12), 3) := by decide +kernel
theorem dS_valueOf_52 : decode cS_valueOf 52 = .ok (.aload_n 1, 1) := by decide +kernel
theorem dS_valueOf_53 : decode cS_valueOf 53 = .ok (.getfield 151, 3) := by decide +kernel
theorem dS_valueOf_56 : decode cS_valueOf 56 = .ok (.aload_n 1, 1) := by decide +kernel
theorem dS_valueOf_57 : decode cS_valueOf 57 = .ok (.getfield 135, 3) := by decide +kernel
theorem dS_valueOf_60 : decode cS_valueOf 60 = .ok (.iadd, 1) := by decide +kernel
theorem dS_valueOf_61 : decode cS_valueOf 61 = .ok (.ireturn, 1) := by decide +kernel
theorem dS_leastCall_0 : decode cS_leastCall 0 = .ok (.lload_n 0, 1) := by decide +kernel
theorem dS_leastCall_1 : decode cS_leastCall 1 = .ok (.lconst 1, 1) := by decide +kernel
theorem dS_leastCall_2 : decode cS_leastCall 2 = .ok (.land, 1) := by decide +kernel
theorem dS_leastCall_3 : decode cS_leastCall 3 = .ok (.lconst 0, 1) := by decide +kernel
theorem dS_leastCall_4 : decode cS_leastCall 4 = .ok (.lcmp, 1) := by decide +kernel
theorem dS_leastCall_5 : decode cS_leastCall 5 = .ok (.ifCond .ne (7), 3) := by decide +kernel
theorem dS_leastCall_8 : decode cS_leastCall 8 = .ok (.iconst 1, 1) := by decide +kernel
theorem dS_leastCall_9 : decode cS_leastCall 9 = .ok (.goto (4), 3) := by decide +kernel
theorem dS_leastCall_12 : decode cS_leastCall 12 = .ok (.iconst 0, 1) := by decide +kernel
theorem dS_leastCall_13 : decode cS_leastCall 13 = .ok (.istore_n 3, 1) := by decide +kernel
theorem dS_leastCall_14 : decode cS_leastCall 14 = .ok (.iload_n 2, 1) := by decide +kernel
theorem dS_leastCall_15 : decode cS_leastCall 15 = .ok (.ifCond .eq (22), 3) := by decide +kernel
theorem dS_leastCall_18 : decode cS_leastCall 18 = .ok (.iload_n 3, 1) := by decide +kernel
theorem dS_leastCall_19 : decode cS_leastCall 19 = .ok (.ifCond .eq (18), 3) := by decide +kernel
theorem dS_leastCall_22 : decode cS_leastCall 22 = .ok (.lload_n 0, 1) := by decide +kernel
theorem dS_leastCall_23 : decode cS_leastCall 23 = .ok (.ldc2_w 230, 3) := by decide +kernel
theorem dS_leastCall_26 : decode cS_leastCall 26 = .ok (.ldc2_w 232, 3) := by decide +kernel
theorem dS_leastCall_29 : decode cS_leastCall 29 = .ok (.invokestatic 57, 3) := by decide +kernel
theorem dS_leastCall_32 : decode cS_leastCall 32 = .ok (.ifCond .eq (5), 3) := by decide +kernel
theorem dS_leastCall_35 : decode cS_leastCall 35 = .ok (.iconst 2, 1) := by decide +kernel
theorem dS_leastCall_36 : decode cS_leastCall 36 = .ok (.ireturn, 1) := by decide +kernel
theorem dS_leastCall_37 : decode cS_leastCall 37 = .ok (.iload_n 3, 1) := by decide +kernel
theorem dS_leastCall_38 : decode cS_leastCall 38 = .ok (.ifCond .eq (20), 3) := by decide +kernel
theorem dS_leastCall_41 : decode cS_leastCall 41 = .ok (.lload_n 0, 1) := by decide +kernel
theorem dS_leastCall_42 : decode cS_leastCall 42 = .ok (.ldc2_w 234, 3) := by decide +kernel
theorem dS_leastCall_45 : decode cS_leastCall 45 = .ok (.ldc2_w 236, 3) := by decide +kernel
theorem dS_leastCall_48 : decode cS_leastCall 48 = .ok (.invokestatic 57, 3) := by decide +kernel
theorem dS_leastCall_51 : decode cS_leastCall 51 = .ok (.ifCond .eq (7), 3) := by decide +kernel
theorem dS_leastCall_54 : decode cS_leastCall 54 = .ok (.iconst 4, 1) := by decide +kernel
theorem dS_leastCall_55 : decode cS_leastCall 55 = .ok (.goto (5), 3) := by decide +kernel
theorem dS_leastCall_58 : decode cS_leastCall 58 = .ok (.bipush (8), 2) := by decide +kernel
theorem dS_leastCall_60 : decode cS_leastCall 60 = .ok (.ireturn, 1) := by decide +kernel
theorem dS_leastLoad_0 : decode cS_leastLoad 0 = .ok (.lload_n 0, 1) := by decide +kernel
theorem dS_leastLoad_1 : decode cS_leastLoad 1 = .ok (.ldc2_w 230, 3) := by decide +kernel
theorem dS_leastLoad_4 : decode cS_leastLoad 4 = .ok (.ldc2_w 238, 3) := by decide +kernel
theorem dS_leastLoad_7 : decode cS_leastLoad 7 = .ok (.invokestatic 57, 3) := by decide +kernel
theorem dS_leastLoad_10 : decode cS_leastLoad 10 = .ok (.ifCond .ne (18), 3) := by decide +kernel
theorem dS_leastLoad_13 : decode cS_leastLoad 13 = .ok (.lload_n 0, 1) := by decide +kernel
theorem dS_leastLoad_14 : decode cS_leastLoad 14 = .ok (.lload_n 2, 1) := by decide +kernel
theorem dS_leastLoad_15 : decode cS_leastLoad 15 = .ok (.lsub, 1) := by decide +kernel
theorem dS_leastLoad_16 : decode cS_leastLoad 16 = .ok (.ldc2_w 230, 3) := by decide +kernel
theorem dS_leastLoad_19 : decode cS_leastLoad 19 = .ok (.ldc2_w 238, 3) := by decide +kernel
theorem dS_leastLoad_22 : decode cS_leastLoad 22 = .ok (.invokestatic 57, 3) := by decide +kernel
theorem dS_leastLoad_25 : decode cS_leastLoad 25 = .ok (.ifCond .eq (5), 3) := by decide +kernel
theorem dS_leastLoad_28 : decode cS_leastLoad 28 = .ok (.iconst 0, 1) := by decide +kernel
theorem dS_leastLoad_29 : decode cS_leastLoad 29 = .ok (.ireturn, 1) := by decide +kernel
theorem dS_leastLoad_30 : decode cS_leastLoad 30 = .ok (.iload 4, 2) := by decide +kernel
theorem dS_leastLoad_32 : decode cS_leastLoad 32 = .ok (.ifCond .eq (28), 3) := by decide +kernel
theorem dS_leastLoad_35 : decode cS_leastLoad 35 = .ok (.lload_n 0, 1) := by decide +kernel
theorem dS_leastLoad_36 : decode cS_leastLoad 36 = .ok (.ldc2_w 240, 3) := by decide +kernel
theorem dS_leastLoad_39 : decode cS_leastLoad 39 = .ok (.ladd, 1) := by decide +kernel
theorem dS_leastLoad_40 : decode cS_leastLoad 40 = .ok (.ldc2_w 72, 3) := by decide +kernel
theorem dS_leastLoad_43 : decode cS_leastLoad 43 = .ok (.invokestatic 242, 3) := by decide +kernel
theorem dS_leastLoad_46 : decode cS_leastLoad 46 = .ok (.lconst 1, 1) := by decide +kernel
theorem dS_leastLoad_47 : decode cS_leastLoad 47 = .ok (.ldc2_w 246, 3) := by decide +kernel
theorem dS_leastLoad_50 : decode cS_leastLoad 50 = .ok (.invokestatic 57, 3) := by decide +kernel
theorem dS_leastLoad_53 : decode cS_leastLoad 53 = .ok (.ifCond .eq (7), 3) := by decide +kernel
theorem dS_leastLoad_56 : decode cS_leastLoad 56 = .ok (.iconst 2, 1) := by decide +kernel
theorem dS_leastLoad_57 : decode cS_leastLoad 57 = .ok (.goto (4), 3) := by decide +kernel
theorem dS_leastLoad_60 : decode cS_leastLoad 60 = .ok (.iconst 4, 1) := by decide +kernel
theorem dS_leastLoad_61 : decode cS_leastLoad 61 = .ok (.ireturn, 1) := by decide +kernel
theorem dS_shrink_0 : decode cS_shrink 0 = .ok (.aload_n 0, 1) := by decide +kernel
theorem dS_shrink_1 : decode cS_shrink 1 = .ok (.invokevirtual 122, 3) := by decide +kernel
theorem dS_shrink_4 : decode cS_shrink 4 = .ok (.ireturn, 1) := by decide +kernel
theorem dS_makePasses_0 : decode cS_makePasses 0 = .ok (.iconst 0, 1) := by decide +kernel
theorem dS_makePasses_1 : decode cS_makePasses 1 = .ok (.istore_n 1, 1) := by decide +kernel
theorem dS_makePasses_2 : decode cS_makePasses 2 = .ok (.iconst 1, 1) := by decide +kernel
theorem dS_makePasses_3 : decode cS_makePasses 3 = .ok (.istore_n 2, 1) := by decide +kernel
theorem dS_makePasses_4 : decode cS_makePasses 4 = .ok (.iload_n 2, 1) := by decide +kernel
theorem dS_makePasses_5 : decode cS_makePasses 5 = .ok (.ifCond .le (21), 3) := by decide +kernel
theorem dS_makePasses_8 : decode cS_makePasses 8 = .ok (.iload_n 1, 1) := by decide +kernel
theorem dS_makePasses_9 : decode cS_makePasses 9 = .ok (.sipush (513), 3) := by decide +kernel
theorem dS_makePasses_12 : decode cS_makePasses 12 = .ok (.if_icmp .ge (14), 3) := by decide +kernel
theorem dS_makePasses_15 : decode cS_makePasses 15 = .ok (.aload_n 0, 1) := by decide +kernel
theorem dS_makePasses_16 : decode cS_makePasses 16 = .ok (.invokevirtual 119, 3) := by decide +kernel
theorem dS_makePasses_19 : decode cS_makePasses 19 = .ok (.istore_n 2, 1) := by decide +kernel
theorem dS_makePasses_20 : decode cS_makePasses 20 = .ok (.iinc 1 (1), 3) := by decide +kernel
theorem dS_makePasses_23 : decode cS_makePasses 23 = .ok (.goto (-19), 3) := by decide +kernel
theorem dS_makePasses_26 : decode cS_makePasses 26 = .ok (.iload_n 1, 1) := by decide +kernel
theorem dS_makePasses_27 : decode cS_makePasses 27 = .ok (.ireturn, 1) := by decide +kernel
theorem dS_settle_0 : decode cS_settle 0 = .ok (.iconst 0, 1) := by decide +kernel
theorem dS_settle_1 : decode cS_settle 1 = .ok (.istore_n 1, 1) := by decide +kernel
theorem dS_settle_2 : decode cS_settle 2 = .ok (.iconst 0, 1) := by decide +kernel
theorem dS_settle_3 : decode cS_settle 3 = .ok (.istore_n 2, 1) := by decide +kernel
theorem dS_settle_4 : decode cS_settle 4 = .ok (.iload_n 2, 1) := by decide +kernel
theorem dS_settle_5 : decode cS_settle 5 = .ok (.sipush (256), 3) := by decide +kernel
theorem dS_settle_8 : decode cS_settle 8 = .ok (.if_icmp .gt (30), 3) := by decide +kernel
theorem dS_settle_11 : decode cS_settle 11 = .ok (.aload_n 0, 1) := by decide +kernel
theorem dS_settle_12 : decode cS_settle 12 = .ok (.invokevirtual 122, 3) := by decide +kernel
theorem dS_settle_15 : decode cS_settle 15 = .ok (.pop, 1) := by decide +kernel
theorem dS_settle_16 : decode cS_settle 16 = .ok (.aload_n 0, 1) := by decide +kernel
theorem dS_settle_17 : decode cS_settle 17 = .ok (.invokevirtual 125, 3) := by decide +kernel
theorem dS_settle_20 : decode cS_settle 20 = .ok (.istore_n 3, 1) := by decide +kernel
theorem dS_settle_21 : decode cS_settle 21 = .ok (.iload_n 3, 1) := by decide +kernel
theorem dS_settle_22 : decode cS_settle 22 = .ok (.ifCond .ne (6), 3) := by decide +kernel
theorem dS_settle_25 : decode cS_settle 25 = .ok (.goto (13), 3) := by decide +kernel
theorem dS_settle_28 : decode cS_settle 28 = .ok (.iload_n 1, 1) := by decide +kernel
theorem dS_settle_29 : decode cS_settle 29 = .ok (.iload_n 3, 1) := by decide +kernel
theorem dS_settle_30 : decode cS_settle 30 = .ok (.iadd, 1) := by decide +kernel
theorem dS_settle_31 : decode cS_settle 31 = .ok (.istore_n 1, 1) := by decide +kernel
theorem dS_settle_32 : decode cS_settle 32 = .ok (.iinc 2 (1), 3) := by decide +kernel
theorem dS_settle_35 : decode cS_settle 35 = .ok (.goto (-31), 3) := by decide +kernel
theorem dS_settle_38 : decode cS_settle 38 = .ok (.iload_n 1, 1) := by decide +kernel
theorem dS_settle_39 : decode cS_settle 39 = .ok (.ireturn, 1) := by decide +kernel
theorem dS_fixWhatDoesNotHold_0 : decode cS_fixWhatDoesNotHold 0 = .ok (.aload_n 0, 1) := by decide +kernel
theorem dS_fixWhatDoesNotHold_1 : decode cS_fixWhatDoesNotHold 1 = .ok (.invokevirtual 141, 3) := by decide +kernel
theorem dS_fixWhatDoesNotHold_4 : decode cS_fixWhatDoesNotHold 4 = .ok (.iconst 0, 1) := by decide +kernel
theorem dS_fixWhatDoesNotHold_5 : decode cS_fixWhatDoesNotHold 5 = .ok (.istore_n 1, 1) := by decide +kernel
theorem dS_fixWhatDoesNotHold_6 : decode cS_fixWhatDoesNotHold 6 = .ok (.aload_n 0, 1) := by decide +kernel
theorem dS_fixWhatDoesNotHold_7 : decode cS_fixWhatDoesNotHold 7 = .ok (.getfield 17, 3) := by decide +kernel
theorem dS_fixWhatDoesNotHold_10 : decode cS_fixWhatDoesNotHold 10 = .ok (.astore_n 2, 1) := by decide +kernel
theorem dS_fixWhatDoesNotHold_11 : decode cS_fixWhatDoesNotHold 11 = .ok (.aload_n 2, 1) := by decide +kernel
theorem dS_fixWhatDoesNotHold_12 : decode cS_fixWhatDoesNotHold 12 = .ok (.arraylength, 1) := by decide +kernel
theorem dS_fixWhatDoesNotHold_13 : decode cS_fixWhatDoesNotHold 13 = .ok (.istore_n 3, 1) := by decide +kernel
theorem dS_fixWhatDoesNotHold_14 : decode cS_fixWhatDoesNotHold 14 = .ok (.iconst 0, 1) := by decide +kernel
theorem dS_fixWhatDoesNotHold_15 : decode cS_fixWhatDoesNotHold 15 = .ok (.istore 4, 2) := by decide +kernel
theorem dS_fixWhatDoesNotHold_17 : decode cS_fixWhatDoesNotHold 17 = .ok (.iload 4, 2) := by decide +kernel
theorem dS_fixWhatDoesNotHold_19 : decode cS_fixWhatDoesNotHold 19 = .ok (.iload_n 3, 1) := by decide +kernel
theorem dS_fixWhatDoesNotHold_20 : decode cS_fixWhatDoesNotHold 20 = .ok (.if_icmp .ge (66), 3) := by decide +kernel
theorem dS_fixWhatDoesNotHold_23 : decode cS_fixWhatDoesNotHold 23 = .ok (.aload_n 2, 1) := by decide +kernel
theorem dS_fixWhatDoesNotHold_24 : decode cS_fixWhatDoesNotHold 24 = .ok (.iload 4, 2) := by decide +kernel
theorem dS_fixWhatDoesNotHold_26 : decode cS_fixWhatDoesNotHold 26 = .ok (.aaload, 1) := by decide +kernel
theorem dS_fixWhatDoesNotHold_27 : decode cS_fixWhatDoesNotHold 27 = .ok (.astore 5, 2) := by decide +kernel
theorem dS_fixWhatDoesNotHold_29 : decode cS_fixWhatDoesNotHold 29 = .ok (.aload 5, 2) := by decide +kernel
theorem dS_fixWhatDoesNotHold_31 : decode cS_fixWhatDoesNotHold 31 = .ok (.ifnonnull (6), 3) := by decide +kernel
theorem dS_fixWhatDoesNotHold_34 : decode cS_fixWhatDoesNotHold 34 = .ok (.goto (52), 3) := by decide +kernel
theorem dS_fixWhatDoesNotHold_37 : decode cS_fixWhatDoesNotHold 37 = .ok (.aload 5, 2) := by decide +kernel
theorem dS_fixWhatDoesNotHold_39 : decode cS_fixWhatDoesNotHold 39 = .ok (.getfield 144, 3) := by decide +kernel
theorem dS_fixWhatDoesNotHold_42 : decode cS_fixWhatDoesNotHold 42 = .ok (.getfield 108, 3) := by decide +kernel
theorem dS_fixWhatDoesNotHold_45 : decode cS_fixWhatDoesNotHold 45 = .ok (.ifCond .ne (35), 3) := by decide +kernel
theorem dS_fixWhatDoesNotHold_48 : decode cS_fixWhatDoesNotHold 48 = .ok (.aload 5, 2) := by decide +kernel
theorem dS_fixWhatDoesNotHold_50 : decode cS_fixWhatDoesNotHold 50 = .ok (.getfield 135, 3) := by decide +kernel
theorem dS_fixWhatDoesNotHold_53 : decode cS_fixWhatDoesNotHold 53 = .ok (.aload 5, 2) := by decide +kernel
theorem dS_fixWhatDoesNotHold_55 : decode cS_fixWhatDoesNotHold 55 = .ok (.getfield 148, 3) := by decide +kernel
theorem dS_fixWhatDoesNotHold_58 : decode cS_fixWhatDoesNotHold 58 = .ok (.if_icmp .ge (22), 3) := by decide +kernel
theorem dS_fixWhatDoesNotHold_61 : decode cS_fixWhatDoesNotHold 61 = .ok (.aload 5, 2) := by decide +kernel
theorem dS_fixWhatDoesNotHold_63 : decode cS_fixWhatDoesNotHold 63 = .ok (.aload 5, 2) := by decide +kernel
theorem dS_fixWhatDoesNotHold_65 : decode cS_fixWhatDoesNotHold 65 = .ok (.getfield 132, 3) := by decide +kernel
theorem dS_fixWhatDoesNotHold_68 : decode cS_fixWhatDoesNotHold 68 = .ok (.putfield 135, 3) := by decide +kernel
theorem dS_fixWhatDoesNotHold_71 : decode cS_fixWhatDoesNotHold 71 = .ok (.aload 5, 2) := by decide +kernel
theorem dS_fixWhatDoesNotHold_73 : decode cS_fixWhatDoesNotHold 73 = .ok (.iconst 1, 1) := by decide +kernel
theorem dS_fixWhatDoesNotHold_74 : decode cS_fixWhatDoesNotHold 74 = .ok (.putfield 138, 3) := by decide +kernel
theorem dS_fixWhatDoesNotHold_77 : decode cS_fixWhatDoesNotHold 77 = .ok (.iinc 1 (1), 3) := by decide +kernel
theorem dS_fixWhatDoesNotHold_80 : decode cS_fixWhatDoesNotHold 80 = .ok (.iinc 4 (1), 3) := by decide +kernel
theorem dS_fixWhatDoesNotHold_83 : decode cS_fixWhatDoesNotHold 83 = .ok (.goto (-66), 3) := by decide +kernel
theorem dS_fixWhatDoesNotHold_86 : decode cS_fixWhatDoesNotHold 86 = .ok (.iload_n 1, 1) := by decide +kernel
theorem dS_fixWhatDoesNotHold_87 : decode cS_fixWhatDoesNotHold 87 = .ok (.ireturn, 1) := by decide +kernel
theorem dS_reset_0 : decode cS_reset 0 = .ok (.aload_n 0, 1) := by decide +kernel
theorem dS_reset_1 : decode cS_reset 1 = .ok (.getfield 17, 3) := by decide +kernel
theorem dS_reset_4 : decode cS_reset 4 = .ok (.astore_n 1, 1) := by decide +kernel
theorem dS_reset_5 : decode cS_reset 5 = .ok (.aload_n 1, 1) := by decide +kernel
theorem dS_reset_6 : decode cS_reset 6 = .ok (.arraylength, 1) := by decide +kernel
theorem dS_reset_7 : decode cS_reset 7 = .ok (.istore_n 2, 1) := by decide +kernel
theorem dS_reset_8 : decode cS_reset 8 = .ok (.iconst 0, 1) := by decide +kernel
theorem dS_reset_9 : decode cS_reset 9 = .ok (.istore_n 3, 1) := by decide +kernel
theorem dS_reset_10 : decode cS_reset 10 = .ok (.iload_n 3, 1) := by decide +kernel
theorem dS_reset_11 : decode cS_reset 11 = .ok (.iload_n 2, 1) := by decide +kernel
theorem dS_reset_12 : decode cS_reset 12 = .ok (.if_icmp .ge (46), 3) := by decide +kernel
theorem dS_reset_15 : decode cS_reset 15 = .ok (.aload_n 1, 1) := by decide +kernel
theorem dS_reset_16 : decode cS_reset 16 = .ok (.iload_n 3, 1) := by decide +kernel
theorem dS_reset_17 : decode cS_reset 17 = .ok (.aaload, 1) := by decide +kernel
theorem dS_reset_18 : decode cS_reset 18 = .ok (.astore 4, 2) := by decide +kernel
theorem dS_reset_20 : decode cS_reset 20 = .ok (.aload 4, 2) := by decide +kernel
theorem dS_reset_22 : decode cS_reset 22 = .ok (.ifnonnull (6), 3) := by decide +kernel
theorem dS_reset_25 : decode cS_reset 25 = .ok (.goto (33), 3) := by decide +kernel
theorem dS_reset_28 : decode cS_reset 28 = .ok (.aload 4, 2) := by decide +kernel
theorem dS_reset_30 : decode cS_reset 30 = .ok (.getfield 128, 3) := by decide +kernel
theorem dS_reset_33 : decode cS_reset 33 = .ok (.ifnull (19), 3) := by decide +kernel
theorem dS_reset_36 : decode cS_reset 36 = .ok (.aload 4, 2) := by decide +kernel
theorem dS_reset_38 : decode cS_reset 38 = .ok (.aload 4, 2) := by decide +kernel
theorem dS_reset_40 : decode cS_reset 40 = .ok (.getfield 132, 3) := by decide +kernel
theorem dS_reset_43 : decode cS_reset 43 = .ok (.putfield 135, 3) := by decide +kernel
theorem dS_reset_46 : decode cS_reset 46 = .ok (.aload 4, 2) := by decide +kernel
theorem dS_reset_48 : decode cS_reset 48 = .ok (.iconst 0, 1) := by decide +kernel
theorem dS_reset_49 : decode cS_reset 49 = .ok (.putfield 138, 3) := by decide +kernel
theorem dS_reset_52 : decode cS_reset 52 = .ok (.iinc 3 (1), 3) := by decide +kernel
theorem dS_reset_55 : decode cS_reset 55 = .ok (.goto (-45), 3) := by decide +kernel
theorem dS_reset_58 : decode cS_reset 58 = .ok (.return_, 1) := by decide +kernel
theorem dS_holds_0 : decode cS_holds 0 = .ok (.aload_n 0, 1) := by decide +kernel
theorem dS_holds_1 : decode cS_holds 1 = .ok (.invokevirtual 141, 3) := by decide +kernel
theorem dS_holds_4 : decode cS_holds 4 = .ok (.iconst 0, 1) := by decide +kernel
theorem dS_holds_5 : decode cS_holds 5 = .ok (.istore_n 1, 1) := by decide +kernel
theorem dS_holds_6 : decode cS_holds 6 = .ok (.iload_n 1, 1) := by decide +kernel
theorem dS_holds_7 : decode cS_holds 7 = .ok (.aload_n 0, 1) := by decide +kernel
theorem dS_holds_8 : decode cS_holds 8 = .ok (.getfield 17, 3) := by decide +kernel
theorem dS_holds_11 : decode cS_holds 11 = .ok (.arraylength, 1) := by decide +kernel
theorem dS_holds_12 : decode cS_holds 12 = .ok (.if_icmp .ge (46), 3) := by decide +kernel
theorem dS_holds_15 : decode cS_holds 15 = .ok (.aload_n 0, 1) := by decide +kernel
theorem dS_holds_16 : decode cS_holds 16 = .ok (.getfield 17, 3) := by decide +kernel
theorem dS_holds_19 : decode cS_holds 19 = .ok (.iload_n 1, 1) := by decide +kernel
theorem dS_holds_20 : decode cS_holds 20 = .ok (.aaload, 1) := by decide +kernel
theorem dS_holds_21 : decode cS_holds 21 = .ok (.astore_n 2, 1) := by decide +kernel
theorem dS_holds_22 : decode cS_holds 22 = .ok (.aload_n 2, 1) := by decide +kernel
theorem dS_holds_23 : decode cS_holds 23 = .ok (.ifnonnull (6), 3) := by decide +kernel
theorem dS_holds_26 : decode cS_holds 26 = .ok (.goto (32), 3) := by decide +kernel
theorem dS_holds_29 : decode cS_holds 29 = .ok (.aload_n 2, 1) := by decide +kernel
theorem dS_holds_30 : decode cS_holds 30 = .ok (.getfield 144, 3) := by decide +kernel
theorem dS_holds_33 : decode cS_holds 33 = .ok (.getfield 108, 3) := by decide +kernel
theorem dS_holds_36 : decode cS_holds 36 = .ok (.ifCond .ne (16), 3) := by decide +kernel
theorem dS_holds_39 : decode cS_holds 39 = .ok (.aload_n 2, 1) := by decide +kernel
theorem dS_holds_40 : decode cS_holds 40 = .ok (.getfield 135, 3) := by decide +kernel
theorem dS_holds_43 : decode cS_holds 43 = .ok (.aload_n 2, 1) := by decide +kernel
theorem dS_holds_44 : decode cS_holds 44 = .ok (.getfield 148, 3) := by decide +kernel
theorem dS_holds_47 : decode cS_holds 47 = .ok (.if_icmp .ge (5), 3) := by decide +kernel
theorem dS_holds_50 : decode cS_holds 50 = .ok (.iload_n 1, 1) := by decide +kernel
theorem dS_holds_51 : decode cS_holds 51 = .ok (.ireturn, 1) := by decide +kernel
theorem dS_holds_52 : decode cS_holds 52 = .ok (.iinc 1 (1), 3) := by decide +kernel
theorem dS_holds_55 : decode cS_holds 55 = .ok (.goto (-49), 3) := by decide +kernel
theorem dS_holds_58 : decode cS_holds 58 = .ok (.iconst (-1), 1) := by decide +kernel
theorem dS_holds_59 : decode cS_holds 59 = .ok (.ireturn, 1) := by decide +kernel
theorem dS_lacks_0 : decode cS_lacks 0 = .ok (.aload_n 0, 1) := by decide +kernel
theorem dS_lacks_1 : decode cS_lacks 1 = .ok (.invokevirtual 141, 3) := by decide +kernel
theorem dS_lacks_4 : decode cS_lacks 4 = .ok (.iconst 0, 1) := by decide +kernel
theorem dS_lacks_5 : decode cS_lacks 5 = .ok (.istore_n 1, 1) := by decide +kernel
theorem dS_lacks_6 : decode cS_lacks 6 = .ok (.iload_n 1, 1) := by decide +kernel
theorem dS_lacks_7 : decode cS_lacks 7 = .ok (.aload_n 0, 1) := by decide +kernel
theorem dS_lacks_8 : decode cS_lacks 8 = .ok (.getfield 17, 3) := by decide +kernel
theorem dS_lacks_11 : decode cS_lacks 11 = .ok (.arraylength, 1) := by decide +kernel
theorem dS_lacks_12 : decode cS_lacks 12 = .ok (.if_icmp .ge (61), 3) := by decide +kernel
theorem dS_lacks_15 : decode cS_lacks 15 = .ok (.aload_n 0, 1) := by decide +kernel
theorem dS_lacks_16 : decode cS_lacks 16 = .ok (.getfield 17, 3) := by decide +kernel
theorem dS_lacks_19 : decode cS_lacks 19 = .ok (.iload_n 1, 1) := by decide +kernel
theorem dS_lacks_20 : decode cS_lacks 20 = .ok (.aaload, 1) := by decide +kernel
theorem dS_lacks_21 : decode cS_lacks 21 = .ok (.astore_n 2, 1) := by decide +kernel
theorem dS_lacks_22 : decode cS_lacks 22 = .ok (.aload_n 2, 1) := by decide +kernel
theorem dS_lacks_23 : decode cS_lacks 23 = .ok (.ifnonnull (6), 3) := by decide +kernel
theorem dS_lacks_26 : decode cS_lacks 26 = .ok (.goto (47), 3) := by decide +kernel
theorem dS_lacks_29 : decode cS_lacks 29 = .ok (.aload_n 2, 1) := by decide +kernel
theorem dS_lacks_30 : decode cS_lacks 30 = .ok (.getfield 86, 3) := by decide +kernel
theorem dS_lacks_33 : decode cS_lacks 33 = .ok (.iconst 4, 1) := by decide +kernel
theorem dS_lacks_34 : decode cS_lacks 34 = .ok (.if_icmp .ne (33), 3) := by decide +kernel
theorem dS_lacks_37 : decode cS_lacks 37 = .ok (.aload_n 2, 1) := by decide +kernel
theorem dS_lacks_38 : decode cS_lacks 38 = .ok (.getfield 144, 3) := by decide +kernel
theorem dS_lacks_41 : decode cS_lacks 41 = .ok (.getfield 108, 3) := by decide +kernel
theorem dS_lacks_44 : decode cS_lacks 44 = .ok (.ifCond .ne (23), 3) := by decide +kernel
theorem dS_lacks_47 : decode cS_lacks 47 = .ok (.aload_n 2, 1) := by decide +kernel
theorem dS_lacks_48 : decode cS_lacks 48 = .ok (.getfield 151, 3) := by decide +kernel
theorem dS_lacks_51 : decode cS_lacks 51 = .ok (.aload_n 2, 1) := by decide +kernel
theorem dS_lacks_52 : decode cS_lacks 52 = .ok (.getfield 154, 3) := by decide +kernel
theorem dS_lacks_55 : decode cS_lacks 55 = .ok (.invokestatic 157, 3) := by decide +kernel
theorem dS_lacks_58 : decode cS_lacks 58 = .ok (.aload_n 2, 1) := by decide +kernel
theorem dS_lacks_59 : decode cS_lacks 59 = .ok (.getfield 89, 3) := by decide +kernel
theorem dS_lacks_62 : decode cS_lacks 62 = .ok (.if_icmp .le (5), 3) := by decide +kernel
theorem dS_lacks_65 : decode cS_lacks 65 = .ok (.iload_n 1, 1) := by decide +kernel
theorem dS_lacks_66 : decode cS_lacks 66 = .ok (.ireturn, 1) := by decide +kernel
theorem dS_lacks_67 : decode cS_lacks 67 = .ok (.iinc 1 (1), 3) := by decide +kernel
theorem dS_lacks_70 : decode cS_lacks 70 = .ok (.goto (-64), 3) := by decide +kernel
theorem dS_lacks_73 : decode cS_lacks 73 = .ok (.iconst (-1), 1) := by decide +kernel
theorem dS_lacks_74 : decode cS_lacks 74 = .ok (.ireturn, 1) := by decide +kernel
theorem dS_piece_0 : decode cS_piece 0 = .ok (.aload_n 0, 1) := by decide +kernel
theorem dS_piece_1 : decode cS_piece 1 = .ok (.iload_n 1, 1) := by decide +kernel
theorem dS_piece_2 : decode cS_piece 2 = .ok (.invokevirtual 82, 3) := by decide +kernel
theorem dS_piece_5 : decode cS_piece 5 = .ok (.astore_n 3, 1) := by decide +kernel
theorem dS_piece_6 : decode cS_piece 6 = .ok (.aload_n 3, 1) := by decide +kernel
theorem dS_piece_7 : decode cS_piece 7 = .ok (.ifnonnull (5), 3) := by decide +kernel
theorem dS_piece_10 : decode cS_piece 10 = .ok (.iconst (-1), 1) := by decide +kernel
theorem dS_piece_11 : decode cS_piece 11 = .ok (.ireturn, 1) := by decide +kernel
theorem dS_piece_12 : decode cS_piece 12 = .ok (.aload_n 0, 1) := by decide +kernel
theorem dS_piece_13 : decode cS_piece 13 = .ok (.invokevirtual 141, 3) := by decide +kernel
theorem dS_piece_16 : decode cS_piece 16 = .ok (.aload_n 3, 1) := by decide +kernel
theorem dS_piece_17 : decode cS_piece 17 = .ok (.getfield 144, 3) := by decide +kernel
theorem dS_piece_20 : decode cS_piece 20 = .ok (.getfield 108, 3) := by decide +kernel
theorem dS_piece_23 : decode cS_piece 23 = .ok (.istore 4, 2) := by decide +kernel
theorem dS_piece_25 : decode cS_piece 25 = .ok (.iload_n 2, 1) := by decide +kernel
theorem dS_piece_26 : decode cS_piece 26 = .ok (.tableswitch (106) (0) (5) #[38, 43, 51, 65, 79, 93], 38) := by decide +kernel
theorem dS_piece_64 : decode cS_piece 64 = .ok (.aload_n 3, 1) := by decide +kernel
theorem dS_piece_65 : decode cS_piece 65 = .ok (.getfield 86, 3) := by decide +kernel
theorem dS_piece_68 : decode cS_piece 68 = .ok (.ireturn, 1) := by decide +kernel
theorem dS_piece_69 : decode cS_piece 69 = .ok (.aload_n 3, 1) := by decide +kernel
theorem dS_piece_70 : decode cS_piece 70 = .ok (.getfield 144, 3) := by decide +kernel
theorem dS_piece_73 : decode cS_piece 73 = .ok (.getfield 161, 3) := by decide +kernel
theorem dS_piece_76 : decode cS_piece 76 = .ok (.ireturn, 1) := by decide +kernel
theorem dS_piece_77 : decode cS_piece 77 = .ok (.iload 4, 2) := by decide +kernel
theorem dS_piece_79 : decode cS_piece 79 = .ok (.ifCond .eq (7), 3) := by decide +kernel
theorem dS_piece_82 : decode cS_piece 82 = .ok (.iconst (-1), 1) := by decide +kernel
theorem dS_piece_83 : decode cS_piece 83 = .ok (.goto (7), 3) := by decide +kernel
theorem dS_piece_86 : decode cS_piece 86 = .ok (.aload_n 3, 1) := by decide +kernel
theorem dS_piece_87 : decode cS_piece 87 = .ok (.getfield 135, 3) := by decide +kernel
theorem dS_piece_90 : decode cS_piece 90 = .ok (.ireturn, 1) := by decide +kernel
theorem dS_piece_91 : decode cS_piece 91 = .ok (.iload 4, 2) := by decide +kernel
theorem dS_piece_93 : decode cS_piece 93 = .ok (.ifCond .eq (7), 3) := by decide +kernel
theorem dS_piece_96 : decode cS_piece 96 = .ok (.iconst (-1), 1) := by decide +kernel
theorem dS_piece_97 : decode cS_piece 97 = .ok (.goto (7), 3) := by decide +kernel
theorem dS_piece_100 : decode cS_piece 100 = .ok (.aload_n 3, 1) := by decide +kernel
theorem dS_piece_101 : decode cS_piece 101 = .ok (.getfield 151, 3) := by decide +kernel
theorem dS_piece_104 : decode cS_piece 104 = .ok (.ireturn, 1) := by decide +kernel
theorem dS_piece_105 : decode cS_piece 105 = .ok (.iload 4, 2) := by decide +kernel
theorem dS_piece_107 : decode cS_piece 107 = .ok (.ifCond .eq (7), 3) := by decide +kernel
theorem dS_piece_110 : decode cS_piece 110 = .ok (.iconst (-1), 1) := by decide +kernel
theorem dS_piece_111 : decode cS_piece 111 = .ok (.goto (7), 3) := by decide +kernel
theorem dS_piece_114 : decode cS_piece 114 = .ok (.aload_n 3, 1) := by decide +kernel
theorem dS_piece_115 : decode cS_piece 115 = .ok (.getfield 148, 3) := by decide +kernel
theorem dS_piece_118 : decode cS_piece 118 = .ok (.ireturn, 1) := by decide +kernel
theorem dS_piece_119 : decode cS_piece 119 = .ok (.aload_n 3, 1) := by decide +kernel
theorem dS_piece_120 : decode cS_piece 120 = .ok (.getfield 138, 3) := by decide +kernel
theorem dS_piece_123 : decode cS_piece 123 = .ok (.ifCond .eq (7), 3) := by decide +kernel
theorem dS_piece_126 : decode cS_piece 126 = .ok (.iconst 1, 1) := by decide +kernel
theorem dS_piece_127 : decode cS_piece 127 = .ok (.goto (4), 3) := by decide +kernel
theorem dS_piece_130 : decode cS_piece 130 = .ok (.iconst 0, 1) := by decide +kernel
theorem dS_piece_131 : decode cS_piece 131 = .ok (.ireturn, 1) := by decide +kernel
theorem dS_piece_132 : decode cS_piece 132 = .ok (.iconst (-1), 1) := by decide +kernel
theorem dS_piece_133 : decode cS_piece 133 = .ok (.ireturn, 1) := by decide +kernel
theorem dS_aim_0 : decode cS_aim 0 = .ok (.aload_n 0, 1) := by decide +kernel
theorem dS_aim_1 : decode cS_aim 1 = .ok (.iload_n 1, 1) := by decide +kernel
theorem dS_aim_2 : decode cS_aim 2 = .ok (.invokevirtual 82, 3) := by decide +kernel
theorem dS_aim_5 : decode cS_aim 5 = .ok (.astore_n 2, 1) := by decide +kernel
theorem dS_aim_6 : decode cS_aim 6 = .ok (.aload_n 2, 1) := by decide +kernel
theorem dS_aim_7 : decode cS_aim 7 = .ok (.ifnonnull (7), 3) := by decide +kernel
theorem dS_aim_10 : decode cS_aim 10 = .ok (.ldc2_w 164, 3) := by decide +kernel
theorem dS_aim_13 : decode cS_aim 13 = .ok (.lreturn, 1) := by decide +kernel
theorem dS_aim_14 : decode cS_aim 14 = .ok (.aload_n 0, 1) := by decide +kernel
theorem dS_aim_15 : decode cS_aim 15 = .ok (.invokevirtual 141, 3) := by decide +kernel
theorem dS_aim_18 : decode cS_aim 18 = .ok (.aload_n 2, 1) := by decide +kernel
theorem dS_aim_19 : decode cS_aim 19 = .ok (.invokestatic 166, 3) := by decide +kernel
theorem dS_aim_22 : decode cS_aim 22 = .ok (.lreturn, 1) := by decide +kernel
theorem dS_value_0 : decode cS_value 0 = .ok (.aload_n 0, 1) := by decide +kernel
theorem dS_value_1 : decode cS_value 1 = .ok (.iload_n 1, 1) := by decide +kernel
theorem dS_value_2 : decode cS_value 2 = .ok (.invokevirtual 78, 3) := by decide +kernel
theorem dS_value_5 : decode cS_value 5 = .ok (.astore_n 2, 1) := by decide +kernel
theorem dS_value_6 : decode cS_value 6 = .ok (.aload_n 2, 1) := by decide +kernel
theorem dS_value_7 : decode cS_value 7 = .ok (.ifnonnull (5), 3) := by decide +kernel
theorem dS_value_10 : decode cS_value 10 = .ok (.iconst (-1), 1) := by decide +kernel
theorem dS_value_11 : decode cS_value 11 = .ok (.ireturn, 1) := by decide +kernel
theorem dS_value_12 : decode cS_value 12 = .ok (.aload_n 0, 1) := by decide +kernel
theorem dS_value_13 : decode cS_value 13 = .ok (.invokevirtual 141, 3) := by decide +kernel
theorem dS_value_16 : decode cS_value 16 = .ok (.aload_n 2, 1) := by decide +kernel
theorem dS_value_17 : decode cS_value 17 = .ok (.invokestatic 170, 3) := by decide +kernel
theorem dS_value_20 : decode cS_value 20 = .ok (.ireturn, 1) := by decide +kernel
theorem dS_span_0 : decode cS_span 0 = .ok (.aload_n 0, 1) := by decide +kernel
theorem dS_span_1 : decode cS_span 1 = .ok (.iload_n 1, 1) := by decide +kernel
theorem dS_span_2 : decode cS_span 2 = .ok (.invokevirtual 51, 3) := by decide +kernel
theorem dS_span_5 : decode cS_span 5 = .ok (.astore_n 3, 1) := by decide +kernel
theorem dS_span_6 : decode cS_span 6 = .ok (.aload_n 3, 1) := by decide +kernel
theorem dS_span_7 : decode cS_span 7 = .ok (.ifnonnull (5), 3) := by decide +kernel
theorem dS_span_10 : decode cS_span 10 = .ok (.iconst (-1), 1) := by decide +kernel
theorem dS_span_11 : decode cS_span 11 = .ok (.ireturn, 1) := by decide +kernel
theorem dS_span_12 : decode cS_span 12 = .ok (.aload_n 0, 1) := by decide +kernel
theorem dS_span_13 : decode cS_span 13 = .ok (.invokevirtual 141, 3) := by decide +kernel
theorem dS_span_16 : decode cS_span 16 = .ok (.iload_n 2, 1) := by decide +kernel
theorem dS_span_17 : decode cS_span 17 = .ok (.tableswitch (98) (0) (4) #[35, 40, 56, 72, 85], 35) := by decide +kernel
theorem dS_span_52 : decode cS_span 52 = .ok (.aload_n 3, 1) := by decide +kernel
theorem dS_span_53 : decode cS_span 53 = .ok (.getfield 174, 3) := by decide +kernel
theorem dS_span_56 : decode cS_span 56 = .ok (.ireturn, 1) := by decide +kernel
theorem dS_span_57 : decode cS_span 57 = .ok (.aload_n 3, 1) := by decide +kernel
theorem dS_span_58 : decode cS_span 58 = .ok (.getfield 108, 3) := by decide +kernel
theorem dS_span_61 : decode cS_span 61 = .ok (.ifCond .eq (7), 3) := by decide +kernel
theorem dS_span_64 : decode cS_span 64 = .ok (.iconst (-1), 1) := by decide +kernel
theorem dS_span_65 : decode cS_span 65 = .ok (.goto (7), 3) := by decide +kernel
theorem dS_span_68 : decode cS_span 68 = .ok (.aload_n 3, 1) := by decide +kernel
theorem dS_span_69 : decode cS_span 69 = .ok (.getfield 177, 3) := by decide +kernel
theorem dS_span_72 : decode cS_span 72 = .ok (.ireturn, 1) := by decide +kernel
theorem dS_span_73 : decode cS_span 73 = .ok (.aload_n 3, 1) := by decide +kernel
theorem dS_span_74 : decode cS_span 74 = .ok (.getfield 108, 3) := by decide +kernel
theorem dS_span_77 : decode cS_span 77 = .ok (.ifCond .eq (7), 3) := by decide +kernel
theorem dS_span_80 : decode cS_span 80 = .ok (.iconst (-1), 1) := by decide +kernel
theorem dS_span_81 : decode cS_span 81 = .ok (.goto (7), 3) := by decide +kernel
theorem dS_span_84 : decode cS_span 84 = .ok (.aload_n 3, 1) := by decide +kernel
theorem dS_span_85 : decode cS_span 85 = .ok (.getfield 180, 3) := by decide +kernel
theorem dS_span_88 : decode cS_span 88 = .ok (.ireturn, 1) := by decide +kernel
theorem dS_span_89 : decode cS_span 89 = .ok (.aload_n 3, 1) := by decide +kernel
theorem dS_span_90 : decode cS_span 90 = .ok (.getfield 108, 3) := by decide +kernel
theorem dS_span_93 : decode cS_span 93 = .ok (.ifCond .eq (7), 3) := by decide +kernel
theorem dS_span_96 : decode cS_span 96 = .ok (.iconst 1, 1) := by decide +kernel
theorem dS_span_97 : decode cS_span 97 = .ok (.goto (4), 3) := by decide +kernel
theorem dS_span_100 : decode cS_span 100 = .ok (.iconst 0, 1) := by decide +kernel
theorem dS_span_101 : decode cS_span 101 = .ok (.ireturn, 1) := by decide +kernel
theorem dS_span_102 : decode cS_span 102 = .ok (.aload_n 3, 1) := by decide +kernel
theorem dS_span_103 : decode cS_span 103 = .ok (.getfield 104, 3) := by decide +kernel
theorem dS_span_106 : decode cS_span 106 = .ok (.ifCond .eq (7), 3) := by decide +kernel
theorem dS_span_109 : decode cS_span 109 = .ok (.iconst 1, 1) := by decide +kernel
theorem dS_span_110 : decode cS_span 110 = .ok (.goto (4), 3) := by decide +kernel
theorem dS_span_113 : decode cS_span 113 = .ok (.iconst 0, 1) := by decide +kernel
theorem dS_span_114 : decode cS_span 114 = .ok (.ireturn, 1) := by decide +kernel
theorem dS_span_115 : decode cS_span 115 = .ok (.iconst (-1), 1) := by decide +kernel
theorem dS_span_116 : decode cS_span 116 = .ok (.ireturn, 1) := by decide +kernel
theorem dS_output_0 : decode cS_output 0 = .ok (.iload_n 1, 1) := by decide +kernel
theorem dS_output_1 : decode cS_output 1 = .ok (.invokestatic 41, 3) := by decide +kernel
theorem dS_output_4 : decode cS_output 4 = .ok (.ifCond .ne (5), 3) := by decide +kernel
theorem dS_output_7 : decode cS_output 7 = .ok (.iconst (-1), 1) := by decide +kernel
theorem dS_output_8 : decode cS_output 8 = .ok (.ireturn, 1) := by decide +kernel
theorem dS_output_9 : decode cS_output 9 = .ok (.aload_n 0, 1) := by decide +kernel
theorem dS_output_10 : decode cS_output 10 = .ok (.invokevirtual 141, 3) := by decide +kernel
theorem dS_output_13 : decode cS_output 13 = .ok (.iload_n 2, 1) := by decide +kernel
theorem dS_output_14 : decode cS_output 14 = .ok (.lookupswitch (40) #[(0, 26), (1, 33)], 26) := by decide +kernel
theorem dS_output_40 : decode cS_output 40 = .ok (.aload_n 0, 1) := by decide +kernel
theorem dS_output_41 : decode cS_output 41 = .ok (.getfield 31, 3) := by decide +kernel
theorem dS_output_44 : decode cS_output 44 = .ok (.iload_n 1, 1) := by decide +kernel
theorem dS_output_45 : decode cS_output 45 = .ok (.iaload, 1) := by decide +kernel
theorem dS_output_46 : decode cS_output 46 = .ok (.ireturn, 1) := by decide +kernel
theorem dS_output_47 : decode cS_output 47 = .ok (.aload_n 0, 1) := by decide +kernel
theorem dS_output_48 : decode cS_output 48 = .ok (.getfield 34, 3) := by decide +kernel
theorem dS_output_51 : decode cS_output 51 = .ok (.iload_n 1, 1) := by decide +kernel
theorem dS_output_52 : decode cS_output 52 = .ok (.iaload, 1) := by decide +kernel
theorem dS_output_53 : decode cS_output 53 = .ok (.ireturn, 1) := by decide +kernel
theorem dS_output_54 : decode cS_output 54 = .ok (.iconst (-1), 1) := by decide +kernel
theorem dS_output_55 : decode cS_output 55 = .ok (.ireturn, 1) := by decide +kernel
theorem dS_saved_0 : decode cS_saved 0 = .ok (.iconst 0, 1) := by decide +kernel
theorem dS_saved_1 : decode cS_saved 1 = .ok (.istore_n 1, 1) := by decide +kernel
theorem dS_saved_2 : decode cS_saved 2 = .ok (.aload_n 0, 1) := by decide +kernel
theorem dS_saved_3 : decode cS_saved 3 = .ok (.getfield 17, 3) := by decide +kernel
theorem dS_saved_6 : decode cS_saved 6 = .ok (.astore_n 2, 1) := by decide +kernel
theorem dS_saved_7 : decode cS_saved 7 = .ok (.aload_n 2, 1) := by decide +kernel
theorem dS_saved_8 : decode cS_saved 8 = .ok (.arraylength, 1) := by decide +kernel
theorem dS_saved_9 : decode cS_saved 9 = .ok (.istore_n 3, 1) := by decide +kernel
theorem dS_saved_10 : decode cS_saved 10 = .ok (.iconst 0, 1) := by decide +kernel
theorem dS_saved_11 : decode cS_saved 11 = .ok (.istore 4, 2) := by decide +kernel
theorem dS_saved_13 : decode cS_saved 13 = .ok (.iload 4, 2) := by decide +kernel
theorem dS_saved_15 : decode cS_saved 15 = .ok (.iload_n 3, 1) := by decide +kernel
theorem dS_saved_16 : decode cS_saved 16 = .ok (.if_icmp .ge (56), 3) := by decide +kernel
theorem dS_saved_19 : decode cS_saved 19 = .ok (.aload_n 2, 1) := by decide +kernel
theorem dS_saved_20 : decode cS_saved 20 = .ok (.iload 4, 2) := by decide +kernel
theorem dS_saved_22 : decode cS_saved 22 = .ok (.aaload, 1) := by decide +kernel
theorem dS_saved_23 : decode cS_saved 23 = .ok (.astore 5, 2) := by decide +kernel
theorem dS_saved_25 : decode cS_saved 25 = .ok (.aload 5, 2) := by decide +kernel
theorem dS_saved_27 : decode cS_saved 27 = .ok (.ifnonnull (6), 3) := by decide +kernel
theorem dS_saved_30 : decode cS_saved 30 = .ok (.goto (42), 3) := by decide +kernel
theorem dS_saved_33 : decode cS_saved 33 = .ok (.aload 5, 2) := by decide +kernel
theorem dS_saved_35 : decode cS_saved 35 = .ok (.getfield 128, 3) := by decide +kernel
theorem dS_saved_38 : decode cS_saved 38 = .ok (.ifnull (28), 3) := by decide +kernel
theorem dS_saved_41 : decode cS_saved 41 = .ok (.aload 5, 2) := by decide +kernel
theorem dS_saved_43 : decode cS_saved 43 = .ok (.getfield 144, 3) := by decide +kernel
theorem dS_saved_46 : decode cS_saved 46 = .ok (.getfield 108, 3) := by decide +kernel
theorem dS_saved_49 : decode cS_saved 49 = .ok (.ifCond .ne (17), 3) := by decide +kernel
theorem dS_saved_52 : decode cS_saved 52 = .ok (.iload_n 1, 1) := by decide +kernel
theorem dS_saved_53 : decode cS_saved 53 = .ok (.aload 5, 2) := by decide +kernel
theorem dS_saved_55 : decode cS_saved 55 = .ok (.getfield 132, 3) := by decide +kernel
theorem dS_saved_58 : decode cS_saved 58 = .ok (.aload 5, 2) := by decide +kernel
theorem dS_saved_60 : decode cS_saved 60 = .ok (.getfield 135, 3) := by decide +kernel
theorem dS_saved_63 : decode cS_saved 63 = .ok (.isub, 1) := by decide +kernel
theorem dS_saved_64 : decode cS_saved 64 = .ok (.iadd, 1) := by decide +kernel
theorem dS_saved_65 : decode cS_saved 65 = .ok (.istore_n 1, 1) := by decide +kernel
theorem dS_saved_66 : decode cS_saved 66 = .ok (.iinc 4 (1), 3) := by decide +kernel
theorem dS_saved_69 : decode cS_saved 69 = .ok (.goto (-56), 3) := by decide +kernel
theorem dS_saved_72 : decode cS_saved 72 = .ok (.iload_n 1, 1) := by decide +kernel
theorem dS_saved_73 : decode cS_saved 73 = .ok (.ireturn, 1) := by decide +kernel
theorem dS_partAt_0 : decode cS_partAt 0 = .ok (.iload_n 1, 1) := by decide +kernel
theorem dS_partAt_1 : decode cS_partAt 1 = .ok (.ifCond .lt (21), 3) := by decide +kernel
theorem dS_partAt_4 : decode cS_partAt 4 = .ok (.iload_n 1, 1) := by decide +kernel
theorem dS_partAt_5 : decode cS_partAt 5 = .ok (.aload_n 0, 1) := by decide +kernel
theorem dS_partAt_6 : decode cS_partAt 6 = .ok (.getfield 11, 3) := by decide +kernel
theorem dS_partAt_9 : decode cS_partAt 9 = .ok (.arraylength, 1) := by decide +kernel
theorem dS_partAt_10 : decode cS_partAt 10 = .ok (.if_icmp .ge (12), 3) := by decide +kernel
theorem dS_partAt_13 : decode cS_partAt 13 = .ok (.aload_n 0, 1) := by decide +kernel
theorem dS_partAt_14 : decode cS_partAt 14 = .ok (.getfield 11, 3) := by decide +kernel
theorem dS_partAt_17 : decode cS_partAt 17 = .ok (.iload_n 1, 1) := by decide +kernel
theorem dS_partAt_18 : decode cS_partAt 18 = .ok (.aaload, 1) := by decide +kernel
theorem dS_partAt_19 : decode cS_partAt 19 = .ok (.goto (4), 3) := by decide +kernel
theorem dS_partAt_22 : decode cS_partAt 22 = .ok (.aconst_null, 1) := by decide +kernel
theorem dS_partAt_23 : decode cS_partAt 23 = .ok (.areturn, 1) := by decide +kernel
theorem dS_labelAt_0 : decode cS_labelAt 0 = .ok (.iload_n 1, 1) := by decide +kernel
theorem dS_labelAt_1 : decode cS_labelAt 1 = .ok (.ifCond .lt (21), 3) := by decide +kernel
theorem dS_labelAt_4 : decode cS_labelAt 4 = .ok (.iload_n 1, 1) := by decide +kernel
theorem dS_labelAt_5 : decode cS_labelAt 5 = .ok (.aload_n 0, 1) := by decide +kernel
theorem dS_labelAt_6 : decode cS_labelAt 6 = .ok (.getfield 23, 3) := by decide +kernel
theorem dS_labelAt_9 : decode cS_labelAt 9 = .ok (.arraylength, 1) := by decide +kernel
theorem dS_labelAt_10 : decode cS_labelAt 10 = .ok (.if_icmp .ge (12), 3) := by decide +kernel
theorem dS_labelAt_13 : decode cS_labelAt 13 = .ok (.aload_n 0, 1) := by decide +kernel
theorem dS_labelAt_14 : decode cS_labelAt 14 = .ok (.getfield 23, 3) := by decide +kernel
theorem dS_labelAt_17 : decode cS_labelAt 17 = .ok (.iload_n 1, 1) := by decide +kernel
theorem dS_labelAt_18 : decode cS_labelAt 18 = .ok (.aaload, 1) := by decide +kernel
theorem dS_labelAt_19 : decode cS_labelAt 19 = .ok (.goto (4), 3) := by decide +kernel
theorem dS_labelAt_22 : decode cS_labelAt 22 = .ok (.aconst_null, 1) := by decide +kernel
theorem dS_labelAt_23 : decode cS_labelAt 23 = .ok (.areturn, 1) := by decide +kernel
theorem dS_pieceAt_0 : decode cS_pieceAt 0 = .ok (.iload_n 1, 1) := by decide +kernel
theorem dS_pieceAt_1 : decode cS_pieceAt 1 = .ok (.ifCond .lt (21), 3) := by decide +kernel
theorem dS_pieceAt_4 : decode cS_pieceAt 4 = .ok (.iload_n 1, 1) := by decide +kernel
theorem dS_pieceAt_5 : decode cS_pieceAt 5 = .ok (.aload_n 0, 1) := by decide +kernel
theorem dS_pieceAt_6 : decode cS_pieceAt 6 = .ok (.getfield 17, 3) := by decide +kernel
theorem dS_pieceAt_9 : decode cS_pieceAt 9 = .ok (.arraylength, 1) := by decide +kernel
theorem dS_pieceAt_10 : decode cS_pieceAt 10 = .ok (.if_icmp .ge (12), 3) := by decide +kernel
theorem dS_pieceAt_13 : decode cS_pieceAt 13 = .ok (.aload_n 0, 1) := by decide +kernel
theorem dS_pieceAt_14 : decode cS_pieceAt 14 = .ok (.getfield 17, 3) := by decide +kernel
theorem dS_pieceAt_17 : decode cS_pieceAt 17 = .ok (.iload_n 1, 1) := by decide +kernel
theorem dS_pieceAt_18 : decode cS_pieceAt 18 = .ok (.aaload, 1) := by decide +kernel
theorem dS_pieceAt_19 : decode cS_pieceAt 19 = .ok (.goto (4), 3) := by decide +kernel
theorem dS_pieceAt_22 : decode cS_pieceAt 22 = .ok (.aconst_null, 1) := by decide +kernel
theorem dS_pieceAt_23 : decode cS_pieceAt 23 = .ok (.areturn, 1) := by decide +kernel
theorem dS_partLedTo_0 : decode cS_partLedTo 0 = .ok (.aload_n 0, 1) := by decide +kernel
theorem dS_partLedTo_1 : decode cS_partLedTo 1 = .ok (.getfield 128, 3) := by decide +kernel
theorem dS_partLedTo_4 : decode cS_partLedTo 4 = .ok (.ifnull (13), 3) := by decide +kernel
theorem dS_partLedTo_7 : decode cS_partLedTo 7 = .ok (.aload_n 0, 1) := by decide +kernel
theorem dS_partLedTo_8 : decode cS_partLedTo 8 = .ok (.getfield 128, 3) := by decide +kernel
theorem dS_partLedTo_11 : decode cS_partLedTo 11 = .ok (.getfield 92, 3) := by decide +kernel
theorem dS_partLedTo_14 : decode cS_partLedTo 14 = .ok (.ifnonnull (5), 3) := by decide +kernel
theorem dS_partLedTo_17 : decode cS_partLedTo 17 = .ok (.aconst_null, 1) := by decide +kernel
theorem dS_partLedTo_18 : decode cS_partLedTo 18 = .ok (.areturn, 1) := by decide +kernel
theorem dS_partLedTo_19 : decode cS_partLedTo 19 = .ok (.aload_n 0, 1) := by decide +kernel
theorem dS_partLedTo_20 : decode cS_partLedTo 20 = .ok (.getfield 128, 3) := by decide +kernel
theorem dS_partLedTo_23 : decode cS_partLedTo 23 = .ok (.getfield 92, 3) := by decide +kernel
theorem dS_partLedTo_26 : decode cS_partLedTo 26 = .ok (.getfield 144, 3) := by decide +kernel
theorem dS_partLedTo_29 : decode cS_partLedTo 29 = .ok (.areturn, 1) := by decide +kernel
end
section
theorem dM_init_0 : decode cM_init 0 = .ok (.aload_n 0, 1) := by decide +kernel
theorem dM_init_1 : decode cM_init 1 = .ok (.invokespecial 1, 3) := by decide +kernel
theorem dM_init_4 : decode cM_init 4 = .ok (.aload_n 0, 1) := by decide +kernel
theorem dM_init_5 : decode cM_init 5 = .ok (.iconst 4, 1) := by decide +kernel
theorem dM_init_6 : decode cM_init 6 = .ok (.newarray .int, 2) := by decide +kernel
theorem dM_init_8 : decode cM_init 8 = .ok (.dup, 1) := by decide +kernel
theorem dM_init_9 : decode cM_init 9 = .ok (.iconst 0, 1) := by decide +kernel
theorem dM_init_10 : decode cM_init 10 = .ok (.iconst 1, 1) := by decide +kernel
theorem dM_init_11 : decode cM_init 11 = .ok (.iastore, 1) := by decide +kernel
theorem dM_init_12 : decode cM_init 12 = .ok (.dup, 1) := by decide +kernel
theorem dM_init_13 : decode cM_init 13 = .ok (.iconst 1, 1) := by decide +kernel
theorem dM_init_14 : decode cM_init 14 = .ok (.iconst 1, 1) := by decide +kernel
theorem dM_init_15 : decode cM_init 15 = .ok (.iastore, 1) := by decide +kernel
theorem dM_init_16 : decode cM_init 16 = .ok (.dup, 1) := by decide +kernel
theorem dM_init_17 : decode cM_init 17 = .ok (.iconst 2, 1) := by decide +kernel
theorem dM_init_18 : decode cM_init 18 = .ok (.iconst 1, 1) := by decide +kernel
theorem dM_init_19 : decode cM_init 19 = .ok (.iastore, 1) := by decide +kernel
theorem dM_init_20 : decode cM_init 20 = .ok (.dup, 1) := by decide +kernel
theorem dM_init_21 : decode cM_init 21 = .ok (.iconst 3, 1) := by decide +kernel
theorem dM_init_22 : decode cM_init 22 = .ok (.iconst 1, 1) := by decide +kernel
theorem dM_init_23 : decode cM_init 23 = .ok (.iastore, 1) := by decide +kernel
theorem dM_init_24 : decode cM_init 24 = .ok (.putfield 7, 3) := by decide +kernel
theorem dM_init_27 : decode cM_init 27 = .ok (.aload_n 0, 1) := by decide +kernel
theorem dM_init_28 : decode cM_init 28 = .ok (.iconst 4, 1) := by decide +kernel
theorem dM_init_29 : decode cM_init 29 = .ok (.newarray .int, 2) := by decide +kernel
theorem dM_init_31 : decode cM_init 31 = .ok (.putfield 13, 3) := by decide +kernel
theorem dM_init_34 : decode cM_init 34 = .ok (.aload_n 0, 1) := by decide +kernel
theorem dM_init_35 : decode cM_init 35 = .ok (.iconst 4, 1) := by decide +kernel
theorem dM_init_36 : decode cM_init 36 = .ok (.newarray .int, 2) := by decide +kernel
theorem dM_init_38 : decode cM_init 38 = .ok (.putfield 16, 3) := by decide +kernel
theorem dM_init_41 : decode cM_init 41 = .ok (.aload_n 0, 1) := by decide +kernel
theorem dM_init_42 : decode cM_init 42 = .ok (.bipush (32), 2) := by decide +kernel
theorem dM_init_44 : decode cM_init 44 = .ok (.newarray .int, 2) := by decide +kernel
theorem dM_init_46 : decode cM_init 46 = .ok (.putfield 19, 3) := by decide +kernel
theorem dM_init_49 : decode cM_init 49 = .ok (.aload_n 0, 1) := by decide +kernel
theorem dM_init_50 : decode cM_init 50 = .ok (.bipush (32), 2) := by decide +kernel
theorem dM_init_52 : decode cM_init 52 = .ok (.newarray .int, 2) := by decide +kernel
theorem dM_init_54 : decode cM_init 54 = .ok (.putfield 22, 3) := by decide +kernel
theorem dM_init_57 : decode cM_init 57 = .ok (.aload_n 0, 1) := by decide +kernel
theorem dM_init_58 : decode cM_init 58 = .ok (.bipush (32), 2) := by decide +kernel
theorem dM_init_60 : decode cM_init 60 = .ok (.newarray .boolean, 2) := by decide +kernel
theorem dM_init_62 : decode cM_init 62 = .ok (.putfield 25, 3) := by decide +kernel
theorem dM_init_65 : decode cM_init 65 = .ok (.aload_n 0, 1) := by decide +kernel
theorem dM_init_66 : decode cM_init 66 = .ok (.bipush (32), 2) := by decide +kernel
theorem dM_init_68 : decode cM_init 68 = .ok (.newarray .boolean, 2) := by decide +kernel
theorem dM_init_70 : decode cM_init 70 = .ok (.putfield 29, 3) := by decide +kernel
theorem dM_init_73 : decode cM_init 73 = .ok (.aload_n 0, 1) := by decide +kernel
theorem dM_init_74 : decode cM_init 74 = .ok (.bipush (32), 2) := by decide +kernel
theorem dM_init_76 : decode cM_init 76 = .ok (.newarray .boolean, 2) := by decide +kernel
theorem dM_init_78 : decode cM_init 78 = .ok (.putfield 32, 3) := by decide +kernel
theorem dM_init_81 : decode cM_init 81 = .ok (.aload_n 0, 1) := by decide +kernel
theorem dM_init_82 : decode cM_init 82 = .ok (.bipush (32), 2) := by decide +kernel
theorem dM_init_84 : decode cM_init 84 = .ok (.newarray .int, 2) := by decide +kernel
theorem dM_init_86 : decode cM_init 86 = .ok (.putfield 35, 3) := by decide +kernel
theorem dM_init_89 : decode cM_init 89 = .ok (.aload_n 0, 1) := by decide +kernel
theorem dM_init_90 : decode cM_init 90 = .ok (.bipush (32), 2) := by decide +kernel
theorem dM_init_92 : decode cM_init 92 = .ok (.newarray .int, 2) := by decide +kernel
theorem dM_init_94 : decode cM_init 94 = .ok (.putfield 38, 3) := by decide +kernel
theorem dM_init_97 : decode cM_init 97 = .ok (.aload_n 0, 1) := by decide +kernel
theorem dM_init_98 : decode cM_init 98 = .ok (.sipush (256), 3) := by decide +kernel
theorem dM_init_101 : decode cM_init 101 = .ok (.newarray .int, 2) := by decide +kernel
theorem dM_init_103 : decode cM_init 103 = .ok (.putfield 41, 3) := by decide +kernel
theorem dM_init_106 : decode cM_init 106 = .ok (.aload_n 0, 1) := by decide +kernel
theorem dM_init_107 : decode cM_init 107 = .ok (.sipush (256), 3) := by decide +kernel
theorem dM_init_110 : decode cM_init 110 = .ok (.newarray .int, 2) := by decide +kernel
theorem dM_init_112 : decode cM_init 112 = .ok (.putfield 44, 3) := by decide +kernel
theorem dM_init_115 : decode cM_init 115 = .ok (.aload_n 0, 1) := by decide +kernel
theorem dM_init_116 : decode cM_init 116 = .ok (.sipush (256), 3) := by decide +kernel
theorem dM_init_119 : decode cM_init 119 = .ok (.newarray .int, 2) := by decide +kernel
theorem dM_init_121 : decode cM_init 121 = .ok (.putfield 47, 3) := by decide +kernel
theorem dM_init_124 : decode cM_init 124 = .ok (.aload_n 0, 1) := by decide +kernel
theorem dM_init_125 : decode cM_init 125 = .ok (.sipush (256), 3) := by decide +kernel
theorem dM_init_128 : decode cM_init 128 = .ok (.newarray .int, 2) := by decide +kernel
theorem dM_init_130 : decode cM_init 130 = .ok (.putfield 50, 3) := by decide +kernel
theorem dM_init_133 : decode cM_init 133 = .ok (.aload_n 0, 1) := by decide +kernel
theorem dM_init_134 : decode cM_init 134 = .ok (.sipush (256), 3) := by decide +kernel
theorem dM_init_137 : decode cM_init 137 = .ok (.newarray .int, 2) := by decide +kernel
theorem dM_init_139 : decode cM_init 139 = .ok (.putfield 53, 3) := by decide +kernel
theorem dM_init_142 : decode cM_init 142 = .ok (.aload_n 0, 1) := by decide +kernel
theorem dM_init_143 : decode cM_init 143 = .ok (.sipush (256), 3) := by decide +kernel
theorem dM_init_146 : decode cM_init 146 = .ok (.newarray .int, 2) := by decide +kernel
theorem dM_init_148 : decode cM_init 148 = .ok (.putfield 56, 3) := by decide +kernel
theorem dM_init_151 : decode cM_init 151 = .ok (.aload_n 0, 1) := by decide +kernel
theorem dM_init_152 : decode cM_init 152 = .ok (.sipush (256), 3) := by decide +kernel
theorem dM_init_155 : decode cM_init 155 = .ok (.newarray .int, 2) := by decide +kernel
theorem dM_init_157 : decode cM_init 157 = .ok (.putfield 59, 3) := by decide +kernel
theorem dM_init_160 : decode cM_init 160 = .ok (.aload_n 0, 1) := by decide +kernel
theorem dM_init_161 : decode cM_init 161 = .ok (.sipush (256), 3) := by decide +kernel
theorem dM_init_164 : decode cM_init 164 = .ok (.newarray .boolean, 2) := by decide +kernel
theorem dM_init_166 : decode cM_init 166 = .ok (.putfield 62, 3) := by decide +kernel
theorem dM_init_169 : decode cM_init 169 = .ok (.aload_n 0, 1) := by decide +kernel
theorem dM_init_170 : decode cM_init 170 = .ok (.sipush (256), 3) := by decide +kernel
theorem dM_init_173 : decode cM_init 173 = .ok (.newarray .boolean, 2) := by decide +kernel
theorem dM_init_175 : decode cM_init 175 = .ok (.putfield 65, 3) := by decide +kernel
theorem dM_init_178 : decode cM_init 178 = .ok (.aload_n 0, 1) := by decide +kernel
theorem dM_init_179 : decode cM_init 179 = .ok (.sipush (256), 3) := by decide +kernel
theorem dM_init_182 : decode cM_init 182 = .ok (.newarray .int, 2) := by decide +kernel
theorem dM_init_184 : decode cM_init 184 = .ok (.putfield 68, 3) := by decide +kernel
theorem dM_init_187 : decode cM_init 187 = .ok (.aload_n 0, 1) := by decide +kernel
theorem dM_init_188 : decode cM_init 188 = .ok (.sipush (256), 3) := by decide +kernel
theorem dM_init_191 : decode cM_init 191 = .ok (.newarray .int, 2) := by decide +kernel
theorem dM_init_193 : decode cM_init 193 = .ok (.putfield 71, 3) := by decide +kernel
theorem dM_init_196 : decode cM_init 196 = .ok (.aload_n 0, 1) := by decide +kernel
theorem dM_init_197 : decode cM_init 197 = .ok (.sipush (256), 3) := by decide +kernel
theorem dM_init_200 : decode cM_init 200 = .ok (.newarray .int, 2) := by decide +kernel
theorem dM_init_202 : decode cM_init 202 = .ok (.putfield 74, 3) := by decide +kernel
theorem dM_init_205 : decode cM_init 205 = .ok (.aload_n 0, 1) := by decide +kernel
theorem dM_init_206 : decode cM_init 206 = .ok (.bipush (64), 2) := by decide +kernel
theorem dM_init_208 : decode cM_init 208 = .ok (.newarray .int, 2) := by decide +kernel
theorem dM_init_210 : decode cM_init 210 = .ok (.putfield 77, 3) := by decide +kernel
theorem dM_init_213 : decode cM_init 213 = .ok (.aload_n 0, 1) := by decide +kernel
theorem dM_init_214 : decode cM_init 214 = .ok (.bipush (64), 2) := by decide +kernel
theorem dM_init_216 : decode cM_init 216 = .ok (.newarray .int, 2) := by decide +kernel
theorem dM_init_218 : decode cM_init 218 = .ok (.putfield 80, 3) := by decide +kernel
theorem dM_init_221 : decode cM_init 221 = .ok (.return_, 1) := by decide +kernel
theorem dM_part_0 : decode cM_part 0 = .ok (.aload_n 0, 1) := by decide +kernel
theorem dM_part_1 : decode cM_part 1 = .ok (.getfield 83, 3) := by decide +kernel
theorem dM_part_4 : decode cM_part 4 = .ok (.bipush (32), 2) := by decide +kernel
theorem dM_part_6 : decode cM_part 6 = .ok (.if_icmp .eq (22), 3) := by decide +kernel
theorem dM_part_9 : decode cM_part 9 = .ok (.iload_n 1, 1) := by decide +kernel
theorem dM_part_10 : decode cM_part 10 = .ok (.iconst 0, 1) := by decide +kernel
theorem dM_part_11 : decode cM_part 11 = .ok (.iconst 3, 1) := by decide +kernel
theorem dM_part_12 : decode cM_part 12 = .ok (.invokestatic 87, 3) := by decide +kernel
theorem dM_part_15 : decode cM_part 15 = .ok (.ifCond .eq (13), 3) := by decide +kernel
theorem dM_part_18 : decode cM_part 18 = .ok (.iload_n 2, 1) := by decide +kernel
theorem dM_part_19 : decode cM_part 19 = .ok (.iconst 0, 1) := by decide +kernel
theorem dM_part_20 : decode cM_part 20 = .ok (.bipush (12), 2) := by decide +kernel
theorem dM_part_22 : decode cM_part 22 = .ok (.invokestatic 87, 3) := by decide +kernel
theorem dM_part_25 : decode cM_part 25 = .ok (.ifCond .ne (5), 3) := by decide +kernel
theorem dM_part_28 : decode cM_part 28 = .ok (.iconst (-1), 1) := by decide +kernel
theorem dM_part_29 : decode cM_part 29 = .ok (.ireturn, 1) := by decide +kernel
theorem dM_part_30 : decode cM_part 30 = .ok (.aload_n 0, 1) := by decide +kernel
theorem dM_part_31 : decode cM_part 31 = .ok (.getfield 19, 3) := by decide +kernel
theorem dM_part_34 : decode cM_part 34 = .ok (.aload_n 0, 1) := by decide +kernel
theorem dM_part_35 : decode cM_part 35 = .ok (.getfield 83, 3) := by decide +kernel
theorem dM_part_38 : decode cM_part 38 = .ok (.iload_n 1, 1) := by decide +kernel
theorem dM_part_39 : decode cM_part 39 = .ok (.iastore, 1) := by decide +kernel
theorem dM_part_40 : decode cM_part 40 = .ok (.aload_n 0, 1) := by decide +kernel
theorem dM_part_41 : decode cM_part 41 = .ok (.getfield 22, 3) := by decide +kernel
theorem dM_part_44 : decode cM_part 44 = .ok (.aload_n 0, 1) := by decide +kernel
theorem dM_part_45 : decode cM_part 45 = .ok (.getfield 83, 3) := by decide +kernel
theorem dM_part_48 : decode cM_part 48 = .ok (.iconst 1, 1) := by decide +kernel
theorem dM_part_49 : decode cM_part 49 = .ok (.iload_n 2, 1) := by decide +kernel
theorem dM_part_50 : decode cM_part 50 = .ok (.ishl, 1) := by decide +kernel
theorem dM_part_51 : decode cM_part 51 = .ok (.iastore, 1) := by decide +kernel
theorem dM_part_52 : decode cM_part 52 = .ok (.aload_n 0, 1) := by decide +kernel
theorem dM_part_53 : decode cM_part 53 = .ok (.dup, 1) := by decide +kernel
theorem dM_part_54 : decode cM_part 54 = .ok (.getfield 83, 3) := by decide +kernel
theorem dM_part_57 : decode cM_part 57 = .ok (.iconst 1, 1) := by decide +kernel
theorem dM_part_58 : decode cM_part 58 = .ok (.iadd, 1) := by decide +kernel
theorem dM_part_59 : decode cM_part 59 = .ok (.putfield 83, 3) := by decide +kernel
theorem dM_part_62 : decode cM_part 62 = .ok (.aload_n 0, 1) := by decide +kernel
theorem dM_part_63 : decode cM_part 63 = .ok (.getfield 83, 3) := by decide +kernel
theorem dM_part_66 : decode cM_part 66 = .ok (.iconst 1, 1) := by decide +kernel
theorem dM_part_67 : decode cM_part 67 = .ok (.isub, 1) := by decide +kernel
theorem dM_part_68 : decode cM_part 68 = .ok (.ireturn, 1) := by decide +kernel
theorem dM_within_0 : decode cM_within 0 = .ok (.iload_n 0, 1) := by decide +kernel
theorem dM_within_1 : decode cM_within 1 = .ok (.iload_n 1, 1) := by decide +kernel
theorem dM_within_2 : decode cM_within 2 = .ok (.if_icmp .lt (12), 3) := by decide +kernel
theorem dM_within_5 : decode cM_within 5 = .ok (.iload_n 0, 1) := by decide +kernel
theorem dM_within_6 : decode cM_within 6 = .ok (.iload_n 2, 1) := by decide +kernel
theorem dM_within_7 : decode cM_within 7 = .ok (.if_icmp .gt (7), 3) := by decide +kernel
theorem dM_within_10 : decode cM_within 10 = .ok (.iconst 1, 1) := by decide +kernel
theorem dM_within_11 : decode cM_within 11 = .ok (.goto (4), 3) := by decide +kernel
theorem dM_within_14 : decode cM_within 14 = .ok (.iconst 0, 1) := by decide +kernel
theorem dM_within_15 : decode cM_within 15 = .ok (.ireturn, 1) := by decide +kernel
theorem dM_plain_0 : decode cM_plain 0 = .ok (.aload_n 0, 1) := by decide +kernel
theorem dM_plain_1 : decode cM_plain 1 = .ok (.getfield 91, 3) := by decide +kernel
theorem dM_plain_4 : decode cM_plain 4 = .ok (.sipush (256), 3) := by decide +kernel
theorem dM_plain_7 : decode cM_plain 7 = .ok (.if_icmp .eq (21), 3) := by decide +kernel
theorem dM_plain_10 : decode cM_plain 10 = .ok (.aload_n 0, 1) := by decide +kernel
theorem dM_plain_11 : decode cM_plain 11 = .ok (.iload_n 1, 1) := by decide +kernel
theorem dM_plain_12 : decode cM_plain 12 = .ok (.invokevirtual 154, 3) := by decide +kernel
theorem dM_plain_15 : decode cM_plain 15 = .ok (.ifCond .eq (13), 3) := by decide +kernel
theorem dM_plain_18 : decode cM_plain 18 = .ok (.iload_n 2, 1) := by decide +kernel
theorem dM_plain_19 : decode cM_plain 19 = .ok (.iconst 0, 1) := by decide +kernel
theorem dM_plain_20 : decode cM_plain 20 = .ok (.ldc 157, 2) := by decide +kernel
theorem dM_plain_22 : decode cM_plain 22 = .ok (.invokestatic 87, 3) := by decide +kernel
theorem dM_plain_25 : decode cM_plain 25 = .ok (.ifCond .ne (7), 3) := by decide +kernel
theorem dM_plain_28 : decode cM_plain 28 = .ok (.iconst (-1), 1) := by decide +kernel
theorem dM_plain_29 : decode cM_plain 29 = .ok (.goto (10), 3) := by decide +kernel
theorem dM_plain_32 : decode cM_plain 32 = .ok (.aload_n 0, 1) := by decide +kernel
theorem dM_plain_33 : decode cM_plain 33 = .ok (.iload_n 1, 1) := by decide +kernel
theorem dM_plain_34 : decode cM_plain 34 = .ok (.iconst 0, 1) := by decide +kernel
theorem dM_plain_35 : decode cM_plain 35 = .ok (.iload_n 2, 1) := by decide +kernel
theorem dM_plain_36 : decode cM_plain 36 = .ok (.invokevirtual 158, 3) := by decide +kernel
theorem dM_plain_39 : decode cM_plain 39 = .ok (.ireturn, 1) := by decide +kernel
theorem dM_isPart_0 : decode cM_isPart 0 = .ok (.iload_n 1, 1) := by decide +kernel
theorem dM_isPart_1 : decode cM_isPart 1 = .ok (.iconst 0, 1) := by decide +kernel
theorem dM_isPart_2 : decode cM_isPart 2 = .ok (.aload_n 0, 1) := by decide +kernel
theorem dM_isPart_3 : decode cM_isPart 3 = .ok (.getfield 83, 3) := by decide +kernel
theorem dM_isPart_6 : decode cM_isPart 6 = .ok (.iconst 1, 1) := by decide +kernel
theorem dM_isPart_7 : decode cM_isPart 7 = .ok (.isub, 1) := by decide +kernel
theorem dM_isPart_8 : decode cM_isPart 8 = .ok (.invokestatic 87, 3) := by decide +kernel
theorem dM_isPart_11 : decode cM_isPart 11 = .ok (.ireturn, 1) := by decide +kernel
theorem dM_added_0 : decode cM_added 0 = .ok (.aload_n 0, 1) := by decide +kernel
theorem dM_added_1 : decode cM_added 1 = .ok (.getfield 41, 3) := by decide +kernel
theorem dM_added_4 : decode cM_added 4 = .ok (.aload_n 0, 1) := by decide +kernel
theorem dM_added_5 : decode cM_added 5 = .ok (.getfield 91, 3) := by decide +kernel
theorem dM_added_8 : decode cM_added 8 = .ok (.iload_n 2, 1) := by decide +kernel
theorem dM_added_9 : decode cM_added 9 = .ok (.iastore, 1) := by decide +kernel
theorem dM_added_10 : decode cM_added 10 = .ok (.aload_n 0, 1) := by decide +kernel
theorem dM_added_11 : decode cM_added 11 = .ok (.getfield 44, 3) := by decide +kernel
theorem dM_added_14 : decode cM_added 14 = .ok (.aload_n 0, 1) := by decide +kernel
theorem dM_added_15 : decode cM_added 15 = .ok (.getfield 91, 3) := by decide +kernel
theorem dM_added_18 : decode cM_added 18 = .ok (.iload_n 1, 1) := by decide +kernel
theorem dM_added_19 : decode cM_added 19 = .ok (.iastore, 1) := by decide +kernel
theorem dM_added_20 : decode cM_added 20 = .ok (.aload_n 0, 1) := by decide +kernel
theorem dM_added_21 : decode cM_added 21 = .ok (.getfield 47, 3) := by decide +kernel
theorem dM_added_24 : decode cM_added 24 = .ok (.aload_n 0, 1) := by decide +kernel
theorem dM_added_25 : decode cM_added 25 = .ok (.getfield 91, 3) := by decide +kernel
theorem dM_added_28 : decode cM_added 28 = .ok (.iload_n 3, 1) := by decide +kernel
theorem dM_added_29 : decode cM_added 29 = .ok (.iastore, 1) := by decide +kernel
theorem dM_added_30 : decode cM_added 30 = .ok (.aload_n 0, 1) := by decide +kernel
theorem dM_added_31 : decode cM_added 31 = .ok (.getfield 50, 3) := by decide +kernel
theorem dM_added_34 : decode cM_added 34 = .ok (.aload_n 0, 1) := by decide +kernel
theorem dM_added_35 : decode cM_added 35 = .ok (.getfield 91, 3) := by decide +kernel
theorem dM_added_38 : decode cM_added 38 = .ok (.iload_n 3, 1) := by decide +kernel
theorem dM_added_39 : decode cM_added 39 = .ok (.iastore, 1) := by decide +kernel
theorem dM_added_40 : decode cM_added 40 = .ok (.aload_n 0, 1) := by decide +kernel
theorem dM_added_41 : decode cM_added 41 = .ok (.dup, 1) := by decide +kernel
theorem dM_added_42 : decode cM_added 42 = .ok (.getfield 91, 3) := by decide +kernel
theorem dM_added_45 : decode cM_added 45 = .ok (.iconst 1, 1) := by decide +kernel
theorem dM_added_46 : decode cM_added 46 = .ok (.iadd, 1) := by decide +kernel
theorem dM_added_47 : decode cM_added 47 = .ok (.putfield 91, 3) := by decide +kernel
theorem dM_added_50 : decode cM_added 50 = .ok (.aload_n 0, 1) := by decide +kernel
theorem dM_added_51 : decode cM_added 51 = .ok (.getfield 91, 3) := by decide +kernel
theorem dM_added_54 : decode cM_added 54 = .ok (.iconst 1, 1) := by decide +kernel
theorem dM_added_55 : decode cM_added 55 = .ok (.isub, 1) := by decide +kernel
theorem dM_added_56 : decode cM_added 56 = .ok (.ireturn, 1) := by decide +kernel
theorem dM_call_0 : decode cM_call 0 = .ok (.aload_n 0, 1) := by decide +kernel
theorem dM_call_1 : decode cM_call 1 = .ok (.iload_n 1, 1) := by decide +kernel
theorem dM_call_2 : decode cM_call 2 = .ok (.iconst 1, 1) := by decide +kernel
theorem dM_call_3 : decode cM_call 3 = .ok (.iload_n 2, 1) := by decide +kernel
theorem dM_call_4 : decode cM_call 4 = .ok (.iload_n 3, 1) := by decide +kernel
theorem dM_call_5 : decode cM_call 5 = .ok (.iload 4, 2) := by decide +kernel
theorem dM_call_7 : decode cM_call 7 = .ok (.invokevirtual 162, 3) := by decide +kernel
theorem dM_call_10 : decode cM_call 10 = .ok (.ireturn, 1) := by decide +kernel
theorem dM_aimed_0 : decode cM_aimed 0 = .ok (.aload_n 0, 1) := by decide +kernel
theorem dM_aimed_1 : decode cM_aimed 1 = .ok (.getfield 91, 3) := by decide +kernel
theorem dM_aimed_4 : decode cM_aimed 4 = .ok (.sipush (256), 3) := by decide +kernel
theorem dM_aimed_7 : decode cM_aimed 7 = .ok (.if_icmp .eq (19), 3) := by decide +kernel
theorem dM_aimed_10 : decode cM_aimed 10 = .ok (.aload_n 0, 1) := by decide +kernel
theorem dM_aimed_11 : decode cM_aimed 11 = .ok (.iload_n 1, 1) := by decide +kernel
theorem dM_aimed_12 : decode cM_aimed 12 = .ok (.invokevirtual 154, 3) := by decide +kernel
theorem dM_aimed_15 : decode cM_aimed 15 = .ok (.ifCond .eq (11), 3) := by decide +kernel
theorem dM_aimed_18 : decode cM_aimed 18 = .ok (.aload_n 0, 1) := by decide +kernel
theorem dM_aimed_19 : decode cM_aimed 19 = .ok (.iload_n 3, 1) := by decide +kernel
theorem dM_aimed_20 : decode cM_aimed 20 = .ok (.invokevirtual 107, 3) := by decide +kernel
theorem dM_aimed_23 : decode cM_aimed 23 = .ok (.ifCond .ne (5), 3) := by decide +kernel
theorem dM_aimed_26 : decode cM_aimed 26 = .ok (.iconst (-1), 1) := by decide +kernel
theorem dM_aimed_27 : decode cM_aimed 27 = .ok (.ireturn, 1) := by decide +kernel
theorem dM_aimed_28 : decode cM_aimed 28 = .ok (.aload_n 0, 1) := by decide +kernel
theorem dM_aimed_29 : decode cM_aimed 29 = .ok (.getfield 56, 3) := by decide +kernel
theorem dM_aimed_32 : decode cM_aimed 32 = .ok (.aload_n 0, 1) := by decide +kernel
theorem dM_aimed_33 : decode cM_aimed 33 = .ok (.getfield 91, 3) := by decide +kernel
theorem dM_aimed_36 : decode cM_aimed 36 = .ok (.iload_n 3, 1) := by decide +kernel
theorem dM_aimed_37 : decode cM_aimed 37 = .ok (.iastore, 1) := by decide +kernel
theorem dM_aimed_38 : decode cM_aimed 38 = .ok (.aload_n 0, 1) := by decide +kernel
theorem dM_aimed_39 : decode cM_aimed 39 = .ok (.getfield 59, 3) := by decide +kernel
theorem dM_aimed_42 : decode cM_aimed 42 = .ok (.aload_n 0, 1) := by decide +kernel
theorem dM_aimed_43 : decode cM_aimed 43 = .ok (.getfield 91, 3) := by decide +kernel
theorem dM_aimed_46 : decode cM_aimed 46 = .ok (.iload 4, 2) := by decide +kernel
theorem dM_aimed_48 : decode cM_aimed 48 = .ok (.iastore, 1) := by decide +kernel
theorem dM_aimed_49 : decode cM_aimed 49 = .ok (.aload_n 0, 1) := by decide +kernel
theorem dM_aimed_50 : decode cM_aimed 50 = .ok (.getfield 62, 3) := by decide +kernel
theorem dM_aimed_53 : decode cM_aimed 53 = .ok (.aload_n 0, 1) := by decide +kernel
theorem dM_aimed_54 : decode cM_aimed 54 = .ok (.getfield 91, 3) := by decide +kernel
theorem dM_aimed_57 : decode cM_aimed 57 = .ok (.iload 5, 2) := by decide +kernel
theorem dM_aimed_59 : decode cM_aimed 59 = .ok (.bastore, 1) := by decide +kernel
theorem dM_aimed_60 : decode cM_aimed 60 = .ok (.aload_n 0, 1) := by decide +kernel
theorem dM_aimed_61 : decode cM_aimed 61 = .ok (.iload_n 1, 1) := by decide +kernel
theorem dM_aimed_62 : decode cM_aimed 62 = .ok (.iload_n 2, 1) := by decide +kernel
theorem dM_aimed_63 : decode cM_aimed 63 = .ok (.iload_n 2, 1) := by decide +kernel
theorem dM_aimed_64 : decode cM_aimed 64 = .ok (.invokestatic 131, 3) := by decide +kernel
theorem dM_aimed_67 : decode cM_aimed 67 = .ok (.invokevirtual 158, 3) := by decide +kernel
theorem dM_aimed_70 : decode cM_aimed 70 = .ok (.ireturn, 1) := by decide +kernel
theorem dM_isLabel_0 : decode cM_isLabel 0 = .ok (.iload_n 1, 1) := by decide +kernel
theorem dM_isLabel_1 : decode cM_isLabel 1 = .ok (.iconst 0, 1) := by decide +kernel
theorem dM_isLabel_2 : decode cM_isLabel 2 = .ok (.aload_n 0, 1) := by decide +kernel
theorem dM_isLabel_3 : decode cM_isLabel 3 = .ok (.getfield 94, 3) := by decide +kernel
theorem dM_isLabel_6 : decode cM_isLabel 6 = .ok (.iconst 1, 1) := by decide +kernel
theorem dM_isLabel_7 : decode cM_isLabel 7 = .ok (.isub, 1) := by decide +kernel
theorem dM_isLabel_8 : decode cM_isLabel 8 = .ok (.invokestatic 87, 3) := by decide +kernel
theorem dM_isLabel_11 : decode cM_isLabel 11 = .ok (.ireturn, 1) := by decide +kernel
theorem dM_greatest_0 : decode cM_greatest 0 = .ok (.iload_n 0, 1) := by decide +kernel
theorem dM_greatest_1 : decode cM_greatest 1 = .ok (.iconst 1, 1) := by decide +kernel
theorem dM_greatest_2 : decode cM_greatest 2 = .ok (.if_icmp .ne (8), 3) := by decide +kernel
theorem dM_greatest_5 : decode cM_greatest 5 = .ok (.bipush (8), 2) := by decide +kernel
theorem dM_greatest_7 : decode cM_greatest 7 = .ok (.goto (4), 3) := by decide +kernel
theorem dM_greatest_10 : decode cM_greatest 10 = .ok (.iconst 4, 1) := by decide +kernel
theorem dM_greatest_11 : decode cM_greatest 11 = .ok (.ireturn, 1) := by decide +kernel
theorem dM_upper_0 : decode cM_upper 0 = .ok (.aload_n 0, 1) := by decide +kernel
theorem dM_upper_1 : decode cM_upper 1 = .ok (.iload_n 1, 1) := by decide +kernel
theorem dM_upper_2 : decode cM_upper 2 = .ok (.iconst 2, 1) := by decide +kernel
theorem dM_upper_3 : decode cM_upper 3 = .ok (.iload_n 2, 1) := by decide +kernel
theorem dM_upper_4 : decode cM_upper 4 = .ok (.iload_n 3, 1) := by decide +kernel
theorem dM_upper_5 : decode cM_upper 5 = .ok (.iload 4, 2) := by decide +kernel
theorem dM_upper_7 : decode cM_upper 7 = .ok (.invokevirtual 162, 3) := by decide +kernel
theorem dM_upper_10 : decode cM_upper 10 = .ok (.ireturn, 1) := by decide +kernel
theorem dM_near_0 : decode cM_near 0 = .ok (.aload_n 0, 1) := by decide +kernel
theorem dM_near_1 : decode cM_near 1 = .ok (.iload_n 1, 1) := by decide +kernel
theorem dM_near_2 : decode cM_near 2 = .ok (.iconst 3, 1) := by decide +kernel
theorem dM_near_3 : decode cM_near 3 = .ok (.iload_n 2, 1) := by decide +kernel
theorem dM_near_4 : decode cM_near 4 = .ok (.iload_n 3, 1) := by decide +kernel
theorem dM_near_5 : decode cM_near 5 = .ok (.iconst 0, 1) := by decide +kernel
theorem dM_near_6 : decode cM_near 6 = .ok (.invokevirtual 162, 3) := by decide +kernel
theorem dM_near_9 : decode cM_near 9 = .ok (.ireturn, 1) := by decide +kernel
theorem dM_fill_0 : decode cM_fill 0 = .ok (.aload_n 0, 1) := by decide +kernel
theorem dM_fill_1 : decode cM_fill 1 = .ok (.getfield 91, 3) := by decide +kernel
theorem dM_fill_4 : decode cM_fill 4 = .ok (.sipush (256), 3) := by decide +kernel
theorem dM_fill_7 : decode cM_fill 7 = .ok (.if_icmp .eq (32), 3) := by decide +kernel
theorem dM_fill_10 : decode cM_fill 10 = .ok (.aload_n 0, 1) := by decide +kernel
theorem dM_fill_11 : decode cM_fill 11 = .ok (.iload_n 1, 1) := by decide +kernel
theorem dM_fill_12 : decode cM_fill 12 = .ok (.invokevirtual 154, 3) := by decide +kernel
theorem dM_fill_15 : decode cM_fill 15 = .ok (.ifCond .eq (24), 3) := by decide +kernel
theorem dM_fill_18 : decode cM_fill 18 = .ok (.iload_n 2, 1) := by decide +kernel
theorem dM_fill_19 : decode cM_fill 19 = .ok (.iconst 0, 1) := by decide +kernel
theorem dM_fill_20 : decode cM_fill 20 = .ok (.bipush (12), 2) := by decide +kernel
theorem dM_fill_22 : decode cM_fill 22 = .ok (.invokestatic 87, 3) := by decide +kernel
theorem dM_fill_25 : decode cM_fill 25 = .ok (.ifCond .eq (14), 3) := by decide +kernel
theorem dM_fill_28 : decode cM_fill 28 = .ok (.iload_n 3, 1) := by decide +kernel
theorem dM_fill_29 : decode cM_fill 29 = .ok (.iconst 0, 1) := by decide +kernel
theorem dM_fill_30 : decode cM_fill 30 = .ok (.sipush (4096), 3) := by decide +kernel
theorem dM_fill_33 : decode cM_fill 33 = .ok (.invokestatic 87, 3) := by decide +kernel
theorem dM_fill_36 : decode cM_fill 36 = .ok (.ifCond .ne (5), 3) := by decide +kernel
theorem dM_fill_39 : decode cM_fill 39 = .ok (.iconst (-1), 1) := by decide +kernel
theorem dM_fill_40 : decode cM_fill 40 = .ok (.ireturn, 1) := by decide +kernel
theorem dM_fill_41 : decode cM_fill 41 = .ok (.aload_n 0, 1) := by decide +kernel
theorem dM_fill_42 : decode cM_fill 42 = .ok (.getfield 53, 3) := by decide +kernel
theorem dM_fill_45 : decode cM_fill 45 = .ok (.aload_n 0, 1) := by decide +kernel
theorem dM_fill_46 : decode cM_fill 46 = .ok (.getfield 91, 3) := by decide +kernel
theorem dM_fill_49 : decode cM_fill 49 = .ok (.iload_n 2, 1) := by decide +kernel
theorem dM_fill_50 : decode cM_fill 50 = .ok (.iastore, 1) := by decide +kernel
theorem dM_fill_51 : decode cM_fill 51 = .ok (.aload_n 0, 1) := by decide +kernel
theorem dM_fill_52 : decode cM_fill 52 = .ok (.iload_n 1, 1) := by decide +kernel
theorem dM_fill_53 : decode cM_fill 53 = .ok (.iconst 4, 1) := by decide +kernel
theorem dM_fill_54 : decode cM_fill 54 = .ok (.iload_n 3, 1) := by decide +kernel
theorem dM_fill_55 : decode cM_fill 55 = .ok (.invokevirtual 158, 3) := by decide +kernel
theorem dM_fill_58 : decode cM_fill 58 = .ok (.ireturn, 1) := by decide +kernel
theorem dM_label_0 : decode cM_label 0 = .ok (.aload_n 0, 1) := by decide +kernel
theorem dM_label_1 : decode cM_label 1 = .ok (.getfield 94, 3) := by decide +kernel
theorem dM_label_4 : decode cM_label 4 = .ok (.bipush (64), 2) := by decide +kernel
theorem dM_label_6 : decode cM_label 6 = .ok (.if_icmp .ne (5), 3) := by decide +kernel
theorem dM_label_9 : decode cM_label 9 = .ok (.iconst (-1), 1) := by decide +kernel
theorem dM_label_10 : decode cM_label 10 = .ok (.ireturn, 1) := by decide +kernel
theorem dM_label_11 : decode cM_label 11 = .ok (.aload_n 0, 1) := by decide +kernel
theorem dM_label_12 : decode cM_label 12 = .ok (.getfield 77, 3) := by decide +kernel
theorem dM_label_15 : decode cM_label 15 = .ok (.aload_n 0, 1) := by decide +kernel
theorem dM_label_16 : decode cM_label 16 = .ok (.getfield 94, 3) := by decide +kernel
theorem dM_label_19 : decode cM_label 19 = .ok (.iconst (-1), 1) := by decide +kernel
theorem dM_label_20 : decode cM_label 20 = .ok (.iastore, 1) := by decide +kernel
theorem dM_label_21 : decode cM_label 21 = .ok (.aload_n 0, 1) := by decide +kernel
theorem dM_label_22 : decode cM_label 22 = .ok (.dup, 1) := by decide +kernel
theorem dM_label_23 : decode cM_label 23 = .ok (.getfield 94, 3) := by decide +kernel
theorem dM_label_26 : decode cM_label 26 = .ok (.iconst 1, 1) := by decide +kernel
theorem dM_label_27 : decode cM_label 27 = .ok (.iadd, 1) := by decide +kernel
theorem dM_label_28 : decode cM_label 28 = .ok (.putfield 94, 3) := by decide +kernel
theorem dM_label_31 : decode cM_label 31 = .ok (.aload_n 0, 1) := by decide +kernel
theorem dM_label_32 : decode cM_label 32 = .ok (.getfield 94, 3) := by decide +kernel
theorem dM_label_35 : decode cM_label 35 = .ok (.iconst 1, 1) := by decide +kernel
theorem dM_label_36 : decode cM_label 36 = .ok (.isub, 1) := by decide +kernel
theorem dM_label_37 : decode cM_label 37 = .ok (.ireturn, 1) := by decide +kernel
theorem dM_put_0 : decode cM_put 0 = .ok (.aload_n 0, 1) := by decide +kernel
theorem dM_put_1 : decode cM_put 1 = .ok (.iload_n 1, 1) := by decide +kernel
theorem dM_put_2 : decode cM_put 2 = .ok (.invokevirtual 107, 3) := by decide +kernel
theorem dM_put_5 : decode cM_put 5 = .ok (.ifCond .eq (38), 3) := by decide +kernel
theorem dM_put_8 : decode cM_put 8 = .ok (.aload_n 0, 1) := by decide +kernel
theorem dM_put_9 : decode cM_put 9 = .ok (.iload_n 2, 1) := by decide +kernel
theorem dM_put_10 : decode cM_put 10 = .ok (.invokevirtual 166, 3) := by decide +kernel
theorem dM_put_13 : decode cM_put 13 = .ok (.ifCond .eq (30), 3) := by decide +kernel
theorem dM_put_16 : decode cM_put 16 = .ok (.iload_n 3, 1) := by decide +kernel
theorem dM_put_17 : decode cM_put 17 = .ok (.iconst 0, 1) := by decide +kernel
theorem dM_put_18 : decode cM_put 18 = .ok (.aload_n 0, 1) := by decide +kernel
theorem dM_put_19 : decode cM_put 19 = .ok (.getfield 41, 3) := by decide +kernel
theorem dM_put_22 : decode cM_put 22 = .ok (.iload_n 2, 1) := by decide +kernel
theorem dM_put_23 : decode cM_put 23 = .ok (.iaload, 1) := by decide +kernel
theorem dM_put_24 : decode cM_put 24 = .ok (.ifCond .ne (12), 3) := by decide +kernel
theorem dM_put_27 : decode cM_put 27 = .ok (.aload_n 0, 1) := by decide +kernel
theorem dM_put_28 : decode cM_put 28 = .ok (.getfield 50, 3) := by decide +kernel
theorem dM_put_31 : decode cM_put 31 = .ok (.iload_n 2, 1) := by decide +kernel
theorem dM_put_32 : decode cM_put 32 = .ok (.iaload, 1) := by decide +kernel
theorem dM_put_33 : decode cM_put 33 = .ok (.goto (4), 3) := by decide +kernel
theorem dM_put_36 : decode cM_put 36 = .ok (.iconst 1, 1) := by decide +kernel
theorem dM_put_37 : decode cM_put 37 = .ok (.invokestatic 87, 3) := by decide +kernel
theorem dM_put_40 : decode cM_put 40 = .ok (.ifCond .ne (5), 3) := by decide +kernel
theorem dM_put_43 : decode cM_put 43 = .ok (.iconst 0, 1) := by decide +kernel
theorem dM_put_44 : decode cM_put 44 = .ok (.ireturn, 1) := by decide +kernel
theorem dM_put_45 : decode cM_put 45 = .ok (.aload_n 0, 1) := by decide +kernel
theorem dM_put_46 : decode cM_put 46 = .ok (.getfield 77, 3) := by decide +kernel
theorem dM_put_49 : decode cM_put 49 = .ok (.iload_n 1, 1) := by decide +kernel
theorem dM_put_50 : decode cM_put 50 = .ok (.iload_n 2, 1) := by decide +kernel
theorem dM_put_51 : decode cM_put 51 = .ok (.iastore, 1) := by decide +kernel
theorem dM_put_52 : decode cM_put 52 = .ok (.aload_n 0, 1) := by decide +kernel
theorem dM_put_53 : decode cM_put 53 = .ok (.getfield 80, 3) := by decide +kernel
theorem dM_put_56 : decode cM_put 56 = .ok (.iload_n 1, 1) := by decide +kernel
theorem dM_put_57 : decode cM_put 57 = .ok (.iload_n 3, 1) := by decide +kernel
theorem dM_put_58 : decode cM_put 58 = .ok (.iastore, 1) := by decide +kernel
theorem dM_put_59 : decode cM_put 59 = .ok (.iconst 1, 1) := by decide +kernel
theorem dM_put_60 : decode cM_put 60 = .ok (.ireturn, 1) := by decide +kernel
theorem dM_isPiece_0 : decode cM_isPiece 0 = .ok (.iload_n 1, 1) := by decide +kernel
theorem dM_isPiece_1 : decode cM_isPiece 1 = .ok (.iconst 0, 1) := by decide +kernel
theorem dM_isPiece_2 : decode cM_isPiece 2 = .ok (.aload_n 0, 1) := by decide +kernel
theorem dM_isPiece_3 : decode cM_isPiece 3 = .ok (.getfield 91, 3) := by decide +kernel
theorem dM_isPiece_6 : decode cM_isPiece 6 = .ok (.iconst 1, 1) := by decide +kernel
theorem dM_isPiece_7 : decode cM_isPiece 7 = .ok (.isub, 1) := by decide +kernel
theorem dM_isPiece_8 : decode cM_isPiece 8 = .ok (.invokestatic 87, 3) := by decide +kernel
theorem dM_isPiece_11 : decode cM_isPiece 11 = .ok (.ireturn, 1) := by decide +kernel
theorem dM_base_0 : decode cM_base 0 = .ok (.iload_n 1, 1) := by decide +kernel
theorem dM_base_1 : decode cM_base 1 = .ok (.iconst 0, 1) := by decide +kernel
theorem dM_base_2 : decode cM_base 2 = .ok (.ldc 169, 2) := by decide +kernel
theorem dM_base_4 : decode cM_base 4 = .ok (.invokestatic 87, 3) := by decide +kernel
theorem dM_base_7 : decode cM_base 7 = .ok (.ifCond .ne (5), 3) := by decide +kernel
theorem dM_base_10 : decode cM_base 10 = .ok (.iconst 0, 1) := by decide +kernel
theorem dM_base_11 : decode cM_base 11 = .ok (.ireturn, 1) := by decide +kernel
theorem dM_base_12 : decode cM_base 12 = .ok (.aload_n 0, 1) := by decide +kernel
theorem dM_base_13 : decode cM_base 13 = .ok (.iload_n 1, 1) := by decide +kernel
theorem dM_base_14 : decode cM_base 14 = .ok (.putfield 97, 3) := by decide +kernel
theorem dM_base_17 : decode cM_base 17 = .ok (.iconst 1, 1) := by decide +kernel
theorem dM_base_18 : decode cM_base 18 = .ok (.ireturn, 1) := by decide +kernel
theorem dM_align_0 : decode cM_align 0 = .ok (.iload_n 1, 1) := by decide +kernel
theorem dM_align_1 : decode cM_align 1 = .ok (.iconst 0, 1) := by decide +kernel
theorem dM_align_2 : decode cM_align 2 = .ok (.iconst 3, 1) := by decide +kernel
theorem dM_align_3 : decode cM_align 3 = .ok (.invokestatic 87, 3) := by decide +kernel
theorem dM_align_6 : decode cM_align 6 = .ok (.ifCond .eq (13), 3) := by decide +kernel
theorem dM_align_9 : decode cM_align 9 = .ok (.iload_n 2, 1) := by decide +kernel
theorem dM_align_10 : decode cM_align 10 = .ok (.iconst 0, 1) := by decide +kernel
theorem dM_align_11 : decode cM_align 11 = .ok (.bipush (12), 2) := by decide +kernel
theorem dM_align_13 : decode cM_align 13 = .ok (.invokestatic 87, 3) := by decide +kernel
theorem dM_align_16 : decode cM_align 16 = .ok (.ifCond .ne (5), 3) := by decide +kernel
theorem dM_align_19 : decode cM_align 19 = .ok (.iconst 0, 1) := by decide +kernel
theorem dM_align_20 : decode cM_align 20 = .ok (.ireturn, 1) := by decide +kernel
theorem dM_align_21 : decode cM_align 21 = .ok (.aload_n 0, 1) := by decide +kernel
theorem dM_align_22 : decode cM_align 22 = .ok (.getfield 7, 3) := by decide +kernel
theorem dM_align_25 : decode cM_align 25 = .ok (.iload_n 1, 1) := by decide +kernel
theorem dM_align_26 : decode cM_align 26 = .ok (.iconst 1, 1) := by decide +kernel
theorem dM_align_27 : decode cM_align 27 = .ok (.iload_n 2, 1) := by decide +kernel
theorem dM_align_28 : decode cM_align 28 = .ok (.ishl, 1) := by decide +kernel
theorem dM_align_29 : decode cM_align 29 = .ok (.iastore, 1) := by decide +kernel
theorem dM_align_30 : decode cM_align 30 = .ok (.iconst 1, 1) := by decide +kernel
theorem dM_align_31 : decode cM_align 31 = .ok (.ireturn, 1) := by decide +kernel
theorem dM_root_0 : decode cM_root 0 = .ok (.aload_n 0, 1) := by decide +kernel
theorem dM_root_1 : decode cM_root 1 = .ok (.iload_n 1, 1) := by decide +kernel
theorem dM_root_2 : decode cM_root 2 = .ok (.invokevirtual 154, 3) := by decide +kernel
theorem dM_root_5 : decode cM_root 5 = .ok (.ifCond .eq (13), 3) := by decide +kernel
theorem dM_root_8 : decode cM_root 8 = .ok (.aload_n 0, 1) := by decide +kernel
theorem dM_root_9 : decode cM_root 9 = .ok (.getfield 25, 3) := by decide +kernel
theorem dM_root_12 : decode cM_root 12 = .ok (.iload_n 1, 1) := by decide +kernel
theorem dM_root_13 : decode cM_root 13 = .ok (.baload, 1) := by decide +kernel
theorem dM_root_14 : decode cM_root 14 = .ok (.iload_n 2, 1) := by decide +kernel
theorem dM_root_15 : decode cM_root 15 = .ok (.if_icmp .ne (5), 3) := by decide +kernel
theorem dM_root_18 : decode cM_root 18 = .ok (.iconst 0, 1) := by decide +kernel
theorem dM_root_19 : decode cM_root 19 = .ok (.ireturn, 1) := by decide +kernel
theorem dM_root_20 : decode cM_root 20 = .ok (.aload_n 0, 1) := by decide +kernel
theorem dM_root_21 : decode cM_root 21 = .ok (.getfield 25, 3) := by decide +kernel
theorem dM_root_24 : decode cM_root 24 = .ok (.iload_n 1, 1) := by decide +kernel
theorem dM_root_25 : decode cM_root 25 = .ok (.iload_n 2, 1) := by decide +kernel
theorem dM_root_26 : decode cM_root 26 = .ok (.bastore, 1) := by decide +kernel
theorem dM_root_27 : decode cM_root 27 = .ok (.iconst 1, 1) := by decide +kernel
theorem dM_root_28 : decode cM_root 28 = .ok (.ireturn, 1) := by decide +kernel
theorem dM_sweep_0 : decode cM_sweep 0 = .ok (.iconst 0, 1) := by decide +kernel
theorem dM_sweep_1 : decode cM_sweep 1 = .ok (.istore_n 1, 1) := by decide +kernel
theorem dM_sweep_2 : decode cM_sweep 2 = .ok (.iload_n 1, 1) := by decide +kernel
theorem dM_sweep_3 : decode cM_sweep 3 = .ok (.aload_n 0, 1) := by decide +kernel
theorem dM_sweep_4 : decode cM_sweep 4 = .ok (.getfield 83, 3) := by decide +kernel
theorem dM_sweep_7 : decode cM_sweep 7 = .ok (.if_icmp .ge (21), 3) := by decide +kernel
theorem dM_sweep_10 : decode cM_sweep 10 = .ok (.aload_n 0, 1) := by decide +kernel
theorem dM_sweep_11 : decode cM_sweep 11 = .ok (.getfield 32, 3) := by decide +kernel
theorem dM_sweep_14 : decode cM_sweep 14 = .ok (.iload_n 1, 1) := by decide +kernel
theorem dM_sweep_15 : decode cM_sweep 15 = .ok (.aload_n 0, 1) := by decide +kernel
theorem dM_sweep_16 : decode cM_sweep 16 = .ok (.getfield 25, 3) := by decide +kernel
theorem dM_sweep_19 : decode cM_sweep 19 = .ok (.iload_n 1, 1) := by decide +kernel
theorem dM_sweep_20 : decode cM_sweep 20 = .ok (.baload, 1) := by decide +kernel
theorem dM_sweep_21 : decode cM_sweep 21 = .ok (.bastore, 1) := by decide +kernel
theorem dM_sweep_22 : decode cM_sweep 22 = .ok (.iinc 1 (1), 3) := by decide +kernel
theorem dM_sweep_25 : decode cM_sweep 25 = .ok (.goto (-23), 3) := by decide +kernel
theorem dM_sweep_28 : decode cM_sweep 28 = .ok (.iconst 0, 1) := by decide +kernel
theorem dM_sweep_29 : decode cM_sweep 29 = .ok (.istore_n 1, 1) := by decide +kernel
theorem dM_sweep_30 : decode cM_sweep 30 = .ok (.iload_n 1, 1) := by decide +kernel
theorem dM_sweep_31 : decode cM_sweep 31 = .ok (.aload_n 0, 1) := by decide +kernel
theorem dM_sweep_32 : decode cM_sweep 32 = .ok (.getfield 83, 3) := by decide +kernel
theorem dM_sweep_35 : decode cM_sweep 35 = .ok (.if_icmp .ge (94), 3) := by decide +kernel
theorem dM_sweep_38 : decode cM_sweep 38 = .ok (.iconst 0, 1) := by decide +kernel
theorem dM_sweep_39 : decode cM_sweep 39 = .ok (.istore_n 2, 1) := by decide +kernel
theorem dM_sweep_40 : decode cM_sweep 40 = .ok (.iload_n 2, 1) := by decide +kernel
theorem dM_sweep_41 : decode cM_sweep 41 = .ok (.aload_n 0, 1) := by decide +kernel
theorem dM_sweep_42 : decode cM_sweep 42 = .ok (.getfield 91, 3) := by decide +kernel
theorem dM_sweep_45 : decode cM_sweep 45 = .ok (.if_icmp .ge (78), 3) := by decide +kernel
theorem dM_sweep_48 : decode cM_sweep 48 = .ok (.aload_n 0, 1) := by decide +kernel
theorem dM_sweep_49 : decode cM_sweep 49 = .ok (.iload_n 2, 1) := by decide +kernel
theorem dM_sweep_50 : decode cM_sweep 50 = .ok (.invokevirtual 114, 3) := by decide +kernel
theorem dM_sweep_53 : decode cM_sweep 53 = .ok (.ifCond .eq (36), 3) := by decide +kernel
theorem dM_sweep_56 : decode cM_sweep 56 = .ok (.aload_n 0, 1) := by decide +kernel
theorem dM_sweep_57 : decode cM_sweep 57 = .ok (.getfield 32, 3) := by decide +kernel
theorem dM_sweep_60 : decode cM_sweep 60 = .ok (.aload_n 0, 1) := by decide +kernel
theorem dM_sweep_61 : decode cM_sweep 61 = .ok (.getfield 44, 3) := by decide +kernel
theorem dM_sweep_64 : decode cM_sweep 64 = .ok (.iload_n 2, 1) := by decide +kernel
theorem dM_sweep_65 : decode cM_sweep 65 = .ok (.iaload, 1) := by decide +kernel
theorem dM_sweep_66 : decode cM_sweep 66 = .ok (.baload, 1) := by decide +kernel
theorem dM_sweep_67 : decode cM_sweep 67 = .ok (.ifCond .eq (22), 3) := by decide +kernel
theorem dM_sweep_70 : decode cM_sweep 70 = .ok (.aload_n 0, 1) := by decide +kernel
theorem dM_sweep_71 : decode cM_sweep 71 = .ok (.getfield 77, 3) := by decide +kernel
theorem dM_sweep_74 : decode cM_sweep 74 = .ok (.aload_n 0, 1) := by decide +kernel
theorem dM_sweep_75 : decode cM_sweep 75 = .ok (.getfield 56, 3) := by decide +kernel
theorem dM_sweep_78 : decode cM_sweep 78 = .ok (.iload_n 2, 1) := by decide +kernel
theorem dM_sweep_79 : decode cM_sweep 79 = .ok (.iaload, 1) := by decide +kernel
theorem dM_sweep_80 : decode cM_sweep 80 = .ok (.iaload, 1) := by decide +kernel
theorem dM_sweep_81 : decode cM_sweep 81 = .ok (.iconst (-1), 1) := by decide +kernel
theorem dM_sweep_82 : decode cM_sweep 82 = .ok (.if_icmp .eq (7), 3) := by decide +kernel
theorem dM_sweep_85 : decode cM_sweep 85 = .ok (.iconst 1, 1) := by decide +kernel
theorem dM_sweep_86 : decode cM_sweep 86 = .ok (.goto (4), 3) := by decide +kernel
theorem dM_sweep_89 : decode cM_sweep 89 = .ok (.iconst 0, 1) := by decide +kernel
theorem dM_sweep_90 : decode cM_sweep 90 = .ok (.istore_n 3, 1) := by decide +kernel
theorem dM_sweep_91 : decode cM_sweep 91 = .ok (.iload_n 3, 1) := by decide +kernel
theorem dM_sweep_92 : decode cM_sweep 92 = .ok (.ifCond .eq (25), 3) := by decide +kernel
theorem dM_sweep_95 : decode cM_sweep 95 = .ok (.aload_n 0, 1) := by decide +kernel
theorem dM_sweep_96 : decode cM_sweep 96 = .ok (.getfield 32, 3) := by decide +kernel
theorem dM_sweep_99 : decode cM_sweep 99 = .ok (.aload_n 0, 1) := by decide +kernel
theorem dM_sweep_100 : decode cM_sweep 100 = .ok (.getfield 44, 3) := by decide +kernel
theorem dM_sweep_103 : decode cM_sweep 103 = .ok (.aload_n 0, 1) := by decide +kernel
theorem dM_sweep_104 : decode cM_sweep 104 = .ok (.getfield 77, 3) := by decide +kernel
theorem dM_sweep_107 : decode cM_sweep 107 = .ok (.aload_n 0, 1) := by decide +kernel
theorem dM_sweep_108 : decode cM_sweep 108 = .ok (.getfield 56, 3) := by decide +kernel
theorem dM_sweep_111 : decode cM_sweep 111 = .ok (.iload_n 2, 1) := by decide +kernel
theorem dM_sweep_112 : decode cM_sweep 112 = .ok (.iaload, 1) := by decide +kernel
theorem dM_sweep_113 : decode cM_sweep 113 = .ok (.iaload, 1) := by decide +kernel
theorem dM_sweep_114 : decode cM_sweep 114 = .ok (.iaload, 1) := by decide +kernel
theorem dM_sweep_115 : decode cM_sweep 115 = .ok (.iconst 1, 1) := by decide +kernel
theorem dM_sweep_116 : decode cM_sweep 116 = .ok (.bastore, 1) := by decide +kernel
theorem dM_sweep_117 : decode cM_sweep 117 = .ok (.iinc 2 (1), 3) := by decide +kernel
theorem dM_sweep_120 : decode cM_sweep 120 = .ok (.goto (-80), 3) := by decide +kernel
theorem dM_sweep_123 : decode cM_sweep 123 = .ok (.iinc 1 (1), 3) := by decide +kernel
theorem dM_sweep_126 : decode cM_sweep 126 = .ok (.goto (-96), 3) := by decide +kernel
theorem dM_sweep_129 : decode cM_sweep 129 = .ok (.iconst 0, 1) := by decide +kernel
theorem dM_sweep_130 : decode cM_sweep 130 = .ok (.istore_n 1, 1) := by decide +kernel
theorem dM_sweep_131 : decode cM_sweep 131 = .ok (.iconst 0, 1) := by decide +kernel
theorem dM_sweep_132 : decode cM_sweep 132 = .ok (.istore_n 2, 1) := by decide +kernel
theorem dM_sweep_133 : decode cM_sweep 133 = .ok (.iload_n 2, 1) := by decide +kernel
theorem dM_sweep_134 : decode cM_sweep 134 = .ok (.aload_n 0, 1) := by decide +kernel
theorem dM_sweep_135 : decode cM_sweep 135 = .ok (.getfield 83, 3) := by decide +kernel
theorem dM_sweep_138 : decode cM_sweep 138 = .ok (.if_icmp .ge (46), 3) := by decide +kernel
theorem dM_sweep_141 : decode cM_sweep 141 = .ok (.aload_n 0, 1) := by decide +kernel
theorem dM_sweep_142 : decode cM_sweep 142 = .ok (.getfield 29, 3) := by decide +kernel
theorem dM_sweep_145 : decode cM_sweep 145 = .ok (.iload_n 2, 1) := by decide +kernel
theorem dM_sweep_146 : decode cM_sweep 146 = .ok (.aload_n 0, 1) := by decide +kernel
theorem dM_sweep_147 : decode cM_sweep 147 = .ok (.getfield 32, 3) := by decide +kernel
theorem dM_sweep_150 : decode cM_sweep 150 = .ok (.iload_n 2, 1) := by decide +kernel
theorem dM_sweep_151 : decode cM_sweep 151 = .ok (.baload, 1) := by decide +kernel
theorem dM_sweep_152 : decode cM_sweep 152 = .ok (.ifCond .ne (7), 3) := by decide +kernel
theorem dM_sweep_155 : decode cM_sweep 155 = .ok (.iconst 1, 1) := by decide +kernel
theorem dM_sweep_156 : decode cM_sweep 156 = .ok (.goto (4), 3) := by decide +kernel
theorem dM_sweep_159 : decode cM_sweep 159 = .ok (.iconst 0, 1) := by decide +kernel
theorem dM_sweep_160 : decode cM_sweep 160 = .ok (.bastore, 1) := by decide +kernel
theorem dM_sweep_161 : decode cM_sweep 161 = .ok (.iload_n 1, 1) := by decide +kernel
theorem dM_sweep_162 : decode cM_sweep 162 = .ok (.aload_n 0, 1) := by decide +kernel
theorem dM_sweep_163 : decode cM_sweep 163 = .ok (.getfield 32, 3) := by decide +kernel
theorem dM_sweep_166 : decode cM_sweep 166 = .ok (.iload_n 2, 1) := by decide +kernel
theorem dM_sweep_167 : decode cM_sweep 167 = .ok (.baload, 1) := by decide +kernel
theorem dM_sweep_168 : decode cM_sweep 168 = .ok (.ifCond .eq (7), 3) := by decide +kernel
theorem dM_sweep_171 : decode cM_sweep 171 = .ok (.iconst 0, 1) := by decide +kernel
theorem dM_sweep_172 : decode cM_sweep 172 = .ok (.goto (4), 3) := by decide +kernel
theorem dM_sweep_175 : decode cM_sweep 175 = .ok (.iconst 1, 1) := by decide +kernel
theorem dM_sweep_176 : decode cM_sweep 176 = .ok (.iadd, 1) := by decide +kernel
theorem dM_sweep_177 : decode cM_sweep 177 = .ok (.istore_n 1, 1) := by decide +kernel
theorem dM_sweep_178 : decode cM_sweep 178 = .ok (.iinc 2 (1), 3) := by decide +kernel
theorem dM_sweep_181 : decode cM_sweep 181 = .ok (.goto (-48), 3) := by decide +kernel
theorem dM_sweep_184 : decode cM_sweep 184 = .ok (.iload_n 1, 1) := by decide +kernel
theorem dM_sweep_185 : decode cM_sweep 185 = .ok (.ireturn, 1) := by decide +kernel
theorem dM_shrinks_0 : decode cM_shrinks 0 = .ok (.aload_n 0, 1) := by decide +kernel
theorem dM_shrinks_1 : decode cM_shrinks 1 = .ok (.getfield 41, 3) := by decide +kernel
theorem dM_shrinks_4 : decode cM_shrinks 4 = .ok (.iload_n 1, 1) := by decide +kernel
theorem dM_shrinks_5 : decode cM_shrinks 5 = .ok (.iaload, 1) := by decide +kernel
theorem dM_shrinks_6 : decode cM_shrinks 6 = .ok (.iconst 1, 1) := by decide +kernel
theorem dM_shrinks_7 : decode cM_shrinks 7 = .ok (.if_icmp .lt (17), 3) := by decide +kernel
theorem dM_shrinks_10 : decode cM_shrinks 10 = .ok (.aload_n 0, 1) := by decide +kernel
theorem dM_shrinks_11 : decode cM_shrinks 11 = .ok (.getfield 41, 3) := by decide +kernel
theorem dM_shrinks_14 : decode cM_shrinks 14 = .ok (.iload_n 1, 1) := by decide +kernel
theorem dM_shrinks_15 : decode cM_shrinks 15 = .ok (.iaload, 1) := by decide +kernel
theorem dM_shrinks_16 : decode cM_shrinks 16 = .ok (.iconst 4, 1) := by decide +kernel
theorem dM_shrinks_17 : decode cM_shrinks 17 = .ok (.if_icmp .ge (7), 3) := by decide +kernel
theorem dM_shrinks_20 : decode cM_shrinks 20 = .ok (.iconst 1, 1) := by decide +kernel
theorem dM_shrinks_21 : decode cM_shrinks 21 = .ok (.goto (4), 3) := by decide +kernel
theorem dM_shrinks_24 : decode cM_shrinks 24 = .ok (.iconst 0, 1) := by decide +kernel
theorem dM_shrinks_25 : decode cM_shrinks 25 = .ok (.ireturn, 1) := by decide +kernel
theorem dM_back_0 : decode cM_back 0 = .ok (.iconst 0, 1) := by decide +kernel
theorem dM_back_1 : decode cM_back 1 = .ok (.istore_n 1, 1) := by decide +kernel
theorem dM_back_2 : decode cM_back 2 = .ok (.iload_n 1, 1) := by decide +kernel
theorem dM_back_3 : decode cM_back 3 = .ok (.aload_n 0, 1) := by decide +kernel
theorem dM_back_4 : decode cM_back 4 = .ok (.getfield 83, 3) := by decide +kernel
theorem dM_back_7 : decode cM_back 7 = .ok (.if_icmp .ge (16), 3) := by decide +kernel
theorem dM_back_10 : decode cM_back 10 = .ok (.aload_n 0, 1) := by decide +kernel
theorem dM_back_11 : decode cM_back 11 = .ok (.getfield 29, 3) := by decide +kernel
theorem dM_back_14 : decode cM_back 14 = .ok (.iload_n 1, 1) := by decide +kernel
theorem dM_back_15 : decode cM_back 15 = .ok (.iconst 0, 1) := by decide +kernel
theorem dM_back_16 : decode cM_back 16 = .ok (.bastore, 1) := by decide +kernel
theorem dM_back_17 : decode cM_back 17 = .ok (.iinc 1 (1), 3) := by decide +kernel
theorem dM_back_20 : decode cM_back 20 = .ok (.goto (-18), 3) := by decide +kernel
theorem dM_back_23 : decode cM_back 23 = .ok (.return_, 1) := by decide +kernel
end
section
theorem dM_pass_0 : decode cM_pass 0 = .ok (.aload_n 0, 1) := by decide +kernel
theorem dM_pass_1 : decode cM_pass 1 = .ok (.invokevirtual 170, 3) := by decide +kernel
theorem dM_pass_4 : decode cM_pass 4 = .ok (.iconst 0, 1) := by decide +kernel
theorem dM_pass_5 : decode cM_pass 5 = .ok (.istore_n 1, 1) := by decide +kernel
theorem dM_pass_6 : decode cM_pass 6 = .ok (.iload_n 1, 1) := by decide +kernel
theorem dM_pass_7 : decode cM_pass 7 = .ok (.aload_n 0, 1) := by decide +kernel
theorem dM_pass_8 : decode cM_pass 8 = .ok (.getfield 91, 3) := by decide +kernel
theorem dM_pass_11 : decode cM_pass 11 = .ok (.if_icmp .ge (20), 3) := by decide +kernel
theorem dM_pass_14 : decode cM_pass 14 = .ok (.aload_n 0, 1) := by decide +kernel
theorem dM_pass_15 : decode cM_pass 15 = .ok (.getfield 74, 3) := by decide +kernel
theorem dM_pass_18 : decode cM_pass 18 = .ok (.iload_n 1, 1) := by decide +kernel
theorem dM_pass_19 : decode cM_pass 19 = .ok (.aload_n 0, 1) := by decide +kernel
theorem dM_pass_20 : decode cM_pass 20 = .ok (.iload_n 1, 1) := by decide +kernel
theorem dM_pass_21 : decode cM_pass 21 = .ok (.invokevirtual 173, 3) := by decide +kernel
theorem dM_pass_24 : decode cM_pass 24 = .ok (.iastore, 1) := by decide +kernel
theorem dM_pass_25 : decode cM_pass 25 = .ok (.iinc 1 (1), 3) := by decide +kernel
theorem dM_pass_28 : decode cM_pass 28 = .ok (.goto (-22), 3) := by decide +kernel
theorem dM_pass_31 : decode cM_pass 31 = .ok (.iconst 0, 1) := by decide +kernel
theorem dM_pass_32 : decode cM_pass 32 = .ok (.istore_n 1, 1) := by decide +kernel
theorem dM_pass_33 : decode cM_pass 33 = .ok (.iconst 0, 1) := by decide +kernel
theorem dM_pass_34 : decode cM_pass 34 = .ok (.istore_n 2, 1) := by decide +kernel
theorem dM_pass_35 : decode cM_pass 35 = .ok (.iload_n 2, 1) := by decide +kernel
theorem dM_pass_36 : decode cM_pass 36 = .ok (.aload_n 0, 1) := by decide +kernel
theorem dM_pass_37 : decode cM_pass 37 = .ok (.getfield 91, 3) := by decide +kernel
theorem dM_pass_40 : decode cM_pass 40 = .ok (.if_icmp .ge (67), 3) := by decide +kernel
theorem dM_pass_43 : decode cM_pass 43 = .ok (.aload_n 0, 1) := by decide +kernel
theorem dM_pass_44 : decode cM_pass 44 = .ok (.iload_n 2, 1) := by decide +kernel
theorem dM_pass_45 : decode cM_pass 45 = .ok (.invokevirtual 114, 3) := by decide +kernel
theorem dM_pass_48 : decode cM_pass 48 = .ok (.ifCond .eq (53), 3) := by decide +kernel
theorem dM_pass_51 : decode cM_pass 51 = .ok (.aload_n 0, 1) := by decide +kernel
theorem dM_pass_52 : decode cM_pass 52 = .ok (.iload_n 2, 1) := by decide +kernel
theorem dM_pass_53 : decode cM_pass 53 = .ok (.invokevirtual 111, 3) := by decide +kernel
theorem dM_pass_56 : decode cM_pass 56 = .ok (.ifCond .ne (45), 3) := by decide +kernel
theorem dM_pass_59 : decode cM_pass 59 = .ok (.aload_n 0, 1) := by decide +kernel
theorem dM_pass_60 : decode cM_pass 60 = .ok (.getfield 65, 3) := by decide +kernel
theorem dM_pass_63 : decode cM_pass 63 = .ok (.iload_n 2, 1) := by decide +kernel
theorem dM_pass_64 : decode cM_pass 64 = .ok (.baload, 1) := by decide +kernel
theorem dM_pass_65 : decode cM_pass 65 = .ok (.ifCond .ne (36), 3) := by decide +kernel
theorem dM_pass_68 : decode cM_pass 68 = .ok (.aload_n 0, 1) := by decide +kernel
theorem dM_pass_69 : decode cM_pass 69 = .ok (.getfield 74, 3) := by decide +kernel
theorem dM_pass_72 : decode cM_pass 72 = .ok (.iload_n 2, 1) := by decide +kernel
theorem dM_pass_73 : decode cM_pass 73 = .ok (.iaload, 1) := by decide +kernel
theorem dM_pass_74 : decode cM_pass 74 = .ok (.aload_n 0, 1) := by decide +kernel
theorem dM_pass_75 : decode cM_pass 75 = .ok (.getfield 47, 3) := by decide +kernel
theorem dM_pass_78 : decode cM_pass 78 = .ok (.iload_n 2, 1) := by decide +kernel
theorem dM_pass_79 : decode cM_pass 79 = .ok (.iaload, 1) := by decide +kernel
theorem dM_pass_80 : decode cM_pass 80 = .ok (.if_icmp .lt (6), 3) := by decide +kernel
theorem dM_pass_83 : decode cM_pass 83 = .ok (.goto (18), 3) := by decide +kernel
theorem dM_pass_86 : decode cM_pass 86 = .ok (.aload_n 0, 1) := by decide +kernel
theorem dM_pass_87 : decode cM_pass 87 = .ok (.getfield 47, 3) := by decide +kernel
theorem dM_pass_90 : decode cM_pass 90 = .ok (.iload_n 2, 1) := by decide +kernel
theorem dM_pass_91 : decode cM_pass 91 = .ok (.aload_n 0, 1) := by decide +kernel
theorem dM_pass_92 : decode cM_pass 92 = .ok (.getfield 74, 3) := by decide +kernel
theorem dM_pass_95 : decode cM_pass 95 = .ok (.iload_n 2, 1) := by decide +kernel
theorem dM_pass_96 : decode cM_pass 96 = .ok (.iaload, 1) := by decide +kernel
theorem dM_pass_97 : decode cM_pass 97 = .ok (.iastore, 1) := by decide +kernel
theorem dM_pass_98 : decode cM_pass 98 = .ok (.iinc 1 (1), 3) := by decide +kernel
theorem dM_pass_101 : decode cM_pass 101 = .ok (.iinc 2 (1), 3) := by decide +kernel
theorem dM_pass_104 : decode cM_pass 104 = .ok (.goto (-69), 3) := by decide +kernel
theorem dM_pass_107 : decode cM_pass 107 = .ok (.iload_n 1, 1) := by decide +kernel
theorem dM_pass_108 : decode cM_pass 108 = .ok (.ireturn, 1) := by decide +kernel
theorem dM_reckon_0 : decode cM_reckon 0 = .ok (.aload_n 0, 1) := by decide +kernel
theorem dM_reckon_1 : decode cM_reckon 1 = .ok (.getfield 97, 3) := by decide +kernel
theorem dM_reckon_4 : decode cM_reckon 4 = .ok (.istore_n 1, 1) := by decide +kernel
theorem dM_reckon_5 : decode cM_reckon 5 = .ok (.iconst 0, 1) := by decide +kernel
theorem dM_reckon_6 : decode cM_reckon 6 = .ok (.istore_n 2, 1) := by decide +kernel
theorem dM_reckon_7 : decode cM_reckon 7 = .ok (.iload_n 2, 1) := by decide +kernel
theorem dM_reckon_8 : decode cM_reckon 8 = .ok (.iconst 4, 1) := by decide +kernel
theorem dM_reckon_9 : decode cM_reckon 9 = .ok (.if_icmp .ge (85), 3) := by decide +kernel
theorem dM_reckon_12 : decode cM_reckon 12 = .ok (.iload_n 1, 1) := by decide +kernel
theorem dM_reckon_13 : decode cM_reckon 13 = .ok (.aload_n 0, 1) := by decide +kernel
theorem dM_reckon_14 : decode cM_reckon 14 = .ok (.getfield 7, 3) := by decide +kernel
theorem dM_reckon_17 : decode cM_reckon 17 = .ok (.iload_n 2, 1) := by decide +kernel
theorem dM_reckon_18 : decode cM_reckon 18 = .ok (.iaload, 1) := by decide +kernel
theorem dM_reckon_19 : decode cM_reckon 19 = .ok (.invokestatic 100, 3) := by decide +kernel
theorem dM_reckon_22 : decode cM_reckon 22 = .ok (.istore_n 1, 1) := by decide +kernel
theorem dM_reckon_23 : decode cM_reckon 23 = .ok (.aload_n 0, 1) := by decide +kernel
theorem dM_reckon_24 : decode cM_reckon 24 = .ok (.getfield 13, 3) := by decide +kernel
theorem dM_reckon_27 : decode cM_reckon 27 = .ok (.iload_n 2, 1) := by decide +kernel
theorem dM_reckon_28 : decode cM_reckon 28 = .ok (.iload_n 1, 1) := by decide +kernel
theorem dM_reckon_29 : decode cM_reckon 29 = .ok (.iastore, 1) := by decide +kernel
theorem dM_reckon_30 : decode cM_reckon 30 = .ok (.iconst 0, 1) := by decide +kernel
theorem dM_reckon_31 : decode cM_reckon 31 = .ok (.istore_n 3, 1) := by decide +kernel
theorem dM_reckon_32 : decode cM_reckon 32 = .ok (.iload_n 3, 1) := by decide +kernel
theorem dM_reckon_33 : decode cM_reckon 33 = .ok (.aload_n 0, 1) := by decide +kernel
theorem dM_reckon_34 : decode cM_reckon 34 = .ok (.getfield 83, 3) := by decide +kernel
theorem dM_reckon_37 : decode cM_reckon 37 = .ok (.if_icmp .ge (44), 3) := by decide +kernel
theorem dM_reckon_40 : decode cM_reckon 40 = .ok (.aload_n 0, 1) := by decide +kernel
theorem dM_reckon_41 : decode cM_reckon 41 = .ok (.getfield 19, 3) := by decide +kernel
theorem dM_reckon_44 : decode cM_reckon 44 = .ok (.iload_n 3, 1) := by decide +kernel
theorem dM_reckon_45 : decode cM_reckon 45 = .ok (.iaload, 1) := by decide +kernel
theorem dM_reckon_46 : decode cM_reckon 46 = .ok (.iload_n 2, 1) := by decide +kernel
theorem dM_reckon_47 : decode cM_reckon 47 = .ok (.if_icmp .ne (28), 3) := by decide +kernel
theorem dM_reckon_50 : decode cM_reckon 50 = .ok (.aload_n 0, 1) := by decide +kernel
theorem dM_reckon_51 : decode cM_reckon 51 = .ok (.getfield 29, 3) := by decide +kernel
theorem dM_reckon_54 : decode cM_reckon 54 = .ok (.iload_n 3, 1) := by decide +kernel
theorem dM_reckon_55 : decode cM_reckon 55 = .ok (.baload, 1) := by decide +kernel
theorem dM_reckon_56 : decode cM_reckon 56 = .ok (.ifCond .ne (19), 3) := by decide +kernel
theorem dM_reckon_59 : decode cM_reckon 59 = .ok (.aload_n 0, 1) := by decide +kernel
theorem dM_reckon_60 : decode cM_reckon 60 = .ok (.iload_n 3, 1) := by decide +kernel
theorem dM_reckon_61 : decode cM_reckon 61 = .ok (.iload_n 1, 1) := by decide +kernel
theorem dM_reckon_62 : decode cM_reckon 62 = .ok (.aload_n 0, 1) := by decide +kernel
theorem dM_reckon_63 : decode cM_reckon 63 = .ok (.getfield 22, 3) := by decide +kernel
theorem dM_reckon_66 : decode cM_reckon 66 = .ok (.iload_n 3, 1) := by decide +kernel
theorem dM_reckon_67 : decode cM_reckon 67 = .ok (.iaload, 1) := by decide +kernel
theorem dM_reckon_68 : decode cM_reckon 68 = .ok (.invokestatic 100, 3) := by decide +kernel
theorem dM_reckon_71 : decode cM_reckon 71 = .ok (.invokevirtual 104, 3) := by decide +kernel
theorem dM_reckon_74 : decode cM_reckon 74 = .ok (.istore_n 1, 1) := by decide +kernel
theorem dM_reckon_75 : decode cM_reckon 75 = .ok (.iinc 3 (1), 3) := by decide +kernel
theorem dM_reckon_78 : decode cM_reckon 78 = .ok (.goto (-46), 3) := by decide +kernel
theorem dM_reckon_81 : decode cM_reckon 81 = .ok (.aload_n 0, 1) := by decide +kernel
theorem dM_reckon_82 : decode cM_reckon 82 = .ok (.getfield 16, 3) := by decide +kernel
theorem dM_reckon_85 : decode cM_reckon 85 = .ok (.iload_n 2, 1) := by decide +kernel
theorem dM_reckon_86 : decode cM_reckon 86 = .ok (.iload_n 1, 1) := by decide +kernel
theorem dM_reckon_87 : decode cM_reckon 87 = .ok (.iastore, 1) := by decide +kernel
theorem dM_reckon_88 : decode cM_reckon 88 = .ok (.iinc 2 (1), 3) := by decide +kernel
theorem dM_reckon_91 : decode cM_reckon 91 = .ok (.goto (-84), 3) := by decide +kernel
theorem dM_reckon_94 : decode cM_reckon 94 = .ok (.return_, 1) := by decide +kernel
theorem dM_roundUp_0 : decode cM_roundUp 0 = .ok (.iload_n 0, 1) := by decide +kernel
theorem dM_roundUp_1 : decode cM_roundUp 1 = .ok (.iload_n 1, 1) := by decide +kernel
theorem dM_roundUp_2 : decode cM_roundUp 2 = .ok (.iadd, 1) := by decide +kernel
theorem dM_roundUp_3 : decode cM_roundUp 3 = .ok (.iconst 1, 1) := by decide +kernel
theorem dM_roundUp_4 : decode cM_roundUp 4 = .ok (.isub, 1) := by decide +kernel
theorem dM_roundUp_5 : decode cM_roundUp 5 = .ok (.iload_n 1, 1) := by decide +kernel
theorem dM_roundUp_6 : decode cM_roundUp 6 = .ok (.idiv, 1) := by decide +kernel
theorem dM_roundUp_7 : decode cM_roundUp 7 = .ok (.iload_n 1, 1) := by decide +kernel
theorem dM_roundUp_8 : decode cM_roundUp 8 = .ok (.imul, 1) := by decide +kernel
theorem dM_roundUp_9 : decode cM_roundUp 9 = .ok (.ireturn, 1) := by decide +kernel
theorem dM_lay_0 : decode cM_lay 0 = .ok (.iload_n 2, 1) := by decide +kernel
theorem dM_lay_1 : decode cM_lay 1 = .ok (.istore_n 3, 1) := by decide +kernel
theorem dM_lay_2 : decode cM_lay 2 = .ok (.aload_n 0, 1) := by decide +kernel
theorem dM_lay_3 : decode cM_lay 3 = .ok (.getfield 35, 3) := by decide +kernel
theorem dM_lay_6 : decode cM_lay 6 = .ok (.iload_n 1, 1) := by decide +kernel
theorem dM_lay_7 : decode cM_lay 7 = .ok (.iload_n 3, 1) := by decide +kernel
theorem dM_lay_8 : decode cM_lay 8 = .ok (.iastore, 1) := by decide +kernel
theorem dM_lay_9 : decode cM_lay 9 = .ok (.iconst 0, 1) := by decide +kernel
theorem dM_lay_10 : decode cM_lay 10 = .ok (.istore 4, 2) := by decide +kernel
theorem dM_lay_12 : decode cM_lay 12 = .ok (.iload 4, 2) := by decide +kernel
theorem dM_lay_14 : decode cM_lay 14 = .ok (.aload_n 0, 1) := by decide +kernel
theorem dM_lay_15 : decode cM_lay 15 = .ok (.getfield 91, 3) := by decide +kernel
theorem dM_lay_18 : decode cM_lay 18 = .ok (.if_icmp .ge (121), 3) := by decide +kernel
theorem dM_lay_21 : decode cM_lay 21 = .ok (.aload_n 0, 1) := by decide +kernel
theorem dM_lay_22 : decode cM_lay 22 = .ok (.getfield 44, 3) := by decide +kernel
theorem dM_lay_25 : decode cM_lay 25 = .ok (.iload 4, 2) := by decide +kernel
theorem dM_lay_27 : decode cM_lay 27 = .ok (.iaload, 1) := by decide +kernel
theorem dM_lay_28 : decode cM_lay 28 = .ok (.iload_n 1, 1) := by decide +kernel
theorem dM_lay_29 : decode cM_lay 29 = .ok (.if_icmp .eq (6), 3) := by decide +kernel
theorem dM_lay_32 : decode cM_lay 32 = .ok (.goto (101), 3) := by decide +kernel
theorem dM_lay_35 : decode cM_lay 35 = .ok (.aload_n 0, 1) := by decide +kernel
theorem dM_lay_36 : decode cM_lay 36 = .ok (.getfield 68, 3) := by decide +kernel
theorem dM_lay_39 : decode cM_lay 39 = .ok (.iload 4, 2) := by decide +kernel
theorem dM_lay_41 : decode cM_lay 41 = .ok (.iload_n 3, 1) := by decide +kernel
theorem dM_lay_42 : decode cM_lay 42 = .ok (.iastore, 1) := by decide +kernel
theorem dM_lay_43 : decode cM_lay 43 = .ok (.aload_n 0, 1) := by decide +kernel
theorem dM_lay_44 : decode cM_lay 44 = .ok (.getfield 41, 3) := by decide +kernel
theorem dM_lay_47 : decode cM_lay 47 = .ok (.iload 4, 2) := by decide +kernel
theorem dM_lay_49 : decode cM_lay 49 = .ok (.iaload, 1) := by decide +kernel
theorem dM_lay_50 : decode cM_lay 50 = .ok (.iconst 4, 1) := by decide +kernel
theorem dM_lay_51 : decode cM_lay 51 = .ok (.if_icmp .ne (72), 3) := by decide +kernel
theorem dM_lay_54 : decode cM_lay 54 = .ok (.iconst 1, 1) := by decide +kernel
theorem dM_lay_55 : decode cM_lay 55 = .ok (.aload_n 0, 1) := by decide +kernel
theorem dM_lay_56 : decode cM_lay 56 = .ok (.getfield 53, 3) := by decide +kernel
theorem dM_lay_59 : decode cM_lay 59 = .ok (.iload 4, 2) := by decide +kernel
theorem dM_lay_61 : decode cM_lay 61 = .ok (.iaload, 1) := by decide +kernel
theorem dM_lay_62 : decode cM_lay 62 = .ok (.ishl, 1) := by decide +kernel
theorem dM_lay_63 : decode cM_lay 63 = .ok (.istore 5, 2) := by decide +kernel
theorem dM_lay_65 : decode cM_lay 65 = .ok (.aload_n 0, 1) := by decide +kernel
theorem dM_lay_66 : decode cM_lay 66 = .ok (.getfield 71, 3) := by decide +kernel
theorem dM_lay_69 : decode cM_lay 69 = .ok (.iload 4, 2) := by decide +kernel
theorem dM_lay_71 : decode cM_lay 71 = .ok (.iload 5, 2) := by decide +kernel
theorem dM_lay_73 : decode cM_lay 73 = .ok (.iload_n 3, 1) := by decide +kernel
theorem dM_lay_74 : decode cM_lay 74 = .ok (.iload 5, 2) := by decide +kernel
theorem dM_lay_76 : decode cM_lay 76 = .ok (.irem, 1) := by decide +kernel
theorem dM_lay_77 : decode cM_lay 77 = .ok (.isub, 1) := by decide +kernel
theorem dM_lay_78 : decode cM_lay 78 = .ok (.iload 5, 2) := by decide +kernel
theorem dM_lay_80 : decode cM_lay 80 = .ok (.irem, 1) := by decide +kernel
theorem dM_lay_81 : decode cM_lay 81 = .ok (.iastore, 1) := by decide +kernel
theorem dM_lay_82 : decode cM_lay 82 = .ok (.aload_n 0, 1) := by decide +kernel
theorem dM_lay_83 : decode cM_lay 83 = .ok (.getfield 47, 3) := by decide +kernel
theorem dM_lay_86 : decode cM_lay 86 = .ok (.iload 4, 2) := by decide +kernel
theorem dM_lay_88 : decode cM_lay 88 = .ok (.aload_n 0, 1) := by decide +kernel
theorem dM_lay_89 : decode cM_lay 89 = .ok (.getfield 71, 3) := by decide +kernel
theorem dM_lay_92 : decode cM_lay 92 = .ok (.iload 4, 2) := by decide +kernel
theorem dM_lay_94 : decode cM_lay 94 = .ok (.iaload, 1) := by decide +kernel
theorem dM_lay_95 : decode cM_lay 95 = .ok (.aload_n 0, 1) := by decide +kernel
theorem dM_lay_96 : decode cM_lay 96 = .ok (.getfield 50, 3) := by decide +kernel
theorem dM_lay_99 : decode cM_lay 99 = .ok (.iload 4, 2) := by decide +kernel
theorem dM_lay_101 : decode cM_lay 101 = .ok (.iaload, 1) := by decide +kernel
theorem dM_lay_102 : decode cM_lay 102 = .ok (.if_icmp .ge (13), 3) := by decide +kernel
theorem dM_lay_105 : decode cM_lay 105 = .ok (.aload_n 0, 1) := by decide +kernel
theorem dM_lay_106 : decode cM_lay 106 = .ok (.getfield 71, 3) := by decide +kernel
theorem dM_lay_109 : decode cM_lay 109 = .ok (.iload 4, 2) := by decide +kernel
theorem dM_lay_111 : decode cM_lay 111 = .ok (.iaload, 1) := by decide +kernel
theorem dM_lay_112 : decode cM_lay 112 = .ok (.goto (10), 3) := by decide +kernel
theorem dM_lay_115 : decode cM_lay 115 = .ok (.aload_n 0, 1) := by decide +kernel
theorem dM_lay_116 : decode cM_lay 116 = .ok (.getfield 50, 3) := by decide +kernel
theorem dM_lay_119 : decode cM_lay 119 = .ok (.iload 4, 2) := by decide +kernel
theorem dM_lay_121 : decode cM_lay 121 = .ok (.iaload, 1) := by decide +kernel
theorem dM_lay_122 : decode cM_lay 122 = .ok (.iastore, 1) := by decide +kernel
theorem dM_lay_123 : decode cM_lay 123 = .ok (.iload_n 3, 1) := by decide +kernel
theorem dM_lay_124 : decode cM_lay 124 = .ok (.aload_n 0, 1) := by decide +kernel
theorem dM_lay_125 : decode cM_lay 125 = .ok (.getfield 47, 3) := by decide +kernel
theorem dM_lay_128 : decode cM_lay 128 = .ok (.iload 4, 2) := by decide +kernel
theorem dM_lay_130 : decode cM_lay 130 = .ok (.iaload, 1) := by decide +kernel
theorem dM_lay_131 : decode cM_lay 131 = .ok (.iadd, 1) := by decide +kernel
theorem dM_lay_132 : decode cM_lay 132 = .ok (.istore_n 3, 1) := by decide +kernel
theorem dM_lay_133 : decode cM_lay 133 = .ok (.iinc 4 (1), 3) := by decide +kernel
theorem dM_lay_136 : decode cM_lay 136 = .ok (.goto (-124), 3) := by decide +kernel
theorem dM_lay_139 : decode cM_lay 139 = .ok (.aload_n 0, 1) := by decide +kernel
theorem dM_lay_140 : decode cM_lay 140 = .ok (.getfield 38, 3) := by decide +kernel
theorem dM_lay_143 : decode cM_lay 143 = .ok (.iload_n 1, 1) := by decide +kernel
theorem dM_lay_144 : decode cM_lay 144 = .ok (.iload_n 3, 1) := by decide +kernel
theorem dM_lay_145 : decode cM_lay 145 = .ok (.iastore, 1) := by decide +kernel
theorem dM_lay_146 : decode cM_lay 146 = .ok (.iload_n 3, 1) := by decide +kernel
theorem dM_lay_147 : decode cM_lay 147 = .ok (.ireturn, 1) := by decide +kernel
theorem dM_leastOf_0 : decode cM_leastOf 0 = .ok (.aload_n 0, 1) := by decide +kernel
theorem dM_leastOf_1 : decode cM_leastOf 1 = .ok (.iload_n 1, 1) := by decide +kernel
theorem dM_leastOf_2 : decode cM_leastOf 2 = .ok (.invokevirtual 128, 3) := by decide +kernel
theorem dM_leastOf_5 : decode cM_leastOf 5 = .ok (.ifCond .ne (30), 3) := by decide +kernel
theorem dM_leastOf_8 : decode cM_leastOf 8 = .ok (.aload_n 0, 1) := by decide +kernel
theorem dM_leastOf_9 : decode cM_leastOf 9 = .ok (.iload_n 1, 1) := by decide +kernel
theorem dM_leastOf_10 : decode cM_leastOf 10 = .ok (.invokevirtual 114, 3) := by decide +kernel
theorem dM_leastOf_13 : decode cM_leastOf 13 = .ok (.ifCond .eq (15), 3) := by decide +kernel
theorem dM_leastOf_16 : decode cM_leastOf 16 = .ok (.aload_n 0, 1) := by decide +kernel
theorem dM_leastOf_17 : decode cM_leastOf 17 = .ok (.getfield 41, 3) := by decide +kernel
theorem dM_leastOf_20 : decode cM_leastOf 20 = .ok (.iload_n 1, 1) := by decide +kernel
theorem dM_leastOf_21 : decode cM_leastOf 21 = .ok (.iaload, 1) := by decide +kernel
theorem dM_leastOf_22 : decode cM_leastOf 22 = .ok (.invokestatic 131, 3) := by decide +kernel
theorem dM_leastOf_25 : decode cM_leastOf 25 = .ok (.goto (9), 3) := by decide +kernel
theorem dM_leastOf_28 : decode cM_leastOf 28 = .ok (.aload_n 0, 1) := by decide +kernel
theorem dM_leastOf_29 : decode cM_leastOf 29 = .ok (.getfield 47, 3) := by decide +kernel
theorem dM_leastOf_32 : decode cM_leastOf 32 = .ok (.iload_n 1, 1) := by decide +kernel
theorem dM_leastOf_33 : decode cM_leastOf 33 = .ok (.iaload, 1) := by decide +kernel
theorem dM_leastOf_34 : decode cM_leastOf 34 = .ok (.ireturn, 1) := by decide +kernel
theorem dM_leastOf_35 : decode cM_leastOf 35 = .ok (.aload_n 0, 1) := by decide +kernel
theorem dM_leastOf_36 : decode cM_leastOf 36 = .ok (.iload_n 1, 1) := by decide +kernel
theorem dM_leastOf_37 : decode cM_leastOf 37 = .ok (.invokevirtual 134, 3) := by decide +kernel
theorem dM_leastOf_40 : decode cM_leastOf 40 = .ok (.lstore_n 2, 1) := by decide +kernel
theorem dM_leastOf_41 : decode cM_leastOf 41 = .ok (.aload_n 0, 1) := by decide +kernel
theorem dM_leastOf_42 : decode cM_leastOf 42 = .ok (.getfield 41, 3) := by decide +kernel
theorem dM_leastOf_45 : decode cM_leastOf 45 = .ok (.iload_n 1, 1) := by decide +kernel
theorem dM_leastOf_46 : decode cM_leastOf 46 = .ok (.iaload, 1) := by decide +kernel
theorem dM_leastOf_47 : decode cM_leastOf 47 = .ok (.iconst 1, 1) := by decide +kernel
theorem dM_leastOf_48 : decode cM_leastOf 48 = .ok (.if_icmp .ne (86), 3) := by decide +kernel
theorem dM_leastOf_51 : decode cM_leastOf 51 = .ok (.lload_n 2, 1) := by decide +kernel
theorem dM_leastOf_52 : decode cM_leastOf 52 = .ok (.aload_n 0, 1) := by decide +kernel
theorem dM_leastOf_53 : decode cM_leastOf 53 = .ok (.getfield 68, 3) := by decide +kernel
theorem dM_leastOf_56 : decode cM_leastOf 56 = .ok (.iload_n 1, 1) := by decide +kernel
theorem dM_leastOf_57 : decode cM_leastOf 57 = .ok (.iaload, 1) := by decide +kernel
theorem dM_leastOf_58 : decode cM_leastOf 58 = .ok (.i2l, 1) := by decide +kernel
theorem dM_leastOf_59 : decode cM_leastOf 59 = .ok (.lsub, 1) := by decide +kernel
theorem dM_leastOf_60 : decode cM_leastOf 60 = .ok (.lstore 4, 2) := by decide +kernel
theorem dM_leastOf_62 : decode cM_leastOf 62 = .ok (.lload 4, 2) := by decide +kernel
theorem dM_leastOf_64 : decode cM_leastOf 64 = .ok (.ldc2_w 138, 3) := by decide +kernel
theorem dM_leastOf_67 : decode cM_leastOf 67 = .ok (.lrem, 1) := by decide +kernel
theorem dM_leastOf_68 : decode cM_leastOf 68 = .ok (.lconst 0, 1) := by decide +kernel
theorem dM_leastOf_69 : decode cM_leastOf 69 = .ok (.lcmp, 1) := by decide +kernel
theorem dM_leastOf_70 : decode cM_leastOf 70 = .ok (.ifCond .ne (7), 3) := by decide +kernel
theorem dM_leastOf_73 : decode cM_leastOf 73 = .ok (.iconst 1, 1) := by decide +kernel
theorem dM_leastOf_74 : decode cM_leastOf 74 = .ok (.goto (4), 3) := by decide +kernel
theorem dM_leastOf_77 : decode cM_leastOf 77 = .ok (.iconst 0, 1) := by decide +kernel
theorem dM_leastOf_78 : decode cM_leastOf 78 = .ok (.istore 6, 2) := by decide +kernel
theorem dM_leastOf_80 : decode cM_leastOf 80 = .ok (.aload_n 0, 1) := by decide +kernel
theorem dM_leastOf_81 : decode cM_leastOf 81 = .ok (.getfield 62, 3) := by decide +kernel
theorem dM_leastOf_84 : decode cM_leastOf 84 = .ok (.iload_n 1, 1) := by decide +kernel
theorem dM_leastOf_85 : decode cM_leastOf 85 = .ok (.baload, 1) := by decide +kernel
theorem dM_leastOf_86 : decode cM_leastOf 86 = .ok (.ifCond .eq (18), 3) := by decide +kernel
theorem dM_leastOf_89 : decode cM_leastOf 89 = .ok (.iload 6, 2) := by decide +kernel
theorem dM_leastOf_91 : decode cM_leastOf 91 = .ok (.ifCond .eq (13), 3) := by decide +kernel
theorem dM_leastOf_94 : decode cM_leastOf 94 = .ok (.lload 4, 2) := by decide +kernel
theorem dM_leastOf_96 : decode cM_leastOf 96 = .ok (.invokestatic 140, 3) := by decide +kernel
theorem dM_leastOf_99 : decode cM_leastOf 99 = .ok (.ifCond .eq (5), 3) := by decide +kernel
theorem dM_leastOf_102 : decode cM_leastOf 102 = .ok (.iconst 2, 1) := by decide +kernel
theorem dM_leastOf_103 : decode cM_leastOf 103 = .ok (.ireturn, 1) := by decide +kernel
theorem dM_leastOf_104 : decode cM_leastOf 104 = .ok (.iload 6, 2) := by decide +kernel
theorem dM_leastOf_106 : decode cM_leastOf 106 = .ok (.ifCond .eq (25), 3) := by decide +kernel
theorem dM_leastOf_109 : decode cM_leastOf 109 = .ok (.lload 4, 2) := by decide +kernel
theorem dM_leastOf_111 : decode cM_leastOf 111 = .ok (.ldc2_w 144, 3) := by decide +kernel
theorem dM_leastOf_114 : decode cM_leastOf 114 = .ok (.lcmp, 1) := by decide +kernel
theorem dM_leastOf_115 : decode cM_leastOf 115 = .ok (.ifCond .lt (16), 3) := by decide +kernel
theorem dM_leastOf_118 : decode cM_leastOf 118 = .ok (.lload 4, 2) := by decide +kernel
theorem dM_leastOf_120 : decode cM_leastOf 120 = .ok (.ldc2_w 146, 3) := by decide +kernel
theorem dM_leastOf_123 : decode cM_leastOf 123 = .ok (.lcmp, 1) := by decide +kernel
theorem dM_leastOf_124 : decode cM_leastOf 124 = .ok (.ifCond .gt (7), 3) := by decide +kernel
theorem dM_leastOf_127 : decode cM_leastOf 127 = .ok (.iconst 4, 1) := by decide +kernel
theorem dM_leastOf_128 : decode cM_leastOf 128 = .ok (.goto (5), 3) := by decide +kernel
theorem dM_leastOf_131 : decode cM_leastOf 131 = .ok (.bipush (8), 2) := by decide +kernel
theorem dM_leastOf_133 : decode cM_leastOf 133 = .ok (.ireturn, 1) := by decide +kernel
theorem dM_leastOf_134 : decode cM_leastOf 134 = .ok (.lload_n 2, 1) := by decide +kernel
theorem dM_leastOf_135 : decode cM_leastOf 135 = .ok (.invokestatic 140, 3) := by decide +kernel
theorem dM_leastOf_138 : decode cM_leastOf 138 = .ok (.ifCond .ne (22), 3) := by decide +kernel
theorem dM_leastOf_141 : decode cM_leastOf 141 = .ok (.lload_n 2, 1) := by decide +kernel
theorem dM_leastOf_142 : decode cM_leastOf 142 = .ok (.aload_n 0, 1) := by decide +kernel
theorem dM_leastOf_143 : decode cM_leastOf 143 = .ok (.getfield 13, 3) := by decide +kernel
theorem dM_leastOf_146 : decode cM_leastOf 146 = .ok (.iconst 2, 1) := by decide +kernel
theorem dM_leastOf_147 : decode cM_leastOf 147 = .ok (.iaload, 1) := by decide +kernel
theorem dM_leastOf_148 : decode cM_leastOf 148 = .ok (.i2l, 1) := by decide +kernel
theorem dM_leastOf_149 : decode cM_leastOf 149 = .ok (.lsub, 1) := by decide +kernel
theorem dM_leastOf_150 : decode cM_leastOf 150 = .ok (.ldc2_w 148, 3) := by decide +kernel
theorem dM_leastOf_153 : decode cM_leastOf 153 = .ok (.lsub, 1) := by decide +kernel
theorem dM_leastOf_154 : decode cM_leastOf 154 = .ok (.invokestatic 140, 3) := by decide +kernel
theorem dM_leastOf_157 : decode cM_leastOf 157 = .ok (.ifCond .eq (5), 3) := by decide +kernel
theorem dM_leastOf_160 : decode cM_leastOf 160 = .ok (.iconst 0, 1) := by decide +kernel
theorem dM_leastOf_161 : decode cM_leastOf 161 = .ok (.ireturn, 1) := by decide +kernel
theorem dM_leastOf_162 : decode cM_leastOf 162 = .ok (.lload_n 2, 1) := by decide +kernel
theorem dM_leastOf_163 : decode cM_leastOf 163 = .ok (.ldc2_w 148, 3) := by decide +kernel
theorem dM_leastOf_166 : decode cM_leastOf 166 = .ok (.ladd, 1) := by decide +kernel
theorem dM_leastOf_167 : decode cM_leastOf 167 = .ok (.lstore 4, 2) := by decide +kernel
theorem dM_leastOf_169 : decode cM_leastOf 169 = .ok (.aload_n 0, 1) := by decide +kernel
theorem dM_leastOf_170 : decode cM_leastOf 170 = .ok (.getfield 41, 3) := by decide +kernel
theorem dM_leastOf_173 : decode cM_leastOf 173 = .ok (.iload_n 1, 1) := by decide +kernel
theorem dM_leastOf_174 : decode cM_leastOf 174 = .ok (.iaload, 1) := by decide +kernel
theorem dM_leastOf_175 : decode cM_leastOf 175 = .ok (.iconst 2, 1) := by decide +kernel
theorem dM_leastOf_176 : decode cM_leastOf 176 = .ok (.if_icmp .ne (34), 3) := by decide +kernel
theorem dM_leastOf_179 : decode cM_leastOf 179 = .ok (.aload_n 0, 1) := by decide +kernel
theorem dM_leastOf_180 : decode cM_leastOf 180 = .ok (.getfield 62, 3) := by decide +kernel
theorem dM_leastOf_183 : decode cM_leastOf 183 = .ok (.iload_n 1, 1) := by decide +kernel
theorem dM_leastOf_184 : decode cM_leastOf 184 = .ok (.baload, 1) := by decide +kernel
theorem dM_leastOf_185 : decode cM_leastOf 185 = .ok (.ifCond .eq (25), 3) := by decide +kernel
theorem dM_leastOf_188 : decode cM_leastOf 188 = .ok (.lload 4, 2) := by decide +kernel
theorem dM_leastOf_190 : decode cM_leastOf 190 = .ok (.ldc2_w 150, 3) := by decide +kernel
theorem dM_leastOf_193 : decode cM_leastOf 193 = .ok (.lcmp, 1) := by decide +kernel
theorem dM_leastOf_194 : decode cM_leastOf 194 = .ok (.ifCond .lt (16), 3) := by decide +kernel
theorem dM_leastOf_197 : decode cM_leastOf 197 = .ok (.lload 4, 2) := by decide +kernel
theorem dM_leastOf_199 : decode cM_leastOf 199 = .ok (.ldc2_w 152, 3) := by decide +kernel
theorem dM_leastOf_202 : decode cM_leastOf 202 = .ok (.lcmp, 1) := by decide +kernel
theorem dM_leastOf_203 : decode cM_leastOf 203 = .ok (.ifCond .ge (7), 3) := by decide +kernel
theorem dM_leastOf_206 : decode cM_leastOf 206 = .ok (.iconst 2, 1) := by decide +kernel
theorem dM_leastOf_207 : decode cM_leastOf 207 = .ok (.goto (4), 3) := by decide +kernel
theorem dM_leastOf_210 : decode cM_leastOf 210 = .ok (.iconst 4, 1) := by decide +kernel
theorem dM_leastOf_211 : decode cM_leastOf 211 = .ok (.ireturn, 1) := by decide +kernel
theorem dM_hasAim_0 : decode cM_hasAim 0 = .ok (.aload_n 0, 1) := by decide +kernel
theorem dM_hasAim_1 : decode cM_hasAim 1 = .ok (.iload_n 1, 1) := by decide +kernel
theorem dM_hasAim_2 : decode cM_hasAim 2 = .ok (.invokevirtual 114, 3) := by decide +kernel
theorem dM_hasAim_5 : decode cM_hasAim 5 = .ok (.ifCond .eq (20), 3) := by decide +kernel
theorem dM_hasAim_8 : decode cM_hasAim 8 = .ok (.aload_n 0, 1) := by decide +kernel
theorem dM_hasAim_9 : decode cM_hasAim 9 = .ok (.aload_n 0, 1) := by decide +kernel
theorem dM_hasAim_10 : decode cM_hasAim 10 = .ok (.getfield 56, 3) := by decide +kernel
theorem dM_hasAim_13 : decode cM_hasAim 13 = .ok (.iload_n 1, 1) := by decide +kernel
theorem dM_hasAim_14 : decode cM_hasAim 14 = .ok (.iaload, 1) := by decide +kernel
theorem dM_hasAim_15 : decode cM_hasAim 15 = .ok (.invokevirtual 117, 3) := by decide +kernel
theorem dM_hasAim_18 : decode cM_hasAim 18 = .ok (.ifCond .eq (7), 3) := by decide +kernel
theorem dM_hasAim_21 : decode cM_hasAim 21 = .ok (.iconst 1, 1) := by decide +kernel
theorem dM_hasAim_22 : decode cM_hasAim 22 = .ok (.goto (4), 3) := by decide +kernel
theorem dM_hasAim_25 : decode cM_hasAim 25 = .ok (.iconst 0, 1) := by decide +kernel
theorem dM_hasAim_26 : decode cM_hasAim 26 = .ok (.ireturn, 1) := by decide +kernel
theorem dM_hasValue_0 : decode cM_hasValue 0 = .ok (.aload_n 0, 1) := by decide +kernel
theorem dM_hasValue_1 : decode cM_hasValue 1 = .ok (.iload_n 1, 1) := by decide +kernel
theorem dM_hasValue_2 : decode cM_hasValue 2 = .ok (.invokevirtual 107, 3) := by decide +kernel
theorem dM_hasValue_5 : decode cM_hasValue 5 = .ok (.ifCond .eq (30), 3) := by decide +kernel
theorem dM_hasValue_8 : decode cM_hasValue 8 = .ok (.aload_n 0, 1) := by decide +kernel
theorem dM_hasValue_9 : decode cM_hasValue 9 = .ok (.getfield 77, 3) := by decide +kernel
theorem dM_hasValue_12 : decode cM_hasValue 12 = .ok (.iload_n 1, 1) := by decide +kernel
theorem dM_hasValue_13 : decode cM_hasValue 13 = .ok (.iaload, 1) := by decide +kernel
theorem dM_hasValue_14 : decode cM_hasValue 14 = .ok (.iconst (-1), 1) := by decide +kernel
theorem dM_hasValue_15 : decode cM_hasValue 15 = .ok (.if_icmp .eq (20), 3) := by decide +kernel
theorem dM_hasValue_18 : decode cM_hasValue 18 = .ok (.aload_n 0, 1) := by decide +kernel
theorem dM_hasValue_19 : decode cM_hasValue 19 = .ok (.aload_n 0, 1) := by decide +kernel
theorem dM_hasValue_20 : decode cM_hasValue 20 = .ok (.getfield 77, 3) := by decide +kernel
theorem dM_hasValue_23 : decode cM_hasValue 23 = .ok (.iload_n 1, 1) := by decide +kernel
theorem dM_hasValue_24 : decode cM_hasValue 24 = .ok (.iaload, 1) := by decide +kernel
theorem dM_hasValue_25 : decode cM_hasValue 25 = .ok (.invokevirtual 111, 3) := by decide +kernel
theorem dM_hasValue_28 : decode cM_hasValue 28 = .ok (.ifCond .ne (7), 3) := by decide +kernel
theorem dM_hasValue_31 : decode cM_hasValue 31 = .ok (.iconst 1, 1) := by decide +kernel
theorem dM_hasValue_32 : decode cM_hasValue 32 = .ok (.goto (4), 3) := by decide +kernel
theorem dM_hasValue_35 : decode cM_hasValue 35 = .ok (.iconst 0, 1) := by decide +kernel
theorem dM_hasValue_36 : decode cM_hasValue 36 = .ok (.ireturn, 1) := by decide +kernel
theorem dM_isGone_0 : decode cM_isGone 0 = .ok (.aload_n 0, 1) := by decide +kernel
theorem dM_isGone_1 : decode cM_isGone 1 = .ok (.getfield 29, 3) := by decide +kernel
theorem dM_isGone_4 : decode cM_isGone 4 = .ok (.aload_n 0, 1) := by decide +kernel
theorem dM_isGone_5 : decode cM_isGone 5 = .ok (.getfield 44, 3) := by decide +kernel
theorem dM_isGone_8 : decode cM_isGone 8 = .ok (.iload_n 1, 1) := by decide +kernel
theorem dM_isGone_9 : decode cM_isGone 9 = .ok (.iaload, 1) := by decide +kernel
theorem dM_isGone_10 : decode cM_isGone 10 = .ok (.baload, 1) := by decide +kernel
theorem dM_isGone_11 : decode cM_isGone 11 = .ok (.ireturn, 1) := by decide +kernel
theorem dM_aimOf_0 : decode cM_aimOf 0 = .ok (.aload_n 0, 1) := by decide +kernel
theorem dM_aimOf_1 : decode cM_aimOf 1 = .ok (.aload_n 0, 1) := by decide +kernel
theorem dM_aimOf_2 : decode cM_aimOf 2 = .ok (.getfield 56, 3) := by decide +kernel
theorem dM_aimOf_5 : decode cM_aimOf 5 = .ok (.iload_n 1, 1) := by decide +kernel
theorem dM_aimOf_6 : decode cM_aimOf 6 = .ok (.iaload, 1) := by decide +kernel
theorem dM_aimOf_7 : decode cM_aimOf 7 = .ok (.invokevirtual 120, 3) := by decide +kernel
theorem dM_aimOf_10 : decode cM_aimOf 10 = .ok (.i2l, 1) := by decide +kernel
theorem dM_aimOf_11 : decode cM_aimOf 11 = .ok (.aload_n 0, 1) := by decide +kernel
theorem dM_aimOf_12 : decode cM_aimOf 12 = .ok (.getfield 59, 3) := by decide +kernel
theorem dM_aimOf_15 : decode cM_aimOf 15 = .ok (.iload_n 1, 1) := by decide +kernel
theorem dM_aimOf_16 : decode cM_aimOf 16 = .ok (.iaload, 1) := by decide +kernel
theorem dM_aimOf_17 : decode cM_aimOf 17 = .ok (.i2l, 1) := by decide +kernel
theorem dM_aimOf_18 : decode cM_aimOf 18 = .ok (.ladd, 1) := by decide +kernel
theorem dM_aimOf_19 : decode cM_aimOf 19 = .ok (.lreturn, 1) := by decide +kernel
theorem dM_valueOf_0 : decode cM_valueOf 0 = .ok (.aload_n 0, 1) := by decide +kernel
theorem dM_valueOf_1 : decode cM_valueOf 1 = .ok (.getfield 77, 3) := by decide +kernel
theorem dM_valueOf_4 : decode cM_valueOf 4 = .ok (.iload_n 1, 1) := by decide +kernel
theorem dM_valueOf_5 : decode cM_valueOf 5 = .ok (.iaload, 1) := by decide +kernel
theorem dM_valueOf_6 : decode cM_valueOf 6 = .ok (.istore_n 2, 1) := by decide +kernel
theorem dM_valueOf_7 : decode cM_valueOf 7 = .ok (.aload_n 0, 1) := by decide +kernel
theorem dM_valueOf_8 : decode cM_valueOf 8 = .ok (.getfield 41, 3) := by decide +kernel
theorem dM_valueOf_11 : decode cM_valueOf 11 = .ok (.iload_n 2, 1) := by decide +kernel
theorem dM_valueOf_12 : decode cM_valueOf 12 = .ok (.iaload, 1) := by decide +kernel
theorem dM_valueOf_13 : decode cM_valueOf 13 = .ok (.ifCond .eq (12), 3) := by decide +kernel
theorem dM_valueOf_16 : decode cM_valueOf 16 = .ok (.aload_n 0, 1) := by decide +kernel
theorem dM_valueOf_17 : decode cM_valueOf 17 = .ok (.getfield 80, 3) := by decide +kernel
theorem dM_valueOf_20 : decode cM_valueOf 20 = .ok (.iload_n 1, 1) := by decide +kernel
theorem dM_valueOf_21 : decode cM_valueOf 21 = .ok (.iaload, 1) := by decide +kernel
theorem dM_valueOf_22 : decode cM_valueOf 22 = .ok (.ifCond .ne (19), 3) := by decide +kernel
theorem dM_valueOf_25 : decode cM_valueOf 25 = .ok (.aload_n 0, 1) := by decide +kernel
theorem dM_valueOf_26 : decode cM_valueOf 26 = .ok (.getfield 68, 3) := by decide +kernel
theorem dM_valueOf_29 : decode cM_valueOf 29 = .ok (.iload_n 2, 1) := by decide +kernel
theorem dM_valueOf_30 : decode cM_valueOf 30 = .ok (.iaload, 1) := by decide +kernel
theorem dM_valueOf_31 : decode cM_valueOf 31 = .ok (.aload_n 0, 1) := by decide +kernel
theorem dM_valueOf_32 : decode cM_valueOf 32 = .ok (.getfield 80, 3) := by decide +kernel
theorem dM_valueOf_35 : decode cM_valueOf 35 = .ok (.iload_n 1, 1) := by decide +kernel
theorem dM_valueOf_36 : decode cM_valueOf 36 = .ok (.iaload, 1) := by decide +kernel
theorem dM_valueOf_37 : decode cM_valueOf 37 = .ok (.iadd, 1) := by decide +kernel
theorem dM_valueOf_38 : decode cM_valueOf 38 = .ok (.goto (16), 3) := by decide +kernel
theorem dM_valueOf_41 : decode cM_valueOf 41 = .ok (.aload_n 0, 1) := by decide +kernel
theorem dM_valueOf_42 : decode cM_valueOf 42 = .ok (.getfield 68, 3) := by decide +kernel
theorem dM_valueOf_45 : decode cM_valueOf 45 = .ok (.iload_n 2, 1) := by decide +kernel
theorem dM_valueOf_46 : decode cM_valueOf 46 = .ok (.iaload, 1) := by decide +kernel
theorem dM_valueOf_47 : decode cM_valueOf 47 = .ok (.aload_n 0, 1) := by decide +kernel
theorem dM_valueOf_48 : decode cM_valueOf 48 = .ok (.getfield 47, 3) := by decide +kernel
theorem dM_valueOf_51 : decode cM_valueOf 51 = .ok (.iload_n 2, 1) := by decide +kernel
theorem dM_valueOf_52 : decode cM_valueOf 52 = .ok (.iaload, 1) := by decide +kernel
theorem dM_valueOf_53 : decode cM_valueOf 53 = .ok (.iadd, 1) := by decide +kernel
theorem dM_valueOf_54 : decode cM_valueOf 54 = .ok (.ireturn, 1) := by decide +kernel
theorem dM_isNear_0 : decode cM_isNear 0 = .ok (.lload_n 0, 1) := by decide +kernel
theorem dM_isNear_1 : decode cM_isNear 1 = .ok (.ldc2_w 124, 3) := by decide +kernel
theorem dM_isNear_4 : decode cM_isNear 4 = .ok (.lcmp, 1) := by decide +kernel
theorem dM_isNear_5 : decode cM_isNear 5 = .ok (.ifCond .lt (15), 3) := by decide +kernel
theorem dM_isNear_8 : decode cM_isNear 8 = .ok (.lload_n 0, 1) := by decide +kernel
theorem dM_isNear_9 : decode cM_isNear 9 = .ok (.ldc2_w 126, 3) := by decide +kernel
theorem dM_isNear_12 : decode cM_isNear 12 = .ok (.lcmp, 1) := by decide +kernel
theorem dM_isNear_13 : decode cM_isNear 13 = .ok (.ifCond .gt (7), 3) := by decide +kernel
theorem dM_isNear_16 : decode cM_isNear 16 = .ok (.iconst 1, 1) := by decide +kernel
theorem dM_isNear_17 : decode cM_isNear 17 = .ok (.goto (4), 3) := by decide +kernel
theorem dM_isNear_20 : decode cM_isNear 20 = .ok (.iconst 0, 1) := by decide +kernel
theorem dM_isNear_21 : decode cM_isNear 21 = .ok (.ireturn, 1) := by decide +kernel
theorem dM_shrink_0 : decode cM_shrink 0 = .ok (.iconst 1, 1) := by decide +kernel
theorem dM_shrink_1 : decode cM_shrink 1 = .ok (.istore_n 1, 1) := by decide +kernel
theorem dM_shrink_2 : decode cM_shrink 2 = .ok (.aload_n 0, 1) := by decide +kernel
theorem dM_shrink_3 : decode cM_shrink 3 = .ok (.invokevirtual 176, 3) := by decide +kernel
theorem dM_shrink_6 : decode cM_shrink 6 = .ok (.ifCond .le (9), 3) := by decide +kernel
theorem dM_shrink_9 : decode cM_shrink 9 = .ok (.iinc 1 (1), 3) := by decide +kernel
theorem dM_shrink_12 : decode cM_shrink 12 = .ok (.goto (-10), 3) := by decide +kernel
theorem dM_shrink_15 : decode cM_shrink 15 = .ok (.iload_n 1, 1) := by decide +kernel
theorem dM_shrink_16 : decode cM_shrink 16 = .ok (.ireturn, 1) := by decide +kernel
theorem dM_settle_0 : decode cM_settle 0 = .ok (.iconst 0, 1) := by decide +kernel
theorem dM_settle_1 : decode cM_settle 1 = .ok (.istore_n 1, 1) := by decide +kernel
theorem dM_settle_2 : decode cM_settle 2 = .ok (.iconst 1, 1) := by decide +kernel
theorem dM_settle_3 : decode cM_settle 3 = .ok (.istore_n 2, 1) := by decide +kernel
theorem dM_settle_4 : decode cM_settle 4 = .ok (.aload_n 0, 1) := by decide +kernel
theorem dM_settle_5 : decode cM_settle 5 = .ok (.invokevirtual 180, 3) := by decide +kernel
theorem dM_settle_8 : decode cM_settle 8 = .ok (.istore_n 3, 1) := by decide +kernel
theorem dM_settle_9 : decode cM_settle 9 = .ok (.iload_n 2, 1) := by decide +kernel
theorem dM_settle_10 : decode cM_settle 10 = .ok (.ifCond .le (127), 3) := by decide +kernel
theorem dM_settle_13 : decode cM_settle 13 = .ok (.aload_n 0, 1) := by decide +kernel
theorem dM_settle_14 : decode cM_settle 14 = .ok (.invokevirtual 170, 3) := by decide +kernel
theorem dM_settle_17 : decode cM_settle 17 = .ok (.iconst 0, 1) := by decide +kernel
theorem dM_settle_18 : decode cM_settle 18 = .ok (.istore_n 2, 1) := by decide +kernel
theorem dM_settle_19 : decode cM_settle 19 = .ok (.iconst 0, 1) := by decide +kernel
theorem dM_settle_20 : decode cM_settle 20 = .ok (.istore 4, 2) := by decide +kernel
theorem dM_settle_22 : decode cM_settle 22 = .ok (.iload 4, 2) := by decide +kernel
theorem dM_settle_24 : decode cM_settle 24 = .ok (.aload_n 0, 1) := by decide +kernel
theorem dM_settle_25 : decode cM_settle 25 = .ok (.getfield 91, 3) := by decide +kernel
theorem dM_settle_28 : decode cM_settle 28 = .ok (.if_icmp .ge (30), 3) := by decide +kernel
theorem dM_settle_31 : decode cM_settle 31 = .ok (.aload_n 0, 1) := by decide +kernel
theorem dM_settle_32 : decode cM_settle 32 = .ok (.getfield 74, 3) := by decide +kernel
theorem dM_settle_35 : decode cM_settle 35 = .ok (.iload 4, 2) := by decide +kernel
theorem dM_settle_37 : decode cM_settle 37 = .ok (.aload_n 0, 1) := by decide +kernel
theorem dM_settle_38 : decode cM_settle 38 = .ok (.iload 4, 2) := by decide +kernel
theorem dM_settle_40 : decode cM_settle 40 = .ok (.invokevirtual 183, 3) := by decide +kernel
theorem dM_settle_43 : decode cM_settle 43 = .ok (.ifCond .eq (7), 3) := by decide +kernel
theorem dM_settle_46 : decode cM_settle 46 = .ok (.iconst 1, 1) := by decide +kernel
theorem dM_settle_47 : decode cM_settle 47 = .ok (.goto (4), 3) := by decide +kernel
theorem dM_settle_50 : decode cM_settle 50 = .ok (.iconst 0, 1) := by decide +kernel
theorem dM_settle_51 : decode cM_settle 51 = .ok (.iastore, 1) := by decide +kernel
theorem dM_settle_52 : decode cM_settle 52 = .ok (.iinc 4 (1), 3) := by decide +kernel
theorem dM_settle_55 : decode cM_settle 55 = .ok (.goto (-33), 3) := by decide +kernel
theorem dM_settle_58 : decode cM_settle 58 = .ok (.iconst 0, 1) := by decide +kernel
theorem dM_settle_59 : decode cM_settle 59 = .ok (.istore 4, 2) := by decide +kernel
theorem dM_settle_61 : decode cM_settle 61 = .ok (.iload 4, 2) := by decide +kernel
theorem dM_settle_63 : decode cM_settle 63 = .ok (.aload_n 0, 1) := by decide +kernel
theorem dM_settle_64 : decode cM_settle 64 = .ok (.getfield 91, 3) := by decide +kernel
theorem dM_settle_67 : decode cM_settle 67 = .ok (.if_icmp .ge (50), 3) := by decide +kernel
theorem dM_settle_70 : decode cM_settle 70 = .ok (.aload_n 0, 1) := by decide +kernel
theorem dM_settle_71 : decode cM_settle 71 = .ok (.getfield 74, 3) := by decide +kernel
theorem dM_settle_74 : decode cM_settle 74 = .ok (.iload 4, 2) := by decide +kernel
theorem dM_settle_76 : decode cM_settle 76 = .ok (.iaload, 1) := by decide +kernel
theorem dM_settle_77 : decode cM_settle 77 = .ok (.ifCond .ne (6), 3) := by decide +kernel
theorem dM_settle_80 : decode cM_settle 80 = .ok (.goto (31), 3) := by decide +kernel
theorem dM_settle_83 : decode cM_settle 83 = .ok (.aload_n 0, 1) := by decide +kernel
theorem dM_settle_84 : decode cM_settle 84 = .ok (.getfield 47, 3) := by decide +kernel
theorem dM_settle_87 : decode cM_settle 87 = .ok (.iload 4, 2) := by decide +kernel
theorem dM_settle_89 : decode cM_settle 89 = .ok (.aload_n 0, 1) := by decide +kernel
theorem dM_settle_90 : decode cM_settle 90 = .ok (.getfield 41, 3) := by decide +kernel
theorem dM_settle_93 : decode cM_settle 93 = .ok (.iload 4, 2) := by decide +kernel
theorem dM_settle_95 : decode cM_settle 95 = .ok (.iaload, 1) := by decide +kernel
theorem dM_settle_96 : decode cM_settle 96 = .ok (.invokestatic 131, 3) := by decide +kernel
theorem dM_settle_99 : decode cM_settle 99 = .ok (.iastore, 1) := by decide +kernel
theorem dM_settle_100 : decode cM_settle 100 = .ok (.aload_n 0, 1) := by decide +kernel
theorem dM_settle_101 : decode cM_settle 101 = .ok (.getfield 65, 3) := by decide +kernel
theorem dM_settle_104 : decode cM_settle 104 = .ok (.iload 4, 2) := by decide +kernel
theorem dM_settle_106 : decode cM_settle 106 = .ok (.iconst 1, 1) := by decide +kernel
theorem dM_settle_107 : decode cM_settle 107 = .ok (.bastore, 1) := by decide +kernel
theorem dM_settle_108 : decode cM_settle 108 = .ok (.iinc 2 (1), 3) := by decide +kernel
theorem dM_settle_111 : decode cM_settle 111 = .ok (.iinc 4 (1), 3) := by decide +kernel
theorem dM_settle_114 : decode cM_settle 114 = .ok (.goto (-53), 3) := by decide +kernel
theorem dM_settle_117 : decode cM_settle 117 = .ok (.iload_n 1, 1) := by decide +kernel
theorem dM_settle_118 : decode cM_settle 118 = .ok (.iload_n 2, 1) := by decide +kernel
theorem dM_settle_119 : decode cM_settle 119 = .ok (.iadd, 1) := by decide +kernel
theorem dM_settle_120 : decode cM_settle 120 = .ok (.istore_n 1, 1) := by decide +kernel
theorem dM_settle_121 : decode cM_settle 121 = .ok (.iload_n 2, 1) := by decide +kernel
theorem dM_settle_122 : decode cM_settle 122 = .ok (.ifCond .le (10), 3) := by decide +kernel
theorem dM_settle_125 : decode cM_settle 125 = .ok (.aload_n 0, 1) := by decide +kernel
theorem dM_settle_126 : decode cM_settle 126 = .ok (.invokevirtual 180, 3) := by decide +kernel
theorem dM_settle_129 : decode cM_settle 129 = .ok (.goto (4), 3) := by decide +kernel
theorem dM_settle_132 : decode cM_settle 132 = .ok (.iload_n 3, 1) := by decide +kernel
theorem dM_settle_133 : decode cM_settle 133 = .ok (.istore_n 3, 1) := by decide +kernel
theorem dM_settle_134 : decode cM_settle 134 = .ok (.goto (-125), 3) := by decide +kernel
theorem dM_settle_137 : decode cM_settle 137 = .ok (.iload_n 1, 1) := by decide +kernel
theorem dM_settle_138 : decode cM_settle 138 = .ok (.ireturn, 1) := by decide +kernel
theorem dM_isTight_0 : decode cM_isTight 0 = .ok (.aload_n 0, 1) := by decide +kernel
theorem dM_isTight_1 : decode cM_isTight 1 = .ok (.iload_n 1, 1) := by decide +kernel
theorem dM_isTight_2 : decode cM_isTight 2 = .ok (.invokevirtual 114, 3) := by decide +kernel
theorem dM_isTight_5 : decode cM_isTight 5 = .ok (.ifCond .eq (29), 3) := by decide +kernel
theorem dM_isTight_8 : decode cM_isTight 8 = .ok (.aload_n 0, 1) := by decide +kernel
theorem dM_isTight_9 : decode cM_isTight 9 = .ok (.iload_n 1, 1) := by decide +kernel
theorem dM_isTight_10 : decode cM_isTight 10 = .ok (.invokevirtual 111, 3) := by decide +kernel
theorem dM_isTight_13 : decode cM_isTight 13 = .ok (.ifCond .ne (21), 3) := by decide +kernel
theorem dM_isTight_16 : decode cM_isTight 16 = .ok (.aload_n 0, 1) := by decide +kernel
theorem dM_isTight_17 : decode cM_isTight 17 = .ok (.getfield 47, 3) := by decide +kernel
theorem dM_isTight_20 : decode cM_isTight 20 = .ok (.iload_n 1, 1) := by decide +kernel
theorem dM_isTight_21 : decode cM_isTight 21 = .ok (.iaload, 1) := by decide +kernel
theorem dM_isTight_22 : decode cM_isTight 22 = .ok (.aload_n 0, 1) := by decide +kernel
theorem dM_isTight_23 : decode cM_isTight 23 = .ok (.iload_n 1, 1) := by decide +kernel
theorem dM_isTight_24 : decode cM_isTight 24 = .ok (.invokevirtual 173, 3) := by decide +kernel
theorem dM_isTight_27 : decode cM_isTight 27 = .ok (.if_icmp .ge (7), 3) := by decide +kernel
theorem dM_isTight_30 : decode cM_isTight 30 = .ok (.iconst 1, 1) := by decide +kernel
theorem dM_isTight_31 : decode cM_isTight 31 = .ok (.goto (4), 3) := by decide +kernel
theorem dM_isTight_34 : decode cM_isTight 34 = .ok (.iconst 0, 1) := by decide +kernel
theorem dM_isTight_35 : decode cM_isTight 35 = .ok (.ireturn, 1) := by decide +kernel
theorem dM_reset_0 : decode cM_reset 0 = .ok (.iconst 0, 1) := by decide +kernel
theorem dM_reset_1 : decode cM_reset 1 = .ok (.istore_n 1, 1) := by decide +kernel
theorem dM_reset_2 : decode cM_reset 2 = .ok (.iload_n 1, 1) := by decide +kernel
theorem dM_reset_3 : decode cM_reset 3 = .ok (.aload_n 0, 1) := by decide +kernel
theorem dM_reset_4 : decode cM_reset 4 = .ok (.getfield 91, 3) := by decide +kernel
theorem dM_reset_7 : decode cM_reset 7 = .ok (.if_icmp .ge (42), 3) := by decide +kernel
theorem dM_reset_10 : decode cM_reset 10 = .ok (.aload_n 0, 1) := by decide +kernel
theorem dM_reset_11 : decode cM_reset 11 = .ok (.iload_n 1, 1) := by decide +kernel
theorem dM_reset_12 : decode cM_reset 12 = .ok (.invokevirtual 114, 3) := by decide +kernel
theorem dM_reset_15 : decode cM_reset 15 = .ok (.ifCond .ne (6), 3) := by decide +kernel
theorem dM_reset_18 : decode cM_reset 18 = .ok (.goto (25), 3) := by decide +kernel
theorem dM_reset_21 : decode cM_reset 21 = .ok (.aload_n 0, 1) := by decide +kernel
theorem dM_reset_22 : decode cM_reset 22 = .ok (.getfield 47, 3) := by decide +kernel
theorem dM_reset_25 : decode cM_reset 25 = .ok (.iload_n 1, 1) := by decide +kernel
theorem dM_reset_26 : decode cM_reset 26 = .ok (.aload_n 0, 1) := by decide +kernel
theorem dM_reset_27 : decode cM_reset 27 = .ok (.getfield 41, 3) := by decide +kernel
theorem dM_reset_30 : decode cM_reset 30 = .ok (.iload_n 1, 1) := by decide +kernel
theorem dM_reset_31 : decode cM_reset 31 = .ok (.iaload, 1) := by decide +kernel
theorem dM_reset_32 : decode cM_reset 32 = .ok (.invokestatic 131, 3) := by decide +kernel
theorem dM_reset_35 : decode cM_reset 35 = .ok (.iastore, 1) := by decide +kernel
theorem dM_reset_36 : decode cM_reset 36 = .ok (.aload_n 0, 1) := by decide +kernel
theorem dM_reset_37 : decode cM_reset 37 = .ok (.getfield 65, 3) := by decide +kernel
theorem dM_reset_40 : decode cM_reset 40 = .ok (.iload_n 1, 1) := by decide +kernel
theorem dM_reset_41 : decode cM_reset 41 = .ok (.iconst 0, 1) := by decide +kernel
theorem dM_reset_42 : decode cM_reset 42 = .ok (.bastore, 1) := by decide +kernel
theorem dM_reset_43 : decode cM_reset 43 = .ok (.iinc 1 (1), 3) := by decide +kernel
theorem dM_reset_46 : decode cM_reset 46 = .ok (.goto (-44), 3) := by decide +kernel
theorem dM_reset_49 : decode cM_reset 49 = .ok (.return_, 1) := by decide +kernel
theorem dM_holds_0 : decode cM_holds 0 = .ok (.aload_n 0, 1) := by decide +kernel
theorem dM_holds_1 : decode cM_holds 1 = .ok (.invokevirtual 170, 3) := by decide +kernel
theorem dM_holds_4 : decode cM_holds 4 = .ok (.iconst 0, 1) := by decide +kernel
theorem dM_holds_5 : decode cM_holds 5 = .ok (.istore_n 1, 1) := by decide +kernel
theorem dM_holds_6 : decode cM_holds 6 = .ok (.iload_n 1, 1) := by decide +kernel
theorem dM_holds_7 : decode cM_holds 7 = .ok (.aload_n 0, 1) := by decide +kernel
theorem dM_holds_8 : decode cM_holds 8 = .ok (.getfield 91, 3) := by decide +kernel
theorem dM_holds_11 : decode cM_holds 11 = .ok (.if_icmp .ge (19), 3) := by decide +kernel
theorem dM_holds_14 : decode cM_holds 14 = .ok (.aload_n 0, 1) := by decide +kernel
theorem dM_holds_15 : decode cM_holds 15 = .ok (.iload_n 1, 1) := by decide +kernel
theorem dM_holds_16 : decode cM_holds 16 = .ok (.invokevirtual 183, 3) := by decide +kernel
theorem dM_holds_19 : decode cM_holds 19 = .ok (.ifCond .eq (5), 3) := by decide +kernel
theorem dM_holds_22 : decode cM_holds 22 = .ok (.iload_n 1, 1) := by decide +kernel
theorem dM_holds_23 : decode cM_holds 23 = .ok (.ireturn, 1) := by decide +kernel
theorem dM_holds_24 : decode cM_holds 24 = .ok (.iinc 1 (1), 3) := by decide +kernel
theorem dM_holds_27 : decode cM_holds 27 = .ok (.goto (-21), 3) := by decide +kernel
theorem dM_holds_30 : decode cM_holds 30 = .ok (.iconst (-1), 1) := by decide +kernel
theorem dM_holds_31 : decode cM_holds 31 = .ok (.ireturn, 1) := by decide +kernel
theorem dM_lacks_0 : decode cM_lacks 0 = .ok (.aload_n 0, 1) := by decide +kernel
theorem dM_lacks_1 : decode cM_lacks 1 = .ok (.invokevirtual 170, 3) := by decide +kernel
theorem dM_lacks_4 : decode cM_lacks 4 = .ok (.iconst 0, 1) := by decide +kernel
theorem dM_lacks_5 : decode cM_lacks 5 = .ok (.istore_n 1, 1) := by decide +kernel
theorem dM_lacks_6 : decode cM_lacks 6 = .ok (.iload_n 1, 1) := by decide +kernel
theorem dM_lacks_7 : decode cM_lacks 7 = .ok (.aload_n 0, 1) := by decide +kernel
theorem dM_lacks_8 : decode cM_lacks 8 = .ok (.getfield 91, 3) := by decide +kernel
theorem dM_lacks_11 : decode cM_lacks 11 = .ok (.if_icmp .ge (44), 3) := by decide +kernel
theorem dM_lacks_14 : decode cM_lacks 14 = .ok (.aload_n 0, 1) := by decide +kernel
theorem dM_lacks_15 : decode cM_lacks 15 = .ok (.getfield 41, 3) := by decide +kernel
theorem dM_lacks_18 : decode cM_lacks 18 = .ok (.iload_n 1, 1) := by decide +kernel
theorem dM_lacks_19 : decode cM_lacks 19 = .ok (.iaload, 1) := by decide +kernel
theorem dM_lacks_20 : decode cM_lacks 20 = .ok (.iconst 4, 1) := by decide +kernel
theorem dM_lacks_21 : decode cM_lacks 21 = .ok (.if_icmp .ne (28), 3) := by decide +kernel
theorem dM_lacks_24 : decode cM_lacks 24 = .ok (.aload_n 0, 1) := by decide +kernel
theorem dM_lacks_25 : decode cM_lacks 25 = .ok (.iload_n 1, 1) := by decide +kernel
theorem dM_lacks_26 : decode cM_lacks 26 = .ok (.invokevirtual 111, 3) := by decide +kernel
theorem dM_lacks_29 : decode cM_lacks 29 = .ok (.ifCond .ne (20), 3) := by decide +kernel
theorem dM_lacks_32 : decode cM_lacks 32 = .ok (.aload_n 0, 1) := by decide +kernel
theorem dM_lacks_33 : decode cM_lacks 33 = .ok (.getfield 71, 3) := by decide +kernel
theorem dM_lacks_36 : decode cM_lacks 36 = .ok (.iload_n 1, 1) := by decide +kernel
theorem dM_lacks_37 : decode cM_lacks 37 = .ok (.iaload, 1) := by decide +kernel
theorem dM_lacks_38 : decode cM_lacks 38 = .ok (.aload_n 0, 1) := by decide +kernel
theorem dM_lacks_39 : decode cM_lacks 39 = .ok (.getfield 50, 3) := by decide +kernel
theorem dM_lacks_42 : decode cM_lacks 42 = .ok (.iload_n 1, 1) := by decide +kernel
theorem dM_lacks_43 : decode cM_lacks 43 = .ok (.iaload, 1) := by decide +kernel
theorem dM_lacks_44 : decode cM_lacks 44 = .ok (.if_icmp .le (5), 3) := by decide +kernel
theorem dM_lacks_47 : decode cM_lacks 47 = .ok (.iload_n 1, 1) := by decide +kernel
theorem dM_lacks_48 : decode cM_lacks 48 = .ok (.ireturn, 1) := by decide +kernel
theorem dM_lacks_49 : decode cM_lacks 49 = .ok (.iinc 1 (1), 3) := by decide +kernel
theorem dM_lacks_52 : decode cM_lacks 52 = .ok (.goto (-46), 3) := by decide +kernel
theorem dM_lacks_55 : decode cM_lacks 55 = .ok (.iconst (-1), 1) := by decide +kernel
theorem dM_lacks_56 : decode cM_lacks 56 = .ok (.ireturn, 1) := by decide +kernel
theorem dM_piece_0 : decode cM_piece 0 = .ok (.aload_n 0, 1) := by decide +kernel
theorem dM_piece_1 : decode cM_piece 1 = .ok (.iload_n 1, 1) := by decide +kernel
theorem dM_piece_2 : decode cM_piece 2 = .ok (.invokevirtual 166, 3) := by decide +kernel
theorem dM_piece_5 : decode cM_piece 5 = .ok (.ifCond .ne (5), 3) := by decide +kernel
theorem dM_piece_8 : decode cM_piece 8 = .ok (.iconst (-1), 1) := by decide +kernel
theorem dM_piece_9 : decode cM_piece 9 = .ok (.ireturn, 1) := by decide +kernel
theorem dM_piece_10 : decode cM_piece 10 = .ok (.aload_n 0, 1) := by decide +kernel
theorem dM_piece_11 : decode cM_piece 11 = .ok (.invokevirtual 170, 3) := by decide +kernel
theorem dM_piece_14 : decode cM_piece 14 = .ok (.aload_n 0, 1) := by decide +kernel
theorem dM_piece_15 : decode cM_piece 15 = .ok (.iload_n 1, 1) := by decide +kernel
theorem dM_piece_16 : decode cM_piece 16 = .ok (.invokevirtual 111, 3) := by decide +kernel
theorem dM_piece_19 : decode cM_piece 19 = .ok (.istore_n 3, 1) := by decide +kernel
theorem dM_piece_20 : decode cM_piece 20 = .ok (.iload_n 2, 1) := by decide +kernel
theorem dM_piece_21 : decode cM_piece 21 = .ok (.tableswitch (112) (0) (5) #[39, 46, 53, 68, 83, 97], 39) := by decide +kernel
theorem dM_piece_60 : decode cM_piece 60 = .ok (.aload_n 0, 1) := by decide +kernel
theorem dM_piece_61 : decode cM_piece 61 = .ok (.getfield 41, 3) := by decide +kernel
theorem dM_piece_64 : decode cM_piece 64 = .ok (.iload_n 1, 1) := by decide +kernel
theorem dM_piece_65 : decode cM_piece 65 = .ok (.iaload, 1) := by decide +kernel
theorem dM_piece_66 : decode cM_piece 66 = .ok (.ireturn, 1) := by decide +kernel
theorem dM_piece_67 : decode cM_piece 67 = .ok (.aload_n 0, 1) := by decide +kernel
theorem dM_piece_68 : decode cM_piece 68 = .ok (.getfield 44, 3) := by decide +kernel
theorem dM_piece_71 : decode cM_piece 71 = .ok (.iload_n 1, 1) := by decide +kernel
theorem dM_piece_72 : decode cM_piece 72 = .ok (.iaload, 1) := by decide +kernel
theorem dM_piece_73 : decode cM_piece 73 = .ok (.ireturn, 1) := by decide +kernel
theorem dM_piece_74 : decode cM_piece 74 = .ok (.iload_n 3, 1) := by decide +kernel
theorem dM_piece_75 : decode cM_piece 75 = .ok (.ifCond .eq (7), 3) := by decide +kernel
theorem dM_piece_78 : decode cM_piece 78 = .ok (.iconst (-1), 1) := by decide +kernel
theorem dM_piece_79 : decode cM_piece 79 = .ok (.goto (9), 3) := by decide +kernel
theorem dM_piece_82 : decode cM_piece 82 = .ok (.aload_n 0, 1) := by decide +kernel
theorem dM_piece_83 : decode cM_piece 83 = .ok (.getfield 47, 3) := by decide +kernel
theorem dM_piece_86 : decode cM_piece 86 = .ok (.iload_n 1, 1) := by decide +kernel
theorem dM_piece_87 : decode cM_piece 87 = .ok (.iaload, 1) := by decide +kernel
theorem dM_piece_88 : decode cM_piece 88 = .ok (.ireturn, 1) := by decide +kernel
theorem dM_piece_89 : decode cM_piece 89 = .ok (.iload_n 3, 1) := by decide +kernel
theorem dM_piece_90 : decode cM_piece 90 = .ok (.ifCond .eq (7), 3) := by decide +kernel
theorem dM_piece_93 : decode cM_piece 93 = .ok (.iconst (-1), 1) := by decide +kernel
theorem dM_piece_94 : decode cM_piece 94 = .ok (.goto (9), 3) := by decide +kernel
theorem dM_piece_97 : decode cM_piece 97 = .ok (.aload_n 0, 1) := by decide +kernel
theorem dM_piece_98 : decode cM_piece 98 = .ok (.getfield 68, 3) := by decide +kernel
theorem dM_piece_101 : decode cM_piece 101 = .ok (.iload_n 1, 1) := by decide +kernel
theorem dM_piece_102 : decode cM_piece 102 = .ok (.iaload, 1) := by decide +kernel
theorem dM_piece_103 : decode cM_piece 103 = .ok (.ireturn, 1) := by decide +kernel
theorem dM_piece_104 : decode cM_piece 104 = .ok (.iload_n 3, 1) := by decide +kernel
theorem dM_piece_105 : decode cM_piece 105 = .ok (.ifCond .eq (7), 3) := by decide +kernel
theorem dM_piece_108 : decode cM_piece 108 = .ok (.iconst (-1), 1) := by decide +kernel
theorem dM_piece_109 : decode cM_piece 109 = .ok (.goto (8), 3) := by decide +kernel
theorem dM_piece_112 : decode cM_piece 112 = .ok (.aload_n 0, 1) := by decide +kernel
theorem dM_piece_113 : decode cM_piece 113 = .ok (.iload_n 1, 1) := by decide +kernel
theorem dM_piece_114 : decode cM_piece 114 = .ok (.invokevirtual 173, 3) := by decide +kernel
theorem dM_piece_117 : decode cM_piece 117 = .ok (.ireturn, 1) := by decide +kernel
theorem dM_piece_118 : decode cM_piece 118 = .ok (.aload_n 0, 1) := by decide +kernel
theorem dM_piece_119 : decode cM_piece 119 = .ok (.getfield 65, 3) := by decide +kernel
theorem dM_piece_122 : decode cM_piece 122 = .ok (.iload_n 1, 1) := by decide +kernel
theorem dM_piece_123 : decode cM_piece 123 = .ok (.baload, 1) := by decide +kernel
theorem dM_piece_124 : decode cM_piece 124 = .ok (.ifCond .eq (7), 3) := by decide +kernel
theorem dM_piece_127 : decode cM_piece 127 = .ok (.iconst 1, 1) := by decide +kernel
theorem dM_piece_128 : decode cM_piece 128 = .ok (.goto (4), 3) := by decide +kernel
theorem dM_piece_131 : decode cM_piece 131 = .ok (.iconst 0, 1) := by decide +kernel
theorem dM_piece_132 : decode cM_piece 132 = .ok (.ireturn, 1) := by decide +kernel
theorem dM_piece_133 : decode cM_piece 133 = .ok (.iconst (-1), 1) := by decide +kernel
theorem dM_piece_134 : decode cM_piece 134 = .ok (.ireturn, 1) := by decide +kernel
theorem dM_aim_0 : decode cM_aim 0 = .ok (.aload_n 0, 1) := by decide +kernel
theorem dM_aim_1 : decode cM_aim 1 = .ok (.invokevirtual 170, 3) := by decide +kernel
theorem dM_aim_4 : decode cM_aim 4 = .ok (.aload_n 0, 1) := by decide +kernel
theorem dM_aim_5 : decode cM_aim 5 = .ok (.iload_n 1, 1) := by decide +kernel
theorem dM_aim_6 : decode cM_aim 6 = .ok (.invokevirtual 166, 3) := by decide +kernel
theorem dM_aim_9 : decode cM_aim 9 = .ok (.ifCond .eq (19), 3) := by decide +kernel
theorem dM_aim_12 : decode cM_aim 12 = .ok (.aload_n 0, 1) := by decide +kernel
theorem dM_aim_13 : decode cM_aim 13 = .ok (.iload_n 1, 1) := by decide +kernel
theorem dM_aim_14 : decode cM_aim 14 = .ok (.invokevirtual 128, 3) := by decide +kernel
theorem dM_aim_17 : decode cM_aim 17 = .ok (.ifCond .eq (11), 3) := by decide +kernel
theorem dM_aim_20 : decode cM_aim 20 = .ok (.aload_n 0, 1) := by decide +kernel
theorem dM_aim_21 : decode cM_aim 21 = .ok (.iload_n 1, 1) := by decide +kernel
theorem dM_aim_22 : decode cM_aim 22 = .ok (.invokevirtual 134, 3) := by decide +kernel
theorem dM_aim_25 : decode cM_aim 25 = .ok (.goto (6), 3) := by decide +kernel
theorem dM_aim_28 : decode cM_aim 28 = .ok (.ldc2_w 186, 3) := by decide +kernel
theorem dM_aim_31 : decode cM_aim 31 = .ok (.lreturn, 1) := by decide +kernel
theorem dM_value_0 : decode cM_value 0 = .ok (.aload_n 0, 1) := by decide +kernel
theorem dM_value_1 : decode cM_value 1 = .ok (.invokevirtual 170, 3) := by decide +kernel
theorem dM_value_4 : decode cM_value 4 = .ok (.aload_n 0, 1) := by decide +kernel
theorem dM_value_5 : decode cM_value 5 = .ok (.iload_n 1, 1) := by decide +kernel
theorem dM_value_6 : decode cM_value 6 = .ok (.invokevirtual 117, 3) := by decide +kernel
theorem dM_value_9 : decode cM_value 9 = .ok (.ifCond .eq (11), 3) := by decide +kernel
theorem dM_value_12 : decode cM_value 12 = .ok (.aload_n 0, 1) := by decide +kernel
theorem dM_value_13 : decode cM_value 13 = .ok (.iload_n 1, 1) := by decide +kernel
theorem dM_value_14 : decode cM_value 14 = .ok (.invokevirtual 120, 3) := by decide +kernel
theorem dM_value_17 : decode cM_value 17 = .ok (.goto (4), 3) := by decide +kernel
theorem dM_value_20 : decode cM_value 20 = .ok (.iconst (-1), 1) := by decide +kernel
theorem dM_value_21 : decode cM_value 21 = .ok (.ireturn, 1) := by decide +kernel
theorem dM_span_0 : decode cM_span 0 = .ok (.aload_n 0, 1) := by decide +kernel
theorem dM_span_1 : decode cM_span 1 = .ok (.iload_n 1, 1) := by decide +kernel
theorem dM_span_2 : decode cM_span 2 = .ok (.invokevirtual 154, 3) := by decide +kernel
theorem dM_span_5 : decode cM_span 5 = .ok (.ifCond .ne (5), 3) := by decide +kernel
theorem dM_span_8 : decode cM_span 8 = .ok (.iconst (-1), 1) := by decide +kernel
theorem dM_span_9 : decode cM_span 9 = .ok (.ireturn, 1) := by decide +kernel
theorem dM_span_10 : decode cM_span 10 = .ok (.aload_n 0, 1) := by decide +kernel
theorem dM_span_11 : decode cM_span 11 = .ok (.invokevirtual 170, 3) := by decide +kernel
theorem dM_span_14 : decode cM_span 14 = .ok (.iload_n 2, 1) := by decide +kernel
theorem dM_span_15 : decode cM_span 15 = .ok (.tableswitch (110) (0) (4) #[33, 40, 60, 80, 95], 33) := by decide +kernel
theorem dM_span_48 : decode cM_span 48 = .ok (.aload_n 0, 1) := by decide +kernel
theorem dM_span_49 : decode cM_span 49 = .ok (.getfield 19, 3) := by decide +kernel
theorem dM_span_52 : decode cM_span 52 = .ok (.iload_n 1, 1) := by decide +kernel
theorem dM_span_53 : decode cM_span 53 = .ok (.iaload, 1) := by decide +kernel
theorem dM_span_54 : decode cM_span 54 = .ok (.ireturn, 1) := by decide +kernel
theorem dM_span_55 : decode cM_span 55 = .ok (.aload_n 0, 1) := by decide +kernel
theorem dM_span_56 : decode cM_span 56 = .ok (.getfield 29, 3) := by decide +kernel
theorem dM_span_59 : decode cM_span 59 = .ok (.iload_n 1, 1) := by decide +kernel
theorem dM_span_60 : decode cM_span 60 = .ok (.baload, 1) := by decide +kernel
theorem dM_span_61 : decode cM_span 61 = .ok (.ifCond .eq (7), 3) := by decide +kernel
theorem dM_span_64 : decode cM_span 64 = .ok (.iconst (-1), 1) := by decide +kernel
theorem dM_span_65 : decode cM_span 65 = .ok (.goto (9), 3) := by decide +kernel
theorem dM_span_68 : decode cM_span 68 = .ok (.aload_n 0, 1) := by decide +kernel
theorem dM_span_69 : decode cM_span 69 = .ok (.getfield 35, 3) := by decide +kernel
theorem dM_span_72 : decode cM_span 72 = .ok (.iload_n 1, 1) := by decide +kernel
theorem dM_span_73 : decode cM_span 73 = .ok (.iaload, 1) := by decide +kernel
theorem dM_span_74 : decode cM_span 74 = .ok (.ireturn, 1) := by decide +kernel
theorem dM_span_75 : decode cM_span 75 = .ok (.aload_n 0, 1) := by decide +kernel
theorem dM_span_76 : decode cM_span 76 = .ok (.getfield 29, 3) := by decide +kernel
theorem dM_span_79 : decode cM_span 79 = .ok (.iload_n 1, 1) := by decide +kernel
theorem dM_span_80 : decode cM_span 80 = .ok (.baload, 1) := by decide +kernel
theorem dM_span_81 : decode cM_span 81 = .ok (.ifCond .eq (7), 3) := by decide +kernel
theorem dM_span_84 : decode cM_span 84 = .ok (.iconst (-1), 1) := by decide +kernel
theorem dM_span_85 : decode cM_span 85 = .ok (.goto (9), 3) := by decide +kernel
theorem dM_span_88 : decode cM_span 88 = .ok (.aload_n 0, 1) := by decide +kernel
theorem dM_span_89 : decode cM_span 89 = .ok (.getfield 38, 3) := by decide +kernel
theorem dM_span_92 : decode cM_span 92 = .ok (.iload_n 1, 1) := by decide +kernel
theorem dM_span_93 : decode cM_span 93 = .ok (.iaload, 1) := by decide +kernel
theorem dM_span_94 : decode cM_span 94 = .ok (.ireturn, 1) := by decide +kernel
theorem dM_span_95 : decode cM_span 95 = .ok (.aload_n 0, 1) := by decide +kernel
theorem dM_span_96 : decode cM_span 96 = .ok (.getfield 29, 3) := by decide +kernel
theorem dM_span_99 : decode cM_span 99 = .ok (.iload_n 1, 1) := by decide +kernel
theorem dM_span_100 : decode cM_span 100 = .ok (.baload, 1) := by decide +kernel
theorem dM_span_101 : decode cM_span 101 = .ok (.ifCond .eq (7), 3) := by decide +kernel
theorem dM_span_104 : decode cM_span 104 = .ok (.iconst 1, 1) := by decide +kernel
theorem dM_span_105 : decode cM_span 105 = .ok (.goto (4), 3) := by decide +kernel
theorem dM_span_108 : decode cM_span 108 = .ok (.iconst 0, 1) := by decide +kernel
theorem dM_span_109 : decode cM_span 109 = .ok (.ireturn, 1) := by decide +kernel
theorem dM_span_110 : decode cM_span 110 = .ok (.aload_n 0, 1) := by decide +kernel
theorem dM_span_111 : decode cM_span 111 = .ok (.getfield 25, 3) := by decide +kernel
theorem dM_span_114 : decode cM_span 114 = .ok (.iload_n 1, 1) := by decide +kernel
theorem dM_span_115 : decode cM_span 115 = .ok (.baload, 1) := by decide +kernel
theorem dM_span_116 : decode cM_span 116 = .ok (.ifCond .eq (7), 3) := by decide +kernel
theorem dM_span_119 : decode cM_span 119 = .ok (.iconst 1, 1) := by decide +kernel
theorem dM_span_120 : decode cM_span 120 = .ok (.goto (4), 3) := by decide +kernel
theorem dM_span_123 : decode cM_span 123 = .ok (.iconst 0, 1) := by decide +kernel
theorem dM_span_124 : decode cM_span 124 = .ok (.ireturn, 1) := by decide +kernel
theorem dM_span_125 : decode cM_span 125 = .ok (.iconst (-1), 1) := by decide +kernel
theorem dM_span_126 : decode cM_span 126 = .ok (.ireturn, 1) := by decide +kernel
theorem dM_output_0 : decode cM_output 0 = .ok (.iload_n 1, 1) := by decide +kernel
theorem dM_output_1 : decode cM_output 1 = .ok (.iconst 0, 1) := by decide +kernel
theorem dM_output_2 : decode cM_output 2 = .ok (.iconst 3, 1) := by decide +kernel
theorem dM_output_3 : decode cM_output 3 = .ok (.invokestatic 87, 3) := by decide +kernel
theorem dM_output_6 : decode cM_output 6 = .ok (.ifCond .eq (12), 3) := by decide +kernel
theorem dM_output_9 : decode cM_output 9 = .ok (.iload_n 2, 1) := by decide +kernel
theorem dM_output_10 : decode cM_output 10 = .ok (.iconst 0, 1) := by decide +kernel
theorem dM_output_11 : decode cM_output 11 = .ok (.iconst 1, 1) := by decide +kernel
theorem dM_output_12 : decode cM_output 12 = .ok (.invokestatic 87, 3) := by decide +kernel
theorem dM_output_15 : decode cM_output 15 = .ok (.ifCond .ne (5), 3) := by decide +kernel
theorem dM_output_18 : decode cM_output 18 = .ok (.iconst (-1), 1) := by decide +kernel
theorem dM_output_19 : decode cM_output 19 = .ok (.ireturn, 1) := by decide +kernel
theorem dM_output_20 : decode cM_output 20 = .ok (.aload_n 0, 1) := by decide +kernel
theorem dM_output_21 : decode cM_output 21 = .ok (.invokevirtual 170, 3) := by decide +kernel
theorem dM_output_24 : decode cM_output 24 = .ok (.iload_n 2, 1) := by decide +kernel
theorem dM_output_25 : decode cM_output 25 = .ok (.ifCond .ne (12), 3) := by decide +kernel
theorem dM_output_28 : decode cM_output 28 = .ok (.aload_n 0, 1) := by decide +kernel
theorem dM_output_29 : decode cM_output 29 = .ok (.getfield 13, 3) := by decide +kernel
theorem dM_output_32 : decode cM_output 32 = .ok (.iload_n 1, 1) := by decide +kernel
theorem dM_output_33 : decode cM_output 33 = .ok (.iaload, 1) := by decide +kernel
theorem dM_output_34 : decode cM_output 34 = .ok (.goto (9), 3) := by decide +kernel
theorem dM_output_37 : decode cM_output 37 = .ok (.aload_n 0, 1) := by decide +kernel
theorem dM_output_38 : decode cM_output 38 = .ok (.getfield 16, 3) := by decide +kernel
theorem dM_output_41 : decode cM_output 41 = .ok (.iload_n 1, 1) := by decide +kernel
theorem dM_output_42 : decode cM_output 42 = .ok (.iaload, 1) := by decide +kernel
theorem dM_output_43 : decode cM_output 43 = .ok (.ireturn, 1) := by decide +kernel
theorem dM_saved_0 : decode cM_saved 0 = .ok (.iconst 0, 1) := by decide +kernel
theorem dM_saved_1 : decode cM_saved 1 = .ok (.istore_n 1, 1) := by decide +kernel
theorem dM_saved_2 : decode cM_saved 2 = .ok (.iconst 0, 1) := by decide +kernel
theorem dM_saved_3 : decode cM_saved 3 = .ok (.istore_n 2, 1) := by decide +kernel
theorem dM_saved_4 : decode cM_saved 4 = .ok (.iload_n 2, 1) := by decide +kernel
theorem dM_saved_5 : decode cM_saved 5 = .ok (.aload_n 0, 1) := by decide +kernel
theorem dM_saved_6 : decode cM_saved 6 = .ok (.getfield 91, 3) := by decide +kernel
theorem dM_saved_9 : decode cM_saved 9 = .ok (.if_icmp .ge (48), 3) := by decide +kernel
theorem dM_saved_12 : decode cM_saved 12 = .ok (.iload_n 1, 1) := by decide +kernel
theorem dM_saved_13 : decode cM_saved 13 = .ok (.aload_n 0, 1) := by decide +kernel
theorem dM_saved_14 : decode cM_saved 14 = .ok (.iload_n 2, 1) := by decide +kernel
theorem dM_saved_15 : decode cM_saved 15 = .ok (.invokevirtual 114, 3) := by decide +kernel
theorem dM_saved_18 : decode cM_saved 18 = .ok (.ifCond .eq (30), 3) := by decide +kernel
theorem dM_saved_21 : decode cM_saved 21 = .ok (.aload_n 0, 1) := by decide +kernel
theorem dM_saved_22 : decode cM_saved 22 = .ok (.iload_n 2, 1) := by decide +kernel
theorem dM_saved_23 : decode cM_saved 23 = .ok (.invokevirtual 111, 3) := by decide +kernel
theorem dM_saved_26 : decode cM_saved 26 = .ok (.ifCond .ne (22), 3) := by decide +kernel
theorem dM_saved_29 : decode cM_saved 29 = .ok (.aload_n 0, 1) := by decide +kernel
theorem dM_saved_30 : decode cM_saved 30 = .ok (.getfield 41, 3) := by decide +kernel
theorem dM_saved_33 : decode cM_saved 33 = .ok (.iload_n 2, 1) := by decide +kernel
theorem dM_saved_34 : decode cM_saved 34 = .ok (.iaload, 1) := by decide +kernel
theorem dM_saved_35 : decode cM_saved 35 = .ok (.invokestatic 131, 3) := by decide +kernel
theorem dM_saved_38 : decode cM_saved 38 = .ok (.aload_n 0, 1) := by decide +kernel
theorem dM_saved_39 : decode cM_saved 39 = .ok (.getfield 47, 3) := by decide +kernel
theorem dM_saved_42 : decode cM_saved 42 = .ok (.iload_n 2, 1) := by decide +kernel
theorem dM_saved_43 : decode cM_saved 43 = .ok (.iaload, 1) := by decide +kernel
theorem dM_saved_44 : decode cM_saved 44 = .ok (.isub, 1) := by decide +kernel
theorem dM_saved_45 : decode cM_saved 45 = .ok (.goto (4), 3) := by decide +kernel
theorem dM_saved_48 : decode cM_saved 48 = .ok (.iconst 0, 1) := by decide +kernel
theorem dM_saved_49 : decode cM_saved 49 = .ok (.iadd, 1) := by decide +kernel
theorem dM_saved_50 : decode cM_saved 50 = .ok (.istore_n 1, 1) := by decide +kernel
theorem dM_saved_51 : decode cM_saved 51 = .ok (.iinc 2 (1), 3) := by decide +kernel
theorem dM_saved_54 : decode cM_saved 54 = .ok (.goto (-50), 3) := by decide +kernel
theorem dM_saved_57 : decode cM_saved 57 = .ok (.iload_n 1, 1) := by decide +kernel
theorem dM_saved_58 : decode cM_saved 58 = .ok (.ireturn, 1) := by decide +kernel
end
section
theorem dL_law_0 : decode cL_law 0 = .ok (.new 7, 3) := by decide +kernel
theorem dL_law_3 : decode cL_law 3 = .ok (.dup, 1) := by decide +kernel
theorem dL_law_4 : decode cL_law 4 = .ok (.invokespecial 9, 3) := by decide +kernel
theorem dL_law_7 : decode cL_law 7 = .ok (.astore_n 1, 1) := by decide +kernel
theorem dL_law_8 : decode cL_law 8 = .ok (.new 10, 3) := by decide +kernel
theorem dL_law_11 : decode cL_law 11 = .ok (.dup, 1) := by decide +kernel
theorem dL_law_12 : decode cL_law 12 = .ok (.invokespecial 12, 3) := by decide +kernel
theorem dL_law_15 : decode cL_law 15 = .ok (.astore_n 2, 1) := by decide +kernel
theorem dL_law_16 : decode cL_law 16 = .ok (.iconst 0, 1) := by decide +kernel
theorem dL_law_17 : decode cL_law 17 = .ok (.istore_n 3, 1) := by decide +kernel
theorem dL_law_18 : decode cL_law 18 = .ok (.iload_n 3, 1) := by decide +kernel
theorem dL_law_19 : decode cL_law 19 = .ok (.aload_n 0, 1) := by decide +kernel
theorem dL_law_20 : decode cL_law 20 = .ok (.arraylength, 1) := by decide +kernel
theorem dL_law_21 : decode cL_law 21 = .ok (.iconst 5, 1) := by decide +kernel
theorem dL_law_22 : decode cL_law 22 = .ok (.isub, 1) := by decide +kernel
theorem dL_law_23 : decode cL_law 23 = .ok (.if_icmp .gt (841), 3) := by decide +kernel
theorem dL_law_26 : decode cL_law 26 = .ok (.aload_n 0, 1) := by decide +kernel
theorem dL_law_27 : decode cL_law 27 = .ok (.iload_n 3, 1) := by decide +kernel
theorem dL_law_28 : decode cL_law 28 = .ok (.iaload, 1) := by decide +kernel
theorem dL_law_29 : decode cL_law 29 = .ok (.bipush (31), 2) := by decide +kernel
theorem dL_law_31 : decode cL_law 31 = .ok (.iand, 1) := by decide +kernel
theorem dL_law_32 : decode cL_law 32 = .ok (.tableswitch (826) (0) (24) #[116, 149, 182, 251, 320, 363, 406, 419, 462, 485, 518, 567, 580, 591, 604, 617, 630, 641, 654, 667, 700, 724, 747, 780, 813], 116) := by decide +kernel
theorem dL_law_148 : decode cL_law 148 = .ok (.aload_n 1, 1) := by decide +kernel
theorem dL_law_149 : decode cL_law 149 = .ok (.aload_n 0, 1) := by decide +kernel
theorem dL_law_150 : decode cL_law 150 = .ok (.iload_n 3, 1) := by decide +kernel
theorem dL_law_151 : decode cL_law 151 = .ok (.iconst 1, 1) := by decide +kernel
theorem dL_law_152 : decode cL_law 152 = .ok (.iadd, 1) := by decide +kernel
theorem dL_law_153 : decode cL_law 153 = .ok (.iaload, 1) := by decide +kernel
theorem dL_law_154 : decode cL_law 154 = .ok (.aload_n 0, 1) := by decide +kernel
theorem dL_law_155 : decode cL_law 155 = .ok (.iload_n 3, 1) := by decide +kernel
theorem dL_law_156 : decode cL_law 156 = .ok (.iconst 2, 1) := by decide +kernel
theorem dL_law_157 : decode cL_law 157 = .ok (.iadd, 1) := by decide +kernel
theorem dL_law_158 : decode cL_law 158 = .ok (.iaload, 1) := by decide +kernel
theorem dL_law_159 : decode cL_law 159 = .ok (.invokevirtual 13, 3) := by decide +kernel
theorem dL_law_162 : decode cL_law 162 = .ok (.aload_n 2, 1) := by decide +kernel
theorem dL_law_163 : decode cL_law 163 = .ok (.aload_n 0, 1) := by decide +kernel
theorem dL_law_164 : decode cL_law 164 = .ok (.iload_n 3, 1) := by decide +kernel
theorem dL_law_165 : decode cL_law 165 = .ok (.iconst 1, 1) := by decide +kernel
theorem dL_law_166 : decode cL_law 166 = .ok (.iadd, 1) := by decide +kernel
theorem dL_law_167 : decode cL_law 167 = .ok (.iaload, 1) := by decide +kernel
theorem dL_law_168 : decode cL_law 168 = .ok (.aload_n 0, 1) := by decide +kernel
theorem dL_law_169 : decode cL_law 169 = .ok (.iload_n 3, 1) := by decide +kernel
theorem dL_law_170 : decode cL_law 170 = .ok (.iconst 2, 1) := by decide +kernel
theorem dL_law_171 : decode cL_law 171 = .ok (.iadd, 1) := by decide +kernel
theorem dL_law_172 : decode cL_law 172 = .ok (.iaload, 1) := by decide +kernel
theorem dL_law_173 : decode cL_law 173 = .ok (.invokevirtual 17, 3) := by decide +kernel
theorem dL_law_176 : decode cL_law 176 = .ok (.if_icmp .eq (682), 3) := by decide +kernel
theorem dL_law_179 : decode cL_law 179 = .ok (.iconst 0, 1) := by decide +kernel
theorem dL_law_180 : decode cL_law 180 = .ok (.ireturn, 1) := by decide +kernel
theorem dL_law_181 : decode cL_law 181 = .ok (.aload_n 1, 1) := by decide +kernel
theorem dL_law_182 : decode cL_law 182 = .ok (.aload_n 0, 1) := by decide +kernel
theorem dL_law_183 : decode cL_law 183 = .ok (.iload_n 3, 1) := by decide +kernel
theorem dL_law_184 : decode cL_law 184 = .ok (.iconst 1, 1) := by decide +kernel
theorem dL_law_185 : decode cL_law 185 = .ok (.iadd, 1) := by decide +kernel
theorem dL_law_186 : decode cL_law 186 = .ok (.iaload, 1) := by decide +kernel
theorem dL_law_187 : decode cL_law 187 = .ok (.aload_n 0, 1) := by decide +kernel
theorem dL_law_188 : decode cL_law 188 = .ok (.iload_n 3, 1) := by decide +kernel
theorem dL_law_189 : decode cL_law 189 = .ok (.iconst 2, 1) := by decide +kernel
theorem dL_law_190 : decode cL_law 190 = .ok (.iadd, 1) := by decide +kernel
theorem dL_law_191 : decode cL_law 191 = .ok (.iaload, 1) := by decide +kernel
theorem dL_law_192 : decode cL_law 192 = .ok (.invokevirtual 18, 3) := by decide +kernel
theorem dL_law_195 : decode cL_law 195 = .ok (.aload_n 2, 1) := by decide +kernel
theorem dL_law_196 : decode cL_law 196 = .ok (.aload_n 0, 1) := by decide +kernel
theorem dL_law_197 : decode cL_law 197 = .ok (.iload_n 3, 1) := by decide +kernel
theorem dL_law_198 : decode cL_law 198 = .ok (.iconst 1, 1) := by decide +kernel
theorem dL_law_199 : decode cL_law 199 = .ok (.iadd, 1) := by decide +kernel
theorem dL_law_200 : decode cL_law 200 = .ok (.iaload, 1) := by decide +kernel
theorem dL_law_201 : decode cL_law 201 = .ok (.aload_n 0, 1) := by decide +kernel
theorem dL_law_202 : decode cL_law 202 = .ok (.iload_n 3, 1) := by decide +kernel
theorem dL_law_203 : decode cL_law 203 = .ok (.iconst 2, 1) := by decide +kernel
theorem dL_law_204 : decode cL_law 204 = .ok (.iadd, 1) := by decide +kernel
theorem dL_law_205 : decode cL_law 205 = .ok (.iaload, 1) := by decide +kernel
theorem dL_law_206 : decode cL_law 206 = .ok (.invokevirtual 21, 3) := by decide +kernel
theorem dL_law_209 : decode cL_law 209 = .ok (.if_icmp .eq (649), 3) := by decide +kernel
theorem dL_law_212 : decode cL_law 212 = .ok (.iconst 0, 1) := by decide +kernel
theorem dL_law_213 : decode cL_law 213 = .ok (.ireturn, 1) := by decide +kernel
theorem dL_law_214 : decode cL_law 214 = .ok (.aload_n 1, 1) := by decide +kernel
theorem dL_law_215 : decode cL_law 215 = .ok (.aload_n 0, 1) := by decide +kernel
theorem dL_law_216 : decode cL_law 216 = .ok (.iload_n 3, 1) := by decide +kernel
theorem dL_law_217 : decode cL_law 217 = .ok (.iconst 1, 1) := by decide +kernel
theorem dL_law_218 : decode cL_law 218 = .ok (.iadd, 1) := by decide +kernel
theorem dL_law_219 : decode cL_law 219 = .ok (.iaload, 1) := by decide +kernel
theorem dL_law_220 : decode cL_law 220 = .ok (.aload_n 0, 1) := by decide +kernel
theorem dL_law_221 : decode cL_law 221 = .ok (.iload_n 3, 1) := by decide +kernel
theorem dL_law_222 : decode cL_law 222 = .ok (.iconst 2, 1) := by decide +kernel
theorem dL_law_223 : decode cL_law 223 = .ok (.iadd, 1) := by decide +kernel
theorem dL_law_224 : decode cL_law 224 = .ok (.iaload, 1) := by decide +kernel
theorem dL_law_225 : decode cL_law 225 = .ok (.aload_n 0, 1) := by decide +kernel
theorem dL_law_226 : decode cL_law 226 = .ok (.iload_n 3, 1) := by decide +kernel
theorem dL_law_227 : decode cL_law 227 = .ok (.iconst 3, 1) := by decide +kernel
theorem dL_law_228 : decode cL_law 228 = .ok (.iadd, 1) := by decide +kernel
theorem dL_law_229 : decode cL_law 229 = .ok (.iaload, 1) := by decide +kernel
theorem dL_law_230 : decode cL_law 230 = .ok (.aload_n 0, 1) := by decide +kernel
theorem dL_law_231 : decode cL_law 231 = .ok (.iload_n 3, 1) := by decide +kernel
theorem dL_law_232 : decode cL_law 232 = .ok (.iconst 4, 1) := by decide +kernel
theorem dL_law_233 : decode cL_law 233 = .ok (.iadd, 1) := by decide +kernel
theorem dL_law_234 : decode cL_law 234 = .ok (.iaload, 1) := by decide +kernel
theorem dL_law_235 : decode cL_law 235 = .ok (.ifCond .eq (7), 3) := by decide +kernel
theorem dL_law_238 : decode cL_law 238 = .ok (.iconst 1, 1) := by decide +kernel
theorem dL_law_239 : decode cL_law 239 = .ok (.goto (4), 3) := by decide +kernel
theorem dL_law_242 : decode cL_law 242 = .ok (.iconst 0, 1) := by decide +kernel
theorem dL_law_243 : decode cL_law 243 = .ok (.invokevirtual 22, 3) := by decide +kernel
theorem dL_law_246 : decode cL_law 246 = .ok (.aload_n 2, 1) := by decide +kernel
theorem dL_law_247 : decode cL_law 247 = .ok (.aload_n 0, 1) := by decide +kernel
theorem dL_law_248 : decode cL_law 248 = .ok (.iload_n 3, 1) := by decide +kernel
theorem dL_law_249 : decode cL_law 249 = .ok (.iconst 1, 1) := by decide +kernel
theorem dL_law_250 : decode cL_law 250 = .ok (.iadd, 1) := by decide +kernel
theorem dL_law_251 : decode cL_law 251 = .ok (.iaload, 1) := by decide +kernel
theorem dL_law_252 : decode cL_law 252 = .ok (.aload_n 0, 1) := by decide +kernel
theorem dL_law_253 : decode cL_law 253 = .ok (.iload_n 3, 1) := by decide +kernel
theorem dL_law_254 : decode cL_law 254 = .ok (.iconst 2, 1) := by decide +kernel
theorem dL_law_255 : decode cL_law 255 = .ok (.iadd, 1) := by decide +kernel
theorem dL_law_256 : decode cL_law 256 = .ok (.iaload, 1) := by decide +kernel
theorem dL_law_257 : decode cL_law 257 = .ok (.aload_n 0, 1) := by decide +kernel
theorem dL_law_258 : decode cL_law 258 = .ok (.iload_n 3, 1) := by decide +kernel
theorem dL_law_259 : decode cL_law 259 = .ok (.iconst 3, 1) := by decide +kernel
theorem dL_law_260 : decode cL_law 260 = .ok (.iadd, 1) := by decide +kernel
theorem dL_law_261 : decode cL_law 261 = .ok (.iaload, 1) := by decide +kernel
theorem dL_law_262 : decode cL_law 262 = .ok (.aload_n 0, 1) := by decide +kernel
theorem dL_law_263 : decode cL_law 263 = .ok (.iload_n 3, 1) := by decide +kernel
theorem dL_law_264 : decode cL_law 264 = .ok (.iconst 4, 1) := by decide +kernel
theorem dL_law_265 : decode cL_law 265 = .ok (.iadd, 1) := by decide +kernel
theorem dL_law_266 : decode cL_law 266 = .ok (.iaload, 1) := by decide +kernel
theorem dL_law_267 : decode cL_law 267 = .ok (.ifCond .eq (7), 3) := by decide +kernel
theorem dL_law_270 : decode cL_law 270 = .ok (.iconst 1, 1) := by decide +kernel
theorem dL_law_271 : decode cL_law 271 = .ok (.goto (4), 3) := by decide +kernel
theorem dL_law_274 : decode cL_law 274 = .ok (.iconst 0, 1) := by decide +kernel
theorem dL_law_275 : decode cL_law 275 = .ok (.invokevirtual 26, 3) := by decide +kernel
theorem dL_law_278 : decode cL_law 278 = .ok (.if_icmp .eq (580), 3) := by decide +kernel
theorem dL_law_281 : decode cL_law 281 = .ok (.iconst 0, 1) := by decide +kernel
theorem dL_law_282 : decode cL_law 282 = .ok (.ireturn, 1) := by decide +kernel
theorem dL_law_283 : decode cL_law 283 = .ok (.aload_n 1, 1) := by decide +kernel
theorem dL_law_284 : decode cL_law 284 = .ok (.aload_n 0, 1) := by decide +kernel
theorem dL_law_285 : decode cL_law 285 = .ok (.iload_n 3, 1) := by decide +kernel
theorem dL_law_286 : decode cL_law 286 = .ok (.iconst 1, 1) := by decide +kernel
theorem dL_law_287 : decode cL_law 287 = .ok (.iadd, 1) := by decide +kernel
theorem dL_law_288 : decode cL_law 288 = .ok (.iaload, 1) := by decide +kernel
theorem dL_law_289 : decode cL_law 289 = .ok (.aload_n 0, 1) := by decide +kernel
theorem dL_law_290 : decode cL_law 290 = .ok (.iload_n 3, 1) := by decide +kernel
theorem dL_law_291 : decode cL_law 291 = .ok (.iconst 2, 1) := by decide +kernel
theorem dL_law_292 : decode cL_law 292 = .ok (.iadd, 1) := by decide +kernel
theorem dL_law_293 : decode cL_law 293 = .ok (.iaload, 1) := by decide +kernel
theorem dL_law_294 : decode cL_law 294 = .ok (.aload_n 0, 1) := by decide +kernel
theorem dL_law_295 : decode cL_law 295 = .ok (.iload_n 3, 1) := by decide +kernel
theorem dL_law_296 : decode cL_law 296 = .ok (.iconst 3, 1) := by decide +kernel
theorem dL_law_297 : decode cL_law 297 = .ok (.iadd, 1) := by decide +kernel
theorem dL_law_298 : decode cL_law 298 = .ok (.iaload, 1) := by decide +kernel
theorem dL_law_299 : decode cL_law 299 = .ok (.aload_n 0, 1) := by decide +kernel
theorem dL_law_300 : decode cL_law 300 = .ok (.iload_n 3, 1) := by decide +kernel
theorem dL_law_301 : decode cL_law 301 = .ok (.iconst 4, 1) := by decide +kernel
theorem dL_law_302 : decode cL_law 302 = .ok (.iadd, 1) := by decide +kernel
theorem dL_law_303 : decode cL_law 303 = .ok (.iaload, 1) := by decide +kernel
theorem dL_law_304 : decode cL_law 304 = .ok (.ifCond .eq (7), 3) := by decide +kernel
theorem dL_law_307 : decode cL_law 307 = .ok (.iconst 1, 1) := by decide +kernel
theorem dL_law_308 : decode cL_law 308 = .ok (.goto (4), 3) := by decide +kernel
theorem dL_law_311 : decode cL_law 311 = .ok (.iconst 0, 1) := by decide +kernel
theorem dL_law_312 : decode cL_law 312 = .ok (.invokevirtual 27, 3) := by decide +kernel
theorem dL_law_315 : decode cL_law 315 = .ok (.aload_n 2, 1) := by decide +kernel
theorem dL_law_316 : decode cL_law 316 = .ok (.aload_n 0, 1) := by decide +kernel
theorem dL_law_317 : decode cL_law 317 = .ok (.iload_n 3, 1) := by decide +kernel
theorem dL_law_318 : decode cL_law 318 = .ok (.iconst 1, 1) := by decide +kernel
theorem dL_law_319 : decode cL_law 319 = .ok (.iadd, 1) := by decide +kernel
theorem dL_law_320 : decode cL_law 320 = .ok (.iaload, 1) := by decide +kernel
theorem dL_law_321 : decode cL_law 321 = .ok (.aload_n 0, 1) := by decide +kernel
theorem dL_law_322 : decode cL_law 322 = .ok (.iload_n 3, 1) := by decide +kernel
theorem dL_law_323 : decode cL_law 323 = .ok (.iconst 2, 1) := by decide +kernel
theorem dL_law_324 : decode cL_law 324 = .ok (.iadd, 1) := by decide +kernel
theorem dL_law_325 : decode cL_law 325 = .ok (.iaload, 1) := by decide +kernel
theorem dL_law_326 : decode cL_law 326 = .ok (.aload_n 0, 1) := by decide +kernel
theorem dL_law_327 : decode cL_law 327 = .ok (.iload_n 3, 1) := by decide +kernel
theorem dL_law_328 : decode cL_law 328 = .ok (.iconst 3, 1) := by decide +kernel
theorem dL_law_329 : decode cL_law 329 = .ok (.iadd, 1) := by decide +kernel
theorem dL_law_330 : decode cL_law 330 = .ok (.iaload, 1) := by decide +kernel
theorem dL_law_331 : decode cL_law 331 = .ok (.aload_n 0, 1) := by decide +kernel
theorem dL_law_332 : decode cL_law 332 = .ok (.iload_n 3, 1) := by decide +kernel
theorem dL_law_333 : decode cL_law 333 = .ok (.iconst 4, 1) := by decide +kernel
theorem dL_law_334 : decode cL_law 334 = .ok (.iadd, 1) := by decide +kernel
theorem dL_law_335 : decode cL_law 335 = .ok (.iaload, 1) := by decide +kernel
theorem dL_law_336 : decode cL_law 336 = .ok (.ifCond .eq (7), 3) := by decide +kernel
theorem dL_law_339 : decode cL_law 339 = .ok (.iconst 1, 1) := by decide +kernel
theorem dL_law_340 : decode cL_law 340 = .ok (.goto (4), 3) := by decide +kernel
theorem dL_law_343 : decode cL_law 343 = .ok (.iconst 0, 1) := by decide +kernel
theorem dL_law_344 : decode cL_law 344 = .ok (.invokevirtual 30, 3) := by decide +kernel
theorem dL_law_347 : decode cL_law 347 = .ok (.if_icmp .eq (511), 3) := by decide +kernel
theorem dL_law_350 : decode cL_law 350 = .ok (.iconst 0, 1) := by decide +kernel
theorem dL_law_351 : decode cL_law 351 = .ok (.ireturn, 1) := by decide +kernel
theorem dL_law_352 : decode cL_law 352 = .ok (.aload_n 1, 1) := by decide +kernel
theorem dL_law_353 : decode cL_law 353 = .ok (.aload_n 0, 1) := by decide +kernel
theorem dL_law_354 : decode cL_law 354 = .ok (.iload_n 3, 1) := by decide +kernel
theorem dL_law_355 : decode cL_law 355 = .ok (.iconst 1, 1) := by decide +kernel
theorem dL_law_356 : decode cL_law 356 = .ok (.iadd, 1) := by decide +kernel
theorem dL_law_357 : decode cL_law 357 = .ok (.iaload, 1) := by decide +kernel
theorem dL_law_358 : decode cL_law 358 = .ok (.aload_n 0, 1) := by decide +kernel
theorem dL_law_359 : decode cL_law 359 = .ok (.iload_n 3, 1) := by decide +kernel
theorem dL_law_360 : decode cL_law 360 = .ok (.iconst 2, 1) := by decide +kernel
theorem dL_law_361 : decode cL_law 361 = .ok (.iadd, 1) := by decide +kernel
theorem dL_law_362 : decode cL_law 362 = .ok (.iaload, 1) := by decide +kernel
theorem dL_law_363 : decode cL_law 363 = .ok (.aload_n 0, 1) := by decide +kernel
theorem dL_law_364 : decode cL_law 364 = .ok (.iload_n 3, 1) := by decide +kernel
theorem dL_law_365 : decode cL_law 365 = .ok (.iconst 3, 1) := by decide +kernel
theorem dL_law_366 : decode cL_law 366 = .ok (.iadd, 1) := by decide +kernel
theorem dL_law_367 : decode cL_law 367 = .ok (.iaload, 1) := by decide +kernel
theorem dL_law_368 : decode cL_law 368 = .ok (.invokevirtual 31, 3) := by decide +kernel
theorem dL_law_371 : decode cL_law 371 = .ok (.aload_n 2, 1) := by decide +kernel
theorem dL_law_372 : decode cL_law 372 = .ok (.aload_n 0, 1) := by decide +kernel
theorem dL_law_373 : decode cL_law 373 = .ok (.iload_n 3, 1) := by decide +kernel
theorem dL_law_374 : decode cL_law 374 = .ok (.iconst 1, 1) := by decide +kernel
theorem dL_law_375 : decode cL_law 375 = .ok (.iadd, 1) := by decide +kernel
theorem dL_law_376 : decode cL_law 376 = .ok (.iaload, 1) := by decide +kernel
theorem dL_law_377 : decode cL_law 377 = .ok (.aload_n 0, 1) := by decide +kernel
theorem dL_law_378 : decode cL_law 378 = .ok (.iload_n 3, 1) := by decide +kernel
theorem dL_law_379 : decode cL_law 379 = .ok (.iconst 2, 1) := by decide +kernel
theorem dL_law_380 : decode cL_law 380 = .ok (.iadd, 1) := by decide +kernel
theorem dL_law_381 : decode cL_law 381 = .ok (.iaload, 1) := by decide +kernel
theorem dL_law_382 : decode cL_law 382 = .ok (.aload_n 0, 1) := by decide +kernel
theorem dL_law_383 : decode cL_law 383 = .ok (.iload_n 3, 1) := by decide +kernel
theorem dL_law_384 : decode cL_law 384 = .ok (.iconst 3, 1) := by decide +kernel
theorem dL_law_385 : decode cL_law 385 = .ok (.iadd, 1) := by decide +kernel
theorem dL_law_386 : decode cL_law 386 = .ok (.iaload, 1) := by decide +kernel
theorem dL_law_387 : decode cL_law 387 = .ok (.invokevirtual 35, 3) := by decide +kernel
theorem dL_law_390 : decode cL_law 390 = .ok (.if_icmp .eq (468), 3) := by decide +kernel
theorem dL_law_393 : decode cL_law 393 = .ok (.iconst 0, 1) := by decide +kernel
theorem dL_law_394 : decode cL_law 394 = .ok (.ireturn, 1) := by decide +kernel
theorem dL_law_395 : decode cL_law 395 = .ok (.aload_n 1, 1) := by decide +kernel
theorem dL_law_396 : decode cL_law 396 = .ok (.aload_n 0, 1) := by decide +kernel
theorem dL_law_397 : decode cL_law 397 = .ok (.iload_n 3, 1) := by decide +kernel
theorem dL_law_398 : decode cL_law 398 = .ok (.iconst 1, 1) := by decide +kernel
theorem dL_law_399 : decode cL_law 399 = .ok (.iadd, 1) := by decide +kernel
theorem dL_law_400 : decode cL_law 400 = .ok (.iaload, 1) := by decide +kernel
theorem dL_law_401 : decode cL_law 401 = .ok (.aload_n 0, 1) := by decide +kernel
theorem dL_law_402 : decode cL_law 402 = .ok (.iload_n 3, 1) := by decide +kernel
theorem dL_law_403 : decode cL_law 403 = .ok (.iconst 2, 1) := by decide +kernel
theorem dL_law_404 : decode cL_law 404 = .ok (.iadd, 1) := by decide +kernel
theorem dL_law_405 : decode cL_law 405 = .ok (.iaload, 1) := by decide +kernel
theorem dL_law_406 : decode cL_law 406 = .ok (.aload_n 0, 1) := by decide +kernel
theorem dL_law_407 : decode cL_law 407 = .ok (.iload_n 3, 1) := by decide +kernel
theorem dL_law_408 : decode cL_law 408 = .ok (.iconst 3, 1) := by decide +kernel
theorem dL_law_409 : decode cL_law 409 = .ok (.iadd, 1) := by decide +kernel
theorem dL_law_410 : decode cL_law 410 = .ok (.iaload, 1) := by decide +kernel
theorem dL_law_411 : decode cL_law 411 = .ok (.invokevirtual 36, 3) := by decide +kernel
theorem dL_law_414 : decode cL_law 414 = .ok (.aload_n 2, 1) := by decide +kernel
theorem dL_law_415 : decode cL_law 415 = .ok (.aload_n 0, 1) := by decide +kernel
theorem dL_law_416 : decode cL_law 416 = .ok (.iload_n 3, 1) := by decide +kernel
theorem dL_law_417 : decode cL_law 417 = .ok (.iconst 1, 1) := by decide +kernel
theorem dL_law_418 : decode cL_law 418 = .ok (.iadd, 1) := by decide +kernel
theorem dL_law_419 : decode cL_law 419 = .ok (.iaload, 1) := by decide +kernel
theorem dL_law_420 : decode cL_law 420 = .ok (.aload_n 0, 1) := by decide +kernel
theorem dL_law_421 : decode cL_law 421 = .ok (.iload_n 3, 1) := by decide +kernel
theorem dL_law_422 : decode cL_law 422 = .ok (.iconst 2, 1) := by decide +kernel
theorem dL_law_423 : decode cL_law 423 = .ok (.iadd, 1) := by decide +kernel
theorem dL_law_424 : decode cL_law 424 = .ok (.iaload, 1) := by decide +kernel
theorem dL_law_425 : decode cL_law 425 = .ok (.aload_n 0, 1) := by decide +kernel
theorem dL_law_426 : decode cL_law 426 = .ok (.iload_n 3, 1) := by decide +kernel
theorem dL_law_427 : decode cL_law 427 = .ok (.iconst 3, 1) := by decide +kernel
theorem dL_law_428 : decode cL_law 428 = .ok (.iadd, 1) := by decide +kernel
theorem dL_law_429 : decode cL_law 429 = .ok (.iaload, 1) := by decide +kernel
theorem dL_law_430 : decode cL_law 430 = .ok (.invokevirtual 39, 3) := by decide +kernel
theorem dL_law_433 : decode cL_law 433 = .ok (.if_icmp .eq (425), 3) := by decide +kernel
theorem dL_law_436 : decode cL_law 436 = .ok (.iconst 0, 1) := by decide +kernel
theorem dL_law_437 : decode cL_law 437 = .ok (.ireturn, 1) := by decide +kernel
theorem dL_law_438 : decode cL_law 438 = .ok (.aload_n 1, 1) := by decide +kernel
theorem dL_law_439 : decode cL_law 439 = .ok (.invokevirtual 40, 3) := by decide +kernel
theorem dL_law_442 : decode cL_law 442 = .ok (.aload_n 2, 1) := by decide +kernel
theorem dL_law_443 : decode cL_law 443 = .ok (.invokevirtual 44, 3) := by decide +kernel
theorem dL_law_446 : decode cL_law 446 = .ok (.if_icmp .eq (412), 3) := by decide +kernel
theorem dL_law_449 : decode cL_law 449 = .ok (.iconst 0, 1) := by decide +kernel
theorem dL_law_450 : decode cL_law 450 = .ok (.ireturn, 1) := by decide +kernel
theorem dL_law_451 : decode cL_law 451 = .ok (.aload_n 1, 1) := by decide +kernel
theorem dL_law_452 : decode cL_law 452 = .ok (.aload_n 0, 1) := by decide +kernel
theorem dL_law_453 : decode cL_law 453 = .ok (.iload_n 3, 1) := by decide +kernel
theorem dL_law_454 : decode cL_law 454 = .ok (.iconst 1, 1) := by decide +kernel
theorem dL_law_455 : decode cL_law 455 = .ok (.iadd, 1) := by decide +kernel
theorem dL_law_456 : decode cL_law 456 = .ok (.iaload, 1) := by decide +kernel
theorem dL_law_457 : decode cL_law 457 = .ok (.aload_n 0, 1) := by decide +kernel
theorem dL_law_458 : decode cL_law 458 = .ok (.iload_n 3, 1) := by decide +kernel
theorem dL_law_459 : decode cL_law 459 = .ok (.iconst 2, 1) := by decide +kernel
theorem dL_law_460 : decode cL_law 460 = .ok (.iadd, 1) := by decide +kernel
theorem dL_law_461 : decode cL_law 461 = .ok (.iaload, 1) := by decide +kernel
theorem dL_law_462 : decode cL_law 462 = .ok (.aload_n 0, 1) := by decide +kernel
theorem dL_law_463 : decode cL_law 463 = .ok (.iload_n 3, 1) := by decide +kernel
theorem dL_law_464 : decode cL_law 464 = .ok (.iconst 3, 1) := by decide +kernel
theorem dL_law_465 : decode cL_law 465 = .ok (.iadd, 1) := by decide +kernel
theorem dL_law_466 : decode cL_law 466 = .ok (.iaload, 1) := by decide +kernel
theorem dL_law_467 : decode cL_law 467 = .ok (.invokevirtual 45, 3) := by decide +kernel
theorem dL_law_470 : decode cL_law 470 = .ok (.aload_n 2, 1) := by decide +kernel
theorem dL_law_471 : decode cL_law 471 = .ok (.aload_n 0, 1) := by decide +kernel
theorem dL_law_472 : decode cL_law 472 = .ok (.iload_n 3, 1) := by decide +kernel
theorem dL_law_473 : decode cL_law 473 = .ok (.iconst 1, 1) := by decide +kernel
theorem dL_law_474 : decode cL_law 474 = .ok (.iadd, 1) := by decide +kernel
theorem dL_law_475 : decode cL_law 475 = .ok (.iaload, 1) := by decide +kernel
theorem dL_law_476 : decode cL_law 476 = .ok (.aload_n 0, 1) := by decide +kernel
theorem dL_law_477 : decode cL_law 477 = .ok (.iload_n 3, 1) := by decide +kernel
theorem dL_law_478 : decode cL_law 478 = .ok (.iconst 2, 1) := by decide +kernel
theorem dL_law_479 : decode cL_law 479 = .ok (.iadd, 1) := by decide +kernel
theorem dL_law_480 : decode cL_law 480 = .ok (.iaload, 1) := by decide +kernel
theorem dL_law_481 : decode cL_law 481 = .ok (.aload_n 0, 1) := by decide +kernel
theorem dL_law_482 : decode cL_law 482 = .ok (.iload_n 3, 1) := by decide +kernel
theorem dL_law_483 : decode cL_law 483 = .ok (.iconst 3, 1) := by decide +kernel
theorem dL_law_484 : decode cL_law 484 = .ok (.iadd, 1) := by decide +kernel
theorem dL_law_485 : decode cL_law 485 = .ok (.iaload, 1) := by decide +kernel
theorem dL_law_486 : decode cL_law 486 = .ok (.invokevirtual 49, 3) := by decide +kernel
theorem dL_law_489 : decode cL_law 489 = .ok (.if_icmp .eq (369), 3) := by decide +kernel
theorem dL_law_492 : decode cL_law 492 = .ok (.iconst 0, 1) := by decide +kernel
theorem dL_law_493 : decode cL_law 493 = .ok (.ireturn, 1) := by decide +kernel
theorem dL_law_494 : decode cL_law 494 = .ok (.aload_n 1, 1) := by decide +kernel
theorem dL_law_495 : decode cL_law 495 = .ok (.aload_n 0, 1) := by decide +kernel
theorem dL_law_496 : decode cL_law 496 = .ok (.iload_n 3, 1) := by decide +kernel
theorem dL_law_497 : decode cL_law 497 = .ok (.iconst 1, 1) := by decide +kernel
theorem dL_law_498 : decode cL_law 498 = .ok (.iadd, 1) := by decide +kernel
theorem dL_law_499 : decode cL_law 499 = .ok (.iaload, 1) := by decide +kernel
theorem dL_law_500 : decode cL_law 500 = .ok (.invokevirtual 50, 3) := by decide +kernel
theorem dL_law_503 : decode cL_law 503 = .ok (.aload_n 2, 1) := by decide +kernel
theorem dL_law_504 : decode cL_law 504 = .ok (.aload_n 0, 1) := by decide +kernel
theorem dL_law_505 : decode cL_law 505 = .ok (.iload_n 3, 1) := by decide +kernel
theorem dL_law_506 : decode cL_law 506 = .ok (.iconst 1, 1) := by decide +kernel
theorem dL_law_507 : decode cL_law 507 = .ok (.iadd, 1) := by decide +kernel
theorem dL_law_508 : decode cL_law 508 = .ok (.iaload, 1) := by decide +kernel
theorem dL_law_509 : decode cL_law 509 = .ok (.invokevirtual 54, 3) := by decide +kernel
theorem dL_law_512 : decode cL_law 512 = .ok (.if_icmp .eq (346), 3) := by decide +kernel
theorem dL_law_515 : decode cL_law 515 = .ok (.iconst 0, 1) := by decide +kernel
theorem dL_law_516 : decode cL_law 516 = .ok (.ireturn, 1) := by decide +kernel
theorem dL_law_517 : decode cL_law 517 = .ok (.aload_n 1, 1) := by decide +kernel
theorem dL_law_518 : decode cL_law 518 = .ok (.aload_n 0, 1) := by decide +kernel
theorem dL_law_519 : decode cL_law 519 = .ok (.iload_n 3, 1) := by decide +kernel
theorem dL_law_520 : decode cL_law 520 = .ok (.iconst 1, 1) := by decide +kernel
theorem dL_law_521 : decode cL_law 521 = .ok (.iadd, 1) := by decide +kernel
theorem dL_law_522 : decode cL_law 522 = .ok (.iaload, 1) := by decide +kernel
theorem dL_law_523 : decode cL_law 523 = .ok (.aload_n 0, 1) := by decide +kernel
theorem dL_law_524 : decode cL_law 524 = .ok (.iload_n 3, 1) := by decide +kernel
theorem dL_law_525 : decode cL_law 525 = .ok (.iconst 2, 1) := by decide +kernel
theorem dL_law_526 : decode cL_law 526 = .ok (.iadd, 1) := by decide +kernel
theorem dL_law_527 : decode cL_law 527 = .ok (.iaload, 1) := by decide +kernel
theorem dL_law_528 : decode cL_law 528 = .ok (.invokevirtual 55, 3) := by decide +kernel
theorem dL_law_531 : decode cL_law 531 = .ok (.aload_n 2, 1) := by decide +kernel
theorem dL_law_532 : decode cL_law 532 = .ok (.aload_n 0, 1) := by decide +kernel
theorem dL_law_533 : decode cL_law 533 = .ok (.iload_n 3, 1) := by decide +kernel
theorem dL_law_534 : decode cL_law 534 = .ok (.iconst 1, 1) := by decide +kernel
theorem dL_law_535 : decode cL_law 535 = .ok (.iadd, 1) := by decide +kernel
theorem dL_law_536 : decode cL_law 536 = .ok (.iaload, 1) := by decide +kernel
theorem dL_law_537 : decode cL_law 537 = .ok (.aload_n 0, 1) := by decide +kernel
theorem dL_law_538 : decode cL_law 538 = .ok (.iload_n 3, 1) := by decide +kernel
theorem dL_law_539 : decode cL_law 539 = .ok (.iconst 2, 1) := by decide +kernel
theorem dL_law_540 : decode cL_law 540 = .ok (.iadd, 1) := by decide +kernel
theorem dL_law_541 : decode cL_law 541 = .ok (.iaload, 1) := by decide +kernel
theorem dL_law_542 : decode cL_law 542 = .ok (.invokevirtual 59, 3) := by decide +kernel
theorem dL_law_545 : decode cL_law 545 = .ok (.if_icmp .eq (313), 3) := by decide +kernel
theorem dL_law_548 : decode cL_law 548 = .ok (.iconst 0, 1) := by decide +kernel
theorem dL_law_549 : decode cL_law 549 = .ok (.ireturn, 1) := by decide +kernel
theorem dL_law_550 : decode cL_law 550 = .ok (.aload_n 1, 1) := by decide +kernel
theorem dL_law_551 : decode cL_law 551 = .ok (.aload_n 0, 1) := by decide +kernel
theorem dL_law_552 : decode cL_law 552 = .ok (.iload_n 3, 1) := by decide +kernel
theorem dL_law_553 : decode cL_law 553 = .ok (.iconst 1, 1) := by decide +kernel
theorem dL_law_554 : decode cL_law 554 = .ok (.iadd, 1) := by decide +kernel
theorem dL_law_555 : decode cL_law 555 = .ok (.iaload, 1) := by decide +kernel
theorem dL_law_556 : decode cL_law 556 = .ok (.aload_n 0, 1) := by decide +kernel
theorem dL_law_557 : decode cL_law 557 = .ok (.iload_n 3, 1) := by decide +kernel
theorem dL_law_558 : decode cL_law 558 = .ok (.iconst 2, 1) := by decide +kernel
theorem dL_law_559 : decode cL_law 559 = .ok (.iadd, 1) := by decide +kernel
theorem dL_law_560 : decode cL_law 560 = .ok (.iaload, 1) := by decide +kernel
theorem dL_law_561 : decode cL_law 561 = .ok (.ifCond .eq (7), 3) := by decide +kernel
theorem dL_law_564 : decode cL_law 564 = .ok (.iconst 1, 1) := by decide +kernel
theorem dL_law_565 : decode cL_law 565 = .ok (.goto (4), 3) := by decide +kernel
theorem dL_law_568 : decode cL_law 568 = .ok (.iconst 0, 1) := by decide +kernel
theorem dL_law_569 : decode cL_law 569 = .ok (.invokevirtual 60, 3) := by decide +kernel
theorem dL_law_572 : decode cL_law 572 = .ok (.aload_n 2, 1) := by decide +kernel
theorem dL_law_573 : decode cL_law 573 = .ok (.aload_n 0, 1) := by decide +kernel
theorem dL_law_574 : decode cL_law 574 = .ok (.iload_n 3, 1) := by decide +kernel
theorem dL_law_575 : decode cL_law 575 = .ok (.iconst 1, 1) := by decide +kernel
theorem dL_law_576 : decode cL_law 576 = .ok (.iadd, 1) := by decide +kernel
theorem dL_law_577 : decode cL_law 577 = .ok (.iaload, 1) := by decide +kernel
theorem dL_law_578 : decode cL_law 578 = .ok (.aload_n 0, 1) := by decide +kernel
theorem dL_law_579 : decode cL_law 579 = .ok (.iload_n 3, 1) := by decide +kernel
theorem dL_law_580 : decode cL_law 580 = .ok (.iconst 2, 1) := by decide +kernel
theorem dL_law_581 : decode cL_law 581 = .ok (.iadd, 1) := by decide +kernel
theorem dL_law_582 : decode cL_law 582 = .ok (.iaload, 1) := by decide +kernel
theorem dL_law_583 : decode cL_law 583 = .ok (.ifCond .eq (7), 3) := by decide +kernel
theorem dL_law_586 : decode cL_law 586 = .ok (.iconst 1, 1) := by decide +kernel
theorem dL_law_587 : decode cL_law 587 = .ok (.goto (4), 3) := by decide +kernel
theorem dL_law_590 : decode cL_law 590 = .ok (.iconst 0, 1) := by decide +kernel
theorem dL_law_591 : decode cL_law 591 = .ok (.invokevirtual 64, 3) := by decide +kernel
theorem dL_law_594 : decode cL_law 594 = .ok (.if_icmp .eq (264), 3) := by decide +kernel
theorem dL_law_597 : decode cL_law 597 = .ok (.iconst 0, 1) := by decide +kernel
theorem dL_law_598 : decode cL_law 598 = .ok (.ireturn, 1) := by decide +kernel
theorem dL_law_599 : decode cL_law 599 = .ok (.aload_n 1, 1) := by decide +kernel
theorem dL_law_600 : decode cL_law 600 = .ok (.invokevirtual 65, 3) := by decide +kernel
theorem dL_law_603 : decode cL_law 603 = .ok (.aload_n 2, 1) := by decide +kernel
theorem dL_law_604 : decode cL_law 604 = .ok (.invokevirtual 68, 3) := by decide +kernel
theorem dL_law_607 : decode cL_law 607 = .ok (.if_icmp .eq (251), 3) := by decide +kernel
theorem dL_law_610 : decode cL_law 610 = .ok (.iconst 0, 1) := by decide +kernel
theorem dL_law_611 : decode cL_law 611 = .ok (.ireturn, 1) := by decide +kernel
theorem dL_law_612 : decode cL_law 612 = .ok (.aload_n 1, 1) := by decide +kernel
theorem dL_law_613 : decode cL_law 613 = .ok (.invokevirtual 69, 3) := by decide +kernel
theorem dL_law_616 : decode cL_law 616 = .ok (.aload_n 2, 1) := by decide +kernel
theorem dL_law_617 : decode cL_law 617 = .ok (.invokevirtual 72, 3) := by decide +kernel
theorem dL_law_620 : decode cL_law 620 = .ok (.goto (238), 3) := by decide +kernel
theorem dL_law_623 : decode cL_law 623 = .ok (.aload_n 1, 1) := by decide +kernel
theorem dL_law_624 : decode cL_law 624 = .ok (.invokevirtual 73, 3) := by decide +kernel
theorem dL_law_627 : decode cL_law 627 = .ok (.aload_n 2, 1) := by decide +kernel
theorem dL_law_628 : decode cL_law 628 = .ok (.invokevirtual 76, 3) := by decide +kernel
theorem dL_law_631 : decode cL_law 631 = .ok (.if_icmp .eq (227), 3) := by decide +kernel
theorem dL_law_634 : decode cL_law 634 = .ok (.iconst 0, 1) := by decide +kernel
theorem dL_law_635 : decode cL_law 635 = .ok (.ireturn, 1) := by decide +kernel
theorem dL_law_636 : decode cL_law 636 = .ok (.aload_n 1, 1) := by decide +kernel
theorem dL_law_637 : decode cL_law 637 = .ok (.invokevirtual 77, 3) := by decide +kernel
theorem dL_law_640 : decode cL_law 640 = .ok (.aload_n 2, 1) := by decide +kernel
theorem dL_law_641 : decode cL_law 641 = .ok (.invokevirtual 80, 3) := by decide +kernel
theorem dL_law_644 : decode cL_law 644 = .ok (.if_icmp .eq (214), 3) := by decide +kernel
theorem dL_law_647 : decode cL_law 647 = .ok (.iconst 0, 1) := by decide +kernel
theorem dL_law_648 : decode cL_law 648 = .ok (.ireturn, 1) := by decide +kernel
theorem dL_law_649 : decode cL_law 649 = .ok (.aload_n 1, 1) := by decide +kernel
theorem dL_law_650 : decode cL_law 650 = .ok (.invokevirtual 81, 3) := by decide +kernel
theorem dL_law_653 : decode cL_law 653 = .ok (.aload_n 2, 1) := by decide +kernel
theorem dL_law_654 : decode cL_law 654 = .ok (.invokevirtual 84, 3) := by decide +kernel
theorem dL_law_657 : decode cL_law 657 = .ok (.if_icmp .eq (201), 3) := by decide +kernel
theorem dL_law_660 : decode cL_law 660 = .ok (.iconst 0, 1) := by decide +kernel
theorem dL_law_661 : decode cL_law 661 = .ok (.ireturn, 1) := by decide +kernel
theorem dL_law_662 : decode cL_law 662 = .ok (.aload_n 1, 1) := by decide +kernel
theorem dL_law_663 : decode cL_law 663 = .ok (.invokevirtual 85, 3) := by decide +kernel
theorem dL_law_666 : decode cL_law 666 = .ok (.aload_n 2, 1) := by decide +kernel
theorem dL_law_667 : decode cL_law 667 = .ok (.invokevirtual 88, 3) := by decide +kernel
theorem dL_law_670 : decode cL_law 670 = .ok (.goto (188), 3) := by decide +kernel
theorem dL_law_673 : decode cL_law 673 = .ok (.aload_n 1, 1) := by decide +kernel
theorem dL_law_674 : decode cL_law 674 = .ok (.invokevirtual 89, 3) := by decide +kernel
theorem dL_law_677 : decode cL_law 677 = .ok (.aload_n 2, 1) := by decide +kernel
theorem dL_law_678 : decode cL_law 678 = .ok (.invokevirtual 92, 3) := by decide +kernel
theorem dL_law_681 : decode cL_law 681 = .ok (.if_icmp .eq (177), 3) := by decide +kernel
theorem dL_law_684 : decode cL_law 684 = .ok (.iconst 0, 1) := by decide +kernel
theorem dL_law_685 : decode cL_law 685 = .ok (.ireturn, 1) := by decide +kernel
theorem dL_law_686 : decode cL_law 686 = .ok (.aload_n 1, 1) := by decide +kernel
theorem dL_law_687 : decode cL_law 687 = .ok (.invokevirtual 93, 3) := by decide +kernel
theorem dL_law_690 : decode cL_law 690 = .ok (.aload_n 2, 1) := by decide +kernel
theorem dL_law_691 : decode cL_law 691 = .ok (.invokevirtual 96, 3) := by decide +kernel
theorem dL_law_694 : decode cL_law 694 = .ok (.if_icmp .eq (164), 3) := by decide +kernel
theorem dL_law_697 : decode cL_law 697 = .ok (.iconst 0, 1) := by decide +kernel
theorem dL_law_698 : decode cL_law 698 = .ok (.ireturn, 1) := by decide +kernel
theorem dL_law_699 : decode cL_law 699 = .ok (.aload_n 1, 1) := by decide +kernel
theorem dL_law_700 : decode cL_law 700 = .ok (.aload_n 0, 1) := by decide +kernel
theorem dL_law_701 : decode cL_law 701 = .ok (.iload_n 3, 1) := by decide +kernel
theorem dL_law_702 : decode cL_law 702 = .ok (.iconst 1, 1) := by decide +kernel
theorem dL_law_703 : decode cL_law 703 = .ok (.iadd, 1) := by decide +kernel
theorem dL_law_704 : decode cL_law 704 = .ok (.iaload, 1) := by decide +kernel
theorem dL_law_705 : decode cL_law 705 = .ok (.aload_n 0, 1) := by decide +kernel
theorem dL_law_706 : decode cL_law 706 = .ok (.iload_n 3, 1) := by decide +kernel
theorem dL_law_707 : decode cL_law 707 = .ok (.iconst 2, 1) := by decide +kernel
theorem dL_law_708 : decode cL_law 708 = .ok (.iadd, 1) := by decide +kernel
theorem dL_law_709 : decode cL_law 709 = .ok (.iaload, 1) := by decide +kernel
theorem dL_law_710 : decode cL_law 710 = .ok (.invokevirtual 97, 3) := by decide +kernel
theorem dL_law_713 : decode cL_law 713 = .ok (.aload_n 2, 1) := by decide +kernel
theorem dL_law_714 : decode cL_law 714 = .ok (.aload_n 0, 1) := by decide +kernel
theorem dL_law_715 : decode cL_law 715 = .ok (.iload_n 3, 1) := by decide +kernel
theorem dL_law_716 : decode cL_law 716 = .ok (.iconst 1, 1) := by decide +kernel
theorem dL_law_717 : decode cL_law 717 = .ok (.iadd, 1) := by decide +kernel
theorem dL_law_718 : decode cL_law 718 = .ok (.iaload, 1) := by decide +kernel
theorem dL_law_719 : decode cL_law 719 = .ok (.aload_n 0, 1) := by decide +kernel
theorem dL_law_720 : decode cL_law 720 = .ok (.iload_n 3, 1) := by decide +kernel
theorem dL_law_721 : decode cL_law 721 = .ok (.iconst 2, 1) := by decide +kernel
theorem dL_law_722 : decode cL_law 722 = .ok (.iadd, 1) := by decide +kernel
theorem dL_law_723 : decode cL_law 723 = .ok (.iaload, 1) := by decide +kernel
theorem dL_law_724 : decode cL_law 724 = .ok (.invokevirtual 100, 3) := by decide +kernel
theorem dL_law_727 : decode cL_law 727 = .ok (.if_icmp .eq (131), 3) := by decide +kernel
theorem dL_law_730 : decode cL_law 730 = .ok (.iconst 0, 1) := by decide +kernel
theorem dL_law_731 : decode cL_law 731 = .ok (.ireturn, 1) := by decide +kernel
theorem dL_law_732 : decode cL_law 732 = .ok (.aload_n 1, 1) := by decide +kernel
theorem dL_law_733 : decode cL_law 733 = .ok (.aload_n 0, 1) := by decide +kernel
theorem dL_law_734 : decode cL_law 734 = .ok (.iload_n 3, 1) := by decide +kernel
theorem dL_law_735 : decode cL_law 735 = .ok (.iconst 1, 1) := by decide +kernel
theorem dL_law_736 : decode cL_law 736 = .ok (.iadd, 1) := by decide +kernel
theorem dL_law_737 : decode cL_law 737 = .ok (.iaload, 1) := by decide +kernel
theorem dL_law_738 : decode cL_law 738 = .ok (.invokevirtual 101, 3) := by decide +kernel
theorem dL_law_741 : decode cL_law 741 = .ok (.aload_n 2, 1) := by decide +kernel
theorem dL_law_742 : decode cL_law 742 = .ok (.aload_n 0, 1) := by decide +kernel
theorem dL_law_743 : decode cL_law 743 = .ok (.iload_n 3, 1) := by decide +kernel
theorem dL_law_744 : decode cL_law 744 = .ok (.iconst 1, 1) := by decide +kernel
theorem dL_law_745 : decode cL_law 745 = .ok (.iadd, 1) := by decide +kernel
theorem dL_law_746 : decode cL_law 746 = .ok (.iaload, 1) := by decide +kernel
theorem dL_law_747 : decode cL_law 747 = .ok (.invokevirtual 105, 3) := by decide +kernel
theorem dL_law_750 : decode cL_law 750 = .ok (.lcmp, 1) := by decide +kernel
theorem dL_law_751 : decode cL_law 751 = .ok (.ifCond .eq (107), 3) := by decide +kernel
theorem dL_law_754 : decode cL_law 754 = .ok (.iconst 0, 1) := by decide +kernel
theorem dL_law_755 : decode cL_law 755 = .ok (.ireturn, 1) := by decide +kernel
theorem dL_law_756 : decode cL_law 756 = .ok (.aload_n 1, 1) := by decide +kernel
theorem dL_law_757 : decode cL_law 757 = .ok (.aload_n 0, 1) := by decide +kernel
theorem dL_law_758 : decode cL_law 758 = .ok (.iload_n 3, 1) := by decide +kernel
theorem dL_law_759 : decode cL_law 759 = .ok (.iconst 1, 1) := by decide +kernel
theorem dL_law_760 : decode cL_law 760 = .ok (.iadd, 1) := by decide +kernel
theorem dL_law_761 : decode cL_law 761 = .ok (.iaload, 1) := by decide +kernel
theorem dL_law_762 : decode cL_law 762 = .ok (.invokevirtual 106, 3) := by decide +kernel
theorem dL_law_765 : decode cL_law 765 = .ok (.aload_n 2, 1) := by decide +kernel
theorem dL_law_766 : decode cL_law 766 = .ok (.aload_n 0, 1) := by decide +kernel
theorem dL_law_767 : decode cL_law 767 = .ok (.iload_n 3, 1) := by decide +kernel
theorem dL_law_768 : decode cL_law 768 = .ok (.iconst 1, 1) := by decide +kernel
theorem dL_law_769 : decode cL_law 769 = .ok (.iadd, 1) := by decide +kernel
theorem dL_law_770 : decode cL_law 770 = .ok (.iaload, 1) := by decide +kernel
theorem dL_law_771 : decode cL_law 771 = .ok (.invokevirtual 110, 3) := by decide +kernel
theorem dL_law_774 : decode cL_law 774 = .ok (.if_icmp .eq (84), 3) := by decide +kernel
theorem dL_law_777 : decode cL_law 777 = .ok (.iconst 0, 1) := by decide +kernel
theorem dL_law_778 : decode cL_law 778 = .ok (.ireturn, 1) := by decide +kernel
theorem dL_law_779 : decode cL_law 779 = .ok (.aload_n 1, 1) := by decide +kernel
theorem dL_law_780 : decode cL_law 780 = .ok (.aload_n 0, 1) := by decide +kernel
theorem dL_law_781 : decode cL_law 781 = .ok (.iload_n 3, 1) := by decide +kernel
theorem dL_law_782 : decode cL_law 782 = .ok (.iconst 1, 1) := by decide +kernel
theorem dL_law_783 : decode cL_law 783 = .ok (.iadd, 1) := by decide +kernel
theorem dL_law_784 : decode cL_law 784 = .ok (.iaload, 1) := by decide +kernel
theorem dL_law_785 : decode cL_law 785 = .ok (.aload_n 0, 1) := by decide +kernel
theorem dL_law_786 : decode cL_law 786 = .ok (.iload_n 3, 1) := by decide +kernel
theorem dL_law_787 : decode cL_law 787 = .ok (.iconst 2, 1) := by decide +kernel
theorem dL_law_788 : decode cL_law 788 = .ok (.iadd, 1) := by decide +kernel
theorem dL_law_789 : decode cL_law 789 = .ok (.iaload, 1) := by decide +kernel
theorem dL_law_790 : decode cL_law 790 = .ok (.invokevirtual 111, 3) := by decide +kernel
theorem dL_law_793 : decode cL_law 793 = .ok (.aload_n 2, 1) := by decide +kernel
theorem dL_law_794 : decode cL_law 794 = .ok (.aload_n 0, 1) := by decide +kernel
theorem dL_law_795 : decode cL_law 795 = .ok (.iload_n 3, 1) := by decide +kernel
theorem dL_law_796 : decode cL_law 796 = .ok (.iconst 1, 1) := by decide +kernel
theorem dL_law_797 : decode cL_law 797 = .ok (.iadd, 1) := by decide +kernel
theorem dL_law_798 : decode cL_law 798 = .ok (.iaload, 1) := by decide +kernel
theorem dL_law_799 : decode cL_law 799 = .ok (.aload_n 0, 1) := by decide +kernel
theorem dL_law_800 : decode cL_law 800 = .ok (.iload_n 3, 1) := by decide +kernel
theorem dL_law_801 : decode cL_law 801 = .ok (.iconst 2, 1) := by decide +kernel
theorem dL_law_802 : decode cL_law 802 = .ok (.iadd, 1) := by decide +kernel
theorem dL_law_803 : decode cL_law 803 = .ok (.iaload, 1) := by decide +kernel
theorem dL_law_804 : decode cL_law 804 = .ok (.invokevirtual 114, 3) := by decide +kernel
theorem dL_law_807 : decode cL_law 807 = .ok (.if_icmp .eq (51), 3) := by decide +kernel
theorem dL_law_810 : decode cL_law 810 = .ok (.iconst 0, 1) := by decide +kernel
theorem dL_law_811 : decode cL_law 811 = .ok (.ireturn, 1) := by decide +kernel
theorem dL_law_812 : decode cL_law 812 = .ok (.aload_n 1, 1) := by decide +kernel
theorem dL_law_813 : decode cL_law 813 = .ok (.aload_n 0, 1) := by decide +kernel
theorem dL_law_814 : decode cL_law 814 = .ok (.iload_n 3, 1) := by decide +kernel
theorem dL_law_815 : decode cL_law 815 = .ok (.iconst 1, 1) := by decide +kernel
theorem dL_law_816 : decode cL_law 816 = .ok (.iadd, 1) := by decide +kernel
theorem dL_law_817 : decode cL_law 817 = .ok (.iaload, 1) := by decide +kernel
theorem dL_law_818 : decode cL_law 818 = .ok (.aload_n 0, 1) := by decide +kernel
theorem dL_law_819 : decode cL_law 819 = .ok (.iload_n 3, 1) := by decide +kernel
theorem dL_law_820 : decode cL_law 820 = .ok (.iconst 2, 1) := by decide +kernel
theorem dL_law_821 : decode cL_law 821 = .ok (.iadd, 1) := by decide +kernel
theorem dL_law_822 : decode cL_law 822 = .ok (.iaload, 1) := by decide +kernel
theorem dL_law_823 : decode cL_law 823 = .ok (.invokevirtual 115, 3) := by decide +kernel
theorem dL_law_826 : decode cL_law 826 = .ok (.aload_n 2, 1) := by decide +kernel
theorem dL_law_827 : decode cL_law 827 = .ok (.aload_n 0, 1) := by decide +kernel
theorem dL_law_828 : decode cL_law 828 = .ok (.iload_n 3, 1) := by decide +kernel
theorem dL_law_829 : decode cL_law 829 = .ok (.iconst 1, 1) := by decide +kernel
theorem dL_law_830 : decode cL_law 830 = .ok (.iadd, 1) := by decide +kernel
theorem dL_law_831 : decode cL_law 831 = .ok (.iaload, 1) := by decide +kernel
theorem dL_law_832 : decode cL_law 832 = .ok (.aload_n 0, 1) := by decide +kernel
theorem dL_law_833 : decode cL_law 833 = .ok (.iload_n 3, 1) := by decide +kernel
theorem dL_law_834 : decode cL_law 834 = .ok (.iconst 2, 1) := by decide +kernel
theorem dL_law_835 : decode cL_law 835 = .ok (.iadd, 1) := by decide +kernel
theorem dL_law_836 : decode cL_law 836 = .ok (.iaload, 1) := by decide +kernel
theorem dL_law_837 : decode cL_law 837 = .ok (.invokevirtual 118, 3) := by decide +kernel
theorem dL_law_840 : decode cL_law 840 = .ok (.if_icmp .eq (18), 3) := by decide +kernel
theorem dL_law_843 : decode cL_law 843 = .ok (.iconst 0, 1) := by decide +kernel
theorem dL_law_844 : decode cL_law 844 = .ok (.ireturn, 1) := by decide +kernel
theorem dL_law_845 : decode cL_law 845 = .ok (.aload_n 1, 1) := by decide +kernel
theorem dL_law_846 : decode cL_law 846 = .ok (.invokevirtual 119, 3) := by decide +kernel
theorem dL_law_849 : decode cL_law 849 = .ok (.aload_n 2, 1) := by decide +kernel
theorem dL_law_850 : decode cL_law 850 = .ok (.invokevirtual 122, 3) := by decide +kernel
theorem dL_law_853 : decode cL_law 853 = .ok (.if_icmp .eq (5), 3) := by decide +kernel
theorem dL_law_856 : decode cL_law 856 = .ok (.iconst 0, 1) := by decide +kernel
theorem dL_law_857 : decode cL_law 857 = .ok (.ireturn, 1) := by decide +kernel
theorem dL_law_858 : decode cL_law 858 = .ok (.iinc 3 (5), 3) := by decide +kernel
theorem dL_law_861 : decode cL_law 861 = .ok (.goto (-843), 3) := by decide +kernel
theorem dL_law_864 : decode cL_law 864 = .ok (.iconst 1, 1) := by decide +kernel
theorem dL_law_865 : decode cL_law 865 = .ok (.ireturn, 1) := by decide +kernel
end
section
/-! TABLES: what the rows of the pool mean, and the checks that the words are there -/
def xgood (w : Jvm.Cond) : Bool := (w.onTables && w.keeps) || (match w with | .arrayClass _ => true | _ => false)
def xtb : List Jvm.Cond := lw_tbl.filter xgood
theorem xtb_in {w : Jvm.Cond} (h : w ∈ xtb) : w ∈ lw_tbl := (List.mem_filter.mp h).1
theorem xtb_good : ∀ w ∈ xtb, (w.onTables && w.keeps) = true ∨ ∃ ty, w = .arrayClass ty := by
  intro w h
  have h2 := (List.mem_filter.mp h).2
  unfold xgood at h2
  rw [Bool.or_eq_true] at h2
  rcases h2 with h2 | h2
  · exact Or.inl h2
  · cases w <;> first | (exact Or.inr ⟨_, rfl⟩) | (cases h2)
def xty (ci k : Nat) : FieldType := match xcls[ci]? with
  | some q => (parseFieldDescriptor (q.2.1 k).2.2.1).getD .int
  | none => .int
def xsimple (ty : FieldType) : Bool := match ty with
  | .object _ => true
  | .array _ => true
  | .int => true
  | .boolean => true
  | _ => false
def xisR (ty : FieldType) : Bool := match ty with
  | .object _ => true
  | .array _ => true
  | _ => false
def xat (t : Nat) : Option FieldType := match t with
  | 999 => some .int
  | 1001 => some .int
  | 1002 => some .int
  | 1003 => some .boolean
  | 2001 => some (.object "ShrinkLayout$Part")
  | 2002 => some (.object "ShrinkLayout$Piece")
  | 2003 => some (.object "ShrinkLayout$Label")
  | _ => none
def xnt (own : Nat) (t : ArrayType) : Option Nat := match t with
  | .int => match own with
    | 4 => some 1002
    | _ => some 1001
  | .boolean => match own with
    | 4 => some 1003
    | _ => none
  | _ => none
def xFL : List (Nat × Nat × Nat × Nat × Bool × FieldType) := [(3, 11, 3, 0, true, .array (.object "ShrinkLayout$Part")),
  (3, 17, 3, 1, true, .array (.object "ShrinkLayout$Piece")),
  (3, 23, 3, 2, true, .array (.object "ShrinkLayout$Label")),
  (3, 27, 3, 3, true, .array (.int)),
  (3, 31, 3, 4, true, .array (.int)),
  (3, 34, 3, 5, true, .array (.int)),
  (3, 37, 3, 6, false, .int),
  (3, 186, 3, 7, false, .int),
  (3, 74, 3, 8, false, .int),
  (3, 101, 3, 9, false, .int),
  (1, 7, 1, 0, true, .int),
  (3, 161, 1, 0, true, .int),
  (1, 13, 1, 1, true, .int),
  (3, 174, 1, 1, true, .int),
  (1, 16, 1, 2, true, .int),
  (3, 207, 1, 2, true, .int),
  (3, 108, 1, 3, false, .boolean),
  (3, 104, 1, 4, false, .boolean),
  (3, 177, 1, 5, false, .int),
  (3, 180, 1, 6, false, .int),
  (1, 23, 1, 7, false, .object "ShrinkLayout$Piece"),
  (3, 208, 1, 7, false, .object "ShrinkLayout$Piece"),
  (1, 19, 1, 8, false, .object "ShrinkLayout$Piece"),
  (2, 9, 2, 0, true, .int),
  (3, 86, 2, 0, true, .int),
  (2, 15, 2, 1, true, .object "ShrinkLayout$Part"),
  (3, 144, 2, 1, true, .object "ShrinkLayout$Part"),
  (2, 19, 2, 2, true, .object "ShrinkLayout$Label"),
  (3, 128, 2, 2, true, .object "ShrinkLayout$Label"),
  (2, 23, 2, 3, true, .int),
  (3, 248, 2, 3, true, .int),
  (2, 26, 2, 4, true, .boolean),
  (3, 219, 2, 4, true, .boolean),
  (2, 30, 2, 5, true, .int),
  (3, 154, 2, 5, true, .int),
  (2, 33, 2, 6, true, .int),
  (3, 89, 2, 6, true, .int),
  (2, 36, 2, 7, true, .int),
  (3, 132, 2, 7, true, .int),
  (2, 39, 2, 8, false, .int),
  (3, 135, 2, 8, false, .int),
  (3, 151, 2, 9, false, .int),
  (3, 148, 2, 10, false, .int),
  (3, 138, 2, 11, false, .boolean),
  (1, 26, 2, 12, false, .object "ShrinkLayout$Piece"),
  (3, 216, 2, 12, false, .object "ShrinkLayout$Piece"),
  (3, 92, 0, 0, false, .object "ShrinkLayout$Piece"),
  (3, 96, 0, 1, false, .int),
  (4, 97, 4, 0, false, .int),
  (4, 7, 4, 1, true, .array (.int)),
  (4, 13, 4, 2, true, .array (.int)),
  (4, 16, 4, 3, true, .array (.int)),
  (4, 83, 4, 4, false, .int),
  (4, 19, 4, 5, true, .array (.int)),
  (4, 22, 4, 6, true, .array (.int)),
  (4, 25, 4, 7, true, .array (.boolean)),
  (4, 29, 4, 8, true, .array (.boolean)),
  (4, 32, 4, 9, true, .array (.boolean)),
  (4, 35, 4, 10, true, .array (.int)),
  (4, 38, 4, 11, true, .array (.int)),
  (4, 91, 4, 12, false, .int),
  (4, 41, 4, 13, true, .array (.int)),
  (4, 44, 4, 14, true, .array (.int)),
  (4, 47, 4, 15, true, .array (.int)),
  (4, 50, 4, 16, true, .array (.int)),
  (4, 53, 4, 17, true, .array (.int)),
  (4, 56, 4, 18, true, .array (.int)),
  (4, 59, 4, 19, true, .array (.int)),
  (4, 62, 4, 20, true, .array (.boolean)),
  (4, 65, 4, 21, true, .array (.boolean)),
  (4, 68, 4, 22, true, .array (.int)),
  (4, 71, 4, 23, true, .array (.int)),
  (4, 74, 4, 24, true, .array (.int)),
  (4, 94, 4, 25, false, .int),
  (4, 77, 4, 26, true, .array (.int)),
  (4, 80, 4, 27, true, .array (.int))]
def xNC : List (Nat × Nat × Nat × Nat) := [(3, 9, 1, 9), (3, 15, 2, 13), (3, 21, 0, 2), (5, 7, 3, 10), (5, 10, 4, 28)]
def xNA : List (Nat × Nat × Nat × String) := [(3, 9, 2001, "ShrinkLayout$Part"), (3, 15, 2002, "ShrinkLayout$Piece"), (3, 21, 2003, "ShrinkLayout$Label")]
def xKI : List (Nat × Nat × Int32) := [(4, 157, 4194304), (4, 169, 1048576)]
def xKL : List (Nat × Nat × Int64) := [(3, 164, 1099511627776), (3, 230, -2048), (3, 232, 2046), (3, 234, -1048576), (3, 236, 1048574), (3, 238, 2047), (3, 240, 2048), (3, 246, 31), (3, 251, 3), (3, 253, 12), (3, 55, 4194304), (3, 72, 4096), (3, 99, 1048576), (4, 124, -2048), (4, 126, 2047), (4, 138, 2), (4, 144, -1048576), (4, 146, 1048574), (4, 148, 2048), (4, 150, 4096), (4, 152, 131072), (4, 186, 1099511627776)]
def xnest : String × Nat × MethodName := ("ShrinkLayout", 77, yB_init)
def xOI : List (Nat × Nat) := [(0, 1), (1, 1), (2, 3), (3, 3), (4, 1)]
def xMI : List (MethodName × ByteArray × Nat × Option FieldType × Nat × Nat) := [(yS_init, cS_init, 1, none, 2, 0),
  (yS_part, cS_part, 3, (some .int), 1, 2),
  (yS_isOutput, cS_isOutput, 1, (some .boolean), 0, 1),
  (yS_isWithin, cS_isWithin, 6, (some .boolean), 0, 3),
  (yS_isPower, cS_isPower, 1, (some .boolean), 0, 1),
  (yP_init, cP_init, 4, none, 2, 3),
  (yS_plain, cS_plain, 4, (some .int), 1, 2),
  (yQ_init, cQ_init, 5, none, 2, 4),
  (yS_addPiece, cS_addPiece, 2, (some .int), 1, 1),
  (yP_append, cP_append, 2, none, 1, 1),
  (yS_call, cS_call, 5, (some .int), 1, 4),
  (yS_addAimed, cS_addAimed, 8, (some .int), 1, 5),
  (yQ_init2, cQ_init2, 6, none, 2, 5),
  (yS_upper, cS_upper, 5, (some .int), 1, 4),
  (yS_near, cS_near, 4, (some .int), 1, 3),
  (yS_fill, cS_fill, 5, (some .int), 1, 3),
  (yS_label, cS_label, 1, (some .int), 1, 0),
  (yB_init, cB_init, 1, none, 3, 0),
  (yS_put, cS_put, 7, (some .boolean), 1, 3),
  (yS_base, cS_base, 2, (some .boolean), 1, 1),
  (yS_align, cS_align, 3, (some .boolean), 1, 2),
  (yS_root, cS_root, 4, (some .boolean), 1, 2),
  (yS_sweep, cS_sweep, 5, (some .int), 1, 0),
  (yS_bringWhatIsLedTo, cS_bringWhatIsLedTo, 7, (some .boolean), 1, 0),
  (yS_countGone, cS_countGone, 6, (some .int), 1, 0),
  (yS_back, cS_back, 5, none, 1, 0),
  (yS_pass, cS_pass, 1, (some .int), 1, 0),
  (yS_makePass, cS_makePass, 6, (some .int), 1, 0),
  (yS_survey, cS_survey, 6, none, 1, 0),
  (yS_placeOutput, cS_placeOutput, 8, (some .int), 1, 2),
  (yS_bytesToMultiple, cS_bytesToMultiple, 2, (some .int), 0, 2),
  (yS_placePart, cS_placePart, 4, (some .int), 0, 2),
  (yA_min, cA_min, 2, (some .int), 0, 2),
  (yS_leastSize, cS_leastSize, 4, (some .int), 1, 1),
  (yS_aimOf, cS_aimOf, 2, (some .long), 0, 1),
  (yS_valueOf, cS_valueOf, 2, (some .int), 0, 1),
  (yS_leastCall, cS_leastCall, 4, (some .int), 0, 2),
  (yS_leastLoad, cS_leastLoad, 5, (some .int), 0, 3),
  (yA_floorDiv, cA_floorDiv, 6, (some .long), 0, 2),
  (yS_shrink, cS_shrink, 1, (some .int), 1, 0),
  (yS_makePasses, cS_makePasses, 3, (some .int), 1, 0),
  (yS_settle, cS_settle, 4, (some .int), 1, 0),
  (yS_fixWhatDoesNotHold, cS_fixWhatDoesNotHold, 6, (some .int), 1, 0),
  (yS_reset, cS_reset, 5, none, 1, 0),
  (yS_holds, cS_holds, 3, (some .int), 1, 0),
  (yS_lacks, cS_lacks, 3, (some .int), 1, 0),
  (yS_piece, cS_piece, 5, (some .int), 1, 2),
  (yS_aim, cS_aim, 3, (some .long), 1, 1),
  (yS_value, cS_value, 3, (some .int), 1, 1),
  (yS_span, cS_span, 4, (some .int), 1, 2),
  (yS_output, cS_output, 3, (some .int), 1, 2),
  (yS_saved, cS_saved, 6, (some .int), 1, 0),
  (yM_init, cM_init, 1, none, 2, 0),
  (yM_part, cM_part, 3, (some .int), 1, 2),
  (yM_within, cM_within, 3, (some .boolean), 0, 3),
  (yM_plain, cM_plain, 3, (some .int), 1, 2),
  (yM_isPart, cM_isPart, 2, (some .boolean), 1, 1),
  (yM_added, cM_added, 4, (some .int), 1, 3),
  (yM_call, cM_call, 5, (some .int), 1, 4),
  (yM_aimed, cM_aimed, 6, (some .int), 1, 5),
  (yM_isLabel, cM_isLabel, 2, (some .boolean), 1, 1),
  (yM_greatest, cM_greatest, 1, (some .int), 0, 1),
  (yM_upper, cM_upper, 5, (some .int), 1, 4),
  (yM_near, cM_near, 4, (some .int), 1, 3),
  (yM_fill, cM_fill, 4, (some .int), 1, 3),
  (yM_label, cM_label, 1, (some .int), 1, 0),
  (yM_put, cM_put, 4, (some .boolean), 1, 3),
  (yM_isPiece, cM_isPiece, 2, (some .boolean), 1, 1),
  (yM_base, cM_base, 2, (some .boolean), 1, 1),
  (yM_align, cM_align, 3, (some .boolean), 1, 2),
  (yM_root, cM_root, 3, (some .boolean), 1, 2),
  (yM_sweep, cM_sweep, 4, (some .int), 1, 0),
  (yM_shrinks, cM_shrinks, 2, (some .boolean), 1, 1),
  (yM_back, cM_back, 2, none, 1, 0),
  (yM_pass, cM_pass, 3, (some .int), 1, 0),
  (yM_reckon, cM_reckon, 4, none, 1, 0),
  (yM_roundUp, cM_roundUp, 2, (some .int), 0, 2),
  (yM_lay, cM_lay, 6, (some .int), 1, 2),
  (yM_leastOf, cM_leastOf, 7, (some .int), 1, 1),
  (yM_hasAim, cM_hasAim, 2, (some .boolean), 1, 1),
  (yM_hasValue, cM_hasValue, 2, (some .boolean), 1, 1),
  (yM_isGone, cM_isGone, 2, (some .boolean), 1, 1),
  (yM_aimOf, cM_aimOf, 2, (some .long), 1, 1),
  (yM_valueOf, cM_valueOf, 3, (some .int), 1, 1),
  (yM_isNear, cM_isNear, 2, (some .boolean), 0, 1),
  (yM_shrink, cM_shrink, 2, (some .int), 1, 0),
  (yM_settle, cM_settle, 5, (some .int), 1, 0),
  (yM_isTight, cM_isTight, 2, (some .boolean), 1, 1),
  (yM_reset, cM_reset, 2, none, 1, 0),
  (yM_holds, cM_holds, 2, (some .int), 1, 0),
  (yM_lacks, cM_lacks, 2, (some .int), 1, 0),
  (yM_piece, cM_piece, 4, (some .int), 1, 2),
  (yM_aim, cM_aim, 2, (some .long), 1, 1),
  (yM_value, cM_value, 2, (some .int), 1, 1),
  (yM_span, cM_span, 3, (some .int), 1, 2),
  (yM_output, cM_output, 3, (some .int), 1, 2),
  (yM_saved, cM_saved, 3, (some .int), 1, 0),
  (yS_partAt, cS_partAt, 2, (some (.object "ShrinkLayout$Part")), 1, 1),
  (yS_labelAt, cS_labelAt, 2, (some (.object "ShrinkLayout$Label")), 1, 1),
  (yS_pieceAt, cS_pieceAt, 2, (some (.object "ShrinkLayout$Piece")), 1, 1),
  (yS_partLedTo, cS_partLedTo, 1, (some (.object "ShrinkLayout$Part")), 0, 1),
  (yL_law, cL_law, 4, (some .boolean), 0, 1)]
def xmi (k : Nat) : Option (MethodName × ByteArray × Nat × Option FieldType × Nat × Nat) := xMI[k]?
def xFR : List (Nat × Nat) := [(1, 14), (2, 45), (1, 25), (0, 0), (1, 25), (1, 14), (2, 42), (1, 14), (1, 21), (0, 0), (3, 69), (2, 42), (1, 14), (3, 69), (3, 69), (2, 45), (2, 34), (1, 14), (1, 25), (1, 25), (2, 45), (1, 21), (2, 46), (1, 20), (0, 0), (0, 0), (5, 122), (4, 97), (3, 72), (2, 44), (0, 0), (1, 21), (0, 0), (2, 49), (1, 21), (0, 0), (1, 25), (1, 25), (0, 0), (6, 144), (5, 122), (6, 144), (4, 97), (0, 0), (4, 97), (4, 97), (4, 97), (4, 97), (4, 97), (4, 97), (4, 97), (0, 0), (1, 14), (1, 22), (0, 0), (2, 43), (1, 22), (0, 0), (3, 68), (2, 43), (1, 22), (0, 0), (3, 68), (3, 68), (2, 43), (0, 0), (2, 43), (1, 22), (1, 22), (1, 22), (2, 43), (1, 21), (0, 0), (0, 0), (5, 111), (1, 25), (0, 0), (0, 0), (4, 85), (3, 64), (2, 43), (0, 0), (1, 22), (0, 0), (0, 0), (6, 133), (7, 154), (5, 111), (1, 21), (6, 132), (2, 48), (5, 111), (4, 85), (3, 64), (2, 48), (2, 48), (1, 21), (0, 0), (0, 0), (0, 0), (0, 0), (8, 178)]
def xfr (k : Nat) : Nat := (xFR.getD k (0, 0)).1
def xlo (k : Nat) : Nat := (xFR.getD k (0, 0)).2
def xCL : List (Nat × Nat × Nat × Nat × Nat) := [(3, 41, mS_isOutput, 0, 3),
  (3, 45, mS_isPower, 0, 3),
  (3, 48, mP_init, 2, 1),
  (3, 51, mS_partAt, 1, 3),
  (3, 57, mS_isWithin, 0, 3),
  (3, 61, mQ_init, 2, 2),
  (3, 64, mS_addPiece, 1, 3),
  (3, 68, mS_addAimed, 1, 3),
  (3, 77, mB_init, 3, 0),
  (3, 78, mS_labelAt, 1, 3),
  (3, 82, mS_pieceAt, 1, 3),
  (3, 111, mS_bringWhatIsLedTo, 1, 3),
  (3, 115, mS_countGone, 1, 3),
  (3, 119, mS_makePass, 1, 3),
  (3, 122, mS_makePasses, 1, 3),
  (3, 125, mS_fixWhatDoesNotHold, 1, 3),
  (3, 141, mS_survey, 1, 3),
  (3, 157, mS_bytesToMultiple, 0, 3),
  (3, 166, mS_aimOf, 0, 3),
  (3, 170, mS_valueOf, 0, 3),
  (3, 183, mQ_init2, 2, 2),
  (3, 189, mP_append, 1, 1),
  (3, 193, mS_partLedTo, 0, 3),
  (3, 197, mS_placeOutput, 1, 3),
  (3, 200, mS_leastSize, 1, 3),
  (3, 203, mS_placePart, 0, 3),
  (3, 211, mA_min, 0, 0),
  (3, 222, mS_leastCall, 0, 3),
  (3, 226, mS_leastLoad, 0, 3),
  (3, 242, mA_floorDiv, 0, 0),
  (4, 87, mM_within, 0, 4),
  (4, 100, mM_roundUp, 0, 4),
  (4, 104, mM_lay, 1, 4),
  (4, 107, mM_isLabel, 1, 4),
  (4, 111, mM_isGone, 1, 4),
  (4, 114, mM_shrinks, 1, 4),
  (4, 117, mM_hasValue, 1, 4),
  (4, 120, mM_valueOf, 1, 4),
  (4, 128, mM_hasAim, 1, 4),
  (4, 131, mM_greatest, 0, 4),
  (4, 134, mM_aimOf, 1, 4),
  (4, 140, mM_isNear, 0, 4),
  (4, 154, mM_isPart, 1, 4),
  (4, 158, mM_added, 1, 4),
  (4, 162, mM_aimed, 1, 4),
  (4, 166, mM_isPiece, 1, 4),
  (4, 170, mM_reckon, 1, 4),
  (4, 173, mM_leastOf, 1, 4),
  (4, 176, mM_pass, 1, 4),
  (4, 180, mM_shrink, 1, 4),
  (4, 183, mM_isTight, 1, 4),
  (5, 9, mS_init, 2, 3),
  (5, 12, mM_init, 2, 4),
  (5, 13, mS_part, 1, 3),
  (5, 17, mM_part, 1, 4),
  (5, 18, mS_plain, 1, 3),
  (5, 21, mM_plain, 1, 4),
  (5, 22, mS_call, 1, 3),
  (5, 26, mM_call, 1, 4),
  (5, 27, mS_upper, 1, 3),
  (5, 30, mM_upper, 1, 4),
  (5, 31, mS_near, 1, 3),
  (5, 35, mM_near, 1, 4),
  (5, 36, mS_fill, 1, 3),
  (5, 39, mM_fill, 1, 4),
  (5, 40, mS_label, 1, 3),
  (5, 44, mM_label, 1, 4),
  (5, 45, mS_put, 1, 3),
  (5, 49, mM_put, 1, 4),
  (5, 50, mS_base, 1, 3),
  (5, 54, mM_base, 1, 4),
  (5, 55, mS_align, 1, 3),
  (5, 59, mM_align, 1, 4),
  (5, 60, mS_root, 1, 3),
  (5, 64, mM_root, 1, 4),
  (5, 65, mS_sweep, 1, 3),
  (5, 68, mM_sweep, 1, 4),
  (5, 69, mS_back, 1, 3),
  (5, 72, mM_back, 1, 4),
  (5, 73, mS_pass, 1, 3),
  (5, 76, mM_pass, 1, 4),
  (5, 77, mS_shrink, 1, 3),
  (5, 80, mM_shrink, 1, 4),
  (5, 81, mS_settle, 1, 3),
  (5, 84, mM_settle, 1, 4),
  (5, 85, mS_reset, 1, 3),
  (5, 88, mM_reset, 1, 4),
  (5, 89, mS_holds, 1, 3),
  (5, 92, mM_holds, 1, 4),
  (5, 93, mS_lacks, 1, 3),
  (5, 96, mM_lacks, 1, 4),
  (5, 97, mS_piece, 1, 3),
  (5, 100, mM_piece, 1, 4),
  (5, 101, mS_aim, 1, 3),
  (5, 105, mM_aim, 1, 4),
  (5, 106, mS_value, 1, 3),
  (5, 110, mM_value, 1, 4),
  (5, 111, mS_span, 1, 3),
  (5, 114, mM_span, 1, 4),
  (5, 115, mS_output, 1, 3),
  (5, 118, mM_output, 1, 4),
  (5, 119, mS_saved, 1, 3),
  (5, 122, mM_saved, 1, 4)]
def xAO : List String := ["ShrinkLayout$Part", "ShrinkLayout$Piece", "ShrinkLayout$Label"]
def xfl (own idx : Nat) : Option (Nat × Nat × Bool × FieldType) := (xFL.find? (fun r => r.1 == own && r.2.1 == idx)).map (fun r => r.2.2)
def xnc (own idx : Nat) : Option (Nat × Nat) := (xNC.find? (fun r => r.1 == own && r.2.1 == idx)).map (fun r => r.2.2)
def xna (own idx : Nat) : Option Nat := (xNA.find? (fun r => r.1 == own && r.2.1 == idx)).map (fun r => r.2.2.1)
def xki (own idx : Nat) : Option Int32 := (xKI.find? (fun r => r.1 == own && r.2.1 == idx)).map (fun r => r.2.2)
def xkl (own idx : Nat) : Option Int64 := (xKL.find? (fun r => r.1 == own && r.2.1 == idx)).map (fun r => r.2.2)
def xoi (own idx : Nat) : Bool := (xOI.find? (fun r => r.1 == own && r.2 == idx)).isSome
def xcl (own idx : Nat) : Option (Nat × Nat × Nat) := (xCL.find? (fun r => r.1 == own && r.2.1 == idx)).map (fun r => r.2.2)
-- checks
theorem xcls_ok : ∀ q ∈ xcls, (∀ w ∈ u_ws q.1 q.2.1 q.2.2, w ∈ xtb) ∧ (∀ a, a < q.2.2 → ∀ b, b < q.2.2 → a ≠ b → (q.2.1 a).2.1 ≠ (q.2.1 b).2.1) ∧ (∀ k, k < q.2.2 → (q.2.1 k).1 = q.1 ∧ ((parseFieldDescriptor (q.2.1 k).2.2.1).map xsimple) = some true) := by decide +kernel
theorem xcls_tag : ∀ ci, ci < xcls.length → xat (ci + 1) = none := by decide +kernel
theorem xcls_nm : ∀ ci, ci < xcls.length → (xcls[ci]?).map (fun q => q.1) = some (xnm ci) := by decide +kernel
theorem xFL_ok : ∀ r ∈ xFL, (match xcls[r.2.2.1]? with | some q => decide (r.2.2.2.1 < q.2.2) && decide ((q.2.1 r.2.2.2.1).2.2.2 = r.2.2.2.2.1) && decide (parseFieldDescriptor (q.2.1 r.2.2.2.1).2.2.1 = some r.2.2.2.2.2) && decide (Jvm.Cond.fieldLink (xnm r.1) r.2.1 (q.2.1 r.2.2.2.1).1 (q.2.1 r.2.2.2.1).2.1 (q.2.1 r.2.2.2.1).2.2.1 ∈ xtb) | none => false) = true := by decide +kernel
theorem xNC_ok : ∀ r ∈ xNC, (match xcls[r.2.2.1]? with | some q => decide (q.2.2 = r.2.2.2) && decide (Jvm.Cond.classLink (xnm r.1) r.2.1 q.1 ∈ xtb) && decide (Jvm.Cond.instantiable q.1 q.2.2 ∈ xtb) && decide (Jvm.Cond.initialized q.1 ∈ xtb) | none => false) = true := by decide +kernel
theorem xNA_ok : ∀ r ∈ xNA, xat r.2.2.1 = some (.object r.2.2.2) ∧ xcls.length < r.2.2.1 ∧ r.2.2.1 ≠ 999 ∧ Jvm.Cond.classLink (xnm r.1) r.2.1 r.2.2.2 ∈ xtb ∧ r.2.2.2 ∈ xAO := by decide +kernel
theorem xKI_ok : ∀ r ∈ xKI, Jvm.Cond.constant (xnm r.1) r.2.1 r.2.2 ∈ xtb := by decide +kernel
theorem xKL_ok : ∀ r ∈ xKL, Jvm.Cond.constantLong (xnm r.1) r.2.1 r.2.2 ∈ xtb := by decide +kernel
theorem xOI_ok : ∀ r ∈ xOI, Jvm.Cond.methodLink (xnm r.1) r.2 objectInit ∈ xtb := by decide +kernel
theorem xOI_ok2 : Jvm.Cond.instanceMethod objectInit ∈ xtb ∧ Jvm.Cond.code objectInit ⟨#[0xb1]⟩ 1 none ∈ xtb := by decide +kernel
theorem xnt_ok : ∀ own t tg, xnt own t = some tg → xat tg = some (newarray.typeOf t) ∧ xcls.length < tg ∧ tg ≠ 999 ∧ Jvm.Cond.arrayClass (newarray.typeOf t) ∈ xtb ∧ xsimple (newarray.typeOf t) = true ∧ xisR (newarray.typeOf t) = false := by
  intro own t tg h
  cases t <;> simp only [xnt] at h <;> (try (cases h; done)) <;> (split at h <;> cases h <;> decide +kernel)
/-- what a call's row says: the callee, its words, and how it is called -/
def xCLP (r : Nat × Nat × Nat × Nat × Nat) : Prop := ∃ (y : MethodName) (cc : ByteArray) (maxL : Nat) (ret : Option FieldType) (n : Nat), xmi r.2.2.1 = some (y, cc, maxL, ret, r.2.2.2.1, n) ∧ Jvm.Cond.code y cc maxL ret ∈ xtb ∧ Jvm.Cond.initialized y.cls ∈ xtb ∧ (y.cls ≠ "java/lang/invoke/MethodHandle" ∧ y.cls ≠ "java/lang/invoke/VarHandle") ∧ (parseMethodDescriptor y.desc).map (fun d => d.parameters.length) = some n ∧
    (match r.2.2.2.1 with
       | 0 => Jvm.Cond.methodLink (xnm r.1) r.2.1 y ∈ xtb ∧ Jvm.Cond.static y ∈ xtb
       | 1 => Jvm.Cond.methodLink (xnm r.1) r.2.1 y ∈ xtb ∧ Jvm.Cond.instanceMethod y ∈ xtb ∧ Jvm.Cond.selects y.cls y y ∈ xtb ∧ (xcls[r.2.2.2.2]?).map (fun q => q.1) = some y.cls
       | 2 => Jvm.Cond.methodLink (xnm r.1) r.2.1 y ∈ xtb ∧ Jvm.Cond.instanceMethod y ∈ xtb ∧ y.name = "<init>" ∧ ret = none
       | _ => xnest = (xnm r.1, r.2.1, y) ∧ Jvm.Cond.instanceMethod y ∈ xtb ∧ y.name = "<init>" ∧ ret = none)
theorem xa_c {α : Type} {P : α → Prop} {a : α} {l : List α} (h : P a) (t : ∀ r ∈ l, P r) : ∀ r ∈ a :: l, P r := by
  intro r hr
  rcases List.mem_cons.mp hr with rfl | h1
  · exact h
  · exact t r h1
theorem xa_n {α : Type} {P : α → Prop} : ∀ r ∈ ([] : List α), P r := fun r h => by cases h
theorem xtb_at {w : Jvm.Cond} (i : Nat) (h : lw_tbl[i]? = some w) (hg : xgood w = true) : w ∈ xtb := List.mem_filter.mpr ⟨List.mem_of_getElem? h, hg⟩
theorem xw_in_0 : Jvm.Cond.initialized "ShrinkLayout$Label" ∈ xtb := xtb_at 33 (by decide +kernel) (by decide +kernel)
theorem xw_in_1 : Jvm.Cond.initialized "ShrinkLayout$Part" ∈ xtb := xtb_at 31 (by decide +kernel) (by decide +kernel)
theorem xw_in_2 : Jvm.Cond.initialized "ShrinkLayout$Piece" ∈ xtb := xtb_at 32 (by decide +kernel) (by decide +kernel)
theorem xw_in_3 : Jvm.Cond.initialized "ShrinkLayout" ∈ xtb := xtb_at 29 (by decide +kernel) (by decide +kernel)
theorem xw_in_4 : Jvm.Cond.initialized "ShrinkLayoutModel" ∈ xtb := xtb_at 30 (by decide +kernel) (by decide +kernel)
theorem xw_in_5 : Jvm.Cond.initialized "ShrinkLayoutLaw" ∈ xtb := xtb_at 28 (by decide +kernel) (by decide +kernel)
theorem xw_in_6 : Jvm.Cond.initialized "java/lang/Math" ∈ xtb := xtb_at 34 (by decide +kernel) (by decide +kernel)
theorem xw_c_S_init : Jvm.Cond.code yS_init cS_init 1 none ∈ xtb := xtb_at 39 (by decide +kernel) (by decide +kernel)
theorem xw_i_S_init : Jvm.Cond.instanceMethod yS_init ∈ xtb := xtb_at 38 (by decide +kernel) (by decide +kernel)
theorem xw_c_S_part : Jvm.Cond.code yS_part cS_part 3 (some .int) ∈ xtb := xtb_at 84 (by decide +kernel) (by decide +kernel)
theorem xw_i_S_part : Jvm.Cond.instanceMethod yS_part ∈ xtb := xtb_at 82 (by decide +kernel) (by decide +kernel)
theorem xw_v_S_part : Jvm.Cond.selects "ShrinkLayout" yS_part yS_part ∈ xtb := xtb_at 83 (by decide +kernel) (by decide +kernel)
theorem xw_c_S_isOutput : Jvm.Cond.code yS_isOutput cS_isOutput 1 (some .boolean) ∈ xtb := xtb_at 87 (by decide +kernel) (by decide +kernel)
theorem xw_s_S_isOutput : Jvm.Cond.static yS_isOutput ∈ xtb := xtb_at 86 (by decide +kernel) (by decide +kernel)
theorem xw_c_S_isWithin : Jvm.Cond.code yS_isWithin cS_isWithin 6 (some .boolean) ∈ xtb := xtb_at 91 (by decide +kernel) (by decide +kernel)
theorem xw_s_S_isWithin : Jvm.Cond.static yS_isWithin ∈ xtb := xtb_at 90 (by decide +kernel) (by decide +kernel)
theorem xw_c_S_isPower : Jvm.Cond.code yS_isPower cS_isPower 1 (some .boolean) ∈ xtb := xtb_at 94 (by decide +kernel) (by decide +kernel)
theorem xw_s_S_isPower : Jvm.Cond.static yS_isPower ∈ xtb := xtb_at 93 (by decide +kernel) (by decide +kernel)
theorem xw_c_P_init : Jvm.Cond.code yP_init cP_init 4 none ∈ xtb := xtb_at 99 (by decide +kernel) (by decide +kernel)
theorem xw_i_P_init : Jvm.Cond.instanceMethod yP_init ∈ xtb := xtb_at 98 (by decide +kernel) (by decide +kernel)
theorem xw_c_S_plain : Jvm.Cond.code yS_plain cS_plain 4 (some .int) ∈ xtb := xtb_at 136 (by decide +kernel) (by decide +kernel)
theorem xw_i_S_plain : Jvm.Cond.instanceMethod yS_plain ∈ xtb := xtb_at 134 (by decide +kernel) (by decide +kernel)
theorem xw_v_S_plain : Jvm.Cond.selects "ShrinkLayout" yS_plain yS_plain ∈ xtb := xtb_at 135 (by decide +kernel) (by decide +kernel)
theorem xw_c_Q_init : Jvm.Cond.code yQ_init cQ_init 5 none ∈ xtb := xtb_at 145 (by decide +kernel) (by decide +kernel)
theorem xw_i_Q_init : Jvm.Cond.instanceMethod yQ_init ∈ xtb := xtb_at 144 (by decide +kernel) (by decide +kernel)
theorem xw_c_S_addPiece : Jvm.Cond.code yS_addPiece cS_addPiece 2 (some .int) ∈ xtb := xtb_at 200 (by decide +kernel) (by decide +kernel)
theorem xw_i_S_addPiece : Jvm.Cond.instanceMethod yS_addPiece ∈ xtb := xtb_at 199 (by decide +kernel) (by decide +kernel)
theorem xw_v_S_addPiece : Jvm.Cond.selects "ShrinkLayout" yS_addPiece yS_addPiece ∈ xtb := xtb_at 1 (by decide +kernel) (by decide +kernel)
theorem xw_c_P_append : Jvm.Cond.code yP_append cP_append 2 none ∈ xtb := xtb_at 204 (by decide +kernel) (by decide +kernel)
theorem xw_i_P_append : Jvm.Cond.instanceMethod yP_append ∈ xtb := xtb_at 202 (by decide +kernel) (by decide +kernel)
theorem xw_v_P_append : Jvm.Cond.selects "ShrinkLayout$Part" yP_append yP_append ∈ xtb := xtb_at 203 (by decide +kernel) (by decide +kernel)
theorem xw_c_S_call : Jvm.Cond.code yS_call cS_call 5 (some .int) ∈ xtb := xtb_at 208 (by decide +kernel) (by decide +kernel)
theorem xw_i_S_call : Jvm.Cond.instanceMethod yS_call ∈ xtb := xtb_at 206 (by decide +kernel) (by decide +kernel)
theorem xw_v_S_call : Jvm.Cond.selects "ShrinkLayout" yS_call yS_call ∈ xtb := xtb_at 207 (by decide +kernel) (by decide +kernel)
theorem xw_c_S_addAimed : Jvm.Cond.code yS_addAimed cS_addAimed 8 (some .int) ∈ xtb := xtb_at 212 (by decide +kernel) (by decide +kernel)
theorem xw_i_S_addAimed : Jvm.Cond.instanceMethod yS_addAimed ∈ xtb := xtb_at 211 (by decide +kernel) (by decide +kernel)
theorem xw_v_S_addAimed : Jvm.Cond.selects "ShrinkLayout" yS_addAimed yS_addAimed ∈ xtb := xtb_at 2 (by decide +kernel) (by decide +kernel)
theorem xw_c_Q_init2 : Jvm.Cond.code yQ_init2 cQ_init2 6 none ∈ xtb := xtb_at 219 (by decide +kernel) (by decide +kernel)
theorem xw_i_Q_init2 : Jvm.Cond.instanceMethod yQ_init2 ∈ xtb := xtb_at 218 (by decide +kernel) (by decide +kernel)
theorem xw_c_S_upper : Jvm.Cond.code yS_upper cS_upper 5 (some .int) ∈ xtb := xtb_at 223 (by decide +kernel) (by decide +kernel)
theorem xw_i_S_upper : Jvm.Cond.instanceMethod yS_upper ∈ xtb := xtb_at 221 (by decide +kernel) (by decide +kernel)
theorem xw_v_S_upper : Jvm.Cond.selects "ShrinkLayout" yS_upper yS_upper ∈ xtb := xtb_at 222 (by decide +kernel) (by decide +kernel)
theorem xw_c_S_near : Jvm.Cond.code yS_near cS_near 4 (some .int) ∈ xtb := xtb_at 227 (by decide +kernel) (by decide +kernel)
theorem xw_i_S_near : Jvm.Cond.instanceMethod yS_near ∈ xtb := xtb_at 225 (by decide +kernel) (by decide +kernel)
theorem xw_v_S_near : Jvm.Cond.selects "ShrinkLayout" yS_near yS_near ∈ xtb := xtb_at 226 (by decide +kernel) (by decide +kernel)
theorem xw_c_S_fill : Jvm.Cond.code yS_fill cS_fill 5 (some .int) ∈ xtb := xtb_at 231 (by decide +kernel) (by decide +kernel)
theorem xw_i_S_fill : Jvm.Cond.instanceMethod yS_fill ∈ xtb := xtb_at 229 (by decide +kernel) (by decide +kernel)
theorem xw_v_S_fill : Jvm.Cond.selects "ShrinkLayout" yS_fill yS_fill ∈ xtb := xtb_at 230 (by decide +kernel) (by decide +kernel)
theorem xw_c_S_label : Jvm.Cond.code yS_label cS_label 1 (some .int) ∈ xtb := xtb_at 236 (by decide +kernel) (by decide +kernel)
theorem xw_i_S_label : Jvm.Cond.instanceMethod yS_label ∈ xtb := xtb_at 234 (by decide +kernel) (by decide +kernel)
theorem xw_v_S_label : Jvm.Cond.selects "ShrinkLayout" yS_label yS_label ∈ xtb := xtb_at 235 (by decide +kernel) (by decide +kernel)
theorem xw_c_B_init : Jvm.Cond.code yB_init cB_init 1 none ∈ xtb := xtb_at 240 (by decide +kernel) (by decide +kernel)
theorem xw_i_B_init : Jvm.Cond.instanceMethod yB_init ∈ xtb := xtb_at 239 (by decide +kernel) (by decide +kernel)
theorem xw_c_S_put : Jvm.Cond.code yS_put cS_put 7 (some .boolean) ∈ xtb := xtb_at 252 (by decide +kernel) (by decide +kernel)
theorem xw_i_S_put : Jvm.Cond.instanceMethod yS_put ∈ xtb := xtb_at 250 (by decide +kernel) (by decide +kernel)
theorem xw_v_S_put : Jvm.Cond.selects "ShrinkLayout" yS_put yS_put ∈ xtb := xtb_at 251 (by decide +kernel) (by decide +kernel)
theorem xw_c_S_base : Jvm.Cond.code yS_base cS_base 2 (some .boolean) ∈ xtb := xtb_at 260 (by decide +kernel) (by decide +kernel)
theorem xw_i_S_base : Jvm.Cond.instanceMethod yS_base ∈ xtb := xtb_at 258 (by decide +kernel) (by decide +kernel)
theorem xw_v_S_base : Jvm.Cond.selects "ShrinkLayout" yS_base yS_base ∈ xtb := xtb_at 259 (by decide +kernel) (by decide +kernel)
theorem xw_c_S_align : Jvm.Cond.code yS_align cS_align 3 (some .boolean) ∈ xtb := xtb_at 265 (by decide +kernel) (by decide +kernel)
theorem xw_i_S_align : Jvm.Cond.instanceMethod yS_align ∈ xtb := xtb_at 263 (by decide +kernel) (by decide +kernel)
theorem xw_v_S_align : Jvm.Cond.selects "ShrinkLayout" yS_align yS_align ∈ xtb := xtb_at 264 (by decide +kernel) (by decide +kernel)
theorem xw_c_S_root : Jvm.Cond.code yS_root cS_root 4 (some .boolean) ∈ xtb := xtb_at 269 (by decide +kernel) (by decide +kernel)
theorem xw_i_S_root : Jvm.Cond.instanceMethod yS_root ∈ xtb := xtb_at 267 (by decide +kernel) (by decide +kernel)
theorem xw_v_S_root : Jvm.Cond.selects "ShrinkLayout" yS_root yS_root ∈ xtb := xtb_at 268 (by decide +kernel) (by decide +kernel)
theorem xw_c_S_sweep : Jvm.Cond.code yS_sweep cS_sweep 5 (some .int) ∈ xtb := xtb_at 273 (by decide +kernel) (by decide +kernel)
theorem xw_i_S_sweep : Jvm.Cond.instanceMethod yS_sweep ∈ xtb := xtb_at 271 (by decide +kernel) (by decide +kernel)
theorem xw_v_S_sweep : Jvm.Cond.selects "ShrinkLayout" yS_sweep yS_sweep ∈ xtb := xtb_at 272 (by decide +kernel) (by decide +kernel)
theorem xw_c_S_bringWhatIsLedTo : Jvm.Cond.code yS_bringWhatIsLedTo cS_bringWhatIsLedTo 7 (some .boolean) ∈ xtb := xtb_at 277 (by decide +kernel) (by decide +kernel)
theorem xw_i_S_bringWhatIsLedTo : Jvm.Cond.instanceMethod yS_bringWhatIsLedTo ∈ xtb := xtb_at 276 (by decide +kernel) (by decide +kernel)
theorem xw_v_S_bringWhatIsLedTo : Jvm.Cond.selects "ShrinkLayout" yS_bringWhatIsLedTo yS_bringWhatIsLedTo ∈ xtb := xtb_at 5 (by decide +kernel) (by decide +kernel)
theorem xw_c_S_countGone : Jvm.Cond.code yS_countGone cS_countGone 6 (some .int) ∈ xtb := xtb_at 284 (by decide +kernel) (by decide +kernel)
theorem xw_i_S_countGone : Jvm.Cond.instanceMethod yS_countGone ∈ xtb := xtb_at 283 (by decide +kernel) (by decide +kernel)
theorem xw_v_S_countGone : Jvm.Cond.selects "ShrinkLayout" yS_countGone yS_countGone ∈ xtb := xtb_at 6 (by decide +kernel) (by decide +kernel)
theorem xw_c_S_back : Jvm.Cond.code yS_back cS_back 5 none ∈ xtb := xtb_at 288 (by decide +kernel) (by decide +kernel)
theorem xw_i_S_back : Jvm.Cond.instanceMethod yS_back ∈ xtb := xtb_at 286 (by decide +kernel) (by decide +kernel)
theorem xw_v_S_back : Jvm.Cond.selects "ShrinkLayout" yS_back yS_back ∈ xtb := xtb_at 287 (by decide +kernel) (by decide +kernel)
theorem xw_c_S_pass : Jvm.Cond.code yS_pass cS_pass 1 (some .int) ∈ xtb := xtb_at 292 (by decide +kernel) (by decide +kernel)
theorem xw_i_S_pass : Jvm.Cond.instanceMethod yS_pass ∈ xtb := xtb_at 290 (by decide +kernel) (by decide +kernel)
theorem xw_v_S_pass : Jvm.Cond.selects "ShrinkLayout" yS_pass yS_pass ∈ xtb := xtb_at 291 (by decide +kernel) (by decide +kernel)
theorem xw_c_S_makePass : Jvm.Cond.code yS_makePass cS_makePass 6 (some .int) ∈ xtb := xtb_at 296 (by decide +kernel) (by decide +kernel)
theorem xw_i_S_makePass : Jvm.Cond.instanceMethod yS_makePass ∈ xtb := xtb_at 295 (by decide +kernel) (by decide +kernel)
theorem xw_v_S_makePass : Jvm.Cond.selects "ShrinkLayout" yS_makePass yS_makePass ∈ xtb := xtb_at 7 (by decide +kernel) (by decide +kernel)
theorem xw_c_S_survey : Jvm.Cond.code yS_survey cS_survey 6 none ∈ xtb := xtb_at 300 (by decide +kernel) (by decide +kernel)
theorem xw_i_S_survey : Jvm.Cond.instanceMethod yS_survey ∈ xtb := xtb_at 299 (by decide +kernel) (by decide +kernel)
theorem xw_v_S_survey : Jvm.Cond.selects "ShrinkLayout" yS_survey yS_survey ∈ xtb := xtb_at 8 (by decide +kernel) (by decide +kernel)
theorem xw_c_S_placeOutput : Jvm.Cond.code yS_placeOutput cS_placeOutput 8 (some .int) ∈ xtb := xtb_at 304 (by decide +kernel) (by decide +kernel)
theorem xw_i_S_placeOutput : Jvm.Cond.instanceMethod yS_placeOutput ∈ xtb := xtb_at 303 (by decide +kernel) (by decide +kernel)
theorem xw_v_S_placeOutput : Jvm.Cond.selects "ShrinkLayout" yS_placeOutput yS_placeOutput ∈ xtb := xtb_at 9 (by decide +kernel) (by decide +kernel)
theorem xw_c_S_bytesToMultiple : Jvm.Cond.code yS_bytesToMultiple cS_bytesToMultiple 2 (some .int) ∈ xtb := xtb_at 307 (by decide +kernel) (by decide +kernel)
theorem xw_s_S_bytesToMultiple : Jvm.Cond.static yS_bytesToMultiple ∈ xtb := xtb_at 306 (by decide +kernel) (by decide +kernel)
theorem xw_c_S_placePart : Jvm.Cond.code yS_placePart cS_placePart 4 (some .int) ∈ xtb := xtb_at 310 (by decide +kernel) (by decide +kernel)
theorem xw_s_S_placePart : Jvm.Cond.static yS_placePart ∈ xtb := xtb_at 309 (by decide +kernel) (by decide +kernel)
theorem xw_c_A_min : Jvm.Cond.code yA_min cA_min 2 (some .int) ∈ xtb := xtb_at 313 (by decide +kernel) (by decide +kernel)
theorem xw_s_A_min : Jvm.Cond.static yA_min ∈ xtb := xtb_at 312 (by decide +kernel) (by decide +kernel)
theorem xw_c_S_leastSize : Jvm.Cond.code yS_leastSize cS_leastSize 4 (some .int) ∈ xtb := xtb_at 317 (by decide +kernel) (by decide +kernel)
theorem xw_i_S_leastSize : Jvm.Cond.instanceMethod yS_leastSize ∈ xtb := xtb_at 316 (by decide +kernel) (by decide +kernel)
theorem xw_v_S_leastSize : Jvm.Cond.selects "ShrinkLayout" yS_leastSize yS_leastSize ∈ xtb := xtb_at 10 (by decide +kernel) (by decide +kernel)
theorem xw_c_S_aimOf : Jvm.Cond.code yS_aimOf cS_aimOf 2 (some .long) ∈ xtb := xtb_at 320 (by decide +kernel) (by decide +kernel)
theorem xw_s_S_aimOf : Jvm.Cond.static yS_aimOf ∈ xtb := xtb_at 319 (by decide +kernel) (by decide +kernel)
theorem xw_c_S_valueOf : Jvm.Cond.code yS_valueOf cS_valueOf 2 (some .int) ∈ xtb := xtb_at 324 (by decide +kernel) (by decide +kernel)
theorem xw_s_S_valueOf : Jvm.Cond.static yS_valueOf ∈ xtb := xtb_at 323 (by decide +kernel) (by decide +kernel)
theorem xw_c_S_leastCall : Jvm.Cond.code yS_leastCall cS_leastCall 4 (some .int) ∈ xtb := xtb_at 327 (by decide +kernel) (by decide +kernel)
theorem xw_s_S_leastCall : Jvm.Cond.static yS_leastCall ∈ xtb := xtb_at 326 (by decide +kernel) (by decide +kernel)
theorem xw_c_S_leastLoad : Jvm.Cond.code yS_leastLoad cS_leastLoad 5 (some .int) ∈ xtb := xtb_at 334 (by decide +kernel) (by decide +kernel)
theorem xw_s_S_leastLoad : Jvm.Cond.static yS_leastLoad ∈ xtb := xtb_at 333 (by decide +kernel) (by decide +kernel)
theorem xw_c_A_floorDiv : Jvm.Cond.code yA_floorDiv cA_floorDiv 6 (some .long) ∈ xtb := xtb_at 339 (by decide +kernel) (by decide +kernel)
theorem xw_s_A_floorDiv : Jvm.Cond.static yA_floorDiv ∈ xtb := xtb_at 338 (by decide +kernel) (by decide +kernel)
theorem xw_c_S_shrink : Jvm.Cond.code yS_shrink cS_shrink 1 (some .int) ∈ xtb := xtb_at 344 (by decide +kernel) (by decide +kernel)
theorem xw_i_S_shrink : Jvm.Cond.instanceMethod yS_shrink ∈ xtb := xtb_at 342 (by decide +kernel) (by decide +kernel)
theorem xw_v_S_shrink : Jvm.Cond.selects "ShrinkLayout" yS_shrink yS_shrink ∈ xtb := xtb_at 343 (by decide +kernel) (by decide +kernel)
theorem xw_c_S_makePasses : Jvm.Cond.code yS_makePasses cS_makePasses 3 (some .int) ∈ xtb := xtb_at 348 (by decide +kernel) (by decide +kernel)
theorem xw_i_S_makePasses : Jvm.Cond.instanceMethod yS_makePasses ∈ xtb := xtb_at 347 (by decide +kernel) (by decide +kernel)
theorem xw_v_S_makePasses : Jvm.Cond.selects "ShrinkLayout" yS_makePasses yS_makePasses ∈ xtb := xtb_at 11 (by decide +kernel) (by decide +kernel)
theorem xw_c_S_settle : Jvm.Cond.code yS_settle cS_settle 4 (some .int) ∈ xtb := xtb_at 352 (by decide +kernel) (by decide +kernel)
theorem xw_i_S_settle : Jvm.Cond.instanceMethod yS_settle ∈ xtb := xtb_at 350 (by decide +kernel) (by decide +kernel)
theorem xw_v_S_settle : Jvm.Cond.selects "ShrinkLayout" yS_settle yS_settle ∈ xtb := xtb_at 351 (by decide +kernel) (by decide +kernel)
theorem xw_c_S_fixWhatDoesNotHold : Jvm.Cond.code yS_fixWhatDoesNotHold cS_fixWhatDoesNotHold 6 (some .int) ∈ xtb := xtb_at 356 (by decide +kernel) (by decide +kernel)
theorem xw_i_S_fixWhatDoesNotHold : Jvm.Cond.instanceMethod yS_fixWhatDoesNotHold ∈ xtb := xtb_at 355 (by decide +kernel) (by decide +kernel)
theorem xw_v_S_fixWhatDoesNotHold : Jvm.Cond.selects "ShrinkLayout" yS_fixWhatDoesNotHold yS_fixWhatDoesNotHold ∈ xtb := xtb_at 12 (by decide +kernel) (by decide +kernel)
theorem xw_c_S_reset : Jvm.Cond.code yS_reset cS_reset 5 none ∈ xtb := xtb_at 360 (by decide +kernel) (by decide +kernel)
theorem xw_i_S_reset : Jvm.Cond.instanceMethod yS_reset ∈ xtb := xtb_at 358 (by decide +kernel) (by decide +kernel)
theorem xw_v_S_reset : Jvm.Cond.selects "ShrinkLayout" yS_reset yS_reset ∈ xtb := xtb_at 359 (by decide +kernel) (by decide +kernel)
theorem xw_c_S_holds : Jvm.Cond.code yS_holds cS_holds 3 (some .int) ∈ xtb := xtb_at 364 (by decide +kernel) (by decide +kernel)
theorem xw_i_S_holds : Jvm.Cond.instanceMethod yS_holds ∈ xtb := xtb_at 362 (by decide +kernel) (by decide +kernel)
theorem xw_v_S_holds : Jvm.Cond.selects "ShrinkLayout" yS_holds yS_holds ∈ xtb := xtb_at 363 (by decide +kernel) (by decide +kernel)
theorem xw_c_S_lacks : Jvm.Cond.code yS_lacks cS_lacks 3 (some .int) ∈ xtb := xtb_at 368 (by decide +kernel) (by decide +kernel)
theorem xw_i_S_lacks : Jvm.Cond.instanceMethod yS_lacks ∈ xtb := xtb_at 366 (by decide +kernel) (by decide +kernel)
theorem xw_v_S_lacks : Jvm.Cond.selects "ShrinkLayout" yS_lacks yS_lacks ∈ xtb := xtb_at 367 (by decide +kernel) (by decide +kernel)
theorem xw_c_S_piece : Jvm.Cond.code yS_piece cS_piece 5 (some .int) ∈ xtb := xtb_at 372 (by decide +kernel) (by decide +kernel)
theorem xw_i_S_piece : Jvm.Cond.instanceMethod yS_piece ∈ xtb := xtb_at 370 (by decide +kernel) (by decide +kernel)
theorem xw_v_S_piece : Jvm.Cond.selects "ShrinkLayout" yS_piece yS_piece ∈ xtb := xtb_at 371 (by decide +kernel) (by decide +kernel)
theorem xw_c_S_aim : Jvm.Cond.code yS_aim cS_aim 3 (some .long) ∈ xtb := xtb_at 376 (by decide +kernel) (by decide +kernel)
theorem xw_i_S_aim : Jvm.Cond.instanceMethod yS_aim ∈ xtb := xtb_at 374 (by decide +kernel) (by decide +kernel)
theorem xw_v_S_aim : Jvm.Cond.selects "ShrinkLayout" yS_aim yS_aim ∈ xtb := xtb_at 375 (by decide +kernel) (by decide +kernel)
theorem xw_c_S_value : Jvm.Cond.code yS_value cS_value 3 (some .int) ∈ xtb := xtb_at 380 (by decide +kernel) (by decide +kernel)
theorem xw_i_S_value : Jvm.Cond.instanceMethod yS_value ∈ xtb := xtb_at 378 (by decide +kernel) (by decide +kernel)
theorem xw_v_S_value : Jvm.Cond.selects "ShrinkLayout" yS_value yS_value ∈ xtb := xtb_at 379 (by decide +kernel) (by decide +kernel)
theorem xw_c_S_span : Jvm.Cond.code yS_span cS_span 4 (some .int) ∈ xtb := xtb_at 384 (by decide +kernel) (by decide +kernel)
theorem xw_i_S_span : Jvm.Cond.instanceMethod yS_span ∈ xtb := xtb_at 382 (by decide +kernel) (by decide +kernel)
theorem xw_v_S_span : Jvm.Cond.selects "ShrinkLayout" yS_span yS_span ∈ xtb := xtb_at 383 (by decide +kernel) (by decide +kernel)
theorem xw_c_S_output : Jvm.Cond.code yS_output cS_output 3 (some .int) ∈ xtb := xtb_at 388 (by decide +kernel) (by decide +kernel)
theorem xw_i_S_output : Jvm.Cond.instanceMethod yS_output ∈ xtb := xtb_at 386 (by decide +kernel) (by decide +kernel)
theorem xw_v_S_output : Jvm.Cond.selects "ShrinkLayout" yS_output yS_output ∈ xtb := xtb_at 387 (by decide +kernel) (by decide +kernel)
theorem xw_c_S_saved : Jvm.Cond.code yS_saved cS_saved 6 (some .int) ∈ xtb := xtb_at 392 (by decide +kernel) (by decide +kernel)
theorem xw_i_S_saved : Jvm.Cond.instanceMethod yS_saved ∈ xtb := xtb_at 390 (by decide +kernel) (by decide +kernel)
theorem xw_v_S_saved : Jvm.Cond.selects "ShrinkLayout" yS_saved yS_saved ∈ xtb := xtb_at 391 (by decide +kernel) (by decide +kernel)
theorem xw_c_M_init : Jvm.Cond.code yM_init cM_init 1 none ∈ xtb := xtb_at 397 (by decide +kernel) (by decide +kernel)
theorem xw_i_M_init : Jvm.Cond.instanceMethod yM_init ∈ xtb := xtb_at 396 (by decide +kernel) (by decide +kernel)
theorem xw_c_M_part : Jvm.Cond.code yM_part cM_part 3 (some .int) ∈ xtb := xtb_at 488 (by decide +kernel) (by decide +kernel)
theorem xw_i_M_part : Jvm.Cond.instanceMethod yM_part ∈ xtb := xtb_at 486 (by decide +kernel) (by decide +kernel)
theorem xw_v_M_part : Jvm.Cond.selects "ShrinkLayoutModel" yM_part yM_part ∈ xtb := xtb_at 487 (by decide +kernel) (by decide +kernel)
theorem xw_c_M_within : Jvm.Cond.code yM_within cM_within 3 (some .boolean) ∈ xtb := xtb_at 491 (by decide +kernel) (by decide +kernel)
theorem xw_s_M_within : Jvm.Cond.static yM_within ∈ xtb := xtb_at 490 (by decide +kernel) (by decide +kernel)
theorem xw_c_M_plain : Jvm.Cond.code yM_plain cM_plain 3 (some .int) ∈ xtb := xtb_at 495 (by decide +kernel) (by decide +kernel)
theorem xw_i_M_plain : Jvm.Cond.instanceMethod yM_plain ∈ xtb := xtb_at 493 (by decide +kernel) (by decide +kernel)
theorem xw_v_M_plain : Jvm.Cond.selects "ShrinkLayoutModel" yM_plain yM_plain ∈ xtb := xtb_at 494 (by decide +kernel) (by decide +kernel)
theorem xw_c_M_isPart : Jvm.Cond.code yM_isPart cM_isPart 2 (some .boolean) ∈ xtb := xtb_at 499 (by decide +kernel) (by decide +kernel)
theorem xw_i_M_isPart : Jvm.Cond.instanceMethod yM_isPart ∈ xtb := xtb_at 498 (by decide +kernel) (by decide +kernel)
theorem xw_v_M_isPart : Jvm.Cond.selects "ShrinkLayoutModel" yM_isPart yM_isPart ∈ xtb := xtb_at 13 (by decide +kernel) (by decide +kernel)
theorem xw_c_M_added : Jvm.Cond.code yM_added cM_added 4 (some .int) ∈ xtb := xtb_at 504 (by decide +kernel) (by decide +kernel)
theorem xw_i_M_added : Jvm.Cond.instanceMethod yM_added ∈ xtb := xtb_at 503 (by decide +kernel) (by decide +kernel)
theorem xw_v_M_added : Jvm.Cond.selects "ShrinkLayoutModel" yM_added yM_added ∈ xtb := xtb_at 14 (by decide +kernel) (by decide +kernel)
theorem xw_c_M_call : Jvm.Cond.code yM_call cM_call 5 (some .int) ∈ xtb := xtb_at 508 (by decide +kernel) (by decide +kernel)
theorem xw_i_M_call : Jvm.Cond.instanceMethod yM_call ∈ xtb := xtb_at 506 (by decide +kernel) (by decide +kernel)
theorem xw_v_M_call : Jvm.Cond.selects "ShrinkLayoutModel" yM_call yM_call ∈ xtb := xtb_at 507 (by decide +kernel) (by decide +kernel)
theorem xw_c_M_aimed : Jvm.Cond.code yM_aimed cM_aimed 6 (some .int) ∈ xtb := xtb_at 512 (by decide +kernel) (by decide +kernel)
theorem xw_i_M_aimed : Jvm.Cond.instanceMethod yM_aimed ∈ xtb := xtb_at 511 (by decide +kernel) (by decide +kernel)
theorem xw_v_M_aimed : Jvm.Cond.selects "ShrinkLayoutModel" yM_aimed yM_aimed ∈ xtb := xtb_at 15 (by decide +kernel) (by decide +kernel)
theorem xw_c_M_isLabel : Jvm.Cond.code yM_isLabel cM_isLabel 2 (some .boolean) ∈ xtb := xtb_at 516 (by decide +kernel) (by decide +kernel)
theorem xw_i_M_isLabel : Jvm.Cond.instanceMethod yM_isLabel ∈ xtb := xtb_at 515 (by decide +kernel) (by decide +kernel)
theorem xw_v_M_isLabel : Jvm.Cond.selects "ShrinkLayoutModel" yM_isLabel yM_isLabel ∈ xtb := xtb_at 16 (by decide +kernel) (by decide +kernel)
theorem xw_c_M_greatest : Jvm.Cond.code yM_greatest cM_greatest 1 (some .int) ∈ xtb := xtb_at 519 (by decide +kernel) (by decide +kernel)
theorem xw_s_M_greatest : Jvm.Cond.static yM_greatest ∈ xtb := xtb_at 518 (by decide +kernel) (by decide +kernel)
theorem xw_c_M_upper : Jvm.Cond.code yM_upper cM_upper 5 (some .int) ∈ xtb := xtb_at 523 (by decide +kernel) (by decide +kernel)
theorem xw_i_M_upper : Jvm.Cond.instanceMethod yM_upper ∈ xtb := xtb_at 521 (by decide +kernel) (by decide +kernel)
theorem xw_v_M_upper : Jvm.Cond.selects "ShrinkLayoutModel" yM_upper yM_upper ∈ xtb := xtb_at 522 (by decide +kernel) (by decide +kernel)
theorem xw_c_M_near : Jvm.Cond.code yM_near cM_near 4 (some .int) ∈ xtb := xtb_at 527 (by decide +kernel) (by decide +kernel)
theorem xw_i_M_near : Jvm.Cond.instanceMethod yM_near ∈ xtb := xtb_at 525 (by decide +kernel) (by decide +kernel)
theorem xw_v_M_near : Jvm.Cond.selects "ShrinkLayoutModel" yM_near yM_near ∈ xtb := xtb_at 526 (by decide +kernel) (by decide +kernel)
theorem xw_c_M_fill : Jvm.Cond.code yM_fill cM_fill 4 (some .int) ∈ xtb := xtb_at 531 (by decide +kernel) (by decide +kernel)
theorem xw_i_M_fill : Jvm.Cond.instanceMethod yM_fill ∈ xtb := xtb_at 529 (by decide +kernel) (by decide +kernel)
theorem xw_v_M_fill : Jvm.Cond.selects "ShrinkLayoutModel" yM_fill yM_fill ∈ xtb := xtb_at 530 (by decide +kernel) (by decide +kernel)
theorem xw_c_M_label : Jvm.Cond.code yM_label cM_label 1 (some .int) ∈ xtb := xtb_at 535 (by decide +kernel) (by decide +kernel)
theorem xw_i_M_label : Jvm.Cond.instanceMethod yM_label ∈ xtb := xtb_at 533 (by decide +kernel) (by decide +kernel)
theorem xw_v_M_label : Jvm.Cond.selects "ShrinkLayoutModel" yM_label yM_label ∈ xtb := xtb_at 534 (by decide +kernel) (by decide +kernel)
theorem xw_c_M_put : Jvm.Cond.code yM_put cM_put 4 (some .boolean) ∈ xtb := xtb_at 539 (by decide +kernel) (by decide +kernel)
theorem xw_i_M_put : Jvm.Cond.instanceMethod yM_put ∈ xtb := xtb_at 537 (by decide +kernel) (by decide +kernel)
theorem xw_v_M_put : Jvm.Cond.selects "ShrinkLayoutModel" yM_put yM_put ∈ xtb := xtb_at 538 (by decide +kernel) (by decide +kernel)
theorem xw_c_M_isPiece : Jvm.Cond.code yM_isPiece cM_isPiece 2 (some .boolean) ∈ xtb := xtb_at 543 (by decide +kernel) (by decide +kernel)
theorem xw_i_M_isPiece : Jvm.Cond.instanceMethod yM_isPiece ∈ xtb := xtb_at 542 (by decide +kernel) (by decide +kernel)
theorem xw_v_M_isPiece : Jvm.Cond.selects "ShrinkLayoutModel" yM_isPiece yM_isPiece ∈ xtb := xtb_at 17 (by decide +kernel) (by decide +kernel)
theorem xw_c_M_base : Jvm.Cond.code yM_base cM_base 2 (some .boolean) ∈ xtb := xtb_at 547 (by decide +kernel) (by decide +kernel)
theorem xw_i_M_base : Jvm.Cond.instanceMethod yM_base ∈ xtb := xtb_at 545 (by decide +kernel) (by decide +kernel)
theorem xw_v_M_base : Jvm.Cond.selects "ShrinkLayoutModel" yM_base yM_base ∈ xtb := xtb_at 546 (by decide +kernel) (by decide +kernel)
theorem xw_c_M_align : Jvm.Cond.code yM_align cM_align 3 (some .boolean) ∈ xtb := xtb_at 552 (by decide +kernel) (by decide +kernel)
theorem xw_i_M_align : Jvm.Cond.instanceMethod yM_align ∈ xtb := xtb_at 550 (by decide +kernel) (by decide +kernel)
theorem xw_v_M_align : Jvm.Cond.selects "ShrinkLayoutModel" yM_align yM_align ∈ xtb := xtb_at 551 (by decide +kernel) (by decide +kernel)
theorem xw_c_M_root : Jvm.Cond.code yM_root cM_root 3 (some .boolean) ∈ xtb := xtb_at 556 (by decide +kernel) (by decide +kernel)
theorem xw_i_M_root : Jvm.Cond.instanceMethod yM_root ∈ xtb := xtb_at 554 (by decide +kernel) (by decide +kernel)
theorem xw_v_M_root : Jvm.Cond.selects "ShrinkLayoutModel" yM_root yM_root ∈ xtb := xtb_at 555 (by decide +kernel) (by decide +kernel)
theorem xw_c_M_sweep : Jvm.Cond.code yM_sweep cM_sweep 4 (some .int) ∈ xtb := xtb_at 560 (by decide +kernel) (by decide +kernel)
theorem xw_i_M_sweep : Jvm.Cond.instanceMethod yM_sweep ∈ xtb := xtb_at 558 (by decide +kernel) (by decide +kernel)
theorem xw_v_M_sweep : Jvm.Cond.selects "ShrinkLayoutModel" yM_sweep yM_sweep ∈ xtb := xtb_at 559 (by decide +kernel) (by decide +kernel)
theorem xw_c_M_shrinks : Jvm.Cond.code yM_shrinks cM_shrinks 2 (some .boolean) ∈ xtb := xtb_at 564 (by decide +kernel) (by decide +kernel)
theorem xw_i_M_shrinks : Jvm.Cond.instanceMethod yM_shrinks ∈ xtb := xtb_at 563 (by decide +kernel) (by decide +kernel)
theorem xw_v_M_shrinks : Jvm.Cond.selects "ShrinkLayoutModel" yM_shrinks yM_shrinks ∈ xtb := xtb_at 18 (by decide +kernel) (by decide +kernel)
theorem xw_c_M_back : Jvm.Cond.code yM_back cM_back 2 none ∈ xtb := xtb_at 568 (by decide +kernel) (by decide +kernel)
theorem xw_i_M_back : Jvm.Cond.instanceMethod yM_back ∈ xtb := xtb_at 566 (by decide +kernel) (by decide +kernel)
theorem xw_v_M_back : Jvm.Cond.selects "ShrinkLayoutModel" yM_back yM_back ∈ xtb := xtb_at 567 (by decide +kernel) (by decide +kernel)
theorem xw_c_M_pass : Jvm.Cond.code yM_pass cM_pass 3 (some .int) ∈ xtb := xtb_at 572 (by decide +kernel) (by decide +kernel)
theorem xw_i_M_pass : Jvm.Cond.instanceMethod yM_pass ∈ xtb := xtb_at 570 (by decide +kernel) (by decide +kernel)
theorem xw_v_M_pass : Jvm.Cond.selects "ShrinkLayoutModel" yM_pass yM_pass ∈ xtb := xtb_at 571 (by decide +kernel) (by decide +kernel)
theorem xw_c_M_reckon : Jvm.Cond.code yM_reckon cM_reckon 4 none ∈ xtb := xtb_at 576 (by decide +kernel) (by decide +kernel)
theorem xw_i_M_reckon : Jvm.Cond.instanceMethod yM_reckon ∈ xtb := xtb_at 575 (by decide +kernel) (by decide +kernel)
theorem xw_v_M_reckon : Jvm.Cond.selects "ShrinkLayoutModel" yM_reckon yM_reckon ∈ xtb := xtb_at 19 (by decide +kernel) (by decide +kernel)
theorem xw_c_M_roundUp : Jvm.Cond.code yM_roundUp cM_roundUp 2 (some .int) ∈ xtb := xtb_at 579 (by decide +kernel) (by decide +kernel)
theorem xw_s_M_roundUp : Jvm.Cond.static yM_roundUp ∈ xtb := xtb_at 578 (by decide +kernel) (by decide +kernel)
theorem xw_c_M_lay : Jvm.Cond.code yM_lay cM_lay 6 (some .int) ∈ xtb := xtb_at 583 (by decide +kernel) (by decide +kernel)
theorem xw_i_M_lay : Jvm.Cond.instanceMethod yM_lay ∈ xtb := xtb_at 582 (by decide +kernel) (by decide +kernel)
theorem xw_v_M_lay : Jvm.Cond.selects "ShrinkLayoutModel" yM_lay yM_lay ∈ xtb := xtb_at 20 (by decide +kernel) (by decide +kernel)
theorem xw_c_M_leastOf : Jvm.Cond.code yM_leastOf cM_leastOf 7 (some .int) ∈ xtb := xtb_at 587 (by decide +kernel) (by decide +kernel)
theorem xw_i_M_leastOf : Jvm.Cond.instanceMethod yM_leastOf ∈ xtb := xtb_at 586 (by decide +kernel) (by decide +kernel)
theorem xw_v_M_leastOf : Jvm.Cond.selects "ShrinkLayoutModel" yM_leastOf yM_leastOf ∈ xtb := xtb_at 21 (by decide +kernel) (by decide +kernel)
theorem xw_c_M_hasAim : Jvm.Cond.code yM_hasAim cM_hasAim 2 (some .boolean) ∈ xtb := xtb_at 591 (by decide +kernel) (by decide +kernel)
theorem xw_i_M_hasAim : Jvm.Cond.instanceMethod yM_hasAim ∈ xtb := xtb_at 590 (by decide +kernel) (by decide +kernel)
theorem xw_v_M_hasAim : Jvm.Cond.selects "ShrinkLayoutModel" yM_hasAim yM_hasAim ∈ xtb := xtb_at 22 (by decide +kernel) (by decide +kernel)
theorem xw_c_M_hasValue : Jvm.Cond.code yM_hasValue cM_hasValue 2 (some .boolean) ∈ xtb := xtb_at 595 (by decide +kernel) (by decide +kernel)
theorem xw_i_M_hasValue : Jvm.Cond.instanceMethod yM_hasValue ∈ xtb := xtb_at 594 (by decide +kernel) (by decide +kernel)
theorem xw_v_M_hasValue : Jvm.Cond.selects "ShrinkLayoutModel" yM_hasValue yM_hasValue ∈ xtb := xtb_at 23 (by decide +kernel) (by decide +kernel)
theorem xw_c_M_isGone : Jvm.Cond.code yM_isGone cM_isGone 2 (some .boolean) ∈ xtb := xtb_at 599 (by decide +kernel) (by decide +kernel)
theorem xw_i_M_isGone : Jvm.Cond.instanceMethod yM_isGone ∈ xtb := xtb_at 598 (by decide +kernel) (by decide +kernel)
theorem xw_v_M_isGone : Jvm.Cond.selects "ShrinkLayoutModel" yM_isGone yM_isGone ∈ xtb := xtb_at 24 (by decide +kernel) (by decide +kernel)
theorem xw_c_M_aimOf : Jvm.Cond.code yM_aimOf cM_aimOf 2 (some .long) ∈ xtb := xtb_at 603 (by decide +kernel) (by decide +kernel)
theorem xw_i_M_aimOf : Jvm.Cond.instanceMethod yM_aimOf ∈ xtb := xtb_at 602 (by decide +kernel) (by decide +kernel)
theorem xw_v_M_aimOf : Jvm.Cond.selects "ShrinkLayoutModel" yM_aimOf yM_aimOf ∈ xtb := xtb_at 25 (by decide +kernel) (by decide +kernel)
theorem xw_c_M_valueOf : Jvm.Cond.code yM_valueOf cM_valueOf 3 (some .int) ∈ xtb := xtb_at 607 (by decide +kernel) (by decide +kernel)
theorem xw_i_M_valueOf : Jvm.Cond.instanceMethod yM_valueOf ∈ xtb := xtb_at 606 (by decide +kernel) (by decide +kernel)
theorem xw_v_M_valueOf : Jvm.Cond.selects "ShrinkLayoutModel" yM_valueOf yM_valueOf ∈ xtb := xtb_at 26 (by decide +kernel) (by decide +kernel)
theorem xw_c_M_isNear : Jvm.Cond.code yM_isNear cM_isNear 2 (some .boolean) ∈ xtb := xtb_at 611 (by decide +kernel) (by decide +kernel)
theorem xw_s_M_isNear : Jvm.Cond.static yM_isNear ∈ xtb := xtb_at 610 (by decide +kernel) (by decide +kernel)
theorem xw_c_M_shrink : Jvm.Cond.code yM_shrink cM_shrink 2 (some .int) ∈ xtb := xtb_at 622 (by decide +kernel) (by decide +kernel)
theorem xw_i_M_shrink : Jvm.Cond.instanceMethod yM_shrink ∈ xtb := xtb_at 620 (by decide +kernel) (by decide +kernel)
theorem xw_v_M_shrink : Jvm.Cond.selects "ShrinkLayoutModel" yM_shrink yM_shrink ∈ xtb := xtb_at 621 (by decide +kernel) (by decide +kernel)
theorem xw_c_M_settle : Jvm.Cond.code yM_settle cM_settle 5 (some .int) ∈ xtb := xtb_at 627 (by decide +kernel) (by decide +kernel)
theorem xw_i_M_settle : Jvm.Cond.instanceMethod yM_settle ∈ xtb := xtb_at 625 (by decide +kernel) (by decide +kernel)
theorem xw_v_M_settle : Jvm.Cond.selects "ShrinkLayoutModel" yM_settle yM_settle ∈ xtb := xtb_at 626 (by decide +kernel) (by decide +kernel)
theorem xw_c_M_isTight : Jvm.Cond.code yM_isTight cM_isTight 2 (some .boolean) ∈ xtb := xtb_at 632 (by decide +kernel) (by decide +kernel)
theorem xw_i_M_isTight : Jvm.Cond.instanceMethod yM_isTight ∈ xtb := xtb_at 631 (by decide +kernel) (by decide +kernel)
theorem xw_v_M_isTight : Jvm.Cond.selects "ShrinkLayoutModel" yM_isTight yM_isTight ∈ xtb := xtb_at 27 (by decide +kernel) (by decide +kernel)
theorem xw_c_M_reset : Jvm.Cond.code yM_reset cM_reset 2 none ∈ xtb := xtb_at 636 (by decide +kernel) (by decide +kernel)
theorem xw_i_M_reset : Jvm.Cond.instanceMethod yM_reset ∈ xtb := xtb_at 634 (by decide +kernel) (by decide +kernel)
theorem xw_v_M_reset : Jvm.Cond.selects "ShrinkLayoutModel" yM_reset yM_reset ∈ xtb := xtb_at 635 (by decide +kernel) (by decide +kernel)
theorem xw_c_M_holds : Jvm.Cond.code yM_holds cM_holds 2 (some .int) ∈ xtb := xtb_at 640 (by decide +kernel) (by decide +kernel)
theorem xw_i_M_holds : Jvm.Cond.instanceMethod yM_holds ∈ xtb := xtb_at 638 (by decide +kernel) (by decide +kernel)
theorem xw_v_M_holds : Jvm.Cond.selects "ShrinkLayoutModel" yM_holds yM_holds ∈ xtb := xtb_at 639 (by decide +kernel) (by decide +kernel)
theorem xw_c_M_lacks : Jvm.Cond.code yM_lacks cM_lacks 2 (some .int) ∈ xtb := xtb_at 644 (by decide +kernel) (by decide +kernel)
theorem xw_i_M_lacks : Jvm.Cond.instanceMethod yM_lacks ∈ xtb := xtb_at 642 (by decide +kernel) (by decide +kernel)
theorem xw_v_M_lacks : Jvm.Cond.selects "ShrinkLayoutModel" yM_lacks yM_lacks ∈ xtb := xtb_at 643 (by decide +kernel) (by decide +kernel)
theorem xw_c_M_piece : Jvm.Cond.code yM_piece cM_piece 4 (some .int) ∈ xtb := xtb_at 648 (by decide +kernel) (by decide +kernel)
theorem xw_i_M_piece : Jvm.Cond.instanceMethod yM_piece ∈ xtb := xtb_at 646 (by decide +kernel) (by decide +kernel)
theorem xw_v_M_piece : Jvm.Cond.selects "ShrinkLayoutModel" yM_piece yM_piece ∈ xtb := xtb_at 647 (by decide +kernel) (by decide +kernel)
theorem xw_c_M_aim : Jvm.Cond.code yM_aim cM_aim 2 (some .long) ∈ xtb := xtb_at 652 (by decide +kernel) (by decide +kernel)
theorem xw_i_M_aim : Jvm.Cond.instanceMethod yM_aim ∈ xtb := xtb_at 650 (by decide +kernel) (by decide +kernel)
theorem xw_v_M_aim : Jvm.Cond.selects "ShrinkLayoutModel" yM_aim yM_aim ∈ xtb := xtb_at 651 (by decide +kernel) (by decide +kernel)
theorem xw_c_M_value : Jvm.Cond.code yM_value cM_value 2 (some .int) ∈ xtb := xtb_at 657 (by decide +kernel) (by decide +kernel)
theorem xw_i_M_value : Jvm.Cond.instanceMethod yM_value ∈ xtb := xtb_at 655 (by decide +kernel) (by decide +kernel)
theorem xw_v_M_value : Jvm.Cond.selects "ShrinkLayoutModel" yM_value yM_value ∈ xtb := xtb_at 656 (by decide +kernel) (by decide +kernel)
theorem xw_c_M_span : Jvm.Cond.code yM_span cM_span 3 (some .int) ∈ xtb := xtb_at 661 (by decide +kernel) (by decide +kernel)
theorem xw_i_M_span : Jvm.Cond.instanceMethod yM_span ∈ xtb := xtb_at 659 (by decide +kernel) (by decide +kernel)
theorem xw_v_M_span : Jvm.Cond.selects "ShrinkLayoutModel" yM_span yM_span ∈ xtb := xtb_at 660 (by decide +kernel) (by decide +kernel)
theorem xw_c_M_output : Jvm.Cond.code yM_output cM_output 3 (some .int) ∈ xtb := xtb_at 665 (by decide +kernel) (by decide +kernel)
theorem xw_i_M_output : Jvm.Cond.instanceMethod yM_output ∈ xtb := xtb_at 663 (by decide +kernel) (by decide +kernel)
theorem xw_v_M_output : Jvm.Cond.selects "ShrinkLayoutModel" yM_output yM_output ∈ xtb := xtb_at 664 (by decide +kernel) (by decide +kernel)
theorem xw_c_M_saved : Jvm.Cond.code yM_saved cM_saved 3 (some .int) ∈ xtb := xtb_at 669 (by decide +kernel) (by decide +kernel)
theorem xw_i_M_saved : Jvm.Cond.instanceMethod yM_saved ∈ xtb := xtb_at 667 (by decide +kernel) (by decide +kernel)
theorem xw_v_M_saved : Jvm.Cond.selects "ShrinkLayoutModel" yM_saved yM_saved ∈ xtb := xtb_at 668 (by decide +kernel) (by decide +kernel)
theorem xw_c_S_partAt : Jvm.Cond.code yS_partAt cS_partAt 2 (some (.object "ShrinkLayout$Part")) ∈ xtb := xtb_at 140 (by decide +kernel) (by decide +kernel)
theorem xw_i_S_partAt : Jvm.Cond.instanceMethod yS_partAt ∈ xtb := xtb_at 139 (by decide +kernel) (by decide +kernel)
theorem xw_v_S_partAt : Jvm.Cond.selects "ShrinkLayout" yS_partAt yS_partAt ∈ xtb := xtb_at 0 (by decide +kernel) (by decide +kernel)
theorem xw_c_S_labelAt : Jvm.Cond.code yS_labelAt cS_labelAt 2 (some (.object "ShrinkLayout$Label")) ∈ xtb := xtb_at 216 (by decide +kernel) (by decide +kernel)
theorem xw_i_S_labelAt : Jvm.Cond.instanceMethod yS_labelAt ∈ xtb := xtb_at 215 (by decide +kernel) (by decide +kernel)
theorem xw_v_S_labelAt : Jvm.Cond.selects "ShrinkLayout" yS_labelAt yS_labelAt ∈ xtb := xtb_at 3 (by decide +kernel) (by decide +kernel)
theorem xw_c_S_pieceAt : Jvm.Cond.code yS_pieceAt cS_pieceAt 2 (some (.object "ShrinkLayout$Piece")) ∈ xtb := xtb_at 256 (by decide +kernel) (by decide +kernel)
theorem xw_i_S_pieceAt : Jvm.Cond.instanceMethod yS_pieceAt ∈ xtb := xtb_at 255 (by decide +kernel) (by decide +kernel)
theorem xw_v_S_pieceAt : Jvm.Cond.selects "ShrinkLayout" yS_pieceAt yS_pieceAt ∈ xtb := xtb_at 4 (by decide +kernel) (by decide +kernel)
theorem xw_c_S_partLedTo : Jvm.Cond.code yS_partLedTo cS_partLedTo 1 (some (.object "ShrinkLayout$Part")) ∈ xtb := xtb_at 280 (by decide +kernel) (by decide +kernel)
theorem xw_s_S_partLedTo : Jvm.Cond.static yS_partLedTo ∈ xtb := xtb_at 279 (by decide +kernel) (by decide +kernel)
theorem xw_l_3_41 : Jvm.Cond.methodLink "ShrinkLayout" 41 yS_isOutput ∈ xtb := xtb_at 85 (by decide +kernel) (by decide +kernel)
theorem xw_l_3_45 : Jvm.Cond.methodLink "ShrinkLayout" 45 yS_isPower ∈ xtb := xtb_at 92 (by decide +kernel) (by decide +kernel)
theorem xw_l_3_48 : Jvm.Cond.methodLink "ShrinkLayout" 48 yP_init ∈ xtb := xtb_at 97 (by decide +kernel) (by decide +kernel)
theorem xw_l_3_51 : Jvm.Cond.methodLink "ShrinkLayout" 51 yS_partAt ∈ xtb := xtb_at 137 (by decide +kernel) (by decide +kernel)
theorem xw_l_3_57 : Jvm.Cond.methodLink "ShrinkLayout" 57 yS_isWithin ∈ xtb := xtb_at 89 (by decide +kernel) (by decide +kernel)
theorem xw_l_3_61 : Jvm.Cond.methodLink "ShrinkLayout" 61 yQ_init ∈ xtb := xtb_at 143 (by decide +kernel) (by decide +kernel)
theorem xw_l_3_64 : Jvm.Cond.methodLink "ShrinkLayout" 64 yS_addPiece ∈ xtb := xtb_at 197 (by decide +kernel) (by decide +kernel)
theorem xw_l_3_68 : Jvm.Cond.methodLink "ShrinkLayout" 68 yS_addAimed ∈ xtb := xtb_at 209 (by decide +kernel) (by decide +kernel)
theorem xw_l_3_78 : Jvm.Cond.methodLink "ShrinkLayout" 78 yS_labelAt ∈ xtb := xtb_at 213 (by decide +kernel) (by decide +kernel)
theorem xw_l_3_82 : Jvm.Cond.methodLink "ShrinkLayout" 82 yS_pieceAt ∈ xtb := xtb_at 253 (by decide +kernel) (by decide +kernel)
theorem xw_l_3_111 : Jvm.Cond.methodLink "ShrinkLayout" 111 yS_bringWhatIsLedTo ∈ xtb := xtb_at 274 (by decide +kernel) (by decide +kernel)
theorem xw_l_3_115 : Jvm.Cond.methodLink "ShrinkLayout" 115 yS_countGone ∈ xtb := xtb_at 281 (by decide +kernel) (by decide +kernel)
theorem xw_l_3_119 : Jvm.Cond.methodLink "ShrinkLayout" 119 yS_makePass ∈ xtb := xtb_at 293 (by decide +kernel) (by decide +kernel)
theorem xw_l_3_122 : Jvm.Cond.methodLink "ShrinkLayout" 122 yS_makePasses ∈ xtb := xtb_at 345 (by decide +kernel) (by decide +kernel)
theorem xw_l_3_125 : Jvm.Cond.methodLink "ShrinkLayout" 125 yS_fixWhatDoesNotHold ∈ xtb := xtb_at 353 (by decide +kernel) (by decide +kernel)
theorem xw_l_3_141 : Jvm.Cond.methodLink "ShrinkLayout" 141 yS_survey ∈ xtb := xtb_at 297 (by decide +kernel) (by decide +kernel)
theorem xw_l_3_157 : Jvm.Cond.methodLink "ShrinkLayout" 157 yS_bytesToMultiple ∈ xtb := xtb_at 305 (by decide +kernel) (by decide +kernel)
theorem xw_l_3_166 : Jvm.Cond.methodLink "ShrinkLayout" 166 yS_aimOf ∈ xtb := xtb_at 318 (by decide +kernel) (by decide +kernel)
theorem xw_l_3_170 : Jvm.Cond.methodLink "ShrinkLayout" 170 yS_valueOf ∈ xtb := xtb_at 322 (by decide +kernel) (by decide +kernel)
theorem xw_l_3_183 : Jvm.Cond.methodLink "ShrinkLayout" 183 yQ_init2 ∈ xtb := xtb_at 217 (by decide +kernel) (by decide +kernel)
theorem xw_l_3_189 : Jvm.Cond.methodLink "ShrinkLayout" 189 yP_append ∈ xtb := xtb_at 201 (by decide +kernel) (by decide +kernel)
theorem xw_l_3_193 : Jvm.Cond.methodLink "ShrinkLayout" 193 yS_partLedTo ∈ xtb := xtb_at 278 (by decide +kernel) (by decide +kernel)
theorem xw_l_3_197 : Jvm.Cond.methodLink "ShrinkLayout" 197 yS_placeOutput ∈ xtb := xtb_at 301 (by decide +kernel) (by decide +kernel)
theorem xw_l_3_200 : Jvm.Cond.methodLink "ShrinkLayout" 200 yS_leastSize ∈ xtb := xtb_at 314 (by decide +kernel) (by decide +kernel)
theorem xw_l_3_203 : Jvm.Cond.methodLink "ShrinkLayout" 203 yS_placePart ∈ xtb := xtb_at 308 (by decide +kernel) (by decide +kernel)
theorem xw_l_3_211 : Jvm.Cond.methodLink "ShrinkLayout" 211 yA_min ∈ xtb := xtb_at 311 (by decide +kernel) (by decide +kernel)
theorem xw_l_3_222 : Jvm.Cond.methodLink "ShrinkLayout" 222 yS_leastCall ∈ xtb := xtb_at 325 (by decide +kernel) (by decide +kernel)
theorem xw_l_3_226 : Jvm.Cond.methodLink "ShrinkLayout" 226 yS_leastLoad ∈ xtb := xtb_at 332 (by decide +kernel) (by decide +kernel)
theorem xw_l_3_242 : Jvm.Cond.methodLink "ShrinkLayout" 242 yA_floorDiv ∈ xtb := xtb_at 337 (by decide +kernel) (by decide +kernel)
theorem xw_l_4_87 : Jvm.Cond.methodLink "ShrinkLayoutModel" 87 yM_within ∈ xtb := xtb_at 489 (by decide +kernel) (by decide +kernel)
theorem xw_l_4_100 : Jvm.Cond.methodLink "ShrinkLayoutModel" 100 yM_roundUp ∈ xtb := xtb_at 577 (by decide +kernel) (by decide +kernel)
theorem xw_l_4_104 : Jvm.Cond.methodLink "ShrinkLayoutModel" 104 yM_lay ∈ xtb := xtb_at 580 (by decide +kernel) (by decide +kernel)
theorem xw_l_4_107 : Jvm.Cond.methodLink "ShrinkLayoutModel" 107 yM_isLabel ∈ xtb := xtb_at 513 (by decide +kernel) (by decide +kernel)
theorem xw_l_4_111 : Jvm.Cond.methodLink "ShrinkLayoutModel" 111 yM_isGone ∈ xtb := xtb_at 596 (by decide +kernel) (by decide +kernel)
theorem xw_l_4_114 : Jvm.Cond.methodLink "ShrinkLayoutModel" 114 yM_shrinks ∈ xtb := xtb_at 561 (by decide +kernel) (by decide +kernel)
theorem xw_l_4_117 : Jvm.Cond.methodLink "ShrinkLayoutModel" 117 yM_hasValue ∈ xtb := xtb_at 592 (by decide +kernel) (by decide +kernel)
theorem xw_l_4_120 : Jvm.Cond.methodLink "ShrinkLayoutModel" 120 yM_valueOf ∈ xtb := xtb_at 604 (by decide +kernel) (by decide +kernel)
theorem xw_l_4_128 : Jvm.Cond.methodLink "ShrinkLayoutModel" 128 yM_hasAim ∈ xtb := xtb_at 588 (by decide +kernel) (by decide +kernel)
theorem xw_l_4_131 : Jvm.Cond.methodLink "ShrinkLayoutModel" 131 yM_greatest ∈ xtb := xtb_at 517 (by decide +kernel) (by decide +kernel)
theorem xw_l_4_134 : Jvm.Cond.methodLink "ShrinkLayoutModel" 134 yM_aimOf ∈ xtb := xtb_at 600 (by decide +kernel) (by decide +kernel)
theorem xw_l_4_140 : Jvm.Cond.methodLink "ShrinkLayoutModel" 140 yM_isNear ∈ xtb := xtb_at 609 (by decide +kernel) (by decide +kernel)
theorem xw_l_4_154 : Jvm.Cond.methodLink "ShrinkLayoutModel" 154 yM_isPart ∈ xtb := xtb_at 496 (by decide +kernel) (by decide +kernel)
theorem xw_l_4_158 : Jvm.Cond.methodLink "ShrinkLayoutModel" 158 yM_added ∈ xtb := xtb_at 501 (by decide +kernel) (by decide +kernel)
theorem xw_l_4_162 : Jvm.Cond.methodLink "ShrinkLayoutModel" 162 yM_aimed ∈ xtb := xtb_at 509 (by decide +kernel) (by decide +kernel)
theorem xw_l_4_166 : Jvm.Cond.methodLink "ShrinkLayoutModel" 166 yM_isPiece ∈ xtb := xtb_at 540 (by decide +kernel) (by decide +kernel)
theorem xw_l_4_170 : Jvm.Cond.methodLink "ShrinkLayoutModel" 170 yM_reckon ∈ xtb := xtb_at 573 (by decide +kernel) (by decide +kernel)
theorem xw_l_4_173 : Jvm.Cond.methodLink "ShrinkLayoutModel" 173 yM_leastOf ∈ xtb := xtb_at 584 (by decide +kernel) (by decide +kernel)
theorem xw_l_4_176 : Jvm.Cond.methodLink "ShrinkLayoutModel" 176 yM_pass ∈ xtb := xtb_at 623 (by decide +kernel) (by decide +kernel)
theorem xw_l_4_180 : Jvm.Cond.methodLink "ShrinkLayoutModel" 180 yM_shrink ∈ xtb := xtb_at 628 (by decide +kernel) (by decide +kernel)
theorem xw_l_4_183 : Jvm.Cond.methodLink "ShrinkLayoutModel" 183 yM_isTight ∈ xtb := xtb_at 629 (by decide +kernel) (by decide +kernel)
theorem xw_l_5_9 : Jvm.Cond.methodLink "ShrinkLayoutLaw" 9 yS_init ∈ xtb := xtb_at 37 (by decide +kernel) (by decide +kernel)
theorem xw_l_5_12 : Jvm.Cond.methodLink "ShrinkLayoutLaw" 12 yM_init ∈ xtb := xtb_at 395 (by decide +kernel) (by decide +kernel)
theorem xw_l_5_13 : Jvm.Cond.methodLink "ShrinkLayoutLaw" 13 yS_part ∈ xtb := xtb_at 81 (by decide +kernel) (by decide +kernel)
theorem xw_l_5_17 : Jvm.Cond.methodLink "ShrinkLayoutLaw" 17 yM_part ∈ xtb := xtb_at 485 (by decide +kernel) (by decide +kernel)
theorem xw_l_5_18 : Jvm.Cond.methodLink "ShrinkLayoutLaw" 18 yS_plain ∈ xtb := xtb_at 133 (by decide +kernel) (by decide +kernel)
theorem xw_l_5_21 : Jvm.Cond.methodLink "ShrinkLayoutLaw" 21 yM_plain ∈ xtb := xtb_at 492 (by decide +kernel) (by decide +kernel)
theorem xw_l_5_22 : Jvm.Cond.methodLink "ShrinkLayoutLaw" 22 yS_call ∈ xtb := xtb_at 205 (by decide +kernel) (by decide +kernel)
theorem xw_l_5_26 : Jvm.Cond.methodLink "ShrinkLayoutLaw" 26 yM_call ∈ xtb := xtb_at 505 (by decide +kernel) (by decide +kernel)
theorem xw_l_5_27 : Jvm.Cond.methodLink "ShrinkLayoutLaw" 27 yS_upper ∈ xtb := xtb_at 220 (by decide +kernel) (by decide +kernel)
theorem xw_l_5_30 : Jvm.Cond.methodLink "ShrinkLayoutLaw" 30 yM_upper ∈ xtb := xtb_at 520 (by decide +kernel) (by decide +kernel)
theorem xw_l_5_31 : Jvm.Cond.methodLink "ShrinkLayoutLaw" 31 yS_near ∈ xtb := xtb_at 224 (by decide +kernel) (by decide +kernel)
theorem xw_l_5_35 : Jvm.Cond.methodLink "ShrinkLayoutLaw" 35 yM_near ∈ xtb := xtb_at 524 (by decide +kernel) (by decide +kernel)
theorem xw_l_5_36 : Jvm.Cond.methodLink "ShrinkLayoutLaw" 36 yS_fill ∈ xtb := xtb_at 228 (by decide +kernel) (by decide +kernel)
theorem xw_l_5_39 : Jvm.Cond.methodLink "ShrinkLayoutLaw" 39 yM_fill ∈ xtb := xtb_at 528 (by decide +kernel) (by decide +kernel)
theorem xw_l_5_40 : Jvm.Cond.methodLink "ShrinkLayoutLaw" 40 yS_label ∈ xtb := xtb_at 233 (by decide +kernel) (by decide +kernel)
theorem xw_l_5_44 : Jvm.Cond.methodLink "ShrinkLayoutLaw" 44 yM_label ∈ xtb := xtb_at 532 (by decide +kernel) (by decide +kernel)
theorem xw_l_5_45 : Jvm.Cond.methodLink "ShrinkLayoutLaw" 45 yS_put ∈ xtb := xtb_at 249 (by decide +kernel) (by decide +kernel)
theorem xw_l_5_49 : Jvm.Cond.methodLink "ShrinkLayoutLaw" 49 yM_put ∈ xtb := xtb_at 536 (by decide +kernel) (by decide +kernel)
theorem xw_l_5_50 : Jvm.Cond.methodLink "ShrinkLayoutLaw" 50 yS_base ∈ xtb := xtb_at 257 (by decide +kernel) (by decide +kernel)
theorem xw_l_5_54 : Jvm.Cond.methodLink "ShrinkLayoutLaw" 54 yM_base ∈ xtb := xtb_at 544 (by decide +kernel) (by decide +kernel)
theorem xw_l_5_55 : Jvm.Cond.methodLink "ShrinkLayoutLaw" 55 yS_align ∈ xtb := xtb_at 262 (by decide +kernel) (by decide +kernel)
theorem xw_l_5_59 : Jvm.Cond.methodLink "ShrinkLayoutLaw" 59 yM_align ∈ xtb := xtb_at 549 (by decide +kernel) (by decide +kernel)
theorem xw_l_5_60 : Jvm.Cond.methodLink "ShrinkLayoutLaw" 60 yS_root ∈ xtb := xtb_at 266 (by decide +kernel) (by decide +kernel)
theorem xw_l_5_64 : Jvm.Cond.methodLink "ShrinkLayoutLaw" 64 yM_root ∈ xtb := xtb_at 553 (by decide +kernel) (by decide +kernel)
theorem xw_l_5_65 : Jvm.Cond.methodLink "ShrinkLayoutLaw" 65 yS_sweep ∈ xtb := xtb_at 270 (by decide +kernel) (by decide +kernel)
theorem xw_l_5_68 : Jvm.Cond.methodLink "ShrinkLayoutLaw" 68 yM_sweep ∈ xtb := xtb_at 557 (by decide +kernel) (by decide +kernel)
theorem xw_l_5_69 : Jvm.Cond.methodLink "ShrinkLayoutLaw" 69 yS_back ∈ xtb := xtb_at 285 (by decide +kernel) (by decide +kernel)
theorem xw_l_5_72 : Jvm.Cond.methodLink "ShrinkLayoutLaw" 72 yM_back ∈ xtb := xtb_at 565 (by decide +kernel) (by decide +kernel)
theorem xw_l_5_73 : Jvm.Cond.methodLink "ShrinkLayoutLaw" 73 yS_pass ∈ xtb := xtb_at 289 (by decide +kernel) (by decide +kernel)
theorem xw_l_5_76 : Jvm.Cond.methodLink "ShrinkLayoutLaw" 76 yM_pass ∈ xtb := xtb_at 569 (by decide +kernel) (by decide +kernel)
theorem xw_l_5_77 : Jvm.Cond.methodLink "ShrinkLayoutLaw" 77 yS_shrink ∈ xtb := xtb_at 341 (by decide +kernel) (by decide +kernel)
theorem xw_l_5_80 : Jvm.Cond.methodLink "ShrinkLayoutLaw" 80 yM_shrink ∈ xtb := xtb_at 619 (by decide +kernel) (by decide +kernel)
theorem xw_l_5_81 : Jvm.Cond.methodLink "ShrinkLayoutLaw" 81 yS_settle ∈ xtb := xtb_at 349 (by decide +kernel) (by decide +kernel)
theorem xw_l_5_84 : Jvm.Cond.methodLink "ShrinkLayoutLaw" 84 yM_settle ∈ xtb := xtb_at 624 (by decide +kernel) (by decide +kernel)
theorem xw_l_5_85 : Jvm.Cond.methodLink "ShrinkLayoutLaw" 85 yS_reset ∈ xtb := xtb_at 357 (by decide +kernel) (by decide +kernel)
theorem xw_l_5_88 : Jvm.Cond.methodLink "ShrinkLayoutLaw" 88 yM_reset ∈ xtb := xtb_at 633 (by decide +kernel) (by decide +kernel)
theorem xw_l_5_89 : Jvm.Cond.methodLink "ShrinkLayoutLaw" 89 yS_holds ∈ xtb := xtb_at 361 (by decide +kernel) (by decide +kernel)
theorem xw_l_5_92 : Jvm.Cond.methodLink "ShrinkLayoutLaw" 92 yM_holds ∈ xtb := xtb_at 637 (by decide +kernel) (by decide +kernel)
theorem xw_l_5_93 : Jvm.Cond.methodLink "ShrinkLayoutLaw" 93 yS_lacks ∈ xtb := xtb_at 365 (by decide +kernel) (by decide +kernel)
theorem xw_l_5_96 : Jvm.Cond.methodLink "ShrinkLayoutLaw" 96 yM_lacks ∈ xtb := xtb_at 641 (by decide +kernel) (by decide +kernel)
theorem xw_l_5_97 : Jvm.Cond.methodLink "ShrinkLayoutLaw" 97 yS_piece ∈ xtb := xtb_at 369 (by decide +kernel) (by decide +kernel)
theorem xw_l_5_100 : Jvm.Cond.methodLink "ShrinkLayoutLaw" 100 yM_piece ∈ xtb := xtb_at 645 (by decide +kernel) (by decide +kernel)
theorem xw_l_5_101 : Jvm.Cond.methodLink "ShrinkLayoutLaw" 101 yS_aim ∈ xtb := xtb_at 373 (by decide +kernel) (by decide +kernel)
theorem xw_l_5_105 : Jvm.Cond.methodLink "ShrinkLayoutLaw" 105 yM_aim ∈ xtb := xtb_at 649 (by decide +kernel) (by decide +kernel)
theorem xw_l_5_106 : Jvm.Cond.methodLink "ShrinkLayoutLaw" 106 yS_value ∈ xtb := xtb_at 377 (by decide +kernel) (by decide +kernel)
theorem xw_l_5_110 : Jvm.Cond.methodLink "ShrinkLayoutLaw" 110 yM_value ∈ xtb := xtb_at 654 (by decide +kernel) (by decide +kernel)
theorem xw_l_5_111 : Jvm.Cond.methodLink "ShrinkLayoutLaw" 111 yS_span ∈ xtb := xtb_at 381 (by decide +kernel) (by decide +kernel)
theorem xw_l_5_114 : Jvm.Cond.methodLink "ShrinkLayoutLaw" 114 yM_span ∈ xtb := xtb_at 658 (by decide +kernel) (by decide +kernel)
theorem xw_l_5_115 : Jvm.Cond.methodLink "ShrinkLayoutLaw" 115 yS_output ∈ xtb := xtb_at 385 (by decide +kernel) (by decide +kernel)
theorem xw_l_5_118 : Jvm.Cond.methodLink "ShrinkLayoutLaw" 118 yM_output ∈ xtb := xtb_at 662 (by decide +kernel) (by decide +kernel)
theorem xw_l_5_119 : Jvm.Cond.methodLink "ShrinkLayoutLaw" 119 yS_saved ∈ xtb := xtb_at 389 (by decide +kernel) (by decide +kernel)
theorem xw_l_5_122 : Jvm.Cond.methodLink "ShrinkLayoutLaw" 122 yM_saved ∈ xtb := xtb_at 666 (by decide +kernel) (by decide +kernel)
theorem xr_3_41 : xCLP (3, 41, mS_isOutput, 0, 3) := ⟨yS_isOutput, cS_isOutput, 1, (some .boolean), 1, rfl, xw_c_S_isOutput, xw_in_3, ⟨by decide +kernel, by decide +kernel⟩, by decide +kernel, ⟨xw_l_3_41, xw_s_S_isOutput⟩⟩
theorem xr_3_45 : xCLP (3, 45, mS_isPower, 0, 3) := ⟨yS_isPower, cS_isPower, 1, (some .boolean), 1, rfl, xw_c_S_isPower, xw_in_3, ⟨by decide +kernel, by decide +kernel⟩, by decide +kernel, ⟨xw_l_3_45, xw_s_S_isPower⟩⟩
theorem xr_3_48 : xCLP (3, 48, mP_init, 2, 1) := ⟨yP_init, cP_init, 4, none, 3, rfl, xw_c_P_init, xw_in_1, ⟨by decide +kernel, by decide +kernel⟩, by decide +kernel, ⟨xw_l_3_48, xw_i_P_init, rfl, rfl⟩⟩
theorem xr_3_51 : xCLP (3, 51, mS_partAt, 1, 3) := ⟨yS_partAt, cS_partAt, 2, (some (.object "ShrinkLayout$Part")), 1, rfl, xw_c_S_partAt, xw_in_3, ⟨by decide +kernel, by decide +kernel⟩, by decide +kernel, ⟨xw_l_3_51, xw_i_S_partAt, xw_v_S_partAt, by decide +kernel⟩⟩
theorem xr_3_57 : xCLP (3, 57, mS_isWithin, 0, 3) := ⟨yS_isWithin, cS_isWithin, 6, (some .boolean), 3, rfl, xw_c_S_isWithin, xw_in_3, ⟨by decide +kernel, by decide +kernel⟩, by decide +kernel, ⟨xw_l_3_57, xw_s_S_isWithin⟩⟩
theorem xr_3_61 : xCLP (3, 61, mQ_init, 2, 2) := ⟨yQ_init, cQ_init, 5, none, 4, rfl, xw_c_Q_init, xw_in_2, ⟨by decide +kernel, by decide +kernel⟩, by decide +kernel, ⟨xw_l_3_61, xw_i_Q_init, rfl, rfl⟩⟩
theorem xr_3_64 : xCLP (3, 64, mS_addPiece, 1, 3) := ⟨yS_addPiece, cS_addPiece, 2, (some .int), 1, rfl, xw_c_S_addPiece, xw_in_3, ⟨by decide +kernel, by decide +kernel⟩, by decide +kernel, ⟨xw_l_3_64, xw_i_S_addPiece, xw_v_S_addPiece, by decide +kernel⟩⟩
theorem xr_3_68 : xCLP (3, 68, mS_addAimed, 1, 3) := ⟨yS_addAimed, cS_addAimed, 8, (some .int), 5, rfl, xw_c_S_addAimed, xw_in_3, ⟨by decide +kernel, by decide +kernel⟩, by decide +kernel, ⟨xw_l_3_68, xw_i_S_addAimed, xw_v_S_addAimed, by decide +kernel⟩⟩
theorem xr_3_77 : xCLP (3, 77, mB_init, 3, 0) := ⟨yB_init, cB_init, 1, none, 0, rfl, xw_c_B_init, xw_in_0, ⟨by decide +kernel, by decide +kernel⟩, by decide +kernel, ⟨by decide +kernel, xw_i_B_init, rfl, rfl⟩⟩
theorem xr_3_78 : xCLP (3, 78, mS_labelAt, 1, 3) := ⟨yS_labelAt, cS_labelAt, 2, (some (.object "ShrinkLayout$Label")), 1, rfl, xw_c_S_labelAt, xw_in_3, ⟨by decide +kernel, by decide +kernel⟩, by decide +kernel, ⟨xw_l_3_78, xw_i_S_labelAt, xw_v_S_labelAt, by decide +kernel⟩⟩
theorem xr_3_82 : xCLP (3, 82, mS_pieceAt, 1, 3) := ⟨yS_pieceAt, cS_pieceAt, 2, (some (.object "ShrinkLayout$Piece")), 1, rfl, xw_c_S_pieceAt, xw_in_3, ⟨by decide +kernel, by decide +kernel⟩, by decide +kernel, ⟨xw_l_3_82, xw_i_S_pieceAt, xw_v_S_pieceAt, by decide +kernel⟩⟩
theorem xr_3_111 : xCLP (3, 111, mS_bringWhatIsLedTo, 1, 3) := ⟨yS_bringWhatIsLedTo, cS_bringWhatIsLedTo, 7, (some .boolean), 0, rfl, xw_c_S_bringWhatIsLedTo, xw_in_3, ⟨by decide +kernel, by decide +kernel⟩, by decide +kernel, ⟨xw_l_3_111, xw_i_S_bringWhatIsLedTo, xw_v_S_bringWhatIsLedTo, by decide +kernel⟩⟩
theorem xr_3_115 : xCLP (3, 115, mS_countGone, 1, 3) := ⟨yS_countGone, cS_countGone, 6, (some .int), 0, rfl, xw_c_S_countGone, xw_in_3, ⟨by decide +kernel, by decide +kernel⟩, by decide +kernel, ⟨xw_l_3_115, xw_i_S_countGone, xw_v_S_countGone, by decide +kernel⟩⟩
theorem xr_3_119 : xCLP (3, 119, mS_makePass, 1, 3) := ⟨yS_makePass, cS_makePass, 6, (some .int), 0, rfl, xw_c_S_makePass, xw_in_3, ⟨by decide +kernel, by decide +kernel⟩, by decide +kernel, ⟨xw_l_3_119, xw_i_S_makePass, xw_v_S_makePass, by decide +kernel⟩⟩
theorem xr_3_122 : xCLP (3, 122, mS_makePasses, 1, 3) := ⟨yS_makePasses, cS_makePasses, 3, (some .int), 0, rfl, xw_c_S_makePasses, xw_in_3, ⟨by decide +kernel, by decide +kernel⟩, by decide +kernel, ⟨xw_l_3_122, xw_i_S_makePasses, xw_v_S_makePasses, by decide +kernel⟩⟩
theorem xr_3_125 : xCLP (3, 125, mS_fixWhatDoesNotHold, 1, 3) := ⟨yS_fixWhatDoesNotHold, cS_fixWhatDoesNotHold, 6, (some .int), 0, rfl, xw_c_S_fixWhatDoesNotHold, xw_in_3, ⟨by decide +kernel, by decide +kernel⟩, by decide +kernel, ⟨xw_l_3_125, xw_i_S_fixWhatDoesNotHold, xw_v_S_fixWhatDoesNotHold, by decide +kernel⟩⟩
theorem xr_3_141 : xCLP (3, 141, mS_survey, 1, 3) := ⟨yS_survey, cS_survey, 6, none, 0, rfl, xw_c_S_survey, xw_in_3, ⟨by decide +kernel, by decide +kernel⟩, by decide +kernel, ⟨xw_l_3_141, xw_i_S_survey, xw_v_S_survey, by decide +kernel⟩⟩
theorem xr_3_157 : xCLP (3, 157, mS_bytesToMultiple, 0, 3) := ⟨yS_bytesToMultiple, cS_bytesToMultiple, 2, (some .int), 2, rfl, xw_c_S_bytesToMultiple, xw_in_3, ⟨by decide +kernel, by decide +kernel⟩, by decide +kernel, ⟨xw_l_3_157, xw_s_S_bytesToMultiple⟩⟩
theorem xr_3_166 : xCLP (3, 166, mS_aimOf, 0, 3) := ⟨yS_aimOf, cS_aimOf, 2, (some .long), 1, rfl, xw_c_S_aimOf, xw_in_3, ⟨by decide +kernel, by decide +kernel⟩, by decide +kernel, ⟨xw_l_3_166, xw_s_S_aimOf⟩⟩
theorem xr_3_170 : xCLP (3, 170, mS_valueOf, 0, 3) := ⟨yS_valueOf, cS_valueOf, 2, (some .int), 1, rfl, xw_c_S_valueOf, xw_in_3, ⟨by decide +kernel, by decide +kernel⟩, by decide +kernel, ⟨xw_l_3_170, xw_s_S_valueOf⟩⟩
theorem xr_3_183 : xCLP (3, 183, mQ_init2, 2, 2) := ⟨yQ_init2, cQ_init2, 6, none, 5, rfl, xw_c_Q_init2, xw_in_2, ⟨by decide +kernel, by decide +kernel⟩, by decide +kernel, ⟨xw_l_3_183, xw_i_Q_init2, rfl, rfl⟩⟩
theorem xr_3_189 : xCLP (3, 189, mP_append, 1, 1) := ⟨yP_append, cP_append, 2, none, 1, rfl, xw_c_P_append, xw_in_1, ⟨by decide +kernel, by decide +kernel⟩, by decide +kernel, ⟨xw_l_3_189, xw_i_P_append, xw_v_P_append, by decide +kernel⟩⟩
theorem xr_3_193 : xCLP (3, 193, mS_partLedTo, 0, 3) := ⟨yS_partLedTo, cS_partLedTo, 1, (some (.object "ShrinkLayout$Part")), 1, rfl, xw_c_S_partLedTo, xw_in_3, ⟨by decide +kernel, by decide +kernel⟩, by decide +kernel, ⟨xw_l_3_193, xw_s_S_partLedTo⟩⟩
theorem xr_3_197 : xCLP (3, 197, mS_placeOutput, 1, 3) := ⟨yS_placeOutput, cS_placeOutput, 8, (some .int), 2, rfl, xw_c_S_placeOutput, xw_in_3, ⟨by decide +kernel, by decide +kernel⟩, by decide +kernel, ⟨xw_l_3_197, xw_i_S_placeOutput, xw_v_S_placeOutput, by decide +kernel⟩⟩
theorem xr_3_200 : xCLP (3, 200, mS_leastSize, 1, 3) := ⟨yS_leastSize, cS_leastSize, 4, (some .int), 1, rfl, xw_c_S_leastSize, xw_in_3, ⟨by decide +kernel, by decide +kernel⟩, by decide +kernel, ⟨xw_l_3_200, xw_i_S_leastSize, xw_v_S_leastSize, by decide +kernel⟩⟩
theorem xr_3_203 : xCLP (3, 203, mS_placePart, 0, 3) := ⟨yS_placePart, cS_placePart, 4, (some .int), 2, rfl, xw_c_S_placePart, xw_in_3, ⟨by decide +kernel, by decide +kernel⟩, by decide +kernel, ⟨xw_l_3_203, xw_s_S_placePart⟩⟩
theorem xr_3_211 : xCLP (3, 211, mA_min, 0, 0) := ⟨yA_min, cA_min, 2, (some .int), 2, rfl, xw_c_A_min, xw_in_6, ⟨by decide +kernel, by decide +kernel⟩, by decide +kernel, ⟨xw_l_3_211, xw_s_A_min⟩⟩
theorem xr_3_222 : xCLP (3, 222, mS_leastCall, 0, 3) := ⟨yS_leastCall, cS_leastCall, 4, (some .int), 2, rfl, xw_c_S_leastCall, xw_in_3, ⟨by decide +kernel, by decide +kernel⟩, by decide +kernel, ⟨xw_l_3_222, xw_s_S_leastCall⟩⟩
theorem xr_3_226 : xCLP (3, 226, mS_leastLoad, 0, 3) := ⟨yS_leastLoad, cS_leastLoad, 5, (some .int), 3, rfl, xw_c_S_leastLoad, xw_in_3, ⟨by decide +kernel, by decide +kernel⟩, by decide +kernel, ⟨xw_l_3_226, xw_s_S_leastLoad⟩⟩
theorem xr_3_242 : xCLP (3, 242, mA_floorDiv, 0, 0) := ⟨yA_floorDiv, cA_floorDiv, 6, (some .long), 2, rfl, xw_c_A_floorDiv, xw_in_6, ⟨by decide +kernel, by decide +kernel⟩, by decide +kernel, ⟨xw_l_3_242, xw_s_A_floorDiv⟩⟩
theorem xr_4_87 : xCLP (4, 87, mM_within, 0, 4) := ⟨yM_within, cM_within, 3, (some .boolean), 3, rfl, xw_c_M_within, xw_in_4, ⟨by decide +kernel, by decide +kernel⟩, by decide +kernel, ⟨xw_l_4_87, xw_s_M_within⟩⟩
theorem xr_4_100 : xCLP (4, 100, mM_roundUp, 0, 4) := ⟨yM_roundUp, cM_roundUp, 2, (some .int), 2, rfl, xw_c_M_roundUp, xw_in_4, ⟨by decide +kernel, by decide +kernel⟩, by decide +kernel, ⟨xw_l_4_100, xw_s_M_roundUp⟩⟩
theorem xr_4_104 : xCLP (4, 104, mM_lay, 1, 4) := ⟨yM_lay, cM_lay, 6, (some .int), 2, rfl, xw_c_M_lay, xw_in_4, ⟨by decide +kernel, by decide +kernel⟩, by decide +kernel, ⟨xw_l_4_104, xw_i_M_lay, xw_v_M_lay, by decide +kernel⟩⟩
theorem xr_4_107 : xCLP (4, 107, mM_isLabel, 1, 4) := ⟨yM_isLabel, cM_isLabel, 2, (some .boolean), 1, rfl, xw_c_M_isLabel, xw_in_4, ⟨by decide +kernel, by decide +kernel⟩, by decide +kernel, ⟨xw_l_4_107, xw_i_M_isLabel, xw_v_M_isLabel, by decide +kernel⟩⟩
theorem xr_4_111 : xCLP (4, 111, mM_isGone, 1, 4) := ⟨yM_isGone, cM_isGone, 2, (some .boolean), 1, rfl, xw_c_M_isGone, xw_in_4, ⟨by decide +kernel, by decide +kernel⟩, by decide +kernel, ⟨xw_l_4_111, xw_i_M_isGone, xw_v_M_isGone, by decide +kernel⟩⟩
theorem xr_4_114 : xCLP (4, 114, mM_shrinks, 1, 4) := ⟨yM_shrinks, cM_shrinks, 2, (some .boolean), 1, rfl, xw_c_M_shrinks, xw_in_4, ⟨by decide +kernel, by decide +kernel⟩, by decide +kernel, ⟨xw_l_4_114, xw_i_M_shrinks, xw_v_M_shrinks, by decide +kernel⟩⟩
theorem xr_4_117 : xCLP (4, 117, mM_hasValue, 1, 4) := ⟨yM_hasValue, cM_hasValue, 2, (some .boolean), 1, rfl, xw_c_M_hasValue, xw_in_4, ⟨by decide +kernel, by decide +kernel⟩, by decide +kernel, ⟨xw_l_4_117, xw_i_M_hasValue, xw_v_M_hasValue, by decide +kernel⟩⟩
theorem xr_4_120 : xCLP (4, 120, mM_valueOf, 1, 4) := ⟨yM_valueOf, cM_valueOf, 3, (some .int), 1, rfl, xw_c_M_valueOf, xw_in_4, ⟨by decide +kernel, by decide +kernel⟩, by decide +kernel, ⟨xw_l_4_120, xw_i_M_valueOf, xw_v_M_valueOf, by decide +kernel⟩⟩
theorem xr_4_128 : xCLP (4, 128, mM_hasAim, 1, 4) := ⟨yM_hasAim, cM_hasAim, 2, (some .boolean), 1, rfl, xw_c_M_hasAim, xw_in_4, ⟨by decide +kernel, by decide +kernel⟩, by decide +kernel, ⟨xw_l_4_128, xw_i_M_hasAim, xw_v_M_hasAim, by decide +kernel⟩⟩
theorem xr_4_131 : xCLP (4, 131, mM_greatest, 0, 4) := ⟨yM_greatest, cM_greatest, 1, (some .int), 1, rfl, xw_c_M_greatest, xw_in_4, ⟨by decide +kernel, by decide +kernel⟩, by decide +kernel, ⟨xw_l_4_131, xw_s_M_greatest⟩⟩
theorem xr_4_134 : xCLP (4, 134, mM_aimOf, 1, 4) := ⟨yM_aimOf, cM_aimOf, 2, (some .long), 1, rfl, xw_c_M_aimOf, xw_in_4, ⟨by decide +kernel, by decide +kernel⟩, by decide +kernel, ⟨xw_l_4_134, xw_i_M_aimOf, xw_v_M_aimOf, by decide +kernel⟩⟩
theorem xr_4_140 : xCLP (4, 140, mM_isNear, 0, 4) := ⟨yM_isNear, cM_isNear, 2, (some .boolean), 1, rfl, xw_c_M_isNear, xw_in_4, ⟨by decide +kernel, by decide +kernel⟩, by decide +kernel, ⟨xw_l_4_140, xw_s_M_isNear⟩⟩
theorem xr_4_154 : xCLP (4, 154, mM_isPart, 1, 4) := ⟨yM_isPart, cM_isPart, 2, (some .boolean), 1, rfl, xw_c_M_isPart, xw_in_4, ⟨by decide +kernel, by decide +kernel⟩, by decide +kernel, ⟨xw_l_4_154, xw_i_M_isPart, xw_v_M_isPart, by decide +kernel⟩⟩
theorem xr_4_158 : xCLP (4, 158, mM_added, 1, 4) := ⟨yM_added, cM_added, 4, (some .int), 3, rfl, xw_c_M_added, xw_in_4, ⟨by decide +kernel, by decide +kernel⟩, by decide +kernel, ⟨xw_l_4_158, xw_i_M_added, xw_v_M_added, by decide +kernel⟩⟩
theorem xr_4_162 : xCLP (4, 162, mM_aimed, 1, 4) := ⟨yM_aimed, cM_aimed, 6, (some .int), 5, rfl, xw_c_M_aimed, xw_in_4, ⟨by decide +kernel, by decide +kernel⟩, by decide +kernel, ⟨xw_l_4_162, xw_i_M_aimed, xw_v_M_aimed, by decide +kernel⟩⟩
theorem xr_4_166 : xCLP (4, 166, mM_isPiece, 1, 4) := ⟨yM_isPiece, cM_isPiece, 2, (some .boolean), 1, rfl, xw_c_M_isPiece, xw_in_4, ⟨by decide +kernel, by decide +kernel⟩, by decide +kernel, ⟨xw_l_4_166, xw_i_M_isPiece, xw_v_M_isPiece, by decide +kernel⟩⟩
theorem xr_4_170 : xCLP (4, 170, mM_reckon, 1, 4) := ⟨yM_reckon, cM_reckon, 4, none, 0, rfl, xw_c_M_reckon, xw_in_4, ⟨by decide +kernel, by decide +kernel⟩, by decide +kernel, ⟨xw_l_4_170, xw_i_M_reckon, xw_v_M_reckon, by decide +kernel⟩⟩
theorem xr_4_173 : xCLP (4, 173, mM_leastOf, 1, 4) := ⟨yM_leastOf, cM_leastOf, 7, (some .int), 1, rfl, xw_c_M_leastOf, xw_in_4, ⟨by decide +kernel, by decide +kernel⟩, by decide +kernel, ⟨xw_l_4_173, xw_i_M_leastOf, xw_v_M_leastOf, by decide +kernel⟩⟩
theorem xr_4_176 : xCLP (4, 176, mM_pass, 1, 4) := ⟨yM_pass, cM_pass, 3, (some .int), 0, rfl, xw_c_M_pass, xw_in_4, ⟨by decide +kernel, by decide +kernel⟩, by decide +kernel, ⟨xw_l_4_176, xw_i_M_pass, xw_v_M_pass, by decide +kernel⟩⟩
theorem xr_4_180 : xCLP (4, 180, mM_shrink, 1, 4) := ⟨yM_shrink, cM_shrink, 2, (some .int), 0, rfl, xw_c_M_shrink, xw_in_4, ⟨by decide +kernel, by decide +kernel⟩, by decide +kernel, ⟨xw_l_4_180, xw_i_M_shrink, xw_v_M_shrink, by decide +kernel⟩⟩
theorem xr_4_183 : xCLP (4, 183, mM_isTight, 1, 4) := ⟨yM_isTight, cM_isTight, 2, (some .boolean), 1, rfl, xw_c_M_isTight, xw_in_4, ⟨by decide +kernel, by decide +kernel⟩, by decide +kernel, ⟨xw_l_4_183, xw_i_M_isTight, xw_v_M_isTight, by decide +kernel⟩⟩
theorem xr_5_9 : xCLP (5, 9, mS_init, 2, 3) := ⟨yS_init, cS_init, 1, none, 0, rfl, xw_c_S_init, xw_in_3, ⟨by decide +kernel, by decide +kernel⟩, by decide +kernel, ⟨xw_l_5_9, xw_i_S_init, rfl, rfl⟩⟩
theorem xr_5_12 : xCLP (5, 12, mM_init, 2, 4) := ⟨yM_init, cM_init, 1, none, 0, rfl, xw_c_M_init, xw_in_4, ⟨by decide +kernel, by decide +kernel⟩, by decide +kernel, ⟨xw_l_5_12, xw_i_M_init, rfl, rfl⟩⟩
theorem xr_5_13 : xCLP (5, 13, mS_part, 1, 3) := ⟨yS_part, cS_part, 3, (some .int), 2, rfl, xw_c_S_part, xw_in_3, ⟨by decide +kernel, by decide +kernel⟩, by decide +kernel, ⟨xw_l_5_13, xw_i_S_part, xw_v_S_part, by decide +kernel⟩⟩
theorem xr_5_17 : xCLP (5, 17, mM_part, 1, 4) := ⟨yM_part, cM_part, 3, (some .int), 2, rfl, xw_c_M_part, xw_in_4, ⟨by decide +kernel, by decide +kernel⟩, by decide +kernel, ⟨xw_l_5_17, xw_i_M_part, xw_v_M_part, by decide +kernel⟩⟩
theorem xr_5_18 : xCLP (5, 18, mS_plain, 1, 3) := ⟨yS_plain, cS_plain, 4, (some .int), 2, rfl, xw_c_S_plain, xw_in_3, ⟨by decide +kernel, by decide +kernel⟩, by decide +kernel, ⟨xw_l_5_18, xw_i_S_plain, xw_v_S_plain, by decide +kernel⟩⟩
theorem xr_5_21 : xCLP (5, 21, mM_plain, 1, 4) := ⟨yM_plain, cM_plain, 3, (some .int), 2, rfl, xw_c_M_plain, xw_in_4, ⟨by decide +kernel, by decide +kernel⟩, by decide +kernel, ⟨xw_l_5_21, xw_i_M_plain, xw_v_M_plain, by decide +kernel⟩⟩
theorem xr_5_22 : xCLP (5, 22, mS_call, 1, 3) := ⟨yS_call, cS_call, 5, (some .int), 4, rfl, xw_c_S_call, xw_in_3, ⟨by decide +kernel, by decide +kernel⟩, by decide +kernel, ⟨xw_l_5_22, xw_i_S_call, xw_v_S_call, by decide +kernel⟩⟩
theorem xr_5_26 : xCLP (5, 26, mM_call, 1, 4) := ⟨yM_call, cM_call, 5, (some .int), 4, rfl, xw_c_M_call, xw_in_4, ⟨by decide +kernel, by decide +kernel⟩, by decide +kernel, ⟨xw_l_5_26, xw_i_M_call, xw_v_M_call, by decide +kernel⟩⟩
theorem xr_5_27 : xCLP (5, 27, mS_upper, 1, 3) := ⟨yS_upper, cS_upper, 5, (some .int), 4, rfl, xw_c_S_upper, xw_in_3, ⟨by decide +kernel, by decide +kernel⟩, by decide +kernel, ⟨xw_l_5_27, xw_i_S_upper, xw_v_S_upper, by decide +kernel⟩⟩
theorem xr_5_30 : xCLP (5, 30, mM_upper, 1, 4) := ⟨yM_upper, cM_upper, 5, (some .int), 4, rfl, xw_c_M_upper, xw_in_4, ⟨by decide +kernel, by decide +kernel⟩, by decide +kernel, ⟨xw_l_5_30, xw_i_M_upper, xw_v_M_upper, by decide +kernel⟩⟩
theorem xr_5_31 : xCLP (5, 31, mS_near, 1, 3) := ⟨yS_near, cS_near, 4, (some .int), 3, rfl, xw_c_S_near, xw_in_3, ⟨by decide +kernel, by decide +kernel⟩, by decide +kernel, ⟨xw_l_5_31, xw_i_S_near, xw_v_S_near, by decide +kernel⟩⟩
theorem xr_5_35 : xCLP (5, 35, mM_near, 1, 4) := ⟨yM_near, cM_near, 4, (some .int), 3, rfl, xw_c_M_near, xw_in_4, ⟨by decide +kernel, by decide +kernel⟩, by decide +kernel, ⟨xw_l_5_35, xw_i_M_near, xw_v_M_near, by decide +kernel⟩⟩
theorem xr_5_36 : xCLP (5, 36, mS_fill, 1, 3) := ⟨yS_fill, cS_fill, 5, (some .int), 3, rfl, xw_c_S_fill, xw_in_3, ⟨by decide +kernel, by decide +kernel⟩, by decide +kernel, ⟨xw_l_5_36, xw_i_S_fill, xw_v_S_fill, by decide +kernel⟩⟩
theorem xr_5_39 : xCLP (5, 39, mM_fill, 1, 4) := ⟨yM_fill, cM_fill, 4, (some .int), 3, rfl, xw_c_M_fill, xw_in_4, ⟨by decide +kernel, by decide +kernel⟩, by decide +kernel, ⟨xw_l_5_39, xw_i_M_fill, xw_v_M_fill, by decide +kernel⟩⟩
theorem xr_5_40 : xCLP (5, 40, mS_label, 1, 3) := ⟨yS_label, cS_label, 1, (some .int), 0, rfl, xw_c_S_label, xw_in_3, ⟨by decide +kernel, by decide +kernel⟩, by decide +kernel, ⟨xw_l_5_40, xw_i_S_label, xw_v_S_label, by decide +kernel⟩⟩
theorem xr_5_44 : xCLP (5, 44, mM_label, 1, 4) := ⟨yM_label, cM_label, 1, (some .int), 0, rfl, xw_c_M_label, xw_in_4, ⟨by decide +kernel, by decide +kernel⟩, by decide +kernel, ⟨xw_l_5_44, xw_i_M_label, xw_v_M_label, by decide +kernel⟩⟩
theorem xr_5_45 : xCLP (5, 45, mS_put, 1, 3) := ⟨yS_put, cS_put, 7, (some .boolean), 3, rfl, xw_c_S_put, xw_in_3, ⟨by decide +kernel, by decide +kernel⟩, by decide +kernel, ⟨xw_l_5_45, xw_i_S_put, xw_v_S_put, by decide +kernel⟩⟩
theorem xr_5_49 : xCLP (5, 49, mM_put, 1, 4) := ⟨yM_put, cM_put, 4, (some .boolean), 3, rfl, xw_c_M_put, xw_in_4, ⟨by decide +kernel, by decide +kernel⟩, by decide +kernel, ⟨xw_l_5_49, xw_i_M_put, xw_v_M_put, by decide +kernel⟩⟩
theorem xr_5_50 : xCLP (5, 50, mS_base, 1, 3) := ⟨yS_base, cS_base, 2, (some .boolean), 1, rfl, xw_c_S_base, xw_in_3, ⟨by decide +kernel, by decide +kernel⟩, by decide +kernel, ⟨xw_l_5_50, xw_i_S_base, xw_v_S_base, by decide +kernel⟩⟩
theorem xr_5_54 : xCLP (5, 54, mM_base, 1, 4) := ⟨yM_base, cM_base, 2, (some .boolean), 1, rfl, xw_c_M_base, xw_in_4, ⟨by decide +kernel, by decide +kernel⟩, by decide +kernel, ⟨xw_l_5_54, xw_i_M_base, xw_v_M_base, by decide +kernel⟩⟩
theorem xr_5_55 : xCLP (5, 55, mS_align, 1, 3) := ⟨yS_align, cS_align, 3, (some .boolean), 2, rfl, xw_c_S_align, xw_in_3, ⟨by decide +kernel, by decide +kernel⟩, by decide +kernel, ⟨xw_l_5_55, xw_i_S_align, xw_v_S_align, by decide +kernel⟩⟩
theorem xr_5_59 : xCLP (5, 59, mM_align, 1, 4) := ⟨yM_align, cM_align, 3, (some .boolean), 2, rfl, xw_c_M_align, xw_in_4, ⟨by decide +kernel, by decide +kernel⟩, by decide +kernel, ⟨xw_l_5_59, xw_i_M_align, xw_v_M_align, by decide +kernel⟩⟩
theorem xr_5_60 : xCLP (5, 60, mS_root, 1, 3) := ⟨yS_root, cS_root, 4, (some .boolean), 2, rfl, xw_c_S_root, xw_in_3, ⟨by decide +kernel, by decide +kernel⟩, by decide +kernel, ⟨xw_l_5_60, xw_i_S_root, xw_v_S_root, by decide +kernel⟩⟩
theorem xr_5_64 : xCLP (5, 64, mM_root, 1, 4) := ⟨yM_root, cM_root, 3, (some .boolean), 2, rfl, xw_c_M_root, xw_in_4, ⟨by decide +kernel, by decide +kernel⟩, by decide +kernel, ⟨xw_l_5_64, xw_i_M_root, xw_v_M_root, by decide +kernel⟩⟩
theorem xr_5_65 : xCLP (5, 65, mS_sweep, 1, 3) := ⟨yS_sweep, cS_sweep, 5, (some .int), 0, rfl, xw_c_S_sweep, xw_in_3, ⟨by decide +kernel, by decide +kernel⟩, by decide +kernel, ⟨xw_l_5_65, xw_i_S_sweep, xw_v_S_sweep, by decide +kernel⟩⟩
theorem xr_5_68 : xCLP (5, 68, mM_sweep, 1, 4) := ⟨yM_sweep, cM_sweep, 4, (some .int), 0, rfl, xw_c_M_sweep, xw_in_4, ⟨by decide +kernel, by decide +kernel⟩, by decide +kernel, ⟨xw_l_5_68, xw_i_M_sweep, xw_v_M_sweep, by decide +kernel⟩⟩
theorem xr_5_69 : xCLP (5, 69, mS_back, 1, 3) := ⟨yS_back, cS_back, 5, none, 0, rfl, xw_c_S_back, xw_in_3, ⟨by decide +kernel, by decide +kernel⟩, by decide +kernel, ⟨xw_l_5_69, xw_i_S_back, xw_v_S_back, by decide +kernel⟩⟩
theorem xr_5_72 : xCLP (5, 72, mM_back, 1, 4) := ⟨yM_back, cM_back, 2, none, 0, rfl, xw_c_M_back, xw_in_4, ⟨by decide +kernel, by decide +kernel⟩, by decide +kernel, ⟨xw_l_5_72, xw_i_M_back, xw_v_M_back, by decide +kernel⟩⟩
theorem xr_5_73 : xCLP (5, 73, mS_pass, 1, 3) := ⟨yS_pass, cS_pass, 1, (some .int), 0, rfl, xw_c_S_pass, xw_in_3, ⟨by decide +kernel, by decide +kernel⟩, by decide +kernel, ⟨xw_l_5_73, xw_i_S_pass, xw_v_S_pass, by decide +kernel⟩⟩
theorem xr_5_76 : xCLP (5, 76, mM_pass, 1, 4) := ⟨yM_pass, cM_pass, 3, (some .int), 0, rfl, xw_c_M_pass, xw_in_4, ⟨by decide +kernel, by decide +kernel⟩, by decide +kernel, ⟨xw_l_5_76, xw_i_M_pass, xw_v_M_pass, by decide +kernel⟩⟩
theorem xr_5_77 : xCLP (5, 77, mS_shrink, 1, 3) := ⟨yS_shrink, cS_shrink, 1, (some .int), 0, rfl, xw_c_S_shrink, xw_in_3, ⟨by decide +kernel, by decide +kernel⟩, by decide +kernel, ⟨xw_l_5_77, xw_i_S_shrink, xw_v_S_shrink, by decide +kernel⟩⟩
theorem xr_5_80 : xCLP (5, 80, mM_shrink, 1, 4) := ⟨yM_shrink, cM_shrink, 2, (some .int), 0, rfl, xw_c_M_shrink, xw_in_4, ⟨by decide +kernel, by decide +kernel⟩, by decide +kernel, ⟨xw_l_5_80, xw_i_M_shrink, xw_v_M_shrink, by decide +kernel⟩⟩
theorem xr_5_81 : xCLP (5, 81, mS_settle, 1, 3) := ⟨yS_settle, cS_settle, 4, (some .int), 0, rfl, xw_c_S_settle, xw_in_3, ⟨by decide +kernel, by decide +kernel⟩, by decide +kernel, ⟨xw_l_5_81, xw_i_S_settle, xw_v_S_settle, by decide +kernel⟩⟩
theorem xr_5_84 : xCLP (5, 84, mM_settle, 1, 4) := ⟨yM_settle, cM_settle, 5, (some .int), 0, rfl, xw_c_M_settle, xw_in_4, ⟨by decide +kernel, by decide +kernel⟩, by decide +kernel, ⟨xw_l_5_84, xw_i_M_settle, xw_v_M_settle, by decide +kernel⟩⟩
theorem xr_5_85 : xCLP (5, 85, mS_reset, 1, 3) := ⟨yS_reset, cS_reset, 5, none, 0, rfl, xw_c_S_reset, xw_in_3, ⟨by decide +kernel, by decide +kernel⟩, by decide +kernel, ⟨xw_l_5_85, xw_i_S_reset, xw_v_S_reset, by decide +kernel⟩⟩
theorem xr_5_88 : xCLP (5, 88, mM_reset, 1, 4) := ⟨yM_reset, cM_reset, 2, none, 0, rfl, xw_c_M_reset, xw_in_4, ⟨by decide +kernel, by decide +kernel⟩, by decide +kernel, ⟨xw_l_5_88, xw_i_M_reset, xw_v_M_reset, by decide +kernel⟩⟩
theorem xr_5_89 : xCLP (5, 89, mS_holds, 1, 3) := ⟨yS_holds, cS_holds, 3, (some .int), 0, rfl, xw_c_S_holds, xw_in_3, ⟨by decide +kernel, by decide +kernel⟩, by decide +kernel, ⟨xw_l_5_89, xw_i_S_holds, xw_v_S_holds, by decide +kernel⟩⟩
theorem xr_5_92 : xCLP (5, 92, mM_holds, 1, 4) := ⟨yM_holds, cM_holds, 2, (some .int), 0, rfl, xw_c_M_holds, xw_in_4, ⟨by decide +kernel, by decide +kernel⟩, by decide +kernel, ⟨xw_l_5_92, xw_i_M_holds, xw_v_M_holds, by decide +kernel⟩⟩
theorem xr_5_93 : xCLP (5, 93, mS_lacks, 1, 3) := ⟨yS_lacks, cS_lacks, 3, (some .int), 0, rfl, xw_c_S_lacks, xw_in_3, ⟨by decide +kernel, by decide +kernel⟩, by decide +kernel, ⟨xw_l_5_93, xw_i_S_lacks, xw_v_S_lacks, by decide +kernel⟩⟩
theorem xr_5_96 : xCLP (5, 96, mM_lacks, 1, 4) := ⟨yM_lacks, cM_lacks, 2, (some .int), 0, rfl, xw_c_M_lacks, xw_in_4, ⟨by decide +kernel, by decide +kernel⟩, by decide +kernel, ⟨xw_l_5_96, xw_i_M_lacks, xw_v_M_lacks, by decide +kernel⟩⟩
theorem xr_5_97 : xCLP (5, 97, mS_piece, 1, 3) := ⟨yS_piece, cS_piece, 5, (some .int), 2, rfl, xw_c_S_piece, xw_in_3, ⟨by decide +kernel, by decide +kernel⟩, by decide +kernel, ⟨xw_l_5_97, xw_i_S_piece, xw_v_S_piece, by decide +kernel⟩⟩
theorem xr_5_100 : xCLP (5, 100, mM_piece, 1, 4) := ⟨yM_piece, cM_piece, 4, (some .int), 2, rfl, xw_c_M_piece, xw_in_4, ⟨by decide +kernel, by decide +kernel⟩, by decide +kernel, ⟨xw_l_5_100, xw_i_M_piece, xw_v_M_piece, by decide +kernel⟩⟩
theorem xr_5_101 : xCLP (5, 101, mS_aim, 1, 3) := ⟨yS_aim, cS_aim, 3, (some .long), 1, rfl, xw_c_S_aim, xw_in_3, ⟨by decide +kernel, by decide +kernel⟩, by decide +kernel, ⟨xw_l_5_101, xw_i_S_aim, xw_v_S_aim, by decide +kernel⟩⟩
theorem xr_5_105 : xCLP (5, 105, mM_aim, 1, 4) := ⟨yM_aim, cM_aim, 2, (some .long), 1, rfl, xw_c_M_aim, xw_in_4, ⟨by decide +kernel, by decide +kernel⟩, by decide +kernel, ⟨xw_l_5_105, xw_i_M_aim, xw_v_M_aim, by decide +kernel⟩⟩
theorem xr_5_106 : xCLP (5, 106, mS_value, 1, 3) := ⟨yS_value, cS_value, 3, (some .int), 1, rfl, xw_c_S_value, xw_in_3, ⟨by decide +kernel, by decide +kernel⟩, by decide +kernel, ⟨xw_l_5_106, xw_i_S_value, xw_v_S_value, by decide +kernel⟩⟩
theorem xr_5_110 : xCLP (5, 110, mM_value, 1, 4) := ⟨yM_value, cM_value, 2, (some .int), 1, rfl, xw_c_M_value, xw_in_4, ⟨by decide +kernel, by decide +kernel⟩, by decide +kernel, ⟨xw_l_5_110, xw_i_M_value, xw_v_M_value, by decide +kernel⟩⟩
theorem xr_5_111 : xCLP (5, 111, mS_span, 1, 3) := ⟨yS_span, cS_span, 4, (some .int), 2, rfl, xw_c_S_span, xw_in_3, ⟨by decide +kernel, by decide +kernel⟩, by decide +kernel, ⟨xw_l_5_111, xw_i_S_span, xw_v_S_span, by decide +kernel⟩⟩
theorem xr_5_114 : xCLP (5, 114, mM_span, 1, 4) := ⟨yM_span, cM_span, 3, (some .int), 2, rfl, xw_c_M_span, xw_in_4, ⟨by decide +kernel, by decide +kernel⟩, by decide +kernel, ⟨xw_l_5_114, xw_i_M_span, xw_v_M_span, by decide +kernel⟩⟩
theorem xr_5_115 : xCLP (5, 115, mS_output, 1, 3) := ⟨yS_output, cS_output, 3, (some .int), 2, rfl, xw_c_S_output, xw_in_3, ⟨by decide +kernel, by decide +kernel⟩, by decide +kernel, ⟨xw_l_5_115, xw_i_S_output, xw_v_S_output, by decide +kernel⟩⟩
theorem xr_5_118 : xCLP (5, 118, mM_output, 1, 4) := ⟨yM_output, cM_output, 3, (some .int), 2, rfl, xw_c_M_output, xw_in_4, ⟨by decide +kernel, by decide +kernel⟩, by decide +kernel, ⟨xw_l_5_118, xw_i_M_output, xw_v_M_output, by decide +kernel⟩⟩
theorem xr_5_119 : xCLP (5, 119, mS_saved, 1, 3) := ⟨yS_saved, cS_saved, 6, (some .int), 0, rfl, xw_c_S_saved, xw_in_3, ⟨by decide +kernel, by decide +kernel⟩, by decide +kernel, ⟨xw_l_5_119, xw_i_S_saved, xw_v_S_saved, by decide +kernel⟩⟩
theorem xr_5_122 : xCLP (5, 122, mM_saved, 1, 4) := ⟨yM_saved, cM_saved, 3, (some .int), 0, rfl, xw_c_M_saved, xw_in_4, ⟨by decide +kernel, by decide +kernel⟩, by decide +kernel, ⟨xw_l_5_122, xw_i_M_saved, xw_v_M_saved, by decide +kernel⟩⟩
set_option maxRecDepth 100000 in
theorem xCL_ok : ∀ r ∈ xCL, xCLP r := xa_c xr_3_41 (xa_c xr_3_45 (xa_c xr_3_48 (xa_c xr_3_51 (xa_c xr_3_57 (xa_c xr_3_61 (xa_c xr_3_64 (xa_c xr_3_68 (xa_c xr_3_77 (xa_c xr_3_78 (xa_c xr_3_82 (xa_c xr_3_111 (xa_c xr_3_115 (xa_c xr_3_119 (xa_c xr_3_122 (xa_c xr_3_125 (xa_c xr_3_141 (xa_c xr_3_157 (xa_c xr_3_166 (xa_c xr_3_170 (xa_c xr_3_183 (xa_c xr_3_189 (xa_c xr_3_193 (xa_c xr_3_197 (xa_c xr_3_200 (xa_c xr_3_203 (xa_c xr_3_211 (xa_c xr_3_222 (xa_c xr_3_226 (xa_c xr_3_242 (xa_c xr_4_87 (xa_c xr_4_100 (xa_c xr_4_104 (xa_c xr_4_107 (xa_c xr_4_111 (xa_c xr_4_114 (xa_c xr_4_117 (xa_c xr_4_120 (xa_c xr_4_128 (xa_c xr_4_131 (xa_c xr_4_134 (xa_c xr_4_140 (xa_c xr_4_154 (xa_c xr_4_158 (xa_c xr_4_162 (xa_c xr_4_166 (xa_c xr_4_170 (xa_c xr_4_173 (xa_c xr_4_176 (xa_c xr_4_180 (xa_c xr_4_183 (xa_c xr_5_9 (xa_c xr_5_12 (xa_c xr_5_13 (xa_c xr_5_17 (xa_c xr_5_18 (xa_c xr_5_21 (xa_c xr_5_22 (xa_c xr_5_26 (xa_c xr_5_27 (xa_c xr_5_30 (xa_c xr_5_31 (xa_c xr_5_35 (xa_c xr_5_36 (xa_c xr_5_39 (xa_c xr_5_40 (xa_c xr_5_44 (xa_c xr_5_45 (xa_c xr_5_49 (xa_c xr_5_50 (xa_c xr_5_54 (xa_c xr_5_55 (xa_c xr_5_59 (xa_c xr_5_60 (xa_c xr_5_64 (xa_c xr_5_65 (xa_c xr_5_68 (xa_c xr_5_69 (xa_c xr_5_72 (xa_c xr_5_73 (xa_c xr_5_76 (xa_c xr_5_77 (xa_c xr_5_80 (xa_c xr_5_81 (xa_c xr_5_84 (xa_c xr_5_85 (xa_c xr_5_88 (xa_c xr_5_89 (xa_c xr_5_92 (xa_c xr_5_93 (xa_c xr_5_96 (xa_c xr_5_97 (xa_c xr_5_100 (xa_c xr_5_101 (xa_c xr_5_105 (xa_c xr_5_106 (xa_c xr_5_110 (xa_c xr_5_111 (xa_c xr_5_114 (xa_c xr_5_115 (xa_c xr_5_118 (xa_c xr_5_119 (xa_c xr_5_122 xa_n))))))))))))))))))))))))))))))))))))))))))))))))))))))))))))))))))))))))))))))))))))))))))))))))))))))
theorem xf_3_11 : xfl 3 11 = some (3, 0, true, .array (.object "ShrinkLayout$Part")) := by decide +kernel
theorem xf_3_17 : xfl 3 17 = some (3, 1, true, .array (.object "ShrinkLayout$Piece")) := by decide +kernel
theorem xf_3_23 : xfl 3 23 = some (3, 2, true, .array (.object "ShrinkLayout$Label")) := by decide +kernel
theorem xf_3_27 : xfl 3 27 = some (3, 3, true, .array (.int)) := by decide +kernel
theorem xf_3_31 : xfl 3 31 = some (3, 4, true, .array (.int)) := by decide +kernel
theorem xf_3_34 : xfl 3 34 = some (3, 5, true, .array (.int)) := by decide +kernel
theorem xf_3_37 : xfl 3 37 = some (3, 6, false, .int) := by decide +kernel
theorem xf_3_186 : xfl 3 186 = some (3, 7, false, .int) := by decide +kernel
theorem xf_3_74 : xfl 3 74 = some (3, 8, false, .int) := by decide +kernel
theorem xf_3_101 : xfl 3 101 = some (3, 9, false, .int) := by decide +kernel
theorem xf_1_7 : xfl 1 7 = some (1, 0, true, .int) := by decide +kernel
theorem xf_3_161 : xfl 3 161 = some (1, 0, true, .int) := by decide +kernel
theorem xf_1_13 : xfl 1 13 = some (1, 1, true, .int) := by decide +kernel
theorem xf_3_174 : xfl 3 174 = some (1, 1, true, .int) := by decide +kernel
theorem xf_1_16 : xfl 1 16 = some (1, 2, true, .int) := by decide +kernel
theorem xf_3_207 : xfl 3 207 = some (1, 2, true, .int) := by decide +kernel
theorem xf_3_108 : xfl 3 108 = some (1, 3, false, .boolean) := by decide +kernel
theorem xf_3_104 : xfl 3 104 = some (1, 4, false, .boolean) := by decide +kernel
theorem xf_3_177 : xfl 3 177 = some (1, 5, false, .int) := by decide +kernel
theorem xf_3_180 : xfl 3 180 = some (1, 6, false, .int) := by decide +kernel
theorem xf_1_23 : xfl 1 23 = some (1, 7, false, .object "ShrinkLayout$Piece") := by decide +kernel
theorem xf_3_208 : xfl 3 208 = some (1, 7, false, .object "ShrinkLayout$Piece") := by decide +kernel
theorem xf_1_19 : xfl 1 19 = some (1, 8, false, .object "ShrinkLayout$Piece") := by decide +kernel
theorem xf_2_9 : xfl 2 9 = some (2, 0, true, .int) := by decide +kernel
theorem xf_3_86 : xfl 3 86 = some (2, 0, true, .int) := by decide +kernel
theorem xf_2_15 : xfl 2 15 = some (2, 1, true, .object "ShrinkLayout$Part") := by decide +kernel
theorem xf_3_144 : xfl 3 144 = some (2, 1, true, .object "ShrinkLayout$Part") := by decide +kernel
theorem xf_2_19 : xfl 2 19 = some (2, 2, true, .object "ShrinkLayout$Label") := by decide +kernel
theorem xf_3_128 : xfl 3 128 = some (2, 2, true, .object "ShrinkLayout$Label") := by decide +kernel
theorem xf_2_23 : xfl 2 23 = some (2, 3, true, .int) := by decide +kernel
theorem xf_3_248 : xfl 3 248 = some (2, 3, true, .int) := by decide +kernel
theorem xf_2_26 : xfl 2 26 = some (2, 4, true, .boolean) := by decide +kernel
theorem xf_3_219 : xfl 3 219 = some (2, 4, true, .boolean) := by decide +kernel
theorem xf_2_30 : xfl 2 30 = some (2, 5, true, .int) := by decide +kernel
theorem xf_3_154 : xfl 3 154 = some (2, 5, true, .int) := by decide +kernel
theorem xf_2_33 : xfl 2 33 = some (2, 6, true, .int) := by decide +kernel
theorem xf_3_89 : xfl 3 89 = some (2, 6, true, .int) := by decide +kernel
theorem xf_2_36 : xfl 2 36 = some (2, 7, true, .int) := by decide +kernel
theorem xf_3_132 : xfl 3 132 = some (2, 7, true, .int) := by decide +kernel
theorem xf_2_39 : xfl 2 39 = some (2, 8, false, .int) := by decide +kernel
theorem xf_3_135 : xfl 3 135 = some (2, 8, false, .int) := by decide +kernel
theorem xf_3_151 : xfl 3 151 = some (2, 9, false, .int) := by decide +kernel
theorem xf_3_148 : xfl 3 148 = some (2, 10, false, .int) := by decide +kernel
theorem xf_3_138 : xfl 3 138 = some (2, 11, false, .boolean) := by decide +kernel
theorem xf_1_26 : xfl 1 26 = some (2, 12, false, .object "ShrinkLayout$Piece") := by decide +kernel
theorem xf_3_216 : xfl 3 216 = some (2, 12, false, .object "ShrinkLayout$Piece") := by decide +kernel
theorem xf_3_92 : xfl 3 92 = some (0, 0, false, .object "ShrinkLayout$Piece") := by decide +kernel
theorem xf_3_96 : xfl 3 96 = some (0, 1, false, .int) := by decide +kernel
theorem xf_4_97 : xfl 4 97 = some (4, 0, false, .int) := by decide +kernel
theorem xf_4_7 : xfl 4 7 = some (4, 1, true, .array (.int)) := by decide +kernel
theorem xf_4_13 : xfl 4 13 = some (4, 2, true, .array (.int)) := by decide +kernel
theorem xf_4_16 : xfl 4 16 = some (4, 3, true, .array (.int)) := by decide +kernel
theorem xf_4_83 : xfl 4 83 = some (4, 4, false, .int) := by decide +kernel
theorem xf_4_19 : xfl 4 19 = some (4, 5, true, .array (.int)) := by decide +kernel
theorem xf_4_22 : xfl 4 22 = some (4, 6, true, .array (.int)) := by decide +kernel
theorem xf_4_25 : xfl 4 25 = some (4, 7, true, .array (.boolean)) := by decide +kernel
theorem xf_4_29 : xfl 4 29 = some (4, 8, true, .array (.boolean)) := by decide +kernel
theorem xf_4_32 : xfl 4 32 = some (4, 9, true, .array (.boolean)) := by decide +kernel
theorem xf_4_35 : xfl 4 35 = some (4, 10, true, .array (.int)) := by decide +kernel
theorem xf_4_38 : xfl 4 38 = some (4, 11, true, .array (.int)) := by decide +kernel
theorem xf_4_91 : xfl 4 91 = some (4, 12, false, .int) := by decide +kernel
theorem xf_4_41 : xfl 4 41 = some (4, 13, true, .array (.int)) := by decide +kernel
theorem xf_4_44 : xfl 4 44 = some (4, 14, true, .array (.int)) := by decide +kernel
theorem xf_4_47 : xfl 4 47 = some (4, 15, true, .array (.int)) := by decide +kernel
theorem xf_4_50 : xfl 4 50 = some (4, 16, true, .array (.int)) := by decide +kernel
theorem xf_4_53 : xfl 4 53 = some (4, 17, true, .array (.int)) := by decide +kernel
theorem xf_4_56 : xfl 4 56 = some (4, 18, true, .array (.int)) := by decide +kernel
theorem xf_4_59 : xfl 4 59 = some (4, 19, true, .array (.int)) := by decide +kernel
theorem xf_4_62 : xfl 4 62 = some (4, 20, true, .array (.boolean)) := by decide +kernel
theorem xf_4_65 : xfl 4 65 = some (4, 21, true, .array (.boolean)) := by decide +kernel
theorem xf_4_68 : xfl 4 68 = some (4, 22, true, .array (.int)) := by decide +kernel
theorem xf_4_71 : xfl 4 71 = some (4, 23, true, .array (.int)) := by decide +kernel
theorem xf_4_74 : xfl 4 74 = some (4, 24, true, .array (.int)) := by decide +kernel
theorem xf_4_94 : xfl 4 94 = some (4, 25, false, .int) := by decide +kernel
theorem xf_4_77 : xfl 4 77 = some (4, 26, true, .array (.int)) := by decide +kernel
theorem xf_4_80 : xfl 4 80 = some (4, 27, true, .array (.int)) := by decide +kernel
theorem xe_3_9 : xnc 3 9 = some (1, 9) := by decide +kernel
theorem xe_3_15 : xnc 3 15 = some (2, 13) := by decide +kernel
theorem xe_3_21 : xnc 3 21 = some (0, 2) := by decide +kernel
theorem xe_5_7 : xnc 5 7 = some (3, 10) := by decide +kernel
theorem xe_5_10 : xnc 5 10 = some (4, 28) := by decide +kernel
theorem xg_3_9 : xna 3 9 = some 2001 := by decide +kernel
theorem xg_3_15 : xna 3 15 = some 2002 := by decide +kernel
theorem xg_3_21 : xna 3 21 = some 2003 := by decide +kernel
theorem xk_4_157 : xki 4 157 = some (4194304) := by decide +kernel
theorem xk_4_169 : xki 4 169 = some (1048576) := by decide +kernel
theorem xj_3_164 : xkl 3 164 = some (1099511627776) := by decide +kernel
theorem xj_3_230 : xkl 3 230 = some (-2048) := by decide +kernel
theorem xj_3_232 : xkl 3 232 = some (2046) := by decide +kernel
theorem xj_3_234 : xkl 3 234 = some (-1048576) := by decide +kernel
theorem xj_3_236 : xkl 3 236 = some (1048574) := by decide +kernel
theorem xj_3_238 : xkl 3 238 = some (2047) := by decide +kernel
theorem xj_3_240 : xkl 3 240 = some (2048) := by decide +kernel
theorem xj_3_246 : xkl 3 246 = some (31) := by decide +kernel
theorem xj_3_251 : xkl 3 251 = some (3) := by decide +kernel
theorem xj_3_253 : xkl 3 253 = some (12) := by decide +kernel
theorem xj_3_55 : xkl 3 55 = some (4194304) := by decide +kernel
theorem xj_3_72 : xkl 3 72 = some (4096) := by decide +kernel
theorem xj_3_99 : xkl 3 99 = some (1048576) := by decide +kernel
theorem xj_4_124 : xkl 4 124 = some (-2048) := by decide +kernel
theorem xj_4_126 : xkl 4 126 = some (2047) := by decide +kernel
theorem xj_4_138 : xkl 4 138 = some (2) := by decide +kernel
theorem xj_4_144 : xkl 4 144 = some (-1048576) := by decide +kernel
theorem xj_4_146 : xkl 4 146 = some (1048574) := by decide +kernel
theorem xj_4_148 : xkl 4 148 = some (2048) := by decide +kernel
theorem xj_4_150 : xkl 4 150 = some (4096) := by decide +kernel
theorem xj_4_152 : xkl 4 152 = some (131072) := by decide +kernel
theorem xj_4_186 : xkl 4 186 = some (1099511627776) := by decide +kernel
theorem xo_0_1 : xoi 0 1 = true := by decide +kernel
theorem xo_1_1 : xoi 1 1 = true := by decide +kernel
theorem xo_2_3 : xoi 2 3 = true := by decide +kernel
theorem xo_3_3 : xoi 3 3 = true := by decide +kernel
theorem xo_4_1 : xoi 4 1 = true := by decide +kernel
theorem xh_3_41 : xcl 3 41 = some (mS_isOutput, 0, 3) := by decide +kernel
theorem xh_3_45 : xcl 3 45 = some (mS_isPower, 0, 3) := by decide +kernel
theorem xh_3_48 : xcl 3 48 = some (mP_init, 2, 1) := by decide +kernel
theorem xh_3_51 : xcl 3 51 = some (mS_partAt, 1, 3) := by decide +kernel
theorem xh_3_57 : xcl 3 57 = some (mS_isWithin, 0, 3) := by decide +kernel
theorem xh_3_61 : xcl 3 61 = some (mQ_init, 2, 2) := by decide +kernel
theorem xh_3_64 : xcl 3 64 = some (mS_addPiece, 1, 3) := by decide +kernel
theorem xh_3_68 : xcl 3 68 = some (mS_addAimed, 1, 3) := by decide +kernel
theorem xh_3_77 : xcl 3 77 = some (mB_init, 3, 0) := by decide +kernel
theorem xh_3_78 : xcl 3 78 = some (mS_labelAt, 1, 3) := by decide +kernel
theorem xh_3_82 : xcl 3 82 = some (mS_pieceAt, 1, 3) := by decide +kernel
theorem xh_3_111 : xcl 3 111 = some (mS_bringWhatIsLedTo, 1, 3) := by decide +kernel
theorem xh_3_115 : xcl 3 115 = some (mS_countGone, 1, 3) := by decide +kernel
theorem xh_3_119 : xcl 3 119 = some (mS_makePass, 1, 3) := by decide +kernel
theorem xh_3_122 : xcl 3 122 = some (mS_makePasses, 1, 3) := by decide +kernel
theorem xh_3_125 : xcl 3 125 = some (mS_fixWhatDoesNotHold, 1, 3) := by decide +kernel
theorem xh_3_141 : xcl 3 141 = some (mS_survey, 1, 3) := by decide +kernel
theorem xh_3_157 : xcl 3 157 = some (mS_bytesToMultiple, 0, 3) := by decide +kernel
theorem xh_3_166 : xcl 3 166 = some (mS_aimOf, 0, 3) := by decide +kernel
theorem xh_3_170 : xcl 3 170 = some (mS_valueOf, 0, 3) := by decide +kernel
theorem xh_3_183 : xcl 3 183 = some (mQ_init2, 2, 2) := by decide +kernel
theorem xh_3_189 : xcl 3 189 = some (mP_append, 1, 1) := by decide +kernel
theorem xh_3_193 : xcl 3 193 = some (mS_partLedTo, 0, 3) := by decide +kernel
theorem xh_3_197 : xcl 3 197 = some (mS_placeOutput, 1, 3) := by decide +kernel
theorem xh_3_200 : xcl 3 200 = some (mS_leastSize, 1, 3) := by decide +kernel
theorem xh_3_203 : xcl 3 203 = some (mS_placePart, 0, 3) := by decide +kernel
theorem xh_3_211 : xcl 3 211 = some (mA_min, 0, 0) := by decide +kernel
theorem xh_3_222 : xcl 3 222 = some (mS_leastCall, 0, 3) := by decide +kernel
theorem xh_3_226 : xcl 3 226 = some (mS_leastLoad, 0, 3) := by decide +kernel
theorem xh_3_242 : xcl 3 242 = some (mA_floorDiv, 0, 0) := by decide +kernel
theorem xh_4_87 : xcl 4 87 = some (mM_within, 0, 4) := by decide +kernel
theorem xh_4_100 : xcl 4 100 = some (mM_roundUp, 0, 4) := by decide +kernel
theorem xh_4_104 : xcl 4 104 = some (mM_lay, 1, 4) := by decide +kernel
theorem xh_4_107 : xcl 4 107 = some (mM_isLabel, 1, 4) := by decide +kernel
theorem xh_4_111 : xcl 4 111 = some (mM_isGone, 1, 4) := by decide +kernel
theorem xh_4_114 : xcl 4 114 = some (mM_shrinks, 1, 4) := by decide +kernel
theorem xh_4_117 : xcl 4 117 = some (mM_hasValue, 1, 4) := by decide +kernel
theorem xh_4_120 : xcl 4 120 = some (mM_valueOf, 1, 4) := by decide +kernel
theorem xh_4_128 : xcl 4 128 = some (mM_hasAim, 1, 4) := by decide +kernel
theorem xh_4_131 : xcl 4 131 = some (mM_greatest, 0, 4) := by decide +kernel
theorem xh_4_134 : xcl 4 134 = some (mM_aimOf, 1, 4) := by decide +kernel
theorem xh_4_140 : xcl 4 140 = some (mM_isNear, 0, 4) := by decide +kernel
theorem xh_4_154 : xcl 4 154 = some (mM_isPart, 1, 4) := by decide +kernel
theorem xh_4_158 : xcl 4 158 = some (mM_added, 1, 4) := by decide +kernel
theorem xh_4_162 : xcl 4 162 = some (mM_aimed, 1, 4) := by decide +kernel
theorem xh_4_166 : xcl 4 166 = some (mM_isPiece, 1, 4) := by decide +kernel
theorem xh_4_170 : xcl 4 170 = some (mM_reckon, 1, 4) := by decide +kernel
theorem xh_4_173 : xcl 4 173 = some (mM_leastOf, 1, 4) := by decide +kernel
theorem xh_4_176 : xcl 4 176 = some (mM_pass, 1, 4) := by decide +kernel
theorem xh_4_180 : xcl 4 180 = some (mM_shrink, 1, 4) := by decide +kernel
theorem xh_4_183 : xcl 4 183 = some (mM_isTight, 1, 4) := by decide +kernel
theorem xh_5_9 : xcl 5 9 = some (mS_init, 2, 3) := by decide +kernel
theorem xh_5_12 : xcl 5 12 = some (mM_init, 2, 4) := by decide +kernel
theorem xh_5_13 : xcl 5 13 = some (mS_part, 1, 3) := by decide +kernel
theorem xh_5_17 : xcl 5 17 = some (mM_part, 1, 4) := by decide +kernel
theorem xh_5_18 : xcl 5 18 = some (mS_plain, 1, 3) := by decide +kernel
theorem xh_5_21 : xcl 5 21 = some (mM_plain, 1, 4) := by decide +kernel
theorem xh_5_22 : xcl 5 22 = some (mS_call, 1, 3) := by decide +kernel
theorem xh_5_26 : xcl 5 26 = some (mM_call, 1, 4) := by decide +kernel
theorem xh_5_27 : xcl 5 27 = some (mS_upper, 1, 3) := by decide +kernel
theorem xh_5_30 : xcl 5 30 = some (mM_upper, 1, 4) := by decide +kernel
theorem xh_5_31 : xcl 5 31 = some (mS_near, 1, 3) := by decide +kernel
theorem xh_5_35 : xcl 5 35 = some (mM_near, 1, 4) := by decide +kernel
theorem xh_5_36 : xcl 5 36 = some (mS_fill, 1, 3) := by decide +kernel
theorem xh_5_39 : xcl 5 39 = some (mM_fill, 1, 4) := by decide +kernel
theorem xh_5_40 : xcl 5 40 = some (mS_label, 1, 3) := by decide +kernel
theorem xh_5_44 : xcl 5 44 = some (mM_label, 1, 4) := by decide +kernel
theorem xh_5_45 : xcl 5 45 = some (mS_put, 1, 3) := by decide +kernel
theorem xh_5_49 : xcl 5 49 = some (mM_put, 1, 4) := by decide +kernel
theorem xh_5_50 : xcl 5 50 = some (mS_base, 1, 3) := by decide +kernel
theorem xh_5_54 : xcl 5 54 = some (mM_base, 1, 4) := by decide +kernel
theorem xh_5_55 : xcl 5 55 = some (mS_align, 1, 3) := by decide +kernel
theorem xh_5_59 : xcl 5 59 = some (mM_align, 1, 4) := by decide +kernel
theorem xh_5_60 : xcl 5 60 = some (mS_root, 1, 3) := by decide +kernel
theorem xh_5_64 : xcl 5 64 = some (mM_root, 1, 4) := by decide +kernel
theorem xh_5_65 : xcl 5 65 = some (mS_sweep, 1, 3) := by decide +kernel
theorem xh_5_68 : xcl 5 68 = some (mM_sweep, 1, 4) := by decide +kernel
theorem xh_5_69 : xcl 5 69 = some (mS_back, 1, 3) := by decide +kernel
theorem xh_5_72 : xcl 5 72 = some (mM_back, 1, 4) := by decide +kernel
theorem xh_5_73 : xcl 5 73 = some (mS_pass, 1, 3) := by decide +kernel
theorem xh_5_76 : xcl 5 76 = some (mM_pass, 1, 4) := by decide +kernel
theorem xh_5_77 : xcl 5 77 = some (mS_shrink, 1, 3) := by decide +kernel
theorem xh_5_80 : xcl 5 80 = some (mM_shrink, 1, 4) := by decide +kernel
theorem xh_5_81 : xcl 5 81 = some (mS_settle, 1, 3) := by decide +kernel
theorem xh_5_84 : xcl 5 84 = some (mM_settle, 1, 4) := by decide +kernel
theorem xh_5_85 : xcl 5 85 = some (mS_reset, 1, 3) := by decide +kernel
theorem xh_5_88 : xcl 5 88 = some (mM_reset, 1, 4) := by decide +kernel
theorem xh_5_89 : xcl 5 89 = some (mS_holds, 1, 3) := by decide +kernel
theorem xh_5_92 : xcl 5 92 = some (mM_holds, 1, 4) := by decide +kernel
theorem xh_5_93 : xcl 5 93 = some (mS_lacks, 1, 3) := by decide +kernel
theorem xh_5_96 : xcl 5 96 = some (mM_lacks, 1, 4) := by decide +kernel
theorem xh_5_97 : xcl 5 97 = some (mS_piece, 1, 3) := by decide +kernel
theorem xh_5_100 : xcl 5 100 = some (mM_piece, 1, 4) := by decide +kernel
theorem xh_5_101 : xcl 5 101 = some (mS_aim, 1, 3) := by decide +kernel
theorem xh_5_105 : xcl 5 105 = some (mM_aim, 1, 4) := by decide +kernel
theorem xh_5_106 : xcl 5 106 = some (mS_value, 1, 3) := by decide +kernel
theorem xh_5_110 : xcl 5 110 = some (mM_value, 1, 4) := by decide +kernel
theorem xh_5_111 : xcl 5 111 = some (mS_span, 1, 3) := by decide +kernel
theorem xh_5_114 : xcl 5 114 = some (mM_span, 1, 4) := by decide +kernel
theorem xh_5_115 : xcl 5 115 = some (mS_output, 1, 3) := by decide +kernel
theorem xh_5_118 : xcl 5 118 = some (mM_output, 1, 4) := by decide +kernel
theorem xh_5_119 : xcl 5 119 = some (mS_saved, 1, 3) := by decide +kernel
theorem xh_5_122 : xcl 5 122 = some (mM_saved, 1, 4) := by decide +kernel
theorem xm_S_init : xmi mS_init = some (yS_init, cS_init, 1, none, 2, 0) := rfl
theorem xm_S_part : xmi mS_part = some (yS_part, cS_part, 3, (some .int), 1, 2) := rfl
theorem xm_S_isOutput : xmi mS_isOutput = some (yS_isOutput, cS_isOutput, 1, (some .boolean), 0, 1) := rfl
theorem xm_S_isWithin : xmi mS_isWithin = some (yS_isWithin, cS_isWithin, 6, (some .boolean), 0, 3) := rfl
theorem xm_S_isPower : xmi mS_isPower = some (yS_isPower, cS_isPower, 1, (some .boolean), 0, 1) := rfl
theorem xm_P_init : xmi mP_init = some (yP_init, cP_init, 4, none, 2, 3) := rfl
theorem xm_S_plain : xmi mS_plain = some (yS_plain, cS_plain, 4, (some .int), 1, 2) := rfl
theorem xm_Q_init : xmi mQ_init = some (yQ_init, cQ_init, 5, none, 2, 4) := rfl
theorem xm_S_addPiece : xmi mS_addPiece = some (yS_addPiece, cS_addPiece, 2, (some .int), 1, 1) := rfl
theorem xm_P_append : xmi mP_append = some (yP_append, cP_append, 2, none, 1, 1) := rfl
theorem xm_S_call : xmi mS_call = some (yS_call, cS_call, 5, (some .int), 1, 4) := rfl
theorem xm_S_addAimed : xmi mS_addAimed = some (yS_addAimed, cS_addAimed, 8, (some .int), 1, 5) := rfl
theorem xm_Q_init2 : xmi mQ_init2 = some (yQ_init2, cQ_init2, 6, none, 2, 5) := rfl
theorem xm_S_upper : xmi mS_upper = some (yS_upper, cS_upper, 5, (some .int), 1, 4) := rfl
theorem xm_S_near : xmi mS_near = some (yS_near, cS_near, 4, (some .int), 1, 3) := rfl
theorem xm_S_fill : xmi mS_fill = some (yS_fill, cS_fill, 5, (some .int), 1, 3) := rfl
theorem xm_S_label : xmi mS_label = some (yS_label, cS_label, 1, (some .int), 1, 0) := rfl
theorem xm_B_init : xmi mB_init = some (yB_init, cB_init, 1, none, 3, 0) := rfl
theorem xm_S_put : xmi mS_put = some (yS_put, cS_put, 7, (some .boolean), 1, 3) := rfl
theorem xm_S_base : xmi mS_base = some (yS_base, cS_base, 2, (some .boolean), 1, 1) := rfl
theorem xm_S_align : xmi mS_align = some (yS_align, cS_align, 3, (some .boolean), 1, 2) := rfl
theorem xm_S_root : xmi mS_root = some (yS_root, cS_root, 4, (some .boolean), 1, 2) := rfl
theorem xm_S_sweep : xmi mS_sweep = some (yS_sweep, cS_sweep, 5, (some .int), 1, 0) := rfl
theorem xm_S_bringWhatIsLedTo : xmi mS_bringWhatIsLedTo = some (yS_bringWhatIsLedTo, cS_bringWhatIsLedTo, 7, (some .boolean), 1, 0) := rfl
theorem xm_S_countGone : xmi mS_countGone = some (yS_countGone, cS_countGone, 6, (some .int), 1, 0) := rfl
theorem xm_S_back : xmi mS_back = some (yS_back, cS_back, 5, none, 1, 0) := rfl
theorem xm_S_pass : xmi mS_pass = some (yS_pass, cS_pass, 1, (some .int), 1, 0) := rfl
theorem xm_S_makePass : xmi mS_makePass = some (yS_makePass, cS_makePass, 6, (some .int), 1, 0) := rfl
theorem xm_S_survey : xmi mS_survey = some (yS_survey, cS_survey, 6, none, 1, 0) := rfl
theorem xm_S_placeOutput : xmi mS_placeOutput = some (yS_placeOutput, cS_placeOutput, 8, (some .int), 1, 2) := rfl
theorem xm_S_bytesToMultiple : xmi mS_bytesToMultiple = some (yS_bytesToMultiple, cS_bytesToMultiple, 2, (some .int), 0, 2) := rfl
theorem xm_S_placePart : xmi mS_placePart = some (yS_placePart, cS_placePart, 4, (some .int), 0, 2) := rfl
theorem xm_A_min : xmi mA_min = some (yA_min, cA_min, 2, (some .int), 0, 2) := rfl
theorem xm_S_leastSize : xmi mS_leastSize = some (yS_leastSize, cS_leastSize, 4, (some .int), 1, 1) := rfl
theorem xm_S_aimOf : xmi mS_aimOf = some (yS_aimOf, cS_aimOf, 2, (some .long), 0, 1) := rfl
theorem xm_S_valueOf : xmi mS_valueOf = some (yS_valueOf, cS_valueOf, 2, (some .int), 0, 1) := rfl
theorem xm_S_leastCall : xmi mS_leastCall = some (yS_leastCall, cS_leastCall, 4, (some .int), 0, 2) := rfl
theorem xm_S_leastLoad : xmi mS_leastLoad = some (yS_leastLoad, cS_leastLoad, 5, (some .int), 0, 3) := rfl
theorem xm_A_floorDiv : xmi mA_floorDiv = some (yA_floorDiv, cA_floorDiv, 6, (some .long), 0, 2) := rfl
theorem xm_S_shrink : xmi mS_shrink = some (yS_shrink, cS_shrink, 1, (some .int), 1, 0) := rfl
theorem xm_S_makePasses : xmi mS_makePasses = some (yS_makePasses, cS_makePasses, 3, (some .int), 1, 0) := rfl
theorem xm_S_settle : xmi mS_settle = some (yS_settle, cS_settle, 4, (some .int), 1, 0) := rfl
theorem xm_S_fixWhatDoesNotHold : xmi mS_fixWhatDoesNotHold = some (yS_fixWhatDoesNotHold, cS_fixWhatDoesNotHold, 6, (some .int), 1, 0) := rfl
theorem xm_S_reset : xmi mS_reset = some (yS_reset, cS_reset, 5, none, 1, 0) := rfl
theorem xm_S_holds : xmi mS_holds = some (yS_holds, cS_holds, 3, (some .int), 1, 0) := rfl
theorem xm_S_lacks : xmi mS_lacks = some (yS_lacks, cS_lacks, 3, (some .int), 1, 0) := rfl
theorem xm_S_piece : xmi mS_piece = some (yS_piece, cS_piece, 5, (some .int), 1, 2) := rfl
theorem xm_S_aim : xmi mS_aim = some (yS_aim, cS_aim, 3, (some .long), 1, 1) := rfl
theorem xm_S_value : xmi mS_value = some (yS_value, cS_value, 3, (some .int), 1, 1) := rfl
theorem xm_S_span : xmi mS_span = some (yS_span, cS_span, 4, (some .int), 1, 2) := rfl
theorem xm_S_output : xmi mS_output = some (yS_output, cS_output, 3, (some .int), 1, 2) := rfl
theorem xm_S_saved : xmi mS_saved = some (yS_saved, cS_saved, 6, (some .int), 1, 0) := rfl
theorem xm_M_init : xmi mM_init = some (yM_init, cM_init, 1, none, 2, 0) := rfl
theorem xm_M_part : xmi mM_part = some (yM_part, cM_part, 3, (some .int), 1, 2) := rfl
theorem xm_M_within : xmi mM_within = some (yM_within, cM_within, 3, (some .boolean), 0, 3) := rfl
theorem xm_M_plain : xmi mM_plain = some (yM_plain, cM_plain, 3, (some .int), 1, 2) := rfl
theorem xm_M_isPart : xmi mM_isPart = some (yM_isPart, cM_isPart, 2, (some .boolean), 1, 1) := rfl
theorem xm_M_added : xmi mM_added = some (yM_added, cM_added, 4, (some .int), 1, 3) := rfl
theorem xm_M_call : xmi mM_call = some (yM_call, cM_call, 5, (some .int), 1, 4) := rfl
theorem xm_M_aimed : xmi mM_aimed = some (yM_aimed, cM_aimed, 6, (some .int), 1, 5) := rfl
theorem xm_M_isLabel : xmi mM_isLabel = some (yM_isLabel, cM_isLabel, 2, (some .boolean), 1, 1) := rfl
theorem xm_M_greatest : xmi mM_greatest = some (yM_greatest, cM_greatest, 1, (some .int), 0, 1) := rfl
theorem xm_M_upper : xmi mM_upper = some (yM_upper, cM_upper, 5, (some .int), 1, 4) := rfl
theorem xm_M_near : xmi mM_near = some (yM_near, cM_near, 4, (some .int), 1, 3) := rfl
theorem xm_M_fill : xmi mM_fill = some (yM_fill, cM_fill, 4, (some .int), 1, 3) := rfl
theorem xm_M_label : xmi mM_label = some (yM_label, cM_label, 1, (some .int), 1, 0) := rfl
theorem xm_M_put : xmi mM_put = some (yM_put, cM_put, 4, (some .boolean), 1, 3) := rfl
theorem xm_M_isPiece : xmi mM_isPiece = some (yM_isPiece, cM_isPiece, 2, (some .boolean), 1, 1) := rfl
theorem xm_M_base : xmi mM_base = some (yM_base, cM_base, 2, (some .boolean), 1, 1) := rfl
theorem xm_M_align : xmi mM_align = some (yM_align, cM_align, 3, (some .boolean), 1, 2) := rfl
theorem xm_M_root : xmi mM_root = some (yM_root, cM_root, 3, (some .boolean), 1, 2) := rfl
theorem xm_M_sweep : xmi mM_sweep = some (yM_sweep, cM_sweep, 4, (some .int), 1, 0) := rfl
theorem xm_M_shrinks : xmi mM_shrinks = some (yM_shrinks, cM_shrinks, 2, (some .boolean), 1, 1) := rfl
theorem xm_M_back : xmi mM_back = some (yM_back, cM_back, 2, none, 1, 0) := rfl
theorem xm_M_pass : xmi mM_pass = some (yM_pass, cM_pass, 3, (some .int), 1, 0) := rfl
theorem xm_M_reckon : xmi mM_reckon = some (yM_reckon, cM_reckon, 4, none, 1, 0) := rfl
theorem xm_M_roundUp : xmi mM_roundUp = some (yM_roundUp, cM_roundUp, 2, (some .int), 0, 2) := rfl
theorem xm_M_lay : xmi mM_lay = some (yM_lay, cM_lay, 6, (some .int), 1, 2) := rfl
theorem xm_M_leastOf : xmi mM_leastOf = some (yM_leastOf, cM_leastOf, 7, (some .int), 1, 1) := rfl
theorem xm_M_hasAim : xmi mM_hasAim = some (yM_hasAim, cM_hasAim, 2, (some .boolean), 1, 1) := rfl
theorem xm_M_hasValue : xmi mM_hasValue = some (yM_hasValue, cM_hasValue, 2, (some .boolean), 1, 1) := rfl
theorem xm_M_isGone : xmi mM_isGone = some (yM_isGone, cM_isGone, 2, (some .boolean), 1, 1) := rfl
theorem xm_M_aimOf : xmi mM_aimOf = some (yM_aimOf, cM_aimOf, 2, (some .long), 1, 1) := rfl
theorem xm_M_valueOf : xmi mM_valueOf = some (yM_valueOf, cM_valueOf, 3, (some .int), 1, 1) := rfl
theorem xm_M_isNear : xmi mM_isNear = some (yM_isNear, cM_isNear, 2, (some .boolean), 0, 1) := rfl
theorem xm_M_shrink : xmi mM_shrink = some (yM_shrink, cM_shrink, 2, (some .int), 1, 0) := rfl
theorem xm_M_settle : xmi mM_settle = some (yM_settle, cM_settle, 5, (some .int), 1, 0) := rfl
theorem xm_M_isTight : xmi mM_isTight = some (yM_isTight, cM_isTight, 2, (some .boolean), 1, 1) := rfl
theorem xm_M_reset : xmi mM_reset = some (yM_reset, cM_reset, 2, none, 1, 0) := rfl
theorem xm_M_holds : xmi mM_holds = some (yM_holds, cM_holds, 2, (some .int), 1, 0) := rfl
theorem xm_M_lacks : xmi mM_lacks = some (yM_lacks, cM_lacks, 2, (some .int), 1, 0) := rfl
theorem xm_M_piece : xmi mM_piece = some (yM_piece, cM_piece, 4, (some .int), 1, 2) := rfl
theorem xm_M_aim : xmi mM_aim = some (yM_aim, cM_aim, 2, (some .long), 1, 1) := rfl
theorem xm_M_value : xmi mM_value = some (yM_value, cM_value, 2, (some .int), 1, 1) := rfl
theorem xm_M_span : xmi mM_span = some (yM_span, cM_span, 3, (some .int), 1, 2) := rfl
theorem xm_M_output : xmi mM_output = some (yM_output, cM_output, 3, (some .int), 1, 2) := rfl
theorem xm_M_saved : xmi mM_saved = some (yM_saved, cM_saved, 3, (some .int), 1, 0) := rfl
theorem xm_S_partAt : xmi mS_partAt = some (yS_partAt, cS_partAt, 2, (some (.object "ShrinkLayout$Part")), 1, 1) := rfl
theorem xm_S_labelAt : xmi mS_labelAt = some (yS_labelAt, cS_labelAt, 2, (some (.object "ShrinkLayout$Label")), 1, 1) := rfl
theorem xm_S_pieceAt : xmi mS_pieceAt = some (yS_pieceAt, cS_pieceAt, 2, (some (.object "ShrinkLayout$Piece")), 1, 1) := rfl
theorem xm_S_partLedTo : xmi mS_partLedTo = some (yS_partLedTo, cS_partLedTo, 1, (some (.object "ShrinkLayout$Part")), 0, 1) := rfl
theorem xm_L_law : xmi mL_law = some (yL_law, cL_law, 4, (some .boolean), 0, 1) := rfl
end
section
/-! THE LAYER: a method's walk over a picture of the heap that is functions of addresses (x-rows). -/
-- values: an int, a long, a reference or null
abbrev xVal : Type := Int32 ⊕ (Int64 ⊕ Option Nat)
def xv (v : xVal) : Value := match v with
  | .inl x => .int x
  | .inr (.inl y) => .long y
  | .inr (.inr o) => va_rf o
def xcat (v : xVal) : Nat := match v with
  | .inl _ => 1
  | .inr (.inl _) => 2
  | .inr (.inr _) => 1
theorem xcat_ok (v : xVal) : (xv v).category = xcat v := by
  rcases v with x | y | o
  · rfl
  · rfl
  · cases o <;> rfl
-- the heap: its size, the tag of a cell (0: none of ours), its ints, its references, its length
abbrev xS : Type := Nat × (Nat → Nat) × (Nat → Nat → Int32) × (Nat → Nat → Option Nat) × (Nat → Nat)
def xn (S : xS) : Nat := S.1
def xc (S : xS) : Nat → Nat := S.2.1
def xi (S : xS) : Nat → Nat → Int32 := S.2.2.1
def xr (S : xS) : Nat → Nat → Option Nat := S.2.2.2.1
def xl (S : xS) : Nat → Nat := S.2.2.2.2
def xpi (S : xS) (a k : Nat) (x : Int32) : xS := (xn S, xc S, fun b j => if b = a ∧ j = k then x else xi S b j, xr S, xl S)
def xpr (S : xS) (a k : Nat) (o : Option Nat) : xS := (xn S, xc S, xi S, fun b j => if b = a ∧ j = k then o else xr S b j, xl S)
def xmk (S : xS) (t n : Nat) : xS := (xn S + 1, fun b => if b = xn S then t else xc S b, fun b j => if b = xn S then 0 else xi S b j, fun b j => if b = xn S then none else xr S b j, fun b => if b = xn S then n else xl S b)
theorem xn_pi (S : xS) (a k : Nat) (x : Int32) : xn (xpi S a k x) = xn S := rfl
theorem xc_pi (S : xS) (a k : Nat) (x : Int32) : xc (xpi S a k x) = xc S := rfl
theorem xr_pi (S : xS) (a k : Nat) (x : Int32) : xr (xpi S a k x) = xr S := rfl
theorem xl_pi (S : xS) (a k : Nat) (x : Int32) : xl (xpi S a k x) = xl S := rfl
theorem xi_pi (S : xS) (a k : Nat) (x : Int32) (b j : Nat) : xi (xpi S a k x) b j = if b = a ∧ j = k then x else xi S b j := rfl
theorem xn_pr (S : xS) (a k : Nat) (o : Option Nat) : xn (xpr S a k o) = xn S := rfl
theorem xc_pr (S : xS) (a k : Nat) (o : Option Nat) : xc (xpr S a k o) = xc S := rfl
theorem xi_pr (S : xS) (a k : Nat) (o : Option Nat) : xi (xpr S a k o) = xi S := rfl
theorem xl_pr (S : xS) (a k : Nat) (o : Option Nat) : xl (xpr S a k o) = xl S := rfl
theorem xr_pr (S : xS) (a k : Nat) (o : Option Nat) (b j : Nat) : xr (xpr S a k o) b j = if b = a ∧ j = k then o else xr S b j := rfl
theorem xn_mk (S : xS) (t n : Nat) : xn (xmk S t n) = xn S + 1 := rfl
theorem xc_mk (S : xS) (t n b : Nat) : xc (xmk S t n) b = if b = xn S then t else xc S b := rfl
theorem xi_mk (S : xS) (t n b j : Nat) : xi (xmk S t n) b j = if b = xn S then 0 else xi S b j := rfl
theorem xr_mk (S : xS) (t n b j : Nat) : xr (xmk S t n) b j = if b = xn S then none else xr S b j := rfl
theorem xl_mk (S : xS) (t n b : Nat) : xl (xmk S t n) b = if b = xn S then n else xl S b := rfl
-- a field's, or an element's, value by its type
def xfv (ty : FieldType) (S : xS) (a k : Nat) : Value := match ty with
  | .object _ => va_rf (xr S a k)
  | .array _ => va_rf (xr S a k)
  | _ => .int (xi S a k)
theorem xfv_congr {ty : FieldType} {S S' : xS} {a k : Nat} (h1 : xi S' a k = xi S a k) (h2 : xr S' a k = xr S a k) : xfv ty S' a k = xfv ty S a k := by
  cases ty <;> simp [xfv, h1, h2]
theorem xfv_R {ty : FieldType} (h : xisR ty = true) (S : xS) (a k : Nat) : xfv ty S a k = va_rf (xr S a k) := by
  cases ty <;> simp_all [xfv, xisR]
theorem xfv_I {ty : FieldType} (h : xisR ty = false) (S : xS) (a k : Nat) : xfv ty S a k = .int (xi S a k) := by
  cases ty <;> simp_all [xfv, xisR]
-- the picture
def xObj (D : va_G) (S : xS) (a ci : Nat) (q : vw_C) (H : Heap) : Prop := t_OB a (D.1 ci) q.2.2 (D.2 ci) H (fun k => xfv (xty ci k) S a k)
def xArr (U : State) (S : xS) (a : Nat) (ty : FieldType) (H : Heap) : Prop := ∃ (cell : Cell) (kA : Class) (comp : ClassId), H[a]? = some cell ∧ (∀ z, cell.vm ≠ .statics z) ∧ cell.vm ≠ .unknown ∧ U.vm.classes[cell.cls]? = some kA ∧ kA.kind = .array comp ty ∧ (∀ C, ty = .object C → U.vm.findClass C = some comp) ∧ cell.slots.size = xl S a ∧ ∀ j, j < xl S a → cell.slots[j]? = some (xfv ty S a j)
def xRel (D : va_G) (n0 : Nat) (U : State) (S : xS) (H : Heap) : Prop :=
  H.size = xn S ∧ n0 ≤ xn S ∧ (∀ a, xn S ≤ a → xc S a = 0) ∧ (∀ a ci q, xc S a = ci + 1 → xcls[ci]? = some q → xObj D S a ci q H) ∧ (∀ a ty, xat (xc S a) = some ty → xArr U S a ty H) ∧ ∀ a, xc S a ≠ 0 → xc S a ≠ 999 → n0 ≤ a
theorem xArr.moved {u U : State} {S : xS} {a : Nat} {ty : FieldType} {H : Heap} (hvm : u.vm.Alike U.vm) (h : xArr u S a ty H) : xArr U S a ty H := by
  obtain ⟨cell, kA, comp, h1, h2, h3, h4, h5, h6, h7, h8⟩ := h
  obtain ⟨k', hk', he⟩ := hvm.2.2 _ _ h4
  exact ⟨cell, k', comp, h1, h2, h3, hk', by rw [he]; exact h5, fun C hC => by rw [hvm.findClass]; exact h6 C hC, h7, h8⟩
theorem xRel.moved {D : va_G} {n0 : Nat} {u U : State} {S : xS} {H : Heap} (hvm : u.vm.Alike U.vm) (h : xRel D n0 u S H) : xRel D n0 U S H :=
  ⟨h.1, h.2.1, h.2.2.1, h.2.2.2.1, fun a ty ha => (h.2.2.2.2.1 a ty ha).moved hvm, h.2.2.2.2.2⟩
theorem xArr.isA {U : State} {S : xS} {a : Nat} {ty : FieldType} {H : Heap} (h : xArr U S a ty H) : ∃ cell : Cell, H[a]? = some cell ∧ U.isArrayOf cell ty ∧ cell.vm ≠ .unknown ∧ cell.slots.size = xl S a ∧ ∀ j, j < xl S a → cell.slots[j]? = some (xfv ty S a j) := by
  obtain ⟨cell, kA, comp, h1, h2, h3, h4, h5, h6, h7, h8⟩ := h
  exact ⟨cell, h1, ⟨h2, kA, h4, comp, h5⟩, h3, h7, h8⟩
theorem xRel.lt {D : va_G} {n0 : Nat} {U : State} {S : xS} {H : Heap} (h : xRel D n0 U S H) {a : Nat} (ha : xc S a ≠ 0) : a < xn S := by
  rcases Nat.lt_or_ge a (xn S) with q | q
  · exact q
  · exact absurd (h.2.2.1 a q) ha
/-- a cell has changed in the heap and in the picture, nothing else -/
theorem xRel.set {D : va_G} {n0 : Nat} {U : State} {S S' : xS} {H H' : Heap} {a : Nat} (h : xRel D n0 U S H) (hn : xn S' = xn S) (hc : xc S' = xc S) (hl : xl S' = xl S)
    (hi : ∀ b j, b ≠ a → xi S' b j = xi S b j) (hr : ∀ b j, b ≠ a → xr S' b j = xr S b j) (hz : H'.size = H.size) (ho : ∀ q, q ≠ a → H'[q]? = H[q]?)
    (h1 : ∀ ci q, xc S a = ci + 1 → xcls[ci]? = some q → xObj D S' a ci q H') (h2 : ∀ ty, xat (xc S a) = some ty → xArr U S' a ty H') : xRel D n0 U S' H' := by
  obtain ⟨g1, g2, g3, g4, g5, g6⟩ := h
  refine ⟨by rw [hz, hn]; exact g1, by rw [hn]; exact g2, by rw [hn, hc]; exact g3, fun b ci q hb hq => ?_, fun b ty hb => ?_, by rw [hc]; exact g6⟩
  · rw [hc] at hb
    by_cases e : b = a
    · subst e; exact h1 ci q hb hq
    · have g := g4 b ci q hb hq
      exact (g.kept (ho b e)).to (fun k _ => (xfv_congr (hi b k e) (hr b k e)).symm)
  · rw [hc] at hb
    by_cases e : b = a
    · subst e; exact h2 ty hb
    · obtain ⟨cell, kA, comp, q1, q2, q3, q4, q5, q6, q7, q8⟩ := g5 b ty hb
      exact ⟨cell, kA, comp, by rw [ho b e]; exact q1, q2, q3, q4, q5, q6, by rw [hl]; exact q7, fun j hj => by rw [hl] at hj; rw [xfv_congr (hi b j e) (hr b j e)]; exact q8 j hj⟩
/-- a cell is new -/
theorem xRel.push {D : va_G} {n0 : Nat} {U : State} {S : xS} {H H' : Heap} {t n : Nat} (h : xRel D n0 U S H) (hz : H'.size = xn S + 1) (ho : ∀ q, q < xn S → H'[q]? = H[q]?)
    (h1 : ∀ ci q, t = ci + 1 → xcls[ci]? = some q → xObj D (xmk S t n) (xn S) ci q H') (h2 : ∀ ty, xat t = some ty → xArr U (xmk S t n) (xn S) ty H') : xRel D n0 U (xmk S t n) H' := by
  have hlt := fun a => h.lt (a := a)
  obtain ⟨g1, g2, g3, g4, g5, g6⟩ := h
  have hX0 : xat 0 = none := rfl
  refine ⟨by rw [hz, xn_mk], by rw [xn_mk]; omega, fun a ha => ?_, fun b ci q hb hq => ?_, fun b ty hb => ?_, fun a ha hb => ?_⟩
  · rw [xn_mk] at ha
    rw [xc_mk, if_neg (by omega)]
    exact g3 a (by omega)
  · rw [xc_mk] at hb
    by_cases e : b = xn S
    · rw [if_pos e] at hb; subst e; exact h1 ci q hb hq
    · rw [if_neg e] at hb
      have hb' : b < xn S := hlt b (by rw [hb]; exact Nat.succ_ne_zero _)
      exact ((g4 b ci q hb hq).kept (ho b hb')).to (fun k _ => (xfv_congr (by rw [xi_mk, if_neg e]) (by rw [xr_mk, if_neg e])).symm)
  · rw [xc_mk] at hb
    by_cases e : b = xn S
    · rw [if_pos e] at hb; subst e; exact h2 ty hb
    · rw [if_neg e] at hb
      have hb' : b < xn S := hlt b (by intro z; rw [z, hX0] at hb; cases hb)
      obtain ⟨cell, kA, comp, q1, q2, q3, q4, q5, q6, q7, q8⟩ := g5 b ty hb
      exact ⟨cell, kA, comp, by rw [ho b hb']; exact q1, q2, q3, q4, q5, q6, by rw [xl_mk, if_neg e]; exact q7, fun j hj => by
        rw [xl_mk, if_neg e] at hj
        rw [xfv_congr (S := S) (by rw [xi_mk, if_neg e]) (by rw [xr_mk, if_neg e])]
        exact q8 j hj⟩
  · rw [xc_mk] at ha hb
    by_cases e : a = xn S
    · omega
    · rw [if_neg e] at ha hb
      exact g6 a ha hb
-- the locals: a list, 'none' where nothing is known
def xLs (ls : Array Slot) (nL : Nat) (lv : List (Option xVal)) : Prop := (ls.size = nL ∧ lv.length ≤ nL) ∧ lv_wf ls ∧ ∀ (i : Nat) (v : xVal), lv[i]? = some (some v) → ls[i]? = some (.val (xv v))
def xas : List (Option xVal) → Nat → List (Nat × Value)
  | [], _ => []
  | none :: t, i => xas t (i + 1)
  | some v :: t, i => (i, xv v) :: xas t (i + 1)
theorem xas_mem : ∀ (lv : List (Option xVal)) (i0 : Nat) (q : Nat × Value), q ∈ xas lv i0 ↔ ∃ (k : Nat) (w : xVal), q = (i0 + k, xv w) ∧ lv[k]? = some (some w)
  | [], i0, q => by simp [xas]
  | none :: t, i0, q => by
    rw [xas, xas_mem t (i0 + 1) q]
    constructor
    · rintro ⟨k, w, h1, h2⟩
      exact ⟨k + 1, w, by rw [h1]; congr 1; omega, by simpa using h2⟩
    · rintro ⟨k, w, h1, h2⟩
      cases k with
      | zero => simp at h2
      | succ k => exact ⟨k, w, by rw [h1]; congr 1; omega, by simpa using h2⟩
  | some v :: t, i0, q => by
    rw [xas, List.mem_cons, xas_mem t (i0 + 1) q]
    constructor
    · rintro (h | ⟨k, w, h1, h2⟩)
      · exact ⟨0, v, h, rfl⟩
      · exact ⟨k + 1, w, by rw [h1]; congr 1; omega, by simpa using h2⟩
    · rintro ⟨k, w, h1, h2⟩
      cases k with
      | zero =>
        left
        simp at h2
        rw [h1, h2]; rfl
      | succ k => exact Or.inr ⟨k, w, by rw [h1]; congr 1; omega, by simpa using h2⟩
theorem xLs.has {ls : Array Slot} {nL : Nat} {lv : List (Option xVal)} (h : xLs ls nL lv) : lv_has ls nL (xas lv 0) := by
  refine ⟨h.1.1, h.2.1, fun q hq => ?_⟩
  obtain ⟨k, w, e, hk⟩ := (xas_mem lv 0 q).mp hq
  subst e
  simpa using h.2.2 k w hk
-- is the slot ahead of i free of a long?
def xprev (lv : List (Option xVal)) (i : Nat) : Bool := match i with
  | 0 => true
  | j + 1 => match lv[j]? with
    | some (some (.inr (.inl _))) => false
    | _ => true
theorem xprev_ok {lv : List (Option xVal)} {i j : Nat} {w : xVal} (h : xprev lv i = true) (hj : lv[j]? = some (some w)) (e : j + 1 = i) : ¬ (xv w).category = 2 := by
  subst e
  simp only [xprev, hj] at h
  rw [xcat_ok]
  rcases w with x | y | o
  · simp [xcat]
  · simp at h
  · simp [xcat]
theorem xset_get {lv : List (Option xVal)} {i j : Nat} {v : Option xVal} {w : xVal} (h : (lv.set i v)[j]? = some (some w)) : (j = i ∧ v = some w) ∨ (j ≠ i ∧ lv[j]? = some (some w)) := by
  by_cases e : j = i
  · subst e
    left
    refine ⟨rfl, ?_⟩
    rw [List.getElem?_set] at h
    simp at h
    exact h.2
  · right
    rw [List.getElem?_set_ne (Ne.symm e)] at h
    exact ⟨e, h⟩
theorem xLs.of1 {ls' : Array Slot} {nL i : Nat} {lv : List (Option xVal)} {v : xVal} (hz : lv.length ≤ nL) (hp : xprev lv i = true)
    (h' : lv_has ls' nL ((i, xv v) :: (xas lv 0).filter (fun q => !(q.1 == i) && !(q.1 + 1 == i && q.2.category == 2)))) : xLs ls' nL (lv.set i (some v)) := by
  refine ⟨⟨h'.1, by simpa using hz⟩, h'.2.1, fun j w hj => ?_⟩
  rcases xset_get hj with ⟨rfl, e⟩ | ⟨e, hk⟩
  · cases e
    exact h'.2.2 _ List.mem_cons_self
  · refine h'.2.2 (j, xv w) (List.mem_cons_of_mem _ (List.mem_filter.mpr ⟨(xas_mem lv 0 _).mpr ⟨j, w, by simp, hk⟩, ?_⟩))
    have h2 := fun z => xprev_ok hp hk z
    simp only [Bool.and_eq_true, Bool.not_eq_true', beq_eq_false_iff_ne, Bool.and_eq_false_iff]
    refine ⟨e, ?_⟩
    by_cases z : j + 1 = i
    · exact Or.inr (h2 z)
    · exact Or.inl z
theorem xLs.of2 {ls' : Array Slot} {nL i : Nat} {lv : List (Option xVal)} {v : xVal} (hz : lv.length ≤ nL) (hp : xprev lv i = true)
    (h' : lv_has ls' nL ((i, xv v) :: (xas lv 0).filter (fun q => !(q.1 == i) && (!(q.1 == i + 1) && !(q.1 + 1 == i && q.2.category == 2))))) : xLs ls' nL ((lv.set i (some v)).set (i + 1) none) := by
  refine ⟨⟨h'.1, by simpa using hz⟩, h'.2.1, fun j w hj => ?_⟩
  rcases xset_get hj with ⟨-, e⟩ | ⟨e1, hj⟩
  · cases e
  rcases xset_get hj with ⟨rfl, e⟩ | ⟨e, hk⟩
  · cases e
    exact h'.2.2 _ List.mem_cons_self
  · refine h'.2.2 (j, xv w) (List.mem_cons_of_mem _ (List.mem_filter.mpr ⟨(xas_mem lv 0 _).mpr ⟨j, w, by simp, hk⟩, ?_⟩))
    have h2 := fun z => xprev_ok hp hk z
    simp only [Bool.and_eq_true, Bool.not_eq_true', beq_eq_false_iff_ne, Bool.and_eq_false_iff]
    refine ⟨e, e1, ?_⟩
    by_cases z : j + 1 = i
    · exact Or.inr (h2 z)
    · exact Or.inl z
-- fewer known locals
def xle : List (Option xVal) → List (Option xVal) → Prop
  | [], [] => True
  | none :: t, _ :: t' => xle t t'
  | some v :: t, o :: t' => o = some v ∧ xle t t'
  | _, _ => False
theorem xle_get : ∀ (l l' : List (Option xVal)), xle l l' → l.length = l'.length ∧ ∀ (i : Nat) (v : xVal), l[i]? = some (some v) → l'[i]? = some (some v)
  | [], [], _ => ⟨rfl, fun i v h => h⟩
  | [], _ :: _, h => (h : False).elim
  | none :: t, [], h => (h : False).elim
  | some w :: t, [], h => (h : False).elim
  | none :: t, o :: t', hl => by
    obtain ⟨h1, h2⟩ := xle_get t t' hl
    refine ⟨by simp [h1], fun i v h => ?_⟩
    cases i with
    | zero => simp at h
    | succ i => simpa using h2 i v (by simpa using h)
  | some w :: t, o :: t', hl => by
    obtain ⟨e, hl⟩ := hl
    obtain ⟨h1, h2⟩ := xle_get t t' hl
    refine ⟨by simp [h1], fun i v h => ?_⟩
    cases i with
    | zero => simp at h; simp [e, h]
    | succ i => simpa using h2 i v (by simpa using h)
theorem xLs.le {ls : Array Slot} {nL : Nat} {l l' : List (Option xVal)} (h : xLs ls nL l') (hl : xle l l') : xLs ls nL l :=
  ⟨⟨h.1.1, by rw [(xle_get l l' hl).1]; exact h.1.2⟩, h.2.1, fun i v hi => h.2.2 i v ((xle_get l l' hl).2 i v hi)⟩
end
section
/-! ONE INSTRUCTION, over the picture -/
def xget : List (Option xVal) → Nat → Option xVal
  | [], _ => none
  | o :: _, 0 => o
  | _ :: t, n + 1 => xget t n
theorem xget_ok : ∀ (lv : List (Option xVal)) (i : Nat) (v : xVal), xget lv i = some v → lv[i]? = some (some v)
  | [], i, v, h => by simp [xget] at h
  | o :: t, 0, v, h => by simp [xget] at h; simp [h]
  | o :: t, n + 1, v, h => by simpa using xget_ok t n v (by simpa [xget] using h)
def xtgt (pc : Nat) (off : Int) : Nat := ((pc : Int) + off).toNat
theorem xtgt_ok {pc : Nat} {off : Int} (h : 0 ≤ (pc : Int) + off) : (pc : Int) + off = (xtgt pc off : Int) := by unfold xtgt; omega
abbrev xKt : Type := Nat → List (Option xVal) → List xVal → xS → Nat → Nat → Prop
abbrev xEt : Type := Option xVal → xS → Nat → Nat → Prop
def xcmp (c : ClassFile.Cond) (x y : Int32) (A B : Prop) : Prop := match c with
  | .eq => (x = y → A) ∧ (¬ x = y → B)
  | .ne => (¬ x = y → A) ∧ (x = y → B)
  | .lt => (x < y → A) ∧ (¬ x < y → B)
  | .ge => (y ≤ x → A) ∧ (¬ y ≤ x → B)
  | .gt => (y < x → A) ∧ (¬ y < x → B)
  | .le => (x ≤ y → A) ∧ (¬ x ≤ y → B)
def xacmp (c : ClassFile.ACond) (x y : Option Nat) (A B : Prop) : Prop := match c with
  | .eq => (x = y → A) ∧ (¬ x = y → B)
  | .ne => (¬ x = y → A) ∧ (x = y → B)
/-- the table of a switch: from the number i on -/
def xsw (x : Int) (pc : Nat) (K : Nat → Prop) : List Int → Int → Prop
  | [], _ => True
  | o :: t, i => (x = i → 0 ≤ (pc : Int) + o ∧ K (xtgt pc o)) ∧ xsw x pc K t (i + 1)
def xlk (x : Int) (pc : Nat) (K : Nat → Prop) (d : Int) : List (Int × Int) → Prop
  | [] => 0 ≤ (pc : Int) + d ∧ K (xtgt pc d)
  | q :: t => (x = q.1 → 0 ≤ (pc : Int) + q.2 ∧ K (xtgt pc q.2)) ∧ (¬ x = q.1 → xlk x pc K d t)
/-- an int is stored in a field or an element of that type as it is -/
def xfit (ty : FieldType) (x : Int32) : Prop := xisR ty = false ∧ narrow ty (.int x) = .int x ∧ fits ty (.int x) = true
def xstep (own : Nat) (ini : Bool) (ret : Option FieldType) (R : Room) (i : Instr) (len pc : Nat) (lv : List (Option xVal)) (st : List xVal) (S : xS) (cs sl : Nat) (K : xKt) (E : xEt) : Prop := match i with
  | .aconst_null => len = 1 ∧ K (pc + 1) lv (.inr (.inr none) :: st) S cs sl
  | .iconst n => len = 1 ∧ K (pc + 1) lv (.inl (Int32.ofInt n) :: st) S cs sl
  | .bipush n => len = 2 ∧ K (pc + 2) lv (.inl (Int8.ofInt n).toInt32 :: st) S cs sl
  | .sipush n => len = 3 ∧ K (pc + 3) lv (.inl (Int16.ofInt n).toInt32 :: st) S cs sl
  | .lconst n => len = 1 ∧ K (pc + 1) lv (.inr (.inl (Int64.ofNat (n : Nat))) :: st) S cs sl
  | .ldc k => match xki own k with
    | some v => len = 2 ∧ K (pc + 2) lv (.inl v :: st) S cs sl
    | none => False
  | .ldc2_w k => match xkl own k with
    | some v => len = 3 ∧ K (pc + 3) lv (.inr (.inl v) :: st) S cs sl
    | none => False
  | .iload k => match xget lv k with
    | some (.inl x) => len = 2 ∧ K (pc + 2) lv (.inl x :: st) S cs sl
    | _ => False
  | .iload_n k => match xget lv k.val with
    | some (.inl x) => len = 1 ∧ K (pc + 1) lv (.inl x :: st) S cs sl
    | _ => False
  | .lload k => match xget lv k with
    | some (.inr (.inl x)) => len = 2 ∧ K (pc + 2) lv (.inr (.inl x) :: st) S cs sl
    | _ => False
  | .lload_n k => match xget lv k.val with
    | some (.inr (.inl x)) => len = 1 ∧ K (pc + 1) lv (.inr (.inl x) :: st) S cs sl
    | _ => False
  | .aload k => match xget lv k with
    | some (.inr (.inr x)) => len = 2 ∧ K (pc + 2) lv (.inr (.inr x) :: st) S cs sl
    | _ => False
  | .aload_n k => match xget lv k.val with
    | some (.inr (.inr x)) => len = 1 ∧ K (pc + 1) lv (.inr (.inr x) :: st) S cs sl
    | _ => False
  | .istore k => match st with
    | .inl x :: r => len = 2 ∧ k < lv.length ∧ xprev lv k = true ∧ K (pc + 2) (lv.set k (some (.inl x))) r S cs sl
    | _ => False
  | .istore_n k => match st with
    | .inl x :: r => len = 1 ∧ k.val < lv.length ∧ xprev lv k.val = true ∧ K (pc + 1) (lv.set k.val (some (.inl x))) r S cs sl
    | _ => False
  | .astore k => match st with
    | .inr (.inr x) :: r => len = 2 ∧ k < lv.length ∧ xprev lv k = true ∧ K (pc + 2) (lv.set k (some (.inr (.inr x)))) r S cs sl
    | _ => False
  | .astore_n k => match st with
    | .inr (.inr x) :: r => len = 1 ∧ k.val < lv.length ∧ xprev lv k.val = true ∧ K (pc + 1) (lv.set k.val (some (.inr (.inr x)))) r S cs sl
    | _ => False
  | .lstore k => match st with
    | .inr (.inl x) :: r => len = 2 ∧ k + 1 < lv.length ∧ xprev lv k = true ∧ K (pc + 2) ((lv.set k (some (.inr (.inl x)))).set (k + 1) none) r S cs sl
    | _ => False
  | .lstore_n k => match st with
    | .inr (.inl x) :: r => len = 1 ∧ k.val + 1 < lv.length ∧ xprev lv k.val = true ∧ K (pc + 1) ((lv.set k.val (some (.inr (.inl x)))).set (k.val + 1) none) r S cs sl
    | _ => False
  | .iinc k n => match xget lv k with
    | some (.inl x) => len = 3 ∧ k < lv.length ∧ xprev lv k = true ∧ K (pc + 3) (lv.set k (some (.inl (x + Int32.ofInt n)))) st S cs sl
    | _ => False
  | .iadd => match st with
    | .inl y :: .inl x :: r => len = 1 ∧ K (pc + 1) lv (.inl (x + y) :: r) S cs sl
    | _ => False
  | .isub => match st with
    | .inl y :: .inl x :: r => len = 1 ∧ K (pc + 1) lv (.inl (x - y) :: r) S cs sl
    | _ => False
  | .imul => match st with
    | .inl y :: .inl x :: r => len = 1 ∧ K (pc + 1) lv (.inl (x * y) :: r) S cs sl
    | _ => False
  | .idiv => match st with
    | .inl y :: .inl x :: r => len = 1 ∧ ¬ y = 0 ∧ K (pc + 1) lv (.inl (x / y) :: r) S cs sl
    | _ => False
  | .irem => match st with
    | .inl y :: .inl x :: r => len = 1 ∧ ¬ y = 0 ∧ K (pc + 1) lv (.inl (x - x / y * y) :: r) S cs sl
    | _ => False
  | .iand => match st with
    | .inl y :: .inl x :: r => len = 1 ∧ K (pc + 1) lv (.inl (x &&& y) :: r) S cs sl
    | _ => False
  | .ior => match st with
    | .inl y :: .inl x :: r => len = 1 ∧ K (pc + 1) lv (.inl (x ||| y) :: r) S cs sl
    | _ => False
  | .ixor => match st with
    | .inl y :: .inl x :: r => len = 1 ∧ K (pc + 1) lv (.inl (x ^^^ y) :: r) S cs sl
    | _ => False
  | .ishl => match st with
    | .inl y :: .inl x :: r => len = 1 ∧ K (pc + 1) lv (.inl (x <<< (y &&& 31)) :: r) S cs sl
    | _ => False
  | .ishr => match st with
    | .inl y :: .inl x :: r => len = 1 ∧ K (pc + 1) lv (.inl (x >>> (y &&& 31)) :: r) S cs sl
    | _ => False
  | .iushr => match st with
    | .inl y :: .inl x :: r => len = 1 ∧ K (pc + 1) lv (.inl (x.toUInt32 >>> (y.toUInt32 &&& Int32.toUInt32 31)).toInt32 :: r) S cs sl
    | _ => False
  | .ineg => match st with
    | .inl x :: r => len = 1 ∧ K (pc + 1) lv (.inl (-x) :: r) S cs sl
    | _ => False
  | .ladd => match st with
    | .inr (.inl y) :: .inr (.inl x) :: r => len = 1 ∧ K (pc + 1) lv (.inr (.inl (x + y)) :: r) S cs sl
    | _ => False
  | .lsub => match st with
    | .inr (.inl y) :: .inr (.inl x) :: r => len = 1 ∧ K (pc + 1) lv (.inr (.inl (x - y)) :: r) S cs sl
    | _ => False
  | .lmul => match st with
    | .inr (.inl y) :: .inr (.inl x) :: r => len = 1 ∧ K (pc + 1) lv (.inr (.inl (x * y)) :: r) S cs sl
    | _ => False
  | .ldiv => match st with
    | .inr (.inl y) :: .inr (.inl x) :: r => len = 1 ∧ ¬ y = 0 ∧ K (pc + 1) lv (.inr (.inl (x / y)) :: r) S cs sl
    | _ => False
  | .lrem => match st with
    | .inr (.inl y) :: .inr (.inl x) :: r => len = 1 ∧ ¬ y = 0 ∧ K (pc + 1) lv (.inr (.inl (x - x / y * y)) :: r) S cs sl
    | _ => False
  | .land => match st with
    | .inr (.inl y) :: .inr (.inl x) :: r => len = 1 ∧ K (pc + 1) lv (.inr (.inl (x &&& y)) :: r) S cs sl
    | _ => False
  | .lxor => match st with
    | .inr (.inl y) :: .inr (.inl x) :: r => len = 1 ∧ K (pc + 1) lv (.inr (.inl (x ^^^ y)) :: r) S cs sl
    | _ => False
  | .lneg => match st with
    | .inr (.inl x) :: r => len = 1 ∧ K (pc + 1) lv (.inr (.inl (-x)) :: r) S cs sl
    | _ => False
  | .lshl => match st with
    | .inl y :: .inr (.inl x) :: r => len = 1 ∧ K (pc + 1) lv (.inr (.inl (x <<< (y.toInt64 &&& 63))) :: r) S cs sl
    | _ => False
  | .lshr => match st with
    | .inl y :: .inr (.inl x) :: r => len = 1 ∧ K (pc + 1) lv (.inr (.inl (x >>> (y.toInt64 &&& 63))) :: r) S cs sl
    | _ => False
  | .i2l => match st with
    | .inl x :: r => len = 1 ∧ K (pc + 1) lv (.inr (.inl x.toInt64) :: r) S cs sl
    | _ => False
  | .l2i => match st with
    | .inr (.inl x) :: r => len = 1 ∧ K (pc + 1) lv (.inl x.toInt32 :: r) S cs sl
    | _ => False
  | .lcmp => match st with
    | .inr (.inl y) :: .inr (.inl x) :: r => len = 1 ∧ K (pc + 1) lv (.inl (lg_cmp x y) :: r) S cs sl
    | _ => False
  | .dup => match st with
    | .inl x :: r => len = 1 ∧ K (pc + 1) lv (.inl x :: .inl x :: r) S cs sl
    | .inr (.inr x) :: r => len = 1 ∧ K (pc + 1) lv (.inr (.inr x) :: .inr (.inr x) :: r) S cs sl
    | _ => False
  | .pop => match st with
    | .inl _ :: r => len = 1 ∧ K (pc + 1) lv r S cs sl
    | .inr (.inr _) :: r => len = 1 ∧ K (pc + 1) lv r S cs sl
    | _ => False
  | .dup_x1 => match st with
    | v :: w :: r => len = 1 ∧ xcat v = 1 ∧ xcat w = 1 ∧ K (pc + 1) lv (v :: w :: v :: r) S cs sl
    | _ => False
  | .dup_x2 => match st with
    | v :: w :: u :: r => len = 1 ∧ xcat v = 1 ∧ xcat w = 1 ∧ xcat u = 1 ∧ K (pc + 1) lv (v :: w :: u :: v :: r) S cs sl
    | _ => False
  | .dup2 => match st with
    | v :: w :: r => len = 1 ∧ xcat v = 1 ∧ xcat w = 1 ∧ K (pc + 1) lv (v :: w :: v :: w :: r) S cs sl
    | _ => False
  | .goto off => len = 3 ∧ 0 ≤ (pc : Int) + off ∧ K (xtgt pc off) lv st S cs sl
  | .ifCond c off => match st with
    | .inl x :: r => len = 3 ∧ 0 ≤ (pc : Int) + off ∧ xcmp c x 0 (K (xtgt pc off) lv r S cs sl) (K (pc + 3) lv r S cs sl)
    | _ => False
  | .if_icmp c off => match st with
    | .inl y :: .inl x :: r => len = 3 ∧ 0 ≤ (pc : Int) + off ∧ xcmp c x y (K (xtgt pc off) lv r S cs sl) (K (pc + 3) lv r S cs sl)
    | _ => False
  | .if_acmp c off => match st with
    | .inr (.inr y) :: .inr (.inr x) :: r => len = 3 ∧ 0 ≤ (pc : Int) + off ∧ xacmp c x y (K (xtgt pc off) lv r S cs sl) (K (pc + 3) lv r S cs sl)
    | _ => False
  | .ifnull off => match st with
    | .inr (.inr x) :: r => len = 3 ∧ 0 ≤ (pc : Int) + off ∧ (x = none → K (xtgt pc off) lv r S cs sl) ∧ (¬ x = none → K (pc + 3) lv r S cs sl)
    | _ => False
  | .ifnonnull off => match st with
    | .inr (.inr x) :: r => len = 3 ∧ 0 ≤ (pc : Int) + off ∧ (¬ x = none → K (xtgt pc off) lv r S cs sl) ∧ (x = none → K (pc + 3) lv r S cs sl)
    | _ => False
  | .tableswitch d lo hi offs => match st with
    | .inl x :: r => (lo + offs.toList.length = hi + 1) ∧ ((x.toInt < lo ∨ hi < x.toInt) → 0 ≤ (pc : Int) + d ∧ K (xtgt pc d) lv r S cs sl) ∧ xsw x.toInt pc (fun t => K t lv r S cs sl) offs.toList lo
    | _ => False
  | .lookupswitch d ps => match st with
    | .inl x :: r => (ps.toList.zip (ps.toList.drop 1)).all (fun (a, next) => a.1 < next.1) = true ∧ xlk x.toInt pc (fun t => K t lv r S cs sl) d ps.toList
    | _ => False
  | .getfield k => match st with
    | .inr (.inr o) :: r => match xfl own k with
      | some (ci, j, _, ty) => len = 3 ∧ ∃ a, o = some a ∧ xc S a = ci + 1 ∧ K (pc + 3) lv ((if xisR ty = true then .inr (.inr (xr S a j)) else .inl (xi S a j)) :: r) S cs sl
      | none => False
    | _ => False
  | .putfield k => match st with
    | .inl x :: .inr (.inr o) :: r => match xfl own k with
      | some (ci, j, fin, ty) => len = 3 ∧ (fin = false ∨ (ini = true ∧ xnm own = xnm ci)) ∧ xfit ty x ∧ ∃ a, o = some a ∧ xc S a = ci + 1 ∧ K (pc + 3) lv r (xpi S a j x) cs sl
      | none => False
    | .inr (.inr v) :: .inr (.inr o) :: r => match xfl own k with
      | some (ci, j, fin, ty) => len = 3 ∧ (fin = false ∨ (ini = true ∧ xnm own = xnm ci)) ∧ xisR ty = true ∧ ∃ a, o = some a ∧ xc S a = ci + 1 ∧ K (pc + 3) lv r (xpr S a j v) cs sl
      | none => False
    | _ => False
  | .arraylength => match st with
    | .inr (.inr o) :: r => len = 1 ∧ ∃ a, o = some a ∧ (∃ ty, xat (xc S a) = some ty) ∧ K (pc + 1) lv (.inl (Int32.ofNat (xl S a)) :: r) S cs sl
    | _ => False
  | .iaload => match st with
    | .inl x :: .inr (.inr o) :: r => len = 1 ∧ ∃ a, o = some a ∧ xat (xc S a) = some .int ∧ vp_in x (xl S a) ∧ K (pc + 1) lv (.inl (xi S a x.toNatClampNeg) :: r) S cs sl
    | _ => False
  | .baload => match st with
    | .inl x :: .inr (.inr o) :: r => len = 1 ∧ ∃ a, o = some a ∧ xat (xc S a) = some .boolean ∧ vp_in x (xl S a) ∧ K (pc + 1) lv (.inl (xi S a x.toNatClampNeg) :: r) S cs sl
    | _ => False
  | .bastore => match st with
    | .inl v :: .inl x :: .inr (.inr o) :: r => len = 1 ∧ ∃ a, o = some a ∧ xat (xc S a) = some .boolean ∧ narrow .boolean (.int v) = .int v ∧ vp_in x (xl S a) ∧ K (pc + 1) lv r (xpi S a x.toNatClampNeg v) cs sl
    | _ => False
  | .aaload => match st with
    | .inl x :: .inr (.inr o) :: r => len = 1 ∧ ∃ a, o = some a ∧ (∃ C, xat (xc S a) = some (.object C)) ∧ vp_in x (xl S a) ∧ K (pc + 1) lv (.inr (.inr (xr S a x.toNatClampNeg)) :: r) S cs sl
    | _ => False
  | .iastore => match st with
    | .inl v :: .inl x :: .inr (.inr o) :: r => len = 1 ∧ ∃ a, o = some a ∧ xat (xc S a) = some .int ∧ xc S a ≠ 999 ∧ vp_in x (xl S a) ∧ K (pc + 1) lv r (xpi S a x.toNatClampNeg v) cs sl
    | _ => False
  | .aastore => match st with
    | .inr (.inr v) :: .inl x :: .inr (.inr o) :: r => len = 1 ∧ ∃ a b ci q, o = some a ∧ v = some b ∧ xcls[ci]? = some q ∧ xc S b = ci + 1 ∧ xat (xc S a) = some (.object q.1) ∧ vp_in x (xl S a) ∧ K (pc + 1) lv r (xpr S a x.toNatClampNeg v) cs sl
    | _ => False
  | .new k => match xnc own k with
    | some (ci, N) => len = 3 ∧ cs + 1 ≤ R.cells ∧ sl + N ≤ R.slots ∧ K (pc + 3) lv (.inr (.inr (some (xn S))) :: st) (xmk S (ci + 1) 0) (cs + 1) (sl + N)
    | none => False
  | .newarray t => match st with
    | .inl x :: r => match xnt own t with
      | some tg => len = 2 ∧ ¬ x < 0 ∧ x.toNatClampNeg ≤ 10000 ∧ cs + 1 ≤ R.cells ∧ sl + x.toNatClampNeg ≤ R.slots ∧ K (pc + 2) lv (.inr (.inr (some (xn S))) :: r) (xmk S tg x.toNatClampNeg) (cs + 1) (sl + x.toNatClampNeg)
      | none => False
    | _ => False
  | .anewarray k => match st with
    | .inl x :: r => match xna own k with
      | some tg => len = 3 ∧ ¬ x < 0 ∧ x.toNatClampNeg ≤ 10000 ∧ cs + 1 ≤ R.cells ∧ sl + x.toNatClampNeg ≤ R.slots ∧ K (pc + 3) lv (.inr (.inr (some (xn S))) :: r) (xmk S tg x.toNatClampNeg) (cs + 1) (sl + x.toNatClampNeg)
      | none => False
    | _ => False
  | .invokespecial k => match st with
    | .inr (.inr o) :: r => xoi own k = true ∧ len = 3 ∧ (∃ a, o = some a) ∧ 1 ≤ R.frames ∧ (r.map xcat).sum + 12 ≤ R.locals ∧ K (pc + 3) lv r S cs sl
    | _ => False
  | .ireturn => match st with
    | [.inl x] => len = 1 ∧ (∃ ty, ret = some ty ∧ narrow ty (.int x) = .int x) ∧ E (some (.inl x)) S cs sl
    | _ => False
  | .lreturn => match st with
    | [.inr (.inl x)] => len = 1 ∧ ret = some .long ∧ E (some (.inr (.inl x))) S cs sl
    | _ => False
  | .areturn => match st with
    | [.inr (.inr x)] => len = 1 ∧ ((∃ C, ret = some (.object C)) ∨ ∃ t, ret = some (.array t)) ∧ E (some (.inr (.inr x))) S cs sl
    | _ => False
  | .return_ => match st with
    | [] => len = 1 ∧ ret = none ∧ E none S cs sl
    | _ => False
  | _ => False
end
section
/-! THE STEP IS SOUND -/
theorem xfind {α : Type} {T : List α} {P : α → Bool} {r : α} (h : T.find? P = some r) : r ∈ T ∧ P r = true := ⟨List.mem_of_find?_eq_some h, List.find?_some h⟩
theorem xfl_ok {own idx ci j : Nat} {fin : Bool} {ty : FieldType} (h : xfl own idx = some (ci, j, fin, ty)) : ∃ q : vw_C, xcls[ci]? = some q ∧ j < q.2.2 ∧ (q.2.1 j).2.2.2 = fin ∧ parseFieldDescriptor (q.2.1 j).2.2.1 = some ty ∧ Jvm.Cond.fieldLink (xnm own) idx (q.2.1 j).1 (q.2.1 j).2.1 (q.2.1 j).2.2.1 ∈ xtb := by
  unfold xfl at h
  obtain ⟨r, hr, e⟩ := Option.map_eq_some_iff.mp h
  obtain ⟨hm, hp⟩ := xfind hr
  simp only [Bool.and_eq_true, beq_iff_eq] at hp
  have hk := xFL_ok r hm
  obtain ⟨r1, r2, r3, r4, r5, r6⟩ := r
  obtain ⟨rfl, rfl⟩ := hp
  cases e
  dsimp only at hk
  split at hk
  · rename_i q hq
    simp only [Bool.and_eq_true, decide_eq_true_eq] at hk
    exact ⟨q, hq, hk.1.1.1, hk.1.1.2, hk.1.2, hk.2⟩
  · cases hk
theorem xnc_ok {own idx ci N : Nat} (h : xnc own idx = some (ci, N)) : ∃ q : vw_C, xcls[ci]? = some q ∧ q.2.2 = N ∧ Jvm.Cond.classLink (xnm own) idx q.1 ∈ xtb ∧ Jvm.Cond.instantiable q.1 q.2.2 ∈ xtb ∧ Jvm.Cond.initialized q.1 ∈ xtb := by
  unfold xnc at h
  obtain ⟨r, hr, e⟩ := Option.map_eq_some_iff.mp h
  obtain ⟨hm, hp⟩ := xfind hr
  simp only [Bool.and_eq_true, beq_iff_eq] at hp
  have hk := xNC_ok r hm
  obtain ⟨r1, r2, r3, r4⟩ := r
  obtain ⟨rfl, rfl⟩ := hp
  cases e
  dsimp only at hk
  split at hk
  · rename_i q hq
    simp only [Bool.and_eq_true, decide_eq_true_eq] at hk
    exact ⟨q, hq, hk.1.1.1, hk.1.1.2, hk.1.2, hk.2⟩
  · cases hk
theorem xna_ok {own idx tg : Nat} (h : xna own idx = some tg) : ∃ C, xat tg = some (.object C) ∧ xcls.length < tg ∧ tg ≠ 999 ∧ Jvm.Cond.classLink (xnm own) idx C ∈ xtb ∧ C ∈ xAO := by
  unfold xna at h
  obtain ⟨r, hr, e⟩ := Option.map_eq_some_iff.mp h
  obtain ⟨hm, hp⟩ := xfind hr
  simp only [Bool.and_eq_true, beq_iff_eq] at hp
  have hk := xNA_ok r hm
  obtain ⟨r1, r2, r3, r4⟩ := r
  obtain ⟨rfl, rfl⟩ := hp
  cases e
  exact ⟨_, hk⟩
theorem xki_ok {own idx : Nat} {v : Int32} (h : xki own idx = some v) : Jvm.Cond.constant (xnm own) idx v ∈ xtb := by
  unfold xki at h
  obtain ⟨r, hr, e⟩ := Option.map_eq_some_iff.mp h
  obtain ⟨hm, hp⟩ := xfind hr
  simp only [Bool.and_eq_true, beq_iff_eq] at hp
  have hk := xKI_ok r hm
  obtain ⟨r1, r2, r3⟩ := r
  obtain ⟨rfl, rfl⟩ := hp
  cases e
  exact hk
theorem xkl_ok {own idx : Nat} {v : Int64} (h : xkl own idx = some v) : Jvm.Cond.constantLong (xnm own) idx v ∈ xtb := by
  unfold xkl at h
  obtain ⟨r, hr, e⟩ := Option.map_eq_some_iff.mp h
  obtain ⟨hm, hp⟩ := xfind hr
  simp only [Bool.and_eq_true, beq_iff_eq] at hp
  have hk := xKL_ok r hm
  obtain ⟨r1, r2, r3⟩ := r
  obtain ⟨rfl, rfl⟩ := hp
  cases e
  exact hk
theorem xoi_ok {own idx : Nat} (h : xoi own idx = true) : Jvm.Cond.methodLink (xnm own) idx objectInit ∈ xtb := by
  unfold xoi at h
  obtain ⟨r, hr⟩ := Option.isSome_iff_exists.mp h
  obtain ⟨hm, hp⟩ := xfind hr
  simp only [Bool.and_eq_true, beq_iff_eq] at hp
  have hk := xOI_ok r hm
  obtain ⟨r1, r2⟩ := r
  obtain ⟨rfl, rfl⟩ := hp
  exact hk
theorem xty_of {ci k : Nat} {q : vw_C} {ty : FieldType} (hq : xcls[ci]? = some q) (h : parseFieldDescriptor (q.2.1 k).2.2.1 = some ty) : xty ci k = ty := by
  simp [xty, hq, h]
theorem xcl_lt {ci : Nat} {q : vw_C} (hq : xcls[ci]? = some q) : ci < xcls.length := (List.getElem?_eq_some_iff.mp hq).1
theorem xcl_mem {ci : Nat} {q : vw_C} (hq : xcls[ci]? = some q) : q ∈ xcls := List.mem_of_getElem? hq
theorem xcl_nm {ci : Nat} {q : vw_C} (hq : xcls[ci]? = some q) : xnm ci = q.1 := by
  have h := xcls_nm ci (xcl_lt hq)
  rw [hq] at h
  exact (Option.some.inj h).symm
theorem xty_hty {ci : Nat} {q : vw_C} (hq : xcls[ci]? = some q) : ∀ k, k < q.2.2 → parseFieldDescriptor (q.2.1 k).2.2.1 = some (xty ci k) := by
  intro k hk
  have h := ((xcls_ok q (xcl_mem hq)).2.2 k hk).2
  cases hp : parseFieldDescriptor (q.2.1 k).2.2.1 with
  | none => rw [hp] at h; cases h
  | some ty => rw [xty_of hq hp]
theorem xty_simple {ci : Nat} {q : vw_C} (hq : xcls[ci]? = some q) {k : Nat} (hk : k < q.2.2) : xsimple (xty ci k) = true := by
  have h := ((xcls_ok q (xcl_mem hq)).2.2 k hk).2
  rw [xty_hty hq k hk] at h
  exact Option.some.inj h
theorem xdef {ty : FieldType} (h : xsimple ty = true) (S : xS) (t n k : Nat) : defaultValue ty = xfv ty (xmk S t n) (xn S) k := by
  cases ty <;> simp_all [xsimple, xfv, xi_mk, xr_mk, defaultValue, va_rf]
section XSOUND
variable {p : Program} {l : Launch} {e : Env} {R : Room} {s : State} {m : MethodId} {args : Array Value} {below : List Frame} {meth : Method} {c : Code} {H : Heap} {locs : List Loc} {cells slots : Nat} {Q : State → Prop} {D : va_G} {n0 : Nat}
variable {own : Nat} {cc : ByteArray} {pc : Nat} {ls : Array Slot} {rest : List Value} {S : xS} {a : Nat}
theorem xo_get (hx : p.tables.exec = Jvm.exec) (hb : c.code = cc) (hown : s.vm.findClass (xnm own) = some m.cls) (hts : ∀ w ∈ xtb, w.before args s = true) (hK : va_K D xcls [] s) (hR : xRel D n0 s S H) {idx ci j : Nat} {fin : Bool} {ty : FieldType} (hf : xfl own idx = some (ci, j, fin, ty)) (hc : xc S a = ci + 1) (hd : decode cc pc = .ok (.getfield idx, 3))
    (kk : W p l e R s m args below meth c H locs cells slots Q (F0 m (pc + 3) ls (xfv ty S a j :: rest))) : W p l e R s m args below meth c H locs cells slots Q (F0 m pc ls (.ref a :: rest)) := by
  obtain ⟨q, hq, hj, -, hty, hlink⟩ := xfl_ok hf
  obtain ⟨cell, q1, q2, q3, q4⟩ := hR.2.2.2.1 a ci q hc hq
  obtain ⟨hS, hfc, kC, hkC, hkind⟩ := hK.1 ci q hq
  obtain ⟨cf, kf, fi, f, hi, hsl⟩ := hS j hj
  refine W.getf hx hb hown (hts _ hlink) hi (u_facts hfc hkC (u_lays hts (xcls_ok q (xcl_mem hq)).1 hj) hi).1 q1 (by rw [q3]; exact fun h => by cases h) (v := xfv ty S a j) ?_ rfl rfl hd kk
  rw [hsl, q4 j hj]
  show some (xfv (xty ci j) S a j) = _
  rw [xty_of hq hty]
theorem xo_put (hx : p.tables.exec = Jvm.exec) (hb : c.code = cc) (hown : s.vm.findClass (xnm own) = some m.cls) (hts : ∀ w ∈ xtb, w.before args s = true) (hK : va_K D xcls [] s) (hR : xRel D n0 s S H) (hL : ∀ q ∈ locs, n0 ≤ q.base) {idx ci j : Nat} {fin : Bool} {ty : FieldType} (hf : xfl own idx = some (ci, j, fin, ty)) (hfin : fin = false ∨ (meth.name = "<init>" ∧ xnm own = xnm ci)) (hc : xc S a = ci + 1) {v : Value} {S' : xS} (hn : narrow ty v = v) (hfit : fits ty v = true)
    (hSn : xn S' = xn S) (hSc : xc S' = xc S) (hSl : xl S' = xl S) (hSi : ∀ b k, (b ≠ a ∨ k ≠ j) → xi S' b k = xi S b k) (hSr : ∀ b k, (b ≠ a ∨ k ≠ j) → xr S' b k = xr S b k) (hv : v = xfv ty S' a j) (hd : decode cc pc = .ok (.putfield idx, 3))
    (kk : ∀ (H1 : Heap) (locs1 : List Loc), xRel D n0 s S' H1 → (∀ q ∈ locs1, n0 ≤ q.base) → W p l e R s m args below meth c H1 locs1 cells slots Q (F0 m (pc + 3) ls rest)) : W p l e R s m args below meth c H locs cells slots Q (F0 m pc ls (v :: .ref a :: rest)) := by
  obtain ⟨q, hq, hj, hfl, hty, hlink⟩ := xfl_ok hf
  have hcls := xcls_ok q (xcl_mem hq)
  obtain ⟨cell, q1, q2, q3, q4⟩ := hR.2.2.2.1 a ci q hc hq
  have hap := va_apart (own := xnm own) (C := q.1) (T := q.2.1) (N := q.2.2) hts hcls.1 (xty ci) (xty_hty hq) hcls.2.1 hK hq
  obtain ⟨hS, hfc, kC, hkC, hkind⟩ := hK.1 ci q hq
  obtain ⟨cf, kf, fi, f, hi, hsl⟩ := hS j hj
  have hst := (u_facts hfc hkC (u_lays hts hcls.1 hj) hi).1
  have han : n0 ≤ a := hR.2.2.2.2.2 a (by rw [hc]; exact Nat.succ_ne_zero _) (by
    rw [hc]
    have h1 := xcls_tag ci (xcl_lt hq)
    intro z
    rw [z] at h1
    revert h1
    decide +kernel)
  have fin' : ∀ H' : Heap, H'[a]? = some (cell.setSlot (D.2 ci j) v) → H'.size = H.size → (∀ q, q ≠ a → H'[q]? = H[q]?) → xRel D n0 s S' H' := by
    intro H' e1 e2 e3
    refine hR.set hSn hSc hSl (fun b k h => hSi b k (Or.inl h)) (fun b k h => hSr b k (Or.inl h)) e2 e3 (fun ci' q' h1 h2 => ?_) (fun ty' h => ?_)
    · have hci : ci' = ci := by rw [hc] at h1; omega
      subst hci
      cases hq.symm.trans h2
      refine t_OB.to (V := updV (fun k => xfv (xty ci' k) S a k) j v) ⟨_, e1, q2, q3, t_set q4 hap hj v⟩ (fun k _ => ?_)
      by_cases hkj : k = j
      · subst hkj
        rw [xty_of hq hty, ← hv]
        simp [updV]
      · rw [xfv_congr (hSi a k (Or.inr hkj)) (hSr a k (Or.inr hkj))]
        simp [updV, hkj]
    · rw [hc, xcls_tag ci (xcl_lt hq)] at h
      cases h
  have hlay := hts _ (hcls.1 _ (u_in_lay hj))
  have hlo : ∀ z ∈ locs ++ [(⟨a, f.slot⟩ : Loc)], n0 ≤ z.base := by
    intro z hz
    rcases List.mem_append.mp hz with h | h
    · exact hL z h
    · rw [List.mem_singleton.mp h]; exact han
  have hslot : f.slot < cell.slots.size := by rw [hsl]; exact k2_hasslot (q4 j hj)
  unfold u_lay at hlay
  by_cases hff : (q.2.1 j).2.2.2 = true
  · rw [if_pos hff] at hlay
    rcases hfin with hz | ⟨hin, hnm⟩
    · rw [← hfl, hff] at hz; cases hz
    have hcf : m.cls = cf := by
      obtain ⟨_, _, c', _, _, _, -, -, hf', -, -, -, hown2, -⟩ := Cond.laysFinal_spec hlay
      have e1 : c' = cf := by have := hi.symm.trans hf'; simp at this; exact this.1.symm
      rw [(hcls.2.2 j hj).1, ← xcl_nm hq, ← hnm] at hown2
      rw [← e1]; exact Option.some.inj (hown.symm.trans hown2)
    have h6 := u_fits hfc hkC hkind (Or.inr hlay) hi hty hn hfit
    refine W.putFinK hx hb hown (hts _ hlink) hi hst hcf hin (by rw [q2]; exact h6) q1 q3 hslot rfl rfl hd fun H' e1 e2 e3 => ?_
    exact kk H' _ (fin' H' (by rw [← hsl]; exact e1) e2 e3) hlo
  · rw [if_neg hff] at hlay
    have h6 := u_store hfc hkC hkind hlay hi hty hn hfit
    refine W.putK hx hb (f := f) ⟨hown, hts _ hlink, ⟨_, _, _, hi⟩, hst⟩ (by rw [q2]; exact h6) q1 q3 hslot rfl rfl hd fun H' e1 e2 e3 => ?_
    exact kk H' _ (fin' H' (by rw [← hsl]; exact e1) e2 e3) hlo
theorem xo_notobj {t ci : Nat} {q : vw_C} {ty : FieldType} (h : xat t = some ty) (h1 : t = ci + 1) (hq : xcls[ci]? = some q) : False := by
  subst h1
  rw [xcls_tag ci (xcl_lt hq)] at h
  cases h
theorem xo_alen (hx : p.tables.exec = Jvm.exec) (hb : c.code = cc) (hR : xRel D n0 s S H) {ty : FieldType} (ht : xat (xc S a) = some ty) (hd : decode cc pc = .ok (.arraylength, 1))
    (kk : W p l e R s m args below meth c H locs cells slots Q (F0 m (pc + 1) ls (.int (Int32.ofNat (xl S a)) :: rest))) : W p l e R s m args below meth c H locs cells slots Q (F0 m pc ls (.ref a :: rest)) := by
  obtain ⟨cell, h1, h2, h3, h4, h5⟩ := (hR.2.2.2.2.1 a ty ht).isA
  exact W.alen (n := Int32.ofNat (xl S a)) hx hb h1 h2 (by rw [h4] <;> rfl) rfl rfl hd kk
theorem xo_iald (hx : p.tables.exec = Jvm.exec) (hb : c.code = cc) (hR : xRel D n0 s S H) (ht : xat (xc S a) = some .int) {i : Int32} (hin : vp_in i (xl S a)) (hd : decode cc pc = .ok (.iaload, 1))
    (kk : W p l e R s m args below meth c H locs cells slots Q (F0 m (pc + 1) ls (.int (xi S a i.toNatClampNeg) :: rest))) : W p l e R s m args below meth c H locs cells slots Q (F0 m pc ls (.int i :: .ref a :: rest)) := by
  obtain ⟨cell, h1, h2, h3, h4, h5⟩ := (hR.2.2.2.2.1 a _ ht).isA
  have hlt : i.toNatClampNeg < xl S a := Nat.not_le.mp fun q => hin (Or.inr q)
  exact W.iald (v := .int (xi S a i.toNatClampNeg)) hx hb h1 h2 h3 (by rw [h4]; exact hin) (h5 _ hlt) rfl rfl hd kk
theorem xo_zald (hx : p.tables.exec = Jvm.exec) (hb : c.code = cc) (hR : xRel D n0 s S H) (ht : xat (xc S a) = some .boolean) {i : Int32} (hin : vp_in i (xl S a)) (hd : decode cc pc = .ok (.baload, 1))
    (kk : W p l e R s m args below meth c H locs cells slots Q (F0 m (pc + 1) ls (.int (xi S a i.toNatClampNeg) :: rest))) : W p l e R s m args below meth c H locs cells slots Q (F0 m pc ls (.int i :: .ref a :: rest)) := by
  obtain ⟨cell, h1, h2, h3, h4, h5⟩ := (hR.2.2.2.2.1 a _ ht).isA
  have hlt : i.toNatClampNeg < xl S a := Nat.not_le.mp fun q => hin (Or.inr q)
  exact W.zald (v := .int (xi S a i.toNatClampNeg)) hx hb h1 h2 h3 (by rw [h4]; exact hin) (h5 _ hlt) rfl rfl hd kk
theorem xo_aald (hx : p.tables.exec = Jvm.exec) (hb : c.code = cc) (hR : xRel D n0 s S H) {C : String} (ht : xat (xc S a) = some (.object C)) {i : Int32} (hin : vp_in i (xl S a)) (hd : decode cc pc = .ok (.aaload, 1))
    (kk : W p l e R s m args below meth c H locs cells slots Q (F0 m (pc + 1) ls (va_rf (xr S a i.toNatClampNeg) :: rest))) : W p l e R s m args below meth c H locs cells slots Q (F0 m pc ls (.int i :: .ref a :: rest)) := by
  obtain ⟨cell, h1, h2, h3, h4, h5⟩ := (hR.2.2.2.2.1 a _ ht).isA
  have hlt : i.toNatClampNeg < xl S a := Nat.not_le.mp fun q => hin (Or.inr q)
  exact W.aald (v := va_rf (xr S a i.toNatClampNeg)) (ty := .object C) hx hb h1 h2 rfl h3 (by rw [h4]; exact hin) (h5 _ hlt) rfl rfl hd kk
theorem xo_setA {S' : xS} {ty : FieldType} {j : Nat} {v : Value} {cell : Cell} {H' : Heap} (hR : xRel D n0 s S H) (ht : xat (xc S a) = some ty) (hcell : H[a]? = some cell) (hSn : xn S' = xn S) (hSc : xc S' = xc S) (hSl : xl S' = xl S) (hSi : ∀ b k, (b ≠ a ∨ k ≠ j) → xi S' b k = xi S b k) (hSr : ∀ b k, (b ≠ a ∨ k ≠ j) → xr S' b k = xr S b k) (hv : v = xfv ty S' a j)
    (e1 : H'[a]? = some (cell.setSlot j v)) (e2 : H'.size = H.size) (e3 : ∀ q, q ≠ a → H'[q]? = H[q]?) : xRel D n0 s S' H' := by
  have hA := hR.2.2.2.2.1 a ty ht
  refine hR.set hSn hSc hSl (fun b k h => hSi b k (Or.inl h)) (fun b k h => hSr b k (Or.inl h)) e2 e3 (fun ci q h1 h2 => (xo_notobj ht h1 h2).elim) (fun ty' h => ?_)
  cases ht.symm.trans h
  obtain ⟨cell', kA, comp, g1, g2, g3, g4, g5, g6, g7, g8⟩ := hA
  cases hcell.symm.trans g1
  refine ⟨_, kA, comp, e1, g2, g3, g4, g5, g6, by rw [hSl]; simpa [Cell.setSlot] using g7, fun k hk => ?_⟩
  rw [hSl] at hk
  by_cases hkj : k = j
  · subst hkj
    rw [← hv]
    simp [Cell.setSlot, g7, hk]
  · rw [xfv_congr (hSi a k (Or.inr hkj)) (hSr a k (Or.inr hkj)), ← g8 k hk]
    simp [Cell.setSlot, Array.getElem?_setIfInBounds, Ne.symm hkj]
theorem xo_iast (hx : p.tables.exec = Jvm.exec) (hb : c.code = cc) (hR : xRel D n0 s S H) (hL : ∀ q ∈ locs, n0 ≤ q.base) (ht : xat (xc S a) = some .int) (h9 : xc S a ≠ 999) {i x : Int32} (hin : vp_in i (xl S a)) (hd : decode cc pc = .ok (.iastore, 1))
    (kk : ∀ (H1 : Heap) (locs1 : List Loc), xRel D n0 s (xpi S a i.toNatClampNeg x) H1 → (∀ q ∈ locs1, n0 ≤ q.base) → W p l e R s m args below meth c H1 locs1 cells slots Q (F0 m (pc + 1) ls rest)) : W p l e R s m args below meth c H locs cells slots Q (F0 m pc ls (.int x :: .int i :: .ref a :: rest)) := by
  obtain ⟨cell, h1, h2, h3, h4, h5⟩ := (hR.2.2.2.2.1 a _ ht).isA
  have h0 : xat 0 = none := rfl
  have han : n0 ≤ a := hR.2.2.2.2.2 a (by intro z; rw [z, h0] at ht; cases ht) h9
  refine W.iast hx hb h1 h2 h3 (by rw [h4]; exact hin) rfl rfl hd fun H' e1 e2 e3 => ?_
  refine kk H' _ (xo_setA hR ht h1 rfl rfl rfl (fun b k h => ?_) (fun b k h => rfl) ?_ e1 e2 e3) (fun z hz => ?_)
  · rw [xi_pi, if_neg (fun z => by rcases h with h | h; exact h z.1; exact h z.2)]
  · simp [xfv, xi_pi]
  · rcases List.mem_append.mp hz with h | h
    · exact hL z h
    · rw [List.mem_singleton.mp h]; exact han
theorem xo_zast (hx : p.tables.exec = Jvm.exec) (hb : c.code = cc) (hR : xRel D n0 s S H) (hL : ∀ q ∈ locs, n0 ≤ q.base) (ht : xat (xc S a) = some .boolean) {i x : Int32} (hnx : narrow .boolean (.int x) = .int x) (hin : vp_in i (xl S a)) (hd : decode cc pc = .ok (.bastore, 1))
    (kk : ∀ (H1 : Heap) (locs1 : List Loc), xRel D n0 s (xpi S a i.toNatClampNeg x) H1 → (∀ q ∈ locs1, n0 ≤ q.base) → W p l e R s m args below meth c H1 locs1 cells slots Q (F0 m (pc + 1) ls rest)) : W p l e R s m args below meth c H locs cells slots Q (F0 m pc ls (.int x :: .int i :: .ref a :: rest)) := by
  obtain ⟨cell, h1, h2, h3, h4, h5⟩ := (hR.2.2.2.2.1 a _ ht).isA
  have h0 : xat 0 = none := rfl
  have h99 : xat 999 = some .int := rfl
  have han : n0 ≤ a := hR.2.2.2.2.2 a (by intro z; rw [z, h0] at ht; cases ht) (by intro z; rw [z, h99] at ht; cases ht)
  refine W.zast hx hb h1 h2 h3 (by rw [h4]; exact hin) rfl rfl hd fun H' e1 e2 e3 => ?_
  rw [hnx] at e1
  refine kk H' _ (xo_setA hR ht h1 rfl rfl rfl (fun b k h => ?_) (fun b k h => rfl) ?_ e1 e2 e3) (fun z hz => ?_)
  · rw [xi_pi, if_neg (fun z => by rcases h with h | h; exact h z.1; exact h z.2)]
  · simp [xfv, xi_pi]
  · rcases List.mem_append.mp hz with h | h
    · exact hL z h
    · rw [List.mem_singleton.mp h]; exact han
theorem xo_aast (hx : p.tables.exec = Jvm.exec) (hb : c.code = cc) (hK : va_K D xcls [] s) (hR : xRel D n0 s S H) (hL : ∀ q ∈ locs, n0 ≤ q.base) {b ci : Nat} {q : vw_C} (hq : xcls[ci]? = some q) (hcb : xc S b = ci + 1) (ht : xat (xc S a) = some (.object q.1)) {i : Int32} (hin : vp_in i (xl S a)) (hd : decode cc pc = .ok (.aastore, 1))
    (kk : ∀ (H1 : Heap) (locs1 : List Loc), xRel D n0 s (xpr S a i.toNatClampNeg (some b)) H1 → (∀ q ∈ locs1, n0 ≤ q.base) → W p l e R s m args below meth c H1 locs1 cells slots Q (F0 m (pc + 1) ls rest)) : W p l e R s m args below meth c H locs cells slots Q (F0 m pc ls (.ref b :: .int i :: .ref a :: rest)) := by
  have h0 : xat 0 = none := rfl
  have h99 : xat 999 = some .int := rfl
  have han : n0 ≤ a := hR.2.2.2.2.2 a (by intro z; rw [z, h0] at ht; cases ht) (by intro z; rw [z, h99] at ht; cases ht)
  obtain ⟨cell, kA, comp, g1, g2, g3, g4, g5, g6, g7, g8⟩ := hR.2.2.2.2.1 a _ ht
  obtain ⟨cellV, v1, v2, v3, -⟩ := hR.2.2.2.1 b ci q hcb hq
  have hcls := (hK.1 ci q hq).2
  have hcomp : comp = D.1 ci := Option.some.inj ((g6 q.1 rfl).symm.trans hcls.1)
  subst hcomp
  obtain ⟨kC, hkC, -⟩ := hcls.2
  have hlt : i.toNatClampNeg < xl S a := Nat.not_le.mp fun q => hin (Or.inr q)
  refine W.aast hx hb g1 g2 g3 g4 g5 rfl hkC ⟨fun q => hin (Or.inl q), by rw [g7]; exact hlt⟩ v1 (fun q h => by rw [v3] at h; cases h) (by rw [v2]; exact hkC) (by rw [v2]; exact va_assign hcls) rfl rfl hd fun H' e1 e2 e3 => ?_
  refine kk H' _ (xo_setA hR ht g1 rfl rfl rfl (fun b k h => rfl) (fun b k h => ?_) ?_ e1 e2 e3) (fun z hz => ?_)
  · rw [xr_pr, if_neg (fun z => by rcases h with h | h; exact h z.1; exact h z.2)]
  · simp [xfv, xr_pr, va_rf]
  · rcases List.mem_append.mp hz with h | h
    · exact hL z h
    · rw [List.mem_singleton.mp h]; exact han
theorem xo_new (hx : p.tables.exec = Jvm.exec) (hb : c.code = cc) (hown : s.vm.findClass (xnm own) = some m.cls) (hts : ∀ w ∈ xtb, w.before args s = true) (hK : va_K D xcls [] s) (hR : xRel D n0 s S H) {idx ci N : Nat} (hf : xnc own idx = some (ci, N)) (hcells : cells + 1 ≤ R.cells) (hslots : slots + N ≤ R.slots) (hd : decode cc pc = .ok (.new idx, 3))
    (kk : ∀ H1 : Heap, xRel D n0 s (xmk S (ci + 1) 0) H1 → W p l e R s m args below meth c H1 locs (cells + 1) (slots + N) Q (F0 m (pc + 3) ls (.ref (xn S) :: rest))) : W p l e R s m args below meth c H locs cells slots Q (F0 m pc ls rest) := by
  obtain ⟨q, hq, rfl, h1, h2, h3⟩ := xnc_ok hf
  have hKn := hK.1 ci q hq
  refine W.newcK hx hb hown (hts _ h1) (hts _ h2) (hts _ h3) rfl hd hcells hslots hKn.2.1 hR.1 fun H1 kC hkC e1 z1 o1 => ?_
  refine kk H1 (hR.push z1 o1 (fun ci' q' h4 h5 => ?_) (fun ty h => (xo_notobj h rfl hq).elim))
  have hci : ci' = ci := by omega
  subst hci
  cases hq.symm.trans h5
  exact (u_born (xty ci') hts (xcls_ok q (xcl_mem hq)).1 hKn hkC e1 (xty_hty hq)).to (fun k hk => xdef (xty_simple hq hk) S _ _ k)
theorem xo_newi (hx : p.tables.exec = Jvm.exec) (hb : c.code = cc) (hts : ∀ w ∈ xtb, w.before args s = true) (hR : xRel D n0 s S H) {t : ArrayType} {tg : Nat} (hf : xnt own t = some tg) {x : Int32} (hn : ¬ x < 0) (hN : x.toNatClampNeg ≤ 10000) (hcells : cells + 1 ≤ R.cells) (hslots : slots + x.toNatClampNeg ≤ R.slots) (hd : decode cc pc = .ok (.newarray t, 2))
    (kk : ∀ H1 : Heap, xRel D n0 s (xmk S tg x.toNatClampNeg) H1 → W p l e R s m args below meth c H1 locs (cells + 1) (slots + x.toNatClampNeg) Q (F0 m (pc + 2) ls (.ref (xn S) :: rest))) : W p l e R s m args below meth c H locs cells slots Q (F0 m pc ls (.int x :: rest)) := by
  obtain ⟨t1, t2, t3, t4, t5, t6⟩ := xnt_ok own t tg hf
  have hcb : componentBytes (newarray.typeOf t) ≤ 8 := by cases t <;> decide
  refine va_newaK hx hb (hts _ t4) rfl hd rfl hn rfl (Nat.le_trans (Nat.mul_le_mul hN hcb) (by decide)) hcells hslots hR.1 fun H1 cA e1 z1 o1 hAr hNm => ?_
  refine kk H1 (hR.push z1 o1 (fun ci q h1 h2 => (xo_notobj t1 h1 h2).elim) (fun ty h => ?_))
  cases t1.symm.trans h
  obtain ⟨g1, kA, g2, comp, g3⟩ := hAr x.toNatClampNeg (fun _ => defaultValue (newarray.typeOf t))
  refine ⟨_, kA, comp, e1, g1, (fun h => by cases h), g2, g3, (fun C h => by rw [h] at t6; cases t6), by rw [xl_mk, if_pos rfl]; exact arrV_size _ _ _, fun j hj => ?_⟩
  rw [xl_mk, if_pos rfl] at hj
  rw [show (arrV cA x.toNatClampNeg (fun _ => defaultValue (newarray.typeOf t))).slots[j]? = _ from arrV_read cA _ hj]
  exact congrArg some (xdef t5 S _ _ j)
theorem xo_newr (hx : p.tables.exec = Jvm.exec) (hb : c.code = cc) (hown : s.vm.findClass (xnm own) = some m.cls) (hts : ∀ w ∈ xtb, w.before args s = true) (hAO : ∀ C ∈ xAO, va_AO C s) (hR : xRel D n0 s S H) {idx tg : Nat} (hf : xna own idx = some tg) {x : Int32} (hn : ¬ x < 0) (hN : x.toNatClampNeg ≤ 10000) (hcells : cells + 1 ≤ R.cells) (hslots : slots + x.toNatClampNeg ≤ R.slots) (hd : decode cc pc = .ok (.anewarray idx, 3))
    (kk : ∀ H1 : Heap, xRel D n0 s (xmk S tg x.toNatClampNeg) H1 → W p l e R s m args below meth c H1 locs (cells + 1) (slots + x.toNatClampNeg) Q (F0 m (pc + 3) ls (.ref (xn S) :: rest))) : W p l e R s m args below meth c H locs cells slots Q (F0 m pc ls (.int x :: rest)) := by
  obtain ⟨C, t1, t2, t3, h1, h2⟩ := xna_ok hf
  refine W.anew hx hb hown (hts _ h1) (va_AO.use (hAO _ h2)) rfl hd rfl hn (by omega) hcells hslots fun cA kA comp f1 f2 f3 f4 => ?_
  rw [arrV_new]
  have hz : H.size = xn S := hR.1
  rw [hz]
  refine kk _ (hR.push (by rw [Array.size_push, hz]) (fun q hq => by rw [Array.getElem?_push, if_neg (by omega)]) (fun ci q h1 h2 => (xo_notobj t1 h1 h2).elim) (fun ty h => ?_))
  cases t1.symm.trans h
  refine ⟨arrV cA x.toNatClampNeg (fun _ => .null), kA, comp, by rw [← hz, Array.getElem?_push_size], (fun z h => by cases h), (fun h => by cases h), f2, f3, (fun C' h => by cases h; exact f4), by rw [xl_mk, if_pos rfl]; exact arrV_size _ _ _, fun j hj => ?_⟩
  rw [xl_mk, if_pos rfl] at hj
  rw [arrV_read cA _ hj]
  exact congrArg some (xdef (ty := .object C) rfl S _ _ j)
end XSOUND
end
section
/-! THE WALK: V at a place of the code, the step, the call, the contract -/
def xNw (U : State) : Prop := va_Nw (.methodLinkNest xnest.1 xnest.2.1 xnest.2.2 (xnm 3)) U ∧ ∀ C ∈ xAO, va_AO C U
section XW
variable (p : Program) (l : Launch) (e : Env) (R : Room) (s : State) (m : MethodId) (args : Array Value) (below : List Frame) (meth : Method) (c : Code) (Q : State → Prop) (D : va_G) (n0 : Nat)
def xV (pc : Nat) (lv : List (Option xVal)) (st : List xVal) (S : xS) (cs sl : Nat) : Prop :=
  ∀ (H : Heap) (locs : List Loc) (ls : Array Slot), xRel D n0 s S H → (∀ q ∈ locs, n0 ≤ q.base) → xLs ls c.maxLocals lv → W p l e R s m args below meth c H locs cs sl Q (F0 m pc ls (st.map xv))
def xCx (own : Nat) (cc : ByteArray) (ini : Bool) (ret : Option FieldType) : Prop :=
  p.tables.exec = Jvm.exec ∧ c.code = cc ∧ s.vm.findClass (xnm own) = some m.cls ∧ (∀ w ∈ xtb, w.before args s = true) ∧ va_K D xcls [] s ∧ (ini = true → meth.name = "<init>") ∧ meth.sig.returnType = ret ∧ meth.locks = false ∧ xNw s
/-- how the method is left -/
def xEx (cc : ByteArray) (ret : Option FieldType) (E : xEt) : Prop :=
  (∀ (x : Int32) (S : xS) (cs sl pc : Nat) (ls : Array Slot) (H : Heap) (locs : List Loc), E (some (.inl x)) S cs sl → (∃ ty, ret = some ty ∧ narrow ty (.int x) = .int x) → decode cc pc = .ok (.ireturn, 1) → xRel D n0 s S H → (∀ q ∈ locs, n0 ≤ q.base) → W p l e R s m args below meth c H locs cs sl Q (F0 m pc ls [.int x])) ∧
  (∀ (x : Int64) (S : xS) (cs sl pc : Nat) (ls : Array Slot) (H : Heap) (locs : List Loc), E (some (.inr (.inl x))) S cs sl → ret = some .long → decode cc pc = .ok (.lreturn, 1) → xRel D n0 s S H → (∀ q ∈ locs, n0 ≤ q.base) → W p l e R s m args below meth c H locs cs sl Q (F0 m pc ls [.long x])) ∧
  (∀ (x : Option Nat) (S : xS) (cs sl pc : Nat) (ls : Array Slot) (H : Heap) (locs : List Loc), E (some (.inr (.inr x))) S cs sl → ((∃ C, ret = some (.object C)) ∨ ∃ t, ret = some (.array t)) → decode cc pc = .ok (.areturn, 1) → xRel D n0 s S H → (∀ q ∈ locs, n0 ≤ q.base) → W p l e R s m args below meth c H locs cs sl Q (F0 m pc ls [va_rf x])) ∧
  (∀ (S : xS) (cs sl pc : Nat) (ls : Array Slot) (H : Heap) (locs : List Loc), E none S cs sl → ret = none → decode cc pc = .ok (.return_, 1) → xRel D n0 s S H → (∀ q ∈ locs, n0 ≤ q.base) → W p l e R s m args below meth c H locs cs sl Q (F0 m pc ls []))
end XW
theorem xsum (r : List xVal) : ((r.map xv).map fun v => v.category).sum = (r.map xcat).sum := by
  induction r with
  | nil => rfl
  | cons v t ih => simp only [List.map_cons, List.sum_cons, ih, xcat_ok]
theorem xsw_get {x : Int} {pc : Nat} {K : Nat → Prop} : ∀ (offs : List Int) (lo : Int) (n : Nat) (o : Int), xsw x pc K offs lo → offs[n]? = some o → x = lo + n → 0 ≤ (pc : Int) + o ∧ K (xtgt pc o)
  | [], lo, n, o, _, h, _ => by simp at h
  | o' :: t, lo, 0, o, hs, h, hx => by
    simp at h
    subst h
    exact hs.1 (by simpa using hx)
  | o' :: t, lo, n + 1, o, hs, h, hx => xsw_get t (lo + 1) n o hs.2 (by simpa using h) (by rw [hx]; push_cast; omega)
theorem xlk_get {x : Int} {pc : Nat} {K : Nat → Prop} {d : Int} : ∀ (ps : List (Int × Int)), xlk x pc K d ps → 0 ≤ (pc : Int) + Op.lookupswitch.offset ps d x ∧ K (xtgt pc (Op.lookupswitch.offset ps d x))
  | [], h => by simp only [xlk] at h; simpa [Op.lookupswitch.offset] using h
  | q :: t, h => by
    by_cases e : x = q.1
    · have h1 := h.1 e
      simpa [Op.lookupswitch.offset, e] using h1
    · have h1 := xlk_get t (h.2 e)
      have e' : ¬ q.1 = x := fun z => e z.symm
      simpa [Op.lookupswitch.offset, e, e'] using h1
section XSTEP
variable {p : Program} {l : Launch} {e : Env} {R : Room} {s : State} {m : MethodId} {args : Array Value} {below : List Frame} {meth : Method} {c : Code} {Q : State → Prop} {D : va_G} {n0 : Nat}
variable {own : Nat} {cc : ByteArray} {ini : Bool} {ret : Option FieldType} {E : xEt}
set_option maxHeartbeats 4000000 in
set_option maxRecDepth 100000 in
theorem x_step (C : xCx p s m args meth c D own cc ini ret) (hE : xEx p l e R s m args below meth c Q D n0 cc ret E) {pc : Nat} {lv : List (Option xVal)} {st : List xVal} {S : xS} {cs sl : Nat} {i : Instr} {len : Nat} (hd : decode cc pc = .ok (i, len))
    (h : xstep own ini ret R i len pc lv st S cs sl (xV p l e R s m args below meth c Q D n0) E) : xV p l e R s m args below meth c Q D n0 pc lv st S cs sl := by
  obtain ⟨hx, hb, hown, hts, hK, hini, hr, hlocks, hNw⟩ := C
  intro H locs ls hR hL hls
  have hlen := hls.1.2
  cases i
  case aconst_null => obtain ⟨rfl, k⟩ := h; exact lv_null hx hb hd (k H locs ls hR hL hls)
  case iconst n => obtain ⟨rfl, k⟩ := h; exact lv_iconst hx hb hd rfl (k H locs ls hR hL hls)
  case bipush n => obtain ⟨rfl, k⟩ := h; exact lv_bipush hx hb hd rfl (k H locs ls hR hL hls)
  case sipush n => obtain ⟨rfl, k⟩ := h; exact lv_sipush hx hb hd rfl (k H locs ls hR hL hls)
  case lconst n => obtain ⟨rfl, k⟩ := h; exact lv_lconst hx hb hd rfl (k H locs ls hR hL hls)
  case ldc n =>
    simp only [xstep] at h
    split at h
    · rename_i v hv
      obtain ⟨rfl, k⟩ := h
      exact lv_ldc hx hb hown (hts _ (xki_ok hv)) hd (k H locs ls hR hL hls)
    · exact False.elim h
  case ldc2_w n =>
    simp only [xstep] at h
    split at h
    · rename_i v hv
      obtain ⟨rfl, k⟩ := h
      exact lv_ldc2 hx hb hown (hts _ (xkl_ok hv)) hd (k H locs ls hR hL hls)
    · exact False.elim h
  case iload n =>
    simp only [xstep] at h
    split at h
    · rename_i x hv
      obtain ⟨rfl, k⟩ := h
      exact lv_iload hx hb hd (hls.2.2 _ _ (xget_ok _ _ _ hv)) (k H locs ls hR hL hls)
    · exact False.elim h
  case iload_n n =>
    simp only [xstep] at h
    split at h
    · rename_i x hv
      obtain ⟨rfl, k⟩ := h
      exact lv_iload_n hx hb hd rfl (hls.2.2 _ _ (xget_ok _ _ _ hv)) (k H locs ls hR hL hls)
    · exact False.elim h
  case lload n =>
    simp only [xstep] at h
    split at h
    · rename_i x hv
      obtain ⟨rfl, k⟩ := h
      exact lv_lload hx hb hd (hls.2.2 _ _ (xget_ok _ _ _ hv)) (k H locs ls hR hL hls)
    · exact False.elim h
  case lload_n n =>
    simp only [xstep] at h
    split at h
    · rename_i x hv
      obtain ⟨rfl, k⟩ := h
      exact lv_lload_n hx hb hd rfl (hls.2.2 _ _ (xget_ok _ _ _ hv)) (k H locs ls hR hL hls)
    · exact False.elim h
  case aload n =>
    simp only [xstep] at h
    split at h
    · rename_i x hv
      obtain ⟨rfl, k⟩ := h
      cases x with
      | none => exact lv_aloadN hx hb hd (hls.2.2 _ _ (xget_ok _ _ _ hv)) (k H locs ls hR hL hls)
      | some a => exact lv_aload hx hb hd (hls.2.2 _ _ (xget_ok _ _ _ hv)) (k H locs ls hR hL hls)
    · exact False.elim h
  case aload_n n =>
    simp only [xstep] at h
    split at h
    · rename_i x hv
      obtain ⟨rfl, k⟩ := h
      cases x with
      | none => exact lv_aload_nN hx hb hd rfl (hls.2.2 _ _ (xget_ok _ _ _ hv)) (k H locs ls hR hL hls)
      | some a => exact lv_aload_n hx hb hd rfl (hls.2.2 _ _ (xget_ok _ _ _ hv)) (k H locs ls hR hL hls)
    · exact False.elim h
  case istore n =>
    rcases st with _ | ⟨x | x | x, r⟩ <;> first
      | exact False.elim h
      | (obtain ⟨rfl, h1, h2, k⟩ := h
         exact lv_istore hx hb hd hls.has (by omega) rfl (fun ls' hl' => k H locs ls' hR hL (xLs.of1 hlen h2 hl')))
  case istore_n n =>
    rcases st with _ | ⟨x | x | x, r⟩ <;> first
      | exact False.elim h
      | (obtain ⟨rfl, h1, h2, k⟩ := h
         exact lv_istore_n hx hb hd rfl hls.has (by omega) rfl (fun ls' hl' => k H locs ls' hR hL (xLs.of1 hlen h2 hl')))
  case astore n =>
    rcases st with _ | ⟨x | x | x, r⟩
    · exact False.elim h
    · exact False.elim h
    · exact False.elim h
    · obtain ⟨rfl, h1, h2, k⟩ := h
      cases x with
      | none => exact lv_astoreN hx hb hd hls.has (by omega) rfl (fun ls' hl' => k H locs ls' hR hL (xLs.of1 (v := .inr (.inr none)) hlen h2 hl'))
      | some a => exact lv_astore hx hb hd hls.has (by omega) rfl (fun ls' hl' => k H locs ls' hR hL (xLs.of1 (v := .inr (.inr (some a))) hlen h2 hl'))
  case astore_n n =>
    rcases st with _ | ⟨x | x | x, r⟩
    · exact False.elim h
    · exact False.elim h
    · exact False.elim h
    · obtain ⟨rfl, h1, h2, k⟩ := h
      cases x with
      | none => exact lv_astore_nN hx hb hd rfl hls.has (by omega) rfl (fun ls' hl' => k H locs ls' hR hL (xLs.of1 (v := .inr (.inr none)) hlen h2 hl'))
      | some a => exact lv_astore_n hx hb hd rfl hls.has (by omega) rfl (fun ls' hl' => k H locs ls' hR hL (xLs.of1 (v := .inr (.inr (some a))) hlen h2 hl'))
  case lstore n =>
    rcases st with _ | ⟨x | x | x, r⟩ <;> first
      | exact False.elim h
      | (obtain ⟨rfl, h1, h2, k⟩ := h
         exact lv_lstore hx hb hd hls.has (by omega) rfl (fun ls' hl' => k H locs ls' hR hL (xLs.of2 (v := .inr (.inl x)) hlen h2 hl')))
  case lstore_n n =>
    rcases st with _ | ⟨x | x | x, r⟩ <;> first
      | exact False.elim h
      | (obtain ⟨rfl, h1, h2, k⟩ := h
         exact lv_lstore_n hx hb hd rfl hls.has (by omega) rfl (fun ls' hl' => k H locs ls' hR hL (xLs.of2 (v := .inr (.inl x)) hlen h2 hl')))
  case iinc n w =>
    simp only [xstep] at h
    split at h
    · rename_i x hv
      obtain ⟨rfl, h1, h2, k⟩ := h
      obtain ⟨kk, hkk⟩ := List.getElem?_of_mem ((xas_mem lv 0 (n, xv (.inl x))).mpr ⟨n, .inl x, by simp, xget_ok _ _ _ hv⟩)
      exact lv_iinc hx hb hd hls.has hkk rfl (by omega) rfl (fun ls' hl' => k H locs ls' hR hL (xLs.of1 (v := .inl (x + Int32.ofInt w)) hlen h2 hl'))
    · exact False.elim h
  case iadd => rcases st with _ | ⟨y | y | y, _ | ⟨x | x | x, r⟩⟩ <;> first | exact False.elim h | (obtain ⟨rfl, k⟩ := h; exact lv_iadd hx hb hd (k H locs ls hR hL hls))
  case isub => rcases st with _ | ⟨y | y | y, _ | ⟨x | x | x, r⟩⟩ <;> first | exact False.elim h | (obtain ⟨rfl, k⟩ := h; exact lv_isub hx hb hd (k H locs ls hR hL hls))
  case imul => rcases st with _ | ⟨y | y | y, _ | ⟨x | x | x, r⟩⟩ <;> first | exact False.elim h | (obtain ⟨rfl, k⟩ := h; exact lv_imul hx hb hd (k H locs ls hR hL hls))
  case idiv => rcases st with _ | ⟨y | y | y, _ | ⟨x | x | x, r⟩⟩ <;> first | exact False.elim h | (obtain ⟨rfl, h1, k⟩ := h; exact lv_idiv hx hb hd h1 (k H locs ls hR hL hls))
  case irem => rcases st with _ | ⟨y | y | y, _ | ⟨x | x | x, r⟩⟩ <;> first | exact False.elim h | (obtain ⟨rfl, h1, k⟩ := h; exact lv_irem hx hb hd h1 (k H locs ls hR hL hls))
  case iand => rcases st with _ | ⟨y | y | y, _ | ⟨x | x | x, r⟩⟩ <;> first | exact False.elim h | (obtain ⟨rfl, k⟩ := h; exact lv_iand hx hb hd (k H locs ls hR hL hls))
  case ior => rcases st with _ | ⟨y | y | y, _ | ⟨x | x | x, r⟩⟩ <;> first | exact False.elim h | (obtain ⟨rfl, k⟩ := h; exact lv_ior hx hb hd (k H locs ls hR hL hls))
  case ixor => rcases st with _ | ⟨y | y | y, _ | ⟨x | x | x, r⟩⟩ <;> first | exact False.elim h | (obtain ⟨rfl, k⟩ := h; exact lv_ixor hx hb hd (k H locs ls hR hL hls))
  case ishl => rcases st with _ | ⟨y | y | y, _ | ⟨x | x | x, r⟩⟩ <;> first | exact False.elim h | (obtain ⟨rfl, k⟩ := h; exact lv_ishl hx hb hd (k H locs ls hR hL hls))
  case ishr => rcases st with _ | ⟨y | y | y, _ | ⟨x | x | x, r⟩⟩ <;> first | exact False.elim h | (obtain ⟨rfl, k⟩ := h; exact lv_ishr hx hb hd (k H locs ls hR hL hls))
  case iushr => rcases st with _ | ⟨y | y | y, _ | ⟨x | x | x, r⟩⟩ <;> first | exact False.elim h | (obtain ⟨rfl, k⟩ := h; exact lv_iushr hx hb hd rfl (k H locs ls hR hL hls))
  case ineg => rcases st with _ | ⟨x | x | x, r⟩ <;> first | exact False.elim h | (obtain ⟨rfl, k⟩ := h; exact lv_ineg hx hb hd (k H locs ls hR hL hls))
  case ladd => rcases st with _ | ⟨y | y | y, _ | ⟨x | x | x, r⟩⟩ <;> first | exact False.elim h | (obtain ⟨rfl, k⟩ := h; exact lv_ladd hx hb hd (k H locs ls hR hL hls))
  case lsub => rcases st with _ | ⟨y | y | y, _ | ⟨x | x | x, r⟩⟩ <;> first | exact False.elim h | (obtain ⟨rfl, k⟩ := h; exact lv_lsub hx hb hd (k H locs ls hR hL hls))
  case lmul => rcases st with _ | ⟨y | y | y, _ | ⟨x | x | x, r⟩⟩ <;> first | exact False.elim h | (obtain ⟨rfl, k⟩ := h; exact lv_lmul hx hb hd (k H locs ls hR hL hls))
  case ldiv => rcases st with _ | ⟨y | y | y, _ | ⟨x | x | x, r⟩⟩ <;> first | exact False.elim h | (obtain ⟨rfl, h1, k⟩ := h; exact lv_ldiv hx hb hd h1 (k H locs ls hR hL hls))
  case lrem => rcases st with _ | ⟨y | y | y, _ | ⟨x | x | x, r⟩⟩ <;> first | exact False.elim h | (obtain ⟨rfl, h1, k⟩ := h; exact lv_lrem hx hb hd h1 (k H locs ls hR hL hls))
  case land => rcases st with _ | ⟨y | y | y, _ | ⟨x | x | x, r⟩⟩ <;> first | exact False.elim h | (obtain ⟨rfl, k⟩ := h; exact lv_land hx hb hd (k H locs ls hR hL hls))
  case lxor => rcases st with _ | ⟨y | y | y, _ | ⟨x | x | x, r⟩⟩ <;> first | exact False.elim h | (obtain ⟨rfl, k⟩ := h; exact lv_lxor hx hb hd (k H locs ls hR hL hls))
  case lneg => rcases st with _ | ⟨x | x | x, r⟩ <;> first | exact False.elim h | (obtain ⟨rfl, k⟩ := h; exact lv_lneg hx hb hd (k H locs ls hR hL hls))
  case lshl => rcases st with _ | ⟨y | y | y, _ | ⟨x | x | x, r⟩⟩ <;> first | exact False.elim h | (obtain ⟨rfl, k⟩ := h; exact lv_lshl hx hb hd rfl (k H locs ls hR hL hls))
  case lshr => rcases st with _ | ⟨y | y | y, _ | ⟨x | x | x, r⟩⟩ <;> first | exact False.elim h | (obtain ⟨rfl, k⟩ := h; exact lv_lshr hx hb hd rfl (k H locs ls hR hL hls))
  case i2l => rcases st with _ | ⟨x | x | x, r⟩ <;> first | exact False.elim h | (obtain ⟨rfl, k⟩ := h; exact lv_i2l hx hb hd rfl (k H locs ls hR hL hls))
  case l2i => rcases st with _ | ⟨x | x | x, r⟩ <;> first | exact False.elim h | (obtain ⟨rfl, k⟩ := h; exact lv_l2i hx hb hd rfl (k H locs ls hR hL hls))
  case lcmp => rcases st with _ | ⟨y | y | y, _ | ⟨x | x | x, r⟩⟩ <;> first | exact False.elim h | (obtain ⟨rfl, k⟩ := h; exact W.lcmp hx hb hd (k H locs ls hR hL hls))
  case dup => rcases st with _ | ⟨x | x | x, r⟩ <;> first | exact False.elim h | (obtain ⟨rfl, k⟩ := h; exact lv_dup hx hb hd (by rw [xcat_ok]; rfl) (k H locs ls hR hL hls))
  case pop => rcases st with _ | ⟨x | x | x, r⟩ <;> first | exact False.elim h | (obtain ⟨rfl, k⟩ := h; exact lv_pop hx hb hd (by rw [xcat_ok]; rfl) (k H locs ls hR hL hls))
  case dup_x1 => rcases st with _ | ⟨v, _ | ⟨w, r⟩⟩ <;> first | exact False.elim h | (obtain ⟨rfl, h1, h2, k⟩ := h; exact lv_dup_x1 hx hb hd (by rw [xcat_ok]; exact h1) (by rw [xcat_ok]; exact h2) (k H locs ls hR hL hls))
  case dup_x2 => rcases st with _ | ⟨v, _ | ⟨w, _ | ⟨u, r⟩⟩⟩ <;> first | exact False.elim h | (obtain ⟨rfl, h1, h2, h3, k⟩ := h; exact lv_dup_x2 hx hb hd (by rw [xcat_ok]; exact h1) (by rw [xcat_ok]; exact h2) (by rw [xcat_ok]; exact h3) (k H locs ls hR hL hls))
  case dup2 => rcases st with _ | ⟨v, _ | ⟨w, r⟩⟩ <;> first | exact False.elim h | (obtain ⟨rfl, h1, h2, k⟩ := h; exact lv_dup2_11 hx hb hd (by rw [xcat_ok]; exact h1) (by rw [xcat_ok]; exact h2) (k H locs ls hR hL hls))
  case goto off => obtain ⟨rfl, h1, k⟩ := h; exact lv_goto hx hb hd (xtgt_ok h1) (k H locs ls hR hL hls)
  case ifCond cd off =>
    rcases st with _ | ⟨x | x | x, r⟩
    · exact False.elim h
    · obtain ⟨rfl, h1, k⟩ := h
      cases cd
      · exact lv_if_eq hx hb hd (xtgt_ok h1) (fun z => k.1 z H locs ls hR hL hls) (fun z => k.2 z H locs ls hR hL hls)
      · exact lv_if_ne hx hb hd (xtgt_ok h1) (fun z => k.1 z H locs ls hR hL hls) (fun z => k.2 z H locs ls hR hL hls)
      · exact lv_if_lt hx hb hd (xtgt_ok h1) (fun z => k.1 z H locs ls hR hL hls) (fun z => k.2 z H locs ls hR hL hls)
      · exact lv_if_ge hx hb hd (xtgt_ok h1) (fun z => k.1 z H locs ls hR hL hls) (fun z => k.2 z H locs ls hR hL hls)
      · exact lv_if_gt hx hb hd (xtgt_ok h1) (fun z => k.1 z H locs ls hR hL hls) (fun z => k.2 z H locs ls hR hL hls)
      · exact lv_if_le hx hb hd (xtgt_ok h1) (fun z => k.1 z H locs ls hR hL hls) (fun z => k.2 z H locs ls hR hL hls)
    · exact False.elim h
    · exact False.elim h
  case if_icmp cd off =>
    rcases st with _ | ⟨y | y | y, _ | ⟨x | x | x, r⟩⟩ <;> first
      | exact False.elim h
      | (obtain ⟨rfl, h1, k⟩ := h
         cases cd
         · exact lv_icmp_eq hx hb hd (xtgt_ok h1) (fun z => k.1 z H locs ls hR hL hls) (fun z => k.2 z H locs ls hR hL hls)
         · exact lv_icmp_ne hx hb hd (xtgt_ok h1) (fun z => k.1 z H locs ls hR hL hls) (fun z => k.2 z H locs ls hR hL hls)
         · exact lv_icmp_lt hx hb hd (xtgt_ok h1) (fun z => k.1 z H locs ls hR hL hls) (fun z => k.2 z H locs ls hR hL hls)
         · exact lv_icmp_ge hx hb hd (xtgt_ok h1) (fun z => k.1 z H locs ls hR hL hls) (fun z => k.2 z H locs ls hR hL hls)
         · exact lv_icmp_gt hx hb hd (xtgt_ok h1) (fun z => k.1 z H locs ls hR hL hls) (fun z => k.2 z H locs ls hR hL hls)
         · exact lv_icmp_le hx hb hd (xtgt_ok h1) (fun z => k.1 z H locs ls hR hL hls) (fun z => k.2 z H locs ls hR hL hls))
  case if_acmp cd off =>
    rcases st with _ | ⟨y | y | y, _ | ⟨x | x | x, r⟩⟩ <;> first
      | exact False.elim h
      | (obtain ⟨rfl, h1, k⟩ := h
         cases cd
         · exact lv_acmp_eq hx hb hd (xtgt_ok h1) (fun z => k.1 z H locs ls hR hL hls) (fun z => k.2 z H locs ls hR hL hls)
         · exact lv_acmp_ne hx hb hd (xtgt_ok h1) (fun z => k.1 z H locs ls hR hL hls) (fun z => k.2 z H locs ls hR hL hls))
  case ifnull off =>
    rcases st with _ | ⟨x | x | x, r⟩
    · exact False.elim h
    · exact False.elim h
    · exact False.elim h
    · obtain ⟨rfl, h1, k1, k2⟩ := h
      cases x with
      | none => exact lv_ifnullN hx hb hd (xtgt_ok h1) (k1 rfl H locs ls hR hL hls)
      | some a => exact lv_ifnull hx hb hd (k2 (by simp) H locs ls hR hL hls)
  case ifnonnull off =>
    rcases st with _ | ⟨x | x | x, r⟩
    · exact False.elim h
    · exact False.elim h
    · exact False.elim h
    · obtain ⟨rfl, h1, k1, k2⟩ := h
      cases x with
      | none => exact lv_ifnonnullN hx hb hd (k2 rfl H locs ls hR hL hls)
      | some a => exact lv_ifnonnull hx hb hd (xtgt_ok h1) (k1 (by simp) H locs ls hR hL hls)
  case tableswitch d lo hi offs =>
    rcases st with _ | ⟨x | x | x, r⟩
    · exact False.elim h
    · obtain ⟨h0, k1, k2⟩ := h
      by_cases hz : x.toInt < lo ∨ hi < x.toInt
      · obtain ⟨h1, k⟩ := k1 hz
        exact lv_tableOut hx hb hd hz (xtgt_ok h1) (k H locs ls hR hL hls)
      · have z1 : ¬ x.toInt < lo := fun z => hz (Or.inl z)
        have z2 : ¬ hi < x.toInt := fun z => hz (Or.inr z)
        have hlt : (x.toInt - lo).toNat < offs.toList.length := by omega
        obtain ⟨h1, k⟩ := xsw_get offs.toList lo (x.toInt - lo).toNat offs.toList[(x.toInt - lo).toNat] k2 (List.getElem?_eq_getElem hlt) (by omega)
        exact lv_tableIn hx hb hd z1 z2 (by rw [← Array.getElem?_toList]; exact List.getElem?_eq_getElem hlt) (xtgt_ok h1) (k H locs ls hR hL hls)
    · exact False.elim h
    · exact False.elim h
  case lookupswitch d ps =>
    rcases st with _ | ⟨x | x | x, r⟩
    · exact False.elim h
    · obtain ⟨h0, k1⟩ := h
      obtain ⟨h1, k⟩ := xlk_get ps.toList k1
      exact lv_lookup hx hb hd h0 rfl (xtgt_ok h1) (k H locs ls hR hL hls)
    · exact False.elim h
    · exact False.elim h
  case getfield n =>
    rcases st with _ | ⟨x | x | x, r⟩
    · exact False.elim h
    · exact False.elim h
    · exact False.elim h
    · simp only [xstep] at h
      split at h
      · rename_i ci j fin ty hf
        obtain ⟨rfl, a, rfl, hc, k⟩ := h
        refine xo_get hx hb hown hts hK hR hf hc hd ?_
        by_cases hz : xisR ty = true
        · rw [if_pos hz] at k
          rw [xfv_R hz]
          exact k H locs ls hR hL hls
        · rw [if_neg hz] at k
          rw [xfv_I (by simpa using hz)]
          exact k H locs ls hR hL hls
      · exact False.elim h
  case putfield n =>
    rcases st with _ | ⟨v | v | v, _ | ⟨x | x | x, r⟩⟩ <;> first
      | exact False.elim h
      | (simp only [xstep] at h
         split at h
         · rename_i ci j fin ty hf
           obtain ⟨rfl, hfin, ⟨hv1, hv2, hv3⟩, a, rfl, hc, k⟩ := h
           refine xo_put (v := .int v) (S' := xpi S a j v) hx hb hown hts hK hR hL hf (hfin.imp id (fun z => ⟨hini z.1, z.2⟩)) hc hv2 hv3 rfl rfl rfl (fun b z q => ?_) (fun b z q => rfl) ?_ hd (fun H1 locs1 hR1 hL1 => k H1 locs1 ls hR1 hL1 hls)
           · rw [xi_pi, if_neg (fun w => by rcases q with q | q; exact q w.1; exact q w.2)]
           · rw [xfv_I hv1, xi_pi, if_pos ⟨rfl, rfl⟩]
         · exact False.elim h)
      | (simp only [xstep] at h
         split at h
         · rename_i ci j fin ty hf
           obtain ⟨rfl, hfin, hv1, a, rfl, hc, k⟩ := h
           refine xo_put (v := va_rf v) (S' := xpr S a j v) hx hb hown hts hK hR hL hf (hfin.imp id (fun z => ⟨hini z.1, z.2⟩)) hc (by cases ty <;> simp_all [xisR] <;> cases v <;> rfl) (by cases ty <;> simp_all [xisR] <;> cases v <;> rfl) rfl rfl rfl (fun b z q => rfl) (fun b z q => ?_) ?_ hd (fun H1 locs1 hR1 hL1 => k H1 locs1 ls hR1 hL1 hls)
           · rw [xr_pr, if_neg (fun w => by rcases q with q | q; exact q w.1; exact q w.2)]
           · rw [xfv_R hv1, xr_pr, if_pos ⟨rfl, rfl⟩]
         · exact False.elim h)
  case arraylength =>
    rcases st with _ | ⟨x | x | x, r⟩
    · exact False.elim h
    · exact False.elim h
    · exact False.elim h
    · obtain ⟨rfl, a, rfl, ⟨ty, ht⟩, k⟩ := h
      exact xo_alen hx hb hR ht hd (k H locs ls hR hL hls)
  case iaload =>
    rcases st with _ | ⟨y | y | y, _ | ⟨x | x | x, r⟩⟩ <;> first
      | exact False.elim h
      | (obtain ⟨rfl, a, rfl, ht, hin, k⟩ := h
         exact xo_iald hx hb hR ht hin hd (k H locs ls hR hL hls))
  case baload =>
    rcases st with _ | ⟨y | y | y, _ | ⟨x | x | x, r⟩⟩ <;> first
      | exact False.elim h
      | (obtain ⟨rfl, a, rfl, ht, hin, k⟩ := h
         exact xo_zald hx hb hR ht hin hd (k H locs ls hR hL hls))
  case bastore =>
    rcases st with _ | ⟨v | v | v, _ | ⟨y | y | y, _ | ⟨x | x | x, r⟩⟩⟩ <;> first
      | exact False.elim h
      | (obtain ⟨rfl, a, rfl, ht, hnx, hin, k⟩ := h
         exact xo_zast hx hb hR hL ht hnx hin hd (fun H1 locs1 hR1 hL1 => k H1 locs1 ls hR1 hL1 hls))
  case aaload =>
    rcases st with _ | ⟨y | y | y, _ | ⟨x | x | x, r⟩⟩ <;> first
      | exact False.elim h
      | (obtain ⟨rfl, a, rfl, ⟨C, ht⟩, hin, k⟩ := h
         exact xo_aald hx hb hR ht hin hd (k H locs ls hR hL hls))
  case iastore =>
    rcases st with _ | ⟨v | v | v, _ | ⟨y | y | y, _ | ⟨x | x | x, r⟩⟩⟩ <;> first
      | exact False.elim h
      | (obtain ⟨rfl, a, rfl, ht, h9, hin, k⟩ := h
         exact xo_iast hx hb hR hL ht h9 hin hd (fun H1 locs1 hR1 hL1 => k H1 locs1 ls hR1 hL1 hls))
  case aastore =>
    rcases st with _ | ⟨v | v | v, _ | ⟨y | y | y, _ | ⟨x | x | x, r⟩⟩⟩ <;> first
      | exact False.elim h
      | (obtain ⟨rfl, a, b, ci, q, rfl, rfl, hq, hcb, ht, hin, k⟩ := h
         exact xo_aast hx hb hK hR hL hq hcb ht hin hd (fun H1 locs1 hR1 hL1 => k H1 locs1 ls hR1 hL1 hls))
  case new n =>
    simp only [xstep] at h
    split at h
    · rename_i ci N hf
      obtain ⟨rfl, h1, h2, k⟩ := h
      exact xo_new hx hb hown hts hK hR hf h1 h2 hd (fun H1 hR1 => k H1 locs ls hR1 hL hls)
    · exact False.elim h
  case newarray t =>
    rcases st with _ | ⟨x | x | x, r⟩
    · exact False.elim h
    · simp only [xstep] at h
      split at h
      · rename_i tg hf
        obtain ⟨rfl, h1, h2, h3, h4, k⟩ := h
        exact xo_newi hx hb hts hR hf h1 h2 h3 h4 hd (fun H1 hR1 => k H1 locs ls hR1 hL hls)
      · exact False.elim h
    · exact False.elim h
    · exact False.elim h
  case anewarray n =>
    rcases st with _ | ⟨x | x | x, r⟩
    · exact False.elim h
    · simp only [xstep] at h
      split at h
      · rename_i tg hf
        obtain ⟨rfl, h1, h2, h3, h4, k⟩ := h
        exact xo_newr hx hb hown hts hNw.2 hR hf h1 h2 h3 h4 hd (fun H1 hR1 => k H1 locs ls hR1 hL hls)
      · exact False.elim h
    · exact False.elim h
    · exact False.elim h
  case invokespecial n =>
    rcases st with _ | ⟨x | x | x, r⟩
    · exact False.elim h
    · exact False.elim h
    · exact False.elim h
    · obtain ⟨h1, rfl, ⟨a, rfl⟩, h2, h3, k⟩ := h
      exact W.objInit hx hb hown (hts _ (xoi_ok h1)) (hts _ xOI_ok2.1) (hts _ xOI_ok2.2) rfl hls.1.1 rfl hd h2 (by rw [xsum]; show 2 * 0 + _ + 12 ≤ _; omega) (k H locs ls hR hL hls)
  case ireturn =>
    rcases st with _ | ⟨x | x | x, _ | ⟨y, r⟩⟩ <;> first
      | exact False.elim h
      | (obtain ⟨rfl, h1, k⟩ := h; exact hE.1 x S cs sl pc ls H locs k h1 hd hR hL)
  case lreturn =>
    rcases st with _ | ⟨x | x | x, _ | ⟨y, r⟩⟩ <;> first
      | exact False.elim h
      | (obtain ⟨rfl, h1, k⟩ := h; exact hE.2.1 x S cs sl pc ls H locs k h1 hd hR hL)
  case areturn =>
    rcases st with _ | ⟨x | x | x, _ | ⟨y, r⟩⟩ <;> first
      | exact False.elim h
      | (obtain ⟨rfl, h1, k⟩ := h; exact hE.2.2.1 x S cs sl pc ls H locs k h1 hd hR hL)
  case return_ =>
    rcases st with _ | ⟨x, r⟩
    · obtain ⟨rfl, h1, k⟩ := h
      exact hE.2.2.2 S cs sl pc ls H locs k h1 hd hR hL
    · exact False.elim h
  all_goals exact False.elim h
end XSTEP
end
section
/-! CONTRACTS AND CALLS -/
def xrm (k mc ms : Nat) : Room := { frames := xfr k, cells := mc, slots := ms, locals := xlo k }
def xml (k : Nat) : Nat := match xmi k with
  | some r => r.2.2.1
  | none => 0
def xPc (D : va_G) (n0 : Nat) (As : List xVal) (S : xS) : Array Value → State → Prop := va_Pc (As.map xv) (fun U => xRel D n0 U S U.heap ∧ va_K D xcls [] U ∧ xNw U)
def xQc (D : va_G) (n0 : Nat) (Qr : Option xVal → xS → Prop) : Array Value → State → Outcome → State → Prop := fun _ _ o t => ∃ (r : Option xVal) (S' : xS), o = .returned (r.map xv) ∧ xRel D n0 t S' t.heap ∧ Qr r S'
/-- the contract of method k: from the picture S, with the arguments As, it makes at most mc cells of ms slots, and ends with Qr -/
def xMet (l : Launch) (D : va_G) (n0 k mc ms : Nat) (As : List xVal) (S : xS) (Qr : Option xVal → xS → Prop) : Prop := match xmi k with
  | some (y, cc, maxL, ret, _, _) => Met l y (Jvm.Cond.code y cc maxL ret :: xtb) (xrm k mc ms) (xPc D n0 As S) (xQc D n0 Qr) mc ms (fun q => n0 ≤ q)
  | none => False
def xarg (k : Nat) : Nat := match xmi k with
  | some r => if r.2.2.2.2.1 = 0 then r.2.2.2.2.2 else r.2.2.2.2.2 + 1
  | none => 0
def xinv (kd idx : Nat) : Instr := match kd with
  | 0 => .invokestatic idx
  | 1 => .invokevirtual idx
  | _ => .invokespecial idx
theorem xPc_blind (D : va_G) (n0 : Nat) (As : List xVal) (S : xS) : FrameBlind (xPc D n0 As S) := by
  intro a U g mk h
  obtain ⟨h1, h2, h3, h4⟩ := h
  exact ⟨h1, h2.moved (U := U.calling g mk a) (Vm.Alike.refl U.vm), va_K.moved (u := U) (U := U.calling g mk a) (Vm.Alike.refl U.vm) h3, va_Nw.same rfl rfl h4.1, fun C hC => (h4.2 C hC).moved (U := U.calling g mk a) (Vm.Alike.refl U.vm)⟩
theorem xtb_goodIn {y : MethodName} {cc : ByteArray} {maxL : Nat} {ret : Option FieldType} (h : Jvm.Cond.code y cc maxL ret ∈ xtb) {ws : List Jvm.Cond} (hw : ∀ w ∈ ws, w ∈ xtb) : GoodIn xtb (ws ++ (Jvm.Cond.code y cc maxL ret :: xtb)) := by
  intro w hm
  have h1 : w ∈ xtb := by
    rcases List.mem_append.mp hm with h2 | h2
    · exact hw w h2
    · rcases List.mem_cons.mp h2 with h3 | h3
      · rw [h3]; exact h
      · exact h3
  exact ⟨h1, xtb_good w h1⟩
theorem xcl_ok {own idx k kd cj : Nat} (h : xcl own idx = some (k, kd, cj)) : xCLP (own, idx, k, kd, cj) := by
  unfold xcl at h
  obtain ⟨r, hr, e⟩ := Option.map_eq_some_iff.mp h
  obtain ⟨hm, hp⟩ := xfind hr
  simp only [Bool.and_eq_true, beq_iff_eq] at hp
  have hk := xCL_ok r hm
  obtain ⟨r1, r2, r3, r4, r5⟩ := r
  obtain ⟨rfl, rfl⟩ := hp
  cases e
  exact hk
section XCALL
variable {p : Program} {l : Launch} {e : Env} {R : Room} {s : State} {m : MethodId} {args : Array Value} {below : List Frame} {meth : Method} {c : Code} {Q : State → Prop} {D : va_G} {n0 : Nat} {H : Heap} {locs : List Loc} {cs sl : Nat}
variable {own : Nat} {cc : ByteArray} {ini : Bool} {ret : Option FieldType} {E : xEt}
theorem x_after {pc mc ms : Nat} {ls : Array Slot} {st0 rest : List Value} {Qr : Option xVal → xS → Prop} {a : Array Value} (hr : va_Run p l e R s m args below meth c H locs cs sl mc ms (F0 m pc ls st0) rest (xQc D n0 Qr a) (fun q => n0 ≤ q)) (hL : ∀ q ∈ locs, n0 ≤ q.base)
    (kk : ∀ (r : Option xVal) (S' : xS) (H1 : Heap) (locs1 : List Loc), Qr r S' → xRel D n0 s S' H1 → (∀ q ∈ locs1, n0 ≤ q.base) → W p l e R s m args below meth c H1 locs1 (cs + mc) (sl + ms) Q (F0 m (pc + 3) ls ((r.map xv).toList ++ rest))) : W p l e R s m args below meth c H locs cs sl Q (F0 m pc ls st0) := by
  intro T hT X
  obtain ⟨v, st₀, t, T', L, h0, X', hLL, e1, e2, ⟨r, S', hv, hrel, hq⟩, st⟩ := hr T hT X
  cases hv
  have hal : t.vm.Alike s.vm := by rw [← e2]; exact X'.warmed.alike.symm
  obtain ⟨t2, a1, b1⟩ := kk r S' T'.heap (locs ++ L) hq (by rw [e1]; exact hrel.moved hal) (fun q hq => by
    rcases List.mem_append.mp hq with h | h
    · exact hL q h
    · exact hLL q h) T' rfl X'
  exact ⟨t2, st t2 a1, b1⟩
set_option maxHeartbeats 1000000 in
theorem x_call (C : xCx p s m args meth c D own cc ini ret) {pc : Nat} {lv : List (Option xVal)} {st : List xVal} {S : xS} {idx k kd cj mc ms : Nat} {As rest : List xVal} {Qr : Option xVal → xS → Prop}
    (hd : decode cc pc = .ok (xinv kd idx, 3)) (hc : xcl own idx = some (k, kd, cj)) (hst : st = As.reverse ++ rest) (hAs : As.length = xarg k) (hrec : kd = 0 ∨ ∃ b t, As = .inr (.inr (some b)) :: t ∧ (kd = 1 → xc S b = cj + 1)) (hsum : (rest.map xcat).sum ≤ 8)
    (hM : xMet l D n0 k mc ms As S Qr) (hfr : xfr k + 1 ≤ R.frames) (hlo : 19 + xml k + xlo k ≤ R.locals) (hcs : cs + mc ≤ R.cells) (hsl : sl + ms ≤ R.slots)
    (kk : ∀ (r : Option xVal) (S' : xS), Qr r S' → xV p l e R s m args below meth c Q D n0 (pc + 3) lv (r.toList ++ rest) S' (cs + mc) (sl + ms)) : xV p l e R s m args below meth c Q D n0 pc lv st S cs sl := by
  obtain ⟨hx, hb, hown, hts, hK, hini, hr, hlocks, hNw⟩ := C
  obtain ⟨y, cb, maxL, rt, n, hy, w1, w2, w4, w5, w7⟩ := xcl_ok hc
  have hmx : xml k = maxL := by simp [xml, hy]
  rw [hmx] at hlo
  have hlen : As.length = if kd = 0 then n else n + 1 := by rw [hAs]; simp [xarg, hy]
  unfold xMet at hM
  rw [hy] at hM
  intro H locs ls hR hL hls
  subst hst
  have hG : GoodIn xtb (Jvm.Cond.code y cb maxL rt :: xtb) := xtb_goodIn (ws := []) w1 (fun w h => by cases h)
  have hRoom : (xrm k mc ms).frames + 1 ≤ R.frames ∧ 8 + (maxL + 11) + (xrm k mc ms).locals ≤ R.locals := ⟨hfr, by show 8 + (maxL + 11) + xlo k ≤ _; omega⟩
  have hmono : 2 * (F0 m pc ls ((As.reverse ++ rest).map xv)).monitorRoom + ((rest.map xv).map fun v => v.category).sum ≤ 8 := by rw [xsum]; show 2 * 0 + _ ≤ 8; omega
  have hPre : ∀ U : State, U.heap = H → s.WarmedH U.vm → xPc D n0 As S (As.map xv).toArray U := fun U hU hW => ⟨rfl, by rw [hU]; exact hR.moved hW.alike, va_K.moved hW.alike hK, va_Nw.warmM hW hNw.1, fun C hC => (hNw.2 C hC).moved hW.alike⟩
  refine x_after (D := D) (Qr := Qr) (mc := mc) (ms := ms) (rest := rest.map xv) (a := (As.map xv).toArray) ?_ hL (fun r S' H1 locs1 hq hR1 hL1 => ?_)
  · rcases kd with _ | _ | _ | kd
    · obtain ⟨w3, w7⟩ := w7
      exact va_runS (cc := cc) (nL := c.maxLocals) (Ts := xtb) (own := xnm own) (As := As.map xv) ⟨hx, hb, rfl, hown, hts⟩ hM (va_cwS n hts (xtb_goodIn (ws := [.methodLink (xnm own) idx y, .static y, .initialized y.cls]) w1 (by intro w h; simp at h; rcases h with rfl | rfl | rfl; exact w3; exact w7; exact w2)) rfl rfl rfl ⟨w4.1, w4.2, w5⟩ hRoom) ⟨xPc_blind D n0 As S, hPre⟩ rfl (by simpa using hlen) hls.1.1 (by simp) hmono hd ⟨hcs, hsl⟩
    · obtain ⟨w3, u1, u2, u3⟩ := w7
      rcases hrec with h | ⟨b, t, rfl, hcb⟩
      · exact absurd h (by decide)
      obtain ⟨q, hq, hqn⟩ := Option.map_eq_some_iff.mp u3
      have hcell : ∃ cell : Cell, H[b]? = some cell ∧ cell.vm.isStatics = false ∧ s.vm.findClass y.cls = some cell.cls := by
        obtain ⟨cell, q1, q2, q3, -⟩ := hR.2.2.2.1 b cj q (hcb rfl) hq
        exact ⟨cell, q1, by rw [q3]; rfl, by rw [q2, ← hqn]; exact (hK.1 cj q hq).2.1⟩
      exact va_runV (cc := cc) (nL := c.maxLocals) (Ts := xtb) (own := xnm own) (C := y.cls) (b := b) (As := t.map xv) ⟨hx, hb, rfl, hown, hts⟩ hM (cwV n hts (xtb_goodIn (ws := [.methodLink (xnm own) idx y, .instanceMethod y, .selects y.cls y y, .initialized y.cls]) w1 (by intro w h; simp at h; rcases h with rfl | rfl | rfl | rfl; exact w3; exact u1; exact u2; exact w2)) rfl rfl rfl ⟨rfl, w4.1, w4.2, w5⟩ hRoom) ⟨xPc_blind D n0 _ S, hcell, hPre⟩ rfl (by simpa using hlen) hls.1.1 (by simp [xv, va_rf]) hmono hd ⟨hcs, hsl⟩
    · obtain ⟨w3, u1, u2, rfl⟩ := w7
      rcases hrec with h | ⟨b, t, rfl, hcb⟩
      · exact absurd h (by omega)
      exact va_runI (cc := cc) (nL := c.maxLocals) (Ts := xtb) (own := xnm own) (b := b) (As := t.map xv) ⟨hx, hb, rfl, hown, hts⟩ hM (cwI n hts hG rfl rfl rfl (hts _ w2) (hts _ w3) (hts _ u1) u2 ⟨w4.1, w4.2, w5⟩ hRoom) ⟨xPc_blind D n0 _ S, hPre⟩ rfl (by simpa using hlen) hls.1.1 (by simp [xv, va_rf]) hmono hd ⟨hcs, hsl⟩
    · obtain ⟨w3, u1, u2, rfl⟩ := w7
      rcases hrec with h | ⟨b, t, rfl, hcb⟩
      · exact absurd h (by omega)
      have hNw' : va_Nw (.methodLinkNest (xnm own) idx y (xnm 3)) s := by
        have h9 := hNw.1
        rw [w3] at h9
        exact h9
      exact va_runIN (cc := cc) (nL := c.maxLocals) (Ts := xtb) (own := xnm own) (host := xnm 3) (b := b) (As := t.map xv) ⟨hx, hb, rfl, hown, hts⟩ hM ⟨va_cnB n hts hG rfl rfl rfl hNw' (hts _ w2) ⟨w4.1, w4.2, w5⟩ hRoom, u2, hts _ u1⟩ ⟨xPc_blind D n0 _ S, hPre⟩ rfl (by simpa using hlen) hls.1.1 (by simp [xv, va_rf]) hmono hd ⟨hcs, hsl⟩
  · have h1 := kk r S' hq H1 locs1 ls hR1 hL1 hls
    rw [show List.map xv (r.toList ++ rest) = (r.map xv).toList ++ rest.map xv by cases r <;> simp] at h1
    exact h1
end XCALL
/-- V is closed under the steps of the code cc of class own, and under its calls -/
def xCl (l : Launch) (D : va_G) (n0 own : Nat) (cc : ByteArray) (ini : Bool) (ret : Option FieldType) (R : Room) (V : xKt) (E : xEt) : Prop :=
  (∀ pc lv st S cs sl i len, decode cc pc = .ok (i, len) → xstep own ini ret R i len pc lv st S cs sl V E → V pc lv st S cs sl) ∧
  (∀ pc lv lv' st S cs sl cs' sl', xle lv' lv → cs ≤ cs' → sl ≤ sl' → V pc lv' st S cs' sl' → V pc lv st S cs sl) ∧
  (∀ pc lv st S cs sl idx k kd cj mc ms As rest Qr, decode cc pc = .ok (xinv kd idx, 3) → xcl own idx = some (k, kd, cj) → st = As.reverse ++ rest → As.length = xarg k → (kd = 0 ∨ ∃ b t, As = .inr (.inr (some b)) :: t ∧ (kd = 1 → xc S b = cj + 1)) → (rest.map xcat).sum ≤ 8 →
    xMet l D n0 k mc ms As S Qr → xfr k + 1 ≤ R.frames → 19 + xml k + xlo k ≤ R.locals → cs + mc ≤ R.cells → sl + ms ≤ R.slots →
    (∀ (r : Option xVal) (S' : xS), Qr r S' → V (pc + 3) lv (r.toList ++ rest) S' (cs + mc) (sl + ms)) → V pc lv st S cs sl)
theorem xV_closed {p : Program} {l : Launch} {e : Env} {R : Room} {s : State} {m : MethodId} {args : Array Value} {below : List Frame} {meth : Method} {c : Code} {Q : State → Prop} {D : va_G} {n0 own : Nat} {cc : ByteArray} {ini : Bool} {ret : Option FieldType} {E : xEt}
    (C : xCx p s m args meth c D own cc ini ret) (hE : xEx p l e R s m args below meth c Q D n0 cc ret E) : xCl l D n0 own cc ini ret R (xV p l e R s m args below meth c Q D n0) E :=
  ⟨fun _ _ _ _ _ _ _ _ hd h => x_step C hE hd h,
   fun _ _ _ _ _ _ _ _ _ h1 h2 h3 k H locs ls hR hL hls => W.widen h2 h3 (k H locs ls hR hL (hls.le h1)),
   fun _ _ _ _ _ _ _ _ _ _ _ _ _ _ _ hd hc hst hAs hrec hsum hM h1 h2 h3 h4 kk => x_call C hd hc hst hAs hrec hsum hM h1 h2 h3 h4 kk⟩
theorem xCl.call {l : Launch} {D : va_G} {n0 own : Nat} {cc : ByteArray} {ini : Bool} {ret : Option FieldType} {R : Room} {V : xKt} {E : xEt} (hV : xCl l D n0 own cc ini ret R V E) {pc : Nat} {lv : List (Option xVal)} {st : List xVal} {S : xS} {cs sl idx k kd cj mc ms : Nat} {As : List xVal} (rest : List xVal) {Qr : Option xVal → xS → Prop}
    (hc : xcl own idx = some (k, kd, cj)) (hd : decode cc pc = .ok (xinv kd idx, 3)) (hM : xMet l D n0 k mc ms As S Qr) (hrec : kd = 0 ∨ ∃ b t, As = .inr (.inr (some b)) :: t ∧ (kd = 1 → xc S b = cj + 1)) (hst : st = As.reverse ++ rest) (hAs : As.length = xarg k) (hsum : (rest.map xcat).sum ≤ 8) (hR : xfr k + 1 ≤ R.frames ∧ 19 + xml k + xlo k ≤ R.locals) (hC : cs + mc ≤ R.cells ∧ sl + ms ≤ R.slots)
    (kk : ∀ (r : Option xVal) (S' : xS), Qr r S' → V (pc + 3) lv (r.toList ++ rest) S' (cs + mc) (sl + ms)) : V pc lv st S cs sl :=
  hV.2.2 pc lv st S cs sl idx k kd cj mc ms As rest Qr hd hc hst hAs hrec hsum hM hR.1 hR.2 hC.1 hC.2 kk
theorem xCl.weak {l : Launch} {D : va_G} {n0 own : Nat} {cc : ByteArray} {ini : Bool} {ret : Option FieldType} {R : Room} {V : xKt} {E : xEt} (hV : xCl l D n0 own cc ini ret R V E) {pc : Nat} {lv : List (Option xVal)} {st : List xVal} {S : xS} {cs sl : Nat} (lv' : List (Option xVal)) (hl : xle lv' lv) (k : V pc lv' st S cs sl) : V pc lv st S cs sl :=
  hV.2.1 pc lv lv' st S cs sl cs sl hl (Nat.le_refl _) (Nat.le_refl _) k
-- the locals at the entry
def xent : List xVal → List (Option xVal)
  | [] => []
  | .inr (.inl y) :: t => some (.inr (.inl y)) :: none :: xent t
  | v :: t => some v :: xent t
theorem xent_args : ∀ (As : List xVal) (i0 i : Nat) (v : xVal), (xent As)[i]? = some (some v) → (i0 + i, xv v) ∈ lv_args i0 (As.map xv)
  | [], i0, i, v, h => by simp [xent] at h
  | .inl x :: t, i0, i, v, h => by
    rw [List.map_cons, lv_args]
    cases i with
    | zero =>
      simp [xent] at h
      subst h
      exact List.mem_cons_self
    | succ i =>
      have h1 := xent_args t (i0 + 1) i v (by simpa [xent] using h)
      refine List.mem_cons_of_mem _ ?_
      rw [show i0 + (i + 1) = i0 + 1 + i by omega]
      exact h1
  | .inr (.inl y) :: t, i0, i, v, h => by
    rw [List.map_cons, lv_args]
    cases i with
    | zero =>
      simp [xent] at h
      subst h
      exact List.mem_cons_self
    | succ i =>
      cases i with
      | zero => simp [xent] at h
      | succ i =>
        have h1 := xent_args t (i0 + 2) i v (by simpa [xent] using h)
        refine List.mem_cons_of_mem _ ?_
        rw [show i0 + (i + 1 + 1) = i0 + 2 + i by omega]
        exact h1
  | .inr (.inr o) :: t, i0, i, v, h => by
    rw [List.map_cons, lv_args]
    cases i with
    | zero =>
      simp [xent] at h
      subst h
      exact List.mem_cons_self
    | succ i =>
      have h1 := xent_args t (i0 + 1) i v (by simpa [xent] using h)
      refine List.mem_cons_of_mem _ ?_
      rw [show i0 + (i + 1) = i0 + 1 + i by omega, show (xv (.inr (.inr o))).category = 1 from xcat_ok _]
      exact h1
theorem xent_len : ∀ (As : List xVal), (xent As).length = (lg_sl (As.map xv)).length
  | [] => rfl
  | .inl x :: t => by simp [xent, xent_len t, lg_sl, xv, Value.category]
  | .inr (.inl y) :: t => by simp [xent, xent_len t, lg_sl, xv, Value.category]
  | .inr (.inr o) :: t => by
    have := xent_len t
    cases o <;> simp [xent, this, lg_sl, xv, va_rf, Value.category]
theorem xent_Ls {As : List xVal} {maxL : Nat} (h : (xent As).length ≤ maxL) : xLs ((lg_sl (As.map xv) ++ List.replicate (maxL - (lg_sl (As.map xv)).length) Slot.unset).toArray) maxL (xent As ++ List.replicate (maxL - (xent As).length) none) := by
  have hl := lv_entry (As.map xv) (n := maxL) (by rw [← xent_len]; exact h)
  refine ⟨⟨hl.1, by simp; omega⟩, hl.2.1, fun i v hi => ?_⟩
  have h1 : (xent As)[i]? = some (some v) := by
    by_cases hz : i < (xent As).length
    · rw [List.getElem?_append_left hz] at hi
      exact hi
    · rw [List.getElem?_append_right (by omega)] at hi
      have := List.mem_of_getElem? hi
      simp at this
  have h2 := hl.2.2 _ (xent_args As 0 i v h1)
  simpa using h2
def xE (mc ms : Nat) (Qr : Option xVal → xS → Prop) : xEt := fun v S cs sl => cs ≤ mc ∧ sl ≤ ms ∧ Qr v S
theorem xMet.of {l : Launch} {D : va_G} {n0 k mc ms : Nat} {As : List xVal} {S : xS} {Qr : Option xVal → xS → Prop} {y : MethodName} {cc : ByteArray} {maxL : Nat} {ret : Option FieldType} {kd n own : Nat} {ini : Bool}
    (hk : xmi k = some (y, cc, maxL, ret, kd, n)) (hpl : plainFor y = true) (hown : y.cls = xnm own) (hini : ini = true → y.name = "<init>") (hlen : (xent As).length ≤ maxL)
    (body : ∀ V : xKt, xCl l D n0 own cc ini ret (xrm k mc ms) V (xE mc ms Qr) → V 0 (xent As ++ List.replicate (maxL - (xent As).length) none) [] S 0 0) : xMet l D n0 k mc ms As S Qr := by
  unfold xMet
  rw [hk]
  refine va_MetF (cc := cc) (maxL := maxL) (ret := ret) hpl rfl ?_
  intro p e s m args below meth c s₁ B hml hv
  obtain ⟨rfl, hR, hK, hNw⟩ := hv
  have hts := atoms_spec (ws := Jvm.Cond.code y cc maxL ret :: xtb) B.pre
  have hts' : ∀ w ∈ xtb, w.before (As.map xv).toArray s = true := fun w h => hts w (List.mem_cons_of_mem _ h)
  have hown' : s.vm.findClass (xnm own) = some m.cls := by rw [← hown]; exact findClass_of_methodNamed B.named
  have hlocks := B.notSynchronized
  have C : xCx p s m (As.map xv).toArray meth c D own cc ini ret := ⟨B.exec, B.bytes, hown', hts', hK, fun h => by rw [(name_of_methodNamed B.named B.method).1]; exact hini h, B.returns, hlocks, hNw⟩
  have hE : xEx p l e (headSpec (Jvm.Cond.code y cc maxL ret :: xtb) (xrm k mc ms)).room s m (As.map xv).toArray below meth c (MQ below (xQc D n0 Qr) (As.map xv).toArray s mc ms (fun q => n0 ≤ q)) D n0 cc ret (xE mc ms Qr) := by
    refine ⟨?_, ?_, ?_, ?_⟩
    · intro x S cs sl pc ls H locs hE hn hd hR hL
      obtain ⟨h1, h2, hq⟩ := hE
      obtain ⟨ty, hret, hnar⟩ := hn
      exact W.widen h1 h2 (W.zret B.exec B.bytes (by rw [B.returns, hret]) hnar (fun t ht hW => ⟨some (.inl x), S, rfl, by rw [ht]; exact hR.moved hW.alike, hq⟩) hL hd)
    · intro x S cs sl pc ls H locs hE hn hd hR hL
      obtain ⟨h1, h2, hq⟩ := hE
      exact W.widen h1 h2 (W.lret B.exec B.bytes (by rw [B.returns, hn]) (fun t ht hW => ⟨some (.inr (.inl x)), S, rfl, by rw [ht]; exact hR.moved hW.alike, hq⟩) hL hd)
    · intro x S cs sl pc ls H locs hE hn hd hR hL
      obtain ⟨h1, h2, hq⟩ := hE
      have hv : va_rf x = .null ∨ ∃ a, va_rf x = .ref a := by
        cases x with
        | none => exact Or.inl rfl
        | some a => exact Or.inr ⟨a, rfl⟩
      rcases hn with ⟨C, hn⟩ | ⟨t, hn⟩
      · exact W.widen h1 h2 (W.aret B.exec B.bytes (by rw [B.returns, hn]) (Or.inl ⟨C, rfl⟩) hv (fun t ht hW => ⟨some (.inr (.inr x)), S, rfl, by rw [ht]; exact hR.moved hW.alike, hq⟩) hL hd)
      · exact W.widen h1 h2 (W.aret B.exec B.bytes (by rw [B.returns, hn]) (Or.inr ⟨t, rfl⟩) hv (fun t ht hW => ⟨some (.inr (.inr x)), S, rfl, by rw [ht]; exact hR.moved hW.alike, hq⟩) hL hd)
    · intro S cs sl pc ls H locs hE hn hd hR hL
      obtain ⟨h1, h2, hq⟩ := hE
      exact W.widen h1 h2 (W.vret B.exec B.bytes (by rw [B.returns, hn]) (fun t ht hW => ⟨none, S, rfl, by rw [ht]; exact hR.moved hW.alike, hq⟩) hL hd)
  have hV := body _ (xV_closed C hE)
  rw [lg_entry_eq]
  exact hV s.heap [] _ hR (by simp) (by rw [hml]; exact xent_Ls hlen)
-- many steps: until a stop, a call, or the fuel's end
def xisc (i : Instr) : Bool := match i with
  | .invokestatic _ => true
  | .invokevirtual _ => true
  | _ => false
def xrun (own : Nat) (cc : ByteArray) (ini : Bool) (ret : Option FieldType) (R : Room) (stops : List Nat) (V : xKt) (E : xEt) : Nat → Except DecodeError (Instr × Nat) → xKt
  | 0, _, pc, lv, st, S, cs, sl => V pc lv st S cs sl
  | f + 1, .ok (i, len), pc, lv, st, S, cs, sl => if xisc i = true then V pc lv st S cs sl else xstep own ini ret R i len pc lv st S cs sl (fun pc' lv' st' S' cs' sl' => if pc' ∈ stops then V pc' lv' st' S' cs' sl' else xrun own cc ini ret R stops V E f (decode cc pc') pc' lv' st' S' cs' sl') E
  | _ + 1, .error _, _, _, _, _, _, _ => False
end
section
theorem xcmp_mono {c : ClassFile.Cond} {x y : Int32} {A A' B B' : Prop} (ha : A → A') (hb : B → B') (h : xcmp c x y A B) : xcmp c x y A' B' := by
  cases c <;> exact And.intro (fun z => ha (And.left h z)) (fun z => hb (And.right h z))
theorem xacmp_mono {c : ClassFile.ACond} {x y : Option Nat} {A A' B B' : Prop} (ha : A → A') (hb : B → B') (h : xacmp c x y A B) : xacmp c x y A' B' := by
  cases c <;> exact And.intro (fun z => ha (And.left h z)) (fun z => hb (And.right h z))
theorem xsw_mono {x : Int} {pc : Nat} {K K' : Nat → Prop} (hK : ∀ t, K t → K' t) : ∀ (offs : List Int) (lo : Int), xsw x pc K offs lo → xsw x pc K' offs lo
  | [], _, _ => trivial
  | _ :: t, lo, h => ⟨fun z => ⟨(h.1 z).1, hK _ (h.1 z).2⟩, xsw_mono hK t (lo + 1) h.2⟩
theorem xlk_mono {x : Int} {pc : Nat} {K K' : Nat → Prop} {d : Int} (hK : ∀ t, K t → K' t) : ∀ (ps : List (Int × Int)), xlk x pc K d ps → xlk x pc K' d ps
  | [], h => ⟨h.1, hK _ h.2⟩
  | _ :: t, h => ⟨fun z => ⟨(h.1 z).1, hK _ (h.1 z).2⟩, fun z => xlk_mono hK t (h.2 z)⟩
set_option maxHeartbeats 4000000 in
set_option maxRecDepth 100000 in
theorem xstep_mono {own : Nat} {ini : Bool} {ret : Option FieldType} {R : Room} {i : Instr} {len pc : Nat} {lv : List (Option xVal)} {st : List xVal} {S : xS} {cs sl : Nat} {K K' : xKt} {E : xEt} (hK : ∀ pc lv st S cs sl, K pc lv st S cs sl → K' pc lv st S cs sl)
    (h : xstep own ini ret R i len pc lv st S cs sl K E) : xstep own ini ret R i len pc lv st S cs sl K' E := by
  cases i
  case aconst_null => exact And.intro (And.left h) (hK _ _ _ _ _ _ (And.right h))
  case iconst n => exact And.intro (And.left h) (hK _ _ _ _ _ _ (And.right h))
  case bipush n => exact And.intro (And.left h) (hK _ _ _ _ _ _ (And.right h))
  case sipush n => exact And.intro (And.left h) (hK _ _ _ _ _ _ (And.right h))
  case lconst n => exact And.intro (And.left h) (hK _ _ _ _ _ _ (And.right h))
  case ldc n =>
    simp only [xstep] at h ⊢
    split at h
    · exact And.intro h.1 (hK _ _ _ _ _ _ h.2)
    · exact False.elim h
  case ldc2_w n =>
    simp only [xstep] at h ⊢
    split at h
    · exact And.intro h.1 (hK _ _ _ _ _ _ h.2)
    · exact False.elim h
  case iload n =>
    simp only [xstep] at h ⊢
    split at h
    · exact And.intro h.1 (hK _ _ _ _ _ _ h.2)
    · exact False.elim h
  case iload_n n =>
    simp only [xstep] at h ⊢
    split at h
    · exact And.intro h.1 (hK _ _ _ _ _ _ h.2)
    · exact False.elim h
  case lload n =>
    simp only [xstep] at h ⊢
    split at h
    · exact And.intro h.1 (hK _ _ _ _ _ _ h.2)
    · exact False.elim h
  case lload_n n =>
    simp only [xstep] at h ⊢
    split at h
    · exact And.intro h.1 (hK _ _ _ _ _ _ h.2)
    · exact False.elim h
  case aload n =>
    simp only [xstep] at h ⊢
    split at h
    · exact And.intro h.1 (hK _ _ _ _ _ _ h.2)
    · exact False.elim h
  case aload_n n =>
    simp only [xstep] at h ⊢
    split at h
    · exact And.intro h.1 (hK _ _ _ _ _ _ h.2)
    · exact False.elim h
  case new n =>
    simp only [xstep] at h ⊢
    split at h
    · exact And.intro h.1 (And.intro h.2.1 (And.intro h.2.2.1 (hK _ _ _ _ _ _ h.2.2.2)))
    · exact False.elim h
  case iinc n w =>
    simp only [xstep] at h ⊢
    split at h
    · exact And.intro h.1 (And.intro h.2.1 (And.intro h.2.2.1 (hK _ _ _ _ _ _ h.2.2.2)))
    · exact False.elim h
  case istore n => rcases st with _ | ⟨x | x | x, r⟩ <;> first | exact False.elim h | exact And.intro (And.left h) (And.intro (And.left (And.right h)) (And.intro (And.left (And.right (And.right h))) (hK _ _ _ _ _ _ (And.right (And.right (And.right h))))))
  case istore_n n => rcases st with _ | ⟨x | x | x, r⟩ <;> first | exact False.elim h | exact And.intro (And.left h) (And.intro (And.left (And.right h)) (And.intro (And.left (And.right (And.right h))) (hK _ _ _ _ _ _ (And.right (And.right (And.right h))))))
  case astore n => rcases st with _ | ⟨x | x | x, r⟩ <;> first | exact False.elim h | exact And.intro (And.left h) (And.intro (And.left (And.right h)) (And.intro (And.left (And.right (And.right h))) (hK _ _ _ _ _ _ (And.right (And.right (And.right h))))))
  case astore_n n => rcases st with _ | ⟨x | x | x, r⟩ <;> first | exact False.elim h | exact And.intro (And.left h) (And.intro (And.left (And.right h)) (And.intro (And.left (And.right (And.right h))) (hK _ _ _ _ _ _ (And.right (And.right (And.right h))))))
  case lstore n => rcases st with _ | ⟨x | x | x, r⟩ <;> first | exact False.elim h | exact And.intro (And.left h) (And.intro (And.left (And.right h)) (And.intro (And.left (And.right (And.right h))) (hK _ _ _ _ _ _ (And.right (And.right (And.right h))))))
  case lstore_n n => rcases st with _ | ⟨x | x | x, r⟩ <;> first | exact False.elim h | exact And.intro (And.left h) (And.intro (And.left (And.right h)) (And.intro (And.left (And.right (And.right h))) (hK _ _ _ _ _ _ (And.right (And.right (And.right h))))))
  case iadd => rcases st with _ | ⟨y | y | y, _ | ⟨x | x | x, r⟩⟩ <;> first | exact False.elim h | exact And.intro (And.left h) (hK _ _ _ _ _ _ (And.right h))
  case isub => rcases st with _ | ⟨y | y | y, _ | ⟨x | x | x, r⟩⟩ <;> first | exact False.elim h | exact And.intro (And.left h) (hK _ _ _ _ _ _ (And.right h))
  case imul => rcases st with _ | ⟨y | y | y, _ | ⟨x | x | x, r⟩⟩ <;> first | exact False.elim h | exact And.intro (And.left h) (hK _ _ _ _ _ _ (And.right h))
  case iand => rcases st with _ | ⟨y | y | y, _ | ⟨x | x | x, r⟩⟩ <;> first | exact False.elim h | exact And.intro (And.left h) (hK _ _ _ _ _ _ (And.right h))
  case ior => rcases st with _ | ⟨y | y | y, _ | ⟨x | x | x, r⟩⟩ <;> first | exact False.elim h | exact And.intro (And.left h) (hK _ _ _ _ _ _ (And.right h))
  case ixor => rcases st with _ | ⟨y | y | y, _ | ⟨x | x | x, r⟩⟩ <;> first | exact False.elim h | exact And.intro (And.left h) (hK _ _ _ _ _ _ (And.right h))
  case ishl => rcases st with _ | ⟨y | y | y, _ | ⟨x | x | x, r⟩⟩ <;> first | exact False.elim h | exact And.intro (And.left h) (hK _ _ _ _ _ _ (And.right h))
  case ishr => rcases st with _ | ⟨y | y | y, _ | ⟨x | x | x, r⟩⟩ <;> first | exact False.elim h | exact And.intro (And.left h) (hK _ _ _ _ _ _ (And.right h))
  case iushr => rcases st with _ | ⟨y | y | y, _ | ⟨x | x | x, r⟩⟩ <;> first | exact False.elim h | exact And.intro (And.left h) (hK _ _ _ _ _ _ (And.right h))
  case ladd => rcases st with _ | ⟨y | y | y, _ | ⟨x | x | x, r⟩⟩ <;> first | exact False.elim h | exact And.intro (And.left h) (hK _ _ _ _ _ _ (And.right h))
  case lsub => rcases st with _ | ⟨y | y | y, _ | ⟨x | x | x, r⟩⟩ <;> first | exact False.elim h | exact And.intro (And.left h) (hK _ _ _ _ _ _ (And.right h))
  case lmul => rcases st with _ | ⟨y | y | y, _ | ⟨x | x | x, r⟩⟩ <;> first | exact False.elim h | exact And.intro (And.left h) (hK _ _ _ _ _ _ (And.right h))
  case land => rcases st with _ | ⟨y | y | y, _ | ⟨x | x | x, r⟩⟩ <;> first | exact False.elim h | exact And.intro (And.left h) (hK _ _ _ _ _ _ (And.right h))
  case lxor => rcases st with _ | ⟨y | y | y, _ | ⟨x | x | x, r⟩⟩ <;> first | exact False.elim h | exact And.intro (And.left h) (hK _ _ _ _ _ _ (And.right h))
  case lshl => rcases st with _ | ⟨y | y | y, _ | ⟨x | x | x, r⟩⟩ <;> first | exact False.elim h | exact And.intro (And.left h) (hK _ _ _ _ _ _ (And.right h))
  case lshr => rcases st with _ | ⟨y | y | y, _ | ⟨x | x | x, r⟩⟩ <;> first | exact False.elim h | exact And.intro (And.left h) (hK _ _ _ _ _ _ (And.right h))
  case lcmp => rcases st with _ | ⟨y | y | y, _ | ⟨x | x | x, r⟩⟩ <;> first | exact False.elim h | exact And.intro (And.left h) (hK _ _ _ _ _ _ (And.right h))
  case idiv => rcases st with _ | ⟨y | y | y, _ | ⟨x | x | x, r⟩⟩ <;> first | exact False.elim h | exact And.intro (And.left h) (And.intro (And.left (And.right h)) (hK _ _ _ _ _ _ (And.right (And.right h))))
  case irem => rcases st with _ | ⟨y | y | y, _ | ⟨x | x | x, r⟩⟩ <;> first | exact False.elim h | exact And.intro (And.left h) (And.intro (And.left (And.right h)) (hK _ _ _ _ _ _ (And.right (And.right h))))
  case ldiv => rcases st with _ | ⟨y | y | y, _ | ⟨x | x | x, r⟩⟩ <;> first | exact False.elim h | exact And.intro (And.left h) (And.intro (And.left (And.right h)) (hK _ _ _ _ _ _ (And.right (And.right h))))
  case lrem => rcases st with _ | ⟨y | y | y, _ | ⟨x | x | x, r⟩⟩ <;> first | exact False.elim h | exact And.intro (And.left h) (And.intro (And.left (And.right h)) (hK _ _ _ _ _ _ (And.right (And.right h))))
  case ineg => rcases st with _ | ⟨x | x | x, r⟩ <;> first | exact False.elim h | exact And.intro (And.left h) (hK _ _ _ _ _ _ (And.right h))
  case lneg => rcases st with _ | ⟨x | x | x, r⟩ <;> first | exact False.elim h | exact And.intro (And.left h) (hK _ _ _ _ _ _ (And.right h))
  case i2l => rcases st with _ | ⟨x | x | x, r⟩ <;> first | exact False.elim h | exact And.intro (And.left h) (hK _ _ _ _ _ _ (And.right h))
  case l2i => rcases st with _ | ⟨x | x | x, r⟩ <;> first | exact False.elim h | exact And.intro (And.left h) (hK _ _ _ _ _ _ (And.right h))
  case dup => rcases st with _ | ⟨x | x | x, r⟩ <;> first | exact False.elim h | exact And.intro (And.left h) (hK _ _ _ _ _ _ (And.right h))
  case pop => rcases st with _ | ⟨x | x | x, r⟩ <;> first | exact False.elim h | exact And.intro (And.left h) (hK _ _ _ _ _ _ (And.right h))
  case dup_x1 => rcases st with _ | ⟨y, _ | ⟨x, r⟩⟩ <;> first | exact False.elim h | (obtain ⟨h1, h2, h3, k⟩ := h; exact And.intro h1 (And.intro h2 (And.intro h3 (hK _ _ _ _ _ _ k))))
  case dup_x2 => rcases st with _ | ⟨y, _ | ⟨x, _ | ⟨z, r⟩⟩⟩ <;> first | exact False.elim h | (obtain ⟨h1, h2, h3, h4, k⟩ := h; exact And.intro h1 (And.intro h2 (And.intro h3 (And.intro h4 (hK _ _ _ _ _ _ k)))))
  case dup2 => rcases st with _ | ⟨y, _ | ⟨x, r⟩⟩ <;> first | exact False.elim h | (obtain ⟨h1, h2, h3, k⟩ := h; exact And.intro h1 (And.intro h2 (And.intro h3 (hK _ _ _ _ _ _ k))))
  case goto off => obtain ⟨h1, h2, k⟩ := h; exact And.intro h1 (And.intro h2 (hK _ _ _ _ _ _ k))
  case ifCond c off => rcases st with _ | ⟨x | x | x, r⟩ <;> first | exact False.elim h | (obtain ⟨h1, h2, k⟩ := h; exact And.intro h1 (And.intro h2 (xcmp_mono (hK _ _ _ _ _ _) (hK _ _ _ _ _ _) k)))
  case if_icmp c off => rcases st with _ | ⟨y | y | y, _ | ⟨x | x | x, r⟩⟩ <;> first | exact False.elim h | (obtain ⟨h1, h2, k⟩ := h; exact And.intro h1 (And.intro h2 (xcmp_mono (hK _ _ _ _ _ _) (hK _ _ _ _ _ _) k)))
  case if_acmp c off => rcases st with _ | ⟨y | y | y, _ | ⟨x | x | x, r⟩⟩ <;> first | exact False.elim h | (obtain ⟨h1, h2, k⟩ := h; exact And.intro h1 (And.intro h2 (xacmp_mono (hK _ _ _ _ _ _) (hK _ _ _ _ _ _) k)))
  case ifnull off => rcases st with _ | ⟨x | x | x, r⟩ <;> first | exact False.elim h | (obtain ⟨h1, h2, k1, k2⟩ := h; exact And.intro h1 (And.intro h2 (And.intro (fun z => hK _ _ _ _ _ _ (k1 z)) (fun z => hK _ _ _ _ _ _ (k2 z)))))
  case ifnonnull off => rcases st with _ | ⟨x | x | x, r⟩ <;> first | exact False.elim h | (obtain ⟨h1, h2, k1, k2⟩ := h; exact And.intro h1 (And.intro h2 (And.intro (fun z => hK _ _ _ _ _ _ (k1 z)) (fun z => hK _ _ _ _ _ _ (k2 z)))))
  case tableswitch d lo hi offs => rcases st with _ | ⟨x | x | x, r⟩ <;> first | exact False.elim h | (obtain ⟨h1, k1, k2⟩ := h; exact And.intro h1 (And.intro (fun z => ⟨(k1 z).1, hK _ _ _ _ _ _ (k1 z).2⟩) (xsw_mono (fun t k => hK _ _ _ _ _ _ k) _ _ k2)))
  case lookupswitch d ps => rcases st with _ | ⟨x | x | x, r⟩ <;> first | exact False.elim h | (obtain ⟨h1, k1⟩ := h; exact And.intro h1 (xlk_mono (fun t k => hK _ _ _ _ _ _ k) _ k1))
  case getfield n =>
    rcases st with _ | ⟨x | x | x, r⟩ <;> first | exact False.elim h | (simp only [xstep] at h ⊢; split at h; (obtain ⟨h1, a, h2, h3, k⟩ := h; exact And.intro h1 ⟨a, h2, h3, hK _ _ _ _ _ _ k⟩); exact False.elim h)
  case putfield n =>
    rcases st with _ | ⟨y | y | y, _ | ⟨x | x | x, r⟩⟩ <;> first | exact False.elim h | (simp only [xstep] at h ⊢; split at h; (obtain ⟨h1, h2, h3, a, h4, h5, k⟩ := h; exact And.intro h1 (And.intro h2 (And.intro h3 ⟨a, h4, h5, hK _ _ _ _ _ _ k⟩))); exact False.elim h)
  case arraylength => rcases st with _ | ⟨x | x | x, r⟩ <;> first | exact False.elim h | (obtain ⟨h1, a, h2, h3, k⟩ := h; exact And.intro h1 ⟨a, h2, h3, hK _ _ _ _ _ _ k⟩)
  case iaload => rcases st with _ | ⟨y | y | y, _ | ⟨x | x | x, r⟩⟩ <;> first | exact False.elim h | (obtain ⟨h1, a, h2, h3, h4, k⟩ := h; exact And.intro h1 ⟨a, h2, h3, h4, hK _ _ _ _ _ _ k⟩)
  case aaload => rcases st with _ | ⟨y | y | y, _ | ⟨x | x | x, r⟩⟩ <;> first | exact False.elim h | (obtain ⟨h1, a, h2, h3, h4, k⟩ := h; exact And.intro h1 ⟨a, h2, h3, h4, hK _ _ _ _ _ _ k⟩)
  case baload => rcases st with _ | ⟨y | y | y, _ | ⟨x | x | x, r⟩⟩ <;> first | exact False.elim h | (obtain ⟨h1, a, h2, h3, h4, k⟩ := h; exact And.intro h1 ⟨a, h2, h3, h4, hK _ _ _ _ _ _ k⟩)
  case bastore => rcases st with _ | ⟨y | y | y, _ | ⟨x | x | x, _ | ⟨z | z | z, r⟩⟩⟩ <;> first | exact False.elim h | (obtain ⟨h1, a, h2, h3, h4, h5, k⟩ := h; exact And.intro h1 ⟨a, h2, h3, h4, h5, hK _ _ _ _ _ _ k⟩)
  case iastore => rcases st with _ | ⟨y | y | y, _ | ⟨x | x | x, _ | ⟨z | z | z, r⟩⟩⟩ <;> first | exact False.elim h | (obtain ⟨h1, a, h2, h3, h4, h5, k⟩ := h; exact And.intro h1 ⟨a, h2, h3, h4, h5, hK _ _ _ _ _ _ k⟩)
  case aastore => rcases st with _ | ⟨y | y | y, _ | ⟨x | x | x, _ | ⟨z | z | z, r⟩⟩⟩ <;> first | exact False.elim h | (obtain ⟨h1, a, b, ci, q, h2, h3, h4, h5, h6, h7, k⟩ := h; exact And.intro h1 ⟨a, b, ci, q, h2, h3, h4, h5, h6, h7, hK _ _ _ _ _ _ k⟩)
  case newarray t =>
    rcases st with _ | ⟨x | x | x, r⟩ <;> first | exact False.elim h | (simp only [xstep] at h ⊢; split at h; (obtain ⟨h1, h2, h3, h4, h5, k⟩ := h; exact And.intro h1 ⟨h2, h3, h4, h5, hK _ _ _ _ _ _ k⟩); exact False.elim h)
  case anewarray n =>
    rcases st with _ | ⟨x | x | x, r⟩ <;> first | exact False.elim h | (simp only [xstep] at h ⊢; split at h; (obtain ⟨h1, h2, h3, h4, h5, k⟩ := h; exact And.intro h1 ⟨h2, h3, h4, h5, hK _ _ _ _ _ _ k⟩); exact False.elim h)
  case invokespecial n => rcases st with _ | ⟨x | x | x, r⟩ <;> first | exact False.elim h | (obtain ⟨h1, h2, h3, h4, h5, k⟩ := h; exact And.intro h1 ⟨h2, h3, h4, h5, hK _ _ _ _ _ _ k⟩)
  case ireturn => exact h
  case lreturn => exact h
  case areturn => exact h
  case return_ => exact h
  all_goals exact False.elim h
theorem xrun_ok {l : Launch} {D : va_G} {n0 own : Nat} {cc : ByteArray} {ini : Bool} {ret : Option FieldType} {R : Room} {V : xKt} {E : xEt} (hV : xCl l D n0 own cc ini ret R V E) (stops : List Nat) : ∀ (f pc : Nat) (lv : List (Option xVal)) (st : List xVal) (S : xS) (cs sl : Nat), xrun own cc ini ret R stops V E f (decode cc pc) pc lv st S cs sl → V pc lv st S cs sl
  | 0, _, _, _, _, _, _, h => h
  | f + 1, pc, lv, st, S, cs, sl, h => by
    cases hd : decode cc pc with
    | error z => rw [hd] at h; exact False.elim h
    | ok q =>
      obtain ⟨i, len⟩ := q
      rw [hd] at h
      unfold xrun at h
      split at h
      · exact h
      · refine hV.1 pc lv st S cs sl i len hd (xstep_mono (fun pc' lv' st' S' cs' sl' h' => ?_) h)
        split at h'
        · exact h'
        · exact xrun_ok hV stops f pc' lv' st' S' cs' sl' h'
end
section
/-! NUMBERS that the code writes -/
theorem xli_m1 : Int32.ofInt (-1) = (-1 : Int32) := by decide +kernel
theorem xli_0 : Int32.ofInt (0) = (0 : Int32) := by decide +kernel
theorem xli_1 : Int32.ofInt (1) = (1 : Int32) := by decide +kernel
theorem xli_2 : Int32.ofInt (2) = (2 : Int32) := by decide +kernel
theorem xli_3 : Int32.ofInt (3) = (3 : Int32) := by decide +kernel
theorem xli_4 : Int32.ofInt (4) = (4 : Int32) := by decide +kernel
theorem xli_5 : Int32.ofInt (5) = (5 : Int32) := by decide +kernel
theorem xlb_8 : (Int8.ofInt (8)).toInt32 = (8 : Int32) := by decide +kernel
theorem xlb_12 : (Int8.ofInt (12)).toInt32 = (12 : Int32) := by decide +kernel
theorem xlb_31 : (Int8.ofInt (31)).toInt32 = (31 : Int32) := by decide +kernel
theorem xlb_32 : (Int8.ofInt (32)).toInt32 = (32 : Int32) := by decide +kernel
theorem xlb_64 : (Int8.ofInt (64)).toInt32 = (64 : Int32) := by decide +kernel
theorem xls_256 : (Int16.ofInt (256)).toInt32 = (256 : Int32) := by decide +kernel
theorem xls_513 : (Int16.ofInt (513)).toInt32 = (513 : Int32) := by decide +kernel
theorem xls_2048 : (Int16.ofInt (2048)).toInt32 = (2048 : Int32) := by decide +kernel
theorem xls_4096 : (Int16.ofInt (4096)).toInt32 = (4096 : Int32) := by decide +kernel
theorem xll_0 : Int64.ofNat ((0 : Fin 2) : Nat) = (0 : Int64) := by decide +kernel
theorem xll_1 : Int64.ofNat ((1 : Fin 2) : Nat) = (1 : Int64) := by decide +kernel
theorem xnr_i (x : Int32) : narrow .int (.int x) = .int x := rfl
theorem xnr_0 : narrow .boolean (.int 0) = .int 0 := by decide +kernel
theorem xnr_1 : narrow .boolean (.int 1) = .int 1 := by decide +kernel
theorem xnr_ite (c : Prop) [Decidable c] : narrow .boolean (.int (if c then 1 else 0)) = .int (if c then 1 else 0) := by split <;> decide +kernel
theorem xft_i (x : Int32) : xfit .int x := ⟨rfl, rfl, rfl⟩
theorem xft_0 : xfit .boolean 0 := ⟨by decide +kernel, by decide +kernel, by decide +kernel⟩
theorem xft_1 : xfit .boolean 1 := ⟨by decide +kernel, by decide +kernel, by decide +kernel⟩
theorem xat_999 : xat 999 = some .int := rfl
theorem xat_1001 : xat 1001 = some .int := rfl
theorem xat_1002 : xat 1002 = some .int := rfl
theorem xat_1003 : xat 1003 = some .boolean := rfl
theorem xat_2001 : xat 2001 = some (.object "ShrinkLayout$Part") := rfl
theorem xat_2002 : xat 2002 = some (.object "ShrinkLayout$Piece") := rfl
theorem xat_2003 : xat 2003 = some (.object "ShrinkLayout$Label") := rfl
-- numbers
theorem xpow_le {p : Nat} (h : p ≤ 12) : 2 ^ p ≤ 4096 := Nat.pow_le_pow_right (by decide) h
theorem xshl_m1 : ∀ p, p < 13 → ((1 : Int32) <<< (nI p &&& 31) - 1).toBitVec.toNat = 2 ^ p - 1 := by decide +kernel
theorem xshl : ∀ p, p < 13 → (1 : Int32) <<< (nI p &&& 31) = nI (2 ^ p) := by decide +kernel
theorem xneg_toNat {x : Nat} (h : x < 2 ^ 31) : (-(nI x)).toBitVec.toNat = (2 ^ 32 - x) % 2 ^ 32 := by
  rw [Int32.toBitVec_neg, BitVec.toNat_neg, pk_tn (by omega)]
theorem xI32le (x y : Int32) : (x ≤ y) = (x.toInt ≤ y.toInt) := propext Int32.le_iff_toInt_le
theorem xI32lt (x y : Int32) : (x < y) = (x.toInt < y.toInt) := propext Int32.lt_iff_toInt_lt
theorem xI64le (x y : Int64) : (x ≤ y) = (x.toInt ≤ y.toInt) := propext Int64.le_iff_toInt_le
theorem xI64lt (x y : Int64) : (x < y) = (x.toInt < y.toInt) := propext Int64.lt_iff_toInt_lt
theorem xtn_4 : Int32.toNatClampNeg 4 = 4 := by decide +kernel
theorem xtn_32 : Int32.toNatClampNeg 32 = 32 := by decide +kernel
theorem xtn_64 : Int32.toNatClampNeg 64 = 64 := by decide +kernel
theorem xtn_256 : Int32.toNatClampNeg 256 = 256 := by decide +kernel
theorem xlt_s {a n : Nat} (h : a < n) : (a < n + 1) = True := by simp; omega
theorem xc_mk_lt {S : xS} {t n a : Nat} (h : a < xn S) : xc (xmk S t n) a = xc S a := by rw [xc_mk, if_neg (Nat.ne_of_lt h)]
-- cells that a constructor makes: field, tag, length
def mkA : xS → Nat → List (Nat × Nat × Nat) → xS
  | S, _, [] => S
  | S, a, q :: L => mkA (xpr (xmk S q.2.1 q.2.2) a q.1 (some (xn S))) a L
theorem mkA_n : ∀ (L : List (Nat × Nat × Nat)) (S : xS) (a : Nat), xn (mkA S a L) = xn S + L.length
  | [], S, a => rfl
  | q :: L, S, a => by rw [mkA, mkA_n L]; simp only [xn_pr, xn_mk, List.length_cons]; omega
theorem mkA_old : ∀ (L : List (Nat × Nat × Nat)) (S : xS) (a b : Nat), b < xn S → xc (mkA S a L) b = xc S b ∧ xl (mkA S a L) b = xl S b ∧ (∀ k, xi (mkA S a L) b k = xi S b k) ∧ (b ≠ a → ∀ k, xr (mkA S a L) b k = xr S b k)
  | [], S, a, b, h => ⟨rfl, rfl, fun _ => rfl, fun _ _ => rfl⟩
  | q :: L, S, a, b, h => by
    obtain ⟨h1, h2, h3, h4⟩ := mkA_old L (xpr (xmk S q.2.1 q.2.2) a q.1 (some (xn S))) a b (by rw [xn_pr, xn_mk]; omega)
    have hne : b ≠ xn S := Nat.ne_of_lt h
    refine ⟨?_, ?_, fun k => ?_, fun hb k => ?_⟩
    · rw [mkA, h1, xc_pr, xc_mk, if_neg hne]
    · rw [mkA, h2, xl_pr, xl_mk, if_neg hne]
    · rw [mkA, h3, xi_pr, xi_mk, if_neg hne]
    · rw [mkA, h4 hb, xr_pr, if_neg (fun z => hb z.1), xr_mk, if_neg hne]
theorem mkA_this : ∀ (L : List (Nat × Nat × Nat)) (S : xS) (a : Nat), a < xn S → (∀ (i : Nat) (q : Nat × Nat × Nat), L[i]? = some q → (∀ (j : Nat) (q' : Nat × Nat × Nat), L[j]? = some q' → q'.1 = q.1 → j = i) → xr (mkA S a L) a q.1 = some (xn S + i)) ∧ ∀ f, (∀ q ∈ L, q.1 ≠ f) → xr (mkA S a L) a f = xr S a f
  | [], S, a, h => ⟨fun i q hq => by simp at hq, fun f _ => rfl⟩
  | q :: L, S, a, h => by
    obtain ⟨h1, h2⟩ := mkA_this L (xpr (xmk S q.2.1 q.2.2) a q.1 (some (xn S))) a (by rw [xn_pr, xn_mk]; omega)
    refine ⟨fun i r hr hu => ?_, fun f hf => ?_⟩
    · rw [mkA]
      cases i with
      | zero =>
        simp at hr
        subst hr
        rw [h2 q.1 (fun q' hq' => ?_), xr_pr, if_pos ⟨rfl, rfl⟩]
        · simp
        · intro e
          obtain ⟨j, hj⟩ := List.getElem?_of_mem hq'
          have := hu (j + 1) q' (by simpa using hj) e
          omega
      | succ i =>
        rw [h1 i r (by simpa using hr) (fun j q' hj e => ?_), xn_pr, xn_mk]
        · congr 1; omega
        · have := hu (j + 1) q' (by simpa using hj) e
          omega
    · rw [mkA, h2 f (fun q' hq' => hf q' (List.mem_cons_of_mem _ hq')), xr_pr, if_neg (fun z => hf q List.mem_cons_self z.2.symm), xr_mk, if_neg (Nat.ne_of_lt h)]
theorem mkA_new : ∀ (L : List (Nat × Nat × Nat)) (S : xS) (a : Nat), a < xn S → ∀ (i : Nat) (q : Nat × Nat × Nat), L[i]? = some q → xc (mkA S a L) (xn S + i) = q.2.1 ∧ xl (mkA S a L) (xn S + i) = q.2.2 ∧ (∀ k, xi (mkA S a L) (xn S + i) k = 0) ∧ ∀ k, xr (mkA S a L) (xn S + i) k = none
  | [], S, a, h, i, q, hq => by simp at hq
  | q :: L, S, a, h, i, r, hr => by
    cases i with
    | zero =>
      simp at hr
      subst hr
      have hne : xn S ≠ a := Ne.symm (Nat.ne_of_lt h)
      obtain ⟨h1, h2, h3, h4⟩ := mkA_old L (xpr (xmk S q.2.1 q.2.2) a q.1 (some (xn S))) a (xn S) (by rw [xn_pr, xn_mk]; omega)
      refine ⟨?_, ?_, fun k => ?_, fun k => ?_⟩
      · rw [mkA, Nat.add_zero, h1, xc_pr, xc_mk, if_pos rfl]
      · rw [mkA, Nat.add_zero, h2, xl_pr, xl_mk, if_pos rfl]
      · rw [mkA, Nat.add_zero, h3, xi_pr, xi_mk, if_pos rfl]
      · rw [mkA, Nat.add_zero, h4 hne, xr_pr, if_neg (fun z => hne z.1), xr_mk, if_pos rfl]
    | succ i =>
      have := mkA_new L (xpr (xmk S q.2.1 q.2.2) a q.1 (some (xn S))) a (by rw [xn_pr, xn_mk]; omega) i r (by simpa using hr)
      rw [xn_pr, xn_mk] at this
      rw [mkA, show xn S + (i + 1) = xn S + 1 + i by omega]
      exact this
theorem xrm_c (k mc ms : Nat) : (xrm k mc ms).cells = mc := rfl
theorem xrm_s (k mc ms : Nat) : (xrm k mc ms).slots = ms := rfl
theorem xnl_4 : ((4 : Int32) < 0) = False := by decide +kernel
theorem xnl_32 : ((32 : Int32) < 0) = False := by decide +kernel
theorem xnl_64 : ((64 : Int32) < 0) = False := by decide +kernel
theorem xnl_256 : ((256 : Int32) < 0) = False := by decide +kernel
theorem x10 : ((1 : Int32) = 0) = False := by decide +kernel
theorem x01 : ((0 : Int32) = 1) = False := by decide +kernel
theorem xfn_0 : ((0 : Fin 4) : Nat) = 0 := rfl
theorem xfn_1 : ((1 : Fin 4) : Nat) = 1 := rfl
theorem xfn_2 : ((2 : Fin 4) : Nat) = 2 := rfl
theorem xfn_3 : ((3 : Fin 4) : Nat) = 3 := rfl
end
section
/-! THE MODEL: M f i, f by the numbers of the reference's fields: 0 base, 1 output's power, 4 parts, 5 a part's output, 6 its power, 7 root, 8 gone, 12 pieces, 13 sort, 14 part, 15 size, 16 most, 17 power, 18 label, 19 constant (its 32 bits), 20 two, 21 fixed, 25 labels, 26 a label's piece and 1 (0: none), 27 spot -/
abbrev mT : Type := Nat → Nat → Nat
def mset (M : mT) (f i v : Nat) : mT := fun g j => if g = f ∧ j = i then v else M g j
theorem mset_eq (M : mT) (f i v g j : Nat) : mset M f i v g j = if g = f ∧ j = i then v else M g j := rfl
def mgr (s : Nat) : Nat := if s = 1 then 8 else 4
def maim (M : mT) (k : Nat) : Bool := decide (1 ≤ M 13 k) && decide (M 13 k < 4)
def mnot (M : mT) (k : Nat) : Bool := decide (M 8 (M 14 k) = 0)
-- bytes that lack to the next multiple of 2^p; the next multiple
def mpad (x p : Nat) : Nat := (2 ^ p - x % 2 ^ p) % 2 ^ p
def mup (x p : Nat) : Nat := x + mpad x p
-- the size of piece k at the place a
def msz (M : mT) (k a : Nat) : Nat := if M 13 k = 4 then min (mpad a (M 17 k)) (M 16 k) else M 15 k
-- where a part's pieces below k end, the part beginning at b
def mlay (M : mT) (p b : Nat) : Nat → Nat
  | 0 => b
  | k + 1 => if M 14 k = p then mlay M p b k + msz M k (mlay M p b k) else mlay M p b k
-- where an output's parts below p end, the output beginning at b
def mout (M : mT) (o b : Nat) : Nat → Nat
  | 0 => b
  | p + 1 => if M 5 p = o ∧ M 8 p = 0 then mlay M p (mup (mout M o b p) (M 6 p)) (M 12 0) else mout M o b p
-- where the outputs below o end; where output o begins and ends
def mend (M : mT) : Nat → Nat
  | 0 => M 0 0
  | o + 1 => mout M o (mup (mend M o) (M 1 o)) (M 4 0)
def mob (M : mT) (o : Nat) : Nat := mup (mend M o) (M 1 o)
def mpb (M : mT) (p : Nat) : Nat := mup (mout M (M 5 p) (mob M (M 5 p)) p) (M 6 p)
def mpe (M : mT) (p : Nat) : Nat := mlay M p (mpb M p) (M 12 0)
def mpl (M : mT) (k : Nat) : Nat := mlay M (M 14 k) (mpb M (M 14 k)) k
def msize (M : mT) (k : Nat) : Nat := msz M k (mpl M k)
-- has a label a value; the value
def mhv (M : mT) (l : Nat) : Bool := decide (M 26 l ≠ 0) && mnot M (M 26 l - 1)
def mval (M : mT) (l : Nat) : Nat := if M 13 (M 26 l - 1) = 0 ∨ M 27 l = 0 then mpl M (M 26 l - 1) + M 27 l else mpl M (M 26 l - 1) + msize M (M 26 l - 1)
def mcon (M : mT) (k : Nat) : Int := (nI (M 19 k)).toInt
def maimv (M : mT) (k : Nat) : Int := (mval M (M 18 k) : Int) + mcon M k
def mnear (x : Int) : Bool := decide (-2048 ≤ x) && decide (x ≤ 2047)
def mlc (d : Int) (two : Bool) : Nat := if two = true ∧ d % 2 = 0 ∧ mnear d = true then 2 else if d % 2 = 0 ∧ -1048576 ≤ d ∧ d ≤ 1048574 then 4 else 8
def mll (a gp : Int) (two : Bool) : Nat := if mnear a = true ∨ mnear (a - gp) = true then 0 else if two = true ∧ 4096 ≤ a + 2048 ∧ a + 2048 < 131072 then 2 else 4
def mhas (M : mT) (k : Nat) : Bool := maim M k && mhv M (M 18 k)
def mleast (M : mT) (k : Nat) : Nat := if maim M k = true then (if mhv M (M 18 k) = true then (if M 13 k = 1 then mlc (maimv M k - mpl M k) (decide (M 20 k = 1)) else mll (maimv M k) ((mob M 2 : Int) + 2048) (decide (M 20 k = 1))) else mgr (M 13 k)) else msize M k
/-- what always holds of a model's state -/
def mWF (M : mT) : Prop :=
  (M 0 0 ≤ 1048576 ∧ M 4 0 ≤ 32 ∧ M 12 0 ≤ 256 ∧ M 25 0 ≤ 64) ∧ (∀ o, o < 4 → M 1 o ≤ 12) ∧
  (∀ p, p < M 4 0 → M 5 p ≤ 3 ∧ M 6 p ≤ 12 ∧ M 7 p ≤ 1 ∧ M 8 p ≤ 1) ∧
  (∀ k, k < M 12 0 → M 13 k ≤ 4 ∧ M 14 k < M 4 0 ∧ M 20 k ≤ 1 ∧ M 21 k ≤ 1 ∧ M 19 k < 2 ^ 32 ∧ M 17 k ≤ 12) ∧
  (∀ k, k < M 12 0 → M 13 k = 0 → M 15 k = M 16 k ∧ M 16 k ≤ 4194304) ∧
  (∀ k, k < M 12 0 → maim M k = true → M 16 k = mgr (M 13 k) ∧ M 15 k ≤ mgr (M 13 k) ∧ M 18 k < M 25 0 ∧ (M 21 k = 1 → M 15 k = mgr (M 13 k)) ∧ (M 13 k = 3 → M 20 k = 0)) ∧
  (∀ k, k < M 12 0 → M 13 k = 4 → M 16 k ≤ 4096) ∧
  (∀ l, l < M 25 0 → M 26 l ≤ M 12 0 ∧ (M 26 l ≠ 0 → M 27 l ≤ if M 13 (M 26 l - 1) = 0 then M 16 (M 26 l - 1) else 1))
-- the first piece of part p from k on, among d more
def mnx (M : mT) (p : Nat) : Nat → Nat → Option Nat
  | _, 0 => none
  | k, d + 1 => if M 14 k = p then some k else mnx M p (k + 1) d
def mfirst (M : mT) (p : Nat) : Option Nat := mnx M p 0 (M 12 0)
def mnext (M : mT) (k : Nat) : Option Nat := mnx M (M 14 k) (k + 1) (M 12 0 - (k + 1))
-- the last piece of part p below k
def mla (M : mT) (p : Nat) : Nat → Option Nat
  | 0 => none
  | k + 1 => if M 14 k = p then some k else mla M p k
/-! THE CLASS holds the model -/
def rT (S : xS) (th : Nat) (ar : Nat → Nat) (M : mT) : Prop :=
  (xc S th = 4 ∧ th < xn S) ∧ (∀ f, f < 6 → xr S th f = some (ar f) ∧ ar f < xn S) ∧
  (xc S (ar 0) = 2001 ∧ xc S (ar 1) = 2002 ∧ xc S (ar 2) = 2003 ∧ xc S (ar 3) = 1001 ∧ xc S (ar 4) = 1001 ∧ xc S (ar 5) = 1001) ∧
  (xl S (ar 0) = 32 ∧ xl S (ar 1) = 256 ∧ xl S (ar 2) = 64 ∧ xl S (ar 3) = 4 ∧ xl S (ar 4) = 4 ∧ xl S (ar 5) = 4) ∧
  (ar 3 ≠ ar 4 ∧ ar 3 ≠ ar 5 ∧ ar 4 ≠ ar 5) ∧
  (xi S th 6 = nI (M 4 0) ∧ xi S th 7 = nI (M 12 0) ∧ xi S th 8 = nI (M 25 0) ∧ xi S th 9 = nI (M 0 0)) ∧
  ∀ o, o < 4 → xi S (ar 3) o = nI (M 1 o)
def rA (S : xS) (ar pa qa la : Nat → Nat) (M : mT) : Prop :=
  (∀ p, p < 32 → xr S (ar 0) p = if p < M 4 0 then some (pa p) else none) ∧
  (∀ k, k < 256 → xr S (ar 1) k = if k < M 12 0 then some (qa k) else none) ∧
  (∀ j, j < 64 → xr S (ar 2) j = if j < M 25 0 then some (la j) else none)
def rP (S : xS) (pa qa : Nat → Nat) (M : mT) (p : Nat) : Prop :=
  (xc S (pa p) = 2 ∧ pa p < xn S) ∧ (xi S (pa p) 0 = nI p ∧ xi S (pa p) 1 = nI (M 5 p) ∧ xi S (pa p) 2 = nI (M 6 p) ∧ xi S (pa p) 3 = nI (M 8 p) ∧ xi S (pa p) 4 = nI (M 7 p)) ∧
  xr S (pa p) 7 = (mfirst M p).map qa ∧ xr S (pa p) 8 = (mla M p (M 12 0)).map qa
def rQ (S : xS) (pa qa la : Nat → Nat) (M : mT) (k : Nat) : Prop :=
  (xc S (qa k) = 3 ∧ qa k < xn S) ∧ (xi S (qa k) 0 = nI (M 13 k) ∧ xr S (qa k) 1 = some (pa (M 14 k)) ∧ xr S (qa k) 2 = (if maim M k = true then some (la (M 18 k)) else none) ∧ xi S (qa k) 3 = nI (M 19 k) ∧ xi S (qa k) 4 = nI (M 20 k) ∧ xi S (qa k) 5 = nI (M 17 k) ∧ (maim M k = false → xi S (qa k) 6 = nI (M 16 k)) ∧ xi S (qa k) 7 = nI (M 16 k)) ∧
  (M 13 k ≠ 4 → xi S (qa k) 8 = nI (M 15 k)) ∧ xi S (qa k) 11 = nI (M 21 k) ∧ xr S (qa k) 12 = (mnext M k).map qa
def rB (S : xS) (qa la : Nat → Nat) (M : mT) (j : Nat) : Prop :=
  (xc S (la j) = 1 ∧ la j < xn S) ∧ xr S (la j) 0 = (if M 26 j = 0 then none else some (qa (M 26 j - 1))) ∧ xi S (la j) 1 = nI (M 27 j)
def rI (f : Nat → Nat) (n : Nat) : Prop := ∀ i j, i < n → j < n → f i = f j → i = j
def rC (S : xS) (th : Nat) (ar pa qa la : Nat → Nat) (M : mT) : Prop :=
  mWF M ∧ rT S th ar M ∧ rA S ar pa qa la M ∧ (∀ p, p < M 4 0 → rP S pa qa M p) ∧ (∀ k, k < M 12 0 → rQ S pa qa la M k) ∧ (∀ j, j < M 25 0 → rB S qa la M j) ∧ rI pa (M 4 0) ∧ rI qa (M 12 0) ∧ rI la (M 25 0)
/-! THE REFERENCE holds the model -/
def ml (f : Nat) : Nat := if f ≤ 3 then 4 else if f ≤ 11 then 32 else if f ≤ 24 then 256 else 64
def mtg (f : Nat) : Nat := if f = 7 ∨ f = 8 ∨ f = 9 ∨ f = 20 ∨ f = 21 then 1003 else 1002
def mar (f : Nat) : Bool := decide (f < 28) && decide (f ≠ 0) && decide (f ≠ 4) && decide (f ≠ 12) && decide (f ≠ 25)
def rM (S : xS) (mo : Nat) (A : Nat → Nat) (M : mT) : Prop :=
  mWF M ∧ (xc S mo = 5 ∧ mo < xn S) ∧ (∀ f, mar f = true → xr S mo f = some (A f) ∧ A f < xn S ∧ xc S (A f) = mtg f ∧ xl S (A f) = ml f) ∧ (∀ f g, mar f = true → mar g = true → A f = A g → f = g) ∧
  (xi S mo 0 = nI (M 0 0) ∧ xi S mo 4 = nI (M 4 0) ∧ xi S mo 12 = nI (M 12 0) ∧ xi S mo 25 = nI (M 25 0)) ∧
  (∀ o, o < 4 → xi S (A 1) o = nI (2 ^ M 1 o)) ∧
  (∀ p, p < M 4 0 → xi S (A 5) p = nI (M 5 p) ∧ xi S (A 6) p = nI (2 ^ M 6 p) ∧ xi S (A 7) p = nI (M 7 p) ∧ xi S (A 8) p = nI (M 8 p)) ∧
  (∀ p, M 4 0 ≤ p → p < 32 → xi S (A 7) p = 0 ∧ xi S (A 8) p = 0) ∧
  (∀ k, k < M 12 0 → xi S (A 13) k = nI (M 13 k) ∧ xi S (A 14) k = nI (M 14 k) ∧ (M 13 k ≠ 4 → xi S (A 15) k = nI (M 15 k)) ∧ xi S (A 16) k = nI (M 16 k) ∧ xi S (A 17) k = nI (M 17 k) ∧ xi S (A 18) k = nI (M 18 k) ∧ xi S (A 19) k = nI (M 19 k) ∧ xi S (A 20) k = nI (M 20 k) ∧ xi S (A 21) k = nI (M 21 k)) ∧
  (∀ k, M 12 0 ≤ k → k < 256 → xi S (A 17) k = 0 ∧ xi S (A 18) k = 0 ∧ xi S (A 19) k = 0 ∧ xi S (A 20) k = 0 ∧ xi S (A 21) k = 0) ∧
  (∀ j, j < M 25 0 → xi S (A 26) j = nI (M 26 j) - 1 ∧ xi S (A 27) j = nI (M 27 j)) ∧
  (∀ j, M 25 0 ≤ j → j < 64 → xi S (A 27) j = 0)
/-! what one side's work leaves alone -/
def tC (t : Nat) : Bool := t == 1 || t == 2 || t == 3 || t == 4 || t == 1001 || t == 2001 || t == 2002 || t == 2003
def tM (t : Nat) : Bool := t == 5 || t == 1002 || t == 1003
def xFr (T : Nat → Bool) (S S' : xS) : Prop := xn S ≤ xn S' ∧ ∀ a, a < xn S → xc S' a = xc S a ∧ xl S' a = xl S a ∧ (T (xc S a) = false → ∀ k, xi S' a k = xi S a k ∧ xr S' a k = xr S a k)
theorem xFr.rf (T : Nat → Bool) (S : xS) : xFr T S S := ⟨Nat.le_refl _, fun _ _ => ⟨rfl, rfl, fun _ _ => ⟨rfl, rfl⟩⟩⟩
theorem xFr.tr {T : Nat → Bool} {S S1 S2 : xS} (h : xFr T S S1) (h1 : xFr T S1 S2) : xFr T S S2 := by
  refine ⟨Nat.le_trans h.1 h1.1, fun a ha => ?_⟩
  obtain ⟨a1, a2, a3⟩ := h.2 a ha
  obtain ⟨b1, b2, b3⟩ := h1.2 a (Nat.lt_of_lt_of_le ha h.1)
  refine ⟨b1.trans a1, b2.trans a2, fun ht k => ?_⟩
  have b4 := b3 (by rw [a1]; exact ht) k
  exact ⟨b4.1.trans (a3 ht k).1, b4.2.trans (a3 ht k).2⟩
theorem xFr.pi {T : Nat → Bool} {S : xS} {a k : Nat} {x : Int32} (h : T (xc S a) = true) : xFr T S (xpi S a k x) := by
  refine ⟨Nat.le_refl _, fun b _ => ⟨rfl, rfl, fun ht j => ⟨?_, rfl⟩⟩⟩
  rw [xi_pi, if_neg]
  rintro ⟨rfl, -⟩
  rw [h] at ht
  cases ht
theorem xFr.pr {T : Nat → Bool} {S : xS} {a k : Nat} {x : Option Nat} (h : T (xc S a) = true) : xFr T S (xpr S a k x) := by
  refine ⟨Nat.le_refl _, fun b _ => ⟨rfl, rfl, fun ht j => ⟨rfl, ?_⟩⟩⟩
  rw [xr_pr, if_neg]
  rintro ⟨rfl, -⟩
  rw [h] at ht
  cases ht
theorem xFr.mk {T : Nat → Bool} {S : xS} {t n : Nat} : xFr T S (xmk S t n) := by
  refine ⟨Nat.le_succ _, fun b hb => ⟨?_, ?_, fun _ j => ⟨?_, ?_⟩⟩⟩
  · rw [xc_mk, if_neg (Nat.ne_of_lt hb)]
  · rw [xl_mk, if_neg (Nat.ne_of_lt hb)]
  · rw [xi_mk, if_neg (Nat.ne_of_lt hb)]
  · rw [xr_mk, if_neg (Nat.ne_of_lt hb)]
/-! THE CALLS on the model: what is answered, and the state behind it -/
def inR (x : Int32) (lo hi : Int) : Bool := decide (lo ≤ x.toInt) && decide (x.toInt ≤ hi)
def isP (M : mT) (x : Int32) : Bool := decide (0 ≤ x.toInt) && decide (x.toInt < M 4 0)
def isQ (M : mT) (x : Int32) : Bool := decide (0 ≤ x.toInt) && decide (x.toInt < M 12 0)
def isL (M : mT) (x : Int32) : Bool := decide (0 ≤ x.toInt) && decide (x.toInt < M 25 0)
def mpart (M : mT) (o p : Nat) : mT := mset (mset (mset (mset (mset M 5 (M 4 0) o) 6 (M 4 0) p) 7 (M 4 0) 0) 8 (M 4 0) 0) 4 0 (M 4 0 + 1)
def oPart (M : mT) (x y : Int32) : Int32 × mT := if M 4 0 < 32 ∧ inR x 0 3 = true ∧ inR y 0 12 = true then (nI (M 4 0), mpart M x.toNatClampNeg y.toNatClampNeg) else (-1, M)
def madd (M : mT) (pt s n w lb c t : Nat) : mT :=
  mset (mset (mset (mset (mset (mset (mset (mset (mset (mset M 13 (M 12 0) s) 14 (M 12 0) pt) 15 (M 12 0) n) 16 (M 12 0) n) 17 (M 12 0) w) 18 (M 12 0) lb) 19 (M 12 0) c) 20 (M 12 0) t) 21 (M 12 0) 0) 12 0 (M 12 0 + 1)
def oPlain (M : mT) (x n : Int32) : Int32 × mT := if M 12 0 < 256 ∧ isP M x = true ∧ inR n 0 4194304 = true then (nI (M 12 0), madd M x.toNatClampNeg 0 n.toNatClampNeg 0 0 0 0) else (-1, M)
def oAimed (M : mT) (s : Nat) (x y c : Int32) (t : Nat) : Int32 × mT := if M 12 0 < 256 ∧ isP M x = true ∧ isL M y = true then (nI (M 12 0), madd M x.toNatClampNeg s (mgr s) 0 y.toNatClampNeg c.toBitVec.toNat t) else (-1, M)
def oFill (M : mT) (x p n : Int32) : Int32 × mT := if M 12 0 < 256 ∧ isP M x = true ∧ inR p 0 12 = true ∧ inR n 0 4096 = true then (nI (M 12 0), madd M x.toNatClampNeg 4 n.toNatClampNeg p.toNatClampNeg 0 0 0) else (-1, M)
def oLabel (M : mT) : Int32 × mT := if M 25 0 < 64 then (nI (M 25 0), mset (mset (mset M 26 (M 25 0) 0) 27 (M 25 0) 0) 25 0 (M 25 0 + 1)) else (-1, M)
def oPut (M : mT) (y x a : Int32) : Int32 × mT := if isL M y = true ∧ isQ M x = true ∧ inR a 0 (if M 13 x.toNatClampNeg = 0 then M 16 x.toNatClampNeg else 1) = true then (1, mset (mset M 26 y.toNatClampNeg (x.toNatClampNeg + 1)) 27 y.toNatClampNeg a.toNatClampNeg) else (0, M)
def oBase (M : mT) (x : Int32) : Int32 × mT := if inR x 0 1048576 = true then (1, mset M 0 0 x.toNatClampNeg) else (0, M)
def oAlign (M : mT) (x y : Int32) : Int32 × mT := if inR x 0 3 = true ∧ inR y 0 12 = true then (1, mset M 1 x.toNatClampNeg y.toNatClampNeg) else (0, M)
def oRoot (M : mT) (x : Int32) (on : Nat) : Int32 × mT := if isP M x = true ∧ M 7 x.toNatClampNeg ≠ on then (1, mset M 7 x.toNatClampNeg on) else (0, M)
-- the class's side, the reference's side, addresses left out
def rCx (S : xS) (th : Nat) (M : mT) : Prop := ∃ ar pa qa la, rC S th ar pa qa la M
def rMx (S : xS) (mo : Nat) (M : mT) : Prop := ∃ A, rM S mo A M
def oC (S : xS) (th : Nat) (o : Int32 × mT) : Option xVal → xS → Prop := fun r S' => r = some (.inl o.1) ∧ rCx S' th o.2 ∧ xFr tC S S'
def oM (S : xS) (mo : Nat) (o : Int32 × mT) : Option xVal → xS → Prop := fun r S' => r = some (.inl o.1) ∧ rMx S' mo o.2 ∧ xFr tM S S'
theorem inR_iff {x : Int32} {lo hi : Int} : inR x lo hi = true ↔ lo ≤ x.toInt ∧ x.toInt ≤ hi := by simp [inR]
theorem isP_iff {M : mT} {x : Int32} : isP M x = true ↔ 0 ≤ x.toInt ∧ x.toInt < M 4 0 := by simp [isP]
theorem isQ_iff {M : mT} {x : Int32} : isQ M x = true ↔ 0 ≤ x.toInt ∧ x.toInt < M 12 0 := by simp [isQ]
theorem isL_iff {M : mT} {x : Int32} : isL M x = true ↔ 0 ≤ x.toInt ∧ x.toInt < M 25 0 := by simp [isL]
theorem nI_cl {x : Int32} (h : 0 ≤ x.toInt) : nI x.toNatClampNeg = x := by
  have e : x.toNatClampNeg = x.toInt.toNat := rfl
  have hb := Int32.toInt_lt x
  apply Int32.toInt_inj.mp
  rw [nI_toInt (by omega)]
  omega
end
section
/-! LEAVES of the class -/
theorem mpad_num {x p : Nat} (hx : x < 2 ^ 31) (hp : p ≤ 12) : (-(nI x)) &&& ((1 : Int32) <<< (nI p &&& 31) - 1) = nI (mpad x p) := by
  rw [pk_and (-(nI x)) p (xshl_m1 p (by omega)), xneg_toNat hx]
  congr 1
  have h : p = 0 ∨ p = 1 ∨ p = 2 ∨ p = 3 ∨ p = 4 ∨ p = 5 ∨ p = 6 ∨ p = 7 ∨ p = 8 ∨ p = 9 ∨ p = 10 ∨ p = 11 ∨ p = 12 := by omega
  unfold mpad
  rcases h with rfl | rfl | rfl | rfl | rfl | rfl | rfl | rfl | rfl | rfl | rfl | rfl | rfl <;> omega
theorem mpad_lt {x p : Nat} (hp : p ≤ 12) : mpad x p < 4096 := by
  have h1 := xpow_le hp
  have h2 : 0 < 2 ^ p := Nat.two_pow_pos p
  have h3 : mpad x p < 2 ^ p := Nat.mod_lt _ h2
  omega
section LEAF
variable {l : Launch} {D : va_G} {n0 : Nat}
set_option maxHeartbeats 4000000 in
set_option maxRecDepth 100000 in
theorem c_isWithin (S : xS) (x lo hi : Int64) : xMet l D n0 mS_isWithin 0 0 [.inr (.inl x), .inr (.inl lo), .inr (.inl hi)] S (fun r S' => r = some (.inl (if lo.toInt ≤ x.toInt ∧ x.toInt ≤ hi.toInt then 1 else 0)) ∧ S' = S) := by
  refine xMet.of (k := mS_isWithin) (own := 3) (ini := false) xm_S_isWithin (by decide +kernel) (by decide +kernel) (by decide) (Nat.le_of_ble_eq_true rfl) ?_
  intro V hV
  show V 0 [some (.inr (.inl x)), none, some (.inr (.inl lo)), none, some (.inr (.inl hi)), none] [] S 0 0
  refine xrun_ok hV [] 20 _ _ _ _ _ _ ?_
  simp (maxDischargeDepth := 60) only [xrun, xisc, ↓xstep, xget, xtgt, xcmp, xacmp, xprev, xisR, xnt, List.set, List.length, xsw, xlk, true_or, or_true, if_true, if_false, true_and, and_true, List.mem_cons, List.not_mem_nil, or_false, false_or, Bool.false_eq_true, reduceCtorEq, not_false_eq_true, forall_const, Nat.zero_add, Nat.reduceAdd, Nat.reduceSub, Int.reduceAdd, Int.reduceNeg, Int.reduceToNat, Nat.reduceEqDiff, Nat.reduceLT, Nat.reduceLeDiff, Int.reduceLE, Int.reduceLT, reduceIte, Int.cast_ofNat_Int, Int.natCast_zero, Int.natCast_one, Int.reduceAdd, eq_self, Int.reduceSub, List.length_cons, List.length_nil, xli_m1, xli_0, xli_1, xli_2, xli_3, xli_4, xli_5, xlb_8, xlb_12, xlb_31, xlb_32, xlb_64, xls_256, xls_513, xls_2048, xls_4096, xll_0, xll_1, xnr_i, xnr_0, xnr_1, xnr_ite, xft_i, xft_0, xft_1, xat_999, xat_1001, xat_1002, xat_1003, xat_2001, xat_2002, xat_2003, List.getElem?_cons_succ, List.getElem?_cons_zero, xfn_0, xfn_1, xfn_2, xfn_3, x10, x01, not_true_eq_false, false_implies, implies_true, true_implies, xrm_c, xrm_s, xnl_4, xnl_32, xnl_64, xnl_256, xtn_4, xtn_32, xtn_64, xtn_256, Option.some.injEq, Sum.inl.injEq, Sum.inr.injEq, exists_eq_left', exists_eq_right, Option.toList_some, Option.toList_none, List.cons_append, List.nil_append, xE, lg_cmp_ge, lg_cmp_le, lg_cmp_gt, lg_cmp_lt, lg_cmp_eq, Nat.le_refl, Nat.zero_le, ne_eq, Nat.add_zero, dS_isWithin_0, dS_isWithin_1, dS_isWithin_2, dS_isWithin_3, dS_isWithin_6, dS_isWithin_7, dS_isWithin_9, dS_isWithin_10, dS_isWithin_13, dS_isWithin_14, dS_isWithin_17, dS_isWithin_18]
  simp only [xI64lt]
  refine ⟨fun h => ?_, fun h => ⟨fun h1 => ?_, fun h1 => ?_⟩⟩
  · rw [if_neg (by omega)]
  · rw [if_neg (by omega)]
  · rw [if_pos (by omega)]
set_option maxHeartbeats 4000000 in
set_option maxRecDepth 100000 in
theorem c_isOutput (S : xS) (x : Int32) : xMet l D n0 mS_isOutput 0 0 [.inl x] S (fun r S' => r = some (.inl (if 0 ≤ x.toInt ∧ x.toInt ≤ 3 then 1 else 0)) ∧ S' = S) := by
  refine xMet.of (k := mS_isOutput) (own := 3) (ini := false) xm_S_isOutput (by decide +kernel) (by decide +kernel) (by decide) (Nat.le_of_ble_eq_true rfl) ?_
  intro V hV
  show V 0 [some (.inl x)] [] S 0 0
  refine xrun_ok hV [] 20 _ _ _ _ _ _ ?_
  simp (maxDischargeDepth := 60) only [xrun, xisc, ↓xstep, xget, xtgt, xcmp, xacmp, xprev, xisR, xnt, List.set, List.length, xsw, xlk, true_or, or_true, if_true, if_false, true_and, and_true, List.mem_cons, List.not_mem_nil, or_false, false_or, Bool.false_eq_true, reduceCtorEq, not_false_eq_true, forall_const, Nat.zero_add, Nat.reduceAdd, Nat.reduceSub, Int.reduceAdd, Int.reduceNeg, Int.reduceToNat, Nat.reduceEqDiff, Nat.reduceLT, Nat.reduceLeDiff, Int.reduceLE, Int.reduceLT, reduceIte, Int.cast_ofNat_Int, Int.natCast_zero, Int.natCast_one, Int.reduceAdd, eq_self, Int.reduceSub, List.length_cons, List.length_nil, xli_m1, xli_0, xli_1, xli_2, xli_3, xli_4, xli_5, xlb_8, xlb_12, xlb_31, xlb_32, xlb_64, xls_256, xls_513, xls_2048, xls_4096, xll_0, xll_1, xnr_i, xnr_0, xnr_1, xnr_ite, xft_i, xft_0, xft_1, xat_999, xat_1001, xat_1002, xat_1003, xat_2001, xat_2002, xat_2003, List.getElem?_cons_succ, List.getElem?_cons_zero, xfn_0, xfn_1, xfn_2, xfn_3, x10, x01, not_true_eq_false, false_implies, implies_true, true_implies, xrm_c, xrm_s, xnl_4, xnl_32, xnl_64, xnl_256, xtn_4, xtn_32, xtn_64, xtn_256, Option.some.injEq, Sum.inl.injEq, Sum.inr.injEq, exists_eq_left', exists_eq_right, Option.toList_some, Option.toList_none, List.cons_append, List.nil_append, xE, lg_cmp_ge, lg_cmp_le, lg_cmp_gt, lg_cmp_lt, lg_cmp_eq, Nat.le_refl, Nat.zero_le, ne_eq, Nat.add_zero, dS_isOutput_0, dS_isOutput_1, dS_isOutput_2, dS_isOutput_3, dS_isOutput_6, dS_isOutput_9, xj_3_251]
  refine hV.call [] xh_3_57 dS_isOutput_6 (c_isWithin S x.toInt64 0 3) (Or.inl rfl) rfl rfl (by decide) (by decide) (by decide) ?_
  rintro r S' ⟨rfl, rfl⟩
  refine xrun_ok hV [] 20 _ _ _ _ _ _ ?_
  simp (maxDischargeDepth := 60) only [xrun, xisc, ↓xstep, xget, xtgt, xcmp, xacmp, xprev, xisR, xnt, List.set, List.length, xsw, xlk, true_or, or_true, if_true, if_false, true_and, and_true, List.mem_cons, List.not_mem_nil, or_false, false_or, Bool.false_eq_true, reduceCtorEq, not_false_eq_true, forall_const, Nat.zero_add, Nat.reduceAdd, Nat.reduceSub, Int.reduceAdd, Int.reduceNeg, Int.reduceToNat, Nat.reduceEqDiff, Nat.reduceLT, Nat.reduceLeDiff, Int.reduceLE, Int.reduceLT, reduceIte, Int.cast_ofNat_Int, Int.natCast_zero, Int.natCast_one, Int.reduceAdd, eq_self, Int.reduceSub, List.length_cons, List.length_nil, xli_m1, xli_0, xli_1, xli_2, xli_3, xli_4, xli_5, xlb_8, xlb_12, xlb_31, xlb_32, xlb_64, xls_256, xls_513, xls_2048, xls_4096, xll_0, xll_1, xnr_i, xnr_0, xnr_1, xnr_ite, xft_i, xft_0, xft_1, xat_999, xat_1001, xat_1002, xat_1003, xat_2001, xat_2002, xat_2003, List.getElem?_cons_succ, List.getElem?_cons_zero, xfn_0, xfn_1, xfn_2, xfn_3, x10, x01, not_true_eq_false, false_implies, implies_true, true_implies, xrm_c, xrm_s, xnl_4, xnl_32, xnl_64, xnl_256, xtn_4, xtn_32, xtn_64, xtn_256, Option.some.injEq, Sum.inl.injEq, Sum.inr.injEq, exists_eq_left', exists_eq_right, Option.toList_some, Option.toList_none, List.cons_append, List.nil_append, xE, lg_cmp_ge, lg_cmp_le, lg_cmp_gt, lg_cmp_lt, lg_cmp_eq, Nat.le_refl, Nat.zero_le, ne_eq, Nat.add_zero, dS_isOutput_0, dS_isOutput_1, dS_isOutput_2, dS_isOutput_3, dS_isOutput_6, dS_isOutput_9, xj_3_251]
  simp only [Int32.toInt_toInt64]
  rfl
set_option maxHeartbeats 4000000 in
set_option maxRecDepth 100000 in
theorem c_isPower (S : xS) (x : Int32) : xMet l D n0 mS_isPower 0 0 [.inl x] S (fun r S' => r = some (.inl (if 0 ≤ x.toInt ∧ x.toInt ≤ 12 then 1 else 0)) ∧ S' = S) := by
  refine xMet.of (k := mS_isPower) (own := 3) (ini := false) xm_S_isPower (by decide +kernel) (by decide +kernel) (by decide) (Nat.le_of_ble_eq_true rfl) ?_
  intro V hV
  show V 0 [some (.inl x)] [] S 0 0
  refine xrun_ok hV [] 20 _ _ _ _ _ _ ?_
  simp (maxDischargeDepth := 60) only [xrun, xisc, ↓xstep, xget, xtgt, xcmp, xacmp, xprev, xisR, xnt, List.set, List.length, xsw, xlk, true_or, or_true, if_true, if_false, true_and, and_true, List.mem_cons, List.not_mem_nil, or_false, false_or, Bool.false_eq_true, reduceCtorEq, not_false_eq_true, forall_const, Nat.zero_add, Nat.reduceAdd, Nat.reduceSub, Int.reduceAdd, Int.reduceNeg, Int.reduceToNat, Nat.reduceEqDiff, Nat.reduceLT, Nat.reduceLeDiff, Int.reduceLE, Int.reduceLT, reduceIte, Int.cast_ofNat_Int, Int.natCast_zero, Int.natCast_one, Int.reduceAdd, eq_self, Int.reduceSub, List.length_cons, List.length_nil, xli_m1, xli_0, xli_1, xli_2, xli_3, xli_4, xli_5, xlb_8, xlb_12, xlb_31, xlb_32, xlb_64, xls_256, xls_513, xls_2048, xls_4096, xll_0, xll_1, xnr_i, xnr_0, xnr_1, xnr_ite, xft_i, xft_0, xft_1, xat_999, xat_1001, xat_1002, xat_1003, xat_2001, xat_2002, xat_2003, List.getElem?_cons_succ, List.getElem?_cons_zero, xfn_0, xfn_1, xfn_2, xfn_3, x10, x01, not_true_eq_false, false_implies, implies_true, true_implies, xrm_c, xrm_s, xnl_4, xnl_32, xnl_64, xnl_256, xtn_4, xtn_32, xtn_64, xtn_256, Option.some.injEq, Sum.inl.injEq, Sum.inr.injEq, exists_eq_left', exists_eq_right, Option.toList_some, Option.toList_none, List.cons_append, List.nil_append, xE, lg_cmp_ge, lg_cmp_le, lg_cmp_gt, lg_cmp_lt, lg_cmp_eq, Nat.le_refl, Nat.zero_le, ne_eq, Nat.add_zero, dS_isPower_0, dS_isPower_1, dS_isPower_2, dS_isPower_3, dS_isPower_6, dS_isPower_9, xj_3_253]
  refine hV.call [] xh_3_57 dS_isPower_6 (c_isWithin S x.toInt64 0 12) (Or.inl rfl) rfl rfl (by decide) (by decide) (by decide) ?_
  rintro r S' ⟨rfl, rfl⟩
  refine xrun_ok hV [] 20 _ _ _ _ _ _ ?_
  simp (maxDischargeDepth := 60) only [xrun, xisc, ↓xstep, xget, xtgt, xcmp, xacmp, xprev, xisR, xnt, List.set, List.length, xsw, xlk, true_or, or_true, if_true, if_false, true_and, and_true, List.mem_cons, List.not_mem_nil, or_false, false_or, Bool.false_eq_true, reduceCtorEq, not_false_eq_true, forall_const, Nat.zero_add, Nat.reduceAdd, Nat.reduceSub, Int.reduceAdd, Int.reduceNeg, Int.reduceToNat, Nat.reduceEqDiff, Nat.reduceLT, Nat.reduceLeDiff, Int.reduceLE, Int.reduceLT, reduceIte, Int.cast_ofNat_Int, Int.natCast_zero, Int.natCast_one, Int.reduceAdd, eq_self, Int.reduceSub, List.length_cons, List.length_nil, xli_m1, xli_0, xli_1, xli_2, xli_3, xli_4, xli_5, xlb_8, xlb_12, xlb_31, xlb_32, xlb_64, xls_256, xls_513, xls_2048, xls_4096, xll_0, xll_1, xnr_i, xnr_0, xnr_1, xnr_ite, xft_i, xft_0, xft_1, xat_999, xat_1001, xat_1002, xat_1003, xat_2001, xat_2002, xat_2003, List.getElem?_cons_succ, List.getElem?_cons_zero, xfn_0, xfn_1, xfn_2, xfn_3, x10, x01, not_true_eq_false, false_implies, implies_true, true_implies, xrm_c, xrm_s, xnl_4, xnl_32, xnl_64, xnl_256, xtn_4, xtn_32, xtn_64, xtn_256, Option.some.injEq, Sum.inl.injEq, Sum.inr.injEq, exists_eq_left', exists_eq_right, Option.toList_some, Option.toList_none, List.cons_append, List.nil_append, xE, lg_cmp_ge, lg_cmp_le, lg_cmp_gt, lg_cmp_lt, lg_cmp_eq, Nat.le_refl, Nat.zero_le, ne_eq, Nat.add_zero, dS_isPower_0, dS_isPower_1, dS_isPower_2, dS_isPower_3, dS_isPower_6, dS_isPower_9, xj_3_253]
  simp only [Int32.toInt_toInt64]
  rfl
set_option maxHeartbeats 4000000 in
set_option maxRecDepth 100000 in
theorem c_bytes (S : xS) {x p : Nat} (hx : x < 2 ^ 31) (hp : p ≤ 12) : xMet l D n0 mS_bytesToMultiple 0 0 [.inl (nI x), .inl (nI p)] S (fun r S' => r = some (.inl (nI (mpad x p))) ∧ S' = S) := by
  refine xMet.of (k := mS_bytesToMultiple) (own := 3) (ini := false) xm_S_bytesToMultiple (by decide +kernel) (by decide +kernel) (by decide) (Nat.le_of_ble_eq_true rfl) ?_
  intro V hV
  show V 0 [some (.inl (nI x)), some (.inl (nI p))] [] S 0 0
  refine xrun_ok hV [] 20 _ _ _ _ _ _ ?_
  simp (maxDischargeDepth := 60) only [xrun, xisc, ↓xstep, xget, xtgt, xcmp, xacmp, xprev, xisR, xnt, List.set, List.length, xsw, xlk, true_or, or_true, if_true, if_false, true_and, and_true, List.mem_cons, List.not_mem_nil, or_false, false_or, Bool.false_eq_true, reduceCtorEq, not_false_eq_true, forall_const, Nat.zero_add, Nat.reduceAdd, Nat.reduceSub, Int.reduceAdd, Int.reduceNeg, Int.reduceToNat, Nat.reduceEqDiff, Nat.reduceLT, Nat.reduceLeDiff, Int.reduceLE, Int.reduceLT, reduceIte, Int.cast_ofNat_Int, Int.natCast_zero, Int.natCast_one, Int.reduceAdd, eq_self, Int.reduceSub, List.length_cons, List.length_nil, xli_m1, xli_0, xli_1, xli_2, xli_3, xli_4, xli_5, xlb_8, xlb_12, xlb_31, xlb_32, xlb_64, xls_256, xls_513, xls_2048, xls_4096, xll_0, xll_1, xnr_i, xnr_0, xnr_1, xnr_ite, xft_i, xft_0, xft_1, xat_999, xat_1001, xat_1002, xat_1003, xat_2001, xat_2002, xat_2003, List.getElem?_cons_succ, List.getElem?_cons_zero, xfn_0, xfn_1, xfn_2, xfn_3, x10, x01, not_true_eq_false, false_implies, implies_true, true_implies, xrm_c, xrm_s, xnl_4, xnl_32, xnl_64, xnl_256, xtn_4, xtn_32, xtn_64, xtn_256, Option.some.injEq, Sum.inl.injEq, Sum.inr.injEq, exists_eq_left', exists_eq_right, Option.toList_some, Option.toList_none, List.cons_append, List.nil_append, xE, lg_cmp_ge, lg_cmp_le, lg_cmp_gt, lg_cmp_lt, lg_cmp_eq, Nat.le_refl, Nat.zero_le, ne_eq, Nat.add_zero, dS_bytesToMultiple_0, dS_bytesToMultiple_1, dS_bytesToMultiple_2, dS_bytesToMultiple_3, dS_bytesToMultiple_4, dS_bytesToMultiple_5, dS_bytesToMultiple_6, dS_bytesToMultiple_7, dS_bytesToMultiple_8]
  exact mpad_num hx hp
set_option maxHeartbeats 4000000 in
set_option maxRecDepth 100000 in
theorem c_min (S : xS) (x y : Int32) : xMet l D n0 mA_min 0 0 [.inl x, .inl y] S (fun r S' => r = some (.inl (if y < x then y else x)) ∧ S' = S) := by
  refine xMet.of (k := mA_min) (own := 6) (ini := false) xm_A_min (by decide +kernel) (by decide +kernel) (by decide) (Nat.le_of_ble_eq_true rfl) ?_
  intro V hV
  show V 0 [some (.inl x), some (.inl y)] [] S 0 0
  refine xrun_ok hV [] 20 _ _ _ _ _ _ ?_
  simp (maxDischargeDepth := 60) only [xrun, xisc, ↓xstep, xget, xtgt, xcmp, xacmp, xprev, xisR, xnt, List.set, List.length, xsw, xlk, true_or, or_true, if_true, if_false, true_and, and_true, List.mem_cons, List.not_mem_nil, or_false, false_or, Bool.false_eq_true, reduceCtorEq, not_false_eq_true, forall_const, Nat.zero_add, Nat.reduceAdd, Nat.reduceSub, Int.reduceAdd, Int.reduceNeg, Int.reduceToNat, Nat.reduceEqDiff, Nat.reduceLT, Nat.reduceLeDiff, Int.reduceLE, Int.reduceLT, reduceIte, Int.cast_ofNat_Int, Int.natCast_zero, Int.natCast_one, Int.reduceAdd, eq_self, Int.reduceSub, List.length_cons, List.length_nil, xli_m1, xli_0, xli_1, xli_2, xli_3, xli_4, xli_5, xlb_8, xlb_12, xlb_31, xlb_32, xlb_64, xls_256, xls_513, xls_2048, xls_4096, xll_0, xll_1, xnr_i, xnr_0, xnr_1, xnr_ite, xft_i, xft_0, xft_1, xat_999, xat_1001, xat_1002, xat_1003, xat_2001, xat_2002, xat_2003, List.getElem?_cons_succ, List.getElem?_cons_zero, xfn_0, xfn_1, xfn_2, xfn_3, x10, x01, not_true_eq_false, false_implies, implies_true, true_implies, xrm_c, xrm_s, xnl_4, xnl_32, xnl_64, xnl_256, xtn_4, xtn_32, xtn_64, xtn_256, Option.some.injEq, Sum.inl.injEq, Sum.inr.injEq, exists_eq_left', exists_eq_right, Option.toList_some, Option.toList_none, List.cons_append, List.nil_append, xE, lg_cmp_ge, lg_cmp_le, lg_cmp_gt, lg_cmp_lt, lg_cmp_eq, Nat.le_refl, Nat.zero_le, ne_eq, Nat.add_zero, dA_min_0, dA_min_1, dA_min_2, dA_min_5, dA_min_6, dA_min_9, dA_min_10]
  refine ⟨fun h => ?_, fun h => ?_⟩
  · rw [if_pos h]
  · rw [if_neg h]
set_option maxHeartbeats 4000000 in
set_option maxRecDepth 100000 in
theorem c_partAt {S : xS} {th : Nat} {ar pa qa la : Nat → Nat} {M : mT} (h : rC S th ar pa qa la M) (x : Int32) : xMet l D n0 mS_partAt 0 0 [.inr (.inr (some th)), .inl x] S (fun r S' => r = some (.inr (.inr (if 0 ≤ x.toInt ∧ x.toInt < M 4 0 then some (pa x.toNatClampNeg) else none))) ∧ S' = S) := by
  refine xMet.of (k := mS_partAt) (own := 3) (ini := false) xm_S_partAt (by decide +kernel) (by decide +kernel) (by decide) (Nat.le_of_ble_eq_true rfl) ?_
  intro V hV
  show V 0 [some (.inr (.inr (some th))), some (.inl x)] [] S 0 0
  have h1 := h.2.1.1.1
  have h2 := (h.2.1.2.1 0 (by decide)).1
  have h3 := h.2.1.2.2.1.1
  have h4 := h.2.1.2.2.2.1.1
  refine xrun_ok hV [] 20 _ _ _ _ _ _ ?_
  simp (maxDischargeDepth := 60) only [xrun, xisc, ↓xstep, xget, xtgt, xcmp, xacmp, xprev, xisR, xnt, List.set, List.length, xsw, xlk, true_or, or_true, if_true, if_false, true_and, and_true, List.mem_cons, List.not_mem_nil, or_false, false_or, Bool.false_eq_true, reduceCtorEq, not_false_eq_true, forall_const, Nat.zero_add, Nat.reduceAdd, Nat.reduceSub, Int.reduceAdd, Int.reduceNeg, Int.reduceToNat, Nat.reduceEqDiff, Nat.reduceLT, Nat.reduceLeDiff, Int.reduceLE, Int.reduceLT, reduceIte, Int.cast_ofNat_Int, Int.natCast_zero, Int.natCast_one, Int.reduceAdd, eq_self, Int.reduceSub, List.length_cons, List.length_nil, xli_m1, xli_0, xli_1, xli_2, xli_3, xli_4, xli_5, xlb_8, xlb_12, xlb_31, xlb_32, xlb_64, xls_256, xls_513, xls_2048, xls_4096, xll_0, xll_1, xnr_i, xnr_0, xnr_1, xnr_ite, xft_i, xft_0, xft_1, xat_999, xat_1001, xat_1002, xat_1003, xat_2001, xat_2002, xat_2003, List.getElem?_cons_succ, List.getElem?_cons_zero, xfn_0, xfn_1, xfn_2, xfn_3, x10, x01, not_true_eq_false, false_implies, implies_true, true_implies, xrm_c, xrm_s, xnl_4, xnl_32, xnl_64, xnl_256, xtn_4, xtn_32, xtn_64, xtn_256, Option.some.injEq, Sum.inl.injEq, Sum.inr.injEq, exists_eq_left', exists_eq_right, Option.toList_some, Option.toList_none, List.cons_append, List.nil_append, xE, lg_cmp_ge, lg_cmp_le, lg_cmp_gt, lg_cmp_lt, lg_cmp_eq, Nat.le_refl, Nat.zero_le, ne_eq, Nat.add_zero, dS_partAt_0, dS_partAt_1, dS_partAt_4, dS_partAt_5, dS_partAt_6, dS_partAt_9, dS_partAt_10, dS_partAt_13, dS_partAt_14, dS_partAt_17, dS_partAt_18, dS_partAt_19, dS_partAt_22, dS_partAt_23, xf_3_11, h1, h2, h3, h4]
  refine ⟨fun z => ⟨Or.inl ⟨_, rfl⟩, ?_⟩, fun z => ⟨⟨_, rfl⟩, fun z1 => ⟨Or.inl ⟨_, rfl⟩, ?_⟩, fun z1 => ⟨⟨_, rfl⟩, ?_, Or.inl ⟨_, rfl⟩, ?_⟩⟩⟩
  · rw [xI32lt] at z
    rw [if_neg (fun q => by have : x.toInt < 0 := z; omega)]
  · rw [xI32le] at z1
    have z2 : (32 : Int) ≤ x.toInt := z1
    have := h.1.1.2.1
    rw [if_neg (by omega)]
  · rw [xI32lt] at z
    rw [xI32le] at z1
    have z2 : ¬ (32 : Int) ≤ x.toInt := z1
    have z3 : ¬ x.toInt < 0 := z
    exact vp_in_iff.mpr ⟨by omega, by omega⟩
  · rw [xI32lt] at z
    rw [xI32le] at z1
    have z2 : ¬ (32 : Int) ≤ x.toInt := z1
    have z3 : ¬ x.toInt < 0 := z
    have z4 : x.toNatClampNeg = x.toInt.toNat := rfl
    rw [h.2.2.1.1 x.toNatClampNeg (by omega)]
    by_cases hz : x.toInt < M 4 0
    · rw [if_pos (by omega), if_pos ⟨by omega, hz⟩]
    · rw [if_neg (by omega), if_neg (fun q => hz q.2)]
set_option maxHeartbeats 4000000 in
set_option maxRecDepth 100000 in
theorem c_pieceAt {S : xS} {th : Nat} {ar pa qa la : Nat → Nat} {M : mT} (h : rC S th ar pa qa la M) (x : Int32) : xMet l D n0 mS_pieceAt 0 0 [.inr (.inr (some th)), .inl x] S (fun r S' => r = some (.inr (.inr (if 0 ≤ x.toInt ∧ x.toInt < M 12 0 then some (qa x.toNatClampNeg) else none))) ∧ S' = S) := by
  refine xMet.of (k := mS_pieceAt) (own := 3) (ini := false) xm_S_pieceAt (by decide +kernel) (by decide +kernel) (by decide) (Nat.le_of_ble_eq_true rfl) ?_
  intro V hV
  show V 0 [some (.inr (.inr (some th))), some (.inl x)] [] S 0 0
  have h1 := h.2.1.1.1
  have h2 := (h.2.1.2.1 1 (by decide)).1
  have h3 := h.2.1.2.2.1.2.1
  have h4 := h.2.1.2.2.2.1.2.1
  refine xrun_ok hV [] 20 _ _ _ _ _ _ ?_
  simp (maxDischargeDepth := 60) only [xrun, xisc, ↓xstep, xget, xtgt, xcmp, xacmp, xprev, xisR, xnt, List.set, List.length, xsw, xlk, true_or, or_true, if_true, if_false, true_and, and_true, List.mem_cons, List.not_mem_nil, or_false, false_or, Bool.false_eq_true, reduceCtorEq, not_false_eq_true, forall_const, Nat.zero_add, Nat.reduceAdd, Nat.reduceSub, Int.reduceAdd, Int.reduceNeg, Int.reduceToNat, Nat.reduceEqDiff, Nat.reduceLT, Nat.reduceLeDiff, Int.reduceLE, Int.reduceLT, reduceIte, Int.cast_ofNat_Int, Int.natCast_zero, Int.natCast_one, Int.reduceAdd, eq_self, Int.reduceSub, List.length_cons, List.length_nil, xli_m1, xli_0, xli_1, xli_2, xli_3, xli_4, xli_5, xlb_8, xlb_12, xlb_31, xlb_32, xlb_64, xls_256, xls_513, xls_2048, xls_4096, xll_0, xll_1, xnr_i, xnr_0, xnr_1, xnr_ite, xft_i, xft_0, xft_1, xat_999, xat_1001, xat_1002, xat_1003, xat_2001, xat_2002, xat_2003, List.getElem?_cons_succ, List.getElem?_cons_zero, xfn_0, xfn_1, xfn_2, xfn_3, x10, x01, not_true_eq_false, false_implies, implies_true, true_implies, xrm_c, xrm_s, xnl_4, xnl_32, xnl_64, xnl_256, xtn_4, xtn_32, xtn_64, xtn_256, Option.some.injEq, Sum.inl.injEq, Sum.inr.injEq, exists_eq_left', exists_eq_right, Option.toList_some, Option.toList_none, List.cons_append, List.nil_append, xE, lg_cmp_ge, lg_cmp_le, lg_cmp_gt, lg_cmp_lt, lg_cmp_eq, Nat.le_refl, Nat.zero_le, ne_eq, Nat.add_zero, dS_pieceAt_0, dS_pieceAt_1, dS_pieceAt_4, dS_pieceAt_5, dS_pieceAt_6, dS_pieceAt_9, dS_pieceAt_10, dS_pieceAt_13, dS_pieceAt_14, dS_pieceAt_17, dS_pieceAt_18, dS_pieceAt_19, dS_pieceAt_22, dS_pieceAt_23, xf_3_17, h1, h2, h3, h4]
  refine ⟨fun z => ⟨Or.inl ⟨_, rfl⟩, ?_⟩, fun z => ⟨⟨_, rfl⟩, fun z1 => ⟨Or.inl ⟨_, rfl⟩, ?_⟩, fun z1 => ⟨⟨_, rfl⟩, ?_, Or.inl ⟨_, rfl⟩, ?_⟩⟩⟩
  · rw [xI32lt] at z
    rw [if_neg (fun q => by have : x.toInt < 0 := z; omega)]
  · rw [xI32le] at z1
    have z2 : (256 : Int) ≤ x.toInt := z1
    have := h.1.1.2.2.1
    rw [if_neg (by omega)]
  · rw [xI32lt] at z
    rw [xI32le] at z1
    have z2 : ¬ (256 : Int) ≤ x.toInt := z1
    have z3 : ¬ x.toInt < 0 := z
    exact vp_in_iff.mpr ⟨by omega, by omega⟩
  · rw [xI32lt] at z
    rw [xI32le] at z1
    have z2 : ¬ (256 : Int) ≤ x.toInt := z1
    have z3 : ¬ x.toInt < 0 := z
    have z4 : x.toNatClampNeg = x.toInt.toNat := rfl
    rw [h.2.2.1.2.1 x.toNatClampNeg (by omega)]
    by_cases hz : x.toInt < M 12 0
    · rw [if_pos (by omega), if_pos ⟨by omega, hz⟩]
    · rw [if_neg (by omega), if_neg (fun q => hz q.2)]
set_option maxHeartbeats 4000000 in
set_option maxRecDepth 100000 in
theorem c_labelAt {S : xS} {th : Nat} {ar pa qa la : Nat → Nat} {M : mT} (h : rC S th ar pa qa la M) (x : Int32) : xMet l D n0 mS_labelAt 0 0 [.inr (.inr (some th)), .inl x] S (fun r S' => r = some (.inr (.inr (if 0 ≤ x.toInt ∧ x.toInt < M 25 0 then some (la x.toNatClampNeg) else none))) ∧ S' = S) := by
  refine xMet.of (k := mS_labelAt) (own := 3) (ini := false) xm_S_labelAt (by decide +kernel) (by decide +kernel) (by decide) (Nat.le_of_ble_eq_true rfl) ?_
  intro V hV
  show V 0 [some (.inr (.inr (some th))), some (.inl x)] [] S 0 0
  have h1 := h.2.1.1.1
  have h2 := (h.2.1.2.1 2 (by decide)).1
  have h3 := h.2.1.2.2.1.2.2.1
  have h4 := h.2.1.2.2.2.1.2.2.1
  refine xrun_ok hV [] 20 _ _ _ _ _ _ ?_
  simp (maxDischargeDepth := 60) only [xrun, xisc, ↓xstep, xget, xtgt, xcmp, xacmp, xprev, xisR, xnt, List.set, List.length, xsw, xlk, true_or, or_true, if_true, if_false, true_and, and_true, List.mem_cons, List.not_mem_nil, or_false, false_or, Bool.false_eq_true, reduceCtorEq, not_false_eq_true, forall_const, Nat.zero_add, Nat.reduceAdd, Nat.reduceSub, Int.reduceAdd, Int.reduceNeg, Int.reduceToNat, Nat.reduceEqDiff, Nat.reduceLT, Nat.reduceLeDiff, Int.reduceLE, Int.reduceLT, reduceIte, Int.cast_ofNat_Int, Int.natCast_zero, Int.natCast_one, Int.reduceAdd, eq_self, Int.reduceSub, List.length_cons, List.length_nil, xli_m1, xli_0, xli_1, xli_2, xli_3, xli_4, xli_5, xlb_8, xlb_12, xlb_31, xlb_32, xlb_64, xls_256, xls_513, xls_2048, xls_4096, xll_0, xll_1, xnr_i, xnr_0, xnr_1, xnr_ite, xft_i, xft_0, xft_1, xat_999, xat_1001, xat_1002, xat_1003, xat_2001, xat_2002, xat_2003, List.getElem?_cons_succ, List.getElem?_cons_zero, xfn_0, xfn_1, xfn_2, xfn_3, x10, x01, not_true_eq_false, false_implies, implies_true, true_implies, xrm_c, xrm_s, xnl_4, xnl_32, xnl_64, xnl_256, xtn_4, xtn_32, xtn_64, xtn_256, Option.some.injEq, Sum.inl.injEq, Sum.inr.injEq, exists_eq_left', exists_eq_right, Option.toList_some, Option.toList_none, List.cons_append, List.nil_append, xE, lg_cmp_ge, lg_cmp_le, lg_cmp_gt, lg_cmp_lt, lg_cmp_eq, Nat.le_refl, Nat.zero_le, ne_eq, Nat.add_zero, dS_labelAt_0, dS_labelAt_1, dS_labelAt_4, dS_labelAt_5, dS_labelAt_6, dS_labelAt_9, dS_labelAt_10, dS_labelAt_13, dS_labelAt_14, dS_labelAt_17, dS_labelAt_18, dS_labelAt_19, dS_labelAt_22, dS_labelAt_23, xf_3_23, h1, h2, h3, h4]
  refine ⟨fun z => ⟨Or.inl ⟨_, rfl⟩, ?_⟩, fun z => ⟨⟨_, rfl⟩, fun z1 => ⟨Or.inl ⟨_, rfl⟩, ?_⟩, fun z1 => ⟨⟨_, rfl⟩, ?_, Or.inl ⟨_, rfl⟩, ?_⟩⟩⟩
  · rw [xI32lt] at z
    rw [if_neg (fun q => by have : x.toInt < 0 := z; omega)]
  · rw [xI32le] at z1
    have z2 : (64 : Int) ≤ x.toInt := z1
    have := h.1.1.2.2.2
    rw [if_neg (by omega)]
  · rw [xI32lt] at z
    rw [xI32le] at z1
    have z2 : ¬ (64 : Int) ≤ x.toInt := z1
    have z3 : ¬ x.toInt < 0 := z
    exact vp_in_iff.mpr ⟨by omega, by omega⟩
  · rw [xI32lt] at z
    rw [xI32le] at z1
    have z2 : ¬ (64 : Int) ≤ x.toInt := z1
    have z3 : ¬ x.toInt < 0 := z
    have z4 : x.toNatClampNeg = x.toInt.toNat := rfl
    rw [h.2.2.1.2.2 x.toNatClampNeg (by omega)]
    by_cases hz : x.toInt < M 25 0
    · rw [if_pos (by omega), if_pos ⟨by omega, hz⟩]
    · rw [if_neg (by omega), if_neg (fun q => hz q.2)]
end LEAF
end
section
/-! CONSTRUCTORS of the class -/
section CTOR
variable {l : Launch} {D : va_G} {n0 : Nat}
set_option maxHeartbeats 4000000 in
set_option maxRecDepth 100000 in
theorem c_B_init (S : xS) {a : Nat} (h : xc S a = 1) : xMet l D n0 mB_init 0 0 [.inr (.inr (some a))] S (fun r S' => r = none ∧ S' = S) := by
  refine xMet.of (k := mB_init) (own := 0) (ini := true) xm_B_init (by decide +kernel) (by decide +kernel) (by decide) (Nat.le_of_ble_eq_true rfl) ?_
  intro V hV
  show V 0 [some (.inr (.inr (some a)))] [] S 0 0
  refine xrun_ok hV [] 20 _ _ _ _ _ _ ?_
  simp (maxDischargeDepth := 60) only [xrun, xisc, ↓xstep, xget, xtgt, xcmp, xacmp, xprev, xisR, xnt, List.set, List.length, xsw, xlk, true_or, or_true, if_true, if_false, true_and, and_true, List.mem_cons, List.not_mem_nil, or_false, false_or, Bool.false_eq_true, reduceCtorEq, not_false_eq_true, forall_const, Nat.zero_add, Nat.reduceAdd, Nat.reduceSub, Int.reduceAdd, Int.reduceNeg, Int.reduceToNat, Nat.reduceEqDiff, Nat.reduceLT, Nat.reduceLeDiff, Int.reduceLE, Int.reduceLT, reduceIte, Int.cast_ofNat_Int, Int.natCast_zero, Int.natCast_one, Int.reduceAdd, eq_self, Int.reduceSub, List.length_cons, List.length_nil, xli_m1, xli_0, xli_1, xli_2, xli_3, xli_4, xli_5, xlb_8, xlb_12, xlb_31, xlb_32, xlb_64, xls_256, xls_513, xls_2048, xls_4096, xll_0, xll_1, xnr_i, xnr_0, xnr_1, xnr_ite, xft_i, xft_0, xft_1, xat_999, xat_1001, xat_1002, xat_1003, xat_2001, xat_2002, xat_2003, List.getElem?_cons_succ, List.getElem?_cons_zero, xfn_0, xfn_1, xfn_2, xfn_3, x10, x01, not_true_eq_false, false_implies, implies_true, true_implies, xrm_c, xrm_s, xnl_4, xnl_32, xnl_64, xnl_256, xtn_4, xtn_32, xtn_64, xtn_256, Option.some.injEq, Sum.inl.injEq, Sum.inr.injEq, exists_eq_left', exists_eq_right, Option.toList_some, Option.toList_none, List.cons_append, List.nil_append, xE, lg_cmp_ge, lg_cmp_le, lg_cmp_gt, lg_cmp_lt, lg_cmp_eq, Nat.le_refl, Nat.zero_le, ne_eq, Nat.add_zero, dB_init_0, dB_init_1, dB_init_4, xo_0_1]
  exact ⟨⟨_, rfl⟩, by decide, by decide⟩
set_option maxHeartbeats 4000000 in
set_option maxRecDepth 100000 in
theorem c_P_init (S : xS) {a : Nat} (h : xc S a = 2) (n o p : Int32) : xMet l D n0 mP_init 0 0 [.inr (.inr (some a)), .inl n, .inl o, .inl p] S (fun r S' => r = none ∧ S' = xpi (xpi (xpi S a 0 n) a 1 o) a 2 p) := by
  refine xMet.of (k := mP_init) (own := 1) (ini := true) xm_P_init (by decide +kernel) (by decide +kernel) (by decide) (Nat.le_of_ble_eq_true rfl) ?_
  intro V hV
  show V 0 [some (.inr (.inr (some a))), some (.inl n), some (.inl o), some (.inl p)] [] S 0 0
  refine xrun_ok hV [] 20 _ _ _ _ _ _ ?_
  simp (maxDischargeDepth := 60) only [xrun, xisc, ↓xstep, xget, xtgt, xcmp, xacmp, xprev, xisR, xnt, List.set, List.length, xsw, xlk, true_or, or_true, if_true, if_false, true_and, and_true, List.mem_cons, List.not_mem_nil, or_false, false_or, Bool.false_eq_true, reduceCtorEq, not_false_eq_true, forall_const, Nat.zero_add, Nat.reduceAdd, Nat.reduceSub, Int.reduceAdd, Int.reduceNeg, Int.reduceToNat, Nat.reduceEqDiff, Nat.reduceLT, Nat.reduceLeDiff, Int.reduceLE, Int.reduceLT, reduceIte, Int.cast_ofNat_Int, Int.natCast_zero, Int.natCast_one, Int.reduceAdd, eq_self, Int.reduceSub, List.length_cons, List.length_nil, xli_m1, xli_0, xli_1, xli_2, xli_3, xli_4, xli_5, xlb_8, xlb_12, xlb_31, xlb_32, xlb_64, xls_256, xls_513, xls_2048, xls_4096, xll_0, xll_1, xnr_i, xnr_0, xnr_1, xnr_ite, xft_i, xft_0, xft_1, xat_999, xat_1001, xat_1002, xat_1003, xat_2001, xat_2002, xat_2003, List.getElem?_cons_succ, List.getElem?_cons_zero, xfn_0, xfn_1, xfn_2, xfn_3, x10, x01, not_true_eq_false, false_implies, implies_true, true_implies, xrm_c, xrm_s, xnl_4, xnl_32, xnl_64, xnl_256, xtn_4, xtn_32, xtn_64, xtn_256, Option.some.injEq, Sum.inl.injEq, Sum.inr.injEq, exists_eq_left', exists_eq_right, Option.toList_some, Option.toList_none, List.cons_append, List.nil_append, xE, lg_cmp_ge, lg_cmp_le, lg_cmp_gt, lg_cmp_lt, lg_cmp_eq, Nat.le_refl, Nat.zero_le, ne_eq, Nat.add_zero, dP_init_0, dP_init_1, dP_init_4, dP_init_5, dP_init_6, dP_init_9, dP_init_10, dP_init_11, dP_init_14, dP_init_15, dP_init_16, dP_init_19, xo_1_1, xf_1_7, xf_1_13, xf_1_16, h, xc_pi]
  exact ⟨⟨_, rfl⟩, by decide, by decide⟩
def sQ1 (S : xS) (a : Nat) (s : Int32) (pt : Option Nat) (w b : Int32) : xS := xpi (xpi (xpi (xpi (xpi (xpi (xpr (xpr (xpi S a 0 s) a 1 pt) a 2 none) a 3 0) a 4 0) a 5 w) a 6 b) a 7 b) a 8 b
set_option maxHeartbeats 4000000 in
set_option maxRecDepth 100000 in
theorem c_Q_init (S : xS) {a : Nat} (h : xc S a = 3) (s w b : Int32) (pt : Option Nat) : xMet l D n0 mQ_init 0 0 [.inr (.inr (some a)), .inl s, .inr (.inr pt), .inl w, .inl b] S (fun r S' => r = none ∧ S' = sQ1 S a s pt w b) := by
  refine xMet.of (k := mQ_init) (own := 2) (ini := true) xm_Q_init (by decide +kernel) (by decide +kernel) (by decide) (Nat.le_of_ble_eq_true rfl) ?_
  intro V hV
  show V 0 [some (.inr (.inr (some a))), some (.inl s), some (.inr (.inr pt)), some (.inl w), some (.inl b)] [] S 0 0
  refine xrun_ok hV [] 60 _ _ _ _ _ _ ?_
  simp (maxDischargeDepth := 60) only [xrun, xisc, ↓xstep, xget, xtgt, xcmp, xacmp, xprev, xisR, xnt, List.set, List.length, xsw, xlk, true_or, or_true, if_true, if_false, true_and, and_true, List.mem_cons, List.not_mem_nil, or_false, false_or, Bool.false_eq_true, reduceCtorEq, not_false_eq_true, forall_const, Nat.zero_add, Nat.reduceAdd, Nat.reduceSub, Int.reduceAdd, Int.reduceNeg, Int.reduceToNat, Nat.reduceEqDiff, Nat.reduceLT, Nat.reduceLeDiff, Int.reduceLE, Int.reduceLT, reduceIte, Int.cast_ofNat_Int, Int.natCast_zero, Int.natCast_one, Int.reduceAdd, eq_self, Int.reduceSub, List.length_cons, List.length_nil, xli_m1, xli_0, xli_1, xli_2, xli_3, xli_4, xli_5, xlb_8, xlb_12, xlb_31, xlb_32, xlb_64, xls_256, xls_513, xls_2048, xls_4096, xll_0, xll_1, xnr_i, xnr_0, xnr_1, xnr_ite, xft_i, xft_0, xft_1, xat_999, xat_1001, xat_1002, xat_1003, xat_2001, xat_2002, xat_2003, List.getElem?_cons_succ, List.getElem?_cons_zero, xfn_0, xfn_1, xfn_2, xfn_3, x10, x01, not_true_eq_false, false_implies, implies_true, true_implies, xrm_c, xrm_s, xnl_4, xnl_32, xnl_64, xnl_256, xtn_4, xtn_32, xtn_64, xtn_256, Option.some.injEq, Sum.inl.injEq, Sum.inr.injEq, exists_eq_left', exists_eq_right, Option.toList_some, Option.toList_none, List.cons_append, List.nil_append, xE, lg_cmp_ge, lg_cmp_le, lg_cmp_gt, lg_cmp_lt, lg_cmp_eq, Nat.le_refl, Nat.zero_le, ne_eq, Nat.add_zero, dQ_init_0, dQ_init_1, dQ_init_4, dQ_init_5, dQ_init_6, dQ_init_9, dQ_init_10, dQ_init_11, dQ_init_14, dQ_init_15, dQ_init_16, dQ_init_19, dQ_init_20, dQ_init_21, dQ_init_24, dQ_init_25, dQ_init_26, dQ_init_29, dQ_init_30, dQ_init_31, dQ_init_34, dQ_init_35, dQ_init_37, dQ_init_40, dQ_init_41, dQ_init_43, dQ_init_46, dQ_init_47, dQ_init_49, dQ_init_52, xo_2_3, xf_2_9, xf_2_15, xf_2_19, xf_2_23, xf_2_26, xf_2_30, xf_2_33, xf_2_36, xf_2_39, h, xc_pi, xc_pr]
  exact ⟨⟨_, rfl⟩, by decide, by decide, rfl⟩
def sQ2 (S : xS) (a : Nat) (s : Int32) (pt lb : Option Nat) (c t g : Int32) : xS := xpi (xpi (xpi (xpi (xpi (xpi (xpr (xpr (xpi S a 0 s) a 1 pt) a 2 lb) a 3 c) a 4 t) a 5 0) a 6 0) a 7 g) a 8 g
set_option maxHeartbeats 4000000 in
set_option maxRecDepth 100000 in
theorem c_Q_init2 (S : xS) {a : Nat} (h : xc S a = 3) (s c t : Int32) (pt lb : Option Nat) (ht : xfit .boolean t) : xMet l D n0 mQ_init2 0 0 [.inr (.inr (some a)), .inl s, .inr (.inr pt), .inr (.inr lb), .inl c, .inl t] S (fun r S' => r = none ∧ S' = sQ2 S a s pt lb c t (if s = 1 then 8 else 4)) := by
  refine xMet.of (k := mQ_init2) (own := 2) (ini := true) xm_Q_init2 (by decide +kernel) (by decide +kernel) (by decide) (Nat.le_of_ble_eq_true rfl) ?_
  intro V hV
  show V 0 [some (.inr (.inr (some a))), some (.inl s), some (.inr (.inr pt)), some (.inr (.inr lb)), some (.inl c), some (.inl t)] [] S 0 0
  refine xrun_ok hV [] 60 _ _ _ _ _ _ ?_
  simp (maxDischargeDepth := 60) only [xrun, xisc, ↓xstep, xget, xtgt, xcmp, xacmp, xprev, xisR, xnt, List.set, List.length, xsw, xlk, true_or, or_true, if_true, if_false, true_and, and_true, List.mem_cons, List.not_mem_nil, or_false, false_or, Bool.false_eq_true, reduceCtorEq, not_false_eq_true, forall_const, Nat.zero_add, Nat.reduceAdd, Nat.reduceSub, Int.reduceAdd, Int.reduceNeg, Int.reduceToNat, Nat.reduceEqDiff, Nat.reduceLT, Nat.reduceLeDiff, Int.reduceLE, Int.reduceLT, reduceIte, Int.cast_ofNat_Int, Int.natCast_zero, Int.natCast_one, Int.reduceAdd, eq_self, Int.reduceSub, List.length_cons, List.length_nil, xli_m1, xli_0, xli_1, xli_2, xli_3, xli_4, xli_5, xlb_8, xlb_12, xlb_31, xlb_32, xlb_64, xls_256, xls_513, xls_2048, xls_4096, xll_0, xll_1, xnr_i, xnr_0, xnr_1, xnr_ite, xft_i, xft_0, xft_1, xat_999, xat_1001, xat_1002, xat_1003, xat_2001, xat_2002, xat_2003, List.getElem?_cons_succ, List.getElem?_cons_zero, xfn_0, xfn_1, xfn_2, xfn_3, x10, x01, not_true_eq_false, false_implies, implies_true, true_implies, xrm_c, xrm_s, xnl_4, xnl_32, xnl_64, xnl_256, xtn_4, xtn_32, xtn_64, xtn_256, Option.some.injEq, Sum.inl.injEq, Sum.inr.injEq, exists_eq_left', exists_eq_right, Option.toList_some, Option.toList_none, List.cons_append, List.nil_append, xE, lg_cmp_ge, lg_cmp_le, lg_cmp_gt, lg_cmp_lt, lg_cmp_eq, Nat.le_refl, Nat.zero_le, ne_eq, Nat.add_zero, dQ_init2_0, dQ_init2_1, dQ_init2_4, dQ_init2_5, dQ_init2_6, dQ_init2_9, dQ_init2_10, dQ_init2_11, dQ_init2_14, dQ_init2_15, dQ_init2_16, dQ_init2_19, dQ_init2_20, dQ_init2_22, dQ_init2_25, dQ_init2_26, dQ_init2_28, dQ_init2_31, dQ_init2_32, dQ_init2_33, dQ_init2_36, dQ_init2_37, dQ_init2_38, dQ_init2_41, dQ_init2_42, dQ_init2_43, dQ_init2_44, dQ_init2_47, dQ_init2_49, dQ_init2_52, dQ_init2_53, dQ_init2_56, dQ_init2_57, dQ_init2_58, dQ_init2_61, dQ_init2_64, xo_2_3, xf_2_9, xf_2_15, xf_2_19, xf_2_23, xf_2_26, xf_2_30, xf_2_33, xf_2_36, xf_2_39, h, xc_pi, xc_pr, ht, xi_pi]
  refine ⟨⟨_, rfl⟩, by decide, by decide, fun z => ?_, fun z => ?_⟩
  · rw [if_neg z]; rfl
  · rw [if_pos z]; rfl
set_option maxHeartbeats 4000000 in
set_option maxRecDepth 100000 in
theorem c_S_init (S : xS) {a : Nat} (h : xc S a = 4) (hl : a < xn S) (hz : ∀ k, xi S a k = 0) : xMet l D n0 mS_init 6 364 [.inr (.inr (some a))] S (fun r S' => r = none ∧ S' = mkA S a [(0, 2001, 32), (1, 2002, 256), (2, 2003, 64), (3, 1001, 4), (4, 1001, 4), (5, 1001, 4)]) := by
  refine xMet.of (k := mS_init) (own := 3) (ini := true) xm_S_init (by decide +kernel) (by decide +kernel) (by decide) (Nat.le_of_ble_eq_true rfl) ?_
  intro V hV
  show V 0 [some (.inr (.inr (some a)))] [] S 0 0
  refine xrun_ok hV [] 60 _ _ _ _ _ _ ?_
  simp (maxDischargeDepth := 60) only [xrun, xisc, ↓xstep, xget, xtgt, xcmp, xacmp, xprev, xisR, xnt, List.set, List.length, xsw, xlk, true_or, or_true, if_true, if_false, true_and, and_true, List.mem_cons, List.not_mem_nil, or_false, false_or, Bool.false_eq_true, reduceCtorEq, not_false_eq_true, forall_const, Nat.zero_add, Nat.reduceAdd, Nat.reduceSub, Int.reduceAdd, Int.reduceNeg, Int.reduceToNat, Nat.reduceEqDiff, Nat.reduceLT, Nat.reduceLeDiff, Int.reduceLE, Int.reduceLT, reduceIte, Int.cast_ofNat_Int, Int.natCast_zero, Int.natCast_one, Int.reduceAdd, eq_self, Int.reduceSub, List.length_cons, List.length_nil, xli_m1, xli_0, xli_1, xli_2, xli_3, xli_4, xli_5, xlb_8, xlb_12, xlb_31, xlb_32, xlb_64, xls_256, xls_513, xls_2048, xls_4096, xll_0, xll_1, xnr_i, xnr_0, xnr_1, xnr_ite, xft_i, xft_0, xft_1, xat_999, xat_1001, xat_1002, xat_1003, xat_2001, xat_2002, xat_2003, List.getElem?_cons_succ, List.getElem?_cons_zero, xfn_0, xfn_1, xfn_2, xfn_3, x10, x01, not_true_eq_false, false_implies, implies_true, true_implies, xrm_c, xrm_s, xnl_4, xnl_32, xnl_64, xnl_256, xtn_4, xtn_32, xtn_64, xtn_256, Option.some.injEq, Sum.inl.injEq, Sum.inr.injEq, exists_eq_left', exists_eq_right, Option.toList_some, Option.toList_none, List.cons_append, List.nil_append, xE, lg_cmp_ge, lg_cmp_le, lg_cmp_gt, lg_cmp_lt, lg_cmp_eq, Nat.le_refl, Nat.zero_le, ne_eq, Nat.add_zero, dS_init_0, dS_init_1, dS_init_4, dS_init_5, dS_init_7, dS_init_10, dS_init_13, dS_init_14, dS_init_17, dS_init_20, dS_init_23, dS_init_24, dS_init_26, dS_init_29, dS_init_32, dS_init_33, dS_init_34, dS_init_36, dS_init_39, dS_init_40, dS_init_41, dS_init_43, dS_init_46, dS_init_47, dS_init_48, dS_init_50, dS_init_53, xo_3_3, xe_3_9, xg_3_9, xf_3_11, xe_3_15, xg_3_15, xf_3_17, xe_3_21, xg_3_21, xf_3_23, xf_3_27, xf_3_31, xf_3_34, h, xc_pr, xc_mk_lt, xn_pr, xn_mk, hl, xlt_s]
  refine ⟨⟨_, rfl⟩, by decide, by decide, ?_, ?_, ?_, ?_, ?_, rfl⟩ <;> (repeat first | rw [xc_pr] | rw [xc_mk_lt (by first | exact hl | (simp only [xn_pr, xn_mk]; omega))]) <;> exact h
end CTOR
end
section
/-! HOW THE PICTURE OF THE CLASS IS KEPT -/
theorem xne {S : xS} {a b t u : Nat} (ha : xc S a = t) (hb : xc S b = u) (h : t ≠ u) : a ≠ b := by
  rintro rfl
  exact h (ha.symm.trans hb)
theorem rP.pi {S : xS} {pa qa : Nat → Nat} {M : mT} {p a k : Nat} {x : Int32} (h : rP S pa qa M p) (hne : pa p ≠ a) : rP (xpi S a k x) pa qa M p := by
  simpa only [rP, xc_pi, xn_pi, xr_pi, xi_pi, hne, false_and, if_false] using h
theorem rP.pr {S : xS} {pa qa : Nat → Nat} {M : mT} {p a k : Nat} {x : Option Nat} (h : rP S pa qa M p) (hne : pa p ≠ a) : rP (xpr S a k x) pa qa M p := by
  simpa only [rP, xc_pr, xn_pr, xi_pr, xr_pr, hne, false_and, if_false] using h
theorem rP.mk {S : xS} {pa qa : Nat → Nat} {M : mT} {p t n : Nat} (h : rP S pa qa M p) : rP (xmk S t n) pa qa M p := by
  have hne : pa p ≠ xn S := Nat.ne_of_lt h.1.2
  have hlt : pa p < xn S + 1 := Nat.lt_succ_of_lt h.1.2
  obtain ⟨⟨h1, -⟩, h2⟩ := h
  exact ⟨⟨by rw [xc_mk, if_neg hne]; exact h1, hlt⟩, by simpa only [xi_mk, xr_mk, hne, if_false] using h2⟩
theorem rQ.pi {S : xS} {pa qa la : Nat → Nat} {M : mT} {p a k : Nat} {x : Int32} (h : rQ S pa qa la M p) (hne : qa p ≠ a) : rQ (xpi S a k x) pa qa la M p := by
  simpa only [rQ, xc_pi, xn_pi, xr_pi, xi_pi, hne, false_and, if_false] using h
theorem rQ.pr {S : xS} {pa qa la : Nat → Nat} {M : mT} {p a k : Nat} {x : Option Nat} (h : rQ S pa qa la M p) (hne : qa p ≠ a) : rQ (xpr S a k x) pa qa la M p := by
  simpa only [rQ, xc_pr, xn_pr, xi_pr, xr_pr, hne, false_and, if_false] using h
theorem rQ.mk {S : xS} {pa qa la : Nat → Nat} {M : mT} {p t n : Nat} (h : rQ S pa qa la M p) : rQ (xmk S t n) pa qa la M p := by
  have hne : qa p ≠ xn S := Nat.ne_of_lt h.1.2
  have hlt : qa p < xn S + 1 := Nat.lt_succ_of_lt h.1.2
  obtain ⟨⟨h1, -⟩, h2⟩ := h
  exact ⟨⟨by rw [xc_mk, if_neg hne]; exact h1, hlt⟩, by simpa only [xi_mk, xr_mk, hne, if_false] using h2⟩
theorem rB.pi {S : xS} {qa la : Nat → Nat} {M : mT} {p a k : Nat} {x : Int32} (h : rB S qa la M p) (hne : la p ≠ a) : rB (xpi S a k x) qa la M p := by
  simpa only [rB, xc_pi, xn_pi, xr_pi, xi_pi, hne, false_and, if_false] using h
theorem rB.pr {S : xS} {qa la : Nat → Nat} {M : mT} {p a k : Nat} {x : Option Nat} (h : rB S qa la M p) (hne : la p ≠ a) : rB (xpr S a k x) qa la M p := by
  simpa only [rB, xc_pr, xn_pr, xi_pr, xr_pr, hne, false_and, if_false] using h
theorem rB.mk {S : xS} {qa la : Nat → Nat} {M : mT} {p t n : Nat} (h : rB S qa la M p) : rB (xmk S t n) qa la M p := by
  have hne : la p ≠ xn S := Nat.ne_of_lt h.1.2
  have hlt : la p < xn S + 1 := Nat.lt_succ_of_lt h.1.2
  obtain ⟨⟨h1, -⟩, h2⟩ := h
  exact ⟨⟨by rw [xc_mk, if_neg hne]; exact h1, hlt⟩, by simpa only [xi_mk, xr_mk, hne, if_false] using h2⟩
-- the models agree where it counts
theorem mnx_congr {M M' : mT} {p : Nat} : ∀ (d k : Nat), (∀ j, j < k + d → M' 14 j = M 14 j) → mnx M' p k d = mnx M p k d
  | 0, k, _ => rfl
  | d + 1, k, h => by
    rw [mnx, mnx, h k (by omega), mnx_congr d (k + 1) (fun j hj => h j (by omega))]
theorem mla_congr {M M' : mT} {p : Nat} : ∀ (k : Nat), (∀ j, j < k → M' 14 j = M 14 j) → mla M' p k = mla M p k
  | 0, _ => rfl
  | k + 1, h => by
    rw [mla, mla, h k (by omega), mla_congr k (fun j hj => h j (by omega))]
theorem mnx_lt {M : mT} {p : Nat} : ∀ (d k j : Nat), mnx M p k d = some j → k ≤ j ∧ j < k + d ∧ M 14 j = p
  | 0, k, j, h => by cases h
  | d + 1, k, j, h => by
    rw [mnx] at h
    split at h
    · cases h; rename_i e; exact ⟨Nat.le_refl _, by omega, e⟩
    · obtain ⟨h1, h2, h3⟩ := mnx_lt d (k + 1) j h
      exact ⟨by omega, by omega, h3⟩
theorem mla_lt {M : mT} {p : Nat} : ∀ (k j : Nat), mla M p k = some j → j < k ∧ M 14 j = p
  | 0, j, h => by cases h
  | k + 1, j, h => by
    rw [mla] at h
    split at h
    · cases h; rename_i e; exact ⟨by omega, e⟩
    · obtain ⟨h1, h2⟩ := mla_lt k j h
      exact ⟨by omega, h2⟩
theorem rP.to {S : xS} {pa qa pa' qa' : Nat → Nat} {M M' : mT} {p : Nat} (h : rP S pa qa M p) (hp : pa' p = pa p) (hq : ∀ k, k < M 12 0 → qa' k = qa k) (h12 : M' 12 0 = M 12 0) (h14 : ∀ k, k < M 12 0 → M' 14 k = M 14 k) (h5 : M' 5 p = M 5 p ∧ M' 6 p = M 6 p ∧ M' 7 p = M 7 p ∧ M' 8 p = M 8 p) : rP S pa' qa' M' p := by
  obtain ⟨e5, e6, e7, e8⟩ := h5
  have hm : ∀ o : Option Nat, (∀ j, o = some j → j < M 12 0) → o.map qa' = o.map qa := by
    intro o ho
    cases o with
    | none => rfl
    | some j => simp [hq j (ho j rfl)]
  have e1 : (mfirst M' p).map qa' = (mfirst M p).map qa := by
    unfold mfirst
    rw [h12, mnx_congr (M := M) _ _ (fun j hj => h14 j (by omega))]
    exact hm _ (fun j hj => by have := mnx_lt _ _ _ hj; omega)
  have e2 : (mla M' p (M' 12 0)).map qa' = (mla M p (M 12 0)).map qa := by
    rw [h12, mla_congr (M := M) _ (fun j hj => h14 j hj)]
    exact hm _ (fun j hj => (mla_lt _ _ hj).1)
  unfold rP
  rw [hp, e1, e2, e5, e6, e7, e8]
  exact h
theorem rQ.to {S : xS} {pa qa la pa' qa' la' : Nat → Nat} {M M' : mT} {k : Nat} (h : rQ S pa qa la M k) (hk : k < M 12 0) (hpa : pa' (M 14 k) = pa (M 14 k)) (hq : ∀ j, j < M 12 0 → qa' j = qa j) (hla : maim M k = true → la' (M 18 k) = la (M 18 k)) (h12 : M' 12 0 = M 12 0) (h14 : ∀ j, j < M 12 0 → M' 14 j = M 14 j)
    (hf : M' 13 k = M 13 k ∧ (M 13 k ≠ 4 → M' 15 k = M 15 k) ∧ M' 16 k = M 16 k ∧ M' 17 k = M 17 k ∧ M' 18 k = M 18 k ∧ M' 19 k = M 19 k ∧ M' 20 k = M 20 k ∧ M' 21 k = M 21 k) : rQ S pa' qa' la' M' k := by
  obtain ⟨e13, e15, e16, e17, e18, e19, e20, e21⟩ := hf
  have ea : maim M' k = maim M k := by simp [maim, e13]
  have e1 : (mnext M' k).map qa' = (mnext M k).map qa := by
    unfold mnext
    rw [h12, h14 k hk, mnx_congr (M := M) _ _ (fun j hj => h14 j (by omega))]
    cases ho : mnx M (M 14 k) (k + 1) (M 12 0 - (k + 1)) with
    | none => rfl
    | some j =>
      have := mnx_lt _ _ _ ho
      simp [hq j (by omega)]
  have e2 : (if maim M k = true then some (la' (M 18 k)) else none) = (if maim M k = true then some (la (M 18 k)) else none) := by
    by_cases z : maim M k = true
    · rw [if_pos z, if_pos z, hla z]
    · rw [if_neg z, if_neg z]
  obtain ⟨h1, h2, h3, h4, h5⟩ := h
  unfold rQ
  rw [hq k hk, e1, e13, h14 k hk, hpa, ea, e16, e17, e18, e19, e20, e21, e2]
  exact ⟨h1, h2, fun z => by rw [e15 z]; exact h3 z, h4, h5⟩
theorem rB.to {S : xS} {qa la qa' la' : Nat → Nat} {M M' : mT} {j : Nat} (h : rB S qa la M j) (hla : la' j = la j) (h26 : M' 26 j = M 26 j) (h27 : M' 27 j = M 27 j) (hq : M 26 j ≠ 0 → qa' (M 26 j - 1) = qa (M 26 j - 1)) : rB S qa' la' M' j := by
  have e : (if M 26 j = 0 then none else some (qa' (M 26 j - 1))) = (if M 26 j = 0 then none else some (qa (M 26 j - 1))) := by
    by_cases z : M 26 j = 0
    · rw [if_pos z, if_pos z]
    · rw [if_neg z, if_neg z, hq z]
  unfold rB
  rw [hla, h26, h27, e]
  exact h
theorem rC_init (S : xS) {a : Nat} (h : xc S a = 4) (hl : a < xn S) (hz : ∀ k, xi S a k = 0) (pa qa la : Nat → Nat) : rC (mkA S a [(0, 2001, 32), (1, 2002, 256), (2, 2003, 64), (3, 1001, 4), (4, 1001, 4), (5, 1001, 4)]) a (fun f => xn S + f) pa qa la (fun _ _ => 0) ∧ xFr tC S (mkA S a [(0, 2001, 32), (1, 2002, 256), (2, 2003, 64), (3, 1001, 4), (4, 1001, 4), (5, 1001, 4)]) := by
  generalize hLe : [(0, 2001, 32), (1, 2002, 256), (2, 2003, 64), (3, 1001, 4), (4, 1001, 4), (5, 1001, 4)] = L
  have hn := mkA_n L S a
  obtain ⟨o1, o2, o3, -⟩ := mkA_old L S a a hl
  have ht := (mkA_this L S a hl).1
  have hnew := mkA_new L S a hl
  have hlen : L.length = 6 := by rw [← hLe]; rfl
  have q0 := hnew 0 (0, 2001, 32) (by rw [← hLe]; rfl)
  have q1 := hnew 1 (1, 2002, 256) (by rw [← hLe]; rfl)
  have q2 := hnew 2 (2, 2003, 64) (by rw [← hLe]; rfl)
  have q3 := hnew 3 (3, 1001, 4) (by rw [← hLe]; rfl)
  have q4 := hnew 4 (4, 1001, 4) (by rw [← hLe]; rfl)
  have q5 := hnew 5 (5, 1001, 4) (by rw [← hLe]; rfl)
  have hr : ∀ f, f < 6 → xr (mkA S a L) a f = some (xn S + f) := by
    intro f hf
    have hu : ∀ (i : Nat) (q : Nat × Nat × Nat), L[i]? = some q → q.1 = i := by
      intro i q hq
      have : i < 6 := by rw [← hlen]; exact (List.getElem?_eq_some_iff.mp hq).1
      rw [← hLe] at hq
      rcases (show i = 0 ∨ i = 1 ∨ i = 2 ∨ i = 3 ∨ i = 4 ∨ i = 5 by omega) with rfl | rfl | rfl | rfl | rfl | rfl <;> (simp at hq; rw [← hq])
    have hf' : f < L.length := by omega
    have e := hu f L[f] (List.getElem?_eq_getElem hf')
    have := ht f L[f] (List.getElem?_eq_getElem hf') (fun j q' hj he => by rw [hu j q' hj, e] at he; exact he)
    rw [e] at this
    exact this
  refine ⟨⟨?_, ?_, ?_, ?_, ?_, ?_, ?_, ?_, ?_⟩, ?_⟩
  · refine ⟨⟨by decide, by decide, by decide, by decide⟩, fun o _ => Nat.zero_le _, fun p hp => absurd hp (by simp), fun p hp => absurd hp (by simp), fun p hp => absurd hp (by simp), fun p hp => absurd hp (by simp), fun p hp => absurd hp (by simp), fun p hp => absurd hp (by simp)⟩
  · refine ⟨⟨o1.trans h, by omega⟩, fun f hf => ⟨hr f hf, by show xn S + f < _; omega⟩, ⟨q0.1, q1.1, q2.1, q3.1, q4.1, q5.1⟩, ⟨q0.2.1, q1.2.1, q2.2.1, q3.2.1, q4.2.1, q5.2.1⟩, ⟨by show xn S + 3 ≠ xn S + 4; omega, by show xn S + 3 ≠ xn S + 5; omega, by show xn S + 4 ≠ xn S + 5; omega⟩, ⟨?_, ?_, ?_, ?_⟩, fun o _ => q3.2.2.1 o⟩ <;> (rw [o3, hz]; rfl)
  · exact ⟨fun p _ => by rw [if_neg (by simp)]; exact q0.2.2.2 p, fun p _ => by rw [if_neg (by simp)]; exact q1.2.2.2 p, fun p _ => by rw [if_neg (by simp)]; exact q2.2.2.2 p⟩
  · exact fun p hp => absurd hp (by simp)
  · exact fun p hp => absurd hp (by simp)
  · exact fun p hp => absurd hp (by simp)
  · exact fun i j hi => absurd hi (by simp)
  · exact fun i j hi => absurd hi (by simp)
  · exact fun i j hi => absurd hi (by simp)
  · refine ⟨by omega, fun b hb => ?_⟩
    obtain ⟨b1, b2, b3, b4⟩ := mkA_old L S a b hb
    refine ⟨b1, b2, fun ht k => ⟨b3 k, b4 (fun e => ?_) k⟩⟩
    rw [e, h] at ht
    cases ht
end
section
/-! THE CLASS: base, align, root, put -/
theorem rC.th {S : xS} {th : Nat} {ar pa qa la : Nat → Nat} {M : mT} (h : rC S th ar pa qa la M) : xc S th = 4 := h.2.1.1.1
theorem rC.nP {S : xS} {th : Nat} {ar pa qa la : Nat → Nat} {M : mT} (h : rC S th ar pa qa la M) {p t a : Nat} (hp : p < M 4 0) (ha : xc S a = t) (ht : 2 ≠ t) : pa p ≠ a := xne (h.2.2.2.1 p hp).1.1 ha ht
theorem rC.nQ {S : xS} {th : Nat} {ar pa qa la : Nat → Nat} {M : mT} (h : rC S th ar pa qa la M) {p t a : Nat} (hp : p < M 12 0) (ha : xc S a = t) (ht : 3 ≠ t) : qa p ≠ a := xne (h.2.2.2.2.1 p hp).1.1 ha ht
theorem rC.nB {S : xS} {th : Nat} {ar pa qa la : Nat → Nat} {M : mT} (h : rC S th ar pa qa la M) {p t a : Nat} (hp : p < M 25 0) (ha : xc S a = t) (ht : 1 ≠ t) : la p ≠ a := xne (h.2.2.2.2.2.1 p hp).1.1 ha ht
theorem toInt_le_nI {x : Int32} {n : Nat} (h0 : 0 ≤ x.toInt) (h1 : x.toInt ≤ n) (hn : n < 2 ^ 31) : ∃ j : Nat, j ≤ n ∧ x = nI j := by
  refine ⟨x.toInt.toNat, by omega, ?_⟩
  apply Int32.toInt_inj.mp
  rw [nI_toInt (by omega)]
  omega
section SET
variable {l : Launch} {D : va_G} {n0 : Nat} {S : xS} {th : Nat} {ar pa qa la : Nat → Nat} {M : mT}
theorem rC_base (h : rC S th ar pa qa la M) {b : Nat} (hb : b ≤ 1048576) : rC (xpi S th 9 (nI b)) th ar pa qa la (mset M 0 0 b) := by
  have h0 := h
  obtain ⟨hW, hT, hA, hP, hQ, hB, i1, i2, i3⟩ := h
  refine ⟨?_, ?_, hA, fun p hp => ?_, fun k hk => ?_, fun j hj => ?_, i1, i2, i3⟩
  · obtain ⟨⟨w1, w2⟩, w3⟩ := hW
    exact ⟨⟨hb, w2⟩, w3⟩
  · obtain ⟨t1, t2, t3, t4, t5, ⟨t6, t7, t8, t9⟩, t10⟩ := hT
    refine ⟨t1, t2, t3, t4, t5, ⟨?_, ?_, ?_, ?_⟩, fun o ho => ?_⟩
    · rw [xi_pi, if_neg (by simp)]; exact t6
    · rw [xi_pi, if_neg (by simp)]; exact t7
    · rw [xi_pi, if_neg (by simp)]; exact t8
    · rw [xi_pi, if_pos ⟨rfl, rfl⟩]; rfl
    · rw [xi_pi, if_neg (fun z => xne t3.2.2.2.1 t1.1 (by decide) z.1)]
      exact t10 o ho
  · exact ((hP p hp).pi (h0.nP hp h0.th (by decide))).to rfl (fun _ _ => rfl) rfl (fun _ _ => rfl) ⟨rfl, rfl, rfl, rfl⟩
  · exact ((hQ k hk).pi (h0.nQ hk h0.th (by decide))).to hk rfl (fun _ _ => rfl) (fun _ => rfl) rfl (fun _ _ => rfl) ⟨rfl, fun _ => rfl, rfl, rfl, rfl, rfl, rfl, rfl⟩
  · exact ((hB j hj).pi (h0.nB hj h0.th (by decide))).to rfl rfl rfl (fun _ => rfl)
set_option maxHeartbeats 4000000 in
set_option maxRecDepth 100000 in
theorem c_base (h : rCx S th M) (x : Int32) : xMet l D n0 mS_base 0 0 [.inr (.inr (some th)), .inl x] S (oC S th (oBase M x)) := by
  obtain ⟨ar, pa, qa, la, h⟩ := h
  refine xMet.of (k := mS_base) (own := 3) (ini := false) xm_S_base (by decide +kernel) (by decide +kernel) (by decide) (Nat.le_of_ble_eq_true rfl) ?_
  intro V hV
  show V 0 [some (.inr (.inr (some th))), some (.inl x)] [] S 0 0
  refine xrun_ok hV [] 20 _ _ _ _ _ _ ?_
  simp (maxDischargeDepth := 60) only [xrun, xisc, ↓xstep, xget, xtgt, xcmp, xacmp, xprev, xisR, xnt, List.set, List.length, xsw, xlk, true_or, or_true, if_true, if_false, true_and, and_true, List.mem_cons, List.not_mem_nil, or_false, false_or, Bool.false_eq_true, reduceCtorEq, not_false_eq_true, forall_const, Nat.zero_add, Nat.reduceAdd, Nat.reduceSub, Int.reduceAdd, Int.reduceNeg, Int.reduceToNat, Nat.reduceEqDiff, Nat.reduceLT, Nat.reduceLeDiff, Int.reduceLE, Int.reduceLT, reduceIte, Int.cast_ofNat_Int, Int.natCast_zero, Int.natCast_one, Int.reduceAdd, eq_self, Int.reduceSub, List.length_cons, List.length_nil, xli_m1, xli_0, xli_1, xli_2, xli_3, xli_4, xli_5, xlb_8, xlb_12, xlb_31, xlb_32, xlb_64, xls_256, xls_513, xls_2048, xls_4096, xll_0, xll_1, xnr_i, xnr_0, xnr_1, xnr_ite, xft_i, xft_0, xft_1, xat_999, xat_1001, xat_1002, xat_1003, xat_2001, xat_2002, xat_2003, List.getElem?_cons_succ, List.getElem?_cons_zero, xfn_0, xfn_1, xfn_2, xfn_3, x10, x01, not_true_eq_false, false_implies, implies_true, true_implies, xrm_c, xrm_s, xnl_4, xnl_32, xnl_64, xnl_256, xtn_4, xtn_32, xtn_64, xtn_256, Option.some.injEq, Sum.inl.injEq, Sum.inr.injEq, exists_eq_left', exists_eq_right, Option.toList_some, Option.toList_none, List.cons_append, List.nil_append, xE, lg_cmp_ge, lg_cmp_le, lg_cmp_gt, lg_cmp_lt, lg_cmp_eq, Nat.le_refl, Nat.zero_le, ne_eq, Nat.add_zero, dS_base_0, dS_base_1, dS_base_2, dS_base_3, dS_base_6, dS_base_9, dS_base_12, dS_base_13, dS_base_14, dS_base_15, dS_base_16, dS_base_19, dS_base_20, xj_3_99, xf_3_101]
  refine hV.call [] xh_3_57 dS_base_6 (c_isWithin S x.toInt64 0 1048576) (Or.inl rfl) rfl rfl (by decide) (by decide) (by decide) ?_
  rintro r S' ⟨rfl, rfl⟩
  have hth := h.th
  simp only [Int32.toInt_toInt64]
  rw [show (0 : Int64).toInt = 0 from rfl, show (1048576 : Int64).toInt = 1048576 from rfl]
  by_cases hz : 0 ≤ x.toInt ∧ x.toInt ≤ 1048576
  · rw [if_pos hz]
    refine xrun_ok hV [] 20 _ _ _ _ _ _ ?_
    simp (maxDischargeDepth := 60) only [xrun, xisc, ↓xstep, xget, xtgt, xcmp, xacmp, xprev, xisR, xnt, List.set, List.length, xsw, xlk, true_or, or_true, if_true, if_false, true_and, and_true, List.mem_cons, List.not_mem_nil, or_false, false_or, Bool.false_eq_true, reduceCtorEq, not_false_eq_true, forall_const, Nat.zero_add, Nat.reduceAdd, Nat.reduceSub, Int.reduceAdd, Int.reduceNeg, Int.reduceToNat, Nat.reduceEqDiff, Nat.reduceLT, Nat.reduceLeDiff, Int.reduceLE, Int.reduceLT, reduceIte, Int.cast_ofNat_Int, Int.natCast_zero, Int.natCast_one, Int.reduceAdd, eq_self, Int.reduceSub, List.length_cons, List.length_nil, xli_m1, xli_0, xli_1, xli_2, xli_3, xli_4, xli_5, xlb_8, xlb_12, xlb_31, xlb_32, xlb_64, xls_256, xls_513, xls_2048, xls_4096, xll_0, xll_1, xnr_i, xnr_0, xnr_1, xnr_ite, xft_i, xft_0, xft_1, xat_999, xat_1001, xat_1002, xat_1003, xat_2001, xat_2002, xat_2003, List.getElem?_cons_succ, List.getElem?_cons_zero, xfn_0, xfn_1, xfn_2, xfn_3, x10, x01, not_true_eq_false, false_implies, implies_true, true_implies, xrm_c, xrm_s, xnl_4, xnl_32, xnl_64, xnl_256, xtn_4, xtn_32, xtn_64, xtn_256, Option.some.injEq, Sum.inl.injEq, Sum.inr.injEq, exists_eq_left', exists_eq_right, Option.toList_some, Option.toList_none, List.cons_append, List.nil_append, xE, lg_cmp_ge, lg_cmp_le, lg_cmp_gt, lg_cmp_lt, lg_cmp_eq, Nat.le_refl, Nat.zero_le, ne_eq, Nat.add_zero, dS_base_0, dS_base_1, dS_base_2, dS_base_3, dS_base_6, dS_base_9, dS_base_12, dS_base_13, dS_base_14, dS_base_15, dS_base_16, dS_base_19, dS_base_20, xj_3_99, xf_3_101, hth]
    unfold oBase
    rw [if_pos (inR_iff.mpr hz)]
    have hb := rC_base h (b := x.toNatClampNeg) (by have e : x.toNatClampNeg = x.toInt.toNat := rfl; omega)
    rw [nI_cl hz.1] at hb
    exact ⟨rfl, ⟨ar, pa, qa, la, hb⟩, xFr.pi (by rw [hth]; rfl)⟩
  · rw [if_neg hz]
    refine xrun_ok hV [] 20 _ _ _ _ _ _ ?_
    simp (maxDischargeDepth := 60) only [xrun, xisc, ↓xstep, xget, xtgt, xcmp, xacmp, xprev, xisR, xnt, List.set, List.length, xsw, xlk, true_or, or_true, if_true, if_false, true_and, and_true, List.mem_cons, List.not_mem_nil, or_false, false_or, Bool.false_eq_true, reduceCtorEq, not_false_eq_true, forall_const, Nat.zero_add, Nat.reduceAdd, Nat.reduceSub, Int.reduceAdd, Int.reduceNeg, Int.reduceToNat, Nat.reduceEqDiff, Nat.reduceLT, Nat.reduceLeDiff, Int.reduceLE, Int.reduceLT, reduceIte, Int.cast_ofNat_Int, Int.natCast_zero, Int.natCast_one, Int.reduceAdd, eq_self, Int.reduceSub, List.length_cons, List.length_nil, xli_m1, xli_0, xli_1, xli_2, xli_3, xli_4, xli_5, xlb_8, xlb_12, xlb_31, xlb_32, xlb_64, xls_256, xls_513, xls_2048, xls_4096, xll_0, xll_1, xnr_i, xnr_0, xnr_1, xnr_ite, xft_i, xft_0, xft_1, xat_999, xat_1001, xat_1002, xat_1003, xat_2001, xat_2002, xat_2003, List.getElem?_cons_succ, List.getElem?_cons_zero, xfn_0, xfn_1, xfn_2, xfn_3, x10, x01, not_true_eq_false, false_implies, implies_true, true_implies, xrm_c, xrm_s, xnl_4, xnl_32, xnl_64, xnl_256, xtn_4, xtn_32, xtn_64, xtn_256, Option.some.injEq, Sum.inl.injEq, Sum.inr.injEq, exists_eq_left', exists_eq_right, Option.toList_some, Option.toList_none, List.cons_append, List.nil_append, xE, lg_cmp_ge, lg_cmp_le, lg_cmp_gt, lg_cmp_lt, lg_cmp_eq, Nat.le_refl, Nat.zero_le, ne_eq, Nat.add_zero, dS_base_0, dS_base_1, dS_base_2, dS_base_3, dS_base_6, dS_base_9, dS_base_12, dS_base_13, dS_base_14, dS_base_15, dS_base_16, dS_base_19, dS_base_20, xj_3_99, xf_3_101, hth]
    unfold oBase
    rw [if_neg (fun q => hz (inR_iff.mp q))]
    exact ⟨rfl, ⟨ar, pa, qa, la, h⟩, xFr.rf _ _⟩
theorem rC_align (h : rC S th ar pa qa la M) {o b : Nat} (ho : o < 4) (hb : b ≤ 12) : rC (xpi S (ar 3) o (nI b)) th ar pa qa la (mset M 1 o b) := by
  have h0 := h
  have h3 := h.2.1.2.2.1.2.2.2.1
  obtain ⟨hW, hT, hA, hP, hQ, hB, i1, i2, i3⟩ := h
  refine ⟨?_, ?_, hA, fun p hp => ?_, fun k hk => ?_, fun j hj => ?_, i1, i2, i3⟩
  · obtain ⟨w1, w2, w3⟩ := hW
    refine ⟨w1, fun o' ho' => ?_, w3⟩
    rw [mset_eq]
    split
    · exact hb
    · exact w2 o' ho'
  · obtain ⟨t1, t2, t3, t4, t5, ⟨t6, t7, t8, t9⟩, t10⟩ := hT
    have hne : th ≠ ar 3 := xne t1.1 h3 (by decide)
    refine ⟨t1, t2, t3, t4, t5, ⟨?_, ?_, ?_, ?_⟩, fun o' ho' => ?_⟩
    · rw [xi_pi, if_neg (fun z => hne z.1)]; exact t6
    · rw [xi_pi, if_neg (fun z => hne z.1)]; exact t7
    · rw [xi_pi, if_neg (fun z => hne z.1)]; exact t8
    · rw [xi_pi, if_neg (fun z => hne z.1)]; exact t9
    · rw [xi_pi, mset_eq]
      by_cases e : o' = o
      · rw [if_pos ⟨rfl, e⟩, if_pos ⟨rfl, e⟩]
      · rw [if_neg (fun z => e z.2), if_neg (fun z => e z.2)]
        exact t10 o' ho'
  · exact ((hP p hp).pi (h0.nP hp h3 (by decide))).to rfl (fun _ _ => rfl) rfl (fun _ _ => rfl) ⟨rfl, rfl, rfl, rfl⟩
  · exact ((hQ k hk).pi (h0.nQ hk h3 (by decide))).to hk rfl (fun _ _ => rfl) (fun _ => rfl) rfl (fun _ _ => rfl) ⟨rfl, fun _ => rfl, rfl, rfl, rfl, rfl, rfl, rfl⟩
  · exact ((hB j hj).pi (h0.nB hj h3 (by decide))).to rfl rfl rfl (fun _ => rfl)
set_option maxHeartbeats 4000000 in
set_option maxRecDepth 100000 in
theorem c_align (h : rCx S th M) (x y : Int32) : xMet l D n0 mS_align 0 0 [.inr (.inr (some th)), .inl x, .inl y] S (oC S th (oAlign M x y)) := by
  obtain ⟨ar, pa, qa, la, h⟩ := h
  refine xMet.of (k := mS_align) (own := 3) (ini := false) xm_S_align (by decide +kernel) (by decide +kernel) (by decide) (Nat.le_of_ble_eq_true rfl) ?_
  intro V hV
  show V 0 [some (.inr (.inr (some th))), some (.inl x), some (.inl y)] [] S 0 0
  have h1 := h.th
  have h2 := (h.2.1.2.1 3 (by decide)).1
  have h3 := h.2.1.2.2.1.2.2.2.1
  have h4 := h.2.1.2.2.2.1.2.2.2.1
  refine xrun_ok hV [] 20 _ _ _ _ _ _ ?_
  simp (maxDischargeDepth := 60) only [xrun, xisc, ↓xstep, xget, xtgt, xcmp, xacmp, xprev, xisR, xnt, List.set, List.length, xsw, xlk, true_or, or_true, if_true, if_false, true_and, and_true, List.mem_cons, List.not_mem_nil, or_false, false_or, Bool.false_eq_true, reduceCtorEq, not_false_eq_true, forall_const, Nat.zero_add, Nat.reduceAdd, Nat.reduceSub, Int.reduceAdd, Int.reduceNeg, Int.reduceToNat, Nat.reduceEqDiff, Nat.reduceLT, Nat.reduceLeDiff, Int.reduceLE, Int.reduceLT, reduceIte, Int.cast_ofNat_Int, Int.natCast_zero, Int.natCast_one, Int.reduceAdd, eq_self, Int.reduceSub, List.length_cons, List.length_nil, xli_m1, xli_0, xli_1, xli_2, xli_3, xli_4, xli_5, xlb_8, xlb_12, xlb_31, xlb_32, xlb_64, xls_256, xls_513, xls_2048, xls_4096, xll_0, xll_1, xnr_i, xnr_0, xnr_1, xnr_ite, xft_i, xft_0, xft_1, xat_999, xat_1001, xat_1002, xat_1003, xat_2001, xat_2002, xat_2003, List.getElem?_cons_succ, List.getElem?_cons_zero, xfn_0, xfn_1, xfn_2, xfn_3, x10, x01, not_true_eq_false, false_implies, implies_true, true_implies, xrm_c, xrm_s, xnl_4, xnl_32, xnl_64, xnl_256, xtn_4, xtn_32, xtn_64, xtn_256, Option.some.injEq, Sum.inl.injEq, Sum.inr.injEq, exists_eq_left', exists_eq_right, Option.toList_some, Option.toList_none, List.cons_append, List.nil_append, xE, lg_cmp_ge, lg_cmp_le, lg_cmp_gt, lg_cmp_lt, lg_cmp_eq, Nat.le_refl, Nat.zero_le, ne_eq, Nat.add_zero, dS_align_0, dS_align_1, dS_align_4, dS_align_7, dS_align_8, dS_align_11, dS_align_14, dS_align_15, dS_align_16, dS_align_17, dS_align_20, dS_align_21, dS_align_22, dS_align_23, dS_align_24, xf_3_27]
  refine hV.call [] xh_3_41 dS_align_1 (c_isOutput S x) (Or.inl rfl) rfl rfl (by decide) (by decide) (by decide) ?_
  rintro r S' ⟨rfl, rfl⟩
  by_cases hz : 0 ≤ x.toInt ∧ x.toInt ≤ 3
  · rw [if_pos hz]
    refine xrun_ok hV [] 20 _ _ _ _ _ _ ?_
    simp (maxDischargeDepth := 60) only [xrun, xisc, ↓xstep, xget, xtgt, xcmp, xacmp, xprev, xisR, xnt, List.set, List.length, xsw, xlk, true_or, or_true, if_true, if_false, true_and, and_true, List.mem_cons, List.not_mem_nil, or_false, false_or, Bool.false_eq_true, reduceCtorEq, not_false_eq_true, forall_const, Nat.zero_add, Nat.reduceAdd, Nat.reduceSub, Int.reduceAdd, Int.reduceNeg, Int.reduceToNat, Nat.reduceEqDiff, Nat.reduceLT, Nat.reduceLeDiff, Int.reduceLE, Int.reduceLT, reduceIte, Int.cast_ofNat_Int, Int.natCast_zero, Int.natCast_one, Int.reduceAdd, eq_self, Int.reduceSub, List.length_cons, List.length_nil, xli_m1, xli_0, xli_1, xli_2, xli_3, xli_4, xli_5, xlb_8, xlb_12, xlb_31, xlb_32, xlb_64, xls_256, xls_513, xls_2048, xls_4096, xll_0, xll_1, xnr_i, xnr_0, xnr_1, xnr_ite, xft_i, xft_0, xft_1, xat_999, xat_1001, xat_1002, xat_1003, xat_2001, xat_2002, xat_2003, List.getElem?_cons_succ, List.getElem?_cons_zero, xfn_0, xfn_1, xfn_2, xfn_3, x10, x01, not_true_eq_false, false_implies, implies_true, true_implies, xrm_c, xrm_s, xnl_4, xnl_32, xnl_64, xnl_256, xtn_4, xtn_32, xtn_64, xtn_256, Option.some.injEq, Sum.inl.injEq, Sum.inr.injEq, exists_eq_left', exists_eq_right, Option.toList_some, Option.toList_none, List.cons_append, List.nil_append, xE, lg_cmp_ge, lg_cmp_le, lg_cmp_gt, lg_cmp_lt, lg_cmp_eq, Nat.le_refl, Nat.zero_le, ne_eq, Nat.add_zero, dS_align_0, dS_align_1, dS_align_4, dS_align_7, dS_align_8, dS_align_11, dS_align_14, dS_align_15, dS_align_16, dS_align_17, dS_align_20, dS_align_21, dS_align_22, dS_align_23, dS_align_24, xf_3_27]
    refine hV.call [] xh_3_45 dS_align_8 (c_isPower S' y) (Or.inl rfl) rfl rfl (by decide) (by decide) (by decide) ?_
    rintro r S' ⟨rfl, rfl⟩
    by_cases hy : 0 ≤ y.toInt ∧ y.toInt ≤ 12
    · rw [if_pos hy]
      refine xrun_ok hV [] 20 _ _ _ _ _ _ ?_
      simp (maxDischargeDepth := 60) only [xrun, xisc, ↓xstep, xget, xtgt, xcmp, xacmp, xprev, xisR, xnt, List.set, List.length, xsw, xlk, true_or, or_true, if_true, if_false, true_and, and_true, List.mem_cons, List.not_mem_nil, or_false, false_or, Bool.false_eq_true, reduceCtorEq, not_false_eq_true, forall_const, Nat.zero_add, Nat.reduceAdd, Nat.reduceSub, Int.reduceAdd, Int.reduceNeg, Int.reduceToNat, Nat.reduceEqDiff, Nat.reduceLT, Nat.reduceLeDiff, Int.reduceLE, Int.reduceLT, reduceIte, Int.cast_ofNat_Int, Int.natCast_zero, Int.natCast_one, Int.reduceAdd, eq_self, Int.reduceSub, List.length_cons, List.length_nil, xli_m1, xli_0, xli_1, xli_2, xli_3, xli_4, xli_5, xlb_8, xlb_12, xlb_31, xlb_32, xlb_64, xls_256, xls_513, xls_2048, xls_4096, xll_0, xll_1, xnr_i, xnr_0, xnr_1, xnr_ite, xft_i, xft_0, xft_1, xat_999, xat_1001, xat_1002, xat_1003, xat_2001, xat_2002, xat_2003, List.getElem?_cons_succ, List.getElem?_cons_zero, xfn_0, xfn_1, xfn_2, xfn_3, x10, x01, not_true_eq_false, false_implies, implies_true, true_implies, xrm_c, xrm_s, xnl_4, xnl_32, xnl_64, xnl_256, xtn_4, xtn_32, xtn_64, xtn_256, Option.some.injEq, Sum.inl.injEq, Sum.inr.injEq, exists_eq_left', exists_eq_right, Option.toList_some, Option.toList_none, List.cons_append, List.nil_append, xE, lg_cmp_ge, lg_cmp_le, lg_cmp_gt, lg_cmp_lt, lg_cmp_eq, Nat.le_refl, Nat.zero_le, ne_eq, Nat.add_zero, dS_align_0, dS_align_1, dS_align_4, dS_align_7, dS_align_8, dS_align_11, dS_align_14, dS_align_15, dS_align_16, dS_align_17, dS_align_20, dS_align_21, dS_align_22, dS_align_23, dS_align_24, xf_3_27, h1, h2, h3, h4]
      have e : x.toNatClampNeg = x.toInt.toNat := rfl
      have e2 : y.toNatClampNeg = y.toInt.toNat := rfl
      unfold oAlign
      rw [if_pos ⟨inR_iff.mpr hz, inR_iff.mpr hy⟩]
      have hb := rC_align h (o := x.toNatClampNeg) (b := y.toNatClampNeg) (by omega) (by omega)
      rw [nI_cl hy.1] at hb
      exact ⟨vp_in_iff.mpr ⟨hz.1, by omega⟩, rfl, ⟨ar, pa, qa, la, hb⟩, xFr.pi (by rw [h3]; rfl)⟩
    · rw [if_neg hy]
      refine xrun_ok hV [] 20 _ _ _ _ _ _ ?_
      simp (maxDischargeDepth := 60) only [xrun, xisc, ↓xstep, xget, xtgt, xcmp, xacmp, xprev, xisR, xnt, List.set, List.length, xsw, xlk, true_or, or_true, if_true, if_false, true_and, and_true, List.mem_cons, List.not_mem_nil, or_false, false_or, Bool.false_eq_true, reduceCtorEq, not_false_eq_true, forall_const, Nat.zero_add, Nat.reduceAdd, Nat.reduceSub, Int.reduceAdd, Int.reduceNeg, Int.reduceToNat, Nat.reduceEqDiff, Nat.reduceLT, Nat.reduceLeDiff, Int.reduceLE, Int.reduceLT, reduceIte, Int.cast_ofNat_Int, Int.natCast_zero, Int.natCast_one, Int.reduceAdd, eq_self, Int.reduceSub, List.length_cons, List.length_nil, xli_m1, xli_0, xli_1, xli_2, xli_3, xli_4, xli_5, xlb_8, xlb_12, xlb_31, xlb_32, xlb_64, xls_256, xls_513, xls_2048, xls_4096, xll_0, xll_1, xnr_i, xnr_0, xnr_1, xnr_ite, xft_i, xft_0, xft_1, xat_999, xat_1001, xat_1002, xat_1003, xat_2001, xat_2002, xat_2003, List.getElem?_cons_succ, List.getElem?_cons_zero, xfn_0, xfn_1, xfn_2, xfn_3, x10, x01, not_true_eq_false, false_implies, implies_true, true_implies, xrm_c, xrm_s, xnl_4, xnl_32, xnl_64, xnl_256, xtn_4, xtn_32, xtn_64, xtn_256, Option.some.injEq, Sum.inl.injEq, Sum.inr.injEq, exists_eq_left', exists_eq_right, Option.toList_some, Option.toList_none, List.cons_append, List.nil_append, xE, lg_cmp_ge, lg_cmp_le, lg_cmp_gt, lg_cmp_lt, lg_cmp_eq, Nat.le_refl, Nat.zero_le, ne_eq, Nat.add_zero, dS_align_0, dS_align_1, dS_align_4, dS_align_7, dS_align_8, dS_align_11, dS_align_14, dS_align_15, dS_align_16, dS_align_17, dS_align_20, dS_align_21, dS_align_22, dS_align_23, dS_align_24, xf_3_27, h1, h2, h3, h4]
      unfold oAlign
      rw [if_neg (fun q => hy (inR_iff.mp q.2))]
      exact ⟨rfl, ⟨ar, pa, qa, la, h⟩, xFr.rf _ _⟩
  · rw [if_neg hz]
    refine xrun_ok hV [] 20 _ _ _ _ _ _ ?_
    simp (maxDischargeDepth := 60) only [xrun, xisc, ↓xstep, xget, xtgt, xcmp, xacmp, xprev, xisR, xnt, List.set, List.length, xsw, xlk, true_or, or_true, if_true, if_false, true_and, and_true, List.mem_cons, List.not_mem_nil, or_false, false_or, Bool.false_eq_true, reduceCtorEq, not_false_eq_true, forall_const, Nat.zero_add, Nat.reduceAdd, Nat.reduceSub, Int.reduceAdd, Int.reduceNeg, Int.reduceToNat, Nat.reduceEqDiff, Nat.reduceLT, Nat.reduceLeDiff, Int.reduceLE, Int.reduceLT, reduceIte, Int.cast_ofNat_Int, Int.natCast_zero, Int.natCast_one, Int.reduceAdd, eq_self, Int.reduceSub, List.length_cons, List.length_nil, xli_m1, xli_0, xli_1, xli_2, xli_3, xli_4, xli_5, xlb_8, xlb_12, xlb_31, xlb_32, xlb_64, xls_256, xls_513, xls_2048, xls_4096, xll_0, xll_1, xnr_i, xnr_0, xnr_1, xnr_ite, xft_i, xft_0, xft_1, xat_999, xat_1001, xat_1002, xat_1003, xat_2001, xat_2002, xat_2003, List.getElem?_cons_succ, List.getElem?_cons_zero, xfn_0, xfn_1, xfn_2, xfn_3, x10, x01, not_true_eq_false, false_implies, implies_true, true_implies, xrm_c, xrm_s, xnl_4, xnl_32, xnl_64, xnl_256, xtn_4, xtn_32, xtn_64, xtn_256, Option.some.injEq, Sum.inl.injEq, Sum.inr.injEq, exists_eq_left', exists_eq_right, Option.toList_some, Option.toList_none, List.cons_append, List.nil_append, xE, lg_cmp_ge, lg_cmp_le, lg_cmp_gt, lg_cmp_lt, lg_cmp_eq, Nat.le_refl, Nat.zero_le, ne_eq, Nat.add_zero, dS_align_0, dS_align_1, dS_align_4, dS_align_7, dS_align_8, dS_align_11, dS_align_14, dS_align_15, dS_align_16, dS_align_17, dS_align_20, dS_align_21, dS_align_22, dS_align_23, dS_align_24, xf_3_27, h1, h2, h3, h4]
    unfold oAlign
    rw [if_neg (fun q => hz (inR_iff.mp q.1))]
    exact ⟨rfl, ⟨ar, pa, qa, la, h⟩, xFr.rf _ _⟩
theorem rC_root (h : rC S th ar pa qa la M) {p on : Nat} (hp : p < M 4 0) (ho : on ≤ 1) : rC (xpi S (pa p) 4 (nI on)) th ar pa qa la (mset M 7 p on) := by
  have h0 := h
  have h3 : xc S (pa p) = 2 := (h.2.2.2.1 p hp).1.1
  obtain ⟨hW, hT, hA, hP, hQ, hB, i1, i2, i3⟩ := h
  refine ⟨?_, ?_, hA, fun p' hp' => ?_, fun k hk => ?_, fun j hj => ?_, i1, i2, i3⟩
  · obtain ⟨w1, w2, w3, w4⟩ := hW
    refine ⟨w1, w2, fun p' hp' => ?_, w4⟩
    obtain ⟨a1, a2, a3, a4⟩ := w3 p' hp'
    refine ⟨a1, a2, ?_, a4⟩
    rw [mset_eq]
    split
    · exact ho
    · exact a3
  · obtain ⟨t1, t2, t3, t4, t5, ⟨t6, t7, t8, t9⟩, t10⟩ := hT
    have hne : th ≠ pa p := xne t1.1 h3 (by decide)
    have hne2 : ar 3 ≠ pa p := xne t3.2.2.2.1 h3 (by decide)
    refine ⟨t1, t2, t3, t4, t5, ⟨?_, ?_, ?_, ?_⟩, fun o' ho' => ?_⟩
    · rw [xi_pi, if_neg (fun z => hne z.1)]; exact t6
    · rw [xi_pi, if_neg (fun z => hne z.1)]; exact t7
    · rw [xi_pi, if_neg (fun z => hne z.1)]; exact t8
    · rw [xi_pi, if_neg (fun z => hne z.1)]; exact t9
    · rw [xi_pi, if_neg (fun z => hne2 z.1)]
      exact t10 o' ho'
  · by_cases e : p' = p
    · subst e
      obtain ⟨q1, ⟨q2, q3, q4, q5, q6⟩, q7, q8⟩ := hP p' hp'
      refine ⟨q1, ⟨?_, ?_, ?_, ?_, ?_⟩, q7.trans (congrArg _ (mnx_congr (M := M) (M' := mset M 7 p' on) _ _ (fun _ _ => rfl)).symm), q8.trans (congrArg _ (mla_congr (M := M) (M' := mset M 7 p' on) _ (fun _ _ => rfl)).symm)⟩
      · rw [xi_pi, if_neg (by simp)]; exact q2
      · rw [xi_pi, if_neg (by simp)]; exact q3
      · rw [xi_pi, if_neg (by simp)]; exact q4
      · rw [xi_pi, if_neg (by simp)]; exact q5
      · rw [xi_pi, if_pos ⟨rfl, rfl⟩, mset_eq, if_pos ⟨rfl, rfl⟩]
    · refine ((hP p' hp').pi (fun z => e (i1 p' p hp' hp z))).to rfl (fun _ _ => rfl) rfl (fun _ _ => rfl) ⟨rfl, rfl, ?_, rfl⟩
      rw [mset_eq, if_neg (fun z => e z.2)]
  · exact ((hQ k hk).pi (h0.nQ hk h3 (by decide))).to hk rfl (fun _ _ => rfl) (fun _ => rfl) rfl (fun _ _ => rfl) ⟨rfl, fun _ => rfl, rfl, rfl, rfl, rfl, rfl, rfl⟩
  · exact ((hB j hj).pi (h0.nB hj h3 (by decide))).to rfl rfl rfl (fun _ => rfl)
theorem nI_b {n : Nat} (h : n ≤ 1) : narrow .boolean (.int (nI n)) = .int (nI n) ∧ xfit .boolean (nI n) := by
  rcases (show n = 0 ∨ n = 1 by omega) with rfl | rfl
  · exact ⟨xnr_0, xft_0⟩
  · exact ⟨xnr_1, xft_1⟩
set_option maxHeartbeats 4000000 in
set_option maxRecDepth 100000 in
theorem c_root (h : rCx S th M) (x : Int32) {on : Nat} (ho : on ≤ 1) : xMet l D n0 mS_root 0 0 [.inr (.inr (some th)), .inl x, .inl (nI on)] S (oC S th (oRoot M x on)) := by
  obtain ⟨ar, pa, qa, la, h⟩ := h
  refine xMet.of (k := mS_root) (own := 3) (ini := false) xm_S_root (by decide +kernel) (by decide +kernel) (by decide) (Nat.le_of_ble_eq_true rfl) ?_
  intro V hV
  show V 0 [some (.inr (.inr (some th))), some (.inl x), some (.inl (nI on)), none] [] S 0 0
  have h1 := h.th
  refine xrun_ok hV [] 20 _ _ _ _ _ _ ?_
  simp (maxDischargeDepth := 60) only [xrun, xisc, ↓xstep, xget, xtgt, xcmp, xacmp, xprev, xisR, xnt, List.set, List.length, xsw, xlk, true_or, or_true, if_true, if_false, true_and, and_true, List.mem_cons, List.not_mem_nil, or_false, false_or, Bool.false_eq_true, reduceCtorEq, not_false_eq_true, forall_const, Nat.zero_add, Nat.reduceAdd, Nat.reduceSub, Int.reduceAdd, Int.reduceNeg, Int.reduceToNat, Nat.reduceEqDiff, Nat.reduceLT, Nat.reduceLeDiff, Int.reduceLE, Int.reduceLT, reduceIte, Int.cast_ofNat_Int, Int.natCast_zero, Int.natCast_one, Int.reduceAdd, eq_self, Int.reduceSub, List.length_cons, List.length_nil, xli_m1, xli_0, xli_1, xli_2, xli_3, xli_4, xli_5, xlb_8, xlb_12, xlb_31, xlb_32, xlb_64, xls_256, xls_513, xls_2048, xls_4096, xll_0, xll_1, xnr_i, xnr_0, xnr_1, xnr_ite, xft_i, xft_0, xft_1, xat_999, xat_1001, xat_1002, xat_1003, xat_2001, xat_2002, xat_2003, List.getElem?_cons_succ, List.getElem?_cons_zero, xfn_0, xfn_1, xfn_2, xfn_3, x10, x01, not_true_eq_false, false_implies, implies_true, true_implies, xrm_c, xrm_s, xnl_4, xnl_32, xnl_64, xnl_256, xtn_4, xtn_32, xtn_64, xtn_256, Option.some.injEq, Sum.inl.injEq, Sum.inr.injEq, exists_eq_left', exists_eq_right, Option.toList_some, Option.toList_none, List.cons_append, List.nil_append, xE, lg_cmp_ge, lg_cmp_le, lg_cmp_gt, lg_cmp_lt, lg_cmp_eq, Nat.le_refl, Nat.zero_le, ne_eq, Nat.add_zero, dS_root_0, dS_root_1, dS_root_2, dS_root_5, dS_root_6, dS_root_7, dS_root_10, dS_root_11, dS_root_14, dS_root_15, dS_root_18, dS_root_19, dS_root_20, dS_root_21, dS_root_22, dS_root_25, dS_root_26, xf_3_104]
  refine hV.call [] xh_3_51 dS_root_2 (c_partAt h x) (Or.inr ⟨_, _, rfl, fun _ => h1⟩) rfl rfl (by decide) (by decide) (by decide) ?_
  rintro r S' ⟨rfl, rfl⟩
  have e : x.toNatClampNeg = x.toInt.toNat := rfl
  by_cases hz : 0 ≤ x.toInt ∧ x.toInt < M 4 0
  · rw [if_pos hz]
    have hlt : x.toNatClampNeg < M 4 0 := by omega
    obtain ⟨⟨p1, -⟩, ⟨-, -, -, -, p2⟩, -⟩ := h.2.2.2.1 _ hlt
    have hb := nI_b ho
    have hm := (h.1.2.2.1 _ hlt).2.2.1
    have hnn := nI_eq (show M 7 x.toNatClampNeg < 2 ^ 31 by omega) (show on < 2 ^ 31 by omega)
    refine xrun_ok hV [] 20 _ _ _ _ _ _ ?_
    simp (maxDischargeDepth := 60) only [xrun, xisc, ↓xstep, xget, xtgt, xcmp, xacmp, xprev, xisR, xnt, List.set, List.length, xsw, xlk, true_or, or_true, if_true, if_false, true_and, and_true, List.mem_cons, List.not_mem_nil, or_false, false_or, Bool.false_eq_true, reduceCtorEq, not_false_eq_true, forall_const, Nat.zero_add, Nat.reduceAdd, Nat.reduceSub, Int.reduceAdd, Int.reduceNeg, Int.reduceToNat, Nat.reduceEqDiff, Nat.reduceLT, Nat.reduceLeDiff, Int.reduceLE, Int.reduceLT, reduceIte, Int.cast_ofNat_Int, Int.natCast_zero, Int.natCast_one, Int.reduceAdd, eq_self, Int.reduceSub, List.length_cons, List.length_nil, xli_m1, xli_0, xli_1, xli_2, xli_3, xli_4, xli_5, xlb_8, xlb_12, xlb_31, xlb_32, xlb_64, xls_256, xls_513, xls_2048, xls_4096, xll_0, xll_1, xnr_i, xnr_0, xnr_1, xnr_ite, xft_i, xft_0, xft_1, xat_999, xat_1001, xat_1002, xat_1003, xat_2001, xat_2002, xat_2003, List.getElem?_cons_succ, List.getElem?_cons_zero, xfn_0, xfn_1, xfn_2, xfn_3, x10, x01, not_true_eq_false, false_implies, implies_true, true_implies, xrm_c, xrm_s, xnl_4, xnl_32, xnl_64, xnl_256, xtn_4, xtn_32, xtn_64, xtn_256, Option.some.injEq, Sum.inl.injEq, Sum.inr.injEq, exists_eq_left', exists_eq_right, Option.toList_some, Option.toList_none, List.cons_append, List.nil_append, xE, lg_cmp_ge, lg_cmp_le, lg_cmp_gt, lg_cmp_lt, lg_cmp_eq, Nat.le_refl, Nat.zero_le, ne_eq, Nat.add_zero, dS_root_0, dS_root_1, dS_root_2, dS_root_5, dS_root_6, dS_root_7, dS_root_10, dS_root_11, dS_root_14, dS_root_15, dS_root_18, dS_root_19, dS_root_20, dS_root_21, dS_root_22, dS_root_25, dS_root_26, xf_3_104, p1, p2, hb, hnn]
    unfold oRoot
    refine ⟨fun q => ?_, fun q => ?_⟩
    · rw [if_pos ⟨isP_iff.mpr hz, q⟩]
      exact ⟨rfl, ⟨ar, pa, qa, la, rC_root h hlt ho⟩, xFr.pi (by rw [p1]; rfl)⟩
    · rw [if_neg (fun z => z.2 q)]
      exact ⟨rfl, ⟨ar, pa, qa, la, h⟩, xFr.rf _ _⟩
  · rw [if_neg hz]
    refine xrun_ok hV [] 20 _ _ _ _ _ _ ?_
    simp (maxDischargeDepth := 60) only [xrun, xisc, ↓xstep, xget, xtgt, xcmp, xacmp, xprev, xisR, xnt, List.set, List.length, xsw, xlk, true_or, or_true, if_true, if_false, true_and, and_true, List.mem_cons, List.not_mem_nil, or_false, false_or, Bool.false_eq_true, reduceCtorEq, not_false_eq_true, forall_const, Nat.zero_add, Nat.reduceAdd, Nat.reduceSub, Int.reduceAdd, Int.reduceNeg, Int.reduceToNat, Nat.reduceEqDiff, Nat.reduceLT, Nat.reduceLeDiff, Int.reduceLE, Int.reduceLT, reduceIte, Int.cast_ofNat_Int, Int.natCast_zero, Int.natCast_one, Int.reduceAdd, eq_self, Int.reduceSub, List.length_cons, List.length_nil, xli_m1, xli_0, xli_1, xli_2, xli_3, xli_4, xli_5, xlb_8, xlb_12, xlb_31, xlb_32, xlb_64, xls_256, xls_513, xls_2048, xls_4096, xll_0, xll_1, xnr_i, xnr_0, xnr_1, xnr_ite, xft_i, xft_0, xft_1, xat_999, xat_1001, xat_1002, xat_1003, xat_2001, xat_2002, xat_2003, List.getElem?_cons_succ, List.getElem?_cons_zero, xfn_0, xfn_1, xfn_2, xfn_3, x10, x01, not_true_eq_false, false_implies, implies_true, true_implies, xrm_c, xrm_s, xnl_4, xnl_32, xnl_64, xnl_256, xtn_4, xtn_32, xtn_64, xtn_256, Option.some.injEq, Sum.inl.injEq, Sum.inr.injEq, exists_eq_left', exists_eq_right, Option.toList_some, Option.toList_none, List.cons_append, List.nil_append, xE, lg_cmp_ge, lg_cmp_le, lg_cmp_gt, lg_cmp_lt, lg_cmp_eq, Nat.le_refl, Nat.zero_le, ne_eq, Nat.add_zero, dS_root_0, dS_root_1, dS_root_2, dS_root_5, dS_root_6, dS_root_7, dS_root_10, dS_root_11, dS_root_14, dS_root_15, dS_root_18, dS_root_19, dS_root_20, dS_root_21, dS_root_22, dS_root_25, dS_root_26, xf_3_104]
    unfold oRoot
    rw [if_neg (fun z => hz (isP_iff.mp z.1))]
    exact ⟨rfl, ⟨ar, pa, qa, la, h⟩, xFr.rf _ _⟩
end SET
end
section
/-! THE CLASS: part, label, put, pieces -/
def nup (f : Nat → Nat) (k v : Nat) : Nat → Nat := fun j => if j = k then v else f j
theorem nup_s (f : Nat → Nat) (k v : Nat) : nup f k v k = v := if_pos rfl
theorem nup_n (f : Nat → Nat) {k v j : Nat} (h : j ≠ k) : nup f k v j = f j := if_neg h
def xSame (S S' : xS) (b : Nat) : Prop := xc S' b = xc S b ∧ xl S' b = xl S b ∧ (∀ k, xi S' b k = xi S b k) ∧ ∀ k, xr S' b k = xr S b k
theorem rP.same {S S' : xS} {pa qa : Nat → Nat} {M : mT} {p : Nat} (h : rP S pa qa M p) (hn : xn S ≤ xn S') (hs : xSame S S' (pa p)) : rP S' pa qa M p := by
  obtain ⟨e1, e2, e3, e4⟩ := hs
  obtain ⟨⟨h1, h2⟩, h3⟩ := h
  unfold rP
  simp only [e1, e3, e4]
  exact ⟨⟨h1, by omega⟩, h3⟩
theorem rQ.same {S S' : xS} {pa qa la : Nat → Nat} {M : mT} {k : Nat} (h : rQ S pa qa la M k) (hn : xn S ≤ xn S') (hs : xSame S S' (qa k)) : rQ S' pa qa la M k := by
  obtain ⟨e1, e2, e3, e4⟩ := hs
  obtain ⟨⟨h1, h2⟩, h3⟩ := h
  unfold rQ
  simp only [e1, e3, e4]
  exact ⟨⟨h1, by omega⟩, h3⟩
theorem rB.same {S S' : xS} {qa la : Nat → Nat} {M : mT} {k : Nat} (h : rB S qa la M k) (hn : xn S ≤ xn S') (hs : xSame S S' (la k)) : rB S' qa la M k := by
  obtain ⟨e1, e2, e3, e4⟩ := hs
  obtain ⟨⟨h1, h2⟩, h3⟩ := h
  unfold rB
  simp only [e1, e3, e4]
  exact ⟨⟨h1, by omega⟩, h3⟩
-- a part is new
theorem mpart_f (M : mT) (o b f i : Nat) (h : f ≠ 4 ∧ f ≠ 5 ∧ f ≠ 6 ∧ f ≠ 7 ∧ f ≠ 8) : mpart M o b f i = M f i := by
  obtain ⟨h1, h2, h3, h4, h5⟩ := h
  simp [mpart, mset_eq, h1, h2, h3, h4, h5]
theorem mpart_o (M : mT) (o b f i : Nat) (h : i < M 4 0) (hf : f ≠ 4) : mpart M o b f i = M f i := by
  have : i ≠ M 4 0 := Nat.ne_of_lt h
  simp [mpart, mset_eq, hf, this]
theorem mpart_4 (M : mT) (o b : Nat) : mpart M o b 4 0 = M 4 0 + 1 := by simp [mpart, mset_eq]
theorem mpart_5 (M : mT) (o b : Nat) : mpart M o b 5 (M 4 0) = o := by simp [mpart, mset_eq]
theorem mpart_6 (M : mT) (o b : Nat) : mpart M o b 6 (M 4 0) = b := by simp [mpart, mset_eq]
theorem mpart_7 (M : mT) (o b : Nat) : mpart M o b 7 (M 4 0) = 0 := by simp [mpart, mset_eq]
theorem mpart_8 (M : mT) (o b : Nat) : mpart M o b 8 (M 4 0) = 0 := by simp [mpart, mset_eq]
theorem mWF_part {M : mT} (h : mWF M) {o b : Nat} (hn : M 4 0 < 32) (ho : o ≤ 3) (hb : b ≤ 12) : mWF (mpart M o b) := by
  obtain ⟨⟨w1, w2, w3, w4⟩, w5, w6, w7, w8, w9, w10, w11⟩ := h
  have e := fun f i => mpart_f M o b f i
  unfold mWF maim
  rw [mpart_4, e 0 0 (by decide), e 12 0 (by decide), e 25 0 (by decide)]
  refine ⟨⟨w1, by omega, w3, w4⟩, fun q hq => ?_, fun q hq => ?_, fun q hq => ?_, fun q hq => ?_, fun q hq => ?_, fun q hq => ?_, fun q hq => ?_⟩
  · rw [e 1 q (by decide)]; exact w5 q hq
  · by_cases z : q < M 4 0
    · rw [mpart_o _ _ _ _ _ z (by decide), mpart_o _ _ _ _ _ z (by decide), mpart_o _ _ _ _ _ z (by decide), mpart_o _ _ _ _ _ z (by decide)]
      exact w6 q z
    · have : q = M 4 0 := by omega
      subst this
      rw [mpart_5, mpart_6, mpart_7, mpart_8]
      exact ⟨ho, hb, by decide, by decide⟩
  · rw [e 13 q (by decide), e 14 q (by decide), e 20 q (by decide), e 21 q (by decide), e 19 q (by decide), e 17 q (by decide)]
    have := w7 q hq
    exact ⟨this.1, by omega, this.2.2⟩
  · rw [e 13 q (by decide), e 15 q (by decide), e 16 q (by decide)]; exact w8 q hq
  · rw [e 13 q (by decide), e 15 q (by decide), e 16 q (by decide), e 18 q (by decide), e 20 q (by decide), e 21 q (by decide)]; exact w9 q hq
  · rw [e 13 q (by decide), e 16 q (by decide)]; exact w10 q hq
  · rw [e 26 q (by decide), e 27 q (by decide), e 13 _ (by decide), e 16 _ (by decide)]; exact w11 q hq
theorem mnx_none {M : mT} {p : Nat} : ∀ (d k : Nat), (∀ j, k ≤ j → j < k + d → M 14 j ≠ p) → mnx M p k d = none
  | 0, _, _ => rfl
  | d + 1, k, h => by
    rw [mnx, if_neg (h k (Nat.le_refl _) (by omega))]
    exact mnx_none d (k + 1) (fun j h1 h2 => h j (by omega) (by omega))
theorem mla_none {M : mT} {p : Nat} : ∀ (k : Nat), (∀ j, j < k → M 14 j ≠ p) → mla M p k = none
  | 0, _ => rfl
  | k + 1, h => by
    rw [mla, if_neg (h k (by omega))]
    exact mla_none k (fun j h1 => h j (by omega))
section ADD
variable {l : Launch} {D : va_G} {n0 : Nat} {S : xS} {th : Nat} {ar pa qa la : Nat → Nat} {M : mT}
def sPart (S : xS) (th r0 np : Nat) (x y : Int32) : xS := xpi (xpr (xpi (xpi (xpi (xmk S 2 0) (xn S) 0 (nI np)) (xn S) 1 x) (xn S) 2 y) r0 np (some (xn S))) th 6 (nI np + 1)
theorem rC_part (h : rC S th ar pa qa la M) (hn : M 4 0 < 32) {o b : Nat} (ho : o ≤ 3) (hb : b ≤ 12) : rC (sPart S th (ar 0) (M 4 0) (nI o) (nI b)) th ar (nup pa (M 4 0) (xn S)) qa la (mpart M o b) := by
  obtain ⟨hW, hT, hA, hP, hQ, hB, i1, i2, i3⟩ := h
  obtain ⟨⟨t1, t2⟩, t3, ⟨c0, c1, c2, c3, c4, c5⟩, t4, t5, ⟨t6, t7, t8, t9⟩, t10⟩ := hT
  have e := fun f i => mpart_f M o b f i
  have a0 := (t3 0 (by decide)).2
  have hnth : th ≠ xn S := Nat.ne_of_lt t2
  have hn0 : ar 0 ≠ xn S := Nat.ne_of_lt a0
  have hth0 : th ≠ ar 0 := xne t1 c0 (by decide)
  have hsz : xn (sPart S th (ar 0) (M 4 0) (nI o) (nI b)) = xn S + 1 := rfl
  have hcc : ∀ c, c < xn S → xc (sPart S th (ar 0) (M 4 0) (nI o) (nI b)) c = xc S c ∧ xl (sPart S th (ar 0) (M 4 0) (nI o) (nI b)) c = xl S c := by
    intro c hc
    have z : c ≠ xn S := Nat.ne_of_lt hc
    constructor <;> simp only [sPart, xc_pi, xc_pr, xl_pi, xl_pr, xc_mk, xl_mk, if_neg z]
  have hii : ∀ c, c < xn S → ∀ k, (c ≠ th ∨ k ≠ 6) → xi (sPart S th (ar 0) (M 4 0) (nI o) (nI b)) c k = xi S c k := by
    intro c hc k hk
    have z : c ≠ xn S := Nat.ne_of_lt hc
    have z2 : ¬ (c = th ∧ k = 6) := fun w => by rcases hk with q | q; exact q w.1; exact q w.2
    simp only [sPart, xi_pi, xi_pr, xi_mk, z, z2, false_and, if_false]
  have hrr : ∀ c, c < xn S → ∀ k, (c ≠ ar 0 ∨ k ≠ M 4 0) → xr (sPart S th (ar 0) (M 4 0) (nI o) (nI b)) c k = xr S c k := by
    intro c hc k hk
    have z : c ≠ xn S := Nat.ne_of_lt hc
    have z2 : ¬ (c = ar 0 ∧ k = M 4 0) := fun w => by rcases hk with q | q; exact q w.1; exact q w.2
    simp only [sPart, xr_pi, xr_pr, xr_mk, z, z2, if_false]
  have hsame : ∀ c, c < xn S → c ≠ th → c ≠ ar 0 → xSame S (sPart S th (ar 0) (M 4 0) (nI o) (nI b)) c := fun c hc h1 h2 => ⟨(hcc c hc).1, (hcc c hc).2, fun k => hii c hc k (Or.inl h1), fun k => hrr c hc k (Or.inl h2)⟩
  refine ⟨mWF_part hW hn ho hb, ?_, ?_, ?_, ?_, ?_, ?_, ?_, ?_⟩
  · refine ⟨⟨(hcc th t2).1.trans t1, by omega⟩, fun f hf => ⟨?_, by have := (t3 f hf).2; omega⟩, ?_, ?_, t5, ⟨?_, ?_, ?_, ?_⟩, fun q hq => ?_⟩
    · rw [hrr th t2 f (Or.inl hth0)]; exact (t3 f hf).1
    · rw [(hcc _ (t3 0 (by decide)).2).1, (hcc _ (t3 1 (by decide)).2).1, (hcc _ (t3 2 (by decide)).2).1, (hcc _ (t3 3 (by decide)).2).1, (hcc _ (t3 4 (by decide)).2).1, (hcc _ (t3 5 (by decide)).2).1]
      exact ⟨c0, c1, c2, c3, c4, c5⟩
    · rw [(hcc _ (t3 0 (by decide)).2).2, (hcc _ (t3 1 (by decide)).2).2, (hcc _ (t3 2 (by decide)).2).2, (hcc _ (t3 3 (by decide)).2).2, (hcc _ (t3 4 (by decide)).2).2, (hcc _ (t3 5 (by decide)).2).2]
      exact t4
    · rw [mpart_4, ← nI_1]
      simp only [sPart, xi_pi, and_self, if_true]
    · rw [hii th t2 7 (Or.inr (by decide)), e 12 0 (by decide)]; exact t7
    · rw [hii th t2 8 (Or.inr (by decide)), e 25 0 (by decide)]; exact t8
    · rw [hii th t2 9 (Or.inr (by decide)), e 0 0 (by decide)]; exact t9
    · rw [hii (ar 3) (t3 3 (by decide)).2 q (Or.inl (xne c3 t1 (by decide))), e 1 q (by decide)]; exact t10 q hq
  · refine ⟨fun q hq => ?_, fun q hq => ?_, fun q hq => ?_⟩
    · rw [mpart_4]
      by_cases z : q = M 4 0
      · subst z
        rw [if_pos (by omega), nup_s]
        simp only [sPart, xr_pi, xr_pr, and_self, if_true]
      · rw [hrr (ar 0) a0 q (Or.inr z), hA.1 q hq]
        by_cases z2 : q < M 4 0
        · rw [if_pos z2, if_pos (by omega), nup_n _ z]
        · rw [if_neg z2, if_neg (by omega)]
    · rw [hrr (ar 1) (t3 1 (by decide)).2 q (Or.inl (xne c1 c0 (by decide))), e 12 0 (by decide)]; exact hA.2.1 q hq
    · rw [hrr (ar 2) (t3 2 (by decide)).2 q (Or.inl (xne c2 c0 (by decide))), e 25 0 (by decide)]; exact hA.2.2 q hq
  · intro q hq
    rw [mpart_4] at hq
    by_cases z : q = M 4 0
    · subst z
      unfold rP
      rw [nup_s, mpart_5, mpart_6, mpart_7, mpart_8]
      have f1 : mfirst (mpart M o b) (M 4 0) = none := mnx_none _ _ (fun j _ hj => by
        rw [e 14 j (by decide)]
        have := (hW.2.2.2.1 j (by rw [e 12 0 (by decide)] at hj; omega)).2.1
        omega)
      have f2 : mla (mpart M o b) (M 4 0) (mpart M o b 12 0) = none := mla_none _ (fun j hj => by
        rw [e 14 j (by decide)]
        have := (hW.2.2.2.1 j (by rw [e 12 0 (by decide)] at hj; omega)).2.1
        omega)
      rw [f1, f2]
      have hnx : xn S ≠ th := Ne.symm hnth
      have hnr : xn S ≠ ar 0 := Ne.symm hn0
      refine ⟨⟨?_, by omega⟩, ⟨?_, ?_, ?_, ?_, ?_⟩, ?_, ?_⟩ <;> simp [sPart, xc_pi, xc_pr, xc_mk, xi_pi, xi_pr, xi_mk, xr_pi, xr_pr, xr_mk, hnx, hnr] <;> rfl
    · have hq' : q < M 4 0 := by omega
      have r := hP q hq'
      refine (r.same (by omega) (hsame _ r.1.2 (xne r.1.1 t1 (by decide)) (xne r.1.1 c0 (by decide)))).to (nup_n _ z) (fun _ _ => rfl) (e 12 0 (by decide)) (fun _ _ => e 14 _ (by decide)) ?_
      exact ⟨mpart_o _ _ _ _ _ hq' (by decide), mpart_o _ _ _ _ _ hq' (by decide), mpart_o _ _ _ _ _ hq' (by decide), mpart_o _ _ _ _ _ hq' (by decide)⟩
  · intro k hk
    rw [e 12 0 (by decide)] at hk
    have r := hQ k hk
    have hlt := (hW.2.2.2.1 k hk).2.1
    exact (r.same (by omega) (hsame _ r.1.2 (xne r.1.1 t1 (by decide)) (xne r.1.1 c0 (by decide)))).to hk (nup_n _ (by omega)) (fun _ _ => rfl) (fun _ => rfl) (e 12 0 (by decide)) (fun _ _ => e 14 _ (by decide)) ⟨e 13 k (by decide), fun _ => e 15 k (by decide), e 16 k (by decide), e 17 k (by decide), e 18 k (by decide), e 19 k (by decide), e 20 k (by decide), e 21 k (by decide)⟩
  · intro j hj
    rw [e 25 0 (by decide)] at hj
    have r := hB j hj
    exact (r.same (by omega) (hsame _ r.1.2 (xne r.1.1 t1 (by decide)) (xne r.1.1 c0 (by decide)))).to rfl (e 26 j (by decide)) (e 27 j (by decide)) (fun _ => rfl)
  · intro i j hi hj hij
    rw [mpart_4] at hi hj
    by_cases z1 : i = M 4 0 <;> by_cases z2 : j = M 4 0
    · omega
    · rw [z1, nup_s, nup_n _ z2] at hij
      have := (hP j (by omega)).1.2
      omega
    · rw [z2, nup_s, nup_n _ z1] at hij
      have := (hP i (by omega)).1.2
      omega
    · rw [nup_n _ z1, nup_n _ z2] at hij
      exact i1 i j (by omega) (by omega) hij
  · rw [e 12 0 (by decide)]; exact i2
  · rw [e 25 0 (by decide)]; exact i3
theorem xI_le_nI {x : Nat} (h : x < 2 ^ 31) (y : Nat) (hy : y < 2 ^ 31) : (nI y ≤ nI x) = (y ≤ x) := propext (nI_leI hy h)
set_option maxHeartbeats 4000000 in
set_option maxRecDepth 100000 in
theorem c_part (h : rCx S th M) (x y : Int32) : xMet l D n0 mS_part 1 9 [.inr (.inr (some th)), .inl x, .inl y] S (oC S th (oPart M x y)) := by
  obtain ⟨ar, pa, qa, la, h⟩ := h
  refine xMet.of (k := mS_part) (own := 3) (ini := false) xm_S_part (by decide +kernel) (by decide +kernel) (by decide) (Nat.le_of_ble_eq_true rfl) ?_
  intro V hV
  show V 0 [some (.inr (.inr (some th))), some (.inl x), some (.inl y)] [] S 0 0
  have h1 := h.th
  have h2 := (h.2.1.2.1 0 (by decide)).1
  have h3 := h.2.1.2.2.1.1
  have h4 := h.2.1.2.2.2.1.1
  have h5 := h.2.1.2.2.2.2.2.1.1
  have hw := h.1.1.2.1
  have h6 : (Int32.ofNat 32 ≤ nI (M 4 0)) = (32 ≤ M 4 0) := xI_le_nI (by omega) 32 (by decide)
  refine xrun_ok hV [46] 20 _ _ _ _ _ _ ?_
  simp (maxDischargeDepth := 60) only [xrun, xisc, ↓xstep, xget, xtgt, xcmp, xacmp, xprev, xisR, xnt, List.set, List.length, xsw, xlk, true_or, or_true, if_true, if_false, true_and, and_true, List.mem_cons, List.not_mem_nil, or_false, false_or, Bool.false_eq_true, reduceCtorEq, not_false_eq_true, forall_const, Nat.zero_add, Nat.reduceAdd, Nat.reduceSub, Int.reduceAdd, Int.reduceNeg, Int.reduceToNat, Nat.reduceEqDiff, Nat.reduceLT, Nat.reduceLeDiff, Int.reduceLE, Int.reduceLT, reduceIte, Int.cast_ofNat_Int, Int.natCast_zero, Int.natCast_one, Int.reduceAdd, eq_self, Int.reduceSub, List.length_cons, List.length_nil, xli_m1, xli_0, xli_1, xli_2, xli_3, xli_4, xli_5, xlb_8, xlb_12, xlb_31, xlb_32, xlb_64, xls_256, xls_513, xls_2048, xls_4096, xll_0, xll_1, xnr_i, xnr_0, xnr_1, xnr_ite, xft_i, xft_0, xft_1, xat_999, xat_1001, xat_1002, xat_1003, xat_2001, xat_2002, xat_2003, List.getElem?_cons_succ, List.getElem?_cons_zero, xfn_0, xfn_1, xfn_2, xfn_3, x10, x01, not_true_eq_false, false_implies, implies_true, true_implies, xrm_c, xrm_s, xnl_4, xnl_32, xnl_64, xnl_256, xtn_4, xtn_32, xtn_64, xtn_256, Option.some.injEq, Sum.inl.injEq, Sum.inr.injEq, exists_eq_left', exists_eq_right, Option.toList_some, Option.toList_none, List.cons_append, List.nil_append, xE, lg_cmp_ge, lg_cmp_le, lg_cmp_gt, lg_cmp_lt, lg_cmp_eq, Nat.le_refl, Nat.zero_le, ne_eq, Nat.add_zero, dS_part_0, dS_part_1, dS_part_4, dS_part_5, dS_part_8, dS_part_9, dS_part_12, dS_part_13, dS_part_16, dS_part_19, dS_part_20, dS_part_23, dS_part_26, dS_part_27, dS_part_28, dS_part_29, dS_part_32, dS_part_33, dS_part_36, dS_part_39, dS_part_40, dS_part_41, dS_part_44, dS_part_45, dS_part_46, dS_part_49, dS_part_50, dS_part_51, dS_part_52, dS_part_55, dS_part_56, dS_part_57, dS_part_60, dS_part_61, dS_part_64, dS_part_65, dS_part_66, xf_3_37, xf_3_11, xe_3_9, xg_3_9, h1, h2, h3, h4, h5, h6]
  refine ⟨⟨_, rfl⟩, fun z => ?_, fun z => ?_⟩
  · unfold oPart
    rw [if_neg (fun q => by omega)]
    exact ⟨rfl, ⟨ar, pa, qa, la, h⟩, xFr.rf _ _⟩
  refine hV.call [] xh_3_41 dS_part_13 (c_isOutput S x) (Or.inl rfl) rfl rfl (by decide) (by decide) (by decide) ?_
  rintro r S' ⟨rfl, rfl⟩
  by_cases hx : 0 ≤ x.toInt ∧ x.toInt ≤ 3
  case neg =>
    rw [if_neg hx]
    refine xrun_ok hV [46] 20 _ _ _ _ _ _ ?_
    simp (maxDischargeDepth := 60) only [xrun, xisc, ↓xstep, xget, xtgt, xcmp, xacmp, xprev, xisR, xnt, List.set, List.length, xsw, xlk, true_or, or_true, if_true, if_false, true_and, and_true, List.mem_cons, List.not_mem_nil, or_false, false_or, Bool.false_eq_true, reduceCtorEq, not_false_eq_true, forall_const, Nat.zero_add, Nat.reduceAdd, Nat.reduceSub, Int.reduceAdd, Int.reduceNeg, Int.reduceToNat, Nat.reduceEqDiff, Nat.reduceLT, Nat.reduceLeDiff, Int.reduceLE, Int.reduceLT, reduceIte, Int.cast_ofNat_Int, Int.natCast_zero, Int.natCast_one, Int.reduceAdd, eq_self, Int.reduceSub, List.length_cons, List.length_nil, xli_m1, xli_0, xli_1, xli_2, xli_3, xli_4, xli_5, xlb_8, xlb_12, xlb_31, xlb_32, xlb_64, xls_256, xls_513, xls_2048, xls_4096, xll_0, xll_1, xnr_i, xnr_0, xnr_1, xnr_ite, xft_i, xft_0, xft_1, xat_999, xat_1001, xat_1002, xat_1003, xat_2001, xat_2002, xat_2003, List.getElem?_cons_succ, List.getElem?_cons_zero, xfn_0, xfn_1, xfn_2, xfn_3, x10, x01, not_true_eq_false, false_implies, implies_true, true_implies, xrm_c, xrm_s, xnl_4, xnl_32, xnl_64, xnl_256, xtn_4, xtn_32, xtn_64, xtn_256, Option.some.injEq, Sum.inl.injEq, Sum.inr.injEq, exists_eq_left', exists_eq_right, Option.toList_some, Option.toList_none, List.cons_append, List.nil_append, xE, lg_cmp_ge, lg_cmp_le, lg_cmp_gt, lg_cmp_lt, lg_cmp_eq, Nat.le_refl, Nat.zero_le, ne_eq, Nat.add_zero, dS_part_0, dS_part_1, dS_part_4, dS_part_5, dS_part_8, dS_part_9, dS_part_12, dS_part_13, dS_part_16, dS_part_19, dS_part_20, dS_part_23, dS_part_26, dS_part_27, dS_part_28, dS_part_29, dS_part_32, dS_part_33, dS_part_36, dS_part_39, dS_part_40, dS_part_41, dS_part_44, dS_part_45, dS_part_46, dS_part_49, dS_part_50, dS_part_51, dS_part_52, dS_part_55, dS_part_56, dS_part_57, dS_part_60, dS_part_61, dS_part_64, dS_part_65, dS_part_66, xf_3_37, xf_3_11, xe_3_9, xg_3_9]
    unfold oPart
    rw [if_neg (fun q => hx (inR_iff.mp q.2.1))]
    exact ⟨rfl, ⟨ar, pa, qa, la, h⟩, xFr.rf _ _⟩
  rw [if_pos hx]
  refine xrun_ok hV [46] 20 _ _ _ _ _ _ ?_
  simp (maxDischargeDepth := 60) only [xrun, xisc, ↓xstep, xget, xtgt, xcmp, xacmp, xprev, xisR, xnt, List.set, List.length, xsw, xlk, true_or, or_true, if_true, if_false, true_and, and_true, List.mem_cons, List.not_mem_nil, or_false, false_or, Bool.false_eq_true, reduceCtorEq, not_false_eq_true, forall_const, Nat.zero_add, Nat.reduceAdd, Nat.reduceSub, Int.reduceAdd, Int.reduceNeg, Int.reduceToNat, Nat.reduceEqDiff, Nat.reduceLT, Nat.reduceLeDiff, Int.reduceLE, Int.reduceLT, reduceIte, Int.cast_ofNat_Int, Int.natCast_zero, Int.natCast_one, Int.reduceAdd, eq_self, Int.reduceSub, List.length_cons, List.length_nil, xli_m1, xli_0, xli_1, xli_2, xli_3, xli_4, xli_5, xlb_8, xlb_12, xlb_31, xlb_32, xlb_64, xls_256, xls_513, xls_2048, xls_4096, xll_0, xll_1, xnr_i, xnr_0, xnr_1, xnr_ite, xft_i, xft_0, xft_1, xat_999, xat_1001, xat_1002, xat_1003, xat_2001, xat_2002, xat_2003, List.getElem?_cons_succ, List.getElem?_cons_zero, xfn_0, xfn_1, xfn_2, xfn_3, x10, x01, not_true_eq_false, false_implies, implies_true, true_implies, xrm_c, xrm_s, xnl_4, xnl_32, xnl_64, xnl_256, xtn_4, xtn_32, xtn_64, xtn_256, Option.some.injEq, Sum.inl.injEq, Sum.inr.injEq, exists_eq_left', exists_eq_right, Option.toList_some, Option.toList_none, List.cons_append, List.nil_append, xE, lg_cmp_ge, lg_cmp_le, lg_cmp_gt, lg_cmp_lt, lg_cmp_eq, Nat.le_refl, Nat.zero_le, ne_eq, Nat.add_zero, dS_part_0, dS_part_1, dS_part_4, dS_part_5, dS_part_8, dS_part_9, dS_part_12, dS_part_13, dS_part_16, dS_part_19, dS_part_20, dS_part_23, dS_part_26, dS_part_27, dS_part_28, dS_part_29, dS_part_32, dS_part_33, dS_part_36, dS_part_39, dS_part_40, dS_part_41, dS_part_44, dS_part_45, dS_part_46, dS_part_49, dS_part_50, dS_part_51, dS_part_52, dS_part_55, dS_part_56, dS_part_57, dS_part_60, dS_part_61, dS_part_64, dS_part_65, dS_part_66, xf_3_37, xf_3_11, xe_3_9, xg_3_9]
  refine hV.call [] xh_3_45 dS_part_20 (c_isPower S' y) (Or.inl rfl) rfl rfl (by decide) (by decide) (by decide) ?_
  rintro r S' ⟨rfl, rfl⟩
  by_cases hy : 0 ≤ y.toInt ∧ y.toInt ≤ 12
  case neg =>
    rw [if_neg hy]
    refine xrun_ok hV [46] 20 _ _ _ _ _ _ ?_
    simp (maxDischargeDepth := 60) only [xrun, xisc, ↓xstep, xget, xtgt, xcmp, xacmp, xprev, xisR, xnt, List.set, List.length, xsw, xlk, true_or, or_true, if_true, if_false, true_and, and_true, List.mem_cons, List.not_mem_nil, or_false, false_or, Bool.false_eq_true, reduceCtorEq, not_false_eq_true, forall_const, Nat.zero_add, Nat.reduceAdd, Nat.reduceSub, Int.reduceAdd, Int.reduceNeg, Int.reduceToNat, Nat.reduceEqDiff, Nat.reduceLT, Nat.reduceLeDiff, Int.reduceLE, Int.reduceLT, reduceIte, Int.cast_ofNat_Int, Int.natCast_zero, Int.natCast_one, Int.reduceAdd, eq_self, Int.reduceSub, List.length_cons, List.length_nil, xli_m1, xli_0, xli_1, xli_2, xli_3, xli_4, xli_5, xlb_8, xlb_12, xlb_31, xlb_32, xlb_64, xls_256, xls_513, xls_2048, xls_4096, xll_0, xll_1, xnr_i, xnr_0, xnr_1, xnr_ite, xft_i, xft_0, xft_1, xat_999, xat_1001, xat_1002, xat_1003, xat_2001, xat_2002, xat_2003, List.getElem?_cons_succ, List.getElem?_cons_zero, xfn_0, xfn_1, xfn_2, xfn_3, x10, x01, not_true_eq_false, false_implies, implies_true, true_implies, xrm_c, xrm_s, xnl_4, xnl_32, xnl_64, xnl_256, xtn_4, xtn_32, xtn_64, xtn_256, Option.some.injEq, Sum.inl.injEq, Sum.inr.injEq, exists_eq_left', exists_eq_right, Option.toList_some, Option.toList_none, List.cons_append, List.nil_append, xE, lg_cmp_ge, lg_cmp_le, lg_cmp_gt, lg_cmp_lt, lg_cmp_eq, Nat.le_refl, Nat.zero_le, ne_eq, Nat.add_zero, dS_part_0, dS_part_1, dS_part_4, dS_part_5, dS_part_8, dS_part_9, dS_part_12, dS_part_13, dS_part_16, dS_part_19, dS_part_20, dS_part_23, dS_part_26, dS_part_27, dS_part_28, dS_part_29, dS_part_32, dS_part_33, dS_part_36, dS_part_39, dS_part_40, dS_part_41, dS_part_44, dS_part_45, dS_part_46, dS_part_49, dS_part_50, dS_part_51, dS_part_52, dS_part_55, dS_part_56, dS_part_57, dS_part_60, dS_part_61, dS_part_64, dS_part_65, dS_part_66, xf_3_37, xf_3_11, xe_3_9, xg_3_9]
    unfold oPart
    rw [if_neg (fun q => hy (inR_iff.mp q.2.2))]
    exact ⟨rfl, ⟨ar, pa, qa, la, h⟩, xFr.rf _ _⟩
  rw [if_pos hy]
  have k1 : xc (xmk S' 2 0) th = 4 := by rw [xc_mk_lt h.2.1.1.2]; exact h1
  have k2 : xi (xmk S' 2 0) th 6 = nI (M 4 0) := by rw [xi_mk, if_neg (Nat.ne_of_lt h.2.1.1.2)]; exact h5
  refine xrun_ok hV [46] 20 _ _ _ _ _ _ ?_
  simp (maxDischargeDepth := 60) only [xrun, xisc, ↓xstep, xget, xtgt, xcmp, xacmp, xprev, xisR, xnt, List.set, List.length, xsw, xlk, true_or, or_true, if_true, if_false, true_and, and_true, List.mem_cons, List.not_mem_nil, or_false, false_or, Bool.false_eq_true, reduceCtorEq, not_false_eq_true, forall_const, Nat.zero_add, Nat.reduceAdd, Nat.reduceSub, Int.reduceAdd, Int.reduceNeg, Int.reduceToNat, Nat.reduceEqDiff, Nat.reduceLT, Nat.reduceLeDiff, Int.reduceLE, Int.reduceLT, reduceIte, Int.cast_ofNat_Int, Int.natCast_zero, Int.natCast_one, Int.reduceAdd, eq_self, Int.reduceSub, List.length_cons, List.length_nil, xli_m1, xli_0, xli_1, xli_2, xli_3, xli_4, xli_5, xlb_8, xlb_12, xlb_31, xlb_32, xlb_64, xls_256, xls_513, xls_2048, xls_4096, xll_0, xll_1, xnr_i, xnr_0, xnr_1, xnr_ite, xft_i, xft_0, xft_1, xat_999, xat_1001, xat_1002, xat_1003, xat_2001, xat_2002, xat_2003, List.getElem?_cons_succ, List.getElem?_cons_zero, xfn_0, xfn_1, xfn_2, xfn_3, x10, x01, not_true_eq_false, false_implies, implies_true, true_implies, xrm_c, xrm_s, xnl_4, xnl_32, xnl_64, xnl_256, xtn_4, xtn_32, xtn_64, xtn_256, Option.some.injEq, Sum.inl.injEq, Sum.inr.injEq, exists_eq_left', exists_eq_right, Option.toList_some, Option.toList_none, List.cons_append, List.nil_append, xE, lg_cmp_ge, lg_cmp_le, lg_cmp_gt, lg_cmp_lt, lg_cmp_eq, Nat.le_refl, Nat.zero_le, ne_eq, Nat.add_zero, dS_part_0, dS_part_1, dS_part_4, dS_part_5, dS_part_8, dS_part_9, dS_part_12, dS_part_13, dS_part_16, dS_part_19, dS_part_20, dS_part_23, dS_part_26, dS_part_27, dS_part_28, dS_part_29, dS_part_32, dS_part_33, dS_part_36, dS_part_39, dS_part_40, dS_part_41, dS_part_44, dS_part_45, dS_part_46, dS_part_49, dS_part_50, dS_part_51, dS_part_52, dS_part_55, dS_part_56, dS_part_57, dS_part_60, dS_part_61, dS_part_64, dS_part_65, dS_part_66, xf_3_37, xf_3_11, xe_3_9, xg_3_9, h1, h2, h3, h4, h5, h6, k1, k2]
  refine hV.call [.inr (.inr (some (xn S'))), .inl (nI (M 4 0)), .inr (.inr (some (ar 0)))] (As := [.inr (.inr (some (xn S'))), .inl (nI (M 4 0)), .inl x, .inl y]) xh_3_48 dS_part_46 (c_P_init (xmk S' 2 0) (a := xn S') (by rw [xc_mk, if_pos rfl]) (nI (M 4 0)) x y) (Or.inr ⟨_, _, rfl, fun q => absurd q (by decide)⟩) rfl rfl (Nat.le_of_ble_eq_true rfl) (by decide) (by decide) ?_
  rintro r S2 ⟨rfl, rfl⟩
  have hth := h.2.1.1.2
  have har := (h.2.1.2.1 0 (by decide)).2
  have hnt : th ≠ xn S' := Nat.ne_of_lt hth
  have hnr : ar 0 ≠ xn S' := Nat.ne_of_lt har
  have g3 : xc (xmk S' 2 0) (ar 0) = 2001 := by rw [xc_mk_lt har]; exact h3
  have g4 : xl (xmk S' 2 0) (ar 0) = 32 := by rw [xl_mk, if_neg hnr]; exact h4
  have g5 : xc (xmk S' 2 0) (xn S') = 2 := by rw [xc_mk, if_pos rfl]
  have e0 : (nI (M 4 0)).toNatClampNeg = M 4 0 := nI_clamp (by omega)
  refine xrun_ok hV [46] 20 _ _ _ _ _ _ ?_
  simp (maxDischargeDepth := 60) only [xrun, xisc, ↓xstep, xget, xtgt, xcmp, xacmp, xprev, xisR, xnt, List.set, List.length, xsw, xlk, true_or, or_true, if_true, if_false, true_and, and_true, List.mem_cons, List.not_mem_nil, or_false, false_or, Bool.false_eq_true, reduceCtorEq, not_false_eq_true, forall_const, Nat.zero_add, Nat.reduceAdd, Nat.reduceSub, Int.reduceAdd, Int.reduceNeg, Int.reduceToNat, Nat.reduceEqDiff, Nat.reduceLT, Nat.reduceLeDiff, Int.reduceLE, Int.reduceLT, reduceIte, Int.cast_ofNat_Int, Int.natCast_zero, Int.natCast_one, Int.reduceAdd, eq_self, Int.reduceSub, List.length_cons, List.length_nil, xli_m1, xli_0, xli_1, xli_2, xli_3, xli_4, xli_5, xlb_8, xlb_12, xlb_31, xlb_32, xlb_64, xls_256, xls_513, xls_2048, xls_4096, xll_0, xll_1, xnr_i, xnr_0, xnr_1, xnr_ite, xft_i, xft_0, xft_1, xat_999, xat_1001, xat_1002, xat_1003, xat_2001, xat_2002, xat_2003, List.getElem?_cons_succ, List.getElem?_cons_zero, xfn_0, xfn_1, xfn_2, xfn_3, x10, x01, not_true_eq_false, false_implies, implies_true, true_implies, xrm_c, xrm_s, xnl_4, xnl_32, xnl_64, xnl_256, xtn_4, xtn_32, xtn_64, xtn_256, Option.some.injEq, Sum.inl.injEq, Sum.inr.injEq, exists_eq_left', exists_eq_right, Option.toList_some, Option.toList_none, List.cons_append, List.nil_append, xE, lg_cmp_ge, lg_cmp_le, lg_cmp_gt, lg_cmp_lt, lg_cmp_eq, Nat.le_refl, Nat.zero_le, ne_eq, Nat.add_zero, dS_part_0, dS_part_1, dS_part_4, dS_part_5, dS_part_8, dS_part_9, dS_part_12, dS_part_13, dS_part_16, dS_part_19, dS_part_20, dS_part_23, dS_part_26, dS_part_27, dS_part_28, dS_part_29, dS_part_32, dS_part_33, dS_part_36, dS_part_39, dS_part_40, dS_part_41, dS_part_44, dS_part_45, dS_part_46, dS_part_49, dS_part_50, dS_part_51, dS_part_52, dS_part_55, dS_part_56, dS_part_57, dS_part_60, dS_part_61, dS_part_64, dS_part_65, dS_part_66, xf_3_37, xf_3_11, xe_3_9, xg_3_9, k1, k2, g3, g4, g5, xc_pi, xc_pr, xl_pi, xl_pr, xi_pi, xi_pr, hnt, false_and, e0]
  have e1 : x.toNatClampNeg = x.toInt.toNat := rfl
  have e2 : y.toNatClampNeg = y.toInt.toNat := rfl
  have hp := rC_part h (by omega) (o := x.toNatClampNeg) (b := y.toNatClampNeg) (by omega) (by omega)
  rw [nI_cl hx.1, nI_cl hy.1] at hp
  unfold oPart
  rw [if_pos ⟨by omega, inR_iff.mpr hx, inR_iff.mpr hy⟩]
  refine ⟨ar 0, xn S', 1, _, rfl, rfl, rfl, g5, by rw [g3]; rfl, by rw [g4]; exact vp_in_nI (by omega) (by decide), ?_, ⟨_, _, _, _, hp⟩, ?_⟩
  · rw [nI_1, nI_pred]
  · exact (((((xFr.mk (t := 2) (n := 0)).tr (xFr.pi (by rw [g5]; rfl))).tr (xFr.pi (by rw [xc_pi, g5]; rfl))).tr (xFr.pi (by rw [xc_pi, xc_pi, g5]; rfl))).tr (xFr.pr (by rw [xc_pi, xc_pi, xc_pi, g3]; rfl))).tr (xFr.pi (by rw [xc_pr, xc_pi, xc_pi, xc_pi, k1]; rfl))
-- a label is new
def mlab (M : mT) : mT := mset (mset (mset M 26 (M 25 0) 0) 27 (M 25 0) 0) 25 0 (M 25 0 + 1)
theorem mlab_f (M : mT) (f i : Nat) (h : f ≠ 25 ∧ f ≠ 26 ∧ f ≠ 27) : mlab M f i = M f i := by
  obtain ⟨h1, h2, h3⟩ := h
  simp [mlab, mset_eq, h1, h2, h3]
theorem mlab_o (M : mT) (f i : Nat) (h : i < M 25 0) (hf : f ≠ 25) : mlab M f i = M f i := by
  have : i ≠ M 25 0 := Nat.ne_of_lt h
  simp [mlab, mset_eq, hf, this]
theorem mlab_25 (M : mT) : mlab M 25 0 = M 25 0 + 1 := by simp [mlab, mset_eq]
theorem mlab_26 (M : mT) : mlab M 26 (M 25 0) = 0 := by simp [mlab, mset_eq]
theorem mlab_27 (M : mT) : mlab M 27 (M 25 0) = 0 := by simp [mlab, mset_eq]
theorem mWF_lab {M : mT} (h : mWF M) (hn : M 25 0 < 64) : mWF (mlab M) := by
  obtain ⟨⟨w1, w2, w3, w4⟩, w5, w6, w7, w8, w9, w10, w11⟩ := h
  have e := fun f i => mlab_f M f i
  unfold mWF maim
  rw [mlab_25, e 0 0 (by decide), e 12 0 (by decide), e 4 0 (by decide)]
  refine ⟨⟨w1, w2, w3, by omega⟩, fun q hq => ?_, fun q hq => ?_, fun q hq => ?_, fun q hq => ?_, fun q hq => ?_, fun q hq => ?_, fun q hq => ?_⟩
  · rw [e 1 q (by decide)]; exact w5 q hq
  · rw [e 5 q (by decide), e 6 q (by decide), e 7 q (by decide), e 8 q (by decide)]; exact w6 q hq
  · rw [e 13 q (by decide), e 14 q (by decide), e 20 q (by decide), e 21 q (by decide), e 19 q (by decide), e 17 q (by decide)]; exact w7 q hq
  · rw [e 13 q (by decide), e 15 q (by decide), e 16 q (by decide)]; exact w8 q hq
  · rw [e 13 q (by decide), e 15 q (by decide), e 16 q (by decide), e 18 q (by decide), e 20 q (by decide), e 21 q (by decide)]
    intro z
    obtain ⟨a1, a2, a3, a4⟩ := w9 q hq z
    exact ⟨a1, a2, by omega, a4⟩
  · rw [e 13 q (by decide), e 16 q (by decide)]; exact w10 q hq
  · by_cases z : q < M 25 0
    · rw [mlab_o _ _ _ z (by decide), mlab_o _ _ _ z (by decide), e 13 _ (by decide), e 16 _ (by decide)]; exact w11 q z
    · have : q = M 25 0 := by omega
      subst this
      rw [mlab_26]
      exact ⟨Nat.zero_le _, fun z => absurd rfl z⟩
def sLab (S : xS) (th r2 nl : Nat) : xS := xpi (xpr (xmk S 1 0) r2 nl (some (xn S))) th 8 (nI nl + 1)
theorem rC_lab (h : rC S th ar pa qa la M) (hn : M 25 0 < 64) : rC (sLab S th (ar 2) (M 25 0)) th ar pa qa (nup la (M 25 0) (xn S)) (mlab M) := by
  obtain ⟨hW, hT, hA, hP, hQ, hB, i1, i2, i3⟩ := h
  obtain ⟨⟨t1, t2⟩, t3, ⟨c0, c1, c2, c3, c4, c5⟩, t4, t5, ⟨t6, t7, t8, t9⟩, t10⟩ := hT
  have e := fun f i => mlab_f M f i
  have a2 := (t3 2 (by decide)).2
  have hnth : th ≠ xn S := Nat.ne_of_lt t2
  have hn2 : ar 2 ≠ xn S := Nat.ne_of_lt a2
  have hth2 : th ≠ ar 2 := xne t1 c2 (by decide)
  generalize hSe : sLab S th (ar 2) (M 25 0) = S'
  have hsz : xn S' = xn S + 1 := by rw [← hSe]; rfl
  have hcc : ∀ c, c < xn S → xc S' c = xc S c ∧ xl S' c = xl S c := by
    intro c hc
    have z : c ≠ xn S := Nat.ne_of_lt hc
    rw [← hSe]
    constructor <;> simp only [sLab, xc_pi, xc_pr, xl_pi, xl_pr, xc_mk, xl_mk, if_neg z]
  have hii : ∀ c, c < xn S → ∀ k, (c ≠ th ∨ k ≠ 8) → xi S' c k = xi S c k := by
    intro c hc k hk
    have z : c ≠ xn S := Nat.ne_of_lt hc
    have z2 : ¬ (c = th ∧ k = 8) := fun w => by rcases hk with q | q; exact q w.1; exact q w.2
    rw [← hSe]
    simp only [sLab, xi_pi, xi_pr, xi_mk, z, z2, if_false]
  have hrr : ∀ c, c < xn S → ∀ k, (c ≠ ar 2 ∨ k ≠ M 25 0) → xr S' c k = xr S c k := by
    intro c hc k hk
    have z : c ≠ xn S := Nat.ne_of_lt hc
    have z2 : ¬ (c = ar 2 ∧ k = M 25 0) := fun w => by rcases hk with q | q; exact q w.1; exact q w.2
    rw [← hSe]
    simp only [sLab, xr_pi, xr_pr, xr_mk, z, z2, if_false]
  have hsame : ∀ c, c < xn S → c ≠ th → c ≠ ar 2 → xSame S S' c := fun c hc h1 h2 => ⟨(hcc c hc).1, (hcc c hc).2, fun k => hii c hc k (Or.inl h1), fun k => hrr c hc k (Or.inl h2)⟩
  refine ⟨mWF_lab hW hn, ?_, ?_, ?_, ?_, ?_, ?_, ?_, ?_⟩
  · refine ⟨⟨(hcc th t2).1.trans t1, by omega⟩, fun f hf => ⟨?_, by have := (t3 f hf).2; omega⟩, ?_, ?_, t5, ⟨?_, ?_, ?_, ?_⟩, fun q hq => ?_⟩
    · rw [hrr th t2 f (Or.inl hth2)]; exact (t3 f hf).1
    · rw [(hcc _ (t3 0 (by decide)).2).1, (hcc _ (t3 1 (by decide)).2).1, (hcc _ (t3 2 (by decide)).2).1, (hcc _ (t3 3 (by decide)).2).1, (hcc _ (t3 4 (by decide)).2).1, (hcc _ (t3 5 (by decide)).2).1]
      exact ⟨c0, c1, c2, c3, c4, c5⟩
    · rw [(hcc _ (t3 0 (by decide)).2).2, (hcc _ (t3 1 (by decide)).2).2, (hcc _ (t3 2 (by decide)).2).2, (hcc _ (t3 3 (by decide)).2).2, (hcc _ (t3 4 (by decide)).2).2, (hcc _ (t3 5 (by decide)).2).2]
      exact t4
    · rw [hii th t2 6 (Or.inr (by decide)), e 4 0 (by decide)]; exact t6
    · rw [hii th t2 7 (Or.inr (by decide)), e 12 0 (by decide)]; exact t7
    · rw [mlab_25, ← nI_1, ← hSe]
      simp only [sLab, xi_pi, and_self, if_true]
    · rw [hii th t2 9 (Or.inr (by decide)), e 0 0 (by decide)]; exact t9
    · rw [hii (ar 3) (t3 3 (by decide)).2 q (Or.inl (xne c3 t1 (by decide))), e 1 q (by decide)]; exact t10 q hq
  · refine ⟨fun q hq => ?_, fun q hq => ?_, fun q hq => ?_⟩
    · rw [hrr (ar 0) (t3 0 (by decide)).2 q (Or.inl (xne c0 c2 (by decide))), e 4 0 (by decide)]; exact hA.1 q hq
    · rw [hrr (ar 1) (t3 1 (by decide)).2 q (Or.inl (xne c1 c2 (by decide))), e 12 0 (by decide)]; exact hA.2.1 q hq
    · rw [mlab_25]
      by_cases z : q = M 25 0
      · subst z
        rw [if_pos (by omega), nup_s, ← hSe]
        simp only [sLab, xr_pi, xr_pr, and_self, if_true]
      · rw [hrr (ar 2) a2 q (Or.inr z), hA.2.2 q hq]
        by_cases z2 : q < M 25 0
        · rw [if_pos z2, if_pos (by omega), nup_n _ z]
        · rw [if_neg z2, if_neg (by omega)]
  · intro q hq
    rw [e 4 0 (by decide)] at hq
    have r := hP q hq
    exact (r.same (by omega) (hsame _ r.1.2 (xne r.1.1 t1 (by decide)) (xne r.1.1 c2 (by decide)))).to rfl (fun _ _ => rfl) (e 12 0 (by decide)) (fun _ _ => e 14 _ (by decide)) ⟨e 5 q (by decide), e 6 q (by decide), e 7 q (by decide), e 8 q (by decide)⟩
  · intro k hk
    rw [e 12 0 (by decide)] at hk
    have r := hQ k hk
    exact (r.same (by omega) (hsame _ r.1.2 (xne r.1.1 t1 (by decide)) (xne r.1.1 c2 (by decide)))).to hk rfl (fun _ _ => rfl) (fun z => nup_n _ (by have := (hW.2.2.2.2.2.1 k hk z).2.2.1; omega)) (e 12 0 (by decide)) (fun _ _ => e 14 _ (by decide)) ⟨e 13 k (by decide), fun _ => e 15 k (by decide), e 16 k (by decide), e 17 k (by decide), e 18 k (by decide), e 19 k (by decide), e 20 k (by decide), e 21 k (by decide)⟩
  · intro j hj
    rw [mlab_25] at hj
    by_cases z : j = M 25 0
    · subst z
      have hnx : xn S ≠ th := Ne.symm hnth
      have hnr : xn S ≠ ar 2 := Ne.symm hn2
      unfold rB
      rw [nup_s, mlab_26, mlab_27, if_pos rfl]
      refine ⟨⟨?_, by omega⟩, ?_, ?_⟩ <;> rw [← hSe] <;> simp [sLab, xc_pi, xc_pr, xc_mk, xi_pi, xi_pr, xi_mk, xr_pi, xr_pr, xr_mk, hnx, hnr] <;> rfl
    · have hj' : j < M 25 0 := by omega
      have r := hB j hj'
      exact (r.same (by omega) (hsame _ r.1.2 (xne r.1.1 t1 (by decide)) (xne r.1.1 c2 (by decide)))).to (nup_n _ z) (mlab_o _ _ _ hj' (by decide)) (mlab_o _ _ _ hj' (by decide)) (fun _ => rfl)
  · rw [e 4 0 (by decide)]; exact i1
  · rw [e 12 0 (by decide)]; exact i2
  · intro i j hi hj hij
    rw [mlab_25] at hi hj
    by_cases z1 : i = M 25 0 <;> by_cases z2 : j = M 25 0
    · omega
    · rw [z1, nup_s, nup_n _ z2] at hij
      have := (hB j (by omega)).1.2
      omega
    · rw [z2, nup_s, nup_n _ z1] at hij
      have := (hB i (by omega)).1.2
      omega
    · rw [nup_n _ z1, nup_n _ z2] at hij
      exact i3 i j (by omega) (by omega) hij
set_option maxHeartbeats 4000000 in
set_option maxRecDepth 100000 in
theorem c_label (h : rCx S th M) : xMet l D n0 mS_label 1 2 [.inr (.inr (some th))] S (oC S th (oLabel M)) := by
  obtain ⟨ar, pa, qa, la, h⟩ := h
  refine xMet.of (k := mS_label) (own := 3) (ini := false) xm_S_label (by decide +kernel) (by decide +kernel) (by decide) (Nat.le_of_ble_eq_true rfl) ?_
  intro V hV
  show V 0 [some (.inr (.inr (some th)))] [] S 0 0
  have h1 := h.th
  have h2 := (h.2.1.2.1 2 (by decide)).1
  have h3 := h.2.1.2.2.1.2.2.1
  have h4 := h.2.1.2.2.2.1.2.2.1
  have h5 := h.2.1.2.2.2.2.2.1.2.2.1
  have hw := h.1.1.2.2.2
  have hth := h.2.1.1.2
  have har := (h.2.1.2.1 2 (by decide)).2
  have h6 : (nI (M 25 0) < Int32.ofNat 64) = (M 25 0 < 64) := propext (nI_ltI (by omega) (by decide))
  refine xrun_ok hV [26] 20 _ _ _ _ _ _ ?_
  simp (maxDischargeDepth := 60) only [xrun, xisc, ↓xstep, xget, xtgt, xcmp, xacmp, xprev, xisR, xnt, List.set, List.length, xsw, xlk, true_or, or_true, if_true, if_false, true_and, and_true, List.mem_cons, List.not_mem_nil, or_false, false_or, Bool.false_eq_true, reduceCtorEq, not_false_eq_true, forall_const, Nat.zero_add, Nat.reduceAdd, Nat.reduceSub, Int.reduceAdd, Int.reduceNeg, Int.reduceToNat, Nat.reduceEqDiff, Nat.reduceLT, Nat.reduceLeDiff, Int.reduceLE, Int.reduceLT, reduceIte, Int.cast_ofNat_Int, Int.natCast_zero, Int.natCast_one, Int.reduceAdd, eq_self, Int.reduceSub, List.length_cons, List.length_nil, xli_m1, xli_0, xli_1, xli_2, xli_3, xli_4, xli_5, xlb_8, xlb_12, xlb_31, xlb_32, xlb_64, xls_256, xls_513, xls_2048, xls_4096, xll_0, xll_1, xnr_i, xnr_0, xnr_1, xnr_ite, xft_i, xft_0, xft_1, xat_999, xat_1001, xat_1002, xat_1003, xat_2001, xat_2002, xat_2003, List.getElem?_cons_succ, List.getElem?_cons_zero, xfn_0, xfn_1, xfn_2, xfn_3, x10, x01, not_true_eq_false, false_implies, implies_true, true_implies, xrm_c, xrm_s, xnl_4, xnl_32, xnl_64, xnl_256, xtn_4, xtn_32, xtn_64, xtn_256, Option.some.injEq, Sum.inl.injEq, Sum.inr.injEq, exists_eq_left', exists_eq_right, Option.toList_some, Option.toList_none, List.cons_append, List.nil_append, xE, lg_cmp_ge, lg_cmp_le, lg_cmp_gt, lg_cmp_lt, lg_cmp_eq, Nat.le_refl, Nat.zero_le, ne_eq, Nat.add_zero, dS_label_0, dS_label_1, dS_label_4, dS_label_5, dS_label_8, dS_label_9, dS_label_12, dS_label_13, dS_label_14, dS_label_15, dS_label_18, dS_label_19, dS_label_22, dS_label_25, dS_label_26, dS_label_29, dS_label_30, dS_label_31, dS_label_32, dS_label_35, dS_label_36, dS_label_37, dS_label_40, dS_label_41, dS_label_44, dS_label_45, dS_label_46, xf_3_74, xf_3_23, xe_3_21, xg_3_21, h1, h2, h3, h4, h5, h6]
  refine ⟨⟨_, rfl⟩, fun z => ?_, fun z => ?_⟩
  · have g5 : xc (xmk S 1 0) (xn S) = 1 := by rw [xc_mk, if_pos rfl]
    refine hV.call [.inr (.inr (some (xn S))), .inl (nI (M 25 0)), .inr (.inr (some (ar 2)))] (As := [.inr (.inr (some (xn S)))]) xh_3_77 dS_label_26 (c_B_init (xmk S 1 0) (a := xn S) g5) (Or.inr ⟨_, _, rfl, fun q => absurd q (by decide)⟩) rfl rfl (Nat.le_of_ble_eq_true rfl) (by decide) (by decide) ?_
    rintro r S2 ⟨rfl, rfl⟩
    have hnt : th ≠ xn S := Nat.ne_of_lt hth
    have hnr : ar 2 ≠ xn S := Nat.ne_of_lt har
    have k1 : xc (xmk S 1 0) th = 4 := by rw [xc_mk_lt hth]; exact h1
    have k2 : xi (xmk S 1 0) th 8 = nI (M 25 0) := by rw [xi_mk, if_neg hnt]; exact h5
    have g3 : xc (xmk S 1 0) (ar 2) = 2003 := by rw [xc_mk_lt har]; exact h3
    have g4 : xl (xmk S 1 0) (ar 2) = 64 := by rw [xl_mk, if_neg hnr]; exact h4
    have e0 : (nI (M 25 0)).toNatClampNeg = M 25 0 := nI_clamp (by omega)
    refine xrun_ok hV [26] 20 _ _ _ _ _ _ ?_
    simp (maxDischargeDepth := 60) only [xrun, xisc, ↓xstep, xget, xtgt, xcmp, xacmp, xprev, xisR, xnt, List.set, List.length, xsw, xlk, true_or, or_true, if_true, if_false, true_and, and_true, List.mem_cons, List.not_mem_nil, or_false, false_or, Bool.false_eq_true, reduceCtorEq, not_false_eq_true, forall_const, Nat.zero_add, Nat.reduceAdd, Nat.reduceSub, Int.reduceAdd, Int.reduceNeg, Int.reduceToNat, Nat.reduceEqDiff, Nat.reduceLT, Nat.reduceLeDiff, Int.reduceLE, Int.reduceLT, reduceIte, Int.cast_ofNat_Int, Int.natCast_zero, Int.natCast_one, Int.reduceAdd, eq_self, Int.reduceSub, List.length_cons, List.length_nil, xli_m1, xli_0, xli_1, xli_2, xli_3, xli_4, xli_5, xlb_8, xlb_12, xlb_31, xlb_32, xlb_64, xls_256, xls_513, xls_2048, xls_4096, xll_0, xll_1, xnr_i, xnr_0, xnr_1, xnr_ite, xft_i, xft_0, xft_1, xat_999, xat_1001, xat_1002, xat_1003, xat_2001, xat_2002, xat_2003, List.getElem?_cons_succ, List.getElem?_cons_zero, xfn_0, xfn_1, xfn_2, xfn_3, x10, x01, not_true_eq_false, false_implies, implies_true, true_implies, xrm_c, xrm_s, xnl_4, xnl_32, xnl_64, xnl_256, xtn_4, xtn_32, xtn_64, xtn_256, Option.some.injEq, Sum.inl.injEq, Sum.inr.injEq, exists_eq_left', exists_eq_right, Option.toList_some, Option.toList_none, List.cons_append, List.nil_append, xE, lg_cmp_ge, lg_cmp_le, lg_cmp_gt, lg_cmp_lt, lg_cmp_eq, Nat.le_refl, Nat.zero_le, ne_eq, Nat.add_zero, dS_label_0, dS_label_1, dS_label_4, dS_label_5, dS_label_8, dS_label_9, dS_label_12, dS_label_13, dS_label_14, dS_label_15, dS_label_18, dS_label_19, dS_label_22, dS_label_25, dS_label_26, dS_label_29, dS_label_30, dS_label_31, dS_label_32, dS_label_35, dS_label_36, dS_label_37, dS_label_40, dS_label_41, dS_label_44, dS_label_45, dS_label_46, xf_3_74, xf_3_23, xe_3_21, xg_3_21, k1, k2, g3, g4, g5, xc_pi, xc_pr, xl_pi, xl_pr, xi_pi, xi_pr, hnt, false_and, e0]
    unfold oLabel
    rw [if_pos z]
    refine ⟨ar 2, xn S, 0, _, rfl, rfl, rfl, g5, by rw [g3]; rfl, by rw [g4]; exact vp_in_nI (by omega) (by decide), ?_, ⟨_, _, _, _, rC_lab h z⟩, ?_⟩
    · rw [nI_1, nI_pred]
    · exact ((xFr.mk (t := 1) (n := 0)).tr (xFr.pr (by rw [g3]; rfl))).tr (xFr.pi (by rw [xc_pr, k1]; rfl))
  · unfold oLabel
    rw [if_neg z]
    exact ⟨rfl, ⟨ar, pa, qa, la, h⟩, xFr.rf _ _⟩
end ADD
end
section
/-! THE CLASS: a piece is new -/
theorem madd_f (M : mT) (pt s n w lb c t f i : Nat) (h : f ≠ 12 ∧ f ≠ 13 ∧ f ≠ 14 ∧ f ≠ 15 ∧ f ≠ 16 ∧ f ≠ 17 ∧ f ≠ 18 ∧ f ≠ 19 ∧ f ≠ 20 ∧ f ≠ 21) : madd M pt s n w lb c t f i = M f i := by
  obtain ⟨h1, h2, h3, h4, h5, h6, h7, h8, h9, h10⟩ := h
  simp [madd, mset_eq, h1, h2, h3, h4, h5, h6, h7, h8, h9, h10]
theorem madd_o (M : mT) (pt s n w lb c t f i : Nat) (h : i < M 12 0) (hf : f ≠ 12) : madd M pt s n w lb c t f i = M f i := by
  have : i ≠ M 12 0 := Nat.ne_of_lt h
  simp [madd, mset_eq, hf, this]
theorem madd_12 (M : mT) (pt s n w lb c t : Nat) : madd M pt s n w lb c t 12 0 = M 12 0 + 1 := by simp [madd, mset_eq]
theorem madd_n (M : mT) (pt s n w lb c t : Nat) : madd M pt s n w lb c t 13 (M 12 0) = s ∧ madd M pt s n w lb c t 14 (M 12 0) = pt ∧ madd M pt s n w lb c t 15 (M 12 0) = n ∧ madd M pt s n w lb c t 16 (M 12 0) = n ∧ madd M pt s n w lb c t 17 (M 12 0) = w ∧ madd M pt s n w lb c t 18 (M 12 0) = lb ∧ madd M pt s n w lb c t 19 (M 12 0) = c ∧ madd M pt s n w lb c t 20 (M 12 0) = t ∧ madd M pt s n w lb c t 21 (M 12 0) = 0 := by
  simp [madd, mset_eq]
def saim (s : Nat) : Bool := decide (1 ≤ s) && decide (s < 4)
theorem maim_eq (M : mT) (k : Nat) : maim M k = saim (M 13 k) := rfl
/-- what a new piece's numbers must be -/
def mOK (M : mT) (pt s n w lb c t : Nat) : Prop := s ≤ 4 ∧ pt < M 4 0 ∧ w ≤ 12 ∧ t ≤ 1 ∧ c < 2 ^ 32 ∧ (s = 0 → n ≤ 4194304) ∧ (saim s = true → n = mgr s ∧ lb < M 25 0 ∧ (s = 3 → t = 0)) ∧ (s = 4 → n ≤ 4096)
theorem mWF_add {M : mT} (h : mWF M) {pt s n w lb c t : Nat} (hn : M 12 0 < 256) (ho : mOK M pt s n w lb c t) : mWF (madd M pt s n w lb c t) := by
  obtain ⟨⟨w1, w2, w3, w4⟩, w5, w6, w7, w8, w9, w10, w11⟩ := h
  obtain ⟨o1, o2, o3, o4, o5, o6, o7, o8⟩ := ho
  have e := fun f i => madd_f M pt s n w lb c t f i
  have eo := fun f i => madd_o M pt s n w lb c t f i
  obtain ⟨n13, n14, n15, n16, n17, n18, n19, n20, n21⟩ := madd_n M pt s n w lb c t
  unfold mWF
  simp only [maim_eq]
  rw [madd_12, e 0 0 (by decide), e 25 0 (by decide), e 4 0 (by decide)]
  refine ⟨⟨w1, w2, by omega, w4⟩, fun q hq => ?_, fun q hq => ?_, fun q hq => ?_, fun q hq => ?_, fun q hq => ?_, fun q hq => ?_, fun q hq => ?_⟩
  · rw [e 1 q (by decide)]; exact w5 q hq
  · rw [e 5 q (by decide), e 6 q (by decide), e 7 q (by decide), e 8 q (by decide)]; exact w6 q hq
  · by_cases z : q < M 12 0
    · rw [eo 13 q z (by decide), eo 14 q z (by decide), eo 20 q z (by decide), eo 21 q z (by decide), eo 19 q z (by decide), eo 17 q z (by decide)]; exact w7 q z
    · have : q = M 12 0 := by omega
      subst this
      rw [n13, n14, n20, n21, n19, n17]
      exact ⟨o1, o2, o4, by decide, o5, o3⟩
  · by_cases z : q < M 12 0
    · rw [eo 13 q z (by decide), eo 15 q z (by decide), eo 16 q z (by decide)]; exact w8 q z
    · have : q = M 12 0 := by omega
      subst this
      rw [n13, n15, n16]
      exact fun z => ⟨rfl, o6 z⟩
  · by_cases z : q < M 12 0
    · rw [eo 13 q z (by decide), eo 15 q z (by decide), eo 16 q z (by decide), eo 18 q z (by decide), eo 20 q z (by decide), eo 21 q z (by decide)]; exact w9 q z
    · have : q = M 12 0 := by omega
      subst this
      rw [n13, n15, n16, n18, n20, n21]
      intro z
      obtain ⟨p1, p2, p3⟩ := o7 z
      exact ⟨p1, by omega, p2, fun z => by omega, p3⟩
  · by_cases z : q < M 12 0
    · rw [eo 13 q z (by decide), eo 16 q z (by decide)]; exact w10 q z
    · have : q = M 12 0 := by omega
      subst this
      rw [n13, n16]
      exact o8
  · rw [e 26 q (by decide), e 27 q (by decide)]
    have := w11 q hq
    refine ⟨by omega, fun z => ?_⟩
    rw [eo 13 _ (by omega) (by decide), eo 16 _ (by omega) (by decide)]
    exact this.2 z
theorem mnx_none_iff {M : mT} {p : Nat} : ∀ (d k : Nat), mnx M p k d = none ↔ ∀ j, k ≤ j → j < k + d → M 14 j ≠ p
  | 0, k => ⟨fun _ j h1 h2 => by omega, fun _ => rfl⟩
  | d + 1, k => by
    rw [mnx]
    by_cases z : M 14 k = p
    · rw [if_pos z]
      exact ⟨fun h => (by cases h), fun h => absurd z (h k (Nat.le_refl _) (by omega))⟩
    · rw [if_neg z, mnx_none_iff d (k + 1)]
      refine ⟨fun h j h1 h2 => ?_, fun h j h1 h2 => h j (by omega) (by omega)⟩
      by_cases e : j = k
      · rw [e]; exact z
      · exact h j (by omega) (by omega)
theorem mnx_snoc {M : mT} {p : Nat} : ∀ (d k : Nat), mnx M p k (d + 1) = match mnx M p k d with
    | some j => some j
    | none => if M 14 (k + d) = p then some (k + d) else none
  | 0, k => by
    simp only [mnx, Nat.add_zero]
  | d + 1, k => by
    rw [mnx]
    by_cases z : M 14 k = p
    · rw [if_pos z]
      conv => rhs; rw [mnx, if_pos z]
    · rw [if_neg z, mnx_snoc d (k + 1)]
      conv => rhs; rw [mnx, if_neg z, show k + (d + 1) = k + 1 + d by omega]
theorem mla_some_iff {M : mT} {p : Nat} : ∀ (n k : Nat), mla M p n = some k ↔ k < n ∧ M 14 k = p ∧ ∀ j, k < j → j < n → M 14 j ≠ p
  | 0, k => ⟨fun h => (by cases h), fun h => by omega⟩
  | n + 1, k => by
    rw [mla]
    by_cases z : M 14 n = p
    · rw [if_pos z]
      refine ⟨fun h => by cases h; exact ⟨by omega, z, fun j h1 h2 => by omega⟩, fun h => ?_⟩
      by_cases e : k = n
      · rw [e]
      · exact absurd z (h.2.2 n (by omega) (by omega))
    · rw [if_neg z, mla_some_iff n k]
      refine ⟨fun h => ⟨by omega, h.2.1, fun j h1 h2 => ?_⟩, fun h => ?_⟩
      · by_cases e : j = n
        · rw [e]; exact z
        · exact h.2.2 j h1 (by omega)
      · have : k ≠ n := fun e => z (e ▸ h.2.1)
        exact ⟨by omega, h.2.1, fun j h1 h2 => h.2.2 j h1 (by omega)⟩
theorem mla_none_iff {M : mT} {p : Nat} : ∀ (n : Nat), mla M p n = none ↔ ∀ j, j < n → M 14 j ≠ p
  | 0 => ⟨fun _ j h => by omega, fun _ => rfl⟩
  | n + 1 => by
    rw [mla]
    by_cases z : M 14 n = p
    · rw [if_pos z]
      exact ⟨fun h => (by cases h), fun h => absurd z (h n (by omega))⟩
    · rw [if_neg z, mla_none_iff n]
      refine ⟨fun h j h1 => ?_, fun h j h1 => h j (by omega)⟩
      by_cases e : j = n
      · rw [e]; exact z
      · exact h j (by omega)
section PIECE
variable {l : Launch} {D : va_G} {n0 : Nat} {S : xS} {th : Nat} {ar pa qa la : Nat → Nat} {M : mT}
theorem rC.same {S' : xS} (h : rC S th ar pa qa la M) (hn : xn S ≤ xn S') (hs : ∀ b, b < xn S → xSame S S' b) : rC S' th ar pa qa la M := by
  obtain ⟨hW, hT, hA, hP, hQ, hB, i⟩ := h
  obtain ⟨⟨t1, t2⟩, t3, ⟨c0, c1, c2, c3, c4, c5⟩, ⟨l0, l1, l2, l3, l4, l5⟩, t5, ⟨t6, t7, t8, t9⟩, t10⟩ := hT
  have s0 := hs _ (t3 0 (by decide)).2
  have s1 := hs _ (t3 1 (by decide)).2
  have s2 := hs _ (t3 2 (by decide)).2
  have s3 := hs _ (t3 3 (by decide)).2
  have s4 := hs _ (t3 4 (by decide)).2
  have s5 := hs _ (t3 5 (by decide)).2
  have st := hs _ t2
  refine ⟨hW, ⟨⟨st.1.trans t1, by omega⟩, fun f hf => ⟨(st.2.2.2 f).trans (t3 f hf).1, by have := (t3 f hf).2; omega⟩, ⟨s0.1.trans c0, s1.1.trans c1, s2.1.trans c2, s3.1.trans c3, s4.1.trans c4, s5.1.trans c5⟩, ⟨s0.2.1.trans l0, s1.2.1.trans l1, s2.2.1.trans l2, s3.2.1.trans l3, s4.2.1.trans l4, s5.2.1.trans l5⟩, t5, ⟨(st.2.2.1 6).trans t6, (st.2.2.1 7).trans t7, (st.2.2.1 8).trans t8, (st.2.2.1 9).trans t9⟩, fun o ho => (s3.2.2.1 o).trans (t10 o ho)⟩, ⟨fun p hp => (s0.2.2.2 p).trans (hA.1 p hp), fun p hp => (s1.2.2.2 p).trans (hA.2.1 p hp), fun p hp => (s2.2.2.2 p).trans (hA.2.2 p hp)⟩, fun p hp => (hP p hp).same hn (hs _ (hP p hp).1.2), fun p hp => (hQ p hp).same hn (hs _ (hQ p hp).1.2), fun p hp => (hB p hp).same hn (hs _ (hB p hp).1.2), i⟩
/-- the cell of a piece that is in no list yet -/
def rN (S : xS) (pa la : Nat → Nat) (a pt s n w lb c t : Nat) : Prop :=
  (xc S a = 3 ∧ a < xn S) ∧ xi S a 0 = nI s ∧ xr S a 1 = some (pa pt) ∧ xr S a 2 = (if saim s = true then some (la lb) else none) ∧ xi S a 3 = nI c ∧ xi S a 4 = nI t ∧ xi S a 5 = nI w ∧ (saim s = false → xi S a 6 = nI n) ∧ xi S a 7 = nI n ∧ xi S a 8 = nI n ∧ xi S a 11 = 0 ∧ xr S a 12 = none
theorem rC_add {S' : xS} {a pt s n w lb c t : Nat} (h : rC S th ar pa qa la M) (hq : M 12 0 < 256) (hN : rN S pa la a pt s n w lb c t) (ho : mOK M pt s n w lb c t) (hne : ∀ k, k < M 12 0 → qa k ≠ a)
    (hsz : xn S' = xn S) (hcc : ∀ b, xc S' b = xc S b ∧ xl S' b = xl S b) (hii : ∀ b k, (b ≠ th ∨ k ≠ 7) → xi S' b k = xi S b k) (hi7 : xi S' th 7 = nI (M 12 0 + 1))
    (hrr : ∀ b k, ¬ (b = ar 1 ∧ k = M 12 0) → ¬ (b = pa pt ∧ (k = 7 ∨ k = 8)) → (∀ z, mla M pt (M 12 0) = some z → ¬ (b = qa z ∧ k = 12)) → xr S' b k = xr S b k)
    (v1 : xr S' (ar 1) (M 12 0) = some a) (v2 : xr S' (pa pt) 8 = some a) (v3 : xr S' (pa pt) 7 = if mla M pt (M 12 0) = none then some a else xr S (pa pt) 7) (v4 : ∀ z, mla M pt (M 12 0) = some z → xr S' (qa z) 12 = some a) : rC S' th ar pa (nup qa (M 12 0) a) la (madd M pt s n w lb c t) := by
  have hpt := ho.2.1
  obtain ⟨hW, hT, hA, hP, hQ, hB, i1, i2, i3⟩ := h
  obtain ⟨⟨t1, t2⟩, t3, ⟨c0, c1, c2, c3, c4, c5⟩, t4, t5, ⟨t6, t7, t8, t9⟩, t10⟩ := hT
  have e := fun f i => madd_f M pt s n w lb c t f i
  have eo := fun f i => madd_o M pt s n w lb c t f i
  obtain ⟨n13, n14, n15, n16, n17, n18, n19, n20, n21⟩ := madd_n M pt s n w lb c t
  have e12 := madd_12 M pt s n w lb c t
  have hpc : xc S (pa pt) = 2 := (hP pt hpt).1.1
  have hzc : ∀ z, mla M pt (M 12 0) = some z → xc S (qa z) = 3 := fun z hz => (hQ z (mla_lt _ _ hz).1).1.1
  -- a cell of another tag keeps its references
  have hro : ∀ b k, xc S b ≠ 2002 → xc S b ≠ 2 → xc S b ≠ 3 → xr S' b k = xr S b k := fun b k q1 q2 q3 => hrr b k (fun z => q1 (by rw [z.1]; exact c1)) (fun z => q2 (by rw [z.1]; exact hpc)) (fun z hz w => q3 (by rw [w.1]; exact hzc z hz))
  have hmla : ∀ p, p ≠ pt → mla (madd M pt s n w lb c t) p (M 12 0 + 1) = mla M p (M 12 0) := by
    intro p hp
    rw [mla, n14, if_neg (Ne.symm hp)]
    exact mla_congr _ (fun j hj => eo 14 j hj (by decide))
  have hmx : ∀ p k d, k + d ≤ M 12 0 → mnx (madd M pt s n w lb c t) p k d = mnx M p k d := fun p k d hd => mnx_congr _ _ (fun j hj => eo 14 j (by omega) (by decide))
  refine ⟨mWF_add hW hq ho, ?_, ?_, ?_, ?_, ?_, ?_, ?_, ?_⟩
  · refine ⟨⟨(hcc th).1.trans t1, by omega⟩, fun f hf => ⟨?_, by have := (t3 f hf).2; omega⟩, ?_, ?_, t5, ⟨?_, ?_, ?_, ?_⟩, fun q hq => ?_⟩
    · rw [hro th f (by rw [t1]; decide) (by rw [t1]; decide) (by rw [t1]; decide)]; exact (t3 f hf).1
    · simp only [(hcc _).1]; exact ⟨c0, c1, c2, c3, c4, c5⟩
    · simp only [(hcc _).2]; exact t4
    · rw [hii th 6 (Or.inr (by decide)), e 4 0 (by decide)]; exact t6
    · rw [hi7, e12]
    · rw [hii th 8 (Or.inr (by decide)), e 25 0 (by decide)]; exact t8
    · rw [hii th 9 (Or.inr (by decide)), e 0 0 (by decide)]; exact t9
    · rw [hii (ar 3) q (Or.inl (xne c3 t1 (by decide))), e 1 q (by decide)]; exact t10 q hq
  · refine ⟨fun q hq => ?_, fun q hq => ?_, fun q hq => ?_⟩
    · rw [hro (ar 0) q (by rw [c0]; decide) (by rw [c0]; decide) (by rw [c0]; decide), e 4 0 (by decide)]; exact hA.1 q hq
    · rw [e12]
      by_cases z : q = M 12 0
      · subst z
        rw [if_pos (by omega), nup_s]; exact v1
      · rw [hrr (ar 1) q (fun w => z w.2) (fun w => xne c1 hpc (by decide) w.1) (fun y hy w => xne c1 (hzc y hy) (by decide) w.1), hA.2.1 q hq]
        by_cases z2 : q < M 12 0
        · rw [if_pos z2, if_pos (by omega), nup_n _ z]
        · rw [if_neg z2, if_neg (by omega)]
    · rw [hro (ar 2) q (by rw [c2]; decide) (by rw [c2]; decide) (by rw [c2]; decide), e 25 0 (by decide)]; exact hA.2.2 q hq
  · intro p hp
    rw [e 4 0 (by decide)] at hp
    obtain ⟨⟨p1, p2⟩, ⟨p3, p4, p5, p6, p7⟩, p8, p9⟩ := hP p hp
    have hnt : pa p ≠ th := xne p1 t1 (by decide)
    refine ⟨⟨(hcc _).1.trans p1, by omega⟩, ⟨?_, ?_, ?_, ?_, ?_⟩, ?_, ?_⟩
    · rw [hii _ _ (Or.inl hnt)]; exact p3
    · rw [hii _ _ (Or.inl hnt), e 5 p (by decide)]; exact p4
    · rw [hii _ _ (Or.inl hnt), e 6 p (by decide)]; exact p5
    · rw [hii _ _ (Or.inl hnt), e 8 p (by decide)]; exact p6
    · rw [hii _ _ (Or.inl hnt), e 7 p (by decide)]; exact p7
    · unfold mfirst
      rw [e12, mnx_snoc, hmx p 0 (M 12 0) (by omega), Nat.zero_add, n14]
      by_cases z : p = pt
      · subst z
        rw [v3]
        by_cases y : mla M p (M 12 0) = none
        · have y2 : mnx M p 0 (M 12 0) = none := (mnx_none_iff _ _).mpr (fun j _ hj => (mla_none_iff _).mp y j (by omega))
          rw [if_pos y, y2]
          simp [nup_s]
        · rw [if_neg y, p8]
          unfold mfirst
          cases hm : mnx M p 0 (M 12 0) with
          | none => exact absurd ((mla_none_iff _).mpr (fun j hj => (mnx_none_iff _ _).mp hm j (by omega) (by omega))) y
          | some j =>
            have := mnx_lt _ _ _ hm
            simp [nup_n _ (show j ≠ M 12 0 by omega)]
      · rw [hrr _ _ (fun w => xne p1 c1 (by decide) w.1) (fun w => z (i1 p pt hp hpt w.1)) (fun y hy w => xne p1 (hzc y hy) (by decide) w.1), p8, if_neg (Ne.symm z)]
        unfold mfirst
        cases hm : mnx M p 0 (M 12 0) with
        | none => rfl
        | some j =>
          have := mnx_lt _ _ _ hm
          simp [nup_n _ (show j ≠ M 12 0 by omega)]
    · rw [e12]
      by_cases z : p = pt
      · subst z
        rw [v2, mla, n14, if_pos rfl]
        simp [nup_s]
      · rw [hmla p z, hrr _ _ (fun w => xne p1 c1 (by decide) w.1) (fun w => z (i1 p pt hp hpt w.1)) (fun y hy w => xne p1 (hzc y hy) (by decide) w.1), p9]
        cases hm : mla M p (M 12 0) with
        | none => rfl
        | some j =>
          have := mla_lt _ _ hm
          simp [nup_n _ (show j ≠ M 12 0 by omega)]
  · intro k hk
    rw [e12] at hk
    by_cases zk : k = M 12 0
    · subst zk
      obtain ⟨⟨a1, a2⟩, f0, f1, f2, f3, f4, f5, f6, f7, f8, f11, f12⟩ := hN
      have hnt : a ≠ th := xne a1 t1 (by decide)
      have hra : ∀ k, xr S' a k = xr S a k := fun k => hrr a k (fun z => xne a1 c1 (by decide) z.1) (fun z => xne a1 hpc (by decide) z.1) (fun z hz w => hne z (mla_lt _ _ hz).1 w.1.symm)
      have ea : maim (madd M pt s n w lb c t) (M 12 0) = saim s := by rw [maim_eq, n13]
      unfold rQ
      rw [ea, nup_s, n13, n14, n15, n16, n17, n18, n19, n20, n21]
      have hx : mnext (madd M pt s n w lb c t) (M 12 0) = none := by
        unfold mnext
        rw [e12, Nat.sub_self]
        rfl
      rw [hx]
      simp only [hii a _ (Or.inl hnt), hra, (hcc a).1]
      exact ⟨⟨a1, by omega⟩, ⟨f0, f1, f2, f3, f4, f5, f6, f7⟩, fun _ => f8, f11, f12⟩
    · have hk' : k < M 12 0 := by omega
      obtain ⟨⟨q1, q2⟩, ⟨q3, q4, q5, q6, q7, q8, q9, q10⟩, q11, q12, q13⟩ := hQ k hk'
      have hnt : qa k ≠ th := xne q1 t1 (by decide)
      have hrk : ∀ j, j ≠ 12 → xr S' (qa k) j = xr S (qa k) j := fun j hj => hrr _ j (fun z => xne q1 c1 (by decide) z.1) (fun z => xne q1 hpc (by decide) z.1) (fun z hz w => hj w.2)
      have ea : maim (madd M pt s n w lb c t) k = maim M k := by rw [maim_eq, maim_eq, eo 13 k hk' (by decide)]
      unfold rQ
      rw [ea, nup_n _ zk, eo 13 k hk' (by decide), eo 14 k hk' (by decide), eo 15 k hk' (by decide), eo 16 k hk' (by decide), eo 17 k hk' (by decide), eo 18 k hk' (by decide), eo 19 k hk' (by decide), eo 20 k hk' (by decide), eo 21 k hk' (by decide)]
      simp only [hii _ _ (Or.inl hnt), (hcc _).1, hrk 1 (by decide), hrk 2 (by decide)]
      refine ⟨⟨q1, by omega⟩, ⟨q3, q4, q5, q6, q7, q8, q9, q10⟩, q11, q12, ?_⟩
      unfold mnext
      rw [eo 14 k hk' (by decide), e12, show M 12 0 + 1 - (k + 1) = (M 12 0 - (k + 1)) + 1 by omega, mnx_snoc, hmx _ _ _ (by omega), show k + 1 + (M 12 0 - (k + 1)) = M 12 0 by omega, n14]
      unfold mnext at q13
      cases hm : mnx M (M 14 k) (k + 1) (M 12 0 - (k + 1)) with
      | some j =>
        have hj := mnx_lt _ _ _ hm
        rw [hrr _ _ (fun z => xne q1 c1 (by decide) z.1) (fun z => xne q1 hpc (by decide) z.1) (fun z hz w => ?_), q13, hm]
        · simp [nup_n _ (show j ≠ M 12 0 by omega)]
        · have hzk := i2 k z hk' (mla_lt _ _ hz).1 w.1
          subst hzk
          have := ((mla_some_iff _ _).mp hz).2
          exact this.2 j (by omega) (by omega) (hj.2.2.trans this.1)
      | none =>
        by_cases zp : pt = M 14 k
        · have hl : mla M pt (M 12 0) = some k := (mla_some_iff _ _).mpr ⟨hk', zp.symm, fun j h1 h2 => by rw [zp]; exact (mnx_none_iff _ _).mp hm j (by omega) (by omega)⟩
          rw [v4 k hl, if_pos zp]
          simp [nup_s]
        · rw [if_neg zp, hrr _ _ (fun z => xne q1 c1 (by decide) z.1) (fun z => xne q1 hpc (by decide) z.1) (fun z hz w => ?_), q13, hm]
          · rfl
          · have hzk := i2 k z hk' (mla_lt _ _ hz).1 w.1
            subst hzk
            exact zp (mla_lt _ _ hz).2.symm
  · intro j hj
    rw [e 25 0 (by decide)] at hj
    obtain ⟨⟨b1, b2⟩, b3, b4⟩ := hB j hj
    unfold rB
    rw [e 26 j (by decide), e 27 j (by decide), (hcc _).1, hii _ _ (Or.inl (xne b1 t1 (by decide))), hro _ _ (by rw [b1]; decide) (by rw [b1]; decide) (by rw [b1]; decide)]
    refine ⟨⟨b1, by omega⟩, ?_, b4⟩
    rw [b3]
    by_cases z : M 26 j = 0
    · rw [if_pos z, if_pos z]
    · have := (hW.2.2.2.2.2.2.2 j hj).1
      rw [if_neg z, if_neg z, nup_n _ (show M 26 j - 1 ≠ M 12 0 by omega)]
  · rw [e 4 0 (by decide)]; exact i1
  · intro i j hi hj hij
    rw [e12] at hi hj
    by_cases z1 : i = M 12 0 <;> by_cases z2 : j = M 12 0
    · omega
    · rw [z1, nup_s, nup_n _ z2] at hij
      exact absurd hij.symm (hne j (by omega))
    · rw [z2, nup_s, nup_n _ z1] at hij
      exact absurd hij (hne i (by omega))
    · rw [nup_n _ z1, nup_n _ z2] at hij
      exact i2 i j (by omega) (by omega) hij
  · rw [e 25 0 (by decide)]; exact i3
set_option maxHeartbeats 4000000 in
set_option maxRecDepth 100000 in
theorem c_append {b a : Nat} (hb : xc S b = 2) (hz : ∀ z, xr S b 8 = some z → xc S z = 3) : xMet l D n0 mP_append 0 0 [.inr (.inr (some b)), .inr (.inr (some a))] S (fun r S' => r = none ∧ (xr S b 8 = none → S' = xpr (xpr S b 7 (some a)) b 8 (some a)) ∧ ∀ z, xr S b 8 = some z → S' = xpr (xpr S z 12 (some a)) b 8 (some a)) := by
  refine xMet.of (k := mP_append) (own := 1) (ini := false) xm_P_append (by decide +kernel) (by decide +kernel) (by decide) (Nat.le_of_ble_eq_true rfl) ?_
  intro V hV
  show V 0 [some (.inr (.inr (some b))), some (.inr (.inr (some a)))] [] S 0 0
  cases hl : xr S b 8 with
  | none =>
    refine xrun_ok hV [] 30 _ _ _ _ _ _ ?_
    simp (maxDischargeDepth := 60) only [xrun, xisc, ↓xstep, xget, xtgt, xcmp, xacmp, xprev, xisR, xnt, List.set, List.length, xsw, xlk, true_or, or_true, if_true, if_false, true_and, and_true, List.mem_cons, List.not_mem_nil, or_false, false_or, Bool.false_eq_true, reduceCtorEq, not_false_eq_true, forall_const, Nat.zero_add, Nat.reduceAdd, Nat.reduceSub, Int.reduceAdd, Int.reduceNeg, Int.reduceToNat, Nat.reduceEqDiff, Nat.reduceLT, Nat.reduceLeDiff, Int.reduceLE, Int.reduceLT, reduceIte, Int.cast_ofNat_Int, Int.natCast_zero, Int.natCast_one, Int.reduceAdd, eq_self, Int.reduceSub, List.length_cons, List.length_nil, xli_m1, xli_0, xli_1, xli_2, xli_3, xli_4, xli_5, xlb_8, xlb_12, xlb_31, xlb_32, xlb_64, xls_256, xls_513, xls_2048, xls_4096, xll_0, xll_1, xnr_i, xnr_0, xnr_1, xnr_ite, xft_i, xft_0, xft_1, xat_999, xat_1001, xat_1002, xat_1003, xat_2001, xat_2002, xat_2003, List.getElem?_cons_succ, List.getElem?_cons_zero, xfn_0, xfn_1, xfn_2, xfn_3, x10, x01, not_true_eq_false, false_implies, implies_true, true_implies, xrm_c, xrm_s, xnl_4, xnl_32, xnl_64, xnl_256, xtn_4, xtn_32, xtn_64, xtn_256, Option.some.injEq, Sum.inl.injEq, Sum.inr.injEq, exists_eq_left', exists_eq_right, Option.toList_some, Option.toList_none, List.cons_append, List.nil_append, xE, lg_cmp_ge, lg_cmp_le, lg_cmp_gt, lg_cmp_lt, lg_cmp_eq, Nat.le_refl, Nat.zero_le, ne_eq, Nat.add_zero, dP_append_0, dP_append_1, dP_append_4, dP_append_7, dP_append_8, dP_append_9, dP_append_12, dP_append_15, dP_append_16, dP_append_19, dP_append_20, dP_append_23, dP_append_24, dP_append_25, dP_append_28, xf_1_19, xf_1_23, xf_1_26, hb, hl, xc_pr]
  | some z =>
    have hzc := hz z hl
    refine xrun_ok hV [] 30 _ _ _ _ _ _ ?_
    simp (maxDischargeDepth := 60) only [xrun, xisc, ↓xstep, xget, xtgt, xcmp, xacmp, xprev, xisR, xnt, List.set, List.length, xsw, xlk, true_or, or_true, if_true, if_false, true_and, and_true, List.mem_cons, List.not_mem_nil, or_false, false_or, Bool.false_eq_true, reduceCtorEq, not_false_eq_true, forall_const, Nat.zero_add, Nat.reduceAdd, Nat.reduceSub, Int.reduceAdd, Int.reduceNeg, Int.reduceToNat, Nat.reduceEqDiff, Nat.reduceLT, Nat.reduceLeDiff, Int.reduceLE, Int.reduceLT, reduceIte, Int.cast_ofNat_Int, Int.natCast_zero, Int.natCast_one, Int.reduceAdd, eq_self, Int.reduceSub, List.length_cons, List.length_nil, xli_m1, xli_0, xli_1, xli_2, xli_3, xli_4, xli_5, xlb_8, xlb_12, xlb_31, xlb_32, xlb_64, xls_256, xls_513, xls_2048, xls_4096, xll_0, xll_1, xnr_i, xnr_0, xnr_1, xnr_ite, xft_i, xft_0, xft_1, xat_999, xat_1001, xat_1002, xat_1003, xat_2001, xat_2002, xat_2003, List.getElem?_cons_succ, List.getElem?_cons_zero, xfn_0, xfn_1, xfn_2, xfn_3, x10, x01, not_true_eq_false, false_implies, implies_true, true_implies, xrm_c, xrm_s, xnl_4, xnl_32, xnl_64, xnl_256, xtn_4, xtn_32, xtn_64, xtn_256, Option.some.injEq, Sum.inl.injEq, Sum.inr.injEq, exists_eq_left', exists_eq_right, Option.toList_some, Option.toList_none, List.cons_append, List.nil_append, xE, lg_cmp_ge, lg_cmp_le, lg_cmp_gt, lg_cmp_lt, lg_cmp_eq, Nat.le_refl, Nat.zero_le, ne_eq, Nat.add_zero, dP_append_0, dP_append_1, dP_append_4, dP_append_7, dP_append_8, dP_append_9, dP_append_12, dP_append_15, dP_append_16, dP_append_19, dP_append_20, dP_append_23, dP_append_24, dP_append_25, dP_append_28, xf_1_19, xf_1_23, xf_1_26, hb, hl, hzc, xc_pr]
    rintro _ rfl
    rfl
set_option maxHeartbeats 4000000 in
set_option maxRecDepth 100000 in
theorem c_addPiece {a pt s n w lb c t : Nat} (h : rC S th ar pa qa la M) (hN : rN S pa la a pt s n w lb c t) (ho : mOK M pt s n w lb c t) (hne : ∀ k, k < M 12 0 → qa k ≠ a) : xMet l D n0 mS_addPiece 0 0 [.inr (.inr (some th)), .inr (.inr (some a))] S (fun r S' => (M 12 0 < 256 → r = some (.inl (nI (M 12 0))) ∧ rC S' th ar pa (nup qa (M 12 0) a) la (madd M pt s n w lb c t)) ∧ (¬ M 12 0 < 256 → r = some (.inl (-1)) ∧ S' = S) ∧ xFr tC S S') := by
  refine xMet.of (k := mS_addPiece) (own := 3) (ini := false) xm_S_addPiece (by decide +kernel) (by decide +kernel) (by decide) (Nat.le_of_ble_eq_true rfl) ?_
  intro V hV
  show V 0 [some (.inr (.inr (some th))), some (.inr (.inr (some a)))] [] S 0 0
  have h1 := h.th
  have h2 := (h.2.1.2.1 1 (by decide)).1
  have h3 := h.2.1.2.2.1.2.1
  have h4 := h.2.1.2.2.2.1.2.1
  have h5 := h.2.1.2.2.2.2.2.1.2.1
  have hw := h.1.1.2.2.1
  have hpt := ho.2.1
  have ha := hN.1.1
  have hap := hN.2.2.1
  have h6 : (nI (M 12 0) < Int32.ofNat 256) = (M 12 0 < 256) := propext (nI_ltI (by omega) (by decide))
  have e0 : (nI (M 12 0)).toNatClampNeg = M 12 0 := nI_clamp (by omega)
  have hP := h.2.2.2.1 pt hpt
  have hnA : a ≠ ar 1 := xne ha h3 (by decide)
  have hnP : pa pt ≠ ar 1 := xne hP.1.1 h3 (by decide)
  have hnT : th ≠ ar 1 := xne h1 h3 (by decide)
  refine xrun_ok hV [] 30 _ _ _ _ _ _ ?_
  simp (maxDischargeDepth := 60) only [xrun, xisc, ↓xstep, xget, xtgt, xcmp, xacmp, xprev, xisR, xnt, List.set, List.length, xsw, xlk, true_or, or_true, if_true, if_false, true_and, and_true, List.mem_cons, List.not_mem_nil, or_false, false_or, Bool.false_eq_true, reduceCtorEq, not_false_eq_true, forall_const, Nat.zero_add, Nat.reduceAdd, Nat.reduceSub, Int.reduceAdd, Int.reduceNeg, Int.reduceToNat, Nat.reduceEqDiff, Nat.reduceLT, Nat.reduceLeDiff, Int.reduceLE, Int.reduceLT, reduceIte, Int.cast_ofNat_Int, Int.natCast_zero, Int.natCast_one, Int.reduceAdd, eq_self, Int.reduceSub, List.length_cons, List.length_nil, xli_m1, xli_0, xli_1, xli_2, xli_3, xli_4, xli_5, xlb_8, xlb_12, xlb_31, xlb_32, xlb_64, xls_256, xls_513, xls_2048, xls_4096, xll_0, xll_1, xnr_i, xnr_0, xnr_1, xnr_ite, xft_i, xft_0, xft_1, xat_999, xat_1001, xat_1002, xat_1003, xat_2001, xat_2002, xat_2003, List.getElem?_cons_succ, List.getElem?_cons_zero, xfn_0, xfn_1, xfn_2, xfn_3, x10, x01, not_true_eq_false, false_implies, implies_true, true_implies, xrm_c, xrm_s, xnl_4, xnl_32, xnl_64, xnl_256, xtn_4, xtn_32, xtn_64, xtn_256, Option.some.injEq, Sum.inl.injEq, Sum.inr.injEq, exists_eq_left', exists_eq_right, Option.toList_some, Option.toList_none, List.cons_append, List.nil_append, xE, lg_cmp_ge, lg_cmp_le, lg_cmp_gt, lg_cmp_lt, lg_cmp_eq, Nat.le_refl, Nat.zero_le, ne_eq, Nat.add_zero, dS_addPiece_0, dS_addPiece_1, dS_addPiece_4, dS_addPiece_5, dS_addPiece_8, dS_addPiece_9, dS_addPiece_12, dS_addPiece_13, dS_addPiece_14, dS_addPiece_15, dS_addPiece_18, dS_addPiece_19, dS_addPiece_22, dS_addPiece_23, dS_addPiece_24, dS_addPiece_25, dS_addPiece_28, dS_addPiece_29, dS_addPiece_32, dS_addPiece_33, dS_addPiece_34, dS_addPiece_37, dS_addPiece_38, dS_addPiece_39, dS_addPiece_42, dS_addPiece_43, dS_addPiece_46, dS_addPiece_47, dS_addPiece_48, xf_3_186, xf_3_17, xf_3_144, h1, h2, h3, h4, h5, h6, ha, hap, e0, xc_pr, xr_pr, hnA, false_and]
  refine ⟨⟨_, rfl⟩, fun z => ?_, fun z => ?_⟩
  · refine ⟨ar 1, a, 2, _, rfl, rfl, rfl, ha, by rw [h3]; rfl, by rw [h4]; exact vp_in_nI z (by decide), ?_⟩
    have hl : xr (xpr S (ar 1) (M 12 0) (some a)) (pa pt) 8 = (mla M pt (M 12 0)).map qa := by rw [xr_pr, if_neg (fun q => hnP q.1)]; exact hP.2.2.2
    refine hV.call [] (As := [.inr (.inr (some (pa pt))), .inr (.inr (some a))]) xh_3_189 dS_addPiece_29 (c_append (S := xpr S (ar 1) (M 12 0) (some a)) (b := pa pt) (a := a) (by rw [xc_pr]; exact hP.1.1) (fun y hy => ?_)) (Or.inr ⟨_, _, rfl, fun _ => by rw [xc_pr]; exact hP.1.1⟩) (by rw [if_neg (fun q => hnA q.1)]; rfl) rfl (by decide) (by decide) (by decide) ?_
    · rw [hl] at hy
      obtain ⟨j, hj, rfl⟩ := Option.map_eq_some_iff.mp hy
      rw [xc_pr]
      exact (h.2.2.2.2.1 j (mla_lt _ _ hj).1).1.1
    rintro r S2 ⟨rfl, g1, g2⟩
    rw [hl] at g1 g2
    cases hm : mla M pt (M 12 0) with
    | none =>
      have hS2 := g1 (by rw [hm]; rfl)
      subst hS2
      refine xrun_ok hV [] 30 _ _ _ _ _ _ ?_
      simp (maxDischargeDepth := 60) only [xrun, xisc, ↓xstep, xget, xtgt, xcmp, xacmp, xprev, xisR, xnt, List.set, List.length, xsw, xlk, true_or, or_true, if_true, if_false, true_and, and_true, List.mem_cons, List.not_mem_nil, or_false, false_or, Bool.false_eq_true, reduceCtorEq, not_false_eq_true, forall_const, Nat.zero_add, Nat.reduceAdd, Nat.reduceSub, Int.reduceAdd, Int.reduceNeg, Int.reduceToNat, Nat.reduceEqDiff, Nat.reduceLT, Nat.reduceLeDiff, Int.reduceLE, Int.reduceLT, reduceIte, Int.cast_ofNat_Int, Int.natCast_zero, Int.natCast_one, Int.reduceAdd, eq_self, Int.reduceSub, List.length_cons, List.length_nil, xli_m1, xli_0, xli_1, xli_2, xli_3, xli_4, xli_5, xlb_8, xlb_12, xlb_31, xlb_32, xlb_64, xls_256, xls_513, xls_2048, xls_4096, xll_0, xll_1, xnr_i, xnr_0, xnr_1, xnr_ite, xft_i, xft_0, xft_1, xat_999, xat_1001, xat_1002, xat_1003, xat_2001, xat_2002, xat_2003, List.getElem?_cons_succ, List.getElem?_cons_zero, xfn_0, xfn_1, xfn_2, xfn_3, x10, x01, not_true_eq_false, false_implies, implies_true, true_implies, xrm_c, xrm_s, xnl_4, xnl_32, xnl_64, xnl_256, xtn_4, xtn_32, xtn_64, xtn_256, Option.some.injEq, Sum.inl.injEq, Sum.inr.injEq, exists_eq_left', exists_eq_right, Option.toList_some, Option.toList_none, List.cons_append, List.nil_append, xE, lg_cmp_ge, lg_cmp_le, lg_cmp_gt, lg_cmp_lt, lg_cmp_eq, Nat.le_refl, Nat.zero_le, ne_eq, Nat.add_zero, dS_addPiece_0, dS_addPiece_1, dS_addPiece_4, dS_addPiece_5, dS_addPiece_8, dS_addPiece_9, dS_addPiece_12, dS_addPiece_13, dS_addPiece_14, dS_addPiece_15, dS_addPiece_18, dS_addPiece_19, dS_addPiece_22, dS_addPiece_23, dS_addPiece_24, dS_addPiece_25, dS_addPiece_28, dS_addPiece_29, dS_addPiece_32, dS_addPiece_33, dS_addPiece_34, dS_addPiece_37, dS_addPiece_38, dS_addPiece_39, dS_addPiece_42, dS_addPiece_43, dS_addPiece_46, dS_addPiece_47, dS_addPiece_48, xf_3_186, xf_3_17, xf_3_144, h1, h5, xc_pr, xi_pr, xc_pi, xi_pi]
      refine ⟨fun _ => ⟨by rw [nI_1, nI_pred], ?_⟩, fun q => absurd z q, ?_⟩
      · refine rC_add h z hN ho hne rfl (fun b => ⟨rfl, rfl⟩) (fun b k q => ?_) ?_ (fun b k q1 q2 q3 => ?_) ?_ ?_ ?_ (fun y hy => by rw [hm] at hy; cases hy)
        · rw [xi_pi, if_neg (fun y => by rcases q with q | q; exact q y.1; exact q y.2)]; rfl
        · rw [xi_pi, if_pos ⟨rfl, rfl⟩, nI_1]
        · rw [xr_pi, xr_pr, if_neg (fun y => q2 ⟨y.1, Or.inr y.2⟩), xr_pr, if_neg (fun y => q2 ⟨y.1, Or.inl y.2⟩), xr_pr, if_neg q1]
        · rw [xr_pi, xr_pr, if_neg (fun y => hnP y.1.symm), xr_pr, if_neg (fun y => hnP y.1.symm), xr_pr, if_pos ⟨rfl, rfl⟩]
        · rw [xr_pi, xr_pr, if_pos ⟨rfl, rfl⟩]
        · rw [hm, if_pos rfl, xr_pi, xr_pr, if_neg (by simp), xr_pr, if_pos ⟨rfl, rfl⟩]
      · exact (((xFr.pr (by rw [h3]; rfl)).tr (xFr.pr (by rw [xc_pr, hP.1.1]; rfl))).tr (xFr.pr (by rw [xc_pr, xc_pr, hP.1.1]; rfl))).tr (xFr.pi (by rw [xc_pr, xc_pr, xc_pr, h1]; rfl))
    | some j =>
      have hS2 := g2 (qa j) (by rw [hm]; rfl)
      subst hS2
      have hj := (mla_lt _ _ hm).1
      have hjc := (h.2.2.2.2.1 j hj).1.1
      have hn1 : qa j ≠ ar 1 := xne hjc h3 (by decide)
      have hn2 : qa j ≠ pa pt := xne hjc hP.1.1 (by decide)
      refine xrun_ok hV [] 30 _ _ _ _ _ _ ?_
      simp (maxDischargeDepth := 60) only [xrun, xisc, ↓xstep, xget, xtgt, xcmp, xacmp, xprev, xisR, xnt, List.set, List.length, xsw, xlk, true_or, or_true, if_true, if_false, true_and, and_true, List.mem_cons, List.not_mem_nil, or_false, false_or, Bool.false_eq_true, reduceCtorEq, not_false_eq_true, forall_const, Nat.zero_add, Nat.reduceAdd, Nat.reduceSub, Int.reduceAdd, Int.reduceNeg, Int.reduceToNat, Nat.reduceEqDiff, Nat.reduceLT, Nat.reduceLeDiff, Int.reduceLE, Int.reduceLT, reduceIte, Int.cast_ofNat_Int, Int.natCast_zero, Int.natCast_one, Int.reduceAdd, eq_self, Int.reduceSub, List.length_cons, List.length_nil, xli_m1, xli_0, xli_1, xli_2, xli_3, xli_4, xli_5, xlb_8, xlb_12, xlb_31, xlb_32, xlb_64, xls_256, xls_513, xls_2048, xls_4096, xll_0, xll_1, xnr_i, xnr_0, xnr_1, xnr_ite, xft_i, xft_0, xft_1, xat_999, xat_1001, xat_1002, xat_1003, xat_2001, xat_2002, xat_2003, List.getElem?_cons_succ, List.getElem?_cons_zero, xfn_0, xfn_1, xfn_2, xfn_3, x10, x01, not_true_eq_false, false_implies, implies_true, true_implies, xrm_c, xrm_s, xnl_4, xnl_32, xnl_64, xnl_256, xtn_4, xtn_32, xtn_64, xtn_256, Option.some.injEq, Sum.inl.injEq, Sum.inr.injEq, exists_eq_left', exists_eq_right, Option.toList_some, Option.toList_none, List.cons_append, List.nil_append, xE, lg_cmp_ge, lg_cmp_le, lg_cmp_gt, lg_cmp_lt, lg_cmp_eq, Nat.le_refl, Nat.zero_le, ne_eq, Nat.add_zero, dS_addPiece_0, dS_addPiece_1, dS_addPiece_4, dS_addPiece_5, dS_addPiece_8, dS_addPiece_9, dS_addPiece_12, dS_addPiece_13, dS_addPiece_14, dS_addPiece_15, dS_addPiece_18, dS_addPiece_19, dS_addPiece_22, dS_addPiece_23, dS_addPiece_24, dS_addPiece_25, dS_addPiece_28, dS_addPiece_29, dS_addPiece_32, dS_addPiece_33, dS_addPiece_34, dS_addPiece_37, dS_addPiece_38, dS_addPiece_39, dS_addPiece_42, dS_addPiece_43, dS_addPiece_46, dS_addPiece_47, dS_addPiece_48, xf_3_186, xf_3_17, xf_3_144, h1, h5, xc_pr, xi_pr, xc_pi, xi_pi]
      refine ⟨fun _ => ⟨by rw [nI_1, nI_pred], ?_⟩, fun q => absurd z q, ?_⟩
      · refine rC_add h z hN ho hne rfl (fun b => ⟨rfl, rfl⟩) (fun b k q => ?_) ?_ (fun b k q1 q2 q3 => ?_) ?_ ?_ ?_ (fun y hy => ?_)
        · rw [xi_pi, if_neg (fun y => by rcases q with q | q; exact q y.1; exact q y.2)]; rfl
        · rw [xi_pi, if_pos ⟨rfl, rfl⟩, nI_1]
        · rw [xr_pi, xr_pr, if_neg (fun y => q2 ⟨y.1, Or.inr y.2⟩), xr_pr, if_neg (q3 j hm), xr_pr, if_neg q1]
        · rw [xr_pi, xr_pr, if_neg (fun y => hnP y.1.symm), xr_pr, if_neg (fun y => hn1 y.1.symm), xr_pr, if_pos ⟨rfl, rfl⟩]
        · rw [xr_pi, xr_pr, if_pos ⟨rfl, rfl⟩]
        · rw [hm, if_neg (by simp), xr_pi, xr_pr, if_neg (by simp), xr_pr, if_neg (fun y => hn2 y.1.symm), xr_pr, if_neg (fun y => hnP y.1)]
        · rw [hm] at hy
          cases hy
          rw [xr_pi, xr_pr, if_neg (fun y => hn2 y.1), xr_pr, if_pos ⟨rfl, rfl⟩]
      · exact (((xFr.pr (by rw [h3]; rfl)).tr (xFr.pr (by rw [xc_pr, hjc]; rfl))).tr (xFr.pr (by rw [xc_pr, xc_pr, hP.1.1]; rfl))).tr (xFr.pi (by rw [xc_pr, xc_pr, xc_pr, h1]; rfl))
  · exact ⟨fun q => absurd q z, xFr.rf _ _⟩
end PIECE
end
section
/-! THE CLASS: plain, fill, call, upper, near, put -/
section MAKE
variable {l : Launch} {D : va_G} {n0 : Nat} {S : xS} {th : Nat} {M : mT}
theorem mk_same (S : xS) (t n b : Nat) (h : b < xn S) : xSame S (xmk S t n) b := by
  have z : b ≠ xn S := Nat.ne_of_lt h
  refine ⟨?_, ?_, fun k => ?_, fun k => ?_⟩
  · rw [xc_mk, if_neg z]
  · rw [xl_mk, if_neg z]
  · rw [xi_mk, if_neg z]
  · rw [xr_mk, if_neg z]
theorem sQ1_same (S : xS) (s w b : Int32) (pt : Option Nat) (c : Nat) (h : c < xn S) : xSame S (sQ1 (xmk S 3 0) (xn S) s pt w b) c := by
  have z : c ≠ xn S := Nat.ne_of_lt h
  refine ⟨?_, ?_, fun k => ?_, fun k => ?_⟩ <;> simp only [sQ1, xc_pi, xc_pr, xl_pi, xl_pr, xi_pi, xi_pr, xr_pi, xr_pr, xc_mk, xl_mk, xi_mk, xr_mk, z, false_and, if_false]
theorem sQ2_same (S : xS) (s c t g : Int32) (pt lb : Option Nat) (b : Nat) (h : b < xn S) : xSame S (sQ2 (xmk S 3 0) (xn S) s pt lb c t g) b := by
  have z : b ≠ xn S := Nat.ne_of_lt h
  refine ⟨?_, ?_, fun k => ?_, fun k => ?_⟩ <;> simp only [sQ2, xc_pi, xc_pr, xl_pi, xl_pr, xi_pi, xi_pr, xr_pi, xr_pr, xc_mk, xl_mk, xi_mk, xr_mk, z, false_and, if_false]
theorem sQ1_N (S : xS) (pa la : Nat → Nat) (pt s n w : Nat) (hs : saim s = false) : rN (sQ1 (xmk S 3 0) (xn S) (nI s) (some (pa pt)) (nI w) (nI n)) pa la (xn S) pt s n w 0 0 0 := by
  unfold rN
  rw [hs]
  refine ⟨⟨?_, ?_⟩, ?_, ?_, ?_, ?_, ?_, ?_, ?_, ?_, ?_, ?_, ?_⟩ <;> simp [sQ1, xc_pi, xc_pr, xl_pi, xl_pr, xi_pi, xi_pr, xr_pi, xr_pr, xc_mk, xl_mk, xi_mk, xr_mk, xn_pi, xn_pr, xn_mk] <;> rfl
theorem sQ2_N (S : xS) (pa la : Nat → Nat) (pt s lb c t : Nat) (hs : saim s = true) : rN (sQ2 (xmk S 3 0) (xn S) (nI s) (some (pa pt)) (some (la lb)) (nI c) (nI t) (nI (mgr s))) pa la (xn S) pt s (mgr s) 0 lb c t := by
  unfold rN
  rw [hs]
  refine ⟨⟨?_, ?_⟩, ?_, ?_, ?_, ?_, ?_, ?_, ?_, ?_, ?_, ?_, ?_⟩ <;> simp [sQ2, xc_pi, xc_pr, xl_pi, xl_pr, xi_pi, xi_pr, xr_pi, xr_pr, xc_mk, xl_mk, xi_mk, xr_mk, xn_pi, xn_pr, xn_mk] <;> rfl
theorem xFr.of {T : Nat → Bool} {S S' : xS} (hn : xn S ≤ xn S') (hs : ∀ b, b < xn S → xSame S S' b) : xFr T S S' := ⟨hn, fun b hb => ⟨(hs b hb).1, (hs b hb).2.1, fun _ k => ⟨(hs b hb).2.2.1 k, (hs b hb).2.2.2 k⟩⟩⟩
set_option maxHeartbeats 4000000 in
set_option maxRecDepth 100000 in
theorem c_plain (h : rCx S th M) (x y : Int32) : xMet l D n0 mS_plain 1 13 [.inr (.inr (some th)), .inl x, .inl y] S (oC S th (oPlain M x y)) := by
  obtain ⟨ar, pa, qa, la, h⟩ := h
  refine xMet.of (k := mS_plain) (own := 3) (ini := false) xm_S_plain (by decide +kernel) (by decide +kernel) (by decide) (Nat.le_of_ble_eq_true rfl) ?_
  intro V hV
  show V 0 [some (.inr (.inr (some th))), some (.inl x), some (.inl y), none] [] S 0 0
  have h1 := h.th
  have hth := h.2.1.1.2
  refine xrun_ok hV [33] 20 _ _ _ _ _ _ ?_
  simp (maxDischargeDepth := 60) only [xrun, xisc, ↓xstep, xget, xtgt, xcmp, xacmp, xprev, xisR, xnt, List.set, List.length, xsw, xlk, true_or, or_true, if_true, if_false, true_and, and_true, List.mem_cons, List.not_mem_nil, or_false, false_or, Bool.false_eq_true, reduceCtorEq, not_false_eq_true, forall_const, Nat.zero_add, Nat.reduceAdd, Nat.reduceSub, Int.reduceAdd, Int.reduceNeg, Int.reduceToNat, Nat.reduceEqDiff, Nat.reduceLT, Nat.reduceLeDiff, Int.reduceLE, Int.reduceLT, reduceIte, Int.cast_ofNat_Int, Int.natCast_zero, Int.natCast_one, Int.reduceAdd, eq_self, Int.reduceSub, List.length_cons, List.length_nil, xli_m1, xli_0, xli_1, xli_2, xli_3, xli_4, xli_5, xlb_8, xlb_12, xlb_31, xlb_32, xlb_64, xls_256, xls_513, xls_2048, xls_4096, xll_0, xll_1, xnr_i, xnr_0, xnr_1, xnr_ite, xft_i, xft_0, xft_1, xat_999, xat_1001, xat_1002, xat_1003, xat_2001, xat_2002, xat_2003, List.getElem?_cons_succ, List.getElem?_cons_zero, xfn_0, xfn_1, xfn_2, xfn_3, x10, x01, not_true_eq_false, false_implies, implies_true, true_implies, xrm_c, xrm_s, xnl_4, xnl_32, xnl_64, xnl_256, xtn_4, xtn_32, xtn_64, xtn_256, Option.some.injEq, Sum.inl.injEq, Sum.inr.injEq, exists_eq_left', exists_eq_right, Option.toList_some, Option.toList_none, List.cons_append, List.nil_append, xE, lg_cmp_ge, lg_cmp_le, lg_cmp_gt, lg_cmp_lt, lg_cmp_eq, Nat.le_refl, Nat.zero_le, ne_eq, Nat.add_zero, dS_plain_0, dS_plain_1, dS_plain_2, dS_plain_5, dS_plain_6, dS_plain_7, dS_plain_10, dS_plain_11, dS_plain_12, dS_plain_13, dS_plain_16, dS_plain_19, dS_plain_22, dS_plain_23, dS_plain_24, dS_plain_25, dS_plain_28, dS_plain_29, dS_plain_30, dS_plain_31, dS_plain_32, dS_plain_33, dS_plain_36, dS_plain_39, xj_3_55, xe_3_15, xg_3_15]
  refine hV.call [] xh_3_51 dS_plain_2 (c_partAt h x) (Or.inr ⟨_, _, rfl, fun _ => h1⟩) rfl rfl (by decide) (by decide) (by decide) ?_
  rintro r S' ⟨rfl, rfl⟩
  by_cases hx : 0 ≤ x.toInt ∧ x.toInt < M 4 0
  case neg =>
    rw [if_neg hx]
    refine xrun_ok hV [33] 20 _ _ _ _ _ _ ?_
    simp (maxDischargeDepth := 60) only [xrun, xisc, ↓xstep, xget, xtgt, xcmp, xacmp, xprev, xisR, xnt, List.set, List.length, xsw, xlk, true_or, or_true, if_true, if_false, true_and, and_true, List.mem_cons, List.not_mem_nil, or_false, false_or, Bool.false_eq_true, reduceCtorEq, not_false_eq_true, forall_const, Nat.zero_add, Nat.reduceAdd, Nat.reduceSub, Int.reduceAdd, Int.reduceNeg, Int.reduceToNat, Nat.reduceEqDiff, Nat.reduceLT, Nat.reduceLeDiff, Int.reduceLE, Int.reduceLT, reduceIte, Int.cast_ofNat_Int, Int.natCast_zero, Int.natCast_one, Int.reduceAdd, eq_self, Int.reduceSub, List.length_cons, List.length_nil, xli_m1, xli_0, xli_1, xli_2, xli_3, xli_4, xli_5, xlb_8, xlb_12, xlb_31, xlb_32, xlb_64, xls_256, xls_513, xls_2048, xls_4096, xll_0, xll_1, xnr_i, xnr_0, xnr_1, xnr_ite, xft_i, xft_0, xft_1, xat_999, xat_1001, xat_1002, xat_1003, xat_2001, xat_2002, xat_2003, List.getElem?_cons_succ, List.getElem?_cons_zero, xfn_0, xfn_1, xfn_2, xfn_3, x10, x01, not_true_eq_false, false_implies, implies_true, true_implies, xrm_c, xrm_s, xnl_4, xnl_32, xnl_64, xnl_256, xtn_4, xtn_32, xtn_64, xtn_256, Option.some.injEq, Sum.inl.injEq, Sum.inr.injEq, exists_eq_left', exists_eq_right, Option.toList_some, Option.toList_none, List.cons_append, List.nil_append, xE, lg_cmp_ge, lg_cmp_le, lg_cmp_gt, lg_cmp_lt, lg_cmp_eq, Nat.le_refl, Nat.zero_le, ne_eq, Nat.add_zero, dS_plain_0, dS_plain_1, dS_plain_2, dS_plain_5, dS_plain_6, dS_plain_7, dS_plain_10, dS_plain_11, dS_plain_12, dS_plain_13, dS_plain_16, dS_plain_19, dS_plain_22, dS_plain_23, dS_plain_24, dS_plain_25, dS_plain_28, dS_plain_29, dS_plain_30, dS_plain_31, dS_plain_32, dS_plain_33, dS_plain_36, dS_plain_39, xj_3_55, xe_3_15, xg_3_15]
    unfold oPlain
    rw [if_neg (fun q => hx (isP_iff.mp q.2.1))]
    exact ⟨rfl, ⟨ar, pa, qa, la, h⟩, xFr.rf _ _⟩
  rw [if_pos hx]
  refine xrun_ok hV [33] 20 _ _ _ _ _ _ ?_
  simp (maxDischargeDepth := 60) only [xrun, xisc, ↓xstep, xget, xtgt, xcmp, xacmp, xprev, xisR, xnt, List.set, List.length, xsw, xlk, true_or, or_true, if_true, if_false, true_and, and_true, List.mem_cons, List.not_mem_nil, or_false, false_or, Bool.false_eq_true, reduceCtorEq, not_false_eq_true, forall_const, Nat.zero_add, Nat.reduceAdd, Nat.reduceSub, Int.reduceAdd, Int.reduceNeg, Int.reduceToNat, Nat.reduceEqDiff, Nat.reduceLT, Nat.reduceLeDiff, Int.reduceLE, Int.reduceLT, reduceIte, Int.cast_ofNat_Int, Int.natCast_zero, Int.natCast_one, Int.reduceAdd, eq_self, Int.reduceSub, List.length_cons, List.length_nil, xli_m1, xli_0, xli_1, xli_2, xli_3, xli_4, xli_5, xlb_8, xlb_12, xlb_31, xlb_32, xlb_64, xls_256, xls_513, xls_2048, xls_4096, xll_0, xll_1, xnr_i, xnr_0, xnr_1, xnr_ite, xft_i, xft_0, xft_1, xat_999, xat_1001, xat_1002, xat_1003, xat_2001, xat_2002, xat_2003, List.getElem?_cons_succ, List.getElem?_cons_zero, xfn_0, xfn_1, xfn_2, xfn_3, x10, x01, not_true_eq_false, false_implies, implies_true, true_implies, xrm_c, xrm_s, xnl_4, xnl_32, xnl_64, xnl_256, xtn_4, xtn_32, xtn_64, xtn_256, Option.some.injEq, Sum.inl.injEq, Sum.inr.injEq, exists_eq_left', exists_eq_right, Option.toList_some, Option.toList_none, List.cons_append, List.nil_append, xE, lg_cmp_ge, lg_cmp_le, lg_cmp_gt, lg_cmp_lt, lg_cmp_eq, Nat.le_refl, Nat.zero_le, ne_eq, Nat.add_zero, dS_plain_0, dS_plain_1, dS_plain_2, dS_plain_5, dS_plain_6, dS_plain_7, dS_plain_10, dS_plain_11, dS_plain_12, dS_plain_13, dS_plain_16, dS_plain_19, dS_plain_22, dS_plain_23, dS_plain_24, dS_plain_25, dS_plain_28, dS_plain_29, dS_plain_30, dS_plain_31, dS_plain_32, dS_plain_33, dS_plain_36, dS_plain_39, xj_3_55, xe_3_15, xg_3_15]
  refine hV.call [] xh_3_57 dS_plain_16 (c_isWithin S' y.toInt64 0 4194304) (Or.inl rfl) rfl rfl (by decide) (by decide) (by decide) ?_
  rintro r S' ⟨rfl, rfl⟩
  simp only [Int32.toInt_toInt64]
  rw [show (0 : Int64).toInt = 0 from rfl, show (4194304 : Int64).toInt = 4194304 from rfl]
  by_cases hy : 0 ≤ y.toInt ∧ y.toInt ≤ 4194304
  case neg =>
    rw [if_neg hy]
    refine xrun_ok hV [33] 20 _ _ _ _ _ _ ?_
    simp (maxDischargeDepth := 60) only [xrun, xisc, ↓xstep, xget, xtgt, xcmp, xacmp, xprev, xisR, xnt, List.set, List.length, xsw, xlk, true_or, or_true, if_true, if_false, true_and, and_true, List.mem_cons, List.not_mem_nil, or_false, false_or, Bool.false_eq_true, reduceCtorEq, not_false_eq_true, forall_const, Nat.zero_add, Nat.reduceAdd, Nat.reduceSub, Int.reduceAdd, Int.reduceNeg, Int.reduceToNat, Nat.reduceEqDiff, Nat.reduceLT, Nat.reduceLeDiff, Int.reduceLE, Int.reduceLT, reduceIte, Int.cast_ofNat_Int, Int.natCast_zero, Int.natCast_one, Int.reduceAdd, eq_self, Int.reduceSub, List.length_cons, List.length_nil, xli_m1, xli_0, xli_1, xli_2, xli_3, xli_4, xli_5, xlb_8, xlb_12, xlb_31, xlb_32, xlb_64, xls_256, xls_513, xls_2048, xls_4096, xll_0, xll_1, xnr_i, xnr_0, xnr_1, xnr_ite, xft_i, xft_0, xft_1, xat_999, xat_1001, xat_1002, xat_1003, xat_2001, xat_2002, xat_2003, List.getElem?_cons_succ, List.getElem?_cons_zero, xfn_0, xfn_1, xfn_2, xfn_3, x10, x01, not_true_eq_false, false_implies, implies_true, true_implies, xrm_c, xrm_s, xnl_4, xnl_32, xnl_64, xnl_256, xtn_4, xtn_32, xtn_64, xtn_256, Option.some.injEq, Sum.inl.injEq, Sum.inr.injEq, exists_eq_left', exists_eq_right, Option.toList_some, Option.toList_none, List.cons_append, List.nil_append, xE, lg_cmp_ge, lg_cmp_le, lg_cmp_gt, lg_cmp_lt, lg_cmp_eq, Nat.le_refl, Nat.zero_le, ne_eq, Nat.add_zero, dS_plain_0, dS_plain_1, dS_plain_2, dS_plain_5, dS_plain_6, dS_plain_7, dS_plain_10, dS_plain_11, dS_plain_12, dS_plain_13, dS_plain_16, dS_plain_19, dS_plain_22, dS_plain_23, dS_plain_24, dS_plain_25, dS_plain_28, dS_plain_29, dS_plain_30, dS_plain_31, dS_plain_32, dS_plain_33, dS_plain_36, dS_plain_39, xj_3_55, xe_3_15, xg_3_15]
    unfold oPlain
    rw [if_neg (fun q => hy (inR_iff.mp q.2.2))]
    exact ⟨rfl, ⟨ar, pa, qa, la, h⟩, xFr.rf _ _⟩
  rw [if_pos hy]
  refine xrun_ok hV [33] 20 _ _ _ _ _ _ ?_
  simp (maxDischargeDepth := 60) only [xrun, xisc, ↓xstep, xget, xtgt, xcmp, xacmp, xprev, xisR, xnt, List.set, List.length, xsw, xlk, true_or, or_true, if_true, if_false, true_and, and_true, List.mem_cons, List.not_mem_nil, or_false, false_or, Bool.false_eq_true, reduceCtorEq, not_false_eq_true, forall_const, Nat.zero_add, Nat.reduceAdd, Nat.reduceSub, Int.reduceAdd, Int.reduceNeg, Int.reduceToNat, Nat.reduceEqDiff, Nat.reduceLT, Nat.reduceLeDiff, Int.reduceLE, Int.reduceLT, reduceIte, Int.cast_ofNat_Int, Int.natCast_zero, Int.natCast_one, Int.reduceAdd, eq_self, Int.reduceSub, List.length_cons, List.length_nil, xli_m1, xli_0, xli_1, xli_2, xli_3, xli_4, xli_5, xlb_8, xlb_12, xlb_31, xlb_32, xlb_64, xls_256, xls_513, xls_2048, xls_4096, xll_0, xll_1, xnr_i, xnr_0, xnr_1, xnr_ite, xft_i, xft_0, xft_1, xat_999, xat_1001, xat_1002, xat_1003, xat_2001, xat_2002, xat_2003, List.getElem?_cons_succ, List.getElem?_cons_zero, xfn_0, xfn_1, xfn_2, xfn_3, x10, x01, not_true_eq_false, false_implies, implies_true, true_implies, xrm_c, xrm_s, xnl_4, xnl_32, xnl_64, xnl_256, xtn_4, xtn_32, xtn_64, xtn_256, Option.some.injEq, Sum.inl.injEq, Sum.inr.injEq, exists_eq_left', exists_eq_right, Option.toList_some, Option.toList_none, List.cons_append, List.nil_append, xE, lg_cmp_ge, lg_cmp_le, lg_cmp_gt, lg_cmp_lt, lg_cmp_eq, Nat.le_refl, Nat.zero_le, ne_eq, Nat.add_zero, dS_plain_0, dS_plain_1, dS_plain_2, dS_plain_5, dS_plain_6, dS_plain_7, dS_plain_10, dS_plain_11, dS_plain_12, dS_plain_13, dS_plain_16, dS_plain_19, dS_plain_22, dS_plain_23, dS_plain_24, dS_plain_25, dS_plain_28, dS_plain_29, dS_plain_30, dS_plain_31, dS_plain_32, dS_plain_33, dS_plain_36, dS_plain_39, xj_3_55, xe_3_15, xg_3_15]
  have g5 : xc (xmk S' 3 0) (xn S') = 3 := by rw [xc_mk, if_pos rfl]
  refine hV.call [.inr (.inr (some (xn S'))), .inr (.inr (some th))] (As := [.inr (.inr (some (xn S'))), .inl 0, .inr (.inr (some (pa x.toNatClampNeg))), .inl 0, .inl y]) xh_3_61 dS_plain_33 (c_Q_init (xmk S' 3 0) (a := xn S') g5 0 0 y (some (pa x.toNatClampNeg))) (Or.inr ⟨_, _, rfl, fun q => absurd q (by decide)⟩) rfl rfl (Nat.le_of_ble_eq_true rfl) (by decide) (by decide) ?_
  rintro r S2 ⟨rfl, rfl⟩
  refine xrun_ok hV [33] 20 _ _ _ _ _ _ ?_
  simp (maxDischargeDepth := 60) only [xrun, xisc, ↓xstep, xget, xtgt, xcmp, xacmp, xprev, xisR, xnt, List.set, List.length, xsw, xlk, true_or, or_true, if_true, if_false, true_and, and_true, List.mem_cons, List.not_mem_nil, or_false, false_or, Bool.false_eq_true, reduceCtorEq, not_false_eq_true, forall_const, Nat.zero_add, Nat.reduceAdd, Nat.reduceSub, Int.reduceAdd, Int.reduceNeg, Int.reduceToNat, Nat.reduceEqDiff, Nat.reduceLT, Nat.reduceLeDiff, Int.reduceLE, Int.reduceLT, reduceIte, Int.cast_ofNat_Int, Int.natCast_zero, Int.natCast_one, Int.reduceAdd, eq_self, Int.reduceSub, List.length_cons, List.length_nil, xli_m1, xli_0, xli_1, xli_2, xli_3, xli_4, xli_5, xlb_8, xlb_12, xlb_31, xlb_32, xlb_64, xls_256, xls_513, xls_2048, xls_4096, xll_0, xll_1, xnr_i, xnr_0, xnr_1, xnr_ite, xft_i, xft_0, xft_1, xat_999, xat_1001, xat_1002, xat_1003, xat_2001, xat_2002, xat_2003, List.getElem?_cons_succ, List.getElem?_cons_zero, xfn_0, xfn_1, xfn_2, xfn_3, x10, x01, not_true_eq_false, false_implies, implies_true, true_implies, xrm_c, xrm_s, xnl_4, xnl_32, xnl_64, xnl_256, xtn_4, xtn_32, xtn_64, xtn_256, Option.some.injEq, Sum.inl.injEq, Sum.inr.injEq, exists_eq_left', exists_eq_right, Option.toList_some, Option.toList_none, List.cons_append, List.nil_append, xE, lg_cmp_ge, lg_cmp_le, lg_cmp_gt, lg_cmp_lt, lg_cmp_eq, Nat.le_refl, Nat.zero_le, ne_eq, Nat.add_zero, dS_plain_0, dS_plain_1, dS_plain_2, dS_plain_5, dS_plain_6, dS_plain_7, dS_plain_10, dS_plain_11, dS_plain_12, dS_plain_13, dS_plain_16, dS_plain_19, dS_plain_22, dS_plain_23, dS_plain_24, dS_plain_25, dS_plain_28, dS_plain_29, dS_plain_30, dS_plain_31, dS_plain_32, dS_plain_33, dS_plain_36, dS_plain_39, xj_3_55, xe_3_15, xg_3_15]
  have e1 : x.toNatClampNeg = x.toInt.toNat := rfl
  have e2 : y.toNatClampNeg = y.toInt.toNat := rfl
  have hz : sQ1 (xmk S' 3 0) (xn S') 0 (some (pa x.toNatClampNeg)) 0 y = sQ1 (xmk S' 3 0) (xn S') (nI 0) (some (pa x.toNatClampNeg)) (nI 0) (nI y.toNatClampNeg) := by rw [nI_cl hy.1]; rfl
  rw [hz]
  have hN := sQ1_N S' pa la x.toNatClampNeg 0 y.toNatClampNeg 0 rfl
  have hs := sQ1_same S' (nI 0) (nI 0) (nI y.toNatClampNeg) (some (pa x.toNatClampNeg))
  generalize sQ1 (xmk S' 3 0) (xn S') (nI 0) (some (pa x.toNatClampNeg)) (nI 0) (nI y.toNatClampNeg) = S2 at hN hs ⊢
  have hle : xn S' ≤ xn S2 := Nat.le_of_lt hN.1.2
  have h2 := h.same hle hs
  have hO : mOK M x.toNatClampNeg 0 y.toNatClampNeg 0 0 0 0 := ⟨by decide, by omega, by decide, by decide, by decide, fun _ => by omega, fun q => absurd q (by decide), fun q => absurd q (by decide)⟩
  refine hV.call [] (As := [.inr (.inr (some th)), .inr (.inr (some (xn S')))]) xh_3_64 dS_plain_36 (c_addPiece h2 hN hO (fun k hk => Nat.ne_of_lt (h.2.2.2.2.1 k hk).1.2)) (Or.inr ⟨_, _, rfl, fun _ => h2.th⟩) rfl rfl (by decide) (by decide) (by decide) ?_
  rintro r S3 ⟨g1, g2, g3⟩
  have hF := (xFr.of (T := tC) hle hs).tr g3
  by_cases hq : M 12 0 < 256
  · obtain ⟨rfl, g4⟩ := g1 hq
    refine xrun_ok hV [33] 20 _ _ _ _ _ _ ?_
    simp (maxDischargeDepth := 60) only [xrun, xisc, ↓xstep, xget, xtgt, xcmp, xacmp, xprev, xisR, xnt, List.set, List.length, xsw, xlk, true_or, or_true, if_true, if_false, true_and, and_true, List.mem_cons, List.not_mem_nil, or_false, false_or, Bool.false_eq_true, reduceCtorEq, not_false_eq_true, forall_const, Nat.zero_add, Nat.reduceAdd, Nat.reduceSub, Int.reduceAdd, Int.reduceNeg, Int.reduceToNat, Nat.reduceEqDiff, Nat.reduceLT, Nat.reduceLeDiff, Int.reduceLE, Int.reduceLT, reduceIte, Int.cast_ofNat_Int, Int.natCast_zero, Int.natCast_one, Int.reduceAdd, eq_self, Int.reduceSub, List.length_cons, List.length_nil, xli_m1, xli_0, xli_1, xli_2, xli_3, xli_4, xli_5, xlb_8, xlb_12, xlb_31, xlb_32, xlb_64, xls_256, xls_513, xls_2048, xls_4096, xll_0, xll_1, xnr_i, xnr_0, xnr_1, xnr_ite, xft_i, xft_0, xft_1, xat_999, xat_1001, xat_1002, xat_1003, xat_2001, xat_2002, xat_2003, List.getElem?_cons_succ, List.getElem?_cons_zero, xfn_0, xfn_1, xfn_2, xfn_3, x10, x01, not_true_eq_false, false_implies, implies_true, true_implies, xrm_c, xrm_s, xnl_4, xnl_32, xnl_64, xnl_256, xtn_4, xtn_32, xtn_64, xtn_256, Option.some.injEq, Sum.inl.injEq, Sum.inr.injEq, exists_eq_left', exists_eq_right, Option.toList_some, Option.toList_none, List.cons_append, List.nil_append, xE, lg_cmp_ge, lg_cmp_le, lg_cmp_gt, lg_cmp_lt, lg_cmp_eq, Nat.le_refl, Nat.zero_le, ne_eq, Nat.add_zero, dS_plain_0, dS_plain_1, dS_plain_2, dS_plain_5, dS_plain_6, dS_plain_7, dS_plain_10, dS_plain_11, dS_plain_12, dS_plain_13, dS_plain_16, dS_plain_19, dS_plain_22, dS_plain_23, dS_plain_24, dS_plain_25, dS_plain_28, dS_plain_29, dS_plain_30, dS_plain_31, dS_plain_32, dS_plain_33, dS_plain_36, dS_plain_39, xj_3_55, xe_3_15, xg_3_15]
    unfold oPlain
    rw [if_pos ⟨hq, isP_iff.mpr hx, inR_iff.mpr hy⟩]
    exact ⟨rfl, ⟨_, _, _, _, g4⟩, hF⟩
  · obtain ⟨rfl, rfl⟩ := g2 hq
    refine xrun_ok hV [33] 20 _ _ _ _ _ _ ?_
    simp (maxDischargeDepth := 60) only [xrun, xisc, ↓xstep, xget, xtgt, xcmp, xacmp, xprev, xisR, xnt, List.set, List.length, xsw, xlk, true_or, or_true, if_true, if_false, true_and, and_true, List.mem_cons, List.not_mem_nil, or_false, false_or, Bool.false_eq_true, reduceCtorEq, not_false_eq_true, forall_const, Nat.zero_add, Nat.reduceAdd, Nat.reduceSub, Int.reduceAdd, Int.reduceNeg, Int.reduceToNat, Nat.reduceEqDiff, Nat.reduceLT, Nat.reduceLeDiff, Int.reduceLE, Int.reduceLT, reduceIte, Int.cast_ofNat_Int, Int.natCast_zero, Int.natCast_one, Int.reduceAdd, eq_self, Int.reduceSub, List.length_cons, List.length_nil, xli_m1, xli_0, xli_1, xli_2, xli_3, xli_4, xli_5, xlb_8, xlb_12, xlb_31, xlb_32, xlb_64, xls_256, xls_513, xls_2048, xls_4096, xll_0, xll_1, xnr_i, xnr_0, xnr_1, xnr_ite, xft_i, xft_0, xft_1, xat_999, xat_1001, xat_1002, xat_1003, xat_2001, xat_2002, xat_2003, List.getElem?_cons_succ, List.getElem?_cons_zero, xfn_0, xfn_1, xfn_2, xfn_3, x10, x01, not_true_eq_false, false_implies, implies_true, true_implies, xrm_c, xrm_s, xnl_4, xnl_32, xnl_64, xnl_256, xtn_4, xtn_32, xtn_64, xtn_256, Option.some.injEq, Sum.inl.injEq, Sum.inr.injEq, exists_eq_left', exists_eq_right, Option.toList_some, Option.toList_none, List.cons_append, List.nil_append, xE, lg_cmp_ge, lg_cmp_le, lg_cmp_gt, lg_cmp_lt, lg_cmp_eq, Nat.le_refl, Nat.zero_le, ne_eq, Nat.add_zero, dS_plain_0, dS_plain_1, dS_plain_2, dS_plain_5, dS_plain_6, dS_plain_7, dS_plain_10, dS_plain_11, dS_plain_12, dS_plain_13, dS_plain_16, dS_plain_19, dS_plain_22, dS_plain_23, dS_plain_24, dS_plain_25, dS_plain_28, dS_plain_29, dS_plain_30, dS_plain_31, dS_plain_32, dS_plain_33, dS_plain_36, dS_plain_39, xj_3_55, xe_3_15, xg_3_15]
    unfold oPlain
    rw [if_neg (fun q => hq q.1)]
    exact ⟨rfl, ⟨_, _, _, _, h2⟩, hF⟩
set_option maxHeartbeats 4000000 in
set_option maxRecDepth 100000 in
theorem c_fill (h : rCx S th M) (x w y : Int32) : xMet l D n0 mS_fill 1 13 [.inr (.inr (some th)), .inl x, .inl w, .inl y] S (oC S th (oFill M x w y)) := by
  obtain ⟨ar, pa, qa, la, h⟩ := h
  refine xMet.of (k := mS_fill) (own := 3) (ini := false) xm_S_fill (by decide +kernel) (by decide +kernel) (by decide) (Nat.le_of_ble_eq_true rfl) ?_
  intro V hV
  show V 0 [some (.inr (.inr (some th))), some (.inl x), some (.inl w), some (.inl y), none] [] S 0 0
  have h1 := h.th
  have hth := h.2.1.1.2
  refine xrun_ok hV [43] 20 _ _ _ _ _ _ ?_
  simp (maxDischargeDepth := 60) only [xrun, xisc, ↓xstep, xget, xtgt, xcmp, xacmp, xprev, xisR, xnt, List.set, List.length, xsw, xlk, true_or, or_true, if_true, if_false, true_and, and_true, List.mem_cons, List.not_mem_nil, or_false, false_or, Bool.false_eq_true, reduceCtorEq, not_false_eq_true, forall_const, Nat.zero_add, Nat.reduceAdd, Nat.reduceSub, Int.reduceAdd, Int.reduceNeg, Int.reduceToNat, Nat.reduceEqDiff, Nat.reduceLT, Nat.reduceLeDiff, Int.reduceLE, Int.reduceLT, reduceIte, Int.cast_ofNat_Int, Int.natCast_zero, Int.natCast_one, Int.reduceAdd, eq_self, Int.reduceSub, List.length_cons, List.length_nil, xli_m1, xli_0, xli_1, xli_2, xli_3, xli_4, xli_5, xlb_8, xlb_12, xlb_31, xlb_32, xlb_64, xls_256, xls_513, xls_2048, xls_4096, xll_0, xll_1, xnr_i, xnr_0, xnr_1, xnr_ite, xft_i, xft_0, xft_1, xat_999, xat_1001, xat_1002, xat_1003, xat_2001, xat_2002, xat_2003, List.getElem?_cons_succ, List.getElem?_cons_zero, xfn_0, xfn_1, xfn_2, xfn_3, x10, x01, not_true_eq_false, false_implies, implies_true, true_implies, xrm_c, xrm_s, xnl_4, xnl_32, xnl_64, xnl_256, xtn_4, xtn_32, xtn_64, xtn_256, Option.some.injEq, Sum.inl.injEq, Sum.inr.injEq, exists_eq_left', exists_eq_right, Option.toList_some, Option.toList_none, List.cons_append, List.nil_append, xE, lg_cmp_ge, lg_cmp_le, lg_cmp_gt, lg_cmp_lt, lg_cmp_eq, Nat.le_refl, Nat.zero_le, ne_eq, Nat.add_zero, dS_fill_0, dS_fill_1, dS_fill_2, dS_fill_5, dS_fill_7, dS_fill_9, dS_fill_12, dS_fill_13, dS_fill_16, dS_fill_19, dS_fill_20, dS_fill_21, dS_fill_22, dS_fill_25, dS_fill_28, dS_fill_31, dS_fill_32, dS_fill_33, dS_fill_34, dS_fill_37, dS_fill_38, dS_fill_39, dS_fill_41, dS_fill_42, dS_fill_43, dS_fill_46, dS_fill_49, xj_3_72, xe_3_15, xg_3_15]
  refine hV.call [] xh_3_51 dS_fill_2 (c_partAt h x) (Or.inr ⟨_, _, rfl, fun _ => h1⟩) rfl rfl (by decide) (by decide) (by decide) ?_
  rintro r S' ⟨rfl, rfl⟩
  by_cases hx : 0 ≤ x.toInt ∧ x.toInt < M 4 0
  case neg =>
    rw [if_neg hx]
    refine xrun_ok hV [43] 20 _ _ _ _ _ _ ?_
    simp (maxDischargeDepth := 60) only [xrun, xisc, ↓xstep, xget, xtgt, xcmp, xacmp, xprev, xisR, xnt, List.set, List.length, xsw, xlk, true_or, or_true, if_true, if_false, true_and, and_true, List.mem_cons, List.not_mem_nil, or_false, false_or, Bool.false_eq_true, reduceCtorEq, not_false_eq_true, forall_const, Nat.zero_add, Nat.reduceAdd, Nat.reduceSub, Int.reduceAdd, Int.reduceNeg, Int.reduceToNat, Nat.reduceEqDiff, Nat.reduceLT, Nat.reduceLeDiff, Int.reduceLE, Int.reduceLT, reduceIte, Int.cast_ofNat_Int, Int.natCast_zero, Int.natCast_one, Int.reduceAdd, eq_self, Int.reduceSub, List.length_cons, List.length_nil, xli_m1, xli_0, xli_1, xli_2, xli_3, xli_4, xli_5, xlb_8, xlb_12, xlb_31, xlb_32, xlb_64, xls_256, xls_513, xls_2048, xls_4096, xll_0, xll_1, xnr_i, xnr_0, xnr_1, xnr_ite, xft_i, xft_0, xft_1, xat_999, xat_1001, xat_1002, xat_1003, xat_2001, xat_2002, xat_2003, List.getElem?_cons_succ, List.getElem?_cons_zero, xfn_0, xfn_1, xfn_2, xfn_3, x10, x01, not_true_eq_false, false_implies, implies_true, true_implies, xrm_c, xrm_s, xnl_4, xnl_32, xnl_64, xnl_256, xtn_4, xtn_32, xtn_64, xtn_256, Option.some.injEq, Sum.inl.injEq, Sum.inr.injEq, exists_eq_left', exists_eq_right, Option.toList_some, Option.toList_none, List.cons_append, List.nil_append, xE, lg_cmp_ge, lg_cmp_le, lg_cmp_gt, lg_cmp_lt, lg_cmp_eq, Nat.le_refl, Nat.zero_le, ne_eq, Nat.add_zero, dS_fill_0, dS_fill_1, dS_fill_2, dS_fill_5, dS_fill_7, dS_fill_9, dS_fill_12, dS_fill_13, dS_fill_16, dS_fill_19, dS_fill_20, dS_fill_21, dS_fill_22, dS_fill_25, dS_fill_28, dS_fill_31, dS_fill_32, dS_fill_33, dS_fill_34, dS_fill_37, dS_fill_38, dS_fill_39, dS_fill_41, dS_fill_42, dS_fill_43, dS_fill_46, dS_fill_49, xj_3_72, xe_3_15, xg_3_15]
    unfold oFill
    rw [if_neg (fun q => hx (isP_iff.mp q.2.1))]
    exact ⟨rfl, ⟨ar, pa, qa, la, h⟩, xFr.rf _ _⟩
  rw [if_pos hx]
  refine xrun_ok hV [43] 20 _ _ _ _ _ _ ?_
  simp (maxDischargeDepth := 60) only [xrun, xisc, ↓xstep, xget, xtgt, xcmp, xacmp, xprev, xisR, xnt, List.set, List.length, xsw, xlk, true_or, or_true, if_true, if_false, true_and, and_true, List.mem_cons, List.not_mem_nil, or_false, false_or, Bool.false_eq_true, reduceCtorEq, not_false_eq_true, forall_const, Nat.zero_add, Nat.reduceAdd, Nat.reduceSub, Int.reduceAdd, Int.reduceNeg, Int.reduceToNat, Nat.reduceEqDiff, Nat.reduceLT, Nat.reduceLeDiff, Int.reduceLE, Int.reduceLT, reduceIte, Int.cast_ofNat_Int, Int.natCast_zero, Int.natCast_one, Int.reduceAdd, eq_self, Int.reduceSub, List.length_cons, List.length_nil, xli_m1, xli_0, xli_1, xli_2, xli_3, xli_4, xli_5, xlb_8, xlb_12, xlb_31, xlb_32, xlb_64, xls_256, xls_513, xls_2048, xls_4096, xll_0, xll_1, xnr_i, xnr_0, xnr_1, xnr_ite, xft_i, xft_0, xft_1, xat_999, xat_1001, xat_1002, xat_1003, xat_2001, xat_2002, xat_2003, List.getElem?_cons_succ, List.getElem?_cons_zero, xfn_0, xfn_1, xfn_2, xfn_3, x10, x01, not_true_eq_false, false_implies, implies_true, true_implies, xrm_c, xrm_s, xnl_4, xnl_32, xnl_64, xnl_256, xtn_4, xtn_32, xtn_64, xtn_256, Option.some.injEq, Sum.inl.injEq, Sum.inr.injEq, exists_eq_left', exists_eq_right, Option.toList_some, Option.toList_none, List.cons_append, List.nil_append, xE, lg_cmp_ge, lg_cmp_le, lg_cmp_gt, lg_cmp_lt, lg_cmp_eq, Nat.le_refl, Nat.zero_le, ne_eq, Nat.add_zero, dS_fill_0, dS_fill_1, dS_fill_2, dS_fill_5, dS_fill_7, dS_fill_9, dS_fill_12, dS_fill_13, dS_fill_16, dS_fill_19, dS_fill_20, dS_fill_21, dS_fill_22, dS_fill_25, dS_fill_28, dS_fill_31, dS_fill_32, dS_fill_33, dS_fill_34, dS_fill_37, dS_fill_38, dS_fill_39, dS_fill_41, dS_fill_42, dS_fill_43, dS_fill_46, dS_fill_49, xj_3_72, xe_3_15, xg_3_15]
  refine hV.call [] xh_3_45 dS_fill_13 (c_isPower S' w) (Or.inl rfl) rfl rfl (by decide) (by decide) (by decide) ?_
  rintro r S' ⟨rfl, rfl⟩
  by_cases hw : 0 ≤ w.toInt ∧ w.toInt ≤ 12
  case neg =>
    rw [if_neg hw]
    refine xrun_ok hV [43] 20 _ _ _ _ _ _ ?_
    simp (maxDischargeDepth := 60) only [xrun, xisc, ↓xstep, xget, xtgt, xcmp, xacmp, xprev, xisR, xnt, List.set, List.length, xsw, xlk, true_or, or_true, if_true, if_false, true_and, and_true, List.mem_cons, List.not_mem_nil, or_false, false_or, Bool.false_eq_true, reduceCtorEq, not_false_eq_true, forall_const, Nat.zero_add, Nat.reduceAdd, Nat.reduceSub, Int.reduceAdd, Int.reduceNeg, Int.reduceToNat, Nat.reduceEqDiff, Nat.reduceLT, Nat.reduceLeDiff, Int.reduceLE, Int.reduceLT, reduceIte, Int.cast_ofNat_Int, Int.natCast_zero, Int.natCast_one, Int.reduceAdd, eq_self, Int.reduceSub, List.length_cons, List.length_nil, xli_m1, xli_0, xli_1, xli_2, xli_3, xli_4, xli_5, xlb_8, xlb_12, xlb_31, xlb_32, xlb_64, xls_256, xls_513, xls_2048, xls_4096, xll_0, xll_1, xnr_i, xnr_0, xnr_1, xnr_ite, xft_i, xft_0, xft_1, xat_999, xat_1001, xat_1002, xat_1003, xat_2001, xat_2002, xat_2003, List.getElem?_cons_succ, List.getElem?_cons_zero, xfn_0, xfn_1, xfn_2, xfn_3, x10, x01, not_true_eq_false, false_implies, implies_true, true_implies, xrm_c, xrm_s, xnl_4, xnl_32, xnl_64, xnl_256, xtn_4, xtn_32, xtn_64, xtn_256, Option.some.injEq, Sum.inl.injEq, Sum.inr.injEq, exists_eq_left', exists_eq_right, Option.toList_some, Option.toList_none, List.cons_append, List.nil_append, xE, lg_cmp_ge, lg_cmp_le, lg_cmp_gt, lg_cmp_lt, lg_cmp_eq, Nat.le_refl, Nat.zero_le, ne_eq, Nat.add_zero, dS_fill_0, dS_fill_1, dS_fill_2, dS_fill_5, dS_fill_7, dS_fill_9, dS_fill_12, dS_fill_13, dS_fill_16, dS_fill_19, dS_fill_20, dS_fill_21, dS_fill_22, dS_fill_25, dS_fill_28, dS_fill_31, dS_fill_32, dS_fill_33, dS_fill_34, dS_fill_37, dS_fill_38, dS_fill_39, dS_fill_41, dS_fill_42, dS_fill_43, dS_fill_46, dS_fill_49, xj_3_72, xe_3_15, xg_3_15]
    unfold oFill
    rw [if_neg (fun q => hw (inR_iff.mp q.2.2.1))]
    exact ⟨rfl, ⟨ar, pa, qa, la, h⟩, xFr.rf _ _⟩
  rw [if_pos hw]
  refine xrun_ok hV [43] 20 _ _ _ _ _ _ ?_
  simp (maxDischargeDepth := 60) only [xrun, xisc, ↓xstep, xget, xtgt, xcmp, xacmp, xprev, xisR, xnt, List.set, List.length, xsw, xlk, true_or, or_true, if_true, if_false, true_and, and_true, List.mem_cons, List.not_mem_nil, or_false, false_or, Bool.false_eq_true, reduceCtorEq, not_false_eq_true, forall_const, Nat.zero_add, Nat.reduceAdd, Nat.reduceSub, Int.reduceAdd, Int.reduceNeg, Int.reduceToNat, Nat.reduceEqDiff, Nat.reduceLT, Nat.reduceLeDiff, Int.reduceLE, Int.reduceLT, reduceIte, Int.cast_ofNat_Int, Int.natCast_zero, Int.natCast_one, Int.reduceAdd, eq_self, Int.reduceSub, List.length_cons, List.length_nil, xli_m1, xli_0, xli_1, xli_2, xli_3, xli_4, xli_5, xlb_8, xlb_12, xlb_31, xlb_32, xlb_64, xls_256, xls_513, xls_2048, xls_4096, xll_0, xll_1, xnr_i, xnr_0, xnr_1, xnr_ite, xft_i, xft_0, xft_1, xat_999, xat_1001, xat_1002, xat_1003, xat_2001, xat_2002, xat_2003, List.getElem?_cons_succ, List.getElem?_cons_zero, xfn_0, xfn_1, xfn_2, xfn_3, x10, x01, not_true_eq_false, false_implies, implies_true, true_implies, xrm_c, xrm_s, xnl_4, xnl_32, xnl_64, xnl_256, xtn_4, xtn_32, xtn_64, xtn_256, Option.some.injEq, Sum.inl.injEq, Sum.inr.injEq, exists_eq_left', exists_eq_right, Option.toList_some, Option.toList_none, List.cons_append, List.nil_append, xE, lg_cmp_ge, lg_cmp_le, lg_cmp_gt, lg_cmp_lt, lg_cmp_eq, Nat.le_refl, Nat.zero_le, ne_eq, Nat.add_zero, dS_fill_0, dS_fill_1, dS_fill_2, dS_fill_5, dS_fill_7, dS_fill_9, dS_fill_12, dS_fill_13, dS_fill_16, dS_fill_19, dS_fill_20, dS_fill_21, dS_fill_22, dS_fill_25, dS_fill_28, dS_fill_31, dS_fill_32, dS_fill_33, dS_fill_34, dS_fill_37, dS_fill_38, dS_fill_39, dS_fill_41, dS_fill_42, dS_fill_43, dS_fill_46, dS_fill_49, xj_3_72, xe_3_15, xg_3_15]
  refine hV.call [] xh_3_57 dS_fill_25 (c_isWithin S' y.toInt64 0 4096) (Or.inl rfl) rfl rfl (by decide) (by decide) (by decide) ?_
  rintro r S' ⟨rfl, rfl⟩
  simp only [Int32.toInt_toInt64]
  rw [show (0 : Int64).toInt = 0 from rfl, show (4096 : Int64).toInt = 4096 from rfl]
  by_cases hy : 0 ≤ y.toInt ∧ y.toInt ≤ 4096
  case neg =>
    rw [if_neg hy]
    refine xrun_ok hV [43] 20 _ _ _ _ _ _ ?_
    simp (maxDischargeDepth := 60) only [xrun, xisc, ↓xstep, xget, xtgt, xcmp, xacmp, xprev, xisR, xnt, List.set, List.length, xsw, xlk, true_or, or_true, if_true, if_false, true_and, and_true, List.mem_cons, List.not_mem_nil, or_false, false_or, Bool.false_eq_true, reduceCtorEq, not_false_eq_true, forall_const, Nat.zero_add, Nat.reduceAdd, Nat.reduceSub, Int.reduceAdd, Int.reduceNeg, Int.reduceToNat, Nat.reduceEqDiff, Nat.reduceLT, Nat.reduceLeDiff, Int.reduceLE, Int.reduceLT, reduceIte, Int.cast_ofNat_Int, Int.natCast_zero, Int.natCast_one, Int.reduceAdd, eq_self, Int.reduceSub, List.length_cons, List.length_nil, xli_m1, xli_0, xli_1, xli_2, xli_3, xli_4, xli_5, xlb_8, xlb_12, xlb_31, xlb_32, xlb_64, xls_256, xls_513, xls_2048, xls_4096, xll_0, xll_1, xnr_i, xnr_0, xnr_1, xnr_ite, xft_i, xft_0, xft_1, xat_999, xat_1001, xat_1002, xat_1003, xat_2001, xat_2002, xat_2003, List.getElem?_cons_succ, List.getElem?_cons_zero, xfn_0, xfn_1, xfn_2, xfn_3, x10, x01, not_true_eq_false, false_implies, implies_true, true_implies, xrm_c, xrm_s, xnl_4, xnl_32, xnl_64, xnl_256, xtn_4, xtn_32, xtn_64, xtn_256, Option.some.injEq, Sum.inl.injEq, Sum.inr.injEq, exists_eq_left', exists_eq_right, Option.toList_some, Option.toList_none, List.cons_append, List.nil_append, xE, lg_cmp_ge, lg_cmp_le, lg_cmp_gt, lg_cmp_lt, lg_cmp_eq, Nat.le_refl, Nat.zero_le, ne_eq, Nat.add_zero, dS_fill_0, dS_fill_1, dS_fill_2, dS_fill_5, dS_fill_7, dS_fill_9, dS_fill_12, dS_fill_13, dS_fill_16, dS_fill_19, dS_fill_20, dS_fill_21, dS_fill_22, dS_fill_25, dS_fill_28, dS_fill_31, dS_fill_32, dS_fill_33, dS_fill_34, dS_fill_37, dS_fill_38, dS_fill_39, dS_fill_41, dS_fill_42, dS_fill_43, dS_fill_46, dS_fill_49, xj_3_72, xe_3_15, xg_3_15]
    unfold oFill
    rw [if_neg (fun q => hy (inR_iff.mp q.2.2.2))]
    exact ⟨rfl, ⟨ar, pa, qa, la, h⟩, xFr.rf _ _⟩
  rw [if_pos hy]
  refine xrun_ok hV [43] 20 _ _ _ _ _ _ ?_
  simp (maxDischargeDepth := 60) only [xrun, xisc, ↓xstep, xget, xtgt, xcmp, xacmp, xprev, xisR, xnt, List.set, List.length, xsw, xlk, true_or, or_true, if_true, if_false, true_and, and_true, List.mem_cons, List.not_mem_nil, or_false, false_or, Bool.false_eq_true, reduceCtorEq, not_false_eq_true, forall_const, Nat.zero_add, Nat.reduceAdd, Nat.reduceSub, Int.reduceAdd, Int.reduceNeg, Int.reduceToNat, Nat.reduceEqDiff, Nat.reduceLT, Nat.reduceLeDiff, Int.reduceLE, Int.reduceLT, reduceIte, Int.cast_ofNat_Int, Int.natCast_zero, Int.natCast_one, Int.reduceAdd, eq_self, Int.reduceSub, List.length_cons, List.length_nil, xli_m1, xli_0, xli_1, xli_2, xli_3, xli_4, xli_5, xlb_8, xlb_12, xlb_31, xlb_32, xlb_64, xls_256, xls_513, xls_2048, xls_4096, xll_0, xll_1, xnr_i, xnr_0, xnr_1, xnr_ite, xft_i, xft_0, xft_1, xat_999, xat_1001, xat_1002, xat_1003, xat_2001, xat_2002, xat_2003, List.getElem?_cons_succ, List.getElem?_cons_zero, xfn_0, xfn_1, xfn_2, xfn_3, x10, x01, not_true_eq_false, false_implies, implies_true, true_implies, xrm_c, xrm_s, xnl_4, xnl_32, xnl_64, xnl_256, xtn_4, xtn_32, xtn_64, xtn_256, Option.some.injEq, Sum.inl.injEq, Sum.inr.injEq, exists_eq_left', exists_eq_right, Option.toList_some, Option.toList_none, List.cons_append, List.nil_append, xE, lg_cmp_ge, lg_cmp_le, lg_cmp_gt, lg_cmp_lt, lg_cmp_eq, Nat.le_refl, Nat.zero_le, ne_eq, Nat.add_zero, dS_fill_0, dS_fill_1, dS_fill_2, dS_fill_5, dS_fill_7, dS_fill_9, dS_fill_12, dS_fill_13, dS_fill_16, dS_fill_19, dS_fill_20, dS_fill_21, dS_fill_22, dS_fill_25, dS_fill_28, dS_fill_31, dS_fill_32, dS_fill_33, dS_fill_34, dS_fill_37, dS_fill_38, dS_fill_39, dS_fill_41, dS_fill_42, dS_fill_43, dS_fill_46, dS_fill_49, xj_3_72, xe_3_15, xg_3_15]
  have g5 : xc (xmk S' 3 0) (xn S') = 3 := by rw [xc_mk, if_pos rfl]
  refine hV.call [.inr (.inr (some (xn S'))), .inr (.inr (some th))] (As := [.inr (.inr (some (xn S'))), .inl 4, .inr (.inr (some (pa x.toNatClampNeg))), .inl w, .inl y]) xh_3_61 dS_fill_43 (c_Q_init (xmk S' 3 0) (a := xn S') g5 4 w y (some (pa x.toNatClampNeg))) (Or.inr ⟨_, _, rfl, fun q => absurd q (by decide)⟩) rfl rfl (Nat.le_of_ble_eq_true rfl) (by decide) (by decide) ?_
  rintro r S2 ⟨rfl, rfl⟩
  refine xrun_ok hV [43] 20 _ _ _ _ _ _ ?_
  simp (maxDischargeDepth := 60) only [xrun, xisc, ↓xstep, xget, xtgt, xcmp, xacmp, xprev, xisR, xnt, List.set, List.length, xsw, xlk, true_or, or_true, if_true, if_false, true_and, and_true, List.mem_cons, List.not_mem_nil, or_false, false_or, Bool.false_eq_true, reduceCtorEq, not_false_eq_true, forall_const, Nat.zero_add, Nat.reduceAdd, Nat.reduceSub, Int.reduceAdd, Int.reduceNeg, Int.reduceToNat, Nat.reduceEqDiff, Nat.reduceLT, Nat.reduceLeDiff, Int.reduceLE, Int.reduceLT, reduceIte, Int.cast_ofNat_Int, Int.natCast_zero, Int.natCast_one, Int.reduceAdd, eq_self, Int.reduceSub, List.length_cons, List.length_nil, xli_m1, xli_0, xli_1, xli_2, xli_3, xli_4, xli_5, xlb_8, xlb_12, xlb_31, xlb_32, xlb_64, xls_256, xls_513, xls_2048, xls_4096, xll_0, xll_1, xnr_i, xnr_0, xnr_1, xnr_ite, xft_i, xft_0, xft_1, xat_999, xat_1001, xat_1002, xat_1003, xat_2001, xat_2002, xat_2003, List.getElem?_cons_succ, List.getElem?_cons_zero, xfn_0, xfn_1, xfn_2, xfn_3, x10, x01, not_true_eq_false, false_implies, implies_true, true_implies, xrm_c, xrm_s, xnl_4, xnl_32, xnl_64, xnl_256, xtn_4, xtn_32, xtn_64, xtn_256, Option.some.injEq, Sum.inl.injEq, Sum.inr.injEq, exists_eq_left', exists_eq_right, Option.toList_some, Option.toList_none, List.cons_append, List.nil_append, xE, lg_cmp_ge, lg_cmp_le, lg_cmp_gt, lg_cmp_lt, lg_cmp_eq, Nat.le_refl, Nat.zero_le, ne_eq, Nat.add_zero, dS_fill_0, dS_fill_1, dS_fill_2, dS_fill_5, dS_fill_7, dS_fill_9, dS_fill_12, dS_fill_13, dS_fill_16, dS_fill_19, dS_fill_20, dS_fill_21, dS_fill_22, dS_fill_25, dS_fill_28, dS_fill_31, dS_fill_32, dS_fill_33, dS_fill_34, dS_fill_37, dS_fill_38, dS_fill_39, dS_fill_41, dS_fill_42, dS_fill_43, dS_fill_46, dS_fill_49, xj_3_72, xe_3_15, xg_3_15]
  have e1 : x.toNatClampNeg = x.toInt.toNat := rfl
  have e2 : y.toNatClampNeg = y.toInt.toNat := rfl
  have e3 : w.toNatClampNeg = w.toInt.toNat := rfl
  have hz : sQ1 (xmk S' 3 0) (xn S') 4 (some (pa x.toNatClampNeg)) w y = sQ1 (xmk S' 3 0) (xn S') (nI 4) (some (pa x.toNatClampNeg)) (nI w.toNatClampNeg) (nI y.toNatClampNeg) := by rw [nI_cl hy.1, nI_cl hw.1]; rfl
  rw [hz]
  have hN := sQ1_N S' pa la x.toNatClampNeg 4 y.toNatClampNeg w.toNatClampNeg rfl
  have hs := sQ1_same S' (nI 4) (nI w.toNatClampNeg) (nI y.toNatClampNeg) (some (pa x.toNatClampNeg))
  generalize sQ1 (xmk S' 3 0) (xn S') (nI 4) (some (pa x.toNatClampNeg)) (nI w.toNatClampNeg) (nI y.toNatClampNeg) = S2 at hN hs ⊢
  have hle : xn S' ≤ xn S2 := Nat.le_of_lt hN.1.2
  have h2 := h.same hle hs
  have hO : mOK M x.toNatClampNeg 4 y.toNatClampNeg w.toNatClampNeg 0 0 0 := ⟨by decide, by omega, by omega, by decide, by decide, fun q => absurd q (by decide), fun q => absurd q (by decide), fun q => by omega⟩
  refine hV.call [] (As := [.inr (.inr (some th)), .inr (.inr (some (xn S')))]) xh_3_64 dS_fill_46 (c_addPiece h2 hN hO (fun k hk => Nat.ne_of_lt (h.2.2.2.2.1 k hk).1.2)) (Or.inr ⟨_, _, rfl, fun _ => h2.th⟩) rfl rfl (by decide) (by decide) (by decide) ?_
  rintro r S3 ⟨g1, g2, g3⟩
  have hF := (xFr.of (T := tC) hle hs).tr g3
  by_cases hq : M 12 0 < 256
  · obtain ⟨rfl, g4⟩ := g1 hq
    refine xrun_ok hV [43] 20 _ _ _ _ _ _ ?_
    simp (maxDischargeDepth := 60) only [xrun, xisc, ↓xstep, xget, xtgt, xcmp, xacmp, xprev, xisR, xnt, List.set, List.length, xsw, xlk, true_or, or_true, if_true, if_false, true_and, and_true, List.mem_cons, List.not_mem_nil, or_false, false_or, Bool.false_eq_true, reduceCtorEq, not_false_eq_true, forall_const, Nat.zero_add, Nat.reduceAdd, Nat.reduceSub, Int.reduceAdd, Int.reduceNeg, Int.reduceToNat, Nat.reduceEqDiff, Nat.reduceLT, Nat.reduceLeDiff, Int.reduceLE, Int.reduceLT, reduceIte, Int.cast_ofNat_Int, Int.natCast_zero, Int.natCast_one, Int.reduceAdd, eq_self, Int.reduceSub, List.length_cons, List.length_nil, xli_m1, xli_0, xli_1, xli_2, xli_3, xli_4, xli_5, xlb_8, xlb_12, xlb_31, xlb_32, xlb_64, xls_256, xls_513, xls_2048, xls_4096, xll_0, xll_1, xnr_i, xnr_0, xnr_1, xnr_ite, xft_i, xft_0, xft_1, xat_999, xat_1001, xat_1002, xat_1003, xat_2001, xat_2002, xat_2003, List.getElem?_cons_succ, List.getElem?_cons_zero, xfn_0, xfn_1, xfn_2, xfn_3, x10, x01, not_true_eq_false, false_implies, implies_true, true_implies, xrm_c, xrm_s, xnl_4, xnl_32, xnl_64, xnl_256, xtn_4, xtn_32, xtn_64, xtn_256, Option.some.injEq, Sum.inl.injEq, Sum.inr.injEq, exists_eq_left', exists_eq_right, Option.toList_some, Option.toList_none, List.cons_append, List.nil_append, xE, lg_cmp_ge, lg_cmp_le, lg_cmp_gt, lg_cmp_lt, lg_cmp_eq, Nat.le_refl, Nat.zero_le, ne_eq, Nat.add_zero, dS_fill_0, dS_fill_1, dS_fill_2, dS_fill_5, dS_fill_7, dS_fill_9, dS_fill_12, dS_fill_13, dS_fill_16, dS_fill_19, dS_fill_20, dS_fill_21, dS_fill_22, dS_fill_25, dS_fill_28, dS_fill_31, dS_fill_32, dS_fill_33, dS_fill_34, dS_fill_37, dS_fill_38, dS_fill_39, dS_fill_41, dS_fill_42, dS_fill_43, dS_fill_46, dS_fill_49, xj_3_72, xe_3_15, xg_3_15]
    unfold oFill
    rw [if_pos ⟨hq, isP_iff.mpr hx, inR_iff.mpr hw, inR_iff.mpr hy⟩]
    exact ⟨rfl, ⟨_, _, _, _, g4⟩, hF⟩
  · obtain ⟨rfl, rfl⟩ := g2 hq
    refine xrun_ok hV [43] 20 _ _ _ _ _ _ ?_
    simp (maxDischargeDepth := 60) only [xrun, xisc, ↓xstep, xget, xtgt, xcmp, xacmp, xprev, xisR, xnt, List.set, List.length, xsw, xlk, true_or, or_true, if_true, if_false, true_and, and_true, List.mem_cons, List.not_mem_nil, or_false, false_or, Bool.false_eq_true, reduceCtorEq, not_false_eq_true, forall_const, Nat.zero_add, Nat.reduceAdd, Nat.reduceSub, Int.reduceAdd, Int.reduceNeg, Int.reduceToNat, Nat.reduceEqDiff, Nat.reduceLT, Nat.reduceLeDiff, Int.reduceLE, Int.reduceLT, reduceIte, Int.cast_ofNat_Int, Int.natCast_zero, Int.natCast_one, Int.reduceAdd, eq_self, Int.reduceSub, List.length_cons, List.length_nil, xli_m1, xli_0, xli_1, xli_2, xli_3, xli_4, xli_5, xlb_8, xlb_12, xlb_31, xlb_32, xlb_64, xls_256, xls_513, xls_2048, xls_4096, xll_0, xll_1, xnr_i, xnr_0, xnr_1, xnr_ite, xft_i, xft_0, xft_1, xat_999, xat_1001, xat_1002, xat_1003, xat_2001, xat_2002, xat_2003, List.getElem?_cons_succ, List.getElem?_cons_zero, xfn_0, xfn_1, xfn_2, xfn_3, x10, x01, not_true_eq_false, false_implies, implies_true, true_implies, xrm_c, xrm_s, xnl_4, xnl_32, xnl_64, xnl_256, xtn_4, xtn_32, xtn_64, xtn_256, Option.some.injEq, Sum.inl.injEq, Sum.inr.injEq, exists_eq_left', exists_eq_right, Option.toList_some, Option.toList_none, List.cons_append, List.nil_append, xE, lg_cmp_ge, lg_cmp_le, lg_cmp_gt, lg_cmp_lt, lg_cmp_eq, Nat.le_refl, Nat.zero_le, ne_eq, Nat.add_zero, dS_fill_0, dS_fill_1, dS_fill_2, dS_fill_5, dS_fill_7, dS_fill_9, dS_fill_12, dS_fill_13, dS_fill_16, dS_fill_19, dS_fill_20, dS_fill_21, dS_fill_22, dS_fill_25, dS_fill_28, dS_fill_31, dS_fill_32, dS_fill_33, dS_fill_34, dS_fill_37, dS_fill_38, dS_fill_39, dS_fill_41, dS_fill_42, dS_fill_43, dS_fill_46, dS_fill_49, xj_3_72, xe_3_15, xg_3_15]
    unfold oFill
    rw [if_neg (fun q => hq q.1)]
    exact ⟨rfl, ⟨_, _, _, _, h2⟩, hF⟩
theorem nI_bits (c : Int32) : nI c.toBitVec.toNat = c := by
  apply Int32.toBitVec_inj.mp
  apply BitVec.eq_of_toNat_eq
  rw [pk_tn c.toBitVec.isLt]
theorem mgr_num {s : Nat} (h : saim s = true) : (if nI s = 1 then (8 : Int32) else 4) = nI (mgr s) := by
  simp only [saim, Bool.and_eq_true, decide_eq_true_eq] at h
  rcases (show s = 1 ∨ s = 2 ∨ s = 3 by omega) with rfl | rfl | rfl <;> decide +kernel
set_option maxHeartbeats 4000000 in
set_option maxRecDepth 100000 in
theorem c_addAimed (h : rCx S th M) {s t : Nat} (hs0 : saim s = true) (ht : t ≤ 1) (h3 : s = 3 → t = 0) (x y c : Int32) : xMet l D n0 mS_addAimed 1 13 [.inr (.inr (some th)), .inl (nI s), .inl x, .inl y, .inl c, .inl (nI t)] S (oC S th (oAimed M s x y c t)) := by
  obtain ⟨ar, pa, qa, la, h⟩ := h
  refine xMet.of (k := mS_addAimed) (own := 3) (ini := false) xm_S_addAimed (by decide +kernel) (by decide +kernel) (by decide) (Nat.le_of_ble_eq_true rfl) ?_
  intro V hV
  show V 0 [some (.inr (.inr (some th))), some (.inl (nI s)), some (.inl x), some (.inl y), some (.inl c), some (.inl (nI t)), none, none] [] S 0 0
  have h1 := h.th
  have hth := h.2.1.1.2
  refine xrun_ok hV [40] 20 _ _ _ _ _ _ ?_
  simp (maxDischargeDepth := 60) only [xrun, xisc, ↓xstep, xget, xtgt, xcmp, xacmp, xprev, xisR, xnt, List.set, List.length, xsw, xlk, true_or, or_true, if_true, if_false, true_and, and_true, List.mem_cons, List.not_mem_nil, or_false, false_or, Bool.false_eq_true, reduceCtorEq, not_false_eq_true, forall_const, Nat.zero_add, Nat.reduceAdd, Nat.reduceSub, Int.reduceAdd, Int.reduceNeg, Int.reduceToNat, Nat.reduceEqDiff, Nat.reduceLT, Nat.reduceLeDiff, Int.reduceLE, Int.reduceLT, reduceIte, Int.cast_ofNat_Int, Int.natCast_zero, Int.natCast_one, Int.reduceAdd, eq_self, Int.reduceSub, List.length_cons, List.length_nil, xli_m1, xli_0, xli_1, xli_2, xli_3, xli_4, xli_5, xlb_8, xlb_12, xlb_31, xlb_32, xlb_64, xls_256, xls_513, xls_2048, xls_4096, xll_0, xll_1, xnr_i, xnr_0, xnr_1, xnr_ite, xft_i, xft_0, xft_1, xat_999, xat_1001, xat_1002, xat_1003, xat_2001, xat_2002, xat_2003, List.getElem?_cons_succ, List.getElem?_cons_zero, xfn_0, xfn_1, xfn_2, xfn_3, x10, x01, not_true_eq_false, false_implies, implies_true, true_implies, xrm_c, xrm_s, xnl_4, xnl_32, xnl_64, xnl_256, xtn_4, xtn_32, xtn_64, xtn_256, Option.some.injEq, Sum.inl.injEq, Sum.inr.injEq, exists_eq_left', exists_eq_right, Option.toList_some, Option.toList_none, List.cons_append, List.nil_append, xE, lg_cmp_ge, lg_cmp_le, lg_cmp_gt, lg_cmp_lt, lg_cmp_eq, Nat.le_refl, Nat.zero_le, ne_eq, Nat.add_zero, dS_addAimed_0, dS_addAimed_1, dS_addAimed_2, dS_addAimed_5, dS_addAimed_7, dS_addAimed_8, dS_addAimed_9, dS_addAimed_12, dS_addAimed_14, dS_addAimed_16, dS_addAimed_19, dS_addAimed_21, dS_addAimed_24, dS_addAimed_25, dS_addAimed_26, dS_addAimed_27, dS_addAimed_30, dS_addAimed_31, dS_addAimed_32, dS_addAimed_34, dS_addAimed_36, dS_addAimed_38, dS_addAimed_40, dS_addAimed_43, dS_addAimed_46, xe_3_15, xg_3_15]
  refine hV.call [] xh_3_51 dS_addAimed_2 (c_partAt h x) (Or.inr ⟨_, _, rfl, fun _ => h1⟩) rfl rfl (by decide) (by decide) (by decide) ?_
  rintro r S' ⟨rfl, rfl⟩
  refine xrun_ok hV [40] 20 _ _ _ _ _ _ ?_
  simp (maxDischargeDepth := 60) only [xrun, xisc, ↓xstep, xget, xtgt, xcmp, xacmp, xprev, xisR, xnt, List.set, List.length, xsw, xlk, true_or, or_true, if_true, if_false, true_and, and_true, List.mem_cons, List.not_mem_nil, or_false, false_or, Bool.false_eq_true, reduceCtorEq, not_false_eq_true, forall_const, Nat.zero_add, Nat.reduceAdd, Nat.reduceSub, Int.reduceAdd, Int.reduceNeg, Int.reduceToNat, Nat.reduceEqDiff, Nat.reduceLT, Nat.reduceLeDiff, Int.reduceLE, Int.reduceLT, reduceIte, Int.cast_ofNat_Int, Int.natCast_zero, Int.natCast_one, Int.reduceAdd, eq_self, Int.reduceSub, List.length_cons, List.length_nil, xli_m1, xli_0, xli_1, xli_2, xli_3, xli_4, xli_5, xlb_8, xlb_12, xlb_31, xlb_32, xlb_64, xls_256, xls_513, xls_2048, xls_4096, xll_0, xll_1, xnr_i, xnr_0, xnr_1, xnr_ite, xft_i, xft_0, xft_1, xat_999, xat_1001, xat_1002, xat_1003, xat_2001, xat_2002, xat_2003, List.getElem?_cons_succ, List.getElem?_cons_zero, xfn_0, xfn_1, xfn_2, xfn_3, x10, x01, not_true_eq_false, false_implies, implies_true, true_implies, xrm_c, xrm_s, xnl_4, xnl_32, xnl_64, xnl_256, xtn_4, xtn_32, xtn_64, xtn_256, Option.some.injEq, Sum.inl.injEq, Sum.inr.injEq, exists_eq_left', exists_eq_right, Option.toList_some, Option.toList_none, List.cons_append, List.nil_append, xE, lg_cmp_ge, lg_cmp_le, lg_cmp_gt, lg_cmp_lt, lg_cmp_eq, Nat.le_refl, Nat.zero_le, ne_eq, Nat.add_zero, dS_addAimed_0, dS_addAimed_1, dS_addAimed_2, dS_addAimed_5, dS_addAimed_7, dS_addAimed_8, dS_addAimed_9, dS_addAimed_12, dS_addAimed_14, dS_addAimed_16, dS_addAimed_19, dS_addAimed_21, dS_addAimed_24, dS_addAimed_25, dS_addAimed_26, dS_addAimed_27, dS_addAimed_30, dS_addAimed_31, dS_addAimed_32, dS_addAimed_34, dS_addAimed_36, dS_addAimed_38, dS_addAimed_40, dS_addAimed_43, dS_addAimed_46, xe_3_15, xg_3_15]
  refine hV.call [] xh_3_78 dS_addAimed_9 (c_labelAt h y) (Or.inr ⟨_, _, rfl, fun _ => h1⟩) rfl rfl (by decide) (by decide) (by decide) ?_
  rintro r S' ⟨rfl, rfl⟩
  by_cases hx : 0 ≤ x.toInt ∧ x.toInt < M 4 0
  case neg =>
    rw [if_neg hx]
    refine xrun_ok hV [40] 20 _ _ _ _ _ _ ?_
    simp (maxDischargeDepth := 60) only [xrun, xisc, ↓xstep, xget, xtgt, xcmp, xacmp, xprev, xisR, xnt, List.set, List.length, xsw, xlk, true_or, or_true, if_true, if_false, true_and, and_true, List.mem_cons, List.not_mem_nil, or_false, false_or, Bool.false_eq_true, reduceCtorEq, not_false_eq_true, forall_const, Nat.zero_add, Nat.reduceAdd, Nat.reduceSub, Int.reduceAdd, Int.reduceNeg, Int.reduceToNat, Nat.reduceEqDiff, Nat.reduceLT, Nat.reduceLeDiff, Int.reduceLE, Int.reduceLT, reduceIte, Int.cast_ofNat_Int, Int.natCast_zero, Int.natCast_one, Int.reduceAdd, eq_self, Int.reduceSub, List.length_cons, List.length_nil, xli_m1, xli_0, xli_1, xli_2, xli_3, xli_4, xli_5, xlb_8, xlb_12, xlb_31, xlb_32, xlb_64, xls_256, xls_513, xls_2048, xls_4096, xll_0, xll_1, xnr_i, xnr_0, xnr_1, xnr_ite, xft_i, xft_0, xft_1, xat_999, xat_1001, xat_1002, xat_1003, xat_2001, xat_2002, xat_2003, List.getElem?_cons_succ, List.getElem?_cons_zero, xfn_0, xfn_1, xfn_2, xfn_3, x10, x01, not_true_eq_false, false_implies, implies_true, true_implies, xrm_c, xrm_s, xnl_4, xnl_32, xnl_64, xnl_256, xtn_4, xtn_32, xtn_64, xtn_256, Option.some.injEq, Sum.inl.injEq, Sum.inr.injEq, exists_eq_left', exists_eq_right, Option.toList_some, Option.toList_none, List.cons_append, List.nil_append, xE, lg_cmp_ge, lg_cmp_le, lg_cmp_gt, lg_cmp_lt, lg_cmp_eq, Nat.le_refl, Nat.zero_le, ne_eq, Nat.add_zero, dS_addAimed_0, dS_addAimed_1, dS_addAimed_2, dS_addAimed_5, dS_addAimed_7, dS_addAimed_8, dS_addAimed_9, dS_addAimed_12, dS_addAimed_14, dS_addAimed_16, dS_addAimed_19, dS_addAimed_21, dS_addAimed_24, dS_addAimed_25, dS_addAimed_26, dS_addAimed_27, dS_addAimed_30, dS_addAimed_31, dS_addAimed_32, dS_addAimed_34, dS_addAimed_36, dS_addAimed_38, dS_addAimed_40, dS_addAimed_43, dS_addAimed_46, xe_3_15, xg_3_15]
    unfold oAimed
    rw [if_neg (fun q => hx (isP_iff.mp q.2.1))]
    exact ⟨rfl, ⟨ar, pa, qa, la, h⟩, xFr.rf _ _⟩
  rw [if_pos hx]
  by_cases hy : 0 ≤ y.toInt ∧ y.toInt < M 25 0
  case neg =>
    rw [if_neg hy]
    refine xrun_ok hV [40] 20 _ _ _ _ _ _ ?_
    simp (maxDischargeDepth := 60) only [xrun, xisc, ↓xstep, xget, xtgt, xcmp, xacmp, xprev, xisR, xnt, List.set, List.length, xsw, xlk, true_or, or_true, if_true, if_false, true_and, and_true, List.mem_cons, List.not_mem_nil, or_false, false_or, Bool.false_eq_true, reduceCtorEq, not_false_eq_true, forall_const, Nat.zero_add, Nat.reduceAdd, Nat.reduceSub, Int.reduceAdd, Int.reduceNeg, Int.reduceToNat, Nat.reduceEqDiff, Nat.reduceLT, Nat.reduceLeDiff, Int.reduceLE, Int.reduceLT, reduceIte, Int.cast_ofNat_Int, Int.natCast_zero, Int.natCast_one, Int.reduceAdd, eq_self, Int.reduceSub, List.length_cons, List.length_nil, xli_m1, xli_0, xli_1, xli_2, xli_3, xli_4, xli_5, xlb_8, xlb_12, xlb_31, xlb_32, xlb_64, xls_256, xls_513, xls_2048, xls_4096, xll_0, xll_1, xnr_i, xnr_0, xnr_1, xnr_ite, xft_i, xft_0, xft_1, xat_999, xat_1001, xat_1002, xat_1003, xat_2001, xat_2002, xat_2003, List.getElem?_cons_succ, List.getElem?_cons_zero, xfn_0, xfn_1, xfn_2, xfn_3, x10, x01, not_true_eq_false, false_implies, implies_true, true_implies, xrm_c, xrm_s, xnl_4, xnl_32, xnl_64, xnl_256, xtn_4, xtn_32, xtn_64, xtn_256, Option.some.injEq, Sum.inl.injEq, Sum.inr.injEq, exists_eq_left', exists_eq_right, Option.toList_some, Option.toList_none, List.cons_append, List.nil_append, xE, lg_cmp_ge, lg_cmp_le, lg_cmp_gt, lg_cmp_lt, lg_cmp_eq, Nat.le_refl, Nat.zero_le, ne_eq, Nat.add_zero, dS_addAimed_0, dS_addAimed_1, dS_addAimed_2, dS_addAimed_5, dS_addAimed_7, dS_addAimed_8, dS_addAimed_9, dS_addAimed_12, dS_addAimed_14, dS_addAimed_16, dS_addAimed_19, dS_addAimed_21, dS_addAimed_24, dS_addAimed_25, dS_addAimed_26, dS_addAimed_27, dS_addAimed_30, dS_addAimed_31, dS_addAimed_32, dS_addAimed_34, dS_addAimed_36, dS_addAimed_38, dS_addAimed_40, dS_addAimed_43, dS_addAimed_46, xe_3_15, xg_3_15]
    unfold oAimed
    rw [if_neg (fun q => hy (isL_iff.mp q.2.2))]
    exact ⟨rfl, ⟨ar, pa, qa, la, h⟩, xFr.rf _ _⟩
  rw [if_pos hy]
  refine xrun_ok hV [40] 20 _ _ _ _ _ _ ?_
  simp (maxDischargeDepth := 60) only [xrun, xisc, ↓xstep, xget, xtgt, xcmp, xacmp, xprev, xisR, xnt, List.set, List.length, xsw, xlk, true_or, or_true, if_true, if_false, true_and, and_true, List.mem_cons, List.not_mem_nil, or_false, false_or, Bool.false_eq_true, reduceCtorEq, not_false_eq_true, forall_const, Nat.zero_add, Nat.reduceAdd, Nat.reduceSub, Int.reduceAdd, Int.reduceNeg, Int.reduceToNat, Nat.reduceEqDiff, Nat.reduceLT, Nat.reduceLeDiff, Int.reduceLE, Int.reduceLT, reduceIte, Int.cast_ofNat_Int, Int.natCast_zero, Int.natCast_one, Int.reduceAdd, eq_self, Int.reduceSub, List.length_cons, List.length_nil, xli_m1, xli_0, xli_1, xli_2, xli_3, xli_4, xli_5, xlb_8, xlb_12, xlb_31, xlb_32, xlb_64, xls_256, xls_513, xls_2048, xls_4096, xll_0, xll_1, xnr_i, xnr_0, xnr_1, xnr_ite, xft_i, xft_0, xft_1, xat_999, xat_1001, xat_1002, xat_1003, xat_2001, xat_2002, xat_2003, List.getElem?_cons_succ, List.getElem?_cons_zero, xfn_0, xfn_1, xfn_2, xfn_3, x10, x01, not_true_eq_false, false_implies, implies_true, true_implies, xrm_c, xrm_s, xnl_4, xnl_32, xnl_64, xnl_256, xtn_4, xtn_32, xtn_64, xtn_256, Option.some.injEq, Sum.inl.injEq, Sum.inr.injEq, exists_eq_left', exists_eq_right, Option.toList_some, Option.toList_none, List.cons_append, List.nil_append, xE, lg_cmp_ge, lg_cmp_le, lg_cmp_gt, lg_cmp_lt, lg_cmp_eq, Nat.le_refl, Nat.zero_le, ne_eq, Nat.add_zero, dS_addAimed_0, dS_addAimed_1, dS_addAimed_2, dS_addAimed_5, dS_addAimed_7, dS_addAimed_8, dS_addAimed_9, dS_addAimed_12, dS_addAimed_14, dS_addAimed_16, dS_addAimed_19, dS_addAimed_21, dS_addAimed_24, dS_addAimed_25, dS_addAimed_26, dS_addAimed_27, dS_addAimed_30, dS_addAimed_31, dS_addAimed_32, dS_addAimed_34, dS_addAimed_36, dS_addAimed_38, dS_addAimed_40, dS_addAimed_43, dS_addAimed_46, xe_3_15, xg_3_15]
  have g5 : xc (xmk S' 3 0) (xn S') = 3 := by rw [xc_mk, if_pos rfl]
  refine hV.call [.inr (.inr (some (xn S'))), .inr (.inr (some th))] (As := [.inr (.inr (some (xn S'))), .inl (nI s), .inr (.inr (some (pa x.toNatClampNeg))), .inr (.inr (some (la y.toNatClampNeg))), .inl c, .inl (nI t)]) xh_3_183 dS_addAimed_40 (c_Q_init2 (xmk S' 3 0) (a := xn S') g5 (nI s) c (nI t) (some (pa x.toNatClampNeg)) (some (la y.toNatClampNeg)) (nI_b ht).2) (Or.inr ⟨_, _, rfl, fun q => absurd q (by decide)⟩) rfl rfl (Nat.le_of_ble_eq_true rfl) (by decide) (by decide) ?_
  rintro r S2 ⟨rfl, rfl⟩
  refine xrun_ok hV [40] 20 _ _ _ _ _ _ ?_
  simp (maxDischargeDepth := 60) only [xrun, xisc, ↓xstep, xget, xtgt, xcmp, xacmp, xprev, xisR, xnt, List.set, List.length, xsw, xlk, true_or, or_true, if_true, if_false, true_and, and_true, List.mem_cons, List.not_mem_nil, or_false, false_or, Bool.false_eq_true, reduceCtorEq, not_false_eq_true, forall_const, Nat.zero_add, Nat.reduceAdd, Nat.reduceSub, Int.reduceAdd, Int.reduceNeg, Int.reduceToNat, Nat.reduceEqDiff, Nat.reduceLT, Nat.reduceLeDiff, Int.reduceLE, Int.reduceLT, reduceIte, Int.cast_ofNat_Int, Int.natCast_zero, Int.natCast_one, Int.reduceAdd, eq_self, Int.reduceSub, List.length_cons, List.length_nil, xli_m1, xli_0, xli_1, xli_2, xli_3, xli_4, xli_5, xlb_8, xlb_12, xlb_31, xlb_32, xlb_64, xls_256, xls_513, xls_2048, xls_4096, xll_0, xll_1, xnr_i, xnr_0, xnr_1, xnr_ite, xft_i, xft_0, xft_1, xat_999, xat_1001, xat_1002, xat_1003, xat_2001, xat_2002, xat_2003, List.getElem?_cons_succ, List.getElem?_cons_zero, xfn_0, xfn_1, xfn_2, xfn_3, x10, x01, not_true_eq_false, false_implies, implies_true, true_implies, xrm_c, xrm_s, xnl_4, xnl_32, xnl_64, xnl_256, xtn_4, xtn_32, xtn_64, xtn_256, Option.some.injEq, Sum.inl.injEq, Sum.inr.injEq, exists_eq_left', exists_eq_right, Option.toList_some, Option.toList_none, List.cons_append, List.nil_append, xE, lg_cmp_ge, lg_cmp_le, lg_cmp_gt, lg_cmp_lt, lg_cmp_eq, Nat.le_refl, Nat.zero_le, ne_eq, Nat.add_zero, dS_addAimed_0, dS_addAimed_1, dS_addAimed_2, dS_addAimed_5, dS_addAimed_7, dS_addAimed_8, dS_addAimed_9, dS_addAimed_12, dS_addAimed_14, dS_addAimed_16, dS_addAimed_19, dS_addAimed_21, dS_addAimed_24, dS_addAimed_25, dS_addAimed_26, dS_addAimed_27, dS_addAimed_30, dS_addAimed_31, dS_addAimed_32, dS_addAimed_34, dS_addAimed_36, dS_addAimed_38, dS_addAimed_40, dS_addAimed_43, dS_addAimed_46, xe_3_15, xg_3_15]
  have e1 : x.toNatClampNeg = x.toInt.toNat := rfl
  have e2 : y.toNatClampNeg = y.toInt.toNat := rfl
  rw [mgr_num hs0]
  have hz : sQ2 (xmk S' 3 0) (xn S') (nI s) (some (pa x.toNatClampNeg)) (some (la y.toNatClampNeg)) c (nI t) (nI (mgr s)) = sQ2 (xmk S' 3 0) (xn S') (nI s) (some (pa x.toNatClampNeg)) (some (la y.toNatClampNeg)) (nI c.toBitVec.toNat) (nI t) (nI (mgr s)) := by rw [nI_bits]
  rw [hz]
  have hN := sQ2_N S' pa la x.toNatClampNeg s y.toNatClampNeg c.toBitVec.toNat t hs0
  have hs := sQ2_same S' (nI s) (nI c.toBitVec.toNat) (nI t) (nI (mgr s)) (some (pa x.toNatClampNeg)) (some (la y.toNatClampNeg))
  generalize sQ2 (xmk S' 3 0) (xn S') (nI s) (some (pa x.toNatClampNeg)) (some (la y.toNatClampNeg)) (nI c.toBitVec.toNat) (nI t) (nI (mgr s)) = S2 at hN hs ⊢
  have hle : xn S' ≤ xn S2 := Nat.le_of_lt hN.1.2
  have h2 := h.same hle hs
  have hs9 := hs0
  simp only [saim, Bool.and_eq_true, decide_eq_true_eq] at hs9
  have hO : mOK M x.toNatClampNeg s (mgr s) 0 y.toNatClampNeg c.toBitVec.toNat t := ⟨by omega, by omega, by decide, ht, c.toBitVec.isLt, fun q => by omega, fun _ => ⟨rfl, by omega, h3⟩, fun q => by omega⟩
  refine hV.call [] (As := [.inr (.inr (some th)), .inr (.inr (some (xn S')))]) xh_3_64 dS_addAimed_43 (c_addPiece h2 hN hO (fun k hk => Nat.ne_of_lt (h.2.2.2.2.1 k hk).1.2)) (Or.inr ⟨_, _, rfl, fun _ => h2.th⟩) rfl rfl (by decide) (by decide) (by decide) ?_
  rintro r S3 ⟨g1, g2, g3⟩
  have hF := (xFr.of (T := tC) hle hs).tr g3
  by_cases hq : M 12 0 < 256
  · obtain ⟨rfl, g4⟩ := g1 hq
    refine xrun_ok hV [40] 20 _ _ _ _ _ _ ?_
    simp (maxDischargeDepth := 60) only [xrun, xisc, ↓xstep, xget, xtgt, xcmp, xacmp, xprev, xisR, xnt, List.set, List.length, xsw, xlk, true_or, or_true, if_true, if_false, true_and, and_true, List.mem_cons, List.not_mem_nil, or_false, false_or, Bool.false_eq_true, reduceCtorEq, not_false_eq_true, forall_const, Nat.zero_add, Nat.reduceAdd, Nat.reduceSub, Int.reduceAdd, Int.reduceNeg, Int.reduceToNat, Nat.reduceEqDiff, Nat.reduceLT, Nat.reduceLeDiff, Int.reduceLE, Int.reduceLT, reduceIte, Int.cast_ofNat_Int, Int.natCast_zero, Int.natCast_one, Int.reduceAdd, eq_self, Int.reduceSub, List.length_cons, List.length_nil, xli_m1, xli_0, xli_1, xli_2, xli_3, xli_4, xli_5, xlb_8, xlb_12, xlb_31, xlb_32, xlb_64, xls_256, xls_513, xls_2048, xls_4096, xll_0, xll_1, xnr_i, xnr_0, xnr_1, xnr_ite, xft_i, xft_0, xft_1, xat_999, xat_1001, xat_1002, xat_1003, xat_2001, xat_2002, xat_2003, List.getElem?_cons_succ, List.getElem?_cons_zero, xfn_0, xfn_1, xfn_2, xfn_3, x10, x01, not_true_eq_false, false_implies, implies_true, true_implies, xrm_c, xrm_s, xnl_4, xnl_32, xnl_64, xnl_256, xtn_4, xtn_32, xtn_64, xtn_256, Option.some.injEq, Sum.inl.injEq, Sum.inr.injEq, exists_eq_left', exists_eq_right, Option.toList_some, Option.toList_none, List.cons_append, List.nil_append, xE, lg_cmp_ge, lg_cmp_le, lg_cmp_gt, lg_cmp_lt, lg_cmp_eq, Nat.le_refl, Nat.zero_le, ne_eq, Nat.add_zero, dS_addAimed_0, dS_addAimed_1, dS_addAimed_2, dS_addAimed_5, dS_addAimed_7, dS_addAimed_8, dS_addAimed_9, dS_addAimed_12, dS_addAimed_14, dS_addAimed_16, dS_addAimed_19, dS_addAimed_21, dS_addAimed_24, dS_addAimed_25, dS_addAimed_26, dS_addAimed_27, dS_addAimed_30, dS_addAimed_31, dS_addAimed_32, dS_addAimed_34, dS_addAimed_36, dS_addAimed_38, dS_addAimed_40, dS_addAimed_43, dS_addAimed_46, xe_3_15, xg_3_15]
    unfold oAimed
    rw [if_pos ⟨hq, isP_iff.mpr hx, isL_iff.mpr hy⟩]
    exact ⟨rfl, ⟨_, _, _, _, g4⟩, hF⟩
  · obtain ⟨rfl, rfl⟩ := g2 hq
    refine xrun_ok hV [40] 20 _ _ _ _ _ _ ?_
    simp (maxDischargeDepth := 60) only [xrun, xisc, ↓xstep, xget, xtgt, xcmp, xacmp, xprev, xisR, xnt, List.set, List.length, xsw, xlk, true_or, or_true, if_true, if_false, true_and, and_true, List.mem_cons, List.not_mem_nil, or_false, false_or, Bool.false_eq_true, reduceCtorEq, not_false_eq_true, forall_const, Nat.zero_add, Nat.reduceAdd, Nat.reduceSub, Int.reduceAdd, Int.reduceNeg, Int.reduceToNat, Nat.reduceEqDiff, Nat.reduceLT, Nat.reduceLeDiff, Int.reduceLE, Int.reduceLT, reduceIte, Int.cast_ofNat_Int, Int.natCast_zero, Int.natCast_one, Int.reduceAdd, eq_self, Int.reduceSub, List.length_cons, List.length_nil, xli_m1, xli_0, xli_1, xli_2, xli_3, xli_4, xli_5, xlb_8, xlb_12, xlb_31, xlb_32, xlb_64, xls_256, xls_513, xls_2048, xls_4096, xll_0, xll_1, xnr_i, xnr_0, xnr_1, xnr_ite, xft_i, xft_0, xft_1, xat_999, xat_1001, xat_1002, xat_1003, xat_2001, xat_2002, xat_2003, List.getElem?_cons_succ, List.getElem?_cons_zero, xfn_0, xfn_1, xfn_2, xfn_3, x10, x01, not_true_eq_false, false_implies, implies_true, true_implies, xrm_c, xrm_s, xnl_4, xnl_32, xnl_64, xnl_256, xtn_4, xtn_32, xtn_64, xtn_256, Option.some.injEq, Sum.inl.injEq, Sum.inr.injEq, exists_eq_left', exists_eq_right, Option.toList_some, Option.toList_none, List.cons_append, List.nil_append, xE, lg_cmp_ge, lg_cmp_le, lg_cmp_gt, lg_cmp_lt, lg_cmp_eq, Nat.le_refl, Nat.zero_le, ne_eq, Nat.add_zero, dS_addAimed_0, dS_addAimed_1, dS_addAimed_2, dS_addAimed_5, dS_addAimed_7, dS_addAimed_8, dS_addAimed_9, dS_addAimed_12, dS_addAimed_14, dS_addAimed_16, dS_addAimed_19, dS_addAimed_21, dS_addAimed_24, dS_addAimed_25, dS_addAimed_26, dS_addAimed_27, dS_addAimed_30, dS_addAimed_31, dS_addAimed_32, dS_addAimed_34, dS_addAimed_36, dS_addAimed_38, dS_addAimed_40, dS_addAimed_43, dS_addAimed_46, xe_3_15, xg_3_15]
    unfold oAimed
    rw [if_neg (fun q => hq q.1)]
    exact ⟨rfl, ⟨_, _, _, _, h2⟩, hF⟩
set_option maxHeartbeats 4000000 in
set_option maxRecDepth 100000 in
theorem c_call (h : rCx S th M) {t : Nat} (ht : t ≤ 1) (x y c : Int32) : xMet l D n0 mS_call 1 13 [.inr (.inr (some th)), .inl x, .inl y, .inl c, .inl (nI t)] S (oC S th (oAimed M 1 x y c t)) := by
  have h1 : xc S th = 4 := by obtain ⟨_, _, _, _, h⟩ := h; exact h.th
  refine xMet.of (k := mS_call) (own := 3) (ini := false) xm_S_call (by decide +kernel) (by decide +kernel) (by decide) (Nat.le_of_ble_eq_true rfl) ?_
  intro V hV
  show V 0 [some (.inr (.inr (some th))), some (.inl x), some (.inl y), some (.inl c), some (.inl (nI t))] [] S 0 0
  refine xrun_ok hV [] 20 _ _ _ _ _ _ ?_
  simp (maxDischargeDepth := 60) only [xrun, xisc, ↓xstep, xget, xtgt, xcmp, xacmp, xprev, xisR, xnt, List.set, List.length, xsw, xlk, true_or, or_true, if_true, if_false, true_and, and_true, List.mem_cons, List.not_mem_nil, or_false, false_or, Bool.false_eq_true, reduceCtorEq, not_false_eq_true, forall_const, Nat.zero_add, Nat.reduceAdd, Nat.reduceSub, Int.reduceAdd, Int.reduceNeg, Int.reduceToNat, Nat.reduceEqDiff, Nat.reduceLT, Nat.reduceLeDiff, Int.reduceLE, Int.reduceLT, reduceIte, Int.cast_ofNat_Int, Int.natCast_zero, Int.natCast_one, Int.reduceAdd, eq_self, Int.reduceSub, List.length_cons, List.length_nil, xli_m1, xli_0, xli_1, xli_2, xli_3, xli_4, xli_5, xlb_8, xlb_12, xlb_31, xlb_32, xlb_64, xls_256, xls_513, xls_2048, xls_4096, xll_0, xll_1, xnr_i, xnr_0, xnr_1, xnr_ite, xft_i, xft_0, xft_1, xat_999, xat_1001, xat_1002, xat_1003, xat_2001, xat_2002, xat_2003, List.getElem?_cons_succ, List.getElem?_cons_zero, xfn_0, xfn_1, xfn_2, xfn_3, x10, x01, not_true_eq_false, false_implies, implies_true, true_implies, xrm_c, xrm_s, xnl_4, xnl_32, xnl_64, xnl_256, xtn_4, xtn_32, xtn_64, xtn_256, Option.some.injEq, Sum.inl.injEq, Sum.inr.injEq, exists_eq_left', exists_eq_right, Option.toList_some, Option.toList_none, List.cons_append, List.nil_append, xE, lg_cmp_ge, lg_cmp_le, lg_cmp_gt, lg_cmp_lt, lg_cmp_eq, Nat.le_refl, Nat.zero_le, ne_eq, Nat.add_zero, dS_call_0, dS_call_1, dS_call_2, dS_call_3, dS_call_4, dS_call_5, dS_call_7, dS_call_10]
  refine hV.call [] (As := [.inr (.inr (some th)), .inl (nI 1), .inl x, .inl y, .inl c, .inl (nI t)]) xh_3_68 dS_call_7 (c_addAimed h (by decide) ht (fun q => absurd q (by decide)) x y c) (Or.inr ⟨_, _, rfl, fun _ => h1⟩) rfl rfl (by decide) (by decide) (by decide) ?_
  rintro r S' ⟨rfl, g1, g2⟩
  refine xrun_ok hV [] 20 _ _ _ _ _ _ ?_
  simp (maxDischargeDepth := 60) only [xrun, xisc, ↓xstep, xget, xtgt, xcmp, xacmp, xprev, xisR, xnt, List.set, List.length, xsw, xlk, true_or, or_true, if_true, if_false, true_and, and_true, List.mem_cons, List.not_mem_nil, or_false, false_or, Bool.false_eq_true, reduceCtorEq, not_false_eq_true, forall_const, Nat.zero_add, Nat.reduceAdd, Nat.reduceSub, Int.reduceAdd, Int.reduceNeg, Int.reduceToNat, Nat.reduceEqDiff, Nat.reduceLT, Nat.reduceLeDiff, Int.reduceLE, Int.reduceLT, reduceIte, Int.cast_ofNat_Int, Int.natCast_zero, Int.natCast_one, Int.reduceAdd, eq_self, Int.reduceSub, List.length_cons, List.length_nil, xli_m1, xli_0, xli_1, xli_2, xli_3, xli_4, xli_5, xlb_8, xlb_12, xlb_31, xlb_32, xlb_64, xls_256, xls_513, xls_2048, xls_4096, xll_0, xll_1, xnr_i, xnr_0, xnr_1, xnr_ite, xft_i, xft_0, xft_1, xat_999, xat_1001, xat_1002, xat_1003, xat_2001, xat_2002, xat_2003, List.getElem?_cons_succ, List.getElem?_cons_zero, xfn_0, xfn_1, xfn_2, xfn_3, x10, x01, not_true_eq_false, false_implies, implies_true, true_implies, xrm_c, xrm_s, xnl_4, xnl_32, xnl_64, xnl_256, xtn_4, xtn_32, xtn_64, xtn_256, Option.some.injEq, Sum.inl.injEq, Sum.inr.injEq, exists_eq_left', exists_eq_right, Option.toList_some, Option.toList_none, List.cons_append, List.nil_append, xE, lg_cmp_ge, lg_cmp_le, lg_cmp_gt, lg_cmp_lt, lg_cmp_eq, Nat.le_refl, Nat.zero_le, ne_eq, Nat.add_zero, dS_call_0, dS_call_1, dS_call_2, dS_call_3, dS_call_4, dS_call_5, dS_call_7, dS_call_10]
  exact ⟨rfl, g1, g2⟩
set_option maxHeartbeats 4000000 in
set_option maxRecDepth 100000 in
theorem c_upper (h : rCx S th M) {t : Nat} (ht : t ≤ 1) (x y c : Int32) : xMet l D n0 mS_upper 1 13 [.inr (.inr (some th)), .inl x, .inl y, .inl c, .inl (nI t)] S (oC S th (oAimed M 2 x y c t)) := by
  have h1 : xc S th = 4 := by obtain ⟨_, _, _, _, h⟩ := h; exact h.th
  refine xMet.of (k := mS_upper) (own := 3) (ini := false) xm_S_upper (by decide +kernel) (by decide +kernel) (by decide) (Nat.le_of_ble_eq_true rfl) ?_
  intro V hV
  show V 0 [some (.inr (.inr (some th))), some (.inl x), some (.inl y), some (.inl c), some (.inl (nI t))] [] S 0 0
  refine xrun_ok hV [] 20 _ _ _ _ _ _ ?_
  simp (maxDischargeDepth := 60) only [xrun, xisc, ↓xstep, xget, xtgt, xcmp, xacmp, xprev, xisR, xnt, List.set, List.length, xsw, xlk, true_or, or_true, if_true, if_false, true_and, and_true, List.mem_cons, List.not_mem_nil, or_false, false_or, Bool.false_eq_true, reduceCtorEq, not_false_eq_true, forall_const, Nat.zero_add, Nat.reduceAdd, Nat.reduceSub, Int.reduceAdd, Int.reduceNeg, Int.reduceToNat, Nat.reduceEqDiff, Nat.reduceLT, Nat.reduceLeDiff, Int.reduceLE, Int.reduceLT, reduceIte, Int.cast_ofNat_Int, Int.natCast_zero, Int.natCast_one, Int.reduceAdd, eq_self, Int.reduceSub, List.length_cons, List.length_nil, xli_m1, xli_0, xli_1, xli_2, xli_3, xli_4, xli_5, xlb_8, xlb_12, xlb_31, xlb_32, xlb_64, xls_256, xls_513, xls_2048, xls_4096, xll_0, xll_1, xnr_i, xnr_0, xnr_1, xnr_ite, xft_i, xft_0, xft_1, xat_999, xat_1001, xat_1002, xat_1003, xat_2001, xat_2002, xat_2003, List.getElem?_cons_succ, List.getElem?_cons_zero, xfn_0, xfn_1, xfn_2, xfn_3, x10, x01, not_true_eq_false, false_implies, implies_true, true_implies, xrm_c, xrm_s, xnl_4, xnl_32, xnl_64, xnl_256, xtn_4, xtn_32, xtn_64, xtn_256, Option.some.injEq, Sum.inl.injEq, Sum.inr.injEq, exists_eq_left', exists_eq_right, Option.toList_some, Option.toList_none, List.cons_append, List.nil_append, xE, lg_cmp_ge, lg_cmp_le, lg_cmp_gt, lg_cmp_lt, lg_cmp_eq, Nat.le_refl, Nat.zero_le, ne_eq, Nat.add_zero, dS_upper_0, dS_upper_1, dS_upper_2, dS_upper_3, dS_upper_4, dS_upper_5, dS_upper_7, dS_upper_10]
  refine hV.call [] (As := [.inr (.inr (some th)), .inl (nI 2), .inl x, .inl y, .inl c, .inl (nI t)]) xh_3_68 dS_upper_7 (c_addAimed h (by decide) ht (fun q => absurd q (by decide)) x y c) (Or.inr ⟨_, _, rfl, fun _ => h1⟩) rfl rfl (by decide) (by decide) (by decide) ?_
  rintro r S' ⟨rfl, g1, g2⟩
  refine xrun_ok hV [] 20 _ _ _ _ _ _ ?_
  simp (maxDischargeDepth := 60) only [xrun, xisc, ↓xstep, xget, xtgt, xcmp, xacmp, xprev, xisR, xnt, List.set, List.length, xsw, xlk, true_or, or_true, if_true, if_false, true_and, and_true, List.mem_cons, List.not_mem_nil, or_false, false_or, Bool.false_eq_true, reduceCtorEq, not_false_eq_true, forall_const, Nat.zero_add, Nat.reduceAdd, Nat.reduceSub, Int.reduceAdd, Int.reduceNeg, Int.reduceToNat, Nat.reduceEqDiff, Nat.reduceLT, Nat.reduceLeDiff, Int.reduceLE, Int.reduceLT, reduceIte, Int.cast_ofNat_Int, Int.natCast_zero, Int.natCast_one, Int.reduceAdd, eq_self, Int.reduceSub, List.length_cons, List.length_nil, xli_m1, xli_0, xli_1, xli_2, xli_3, xli_4, xli_5, xlb_8, xlb_12, xlb_31, xlb_32, xlb_64, xls_256, xls_513, xls_2048, xls_4096, xll_0, xll_1, xnr_i, xnr_0, xnr_1, xnr_ite, xft_i, xft_0, xft_1, xat_999, xat_1001, xat_1002, xat_1003, xat_2001, xat_2002, xat_2003, List.getElem?_cons_succ, List.getElem?_cons_zero, xfn_0, xfn_1, xfn_2, xfn_3, x10, x01, not_true_eq_false, false_implies, implies_true, true_implies, xrm_c, xrm_s, xnl_4, xnl_32, xnl_64, xnl_256, xtn_4, xtn_32, xtn_64, xtn_256, Option.some.injEq, Sum.inl.injEq, Sum.inr.injEq, exists_eq_left', exists_eq_right, Option.toList_some, Option.toList_none, List.cons_append, List.nil_append, xE, lg_cmp_ge, lg_cmp_le, lg_cmp_gt, lg_cmp_lt, lg_cmp_eq, Nat.le_refl, Nat.zero_le, ne_eq, Nat.add_zero, dS_upper_0, dS_upper_1, dS_upper_2, dS_upper_3, dS_upper_4, dS_upper_5, dS_upper_7, dS_upper_10]
  exact ⟨rfl, g1, g2⟩
set_option maxHeartbeats 4000000 in
set_option maxRecDepth 100000 in
theorem c_near (h : rCx S th M) (x y c : Int32) : xMet l D n0 mS_near 1 13 [.inr (.inr (some th)), .inl x, .inl y, .inl c] S (oC S th (oAimed M 3 x y c 0)) := by
  have h1 : xc S th = 4 := by obtain ⟨_, _, _, _, h⟩ := h; exact h.th
  refine xMet.of (k := mS_near) (own := 3) (ini := false) xm_S_near (by decide +kernel) (by decide +kernel) (by decide) (Nat.le_of_ble_eq_true rfl) ?_
  intro V hV
  show V 0 [some (.inr (.inr (some th))), some (.inl x), some (.inl y), some (.inl c)] [] S 0 0
  refine xrun_ok hV [] 20 _ _ _ _ _ _ ?_
  simp (maxDischargeDepth := 60) only [xrun, xisc, ↓xstep, xget, xtgt, xcmp, xacmp, xprev, xisR, xnt, List.set, List.length, xsw, xlk, true_or, or_true, if_true, if_false, true_and, and_true, List.mem_cons, List.not_mem_nil, or_false, false_or, Bool.false_eq_true, reduceCtorEq, not_false_eq_true, forall_const, Nat.zero_add, Nat.reduceAdd, Nat.reduceSub, Int.reduceAdd, Int.reduceNeg, Int.reduceToNat, Nat.reduceEqDiff, Nat.reduceLT, Nat.reduceLeDiff, Int.reduceLE, Int.reduceLT, reduceIte, Int.cast_ofNat_Int, Int.natCast_zero, Int.natCast_one, Int.reduceAdd, eq_self, Int.reduceSub, List.length_cons, List.length_nil, xli_m1, xli_0, xli_1, xli_2, xli_3, xli_4, xli_5, xlb_8, xlb_12, xlb_31, xlb_32, xlb_64, xls_256, xls_513, xls_2048, xls_4096, xll_0, xll_1, xnr_i, xnr_0, xnr_1, xnr_ite, xft_i, xft_0, xft_1, xat_999, xat_1001, xat_1002, xat_1003, xat_2001, xat_2002, xat_2003, List.getElem?_cons_succ, List.getElem?_cons_zero, xfn_0, xfn_1, xfn_2, xfn_3, x10, x01, not_true_eq_false, false_implies, implies_true, true_implies, xrm_c, xrm_s, xnl_4, xnl_32, xnl_64, xnl_256, xtn_4, xtn_32, xtn_64, xtn_256, Option.some.injEq, Sum.inl.injEq, Sum.inr.injEq, exists_eq_left', exists_eq_right, Option.toList_some, Option.toList_none, List.cons_append, List.nil_append, xE, lg_cmp_ge, lg_cmp_le, lg_cmp_gt, lg_cmp_lt, lg_cmp_eq, Nat.le_refl, Nat.zero_le, ne_eq, Nat.add_zero, dS_near_0, dS_near_1, dS_near_2, dS_near_3, dS_near_4, dS_near_5, dS_near_6, dS_near_9]
  refine hV.call [] (As := [.inr (.inr (some th)), .inl (nI 3), .inl x, .inl y, .inl c, .inl (nI 0)]) xh_3_68 dS_near_6 (c_addAimed h (by decide) (by decide) (by decide) x y c) (Or.inr ⟨_, _, rfl, fun _ => h1⟩) rfl rfl (by decide) (by decide) (by decide) ?_
  rintro r S' ⟨rfl, g1, g2⟩
  refine xrun_ok hV [] 20 _ _ _ _ _ _ ?_
  simp (maxDischargeDepth := 60) only [xrun, xisc, ↓xstep, xget, xtgt, xcmp, xacmp, xprev, xisR, xnt, List.set, List.length, xsw, xlk, true_or, or_true, if_true, if_false, true_and, and_true, List.mem_cons, List.not_mem_nil, or_false, false_or, Bool.false_eq_true, reduceCtorEq, not_false_eq_true, forall_const, Nat.zero_add, Nat.reduceAdd, Nat.reduceSub, Int.reduceAdd, Int.reduceNeg, Int.reduceToNat, Nat.reduceEqDiff, Nat.reduceLT, Nat.reduceLeDiff, Int.reduceLE, Int.reduceLT, reduceIte, Int.cast_ofNat_Int, Int.natCast_zero, Int.natCast_one, Int.reduceAdd, eq_self, Int.reduceSub, List.length_cons, List.length_nil, xli_m1, xli_0, xli_1, xli_2, xli_3, xli_4, xli_5, xlb_8, xlb_12, xlb_31, xlb_32, xlb_64, xls_256, xls_513, xls_2048, xls_4096, xll_0, xll_1, xnr_i, xnr_0, xnr_1, xnr_ite, xft_i, xft_0, xft_1, xat_999, xat_1001, xat_1002, xat_1003, xat_2001, xat_2002, xat_2003, List.getElem?_cons_succ, List.getElem?_cons_zero, xfn_0, xfn_1, xfn_2, xfn_3, x10, x01, not_true_eq_false, false_implies, implies_true, true_implies, xrm_c, xrm_s, xnl_4, xnl_32, xnl_64, xnl_256, xtn_4, xtn_32, xtn_64, xtn_256, Option.some.injEq, Sum.inl.injEq, Sum.inr.injEq, exists_eq_left', exists_eq_right, Option.toList_some, Option.toList_none, List.cons_append, List.nil_append, xE, lg_cmp_ge, lg_cmp_le, lg_cmp_gt, lg_cmp_lt, lg_cmp_eq, Nat.le_refl, Nat.zero_le, ne_eq, Nat.add_zero, dS_near_0, dS_near_1, dS_near_2, dS_near_3, dS_near_4, dS_near_5, dS_near_6, dS_near_9]
  exact ⟨rfl, g1, g2⟩
theorem mput_f (M : mT) (j k a f i : Nat) (h : f ≠ 26 ∧ f ≠ 27) : mset (mset M 26 j k) 27 j a f i = M f i := by
  simp [mset_eq, h.1, h.2]
theorem mput_o (M : mT) (j k a f i : Nat) (h : i ≠ j) : mset (mset M 26 j k) 27 j a f i = M f i := by
  simp [mset_eq, h]
theorem mput_26 (M : mT) (j k a : Nat) : mset (mset M 26 j k) 27 j a 26 j = k := by simp [mset_eq]
theorem mput_27 (M : mT) (j k a : Nat) : mset (mset M 26 j k) 27 j a 27 j = a := by simp [mset_eq]
theorem mWF_put {M : mT} (h : mWF M) {j k a : Nat} (hk : k < M 12 0) (ha : a ≤ if M 13 k = 0 then M 16 k else 1) : mWF (mset (mset M 26 j (k + 1)) 27 j a) := by
  obtain ⟨w1, w5, w6, w7, w8, w9, w10, w11⟩ := h
  refine ⟨w1, w5, w6, w7, w8, w9, w10, fun q hq => ?_⟩
  have e := fun f i h => mput_f M j (k + 1) a f i h
  rw [e 12 0 (by decide)]
  by_cases z : q = j
  · subst z
    rw [mput_26, mput_27, e 13 _ (by decide), e 16 _ (by decide), Nat.add_sub_cancel]
    exact ⟨by omega, fun _ => ha⟩
  · rw [mput_o _ _ _ _ _ _ z, mput_o _ _ _ _ _ _ z, e 13 _ (by decide), e 16 _ (by decide)]
    exact w11 q (by rw [e 25 0 (by decide)] at hq; exact hq)
theorem rC_put {ar pa qa la : Nat → Nat} (h : rC S th ar pa qa la M) {j k a : Nat} (hj : j < M 25 0) (hk : k < M 12 0) (ha : a ≤ if M 13 k = 0 then M 16 k else 1) : rC (xpi (xpr S (la j) 0 (some (qa k))) (la j) 1 (nI a)) th ar pa qa la (mset (mset M 26 j (k + 1)) 27 j a) := by
  have h0 := h
  have h3 : xc S (la j) = 1 := (h.2.2.2.2.2.1 j hj).1.1
  have hs : ∀ b, b ≠ la j → xSame S (xpi (xpr S (la j) 0 (some (qa k))) (la j) 1 (nI a)) b := by
    intro b hb
    refine ⟨rfl, rfl, fun q => ?_, fun q => ?_⟩
    · rw [xi_pi, if_neg (fun z => hb z.1)]; rfl
    · rw [xr_pi, xr_pr, if_neg (fun z => hb z.1)]
  have v0 : xr (xpi (xpr S (la j) 0 (some (qa k))) (la j) 1 (nI a)) (la j) 0 = some (qa k) := by rw [xr_pi, xr_pr, if_pos ⟨rfl, rfl⟩]
  have v1 : xi (xpi (xpr S (la j) 0 (some (qa k))) (la j) 1 (nI a)) (la j) 1 = nI a := by rw [xi_pi, if_pos ⟨rfl, rfl⟩]
  have v2 : xc (xpi (xpr S (la j) 0 (some (qa k))) (la j) 1 (nI a)) (la j) = 1 := h3
  have hn : xn (xpi (xpr S (la j) 0 (some (qa k))) (la j) 1 (nI a)) = xn S := rfl
  have hcc : ∀ b, xc (xpi (xpr S (la j) 0 (some (qa k))) (la j) 1 (nI a)) b = xc S b ∧ xl (xpi (xpr S (la j) 0 (some (qa k))) (la j) 1 (nI a)) b = xl S b := fun b => ⟨rfl, rfl⟩
  generalize xpi (xpr S (la j) 0 (some (qa k))) (la j) 1 (nI a) = S' at hs v0 v1 v2 hn hcc ⊢
  have e := fun f i h => mput_f M j (k + 1) a f i h
  obtain ⟨hW, hT, hA, hP, hQ, hB, i1, i2, i3⟩ := h
  obtain ⟨⟨t1, t2⟩, t3, ⟨c0, c1, c2, c3, c4, c5⟩, t4, t5, ⟨t6, t7, t8, t9⟩, t10⟩ := hT
  have st := hs th (xne t1 h3 (by decide))
  have s0 := hs _ (xne c0 h3 (by decide))
  have s1 := hs _ (xne c1 h3 (by decide))
  have s2 := hs _ (xne c2 h3 (by decide))
  have s3 := hs _ (xne c3 h3 (by decide))
  refine ⟨mWF_put hW hk ha, ⟨⟨(hcc _).1.trans t1, by omega⟩, fun f hf => ⟨(st.2.2.2 f).trans (t3 f hf).1, by have := (t3 f hf).2; omega⟩, ?_, ?_, t5, ⟨(st.2.2.1 6).trans t6, (st.2.2.1 7).trans t7, (st.2.2.1 8).trans t8, (st.2.2.1 9).trans t9⟩, fun o ho => (s3.2.2.1 o).trans (t10 o ho)⟩, ⟨fun p hp => (s0.2.2.2 p).trans (hA.1 p hp), fun p hp => (s1.2.2.2 p).trans (hA.2.1 p hp), fun p hp => (s2.2.2.2 p).trans (hA.2.2 p hp)⟩, fun p hp => ?_, fun q hq => ?_, fun q hq => ?_, i1, i2, i3⟩
  · simp only [(hcc _).1]; exact ⟨c0, c1, c2, c3, c4, c5⟩
  · simp only [(hcc _).2]; exact t4
  · exact ((hP p hp).same (by omega) (hs _ (h0.nP hp h3 (by decide)))).to rfl (fun _ _ => rfl) rfl (fun _ _ => rfl) ⟨rfl, rfl, rfl, rfl⟩
  · exact ((hQ q hq).same (by omega) (hs _ (h0.nQ hq h3 (by decide)))).to hq rfl (fun _ _ => rfl) (fun _ => rfl) rfl (fun _ _ => rfl) ⟨rfl, fun _ => rfl, rfl, rfl, rfl, rfl, rfl, rfl⟩
  · by_cases z : q = j
    · subst z
      unfold rB
      rw [mput_26, mput_27, if_neg (by omega), Nat.add_sub_cancel]
      exact ⟨⟨v2, by have := (hB q hq).1.2; omega⟩, v0, v1⟩
    · exact ((hB q hq).same (by omega) (hs _ (fun y => z (i3 q j hq hj y)))).to rfl (mput_o _ _ _ _ _ _ z) (mput_o _ _ _ _ _ _ z) (fun _ => rfl)
set_option maxHeartbeats 4000000 in
set_option maxRecDepth 100000 in
theorem c_put (h : rCx S th M) (y x a : Int32) : xMet l D n0 mS_put 0 0 [.inr (.inr (some th)), .inl y, .inl x, .inl a] S (oC S th (oPut M y x a)) := by
  obtain ⟨ar, pa, qa, la, h⟩ := h
  refine xMet.of (k := mS_put) (own := 3) (ini := false) xm_S_put (by decide +kernel) (by decide +kernel) (by decide) (Nat.le_of_ble_eq_true rfl) ?_
  intro V hV
  show V 0 [some (.inr (.inr (some th))), some (.inl y), some (.inl x), some (.inl a), none, none, none] [] S 0 0
  have h1 := h.th
  refine xrun_ok hV [] 20 _ _ _ _ _ _ ?_
  simp (maxDischargeDepth := 60) only [xrun, xisc, ↓xstep, xget, xtgt, xcmp, xacmp, xprev, xisR, xnt, List.set, List.length, xsw, xlk, true_or, or_true, if_true, if_false, true_and, and_true, List.mem_cons, List.not_mem_nil, or_false, false_or, Bool.false_eq_true, reduceCtorEq, not_false_eq_true, forall_const, Nat.zero_add, Nat.reduceAdd, Nat.reduceSub, Int.reduceAdd, Int.reduceNeg, Int.reduceToNat, Nat.reduceEqDiff, Nat.reduceLT, Nat.reduceLeDiff, Int.reduceLE, Int.reduceLT, reduceIte, Int.cast_ofNat_Int, Int.natCast_zero, Int.natCast_one, Int.reduceAdd, eq_self, Int.reduceSub, List.length_cons, List.length_nil, xli_m1, xli_0, xli_1, xli_2, xli_3, xli_4, xli_5, xlb_8, xlb_12, xlb_31, xlb_32, xlb_64, xls_256, xls_513, xls_2048, xls_4096, xll_0, xll_1, xnr_i, xnr_0, xnr_1, xnr_ite, xft_i, xft_0, xft_1, xat_999, xat_1001, xat_1002, xat_1003, xat_2001, xat_2002, xat_2003, List.getElem?_cons_succ, List.getElem?_cons_zero, xfn_0, xfn_1, xfn_2, xfn_3, x10, x01, not_true_eq_false, false_implies, implies_true, true_implies, xrm_c, xrm_s, xnl_4, xnl_32, xnl_64, xnl_256, xtn_4, xtn_32, xtn_64, xtn_256, Option.some.injEq, Sum.inl.injEq, Sum.inr.injEq, exists_eq_left', exists_eq_right, Option.toList_some, Option.toList_none, List.cons_append, List.nil_append, xE, lg_cmp_ge, lg_cmp_le, lg_cmp_gt, lg_cmp_lt, lg_cmp_eq, Nat.le_refl, Nat.zero_le, ne_eq, Nat.add_zero, dS_put_0, dS_put_1, dS_put_2, dS_put_5, dS_put_7, dS_put_8, dS_put_9, dS_put_12, dS_put_14, dS_put_16, dS_put_19, dS_put_21, dS_put_24, dS_put_25, dS_put_26, dS_put_28, dS_put_31, dS_put_34, dS_put_36, dS_put_39, dS_put_42, dS_put_43, dS_put_45, dS_put_46, dS_put_47, dS_put_48, dS_put_50, dS_put_51, dS_put_54, dS_put_57, dS_put_58, dS_put_59, dS_put_61, dS_put_63, dS_put_66, dS_put_68, dS_put_69, dS_put_72, dS_put_73, xf_3_86, xf_3_89, xf_3_92, xf_3_96]
  refine hV.call [] xh_3_78 dS_put_2 (c_labelAt h y) (Or.inr ⟨_, _, rfl, fun _ => h1⟩) rfl rfl (by decide) (by decide) (by decide) ?_
  rintro r S' ⟨rfl, rfl⟩
  refine xrun_ok hV [] 20 _ _ _ _ _ _ ?_
  simp (maxDischargeDepth := 60) only [xrun, xisc, ↓xstep, xget, xtgt, xcmp, xacmp, xprev, xisR, xnt, List.set, List.length, xsw, xlk, true_or, or_true, if_true, if_false, true_and, and_true, List.mem_cons, List.not_mem_nil, or_false, false_or, Bool.false_eq_true, reduceCtorEq, not_false_eq_true, forall_const, Nat.zero_add, Nat.reduceAdd, Nat.reduceSub, Int.reduceAdd, Int.reduceNeg, Int.reduceToNat, Nat.reduceEqDiff, Nat.reduceLT, Nat.reduceLeDiff, Int.reduceLE, Int.reduceLT, reduceIte, Int.cast_ofNat_Int, Int.natCast_zero, Int.natCast_one, Int.reduceAdd, eq_self, Int.reduceSub, List.length_cons, List.length_nil, xli_m1, xli_0, xli_1, xli_2, xli_3, xli_4, xli_5, xlb_8, xlb_12, xlb_31, xlb_32, xlb_64, xls_256, xls_513, xls_2048, xls_4096, xll_0, xll_1, xnr_i, xnr_0, xnr_1, xnr_ite, xft_i, xft_0, xft_1, xat_999, xat_1001, xat_1002, xat_1003, xat_2001, xat_2002, xat_2003, List.getElem?_cons_succ, List.getElem?_cons_zero, xfn_0, xfn_1, xfn_2, xfn_3, x10, x01, not_true_eq_false, false_implies, implies_true, true_implies, xrm_c, xrm_s, xnl_4, xnl_32, xnl_64, xnl_256, xtn_4, xtn_32, xtn_64, xtn_256, Option.some.injEq, Sum.inl.injEq, Sum.inr.injEq, exists_eq_left', exists_eq_right, Option.toList_some, Option.toList_none, List.cons_append, List.nil_append, xE, lg_cmp_ge, lg_cmp_le, lg_cmp_gt, lg_cmp_lt, lg_cmp_eq, Nat.le_refl, Nat.zero_le, ne_eq, Nat.add_zero, dS_put_0, dS_put_1, dS_put_2, dS_put_5, dS_put_7, dS_put_8, dS_put_9, dS_put_12, dS_put_14, dS_put_16, dS_put_19, dS_put_21, dS_put_24, dS_put_25, dS_put_26, dS_put_28, dS_put_31, dS_put_34, dS_put_36, dS_put_39, dS_put_42, dS_put_43, dS_put_45, dS_put_46, dS_put_47, dS_put_48, dS_put_50, dS_put_51, dS_put_54, dS_put_57, dS_put_58, dS_put_59, dS_put_61, dS_put_63, dS_put_66, dS_put_68, dS_put_69, dS_put_72, dS_put_73, xf_3_86, xf_3_89, xf_3_92, xf_3_96]
  refine hV.call [] xh_3_82 dS_put_9 (c_pieceAt h x) (Or.inr ⟨_, _, rfl, fun _ => h1⟩) rfl rfl (by decide) (by decide) (by decide) ?_
  rintro r S' ⟨rfl, rfl⟩
  by_cases hy : 0 ≤ y.toInt ∧ y.toInt < M 25 0
  case neg =>
    rw [if_neg hy]
    refine xrun_ok hV [] 20 _ _ _ _ _ _ ?_
    simp (maxDischargeDepth := 60) only [xrun, xisc, ↓xstep, xget, xtgt, xcmp, xacmp, xprev, xisR, xnt, List.set, List.length, xsw, xlk, true_or, or_true, if_true, if_false, true_and, and_true, List.mem_cons, List.not_mem_nil, or_false, false_or, Bool.false_eq_true, reduceCtorEq, not_false_eq_true, forall_const, Nat.zero_add, Nat.reduceAdd, Nat.reduceSub, Int.reduceAdd, Int.reduceNeg, Int.reduceToNat, Nat.reduceEqDiff, Nat.reduceLT, Nat.reduceLeDiff, Int.reduceLE, Int.reduceLT, reduceIte, Int.cast_ofNat_Int, Int.natCast_zero, Int.natCast_one, Int.reduceAdd, eq_self, Int.reduceSub, List.length_cons, List.length_nil, xli_m1, xli_0, xli_1, xli_2, xli_3, xli_4, xli_5, xlb_8, xlb_12, xlb_31, xlb_32, xlb_64, xls_256, xls_513, xls_2048, xls_4096, xll_0, xll_1, xnr_i, xnr_0, xnr_1, xnr_ite, xft_i, xft_0, xft_1, xat_999, xat_1001, xat_1002, xat_1003, xat_2001, xat_2002, xat_2003, List.getElem?_cons_succ, List.getElem?_cons_zero, xfn_0, xfn_1, xfn_2, xfn_3, x10, x01, not_true_eq_false, false_implies, implies_true, true_implies, xrm_c, xrm_s, xnl_4, xnl_32, xnl_64, xnl_256, xtn_4, xtn_32, xtn_64, xtn_256, Option.some.injEq, Sum.inl.injEq, Sum.inr.injEq, exists_eq_left', exists_eq_right, Option.toList_some, Option.toList_none, List.cons_append, List.nil_append, xE, lg_cmp_ge, lg_cmp_le, lg_cmp_gt, lg_cmp_lt, lg_cmp_eq, Nat.le_refl, Nat.zero_le, ne_eq, Nat.add_zero, dS_put_0, dS_put_1, dS_put_2, dS_put_5, dS_put_7, dS_put_8, dS_put_9, dS_put_12, dS_put_14, dS_put_16, dS_put_19, dS_put_21, dS_put_24, dS_put_25, dS_put_26, dS_put_28, dS_put_31, dS_put_34, dS_put_36, dS_put_39, dS_put_42, dS_put_43, dS_put_45, dS_put_46, dS_put_47, dS_put_48, dS_put_50, dS_put_51, dS_put_54, dS_put_57, dS_put_58, dS_put_59, dS_put_61, dS_put_63, dS_put_66, dS_put_68, dS_put_69, dS_put_72, dS_put_73, xf_3_86, xf_3_89, xf_3_92, xf_3_96]
    unfold oPut
    rw [if_neg (fun q => hy (isL_iff.mp q.1))]
    exact ⟨rfl, ⟨ar, pa, qa, la, h⟩, xFr.rf _ _⟩
  rw [if_pos hy]
  by_cases hx : 0 ≤ x.toInt ∧ x.toInt < M 12 0
  case neg =>
    rw [if_neg hx]
    refine xrun_ok hV [] 20 _ _ _ _ _ _ ?_
    simp (maxDischargeDepth := 60) only [xrun, xisc, ↓xstep, xget, xtgt, xcmp, xacmp, xprev, xisR, xnt, List.set, List.length, xsw, xlk, true_or, or_true, if_true, if_false, true_and, and_true, List.mem_cons, List.not_mem_nil, or_false, false_or, Bool.false_eq_true, reduceCtorEq, not_false_eq_true, forall_const, Nat.zero_add, Nat.reduceAdd, Nat.reduceSub, Int.reduceAdd, Int.reduceNeg, Int.reduceToNat, Nat.reduceEqDiff, Nat.reduceLT, Nat.reduceLeDiff, Int.reduceLE, Int.reduceLT, reduceIte, Int.cast_ofNat_Int, Int.natCast_zero, Int.natCast_one, Int.reduceAdd, eq_self, Int.reduceSub, List.length_cons, List.length_nil, xli_m1, xli_0, xli_1, xli_2, xli_3, xli_4, xli_5, xlb_8, xlb_12, xlb_31, xlb_32, xlb_64, xls_256, xls_513, xls_2048, xls_4096, xll_0, xll_1, xnr_i, xnr_0, xnr_1, xnr_ite, xft_i, xft_0, xft_1, xat_999, xat_1001, xat_1002, xat_1003, xat_2001, xat_2002, xat_2003, List.getElem?_cons_succ, List.getElem?_cons_zero, xfn_0, xfn_1, xfn_2, xfn_3, x10, x01, not_true_eq_false, false_implies, implies_true, true_implies, xrm_c, xrm_s, xnl_4, xnl_32, xnl_64, xnl_256, xtn_4, xtn_32, xtn_64, xtn_256, Option.some.injEq, Sum.inl.injEq, Sum.inr.injEq, exists_eq_left', exists_eq_right, Option.toList_some, Option.toList_none, List.cons_append, List.nil_append, xE, lg_cmp_ge, lg_cmp_le, lg_cmp_gt, lg_cmp_lt, lg_cmp_eq, Nat.le_refl, Nat.zero_le, ne_eq, Nat.add_zero, dS_put_0, dS_put_1, dS_put_2, dS_put_5, dS_put_7, dS_put_8, dS_put_9, dS_put_12, dS_put_14, dS_put_16, dS_put_19, dS_put_21, dS_put_24, dS_put_25, dS_put_26, dS_put_28, dS_put_31, dS_put_34, dS_put_36, dS_put_39, dS_put_42, dS_put_43, dS_put_45, dS_put_46, dS_put_47, dS_put_48, dS_put_50, dS_put_51, dS_put_54, dS_put_57, dS_put_58, dS_put_59, dS_put_61, dS_put_63, dS_put_66, dS_put_68, dS_put_69, dS_put_72, dS_put_73, xf_3_86, xf_3_89, xf_3_92, xf_3_96]
    unfold oPut
    rw [if_neg (fun q => hx (isQ_iff.mp q.2.1))]
    exact ⟨rfl, ⟨ar, pa, qa, la, h⟩, xFr.rf _ _⟩
  rw [if_pos hx]
  have e1 : x.toNatClampNeg = x.toInt.toNat := rfl
  have e2 : y.toNatClampNeg = y.toInt.toNat := rfl
  have e3 : a.toNatClampNeg = a.toInt.toNat := rfl
  have hxl : x.toNatClampNeg < M 12 0 := by omega
  have hyl : y.toNatClampNeg < M 25 0 := by omega
  obtain ⟨⟨q1, -⟩, ⟨q2, -, -, -, -, -, q3, -⟩, -⟩ := h.2.2.2.2.1 _ hxl
  have hw := (h.1.2.2.2.1 _ hxl).1
  have b1 := (h.2.2.2.2.2.1 _ hyl).1.1
  have hnq : la y.toNatClampNeg ≠ qa x.toNatClampNeg := xne b1 q1 (by decide)
  have hw0 : (nI (M 13 x.toNatClampNeg) = 0) = (M 13 x.toNatClampNeg = 0) := propext (nI_eq (b := 0) (by omega) (by decide))
  have key : ∀ n : Nat, n < 2 ^ 31 → (n = if M 13 x.toNatClampNeg = 0 then M 16 x.toNatClampNeg else 1) → V 45 [some (.inr (.inr (some th))), some (.inl y), some (.inl x), some (.inl a), some (.inr (.inr (some (la y.toNatClampNeg)))), some (.inr (.inr (some (qa x.toNatClampNeg)))), some (.inl (nI n))] [] S' 0 0 := by
    intro n hn hne
    refine xrun_ok hV [] 20 _ _ _ _ _ _ ?_
    simp (maxDischargeDepth := 60) only [xrun, xisc, ↓xstep, xget, xtgt, xcmp, xacmp, xprev, xisR, xnt, List.set, List.length, xsw, xlk, true_or, or_true, if_true, if_false, true_and, and_true, List.mem_cons, List.not_mem_nil, or_false, false_or, Bool.false_eq_true, reduceCtorEq, not_false_eq_true, forall_const, Nat.zero_add, Nat.reduceAdd, Nat.reduceSub, Int.reduceAdd, Int.reduceNeg, Int.reduceToNat, Nat.reduceEqDiff, Nat.reduceLT, Nat.reduceLeDiff, Int.reduceLE, Int.reduceLT, reduceIte, Int.cast_ofNat_Int, Int.natCast_zero, Int.natCast_one, Int.reduceAdd, eq_self, Int.reduceSub, List.length_cons, List.length_nil, xli_m1, xli_0, xli_1, xli_2, xli_3, xli_4, xli_5, xlb_8, xlb_12, xlb_31, xlb_32, xlb_64, xls_256, xls_513, xls_2048, xls_4096, xll_0, xll_1, xnr_i, xnr_0, xnr_1, xnr_ite, xft_i, xft_0, xft_1, xat_999, xat_1001, xat_1002, xat_1003, xat_2001, xat_2002, xat_2003, List.getElem?_cons_succ, List.getElem?_cons_zero, xfn_0, xfn_1, xfn_2, xfn_3, x10, x01, not_true_eq_false, false_implies, implies_true, true_implies, xrm_c, xrm_s, xnl_4, xnl_32, xnl_64, xnl_256, xtn_4, xtn_32, xtn_64, xtn_256, Option.some.injEq, Sum.inl.injEq, Sum.inr.injEq, exists_eq_left', exists_eq_right, Option.toList_some, Option.toList_none, List.cons_append, List.nil_append, xE, lg_cmp_ge, lg_cmp_le, lg_cmp_gt, lg_cmp_lt, lg_cmp_eq, Nat.le_refl, Nat.zero_le, ne_eq, Nat.add_zero, dS_put_0, dS_put_1, dS_put_2, dS_put_5, dS_put_7, dS_put_8, dS_put_9, dS_put_12, dS_put_14, dS_put_16, dS_put_19, dS_put_21, dS_put_24, dS_put_25, dS_put_26, dS_put_28, dS_put_31, dS_put_34, dS_put_36, dS_put_39, dS_put_42, dS_put_43, dS_put_45, dS_put_46, dS_put_47, dS_put_48, dS_put_50, dS_put_51, dS_put_54, dS_put_57, dS_put_58, dS_put_59, dS_put_61, dS_put_63, dS_put_66, dS_put_68, dS_put_69, dS_put_72, dS_put_73, xf_3_86, xf_3_89, xf_3_92, xf_3_96]
    refine hV.call [] xh_3_57 dS_put_51 (c_isWithin S' a.toInt64 0 (nI n).toInt64) (Or.inl rfl) rfl rfl (by decide) (by decide) (by decide) ?_
    rintro r S' ⟨rfl, rfl⟩
    simp only [Int32.toInt_toInt64]
    rw [show (0 : Int64).toInt = 0 from rfl, nI_toInt hn]
    by_cases ha : 0 ≤ a.toInt ∧ a.toInt ≤ n
    · rw [if_pos ha]
      refine xrun_ok hV [] 20 _ _ _ _ _ _ ?_
      simp (maxDischargeDepth := 60) only [xrun, xisc, ↓xstep, xget, xtgt, xcmp, xacmp, xprev, xisR, xnt, List.set, List.length, xsw, xlk, true_or, or_true, if_true, if_false, true_and, and_true, List.mem_cons, List.not_mem_nil, or_false, false_or, Bool.false_eq_true, reduceCtorEq, not_false_eq_true, forall_const, Nat.zero_add, Nat.reduceAdd, Nat.reduceSub, Int.reduceAdd, Int.reduceNeg, Int.reduceToNat, Nat.reduceEqDiff, Nat.reduceLT, Nat.reduceLeDiff, Int.reduceLE, Int.reduceLT, reduceIte, Int.cast_ofNat_Int, Int.natCast_zero, Int.natCast_one, Int.reduceAdd, eq_self, Int.reduceSub, List.length_cons, List.length_nil, xli_m1, xli_0, xli_1, xli_2, xli_3, xli_4, xli_5, xlb_8, xlb_12, xlb_31, xlb_32, xlb_64, xls_256, xls_513, xls_2048, xls_4096, xll_0, xll_1, xnr_i, xnr_0, xnr_1, xnr_ite, xft_i, xft_0, xft_1, xat_999, xat_1001, xat_1002, xat_1003, xat_2001, xat_2002, xat_2003, List.getElem?_cons_succ, List.getElem?_cons_zero, xfn_0, xfn_1, xfn_2, xfn_3, x10, x01, not_true_eq_false, false_implies, implies_true, true_implies, xrm_c, xrm_s, xnl_4, xnl_32, xnl_64, xnl_256, xtn_4, xtn_32, xtn_64, xtn_256, Option.some.injEq, Sum.inl.injEq, Sum.inr.injEq, exists_eq_left', exists_eq_right, Option.toList_some, Option.toList_none, List.cons_append, List.nil_append, xE, lg_cmp_ge, lg_cmp_le, lg_cmp_gt, lg_cmp_lt, lg_cmp_eq, Nat.le_refl, Nat.zero_le, ne_eq, Nat.add_zero, dS_put_0, dS_put_1, dS_put_2, dS_put_5, dS_put_7, dS_put_8, dS_put_9, dS_put_12, dS_put_14, dS_put_16, dS_put_19, dS_put_21, dS_put_24, dS_put_25, dS_put_26, dS_put_28, dS_put_31, dS_put_34, dS_put_36, dS_put_39, dS_put_42, dS_put_43, dS_put_45, dS_put_46, dS_put_47, dS_put_48, dS_put_50, dS_put_51, dS_put_54, dS_put_57, dS_put_58, dS_put_59, dS_put_61, dS_put_63, dS_put_66, dS_put_68, dS_put_69, dS_put_72, dS_put_73, xf_3_86, xf_3_89, xf_3_92, xf_3_96, b1, xc_pr, xc_pi]
      unfold oPut
      have e9 : (if M 13 x.toNatClampNeg = 0 then (M 16 x.toNatClampNeg : Int) else 1) = n := by rw [hne]; split <;> rfl
      rw [if_pos ⟨isL_iff.mpr hy, isQ_iff.mpr hx, inR_iff.mpr ⟨ha.1, by rw [e9]; exact ha.2⟩⟩]
      have hp := rC_put h hyl hxl (a := a.toNatClampNeg) (by rw [← hne]; omega)
      rw [nI_cl ha.1] at hp
      exact ⟨rfl, ⟨_, _, _, _, hp⟩, (xFr.pr (by rw [b1]; rfl)).tr (xFr.pi (by rw [xc_pr, b1]; rfl))⟩
    · rw [if_neg ha]
      refine xrun_ok hV [] 20 _ _ _ _ _ _ ?_
      simp (maxDischargeDepth := 60) only [xrun, xisc, ↓xstep, xget, xtgt, xcmp, xacmp, xprev, xisR, xnt, List.set, List.length, xsw, xlk, true_or, or_true, if_true, if_false, true_and, and_true, List.mem_cons, List.not_mem_nil, or_false, false_or, Bool.false_eq_true, reduceCtorEq, not_false_eq_true, forall_const, Nat.zero_add, Nat.reduceAdd, Nat.reduceSub, Int.reduceAdd, Int.reduceNeg, Int.reduceToNat, Nat.reduceEqDiff, Nat.reduceLT, Nat.reduceLeDiff, Int.reduceLE, Int.reduceLT, reduceIte, Int.cast_ofNat_Int, Int.natCast_zero, Int.natCast_one, Int.reduceAdd, eq_self, Int.reduceSub, List.length_cons, List.length_nil, xli_m1, xli_0, xli_1, xli_2, xli_3, xli_4, xli_5, xlb_8, xlb_12, xlb_31, xlb_32, xlb_64, xls_256, xls_513, xls_2048, xls_4096, xll_0, xll_1, xnr_i, xnr_0, xnr_1, xnr_ite, xft_i, xft_0, xft_1, xat_999, xat_1001, xat_1002, xat_1003, xat_2001, xat_2002, xat_2003, List.getElem?_cons_succ, List.getElem?_cons_zero, xfn_0, xfn_1, xfn_2, xfn_3, x10, x01, not_true_eq_false, false_implies, implies_true, true_implies, xrm_c, xrm_s, xnl_4, xnl_32, xnl_64, xnl_256, xtn_4, xtn_32, xtn_64, xtn_256, Option.some.injEq, Sum.inl.injEq, Sum.inr.injEq, exists_eq_left', exists_eq_right, Option.toList_some, Option.toList_none, List.cons_append, List.nil_append, xE, lg_cmp_ge, lg_cmp_le, lg_cmp_gt, lg_cmp_lt, lg_cmp_eq, Nat.le_refl, Nat.zero_le, ne_eq, Nat.add_zero, dS_put_0, dS_put_1, dS_put_2, dS_put_5, dS_put_7, dS_put_8, dS_put_9, dS_put_12, dS_put_14, dS_put_16, dS_put_19, dS_put_21, dS_put_24, dS_put_25, dS_put_26, dS_put_28, dS_put_31, dS_put_34, dS_put_36, dS_put_39, dS_put_42, dS_put_43, dS_put_45, dS_put_46, dS_put_47, dS_put_48, dS_put_50, dS_put_51, dS_put_54, dS_put_57, dS_put_58, dS_put_59, dS_put_61, dS_put_63, dS_put_66, dS_put_68, dS_put_69, dS_put_72, dS_put_73, xf_3_86, xf_3_89, xf_3_92, xf_3_96]
      unfold oPut
      rw [if_neg (fun q => by
        have e8 := inR_iff.mp q.2.2
        have e9 : (if M 13 x.toNatClampNeg = 0 then (M 16 x.toNatClampNeg : Int) else 1) = n := by rw [hne]; split <;> rfl
        rw [e9] at e8
        exact ha e8)]
      exact ⟨rfl, ⟨ar, pa, qa, la, h⟩, xFr.rf _ _⟩
  refine xrun_ok hV [45] 20 _ _ _ _ _ _ ?_
  simp (maxDischargeDepth := 60) only [xrun, xisc, ↓xstep, xget, xtgt, xcmp, xacmp, xprev, xisR, xnt, List.set, List.length, xsw, xlk, true_or, or_true, if_true, if_false, true_and, and_true, List.mem_cons, List.not_mem_nil, or_false, false_or, Bool.false_eq_true, reduceCtorEq, not_false_eq_true, forall_const, Nat.zero_add, Nat.reduceAdd, Nat.reduceSub, Int.reduceAdd, Int.reduceNeg, Int.reduceToNat, Nat.reduceEqDiff, Nat.reduceLT, Nat.reduceLeDiff, Int.reduceLE, Int.reduceLT, reduceIte, Int.cast_ofNat_Int, Int.natCast_zero, Int.natCast_one, Int.reduceAdd, eq_self, Int.reduceSub, List.length_cons, List.length_nil, xli_m1, xli_0, xli_1, xli_2, xli_3, xli_4, xli_5, xlb_8, xlb_12, xlb_31, xlb_32, xlb_64, xls_256, xls_513, xls_2048, xls_4096, xll_0, xll_1, xnr_i, xnr_0, xnr_1, xnr_ite, xft_i, xft_0, xft_1, xat_999, xat_1001, xat_1002, xat_1003, xat_2001, xat_2002, xat_2003, List.getElem?_cons_succ, List.getElem?_cons_zero, xfn_0, xfn_1, xfn_2, xfn_3, x10, x01, not_true_eq_false, false_implies, implies_true, true_implies, xrm_c, xrm_s, xnl_4, xnl_32, xnl_64, xnl_256, xtn_4, xtn_32, xtn_64, xtn_256, Option.some.injEq, Sum.inl.injEq, Sum.inr.injEq, exists_eq_left', exists_eq_right, Option.toList_some, Option.toList_none, List.cons_append, List.nil_append, xE, lg_cmp_ge, lg_cmp_le, lg_cmp_gt, lg_cmp_lt, lg_cmp_eq, Nat.le_refl, Nat.zero_le, ne_eq, Nat.add_zero, dS_put_0, dS_put_1, dS_put_2, dS_put_5, dS_put_7, dS_put_8, dS_put_9, dS_put_12, dS_put_14, dS_put_16, dS_put_19, dS_put_21, dS_put_24, dS_put_25, dS_put_26, dS_put_28, dS_put_31, dS_put_34, dS_put_36, dS_put_39, dS_put_42, dS_put_43, dS_put_45, dS_put_46, dS_put_47, dS_put_48, dS_put_50, dS_put_51, dS_put_54, dS_put_57, dS_put_58, dS_put_59, dS_put_61, dS_put_63, dS_put_66, dS_put_68, dS_put_69, dS_put_72, dS_put_73, xf_3_86, xf_3_89, xf_3_92, xf_3_96, q1, q2, hw0]
  refine ⟨fun z => ?_, fun z => ?_⟩
  · exact key 1 (by decide) (by rw [if_neg z])
  · rw [q3 (by simp [maim, z])]
    exact key _ (by have := (h.1.2.2.2.2.1 _ hxl z).2; omega) (by rw [if_pos z])
end MAKE
end
section
/-! ALL PLACES ARE SMALL -/
def nsum (f : Nat → Nat) : Nat → Nat
  | 0 => 0
  | n + 1 => nsum f n + f n
theorem nsum_le {f g : Nat → Nat} : ∀ n, (∀ i, i < n → f i ≤ g i) → nsum f n ≤ nsum g n
  | 0, _ => Nat.le_refl _
  | n + 1, h => Nat.add_le_add (nsum_le n (fun i hi => h i (by omega))) (h n (by omega))
theorem nsum_add (f g : Nat → Nat) : ∀ n, nsum (fun i => f i + g i) n = nsum f n + nsum g n
  | 0 => rfl
  | n + 1 => by simp only [nsum, nsum_add f g n]; omega
theorem nsum_mul (f : Nat → Nat) (c : Nat) : ∀ n, nsum (fun i => f i * c) n = nsum f n * c
  | 0 => by simp [nsum]
  | n + 1 => by simp only [nsum, nsum_mul f c n, Nat.add_mul]
theorem nsum_const (c : Nat) : ∀ n, nsum (fun _ => c) n = n * c
  | 0 => by simp [nsum]
  | n + 1 => by simp only [nsum, nsum_const c n, Nat.add_mul, Nat.one_mul]
theorem nsum_zero : ∀ n, nsum (fun _ => 0) n = 0
  | 0 => rfl
  | n + 1 => by simp [nsum, nsum_zero n]
theorem nsum_one {q : Nat} : ∀ n, nsum (fun p => if q = p then 1 else 0) n ≤ 1 ∧ (n ≤ q → nsum (fun p => if q = p then 1 else 0) n = 0)
  | 0 => ⟨by simp [nsum], fun _ => rfl⟩
  | n + 1 => by
    obtain ⟨h1, h2⟩ := nsum_one (q := q) n
    simp only [nsum]
    by_cases e : q = n
    · rw [if_pos e]
      have := h2 (by omega)
      exact ⟨by omega, fun h => by omega⟩
    · rw [if_neg e]
      exact ⟨by omega, fun h => by have := h2 (by omega); omega⟩
-- how many pieces below k part p has
def mcnt (M : mT) (p : Nat) : Nat → Nat := nsum (fun k => if M 14 k = p then 1 else 0)
theorem mcnt_sum (M : mT) (np : Nat) : ∀ k, nsum (fun p => mcnt M p k) np ≤ k
  | 0 => by
    have : (fun p => mcnt M p 0) = fun _ => 0 := rfl
    rw [this, nsum_zero]; exact Nat.le_refl 0
  | k + 1 => by
    have e : (fun p => mcnt M p (k + 1)) = fun p => mcnt M p k + (if M 14 k = p then 1 else 0) := rfl
    rw [e, nsum_add (fun p => mcnt M p k) (fun p => if M 14 k = p then 1 else 0)]
    have h1 := mcnt_sum M np k
    have h2 := (nsum_one (q := M 14 k) np).1
    omega
theorem mup_ge (x p : Nat) : x ≤ mup x p := Nat.le_add_right _ _
theorem mup_le {x p : Nat} (h : p ≤ 12) : mup x p ≤ x + 4095 := by
  have := mpad_lt (x := x) h
  unfold mup
  omega
theorem msz_le {M : mT} (h : mWF M) {k : Nat} (hk : k < M 12 0) (a : Nat) : msz M k a ≤ 4194304 := by
  unfold msz
  obtain ⟨-, -, -, w7, w8, w9, w10, -⟩ := h
  by_cases z : M 13 k = 4
  · rw [if_pos z]
    have := w10 k hk z
    omega
  · rw [if_neg z]
    by_cases z0 : M 13 k = 0
    · have := w8 k hk z0; omega
    · have h1 := (w7 k hk).1
      have := (w9 k hk (by simp [maim]; omega)).2.1
      unfold mgr at this
      split at this <;> omega
theorem mlay_mono (M : mT) (p b : Nat) : ∀ (k d : Nat), mlay M p b k ≤ mlay M p b (k + d)
  | k, 0 => Nat.le_refl _
  | k, d + 1 => by
    have h := mlay_mono M p b k d
    rw [← Nat.add_assoc, mlay]
    split <;> omega
theorem mlay_le {M : mT} (h : mWF M) (p b : Nat) : ∀ k, k ≤ M 12 0 → mlay M p b k ≤ b + mcnt M p k * 4194304
  | 0, _ => by simp [mlay]
  | k + 1, hk => by
    have h1 := mlay_le h p b k (by omega)
    have h2 := msz_le h (show k < M 12 0 by omega) (mlay M p b k)
    have e : mcnt M p (k + 1) = mcnt M p k + (if M 14 k = p then 1 else 0) := rfl
    rw [mlay, e]
    split <;> omega
def mwt (M : mT) (p : Nat) : Nat := 4095 + mcnt M p (M 12 0) * 4194304
def mwo (M : mT) (o : Nat) : Nat → Nat := nsum (fun p => if M 5 p = o then mwt M p else 0)
theorem mout_mono (M : mT) (o b : Nat) : ∀ (k d : Nat), mout M o b k ≤ mout M o b (k + d)
  | k, 0 => Nat.le_refl _
  | k, d + 1 => by
    have h := mout_mono M o b k d
    rw [← Nat.add_assoc, mout]
    split
    · have h1 := mup_ge (mout M o b (k + d)) (M 6 (k + d))
      have h2 := mlay_mono M (k + d) (mup (mout M o b (k + d)) (M 6 (k + d))) 0 (M 12 0)
      simp only [mlay, Nat.zero_add] at h2
      omega
    · exact h
theorem mout_le {M : mT} (h : mWF M) (o b : Nat) : ∀ p, p ≤ M 4 0 → mout M o b p ≤ b + mwo M o p
  | 0, _ => by simp [mout]
  | p + 1, hp => by
    have h1 := mout_le h o b p (by omega)
    have e : mwo M o (p + 1) = mwo M o p + (if M 5 p = o then mwt M p else 0) := rfl
    rw [mout, e]
    by_cases z : M 5 p = o ∧ M 8 p = 0
    · rw [if_pos z, if_pos z.1]
      have h2 := mlay_le h p (mup (mout M o b p) (M 6 p)) (M 12 0) (Nat.le_refl _)
      have h3 := mup_le (x := mout M o b p) (h.2.2.1 p (by omega)).2.1
      unfold mwt
      omega
    · rw [if_neg z]; omega
theorem osum {f w : Nat → Nat} : ∀ n, (∀ p, p < n → f p ≤ 3) → nsum (fun p => if f p = 0 then w p else 0) n + nsum (fun p => if f p = 1 then w p else 0) n + nsum (fun p => if f p = 2 then w p else 0) n + nsum (fun p => if f p = 3 then w p else 0) n ≤ nsum w n
  | 0, _ => Nat.le_refl _
  | n + 1, h => by
    have h1 := osum (w := w) n (fun p hp => h p (by omega))
    have h2 := h n (by omega)
    simp only [nsum]
    generalize nsum (fun p => if f p = 0 then w p else 0) n = a0 at h1 ⊢
    generalize nsum (fun p => if f p = 1 then w p else 0) n = a1 at h1 ⊢
    generalize nsum (fun p => if f p = 2 then w p else 0) n = a2 at h1 ⊢
    generalize nsum (fun p => if f p = 3 then w p else 0) n = a3 at h1 ⊢
    generalize nsum w n = a4 at h1 ⊢
    generalize w n = b at h1 ⊢
    rcases (show f n = 0 ∨ f n = 1 ∨ f n = 2 ∨ f n = 3 by omega) with e | e | e | e <;> rw [e] <;> (first | (simp; done) | (simp; omega))
theorem mwo_sum {M : mT} (h : mWF M) : mwo M 0 (M 4 0) + mwo M 1 (M 4 0) + mwo M 2 (M 4 0) + mwo M 3 (M 4 0) ≤ nsum (mwt M) (M 4 0) := osum (f := M 5) (w := mwt M) (M 4 0) (fun p hp => (h.2.2.1 p hp).1)
theorem wsum (g : Nat → Nat) (c d : Nat) : ∀ n, nsum (fun p => c + g p * d) n = n * c + nsum g n * d
  | 0 => by simp only [nsum, Nat.zero_mul, Nat.add_zero]
  | n + 1 => by
    have h := wsum g c d n
    simp only [nsum]
    rw [h, Nat.add_mul, Nat.add_mul, Nat.one_mul]
    omega
theorem mwt_sum {M : mT} (h : mWF M) : nsum (mwt M) (M 4 0) ≤ 1073872864 := by
  have h0 := wsum (fun p => mcnt M p (M 12 0)) 4095 4194304 (M 4 0)
  have h1 := mcnt_sum M (M 4 0) (M 12 0)
  have h2 := h.1.2.1
  have h3 := h.1.2.2.1
  have e : nsum (mwt M) (M 4 0) = M 4 0 * 4095 + nsum (fun p => mcnt M p (M 12 0)) (M 4 0) * 4194304 := h0
  generalize nsum (mwt M) (M 4 0) = A at e ⊢
  generalize nsum (fun p => mcnt M p (M 12 0)) (M 4 0) = B at e h1
  generalize M 4 0 = C at e h2
  generalize M 12 0 = F at h1 h3
  omega
theorem mend_step {M : mT} (o : Nat) : mend M o ≤ mob M o ∧ mob M o ≤ mend M (o + 1) := by
  refine ⟨mup_ge _ _, ?_⟩
  have := mout_mono M o (mup (mend M o) (M 1 o)) 0 (M 4 0)
  simp only [mout, Nat.zero_add] at this
  exact this
theorem mend_mono {M : mT} : ∀ (o d : Nat), mend M o ≤ mend M (o + d)
  | o, 0 => Nat.le_refl _
  | o, d + 1 => by
    have h1 := mend_mono (M := M) o d
    have h2 := mend_step (M := M) (o + d)
    rw [← Nat.add_assoc]
    omega
theorem mend_le {M : mT} (h : mWF M) : mend M 4 ≤ 1074937820 := by
  have w := h.2.1
  have hb := h.1.1
  have h0 := mout_le h 0 (mup (mend M 0) (M 1 0)) (M 4 0) (Nat.le_refl _)
  have h1 := mout_le h 1 (mup (mend M 1) (M 1 1)) (M 4 0) (Nat.le_refl _)
  have h2 := mout_le h 2 (mup (mend M 2) (M 1 2)) (M 4 0) (Nat.le_refl _)
  have h3 := mout_le h 3 (mup (mend M 3) (M 1 3)) (M 4 0) (Nat.le_refl _)
  have u0 := mup_le (x := mend M 0) (w 0 (by decide))
  have u1 := mup_le (x := mend M 1) (w 1 (by decide))
  have u2 := mup_le (x := mend M 2) (w 2 (by decide))
  have u3 := mup_le (x := mend M 3) (w 3 (by decide))
  have e0 : mend M 0 = M 0 0 := rfl
  have e1 : mend M 1 = mout M 0 (mup (mend M 0) (M 1 0)) (M 4 0) := rfl
  have e2 : mend M 2 = mout M 1 (mup (mend M 1) (M 1 1)) (M 4 0) := rfl
  have e3 : mend M 3 = mout M 2 (mup (mend M 2) (M 1 2)) (M 4 0) := rfl
  have e4 : mend M 4 = mout M 3 (mup (mend M 3) (M 1 3)) (M 4 0) := rfl
  have s1 := mwo_sum h
  have s2 := mwt_sum h
  omega
theorem mend_lt {M : mT} (h : mWF M) {o : Nat} (ho : o ≤ 4) : mend M o ≤ 1074937820 := by
  have h1 := mend_mono (M := M) o (4 - o)
  rw [show o + (4 - o) = 4 by omega] at h1
  exact Nat.le_trans h1 (mend_le h)
/-- a part that is there: where it begins and ends -/
theorem mpe_le {M : mT} (h : mWF M) {p : Nat} (hp : p < M 4 0) (hg : M 8 p = 0) : mout M (M 5 p) (mob M (M 5 p)) p ≤ mpb M p ∧ mpb M p ≤ mpe M p ∧ mpe M p ≤ 1074937820 := by
  have ho := (h.2.2.1 p hp).1
  have h1 : mpe M p = mout M (M 5 p) (mob M (M 5 p)) (p + 1) := by
    rw [mout, if_pos ⟨rfl, hg⟩]
    rfl
  have h2 := mout_mono M (M 5 p) (mob M (M 5 p)) (p + 1) (M 4 0 - (p + 1))
  rw [show p + 1 + (M 4 0 - (p + 1)) = M 4 0 by omega] at h2
  have h3 : mout M (M 5 p) (mob M (M 5 p)) (M 4 0) = mend M (M 5 p + 1) := rfl
  have h4 := mend_lt h (show M 5 p + 1 ≤ 4 by omega)
  refine ⟨mup_ge _ _, ?_, by omega⟩
  have h5 := mlay_mono M p (mpb M p) 0 (M 12 0)
  simp only [mlay, Nat.zero_add] at h5
  exact h5
theorem mpl_le {M : mT} (h : mWF M) {k : Nat} (hk : k < M 12 0) (hg : mnot M k = true) : mpl M k + msize M k ≤ 1074937820 ∧ mpl M k ≤ 1074937820 := by
  have hg' : M 8 (M 14 k) = 0 := by simpa [mnot] using hg
  have hp := (h.2.2.2.1 k hk).2.1
  have h1 := mlay_mono M (M 14 k) (mpb M (M 14 k)) (k + 1) (M 12 0 - (k + 1))
  rw [show k + 1 + (M 12 0 - (k + 1)) = M 12 0 by omega, mlay, if_pos rfl] at h1
  have h2 := (mpe_le h hp hg').2.2
  have e : mpe M (M 14 k) = mlay M (M 14 k) (mpb M (M 14 k)) (M 12 0) := rfl
  unfold msize mpl
  omega
end
section
/-! THE CLASS: places -/
def xCp (ar : Nat → Nat) (S : xS) (b j : Nat) : Prop := (xc S b = 2 ∧ (j = 5 ∨ j = 6)) ∨ (xc S b = 3 ∧ (j = 9 ∨ j = 10 ∨ (j = 8 ∧ xi S b 0 = nI 4))) ∨ b = ar 4 ∨ b = ar 5
/-- only what is reckoned anew has changed -/
def xCa (ar : Nat → Nat) (S S' : xS) : Prop := xn S' = xn S ∧ xc S' = xc S ∧ xl S' = xl S ∧ xr S' = xr S ∧ ∀ b j, ¬ xCp ar S b j → xi S' b j = xi S b j
theorem xCa.rf (ar : Nat → Nat) (S : xS) : xCa ar S S := ⟨rfl, rfl, rfl, rfl, fun _ _ _ => rfl⟩
theorem xCa.pi {ar : Nat → Nat} {S : xS} {a k : Nat} {x : Int32} (h : xCp ar S a k) : xCa ar S (xpi S a k x) := by
  refine ⟨rfl, rfl, rfl, rfl, fun b j hb => ?_⟩
  rw [xi_pi, if_neg]
  rintro ⟨rfl, rfl⟩
  exact hb h
section PLACE
variable {l : Launch} {D : va_G} {n0 : Nat} {S S' : xS} {th : Nat} {ar pa qa la : Nat → Nat} {M : mT}
theorem xCa.tr {S1 : xS} (h : rC S th ar pa qa la M) (h1 : xCa ar S S1) (h2 : xCa ar S1 S') : xCa ar S S' := by
  obtain ⟨a1, a2, a3, a4, a5⟩ := h1
  obtain ⟨b1, b2, b3, b4, b5⟩ := h2
  refine ⟨b1.trans a1, b2.trans a2, b3.trans a3, b4.trans a4, fun b j hb => ?_⟩
  rw [b5 b j (fun z => hb ?_), a5 b j hb]
  rcases z with ⟨z1, z2⟩ | ⟨z1, z2⟩ | z
  · exact Or.inl ⟨by rw [← a2]; exact z1, z2⟩
  · refine Or.inr (Or.inl ⟨by rw [← a2]; exact z1, ?_⟩)
    rcases z2 with z2 | z2 | ⟨z2, z3⟩
    · exact Or.inl z2
    · exact Or.inr (Or.inl z2)
    · refine Or.inr (Or.inr ⟨z2, ?_⟩)
      rw [← z3]
      refine (a5 b 0 (fun w => ?_)).symm
      rcases w with ⟨w1, w2⟩ | ⟨w1, w2⟩ | w
      · omega
      · omega
      · rw [a2] at z1
        have c4 := h.2.1.2.2.1.2.2.2.2.1
        have c5 := h.2.1.2.2.1.2.2.2.2.2
        rcases w with w | w
        · rw [w] at z1; rw [z1] at c4; cases c4
        · rw [w] at z1; rw [z1] at c5; cases c5
  · exact Or.inr (Or.inr z)
theorem rC.ca (h : rC S th ar pa qa la M) (hc : xCa ar S S') : rC S' th ar pa qa la M := by
  obtain ⟨a1, a2, a3, a4, a5⟩ := hc
  obtain ⟨hW, hT, hA, hP, hQ, hB, i⟩ := h
  obtain ⟨⟨t1, t2⟩, t3, ⟨c0, c1, c2, c3, c4, c5⟩, t4, t5, ⟨t6, t7, t8, t9⟩, t10⟩ := hT
  have no : ∀ b j t, xc S b = t → t ≠ 2 → t ≠ 3 → b ≠ ar 4 → b ≠ ar 5 → xi S' b j = xi S b j := by
    intro b j t hb h2 h3 h4 h5
    refine a5 b j (fun z => ?_)
    rcases z with ⟨z1, -⟩ | ⟨z1, -⟩ | z | z
    · exact h2 (hb.symm.trans z1)
    · exact h3 (hb.symm.trans z1)
    · exact h4 z
    · exact h5 z
  have nth : ∀ j, xi S' th j = xi S th j := fun j => no th j 4 t1 (by decide) (by decide) (xne t1 c4 (by decide)) (xne t1 c5 (by decide))
  have nB : ∀ q, q < M 25 0 → ∀ j, xi S' (la q) j = xi S (la q) j := fun q hq j => no _ j 1 (hB q hq).1.1 (by decide) (by decide) (xne (hB q hq).1.1 c4 (by decide)) (xne (hB q hq).1.1 c5 (by decide))
  have nP : ∀ p, p < M 4 0 → ∀ j, j ≠ 5 → j ≠ 6 → xi S' (pa p) j = xi S (pa p) j := by
    intro p hp j h5 h6
    have hc := (hP p hp).1.1
    refine a5 _ j (fun z => ?_)
    rcases z with ⟨-, z | z⟩ | ⟨z1, -⟩ | z | z
    · exact h5 z
    · exact h6 z
    · rw [hc] at z1; cases z1
    · exact xne hc c4 (by decide) z
    · exact xne hc c5 (by decide) z
  have nQ : ∀ k, k < M 12 0 → ∀ j, j ≠ 9 → j ≠ 10 → (j = 8 → M 13 k ≠ 4) → xi S' (qa k) j = xi S (qa k) j := by
    intro k hk j h9 h10 h8
    have hc := (hQ k hk).1.1
    have h0 := (hQ k hk).2.1.1
    have hw := (hW.2.2.2.1 k hk).1
    refine a5 _ j (fun z => ?_)
    rcases z with ⟨z1, -⟩ | ⟨-, z | z | ⟨z1, z2⟩⟩ | z | z
    · rw [hc] at z1; cases z1
    · exact h9 z
    · exact h10 z
    · rw [h0] at z2
      exact h8 z1 ((nI_eq (by omega) (by decide)).mp z2)
    · exact xne hc c4 (by decide) z
    · exact xne hc c5 (by decide) z
  refine ⟨hW, ⟨⟨by rw [a2]; exact t1, by omega⟩, fun f hf => by rw [a4, a1]; exact t3 f hf, by rw [a2]; exact ⟨c0, c1, c2, c3, c4, c5⟩, by rw [a3]; exact t4, t5, ⟨by rw [nth]; exact t6, by rw [nth]; exact t7, by rw [nth]; exact t8, by rw [nth]; exact t9⟩, fun o ho => by rw [no _ o 1001 c3 (by decide) (by decide) t5.1 t5.2.1]; exact t10 o ho⟩, ⟨by rw [a4]; exact hA.1, by rw [a4]; exact hA.2.1, by rw [a4]; exact hA.2.2⟩, fun p hp => ?_, fun k hk => ?_, fun j hj => ?_, i⟩
  · have r := hP p hp
    unfold rP
    rw [a1, a2, a4, nP p hp 0 (by decide) (by decide), nP p hp 1 (by decide) (by decide), nP p hp 2 (by decide) (by decide), nP p hp 3 (by decide) (by decide), nP p hp 4 (by decide) (by decide)]
    exact r
  · have r := hQ k hk
    have e8 : (M 13 k ≠ 4 → xi S' (qa k) 8 = nI (M 15 k)) := fun z => by rw [nQ k hk 8 (by decide) (by decide) (fun _ => z)]; exact r.2.2.1 z
    unfold rQ
    rw [a1, a2, a4, nQ k hk 0 (by decide) (by decide) (by omega), nQ k hk 3 (by decide) (by decide) (by omega), nQ k hk 4 (by decide) (by decide) (by omega), nQ k hk 5 (by decide) (by decide) (by omega), nQ k hk 6 (by decide) (by decide) (by omega), nQ k hk 7 (by decide) (by decide) (by omega), nQ k hk 11 (by decide) (by decide) (by omega)]
    exact ⟨r.1, r.2.1, e8, r.2.2.2⟩
  · have r := hB j hj
    unfold rB
    rw [a1, a2, a4, nB j hj]
    exact r
theorem xCa.fr (h : rC S th ar pa qa la M) (hc : xCa ar S S') : xFr tC S S' := by
  obtain ⟨a1, a2, a3, a4, a5⟩ := hc
  refine ⟨by omega, fun b hb => ⟨by rw [a2], by rw [a3], fun ht k => ⟨a5 b k (fun z => ?_), by rw [a4]⟩⟩⟩
  rcases z with ⟨z, -⟩ | ⟨z, -⟩ | z | z
  · rw [z] at ht; cases ht
  · rw [z] at ht; cases ht
  · rw [z, h.2.1.2.2.1.2.2.2.2.1] at ht; cases ht
  · rw [z, h.2.1.2.2.1.2.2.2.2.2] at ht; cases ht
theorem mnx_first {M : mT} {p : Nat} : ∀ (d k j : Nat), mnx M p k d = some j → ∀ i, k ≤ i → i < j → M 14 i ≠ p
  | 0, k, j, h => by cases h
  | d + 1, k, j, h => by
    rw [mnx] at h
    by_cases z : M 14 k = p
    · rw [if_pos z] at h
      cases h
      intro i h1 h2
      omega
    · rw [if_neg z] at h
      intro i h1 h2
      by_cases e : i = k
      · rw [e]; exact z
      · exact mnx_first d (k + 1) j h i (by omega) h2
theorem mlay_skip {M : mT} {p b : Nat} : ∀ (d k : Nat), (∀ i, k ≤ i → i < k + d → M 14 i ≠ p) → mlay M p b (k + d) = mlay M p b k
  | 0, k, _ => rfl
  | d + 1, k, h => by
    rw [← Nat.add_assoc, mlay, if_neg (h (k + d) (by omega) (by omega))]
    exact mlay_skip d k (fun i h1 h2 => h i h1 (by omega))
/-- the pieces of part p below k have their places, all else is as it was -/
def rL (S0 : xS) (pa qa : Nat → Nat) (M : mT) (p b k : Nat) (S : xS) : Prop :=
  (∀ j, j < k → j < M 12 0 → M 14 j = p → xi S (qa j) 9 = nI (mlay M p b j) ∧ xi S (qa j) 8 = nI (msz M j (mlay M p b j))) ∧ (∀ c j, c ≠ pa p → (∀ q, q < M 12 0 → M 14 q = p → c ≠ qa q) → xi S c j = xi S0 c j) ∧ xi S (pa p) 5 = nI b
set_option maxHeartbeats 4000000 in
set_option maxRecDepth 100000 in
theorem placePart_end {p b f : Nat} (hb : mlay M p b (M 12 0) ≤ 1074937820) (hp : p < M 4 0) {S0 : xS} (h0 : rC S0 th ar pa qa la M) {V : xKt} {Q : Option xVal → xS → Prop}
    (hV : xCl l D n0 3 cS_placePart false (some .int) (xrm mS_placePart 0 0) V (xE 0 0 Q))
    (hQ : ∀ S, xCa ar S0 S → rL S0 pa qa M p b (M 12 0) S → xi S (pa p) 6 = nI (mlay M p b (M 12 0)) → Q (some (.inl (nI (mlay M p b (M 12 0))))) S)
    (k : Nat) (S : xS) (hk : k ≤ M 12 0) (hc : xCa ar S0 S) (hL : rL S0 pa qa M p b k S) (hm : mnx M p k (M 12 0 - k) = none) : V 21 [some (.inr (.inr (some (pa p)))), some (.inl (nI f)), some (.inl (nI (mlay M p b k))), some (.inr (.inr ((mnx M p k (M 12 0 - k)).map qa)))] [] S 0 0 := by
  have h := h0.ca hc
  have p1 := (h.2.2.2.1 p hp).1.1
  have hnone := (mnx_none_iff _ _).mp hm
  have hsk := mlay_skip (M := M) (p := p) (b := b) (M 12 0 - k) k (fun i h1 h2 => hnone i h1 h2)
  rw [show k + (M 12 0 - k) = M 12 0 by omega] at hsk
  rw [hm, ← hsk, Option.map_none]
  refine xrun_ok hV [] 20 _ _ _ _ _ _ ?_
  simp (maxDischargeDepth := 60) only [xrun, xisc, ↓xstep, xget, xtgt, xcmp, xacmp, xprev, xisR, xnt, List.set, List.length, xsw, xlk, true_or, or_true, if_true, if_false, true_and, and_true, List.mem_cons, List.not_mem_nil, or_false, false_or, Bool.false_eq_true, reduceCtorEq, not_false_eq_true, forall_const, Nat.zero_add, Nat.reduceAdd, Nat.reduceSub, Int.reduceAdd, Int.reduceNeg, Int.reduceToNat, Nat.reduceEqDiff, Nat.reduceLT, Nat.reduceLeDiff, Int.reduceLE, Int.reduceLT, reduceIte, Int.cast_ofNat_Int, Int.natCast_zero, Int.natCast_one, Int.reduceAdd, eq_self, Int.reduceSub, List.length_cons, List.length_nil, xli_m1, xli_0, xli_1, xli_2, xli_3, xli_4, xli_5, xlb_8, xlb_12, xlb_31, xlb_32, xlb_64, xls_256, xls_513, xls_2048, xls_4096, xll_0, xll_1, xnr_i, xnr_0, xnr_1, xnr_ite, xft_i, xft_0, xft_1, xat_999, xat_1001, xat_1002, xat_1003, xat_2001, xat_2002, xat_2003, List.getElem?_cons_succ, List.getElem?_cons_zero, xfn_0, xfn_1, xfn_2, xfn_3, x10, x01, not_true_eq_false, false_implies, implies_true, true_implies, xrm_c, xrm_s, xnl_4, xnl_32, xnl_64, xnl_256, xtn_4, xtn_32, xtn_64, xtn_256, Option.some.injEq, Sum.inl.injEq, Sum.inr.injEq, exists_eq_left', exists_eq_right, Option.toList_some, Option.toList_none, List.cons_append, List.nil_append, xE, lg_cmp_ge, lg_cmp_le, lg_cmp_gt, lg_cmp_lt, lg_cmp_eq, Nat.le_refl, Nat.zero_le, ne_eq, Nat.add_zero, dS_placePart_0, dS_placePart_1, dS_placePart_2, dS_placePart_3, dS_placePart_6, dS_placePart_9, dS_placePart_10, dS_placePart_11, dS_placePart_12, dS_placePart_13, dS_placePart_16, dS_placePart_17, dS_placePart_20, dS_placePart_21, dS_placePart_22, dS_placePart_25, dS_placePart_26, dS_placePart_27, dS_placePart_30, dS_placePart_31, dS_placePart_34, dS_placePart_35, dS_placePart_38, dS_placePart_39, dS_placePart_40, dS_placePart_41, dS_placePart_44, dS_placePart_47, dS_placePart_48, dS_placePart_51, dS_placePart_54, dS_placePart_57, dS_placePart_58, dS_placePart_59, dS_placePart_62, dS_placePart_63, dS_placePart_64, dS_placePart_65, dS_placePart_68, dS_placePart_69, dS_placePart_72, dS_placePart_73, dS_placePart_74, dS_placePart_77, dS_placePart_78, xf_3_207, xf_3_177, xf_3_208, xf_3_151, xf_3_86, xf_3_154, xf_3_89, xf_3_135, xf_3_216, xf_3_180, p1, xc_pi]
  refine hQ _ (xCa.tr h0 hc (xCa.pi (Or.inl ⟨p1, Or.inr rfl⟩))) ⟨fun j h1 h2 h3 => ?_, fun c j h1 h2 => ?_, ?_⟩ ?_
  · have hne : qa j ≠ pa p := h.nQ h2 p1 (by decide)
    rw [xi_pi, if_neg (fun z => hne z.1), xi_pi, if_neg (fun z => hne z.1)]
    by_cases e : j < k
    · exact hL.1 j e h2 h3
    · exact absurd h3 (hnone j (by omega) (by omega))
  · rw [xi_pi, if_neg (fun z => h1 z.1)]
    exact hL.2.1 c j h1 h2
  · rw [xi_pi, if_neg (by simp)]
    exact hL.2.2
  · rw [xi_pi, if_pos ⟨rfl, rfl⟩]
set_option maxHeartbeats 4000000 in
set_option maxRecDepth 100000 in
theorem placePart_loop {p b f : Nat} (hb : mlay M p b (M 12 0) ≤ 1074937820) (hp : p < M 4 0) {S0 : xS} (h0 : rC S0 th ar pa qa la M) {V : xKt} {Q : Option xVal → xS → Prop}
    (hV : xCl l D n0 3 cS_placePart false (some .int) (xrm mS_placePart 0 0) V (xE 0 0 Q))
    (hQ : ∀ S, xCa ar S0 S → rL S0 pa qa M p b (M 12 0) S → xi S (pa p) 6 = nI (mlay M p b (M 12 0)) → Q (some (.inl (nI (mlay M p b (M 12 0))))) S) :
    ∀ (n k : Nat) (S : xS), k ≤ M 12 0 → M 12 0 - k ≤ n → xCa ar S0 S → rL S0 pa qa M p b k S → V 21 [some (.inr (.inr (some (pa p)))), some (.inl (nI f)), some (.inl (nI (mlay M p b k))), some (.inr (.inr ((mnx M p k (M 12 0 - k)).map qa)))] [] S 0 0 := by
  intro n
  induction n with
  | zero =>
    intro k S hk hn hc hL
    have : k = M 12 0 := by omega
    subst this
    exact placePart_end hb hp h0 hV hQ _ S (Nat.le_refl _) hc hL (by rw [Nat.sub_self]; rfl)
  | succ n ih =>
    intro k S hk hn hc hL
    cases hm : mnx M p k (M 12 0 - k) with
    | none =>
      have := placePart_end (f := f) hb hp h0 hV hQ k S hk hc hL hm
      rw [hm] at this
      exact this
    | some j =>
      have h := h0.ca hc
      obtain ⟨j1, j2, j3⟩ := mnx_lt _ _ _ hm
      have hj : j < M 12 0 := by omega
      have hsk : mlay M p b j = mlay M p b k := by
        have := mlay_skip (M := M) (p := p) (b := b) (j - k) k (fun i h1 h2 => mnx_first _ _ _ hm i h1 (by omega))
        rw [show k + (j - k) = j by omega] at this
        exact this
      have hla : mlay M p b (j + 1) = mlay M p b j + msz M j (mlay M p b j) := by rw [mlay, if_pos j3]
      have hle : mlay M p b (j + 1) ≤ 1074937820 := by
        have := mlay_mono M p b (j + 1) (M 12 0 - (j + 1))
        rw [show j + 1 + (M 12 0 - (j + 1)) = M 12 0 by omega] at this
        omega
      rw [← hsk, Option.map_some]
      obtain ⟨⟨q1, q2⟩, ⟨q3, -, -, -, -, q4, q5, -⟩, q6, -, q7⟩ := h.2.2.2.2.1 j hj
      have hw := h.1.2.2.2.1 j hj
      have hx4 : (nI (M 13 j) = 4) = (M 13 j = 4) := propext (nI_eq (b := 4) (by omega) (by decide))
      have hnx : (mnext M j).map qa = (mnx M p (j + 1) (M 12 0 - (j + 1))).map qa := by unfold mnext; rw [j3]
      rw [hnx] at q7
      have hcp : ∀ S1 : xS, xc S1 (qa j) = 3 → xCp ar S1 (qa j) 9 := fun S1 hS => Or.inr (Or.inl ⟨hS, Or.inl rfl⟩)
      have hne : qa j ≠ pa p := h.nQ hj (h.2.2.2.1 p hp).1.1 (by decide)
      -- behind the piece
      have step : ∀ S1 : xS, xCa ar S0 S1 → (∀ i, i < k → i < M 12 0 → M 14 i = p → xi S1 (qa i) 9 = xi S (qa i) 9 ∧ xi S1 (qa i) 8 = xi S (qa i) 8) → (∀ c i, c ≠ qa j → xi S1 c i = xi S c i) → xi S1 (qa j) 9 = nI (mlay M p b j) → xi S1 (qa j) 8 = nI (msz M j (mlay M p b j)) → V 57 [some (.inr (.inr (some (pa p)))), some (.inl (nI f)), some (.inl (nI (mlay M p b j))), some (.inr (.inr (some (qa j))))] [] S1 0 0 := by
        intro S1 hc1 e1 e2 e3 e4
        have hh := h0.ca hc1
        have r1 := (hh.2.2.2.2.1 j hj).1.1
        have r2 : xr S1 (qa j) 12 = (mnx M p (j + 1) (M 12 0 - (j + 1))).map qa := by rw [hc1.2.2.2.1, ← hc.2.2.2.1]; exact q7
        refine xrun_ok hV [21] 20 _ _ _ _ _ _ ?_
        simp (maxDischargeDepth := 60) only [xrun, xisc, ↓xstep, xget, xtgt, xcmp, xacmp, xprev, xisR, xnt, List.set, List.length, xsw, xlk, true_or, or_true, if_true, if_false, true_and, and_true, List.mem_cons, List.not_mem_nil, or_false, false_or, Bool.false_eq_true, reduceCtorEq, not_false_eq_true, forall_const, Nat.zero_add, Nat.reduceAdd, Nat.reduceSub, Int.reduceAdd, Int.reduceNeg, Int.reduceToNat, Nat.reduceEqDiff, Nat.reduceLT, Nat.reduceLeDiff, Int.reduceLE, Int.reduceLT, reduceIte, Int.cast_ofNat_Int, Int.natCast_zero, Int.natCast_one, Int.reduceAdd, eq_self, Int.reduceSub, List.length_cons, List.length_nil, xli_m1, xli_0, xli_1, xli_2, xli_3, xli_4, xli_5, xlb_8, xlb_12, xlb_31, xlb_32, xlb_64, xls_256, xls_513, xls_2048, xls_4096, xll_0, xll_1, xnr_i, xnr_0, xnr_1, xnr_ite, xft_i, xft_0, xft_1, xat_999, xat_1001, xat_1002, xat_1003, xat_2001, xat_2002, xat_2003, List.getElem?_cons_succ, List.getElem?_cons_zero, xfn_0, xfn_1, xfn_2, xfn_3, x10, x01, not_true_eq_false, false_implies, implies_true, true_implies, xrm_c, xrm_s, xnl_4, xnl_32, xnl_64, xnl_256, xtn_4, xtn_32, xtn_64, xtn_256, Option.some.injEq, Sum.inl.injEq, Sum.inr.injEq, exists_eq_left', exists_eq_right, Option.toList_some, Option.toList_none, List.cons_append, List.nil_append, xE, lg_cmp_ge, lg_cmp_le, lg_cmp_gt, lg_cmp_lt, lg_cmp_eq, Nat.le_refl, Nat.zero_le, ne_eq, Nat.add_zero, dS_placePart_0, dS_placePart_1, dS_placePart_2, dS_placePart_3, dS_placePart_6, dS_placePart_9, dS_placePart_10, dS_placePart_11, dS_placePart_12, dS_placePart_13, dS_placePart_16, dS_placePart_17, dS_placePart_20, dS_placePart_21, dS_placePart_22, dS_placePart_25, dS_placePart_26, dS_placePart_27, dS_placePart_30, dS_placePart_31, dS_placePart_34, dS_placePart_35, dS_placePart_38, dS_placePart_39, dS_placePart_40, dS_placePart_41, dS_placePart_44, dS_placePart_47, dS_placePart_48, dS_placePart_51, dS_placePart_54, dS_placePart_57, dS_placePart_58, dS_placePart_59, dS_placePart_62, dS_placePart_63, dS_placePart_64, dS_placePart_65, dS_placePart_68, dS_placePart_69, dS_placePart_72, dS_placePart_73, dS_placePart_74, dS_placePart_77, dS_placePart_78, xf_3_207, xf_3_177, xf_3_208, xf_3_151, xf_3_86, xf_3_154, xf_3_89, xf_3_135, xf_3_216, xf_3_180, r1, r2, e4]
        rw [nI_add, ← hla]
        refine ih (j + 1) S1 (by omega) (by omega) hc1 ⟨fun i h1 h2 h3 => ?_, fun c i h1 h2 => ?_, ?_⟩
        · by_cases e : i = j
          · subst e; exact ⟨e3, e4⟩
          · by_cases e5 : i < k
            · obtain ⟨e6, e7⟩ := e1 i e5 h2 h3
              rw [e6, e7]
              exact hL.1 i e5 h2 h3
            · exact absurd h3 (mnx_first _ _ _ hm i (by omega) (by omega))
        · rw [e2 c i (h2 j hj j3)]
          exact hL.2.1 c i h1 h2
        · rw [e2 _ _ (Ne.symm hne)]
          exact hL.2.2
      have hS1 : xCa ar S0 (xpi S (qa j) 9 (nI (mlay M p b j))) := xCa.tr h0 hc (xCa.pi (hcp S q1))
      have hij : ∀ i, i < k → i < M 12 0 → qa i ≠ qa j := fun i h1 h2 z => by have := h.2.2.2.2.2.2.2.1 i j h2 hj z; omega
      refine xrun_ok hV [57] 30 _ _ _ _ _ _ ?_
      simp (maxDischargeDepth := 60) only [xrun, xisc, ↓xstep, xget, xtgt, xcmp, xacmp, xprev, xisR, xnt, List.set, List.length, xsw, xlk, true_or, or_true, if_true, if_false, true_and, and_true, List.mem_cons, List.not_mem_nil, or_false, false_or, Bool.false_eq_true, reduceCtorEq, not_false_eq_true, forall_const, Nat.zero_add, Nat.reduceAdd, Nat.reduceSub, Int.reduceAdd, Int.reduceNeg, Int.reduceToNat, Nat.reduceEqDiff, Nat.reduceLT, Nat.reduceLeDiff, Int.reduceLE, Int.reduceLT, reduceIte, Int.cast_ofNat_Int, Int.natCast_zero, Int.natCast_one, Int.reduceAdd, eq_self, Int.reduceSub, List.length_cons, List.length_nil, xli_m1, xli_0, xli_1, xli_2, xli_3, xli_4, xli_5, xlb_8, xlb_12, xlb_31, xlb_32, xlb_64, xls_256, xls_513, xls_2048, xls_4096, xll_0, xll_1, xnr_i, xnr_0, xnr_1, xnr_ite, xft_i, xft_0, xft_1, xat_999, xat_1001, xat_1002, xat_1003, xat_2001, xat_2002, xat_2003, List.getElem?_cons_succ, List.getElem?_cons_zero, xfn_0, xfn_1, xfn_2, xfn_3, x10, x01, not_true_eq_false, false_implies, implies_true, true_implies, xrm_c, xrm_s, xnl_4, xnl_32, xnl_64, xnl_256, xtn_4, xtn_32, xtn_64, xtn_256, Option.some.injEq, Sum.inl.injEq, Sum.inr.injEq, exists_eq_left', exists_eq_right, Option.toList_some, Option.toList_none, List.cons_append, List.nil_append, xE, lg_cmp_ge, lg_cmp_le, lg_cmp_gt, lg_cmp_lt, lg_cmp_eq, Nat.le_refl, Nat.zero_le, ne_eq, Nat.add_zero, dS_placePart_0, dS_placePart_1, dS_placePart_2, dS_placePart_3, dS_placePart_6, dS_placePart_9, dS_placePart_10, dS_placePart_11, dS_placePart_12, dS_placePart_13, dS_placePart_16, dS_placePart_17, dS_placePart_20, dS_placePart_21, dS_placePart_22, dS_placePart_25, dS_placePart_26, dS_placePart_27, dS_placePart_30, dS_placePart_31, dS_placePart_34, dS_placePart_35, dS_placePart_38, dS_placePart_39, dS_placePart_40, dS_placePart_41, dS_placePart_44, dS_placePart_47, dS_placePart_48, dS_placePart_51, dS_placePart_54, dS_placePart_57, dS_placePart_58, dS_placePart_59, dS_placePart_62, dS_placePart_63, dS_placePart_64, dS_placePart_65, dS_placePart_68, dS_placePart_69, dS_placePart_72, dS_placePart_73, dS_placePart_74, dS_placePart_77, dS_placePart_78, xf_3_207, xf_3_177, xf_3_208, xf_3_151, xf_3_86, xf_3_154, xf_3_89, xf_3_135, xf_3_216, xf_3_180, q1, q3, q4, q5, xc_pi, xi_pi, hx4]
      refine ⟨fun z => ?_, fun z => ?_⟩
      · refine step _ hS1 (fun i h1 h2 h3 => ⟨?_, ?_⟩) (fun c i h1 => ?_) ?_ ?_
        · rw [xi_pi, if_neg (fun w => hij i h1 h2 w.1)]
        · rw [xi_pi, if_neg (fun w => hij i h1 h2 w.1)]
        · rw [xi_pi, if_neg (fun w => h1 w.1)]
        · rw [xi_pi, if_pos ⟨rfl, rfl⟩]
        · rw [xi_pi, if_neg (by simp), q6 z, msz, if_neg z]
      · have q5' := q5 (by simp [maim, z])
        have hpd := mpad_lt (x := mlay M p b j) hw.2.2.2.2.2
        have hmo := h.1.2.2.2.2.2.2.1 j hj z
        refine hV.call [.inr (.inr (some (qa j)))] xh_3_157 dS_placePart_44 (c_bytes (xpi S (qa j) 9 (nI (mlay M p b j))) (x := mlay M p b j) (p := M 17 j) (by omega) hw.2.2.2.2.2) (Or.inl rfl) rfl rfl (Nat.le_of_ble_eq_true rfl) (by decide) (by decide) ?_
        rintro r S2 ⟨rfl, rfl⟩
        refine xrun_ok hV [57] 30 _ _ _ _ _ _ ?_
        simp (maxDischargeDepth := 60) only [xrun, xisc, ↓xstep, xget, xtgt, xcmp, xacmp, xprev, xisR, xnt, List.set, List.length, xsw, xlk, true_or, or_true, if_true, if_false, true_and, and_true, List.mem_cons, List.not_mem_nil, or_false, false_or, Bool.false_eq_true, reduceCtorEq, not_false_eq_true, forall_const, Nat.zero_add, Nat.reduceAdd, Nat.reduceSub, Int.reduceAdd, Int.reduceNeg, Int.reduceToNat, Nat.reduceEqDiff, Nat.reduceLT, Nat.reduceLeDiff, Int.reduceLE, Int.reduceLT, reduceIte, Int.cast_ofNat_Int, Int.natCast_zero, Int.natCast_one, Int.reduceAdd, eq_self, Int.reduceSub, List.length_cons, List.length_nil, xli_m1, xli_0, xli_1, xli_2, xli_3, xli_4, xli_5, xlb_8, xlb_12, xlb_31, xlb_32, xlb_64, xls_256, xls_513, xls_2048, xls_4096, xll_0, xll_1, xnr_i, xnr_0, xnr_1, xnr_ite, xft_i, xft_0, xft_1, xat_999, xat_1001, xat_1002, xat_1003, xat_2001, xat_2002, xat_2003, List.getElem?_cons_succ, List.getElem?_cons_zero, xfn_0, xfn_1, xfn_2, xfn_3, x10, x01, not_true_eq_false, false_implies, implies_true, true_implies, xrm_c, xrm_s, xnl_4, xnl_32, xnl_64, xnl_256, xtn_4, xtn_32, xtn_64, xtn_256, Option.some.injEq, Sum.inl.injEq, Sum.inr.injEq, exists_eq_left', exists_eq_right, Option.toList_some, Option.toList_none, List.cons_append, List.nil_append, xE, lg_cmp_ge, lg_cmp_le, lg_cmp_gt, lg_cmp_lt, lg_cmp_eq, Nat.le_refl, Nat.zero_le, ne_eq, Nat.add_zero, dS_placePart_0, dS_placePart_1, dS_placePart_2, dS_placePart_3, dS_placePart_6, dS_placePart_9, dS_placePart_10, dS_placePart_11, dS_placePart_12, dS_placePart_13, dS_placePart_16, dS_placePart_17, dS_placePart_20, dS_placePart_21, dS_placePart_22, dS_placePart_25, dS_placePart_26, dS_placePart_27, dS_placePart_30, dS_placePart_31, dS_placePart_34, dS_placePart_35, dS_placePart_38, dS_placePart_39, dS_placePart_40, dS_placePart_41, dS_placePart_44, dS_placePart_47, dS_placePart_48, dS_placePart_51, dS_placePart_54, dS_placePart_57, dS_placePart_58, dS_placePart_59, dS_placePart_62, dS_placePart_63, dS_placePart_64, dS_placePart_65, dS_placePart_68, dS_placePart_69, dS_placePart_72, dS_placePart_73, dS_placePart_74, dS_placePart_77, dS_placePart_78, xf_3_207, xf_3_177, xf_3_208, xf_3_151, xf_3_86, xf_3_154, xf_3_89, xf_3_135, xf_3_216, xf_3_180, q1, q3, q4, q5', xc_pi, xi_pi, hx4]
        refine hV.call [.inr (.inr (some (qa j)))] xh_3_211 dS_placePart_51 (c_min (xpi S (qa j) 9 (nI (mlay M p b j))) (nI (mpad (mlay M p b j) (M 17 j))) (nI (M 16 j))) (Or.inl rfl) rfl rfl (Nat.le_of_ble_eq_true rfl) (by decide) (by decide) ?_
        rintro r S2 ⟨rfl, rfl⟩
        have hmin : (if nI (M 16 j) < nI (mpad (mlay M p b j) (M 17 j)) then nI (M 16 j) else nI (mpad (mlay M p b j) (M 17 j))) = nI (msz M j (mlay M p b j)) := by
          unfold msz
          rw [if_pos z]
          by_cases y : M 16 j < mpad (mlay M p b j) (M 17 j)
          · rw [if_pos (nI_lt y (by omega)), Nat.min_eq_right (by omega)]
          · rw [if_neg (nI_nlt (by omega) (by omega)), Nat.min_eq_left (by omega)]
        rw [hmin]
        refine xrun_ok hV [57] 30 _ _ _ _ _ _ ?_
        simp (maxDischargeDepth := 60) only [xrun, xisc, ↓xstep, xget, xtgt, xcmp, xacmp, xprev, xisR, xnt, List.set, List.length, xsw, xlk, true_or, or_true, if_true, if_false, true_and, and_true, List.mem_cons, List.not_mem_nil, or_false, false_or, Bool.false_eq_true, reduceCtorEq, not_false_eq_true, forall_const, Nat.zero_add, Nat.reduceAdd, Nat.reduceSub, Int.reduceAdd, Int.reduceNeg, Int.reduceToNat, Nat.reduceEqDiff, Nat.reduceLT, Nat.reduceLeDiff, Int.reduceLE, Int.reduceLT, reduceIte, Int.cast_ofNat_Int, Int.natCast_zero, Int.natCast_one, Int.reduceAdd, eq_self, Int.reduceSub, List.length_cons, List.length_nil, xli_m1, xli_0, xli_1, xli_2, xli_3, xli_4, xli_5, xlb_8, xlb_12, xlb_31, xlb_32, xlb_64, xls_256, xls_513, xls_2048, xls_4096, xll_0, xll_1, xnr_i, xnr_0, xnr_1, xnr_ite, xft_i, xft_0, xft_1, xat_999, xat_1001, xat_1002, xat_1003, xat_2001, xat_2002, xat_2003, List.getElem?_cons_succ, List.getElem?_cons_zero, xfn_0, xfn_1, xfn_2, xfn_3, x10, x01, not_true_eq_false, false_implies, implies_true, true_implies, xrm_c, xrm_s, xnl_4, xnl_32, xnl_64, xnl_256, xtn_4, xtn_32, xtn_64, xtn_256, Option.some.injEq, Sum.inl.injEq, Sum.inr.injEq, exists_eq_left', exists_eq_right, Option.toList_some, Option.toList_none, List.cons_append, List.nil_append, xE, lg_cmp_ge, lg_cmp_le, lg_cmp_gt, lg_cmp_lt, lg_cmp_eq, Nat.le_refl, Nat.zero_le, ne_eq, Nat.add_zero, dS_placePart_0, dS_placePart_1, dS_placePart_2, dS_placePart_3, dS_placePart_6, dS_placePart_9, dS_placePart_10, dS_placePart_11, dS_placePart_12, dS_placePart_13, dS_placePart_16, dS_placePart_17, dS_placePart_20, dS_placePart_21, dS_placePart_22, dS_placePart_25, dS_placePart_26, dS_placePart_27, dS_placePart_30, dS_placePart_31, dS_placePart_34, dS_placePart_35, dS_placePart_38, dS_placePart_39, dS_placePart_40, dS_placePart_41, dS_placePart_44, dS_placePart_47, dS_placePart_48, dS_placePart_51, dS_placePart_54, dS_placePart_57, dS_placePart_58, dS_placePart_59, dS_placePart_62, dS_placePart_63, dS_placePart_64, dS_placePart_65, dS_placePart_68, dS_placePart_69, dS_placePart_72, dS_placePart_73, dS_placePart_74, dS_placePart_77, dS_placePart_78, xf_3_207, xf_3_177, xf_3_208, xf_3_151, xf_3_86, xf_3_154, xf_3_89, xf_3_135, xf_3_216, xf_3_180, q1, q3, q4, q5', xc_pi, xi_pi, hx4]
        have q0 : xi (xpi S (qa j) 9 (nI (mlay M p b j))) (qa j) 0 = nI 4 := by rw [xi_pi, if_neg (by simp), q3, z]
        refine step _ (xCa.tr h0 hS1 (xCa.pi (Or.inr (Or.inl ⟨q1, Or.inr (Or.inr ⟨rfl, q0⟩)⟩)))) (fun i h1 h2 h3 => ⟨?_, ?_⟩) (fun c i h1 => ?_) ?_ ?_
        · rw [xi_pi, if_neg (fun w => hij i h1 h2 w.1), xi_pi, if_neg (fun w => hij i h1 h2 w.1)]
        · rw [xi_pi, if_neg (fun w => hij i h1 h2 w.1), xi_pi, if_neg (fun w => hij i h1 h2 w.1)]
        · rw [xi_pi, if_neg (fun w => h1 w.1), xi_pi, if_neg (fun w => h1 w.1)]
        · rw [xi_pi, if_neg (by simp), xi_pi, if_pos ⟨rfl, rfl⟩]
        · rw [xi_pi, if_pos ⟨rfl, rfl⟩]
end PLACE
end
section
/-! THE CLASS: an output is laid out, and all outputs -/
section SURVEY
variable {l : Launch} {D : va_G} {n0 : Nat} {S S' : xS} {th : Nat} {ar pa qa la : Nat → Nat} {M : mT}
set_option maxHeartbeats 4000000 in
set_option maxRecDepth 100000 in
theorem c_placePart (h : rC S th ar pa qa la M) {p f : Nat} (hp : p < M 4 0) (hb : mlay M p (mup f (M 6 p)) (M 12 0) ≤ 1074937820) : xMet l D n0 mS_placePart 0 0 [.inr (.inr (some (pa p))), .inl (nI f)] S (fun r S' => r = some (.inl (nI (mlay M p (mup f (M 6 p)) (M 12 0)))) ∧ xCa ar S S' ∧ rL S pa qa M p (mup f (M 6 p)) (M 12 0) S' ∧ xi S' (pa p) 6 = nI (mlay M p (mup f (M 6 p)) (M 12 0))) := by
  refine xMet.of (k := mS_placePart) (own := 3) (ini := false) xm_S_placePart (by decide +kernel) (by decide +kernel) (by decide) (Nat.le_of_ble_eq_true rfl) ?_
  intro V hV
  show V 0 [some (.inr (.inr (some (pa p)))), some (.inl (nI f)), none, none] [] S 0 0
  obtain ⟨⟨p1, -⟩, ⟨-, -, p2, -, -⟩, p3, -⟩ := h.2.2.2.1 p hp
  have hw := (h.1.2.2.1 p hp).2.1
  have hge := mlay_mono M p (mup f (M 6 p)) 0 (M 12 0)
  simp only [mlay, Nat.zero_add] at hge
  have hge2 := mup_ge f (M 6 p)
  refine xrun_ok hV [] 20 _ _ _ _ _ _ ?_
  simp (maxDischargeDepth := 60) only [xrun, xisc, ↓xstep, xget, xtgt, xcmp, xacmp, xprev, xisR, xnt, List.set, List.length, xsw, xlk, true_or, or_true, if_true, if_false, true_and, and_true, List.mem_cons, List.not_mem_nil, or_false, false_or, Bool.false_eq_true, reduceCtorEq, not_false_eq_true, forall_const, Nat.zero_add, Nat.reduceAdd, Nat.reduceSub, Int.reduceAdd, Int.reduceNeg, Int.reduceToNat, Nat.reduceEqDiff, Nat.reduceLT, Nat.reduceLeDiff, Int.reduceLE, Int.reduceLT, reduceIte, Int.cast_ofNat_Int, Int.natCast_zero, Int.natCast_one, Int.reduceAdd, eq_self, Int.reduceSub, List.length_cons, List.length_nil, xli_m1, xli_0, xli_1, xli_2, xli_3, xli_4, xli_5, xlb_8, xlb_12, xlb_31, xlb_32, xlb_64, xls_256, xls_513, xls_2048, xls_4096, xll_0, xll_1, xnr_i, xnr_0, xnr_1, xnr_ite, xft_i, xft_0, xft_1, xat_999, xat_1001, xat_1002, xat_1003, xat_2001, xat_2002, xat_2003, List.getElem?_cons_succ, List.getElem?_cons_zero, xfn_0, xfn_1, xfn_2, xfn_3, x10, x01, not_true_eq_false, false_implies, implies_true, true_implies, xrm_c, xrm_s, xnl_4, xnl_32, xnl_64, xnl_256, xtn_4, xtn_32, xtn_64, xtn_256, Option.some.injEq, Sum.inl.injEq, Sum.inr.injEq, exists_eq_left', exists_eq_right, Option.toList_some, Option.toList_none, List.cons_append, List.nil_append, xE, lg_cmp_ge, lg_cmp_le, lg_cmp_gt, lg_cmp_lt, lg_cmp_eq, Nat.le_refl, Nat.zero_le, ne_eq, Nat.add_zero, dS_placePart_0, dS_placePart_1, dS_placePart_2, dS_placePart_3, dS_placePart_6, dS_placePart_9, dS_placePart_10, dS_placePart_11, dS_placePart_12, dS_placePart_13, dS_placePart_16, dS_placePart_17, dS_placePart_20, dS_placePart_21, dS_placePart_22, dS_placePart_25, dS_placePart_26, dS_placePart_27, dS_placePart_30, dS_placePart_31, dS_placePart_34, dS_placePart_35, dS_placePart_38, dS_placePart_39, dS_placePart_40, dS_placePart_41, dS_placePart_44, dS_placePart_47, dS_placePart_48, dS_placePart_51, dS_placePart_54, dS_placePart_57, dS_placePart_58, dS_placePart_59, dS_placePart_62, dS_placePart_63, dS_placePart_64, dS_placePart_65, dS_placePart_68, dS_placePart_69, dS_placePart_72, dS_placePart_73, dS_placePart_74, dS_placePart_77, dS_placePart_78, xf_3_207, xf_3_177, xf_3_208, xf_3_151, xf_3_86, xf_3_154, xf_3_89, xf_3_135, xf_3_216, xf_3_180, p1, p2]
  refine hV.call [.inl (nI f)] xh_3_157 dS_placePart_6 (c_bytes S (x := f) (p := M 6 p) (by omega) hw) (Or.inl rfl) rfl rfl (Nat.le_of_ble_eq_true rfl) (by decide) (by decide) ?_
  rintro r S2 ⟨rfl, rfl⟩
  have hbb : nI f + nI (mpad f (M 6 p)) = nI (mup f (M 6 p)) := nI_add _ _
  refine xrun_ok hV [21] 20 _ _ _ _ _ _ ?_
  simp (maxDischargeDepth := 60) only [xrun, xisc, ↓xstep, xget, xtgt, xcmp, xacmp, xprev, xisR, xnt, List.set, List.length, xsw, xlk, true_or, or_true, if_true, if_false, true_and, and_true, List.mem_cons, List.not_mem_nil, or_false, false_or, Bool.false_eq_true, reduceCtorEq, not_false_eq_true, forall_const, Nat.zero_add, Nat.reduceAdd, Nat.reduceSub, Int.reduceAdd, Int.reduceNeg, Int.reduceToNat, Nat.reduceEqDiff, Nat.reduceLT, Nat.reduceLeDiff, Int.reduceLE, Int.reduceLT, reduceIte, Int.cast_ofNat_Int, Int.natCast_zero, Int.natCast_one, Int.reduceAdd, eq_self, Int.reduceSub, List.length_cons, List.length_nil, xli_m1, xli_0, xli_1, xli_2, xli_3, xli_4, xli_5, xlb_8, xlb_12, xlb_31, xlb_32, xlb_64, xls_256, xls_513, xls_2048, xls_4096, xll_0, xll_1, xnr_i, xnr_0, xnr_1, xnr_ite, xft_i, xft_0, xft_1, xat_999, xat_1001, xat_1002, xat_1003, xat_2001, xat_2002, xat_2003, List.getElem?_cons_succ, List.getElem?_cons_zero, xfn_0, xfn_1, xfn_2, xfn_3, x10, x01, not_true_eq_false, false_implies, implies_true, true_implies, xrm_c, xrm_s, xnl_4, xnl_32, xnl_64, xnl_256, xtn_4, xtn_32, xtn_64, xtn_256, Option.some.injEq, Sum.inl.injEq, Sum.inr.injEq, exists_eq_left', exists_eq_right, Option.toList_some, Option.toList_none, List.cons_append, List.nil_append, xE, lg_cmp_ge, lg_cmp_le, lg_cmp_gt, lg_cmp_lt, lg_cmp_eq, Nat.le_refl, Nat.zero_le, ne_eq, Nat.add_zero, dS_placePart_0, dS_placePart_1, dS_placePart_2, dS_placePart_3, dS_placePart_6, dS_placePart_9, dS_placePart_10, dS_placePart_11, dS_placePart_12, dS_placePart_13, dS_placePart_16, dS_placePart_17, dS_placePart_20, dS_placePart_21, dS_placePart_22, dS_placePart_25, dS_placePart_26, dS_placePart_27, dS_placePart_30, dS_placePart_31, dS_placePart_34, dS_placePart_35, dS_placePart_38, dS_placePart_39, dS_placePart_40, dS_placePart_41, dS_placePart_44, dS_placePart_47, dS_placePart_48, dS_placePart_51, dS_placePart_54, dS_placePart_57, dS_placePart_58, dS_placePart_59, dS_placePart_62, dS_placePart_63, dS_placePart_64, dS_placePart_65, dS_placePart_68, dS_placePart_69, dS_placePart_72, dS_placePart_73, dS_placePart_74, dS_placePart_77, dS_placePart_78, xf_3_207, xf_3_177, xf_3_208, xf_3_151, xf_3_86, xf_3_154, xf_3_89, xf_3_135, xf_3_216, xf_3_180, p1, p2, p3, xc_pi, xr_pi, hbb]
  have := placePart_loop (f := f) hb hp h hV (fun S1 h1 h2 h3 => ⟨rfl, h1, h2, h3⟩) (M 12 0) 0 (xpi S2 (pa p) 5 (nI (mup f (M 6 p)))) (Nat.zero_le _) (by omega) (xCa.pi (Or.inl ⟨p1, Or.inl rfl⟩)) ⟨fun j h1 => absurd h1 (by omega), fun c j h1 h2 => by rw [xi_pi, if_neg (fun z => h1 z.1)], by rw [xi_pi, if_pos ⟨rfl, rfl⟩]⟩
  exact this
/-- a part's places, as they are to be -/
def kP (S : xS) (pa qa : Nat → Nat) (M : mT) (q : Nat) : Prop := xi S (pa q) 5 = nI (mpb M q) ∧ xi S (pa q) 6 = nI (mpe M q) ∧ ∀ k, k < M 12 0 → M 14 k = q → xi S (qa k) 9 = nI (mpl M k) ∧ xi S (qa k) 8 = nI (msize M k)
def kO (S : xS) (ar pa qa : Nat → Nat) (M : mT) (o p : Nat) : Prop := (∀ q, q < M 4 0 → M 8 q = 0 → (M 5 q < o ∨ (M 5 q = o ∧ q < p)) → kP S pa qa M q) ∧ ∀ o', o' < o → xi S (ar 4) o' = nI (mob M o') ∧ xi S (ar 5) o' = nI (mend M (o' + 1))
set_option maxHeartbeats 4000000 in
set_option maxRecDepth 100000 in
theorem placeOutput_loop {o : Nat} (ho : o < 4) {S0 : xS} (h0 : rC S0 th ar pa qa la M) {V : xKt} {Q : Option xVal → xS → Prop}
    (hV : xCl l D n0 3 cS_placeOutput false (some .int) (xrm mS_placeOutput 0 0) V (xE 0 0 Q))
    (hQ : ∀ S, xCa ar S0 S → kO S ar pa qa M (o + 1) 0 → Q (some (.inl (nI (mend M (o + 1))))) S) :
    ∀ (n p : Nat) (S : xS), p ≤ M 4 0 → M 4 0 - p = n → xCa ar S0 S → kO S ar pa qa M o p → xi S (ar 4) o = nI (mob M o) → V 34 [some (.inr (.inr (some th))), some (.inl (nI o)), some (.inl (nI (mend M o))), some (.inl (nI (mout M o (mob M o) p))), some (.inr (.inr (some (ar 0)))), some (.inl 32), some (.inl (nI p)), none] [] S 0 0 := by
  intro n
  have hend : ∀ S : xS, xCa ar S0 S → kO S ar pa qa M o (M 4 0) → xi S (ar 4) o = nI (mob M o) → V 86 [some (.inr (.inr (some th))), some (.inl (nI o)), some (.inl (nI (mend M o))), some (.inl (nI (mout M o (mob M o) (M 4 0)))), some (.inr (.inr (some (ar 0)))), some (.inl 32), some (.inl (nI (M 4 0))), none] [] S 0 0 := by
    intro S hc hk ho4
    have h := h0.ca hc
    have h1 := h.th
    have h2 := (h.2.1.2.1 5 (by decide)).1
    have h3 := h.2.1.2.2.1.2.2.2.2.2
    have h4 := h.2.1.2.2.2.1.2.2.2.2.2
    have e0 : (nI o).toNatClampNeg = o := nI_clamp (by omega)
    refine xrun_ok hV [] 20 _ _ _ _ _ _ ?_
    simp (maxDischargeDepth := 60) only [xrun, xisc, ↓xstep, xget, xtgt, xcmp, xacmp, xprev, xisR, xnt, List.set, List.length, xsw, xlk, true_or, or_true, if_true, if_false, true_and, and_true, List.mem_cons, List.not_mem_nil, or_false, false_or, Bool.false_eq_true, reduceCtorEq, not_false_eq_true, forall_const, Nat.zero_add, Nat.reduceAdd, Nat.reduceSub, Int.reduceAdd, Int.reduceNeg, Int.reduceToNat, Nat.reduceEqDiff, Nat.reduceLT, Nat.reduceLeDiff, Int.reduceLE, Int.reduceLT, reduceIte, Int.cast_ofNat_Int, Int.natCast_zero, Int.natCast_one, Int.reduceAdd, eq_self, Int.reduceSub, List.length_cons, List.length_nil, xli_m1, xli_0, xli_1, xli_2, xli_3, xli_4, xli_5, xlb_8, xlb_12, xlb_31, xlb_32, xlb_64, xls_256, xls_513, xls_2048, xls_4096, xll_0, xll_1, xnr_i, xnr_0, xnr_1, xnr_ite, xft_i, xft_0, xft_1, xat_999, xat_1001, xat_1002, xat_1003, xat_2001, xat_2002, xat_2003, List.getElem?_cons_succ, List.getElem?_cons_zero, xfn_0, xfn_1, xfn_2, xfn_3, x10, x01, not_true_eq_false, false_implies, implies_true, true_implies, xrm_c, xrm_s, xnl_4, xnl_32, xnl_64, xnl_256, xtn_4, xtn_32, xtn_64, xtn_256, Option.some.injEq, Sum.inl.injEq, Sum.inr.injEq, exists_eq_left', exists_eq_right, Option.toList_some, Option.toList_none, List.cons_append, List.nil_append, xE, lg_cmp_ge, lg_cmp_le, lg_cmp_gt, lg_cmp_lt, lg_cmp_eq, Nat.le_refl, Nat.zero_le, ne_eq, Nat.add_zero, dS_placeOutput_0, dS_placeOutput_1, dS_placeOutput_2, dS_placeOutput_3, dS_placeOutput_6, dS_placeOutput_7, dS_placeOutput_8, dS_placeOutput_11, dS_placeOutput_12, dS_placeOutput_13, dS_placeOutput_14, dS_placeOutput_17, dS_placeOutput_18, dS_placeOutput_19, dS_placeOutput_20, dS_placeOutput_21, dS_placeOutput_24, dS_placeOutput_26, dS_placeOutput_28, dS_placeOutput_29, dS_placeOutput_31, dS_placeOutput_32, dS_placeOutput_34, dS_placeOutput_36, dS_placeOutput_38, dS_placeOutput_41, dS_placeOutput_43, dS_placeOutput_45, dS_placeOutput_46, dS_placeOutput_48, dS_placeOutput_50, dS_placeOutput_53, dS_placeOutput_56, dS_placeOutput_58, dS_placeOutput_61, dS_placeOutput_62, dS_placeOutput_65, dS_placeOutput_67, dS_placeOutput_70, dS_placeOutput_73, dS_placeOutput_75, dS_placeOutput_76, dS_placeOutput_79, dS_placeOutput_80, dS_placeOutput_83, dS_placeOutput_86, dS_placeOutput_87, dS_placeOutput_90, dS_placeOutput_91, dS_placeOutput_92, dS_placeOutput_93, dS_placeOutput_94, xf_3_27, xf_3_31, xf_3_11, xf_3_174, xf_3_108, xf_3_34, h1, h2, h3, h4, e0]
    have hne : ar 4 ≠ ar 5 := h.2.1.2.2.2.2.1.2.2
    refine ⟨vp_in_nI ho (by decide), hQ _ (xCa.tr h0 hc (xCa.pi (Or.inr (Or.inr (Or.inr rfl))))) ⟨fun q hq hg hoq => ?_, fun o' ho' => ⟨?_, ?_⟩⟩⟩
    · have hkp := hk.1 q hq hg (by omega)
      have n1 : pa q ≠ ar 5 := h.nP hq h3 (by decide)
      refine ⟨?_, ?_, fun k hk' hkq => ⟨?_, ?_⟩⟩
      · rw [xi_pi, if_neg (fun z => n1 z.1)]; exact hkp.1
      · rw [xi_pi, if_neg (fun z => n1 z.1)]; exact hkp.2.1
      · rw [xi_pi, if_neg (fun z => h.nQ hk' h3 (by decide) z.1)]; exact (hkp.2.2 k hk' hkq).1
      · rw [xi_pi, if_neg (fun z => h.nQ hk' h3 (by decide) z.1)]; exact (hkp.2.2 k hk' hkq).2
    · rw [xi_pi, if_neg (fun z => hne z.1)]
      by_cases e : o' = o
      · rw [e]; exact ho4
      · exact (hk.2 o' (by omega)).1
    · rw [xi_pi]
      by_cases e : o' = o
      · rw [if_pos ⟨rfl, e⟩, e]; rfl
      · rw [if_neg (fun z => e z.2)]
        exact (hk.2 o' (by omega)).2
  induction n with
  | zero =>
    intro p S hp hn hc hk ho4
    have : p = M 4 0 := by omega
    subst this
    have h := h0.ca hc
    have h3 := h.2.1.2.2.1.1
    have h4 := h.2.1.2.2.2.1.1
    have hw := h.1.1.2.1
    have h6 : ((32 : Int32) ≤ nI (M 4 0)) = (32 ≤ M 4 0) := xI_le_nI (by omega) 32 (by decide)
    have e0 : (nI (M 4 0)).toNatClampNeg = M 4 0 := nI_clamp (by omega)
    by_cases h32 : 32 ≤ M 4 0
    · refine xrun_ok hV [86] 20 _ _ _ _ _ _ ?_
      simp (maxDischargeDepth := 60) only [xrun, xisc, ↓xstep, xget, xtgt, xcmp, xacmp, xprev, xisR, xnt, List.set, List.length, xsw, xlk, true_or, or_true, if_true, if_false, true_and, and_true, List.mem_cons, List.not_mem_nil, or_false, false_or, Bool.false_eq_true, reduceCtorEq, not_false_eq_true, forall_const, Nat.zero_add, Nat.reduceAdd, Nat.reduceSub, Int.reduceAdd, Int.reduceNeg, Int.reduceToNat, Nat.reduceEqDiff, Nat.reduceLT, Nat.reduceLeDiff, Int.reduceLE, Int.reduceLT, reduceIte, Int.cast_ofNat_Int, Int.natCast_zero, Int.natCast_one, Int.reduceAdd, eq_self, Int.reduceSub, List.length_cons, List.length_nil, xli_m1, xli_0, xli_1, xli_2, xli_3, xli_4, xli_5, xlb_8, xlb_12, xlb_31, xlb_32, xlb_64, xls_256, xls_513, xls_2048, xls_4096, xll_0, xll_1, xnr_i, xnr_0, xnr_1, xnr_ite, xft_i, xft_0, xft_1, xat_999, xat_1001, xat_1002, xat_1003, xat_2001, xat_2002, xat_2003, List.getElem?_cons_succ, List.getElem?_cons_zero, xfn_0, xfn_1, xfn_2, xfn_3, x10, x01, not_true_eq_false, false_implies, implies_true, true_implies, xrm_c, xrm_s, xnl_4, xnl_32, xnl_64, xnl_256, xtn_4, xtn_32, xtn_64, xtn_256, Option.some.injEq, Sum.inl.injEq, Sum.inr.injEq, exists_eq_left', exists_eq_right, Option.toList_some, Option.toList_none, List.cons_append, List.nil_append, xE, lg_cmp_ge, lg_cmp_le, lg_cmp_gt, lg_cmp_lt, lg_cmp_eq, Nat.le_refl, Nat.zero_le, ne_eq, Nat.add_zero, dS_placeOutput_0, dS_placeOutput_1, dS_placeOutput_2, dS_placeOutput_3, dS_placeOutput_6, dS_placeOutput_7, dS_placeOutput_8, dS_placeOutput_11, dS_placeOutput_12, dS_placeOutput_13, dS_placeOutput_14, dS_placeOutput_17, dS_placeOutput_18, dS_placeOutput_19, dS_placeOutput_20, dS_placeOutput_21, dS_placeOutput_24, dS_placeOutput_26, dS_placeOutput_28, dS_placeOutput_29, dS_placeOutput_31, dS_placeOutput_32, dS_placeOutput_34, dS_placeOutput_36, dS_placeOutput_38, dS_placeOutput_41, dS_placeOutput_43, dS_placeOutput_45, dS_placeOutput_46, dS_placeOutput_48, dS_placeOutput_50, dS_placeOutput_53, dS_placeOutput_56, dS_placeOutput_58, dS_placeOutput_61, dS_placeOutput_62, dS_placeOutput_65, dS_placeOutput_67, dS_placeOutput_70, dS_placeOutput_73, dS_placeOutput_75, dS_placeOutput_76, dS_placeOutput_79, dS_placeOutput_80, dS_placeOutput_83, dS_placeOutput_86, dS_placeOutput_87, dS_placeOutput_90, dS_placeOutput_91, dS_placeOutput_92, dS_placeOutput_93, dS_placeOutput_94, xf_3_27, xf_3_31, xf_3_11, xf_3_174, xf_3_108, xf_3_34, h3, h4, h6]
      exact ⟨fun _ => hend S hc hk ho4, fun z => absurd h32 z⟩
    · have hr := h.2.2.1.1 (M 4 0) (by omega)
      rw [if_neg (by omega)] at hr
      refine xrun_ok hV [86] 20 _ _ _ _ _ _ ?_
      simp (maxDischargeDepth := 60) only [xrun, xisc, ↓xstep, xget, xtgt, xcmp, xacmp, xprev, xisR, xnt, List.set, List.length, xsw, xlk, true_or, or_true, if_true, if_false, true_and, and_true, List.mem_cons, List.not_mem_nil, or_false, false_or, Bool.false_eq_true, reduceCtorEq, not_false_eq_true, forall_const, Nat.zero_add, Nat.reduceAdd, Nat.reduceSub, Int.reduceAdd, Int.reduceNeg, Int.reduceToNat, Nat.reduceEqDiff, Nat.reduceLT, Nat.reduceLeDiff, Int.reduceLE, Int.reduceLT, reduceIte, Int.cast_ofNat_Int, Int.natCast_zero, Int.natCast_one, Int.reduceAdd, eq_self, Int.reduceSub, List.length_cons, List.length_nil, xli_m1, xli_0, xli_1, xli_2, xli_3, xli_4, xli_5, xlb_8, xlb_12, xlb_31, xlb_32, xlb_64, xls_256, xls_513, xls_2048, xls_4096, xll_0, xll_1, xnr_i, xnr_0, xnr_1, xnr_ite, xft_i, xft_0, xft_1, xat_999, xat_1001, xat_1002, xat_1003, xat_2001, xat_2002, xat_2003, List.getElem?_cons_succ, List.getElem?_cons_zero, xfn_0, xfn_1, xfn_2, xfn_3, x10, x01, not_true_eq_false, false_implies, implies_true, true_implies, xrm_c, xrm_s, xnl_4, xnl_32, xnl_64, xnl_256, xtn_4, xtn_32, xtn_64, xtn_256, Option.some.injEq, Sum.inl.injEq, Sum.inr.injEq, exists_eq_left', exists_eq_right, Option.toList_some, Option.toList_none, List.cons_append, List.nil_append, xE, lg_cmp_ge, lg_cmp_le, lg_cmp_gt, lg_cmp_lt, lg_cmp_eq, Nat.le_refl, Nat.zero_le, ne_eq, Nat.add_zero, dS_placeOutput_0, dS_placeOutput_1, dS_placeOutput_2, dS_placeOutput_3, dS_placeOutput_6, dS_placeOutput_7, dS_placeOutput_8, dS_placeOutput_11, dS_placeOutput_12, dS_placeOutput_13, dS_placeOutput_14, dS_placeOutput_17, dS_placeOutput_18, dS_placeOutput_19, dS_placeOutput_20, dS_placeOutput_21, dS_placeOutput_24, dS_placeOutput_26, dS_placeOutput_28, dS_placeOutput_29, dS_placeOutput_31, dS_placeOutput_32, dS_placeOutput_34, dS_placeOutput_36, dS_placeOutput_38, dS_placeOutput_41, dS_placeOutput_43, dS_placeOutput_45, dS_placeOutput_46, dS_placeOutput_48, dS_placeOutput_50, dS_placeOutput_53, dS_placeOutput_56, dS_placeOutput_58, dS_placeOutput_61, dS_placeOutput_62, dS_placeOutput_65, dS_placeOutput_67, dS_placeOutput_70, dS_placeOutput_73, dS_placeOutput_75, dS_placeOutput_76, dS_placeOutput_79, dS_placeOutput_80, dS_placeOutput_83, dS_placeOutput_86, dS_placeOutput_87, dS_placeOutput_90, dS_placeOutput_91, dS_placeOutput_92, dS_placeOutput_93, dS_placeOutput_94, xf_3_27, xf_3_31, xf_3_11, xf_3_174, xf_3_108, xf_3_34, h3, h4, h6, e0, hr]
      refine ⟨fun z => absurd z h32, fun _ => ⟨⟨_, rfl⟩, vp_in_nI (by omega) (by decide), ?_⟩⟩
      exact hV.weak [some (.inr (.inr (some th))), some (.inl (nI o)), some (.inl (nI (mend M o))), some (.inl (nI (mout M o (mob M o) (M 4 0)))), some (.inr (.inr (some (ar 0)))), some (.inl 32), some (.inl (nI (M 4 0))), none] ⟨rfl, rfl, rfl, rfl, rfl, rfl, rfl, trivial⟩ (hend S hc hk ho4)
  | succ n ih =>
    intro p S hp hn hc hk ho4
    have hpl : p < M 4 0 := by omega
    have h := h0.ca hc
    have h3 := h.2.1.2.2.1.1
    have h4 := h.2.1.2.2.2.1.1
    have hw := h.1.1.2.1
    have h6 : ((32 : Int32) ≤ nI p) = (32 ≤ p) := xI_le_nI (by omega) 32 (by decide)
    have e0 : (nI p).toNatClampNeg = p := nI_clamp (by omega)
    have hr := h.2.2.1.1 p (by omega)
    rw [if_pos hpl] at hr
    obtain ⟨⟨p1, -⟩, ⟨-, p2, -, p3, -⟩, -, -⟩ := h.2.2.2.1 p hpl
    have hwp := h.1.2.2.1 p hpl
    have e5 : (nI (M 5 p) = nI o) = (M 5 p = o) := propext (nI_eq (by omega) (by omega))
    have e8 : (nI (M 8 p) = 0) = (M 8 p = 0) := propext (nI_eq (b := 0) (by omega) (by decide))
    have n32 : ¬ 32 ≤ p := by omega
    have next : ∀ S1 : xS, xCa ar S0 S1 → kO S1 ar pa qa M o (p + 1) → xi S1 (ar 4) o = nI (mob M o) → V 80 [some (.inr (.inr (some th))), some (.inl (nI o)), some (.inl (nI (mend M o))), some (.inl (nI (mout M o (mob M o) (p + 1)))), some (.inr (.inr (some (ar 0)))), some (.inl 32), some (.inl (nI p)), some (.inr (.inr (some (pa p))))] [] S1 0 0 := by
      intro S1 hc1 hk1 ho1
      refine xrun_ok hV [34] 20 _ _ _ _ _ _ ?_
      simp (maxDischargeDepth := 60) only [xrun, xisc, ↓xstep, xget, xtgt, xcmp, xacmp, xprev, xisR, xnt, List.set, List.length, xsw, xlk, true_or, or_true, if_true, if_false, true_and, and_true, List.mem_cons, List.not_mem_nil, or_false, false_or, Bool.false_eq_true, reduceCtorEq, not_false_eq_true, forall_const, Nat.zero_add, Nat.reduceAdd, Nat.reduceSub, Int.reduceAdd, Int.reduceNeg, Int.reduceToNat, Nat.reduceEqDiff, Nat.reduceLT, Nat.reduceLeDiff, Int.reduceLE, Int.reduceLT, reduceIte, Int.cast_ofNat_Int, Int.natCast_zero, Int.natCast_one, Int.reduceAdd, eq_self, Int.reduceSub, List.length_cons, List.length_nil, xli_m1, xli_0, xli_1, xli_2, xli_3, xli_4, xli_5, xlb_8, xlb_12, xlb_31, xlb_32, xlb_64, xls_256, xls_513, xls_2048, xls_4096, xll_0, xll_1, xnr_i, xnr_0, xnr_1, xnr_ite, xft_i, xft_0, xft_1, xat_999, xat_1001, xat_1002, xat_1003, xat_2001, xat_2002, xat_2003, List.getElem?_cons_succ, List.getElem?_cons_zero, xfn_0, xfn_1, xfn_2, xfn_3, x10, x01, not_true_eq_false, false_implies, implies_true, true_implies, xrm_c, xrm_s, xnl_4, xnl_32, xnl_64, xnl_256, xtn_4, xtn_32, xtn_64, xtn_256, Option.some.injEq, Sum.inl.injEq, Sum.inr.injEq, exists_eq_left', exists_eq_right, Option.toList_some, Option.toList_none, List.cons_append, List.nil_append, xE, lg_cmp_ge, lg_cmp_le, lg_cmp_gt, lg_cmp_lt, lg_cmp_eq, Nat.le_refl, Nat.zero_le, ne_eq, Nat.add_zero, dS_placeOutput_0, dS_placeOutput_1, dS_placeOutput_2, dS_placeOutput_3, dS_placeOutput_6, dS_placeOutput_7, dS_placeOutput_8, dS_placeOutput_11, dS_placeOutput_12, dS_placeOutput_13, dS_placeOutput_14, dS_placeOutput_17, dS_placeOutput_18, dS_placeOutput_19, dS_placeOutput_20, dS_placeOutput_21, dS_placeOutput_24, dS_placeOutput_26, dS_placeOutput_28, dS_placeOutput_29, dS_placeOutput_31, dS_placeOutput_32, dS_placeOutput_34, dS_placeOutput_36, dS_placeOutput_38, dS_placeOutput_41, dS_placeOutput_43, dS_placeOutput_45, dS_placeOutput_46, dS_placeOutput_48, dS_placeOutput_50, dS_placeOutput_53, dS_placeOutput_56, dS_placeOutput_58, dS_placeOutput_61, dS_placeOutput_62, dS_placeOutput_65, dS_placeOutput_67, dS_placeOutput_70, dS_placeOutput_73, dS_placeOutput_75, dS_placeOutput_76, dS_placeOutput_79, dS_placeOutput_80, dS_placeOutput_83, dS_placeOutput_86, dS_placeOutput_87, dS_placeOutput_90, dS_placeOutput_91, dS_placeOutput_92, dS_placeOutput_93, dS_placeOutput_94, xf_3_27, xf_3_31, xf_3_11, xf_3_174, xf_3_108, xf_3_34, nI_1]
      exact hV.weak [some (.inr (.inr (some th))), some (.inl (nI o)), some (.inl (nI (mend M o))), some (.inl (nI (mout M o (mob M o) (p + 1)))), some (.inr (.inr (some (ar 0)))), some (.inl 32), some (.inl (nI (p + 1))), none] ⟨rfl, rfl, rfl, rfl, rfl, rfl, rfl, trivial⟩ (ih (p + 1) S1 (by omega) (by omega) hc1 hk1 ho1)
    refine xrun_ok hV [80] 20 _ _ _ _ _ _ ?_
    simp (maxDischargeDepth := 60) only [xrun, xisc, ↓xstep, xget, xtgt, xcmp, xacmp, xprev, xisR, xnt, List.set, List.length, xsw, xlk, true_or, or_true, if_true, if_false, true_and, and_true, List.mem_cons, List.not_mem_nil, or_false, false_or, Bool.false_eq_true, reduceCtorEq, not_false_eq_true, forall_const, Nat.zero_add, Nat.reduceAdd, Nat.reduceSub, Int.reduceAdd, Int.reduceNeg, Int.reduceToNat, Nat.reduceEqDiff, Nat.reduceLT, Nat.reduceLeDiff, Int.reduceLE, Int.reduceLT, reduceIte, Int.cast_ofNat_Int, Int.natCast_zero, Int.natCast_one, Int.reduceAdd, eq_self, Int.reduceSub, List.length_cons, List.length_nil, xli_m1, xli_0, xli_1, xli_2, xli_3, xli_4, xli_5, xlb_8, xlb_12, xlb_31, xlb_32, xlb_64, xls_256, xls_513, xls_2048, xls_4096, xll_0, xll_1, xnr_i, xnr_0, xnr_1, xnr_ite, xft_i, xft_0, xft_1, xat_999, xat_1001, xat_1002, xat_1003, xat_2001, xat_2002, xat_2003, List.getElem?_cons_succ, List.getElem?_cons_zero, xfn_0, xfn_1, xfn_2, xfn_3, x10, x01, not_true_eq_false, false_implies, implies_true, true_implies, xrm_c, xrm_s, xnl_4, xnl_32, xnl_64, xnl_256, xtn_4, xtn_32, xtn_64, xtn_256, Option.some.injEq, Sum.inl.injEq, Sum.inr.injEq, exists_eq_left', exists_eq_right, Option.toList_some, Option.toList_none, List.cons_append, List.nil_append, xE, lg_cmp_ge, lg_cmp_le, lg_cmp_gt, lg_cmp_lt, lg_cmp_eq, Nat.le_refl, Nat.zero_le, ne_eq, Nat.add_zero, dS_placeOutput_0, dS_placeOutput_1, dS_placeOutput_2, dS_placeOutput_3, dS_placeOutput_6, dS_placeOutput_7, dS_placeOutput_8, dS_placeOutput_11, dS_placeOutput_12, dS_placeOutput_13, dS_placeOutput_14, dS_placeOutput_17, dS_placeOutput_18, dS_placeOutput_19, dS_placeOutput_20, dS_placeOutput_21, dS_placeOutput_24, dS_placeOutput_26, dS_placeOutput_28, dS_placeOutput_29, dS_placeOutput_31, dS_placeOutput_32, dS_placeOutput_34, dS_placeOutput_36, dS_placeOutput_38, dS_placeOutput_41, dS_placeOutput_43, dS_placeOutput_45, dS_placeOutput_46, dS_placeOutput_48, dS_placeOutput_50, dS_placeOutput_53, dS_placeOutput_56, dS_placeOutput_58, dS_placeOutput_61, dS_placeOutput_62, dS_placeOutput_65, dS_placeOutput_67, dS_placeOutput_70, dS_placeOutput_73, dS_placeOutput_75, dS_placeOutput_76, dS_placeOutput_79, dS_placeOutput_80, dS_placeOutput_83, dS_placeOutput_86, dS_placeOutput_87, dS_placeOutput_90, dS_placeOutput_91, dS_placeOutput_92, dS_placeOutput_93, dS_placeOutput_94, xf_3_27, xf_3_31, xf_3_11, xf_3_174, xf_3_108, xf_3_34, h3, h4, h6, e0, hr, p1, p2, p3, e5, e8, n32]
    refine ⟨⟨_, rfl⟩, vp_in_nI (by omega) (by decide), fun z => ?_, fun z => ⟨fun z2 => ?_, fun z2 => ?_⟩⟩
    · have e : mout M o (mob M o) (p + 1) = mout M o (mob M o) p := by rw [mout, if_neg (fun w => z w.1)]
      rw [← e]
      exact next S hc ⟨fun q hq hg hoq => hk.1 q hq hg (by rcases hoq with w | w; exact Or.inl w; exact Or.inr ⟨w.1, by rcases Nat.lt_or_ge q p with y | y; exact y; exact absurd (show M 5 p = o by rw [← w.1]; congr 1; omega) z⟩), hk.2⟩ ho4
    · have e : mout M o (mob M o) (p + 1) = mout M o (mob M o) p := by rw [mout, if_neg (fun w => z2 w.2)]
      rw [← e]
      exact next S hc ⟨fun q hq hg hoq => hk.1 q hq hg (by rcases hoq with w | w; exact Or.inl w; exact Or.inr ⟨w.1, by rcases Nat.lt_or_ge q p with y | y; exact y; exact absurd (show M 8 p = 0 by rw [← hg]; congr 1; omega) z2⟩), hk.2⟩ ho4
    · have e : mout M o (mob M o) (p + 1) = mlay M p (mup (mout M o (mob M o) p) (M 6 p)) (M 12 0) := by rw [mout, if_pos ⟨z, z2⟩]
      have hmp := mpe_le h.1 hpl z2
      have epb : mpb M p = mup (mout M o (mob M o) p) (M 6 p) := by unfold mpb; rw [z]
      have epe : mpe M p = mlay M p (mup (mout M o (mob M o) p) (M 6 p)) (M 12 0) := by unfold mpe; rw [epb]
      refine hV.call [] (As := [.inr (.inr (some (pa p))), .inl (nI (mout M o (mob M o) p))]) xh_3_203 dS_placeOutput_76 (c_placePart h hpl (f := mout M o (mob M o) p) (by rw [← epe]; exact hmp.2.2)) (Or.inl rfl) rfl rfl (by decide) (by decide) (by decide) ?_
      rintro r S1 ⟨rfl, g1, g2, g3⟩
      refine xrun_ok hV [80] 20 _ _ _ _ _ _ ?_
      simp (maxDischargeDepth := 60) only [xrun, xisc, ↓xstep, xget, xtgt, xcmp, xacmp, xprev, xisR, xnt, List.set, List.length, xsw, xlk, true_or, or_true, if_true, if_false, true_and, and_true, List.mem_cons, List.not_mem_nil, or_false, false_or, Bool.false_eq_true, reduceCtorEq, not_false_eq_true, forall_const, Nat.zero_add, Nat.reduceAdd, Nat.reduceSub, Int.reduceAdd, Int.reduceNeg, Int.reduceToNat, Nat.reduceEqDiff, Nat.reduceLT, Nat.reduceLeDiff, Int.reduceLE, Int.reduceLT, reduceIte, Int.cast_ofNat_Int, Int.natCast_zero, Int.natCast_one, Int.reduceAdd, eq_self, Int.reduceSub, List.length_cons, List.length_nil, xli_m1, xli_0, xli_1, xli_2, xli_3, xli_4, xli_5, xlb_8, xlb_12, xlb_31, xlb_32, xlb_64, xls_256, xls_513, xls_2048, xls_4096, xll_0, xll_1, xnr_i, xnr_0, xnr_1, xnr_ite, xft_i, xft_0, xft_1, xat_999, xat_1001, xat_1002, xat_1003, xat_2001, xat_2002, xat_2003, List.getElem?_cons_succ, List.getElem?_cons_zero, xfn_0, xfn_1, xfn_2, xfn_3, x10, x01, not_true_eq_false, false_implies, implies_true, true_implies, xrm_c, xrm_s, xnl_4, xnl_32, xnl_64, xnl_256, xtn_4, xtn_32, xtn_64, xtn_256, Option.some.injEq, Sum.inl.injEq, Sum.inr.injEq, exists_eq_left', exists_eq_right, Option.toList_some, Option.toList_none, List.cons_append, List.nil_append, xE, lg_cmp_ge, lg_cmp_le, lg_cmp_gt, lg_cmp_lt, lg_cmp_eq, Nat.le_refl, Nat.zero_le, ne_eq, Nat.add_zero, dS_placeOutput_0, dS_placeOutput_1, dS_placeOutput_2, dS_placeOutput_3, dS_placeOutput_6, dS_placeOutput_7, dS_placeOutput_8, dS_placeOutput_11, dS_placeOutput_12, dS_placeOutput_13, dS_placeOutput_14, dS_placeOutput_17, dS_placeOutput_18, dS_placeOutput_19, dS_placeOutput_20, dS_placeOutput_21, dS_placeOutput_24, dS_placeOutput_26, dS_placeOutput_28, dS_placeOutput_29, dS_placeOutput_31, dS_placeOutput_32, dS_placeOutput_34, dS_placeOutput_36, dS_placeOutput_38, dS_placeOutput_41, dS_placeOutput_43, dS_placeOutput_45, dS_placeOutput_46, dS_placeOutput_48, dS_placeOutput_50, dS_placeOutput_53, dS_placeOutput_56, dS_placeOutput_58, dS_placeOutput_61, dS_placeOutput_62, dS_placeOutput_65, dS_placeOutput_67, dS_placeOutput_70, dS_placeOutput_73, dS_placeOutput_75, dS_placeOutput_76, dS_placeOutput_79, dS_placeOutput_80, dS_placeOutput_83, dS_placeOutput_86, dS_placeOutput_87, dS_placeOutput_90, dS_placeOutput_91, dS_placeOutput_92, dS_placeOutput_93, dS_placeOutput_94, xf_3_27, xf_3_31, xf_3_11, xf_3_174, xf_3_108, xf_3_34]
      rw [← e]
      have hc1 := xCa.tr h0 hc g1
      have ot : ∀ c j, xc S c ≠ 2 → xc S c ≠ 3 → xi S1 c j = xi S c j := fun c j w1 w2 => g2.2.1 c j (fun w => w1 (by rw [w]; exact p1)) (fun q hq _ w => w2 (by rw [w]; exact (h.2.2.2.2.1 q hq).1.1))
      refine next S1 hc1 ⟨fun q hq hg hoq => ?_, fun o' ho' => ?_⟩ ?_
      · by_cases eq : q = p
        · subst eq
          refine ⟨?_, ?_, fun k hk' hkq => ?_⟩
          · rw [g2.2.2, epb]
          · rw [g3, epe]
          · have := g2.1 k hk' hk' hkq
            have e9 : mpl M k = mlay M q (mup (mout M o (mob M o) q) (M 6 q)) k := by unfold mpl; rw [hkq, epb]
            unfold msize
            rw [e9]
            exact this
        · have hkp := hk.1 q hq hg (by omega)
          have f1 : ∀ j, xi S1 (pa q) j = xi S (pa q) j := fun j => g2.2.1 _ j (fun w => eq (h.2.2.2.2.2.2.1 q p hq hpl w)) (fun k hk' _ w => h.nP hq (h.2.2.2.2.1 k hk').1.1 (by decide) w)
          refine ⟨by rw [f1]; exact hkp.1, by rw [f1]; exact hkp.2.1, fun k hk' hkq => ?_⟩
          have f2 : ∀ j, xi S1 (qa k) j = xi S (qa k) j := fun j => g2.2.1 _ j (h.nQ hk' p1 (by decide)) (fun k2 hk2 hk2p w => eq (by rw [← hkq, h.2.2.2.2.2.2.2.1 k k2 hk' hk2 w, hk2p]))
          rw [f2, f2]
          exact hkp.2.2 k hk' hkq
      · have c4 := h.2.1.2.2.1.2.2.2.2.1
        have c5 := h.2.1.2.2.1.2.2.2.2.2
        rw [ot _ _ (by rw [c4]; decide) (by rw [c4]; decide), ot _ _ (by rw [c5]; decide) (by rw [c5]; decide)]
        exact hk.2 o' ho'
      · have c4 := h.2.1.2.2.1.2.2.2.2.1
        rw [ot _ _ (by rw [c4]; decide) (by rw [c4]; decide)]
        exact ho4
end SURVEY
end
section
/-! THE CLASS: values, aims, least sizes -/
theorem i64_add {x y : Int64} (h : -(2 ^ 62) ≤ x.toInt ∧ x.toInt ≤ 2 ^ 62) (h2 : -(2 ^ 61) ≤ y.toInt ∧ y.toInt ≤ 2 ^ 61) : (x + y).toInt = x.toInt + y.toInt := by
  rw [Int64.toInt_add, Int.bmod_def]
  split <;> omega
theorem i64_sub {x y : Int64} (h : -(2 ^ 62) ≤ x.toInt ∧ x.toInt ≤ 2 ^ 62) (h2 : -(2 ^ 61) ≤ y.toInt ∧ y.toInt ≤ 2 ^ 61) : (x - y).toInt = x.toInt - y.toInt := by
  rw [Int64.toInt_sub, Int.bmod_def]
  split <;> omega
theorem i64_and1 (x : Int64) : (x &&& 1 = 0) = (x.toInt % 2 = 0) := by
  have h1 : (x &&& 1).toBitVec.toNat = x.toBitVec.toNat % 2 := by
    rw [Int64.toBitVec_and, BitVec.toNat_and]
    exact Nat.and_one_is_mod _
  have h2 : x.toInt = if 2 * x.toBitVec.toNat < 2 ^ 64 then (x.toBitVec.toNat : Int) else (x.toBitVec.toNat : Int) - (2 ^ 64 : Nat) := BitVec.toInt_eq_toNat_cond x.toBitVec
  have h3 : (x &&& 1 = 0) = ((x &&& 1).toBitVec.toNat = 0) := by
    apply propext
    constructor
    · intro h; rw [h]; rfl
    · intro h
      apply Int64.toBitVec_inj.mp
      apply BitVec.eq_of_toNat_eq
      rw [h]; rfl
  rw [h3, h1, h2]
  apply propext
  split <;> omega
-- the aim, as a long; NOTHING where there is none
def oAimL (M : mT) (k : Nat) : Int64 := if mhas M k = true then (nI (mval M (M 18 k))).toInt64 + (nI (M 19 k)).toInt64 else 1099511627776
def oVal (M : mT) (j : Nat) : Int32 := if mhv M j = true then nI (mval M j) else -1
theorem mval_le {M : mT} (h : mWF M) {j : Nat} (hj : j < M 25 0) (hv : mhv M j = true) : mval M j ≤ 1080000000 := by
  simp only [mhv, Bool.and_eq_true, decide_eq_true_eq] at hv
  have h1 := h.2.2.2.2.2.2.2 j hj
  have hk : M 26 j - 1 < M 12 0 := by omega
  have h2 := mpl_le h hk hv.2
  have h3 := h1.2 hv.1
  unfold mval
  split
  · rename_i z
    rcases z with z | z
    · rw [if_pos z] at h3
      have := (h.2.2.2.2.1 _ hk z).2
      omega
    · omega
  · omega
theorem oAimL_toInt {M : mT} (h : mWF M) {k : Nat} (hk : k < M 12 0) (ha : mhas M k = true) : (oAimL M k).toInt = maimv M k ∧ -2147483648 ≤ maimv M k ∧ maimv M k ≤ 3300000000 := by
  have ha' := ha
  simp only [mhas, Bool.and_eq_true] at ha'
  have hl := (h.2.2.2.2.2.1 k hk ha'.1).2.2.1
  have hv := mval_le h hl ha'.2
  have e1 : ((nI (mval M (M 18 k))).toInt64).toInt = mval M (M 18 k) := by rw [Int32.toInt_toInt64, nI_toInt (by omega)]
  have e2 : ((nI (M 19 k)).toInt64).toInt = mcon M k := by rw [Int32.toInt_toInt64]; rfl
  have b1 := Int32.toInt_lt (nI (M 19 k))
  have b2 := Int32.le_toInt (nI (M 19 k))
  have e3 : mcon M k = (nI (M 19 k)).toInt := rfl
  unfold oAimL maimv
  rw [if_pos ha, i64_add (by omega) (by omega), e1, e2]
  omega
/-- the places are as they are to be -/
def kS (S : xS) (ar pa qa : Nat → Nat) (M : mT) : Prop := kO S ar pa qa M 4 0
section LEAST
variable {l : Launch} {D : va_G} {n0 : Nat} {S S' : xS} {th : Nat} {ar pa qa la : Nat → Nat} {M : mT}
theorem kS.at (h : rC S th ar pa qa la M) (hs : kS S ar pa qa M) {k : Nat} (hk : k < M 12 0) (hn : mnot M k = true) : xi S (qa k) 9 = nI (mpl M k) ∧ xi S (qa k) 8 = nI (msize M k) := by
  have hg : M 8 (M 14 k) = 0 := by simpa [mnot] using hn
  have hp := (h.1.2.2.2.1 k hk).2.1
  have := (h.1.2.2.1 _ hp).1
  exact (hs.1 (M 14 k) hp hg (Or.inl (by omega))).2.2 k hk rfl
set_option maxHeartbeats 4000000 in
set_option maxRecDepth 100000 in
theorem c_valueOf (h : rC S th ar pa qa la M) (hs : kS S ar pa qa M) {j : Nat} (hj : j < M 25 0) : xMet l D n0 mS_valueOf 0 0 [.inr (.inr (some (la j)))] S (fun r S' => r = some (.inl (oVal M j)) ∧ S' = S) := by
  refine xMet.of (k := mS_valueOf) (own := 3) (ini := false) xm_S_valueOf (by decide +kernel) (by decide +kernel) (by decide) (Nat.le_of_ble_eq_true rfl) ?_
  intro V hV
  show V 0 [some (.inr (.inr (some (la j)))), none] [] S 0 0
  obtain ⟨⟨b1, -⟩, b2, b3⟩ := h.2.2.2.2.2.1 j hj
  have hw := h.1.2.2.2.2.2.2.2 j hj
  by_cases z : M 26 j = 0
  · rw [if_pos z] at b2
    refine xrun_ok hV [] 30 _ _ _ _ _ _ ?_
    simp (maxDischargeDepth := 60) only [xrun, xisc, ↓xstep, xget, xtgt, xcmp, xacmp, xprev, xisR, xnt, List.set, List.length, xsw, xlk, true_or, or_true, if_true, if_false, true_and, and_true, List.mem_cons, List.not_mem_nil, or_false, false_or, Bool.false_eq_true, reduceCtorEq, not_false_eq_true, forall_const, Nat.zero_add, Nat.reduceAdd, Nat.reduceSub, Int.reduceAdd, Int.reduceNeg, Int.reduceToNat, Nat.reduceEqDiff, Nat.reduceLT, Nat.reduceLeDiff, Int.reduceLE, Int.reduceLT, reduceIte, Int.cast_ofNat_Int, Int.natCast_zero, Int.natCast_one, Int.reduceAdd, eq_self, Int.reduceSub, List.length_cons, List.length_nil, xli_m1, xli_0, xli_1, xli_2, xli_3, xli_4, xli_5, xlb_8, xlb_12, xlb_31, xlb_32, xlb_64, xls_256, xls_513, xls_2048, xls_4096, xll_0, xll_1, xnr_i, xnr_0, xnr_1, xnr_ite, xft_i, xft_0, xft_1, xat_999, xat_1001, xat_1002, xat_1003, xat_2001, xat_2002, xat_2003, List.getElem?_cons_succ, List.getElem?_cons_zero, xfn_0, xfn_1, xfn_2, xfn_3, x10, x01, not_true_eq_false, false_implies, implies_true, true_implies, xrm_c, xrm_s, xnl_4, xnl_32, xnl_64, xnl_256, xtn_4, xtn_32, xtn_64, xtn_256, Option.some.injEq, Sum.inl.injEq, Sum.inr.injEq, exists_eq_left', exists_eq_right, Option.toList_some, Option.toList_none, List.cons_append, List.nil_append, xE, lg_cmp_ge, lg_cmp_le, lg_cmp_gt, lg_cmp_lt, lg_cmp_eq, Nat.le_refl, Nat.zero_le, ne_eq, Nat.add_zero, dS_valueOf_0, dS_valueOf_1, dS_valueOf_4, dS_valueOf_5, dS_valueOf_6, dS_valueOf_9, dS_valueOf_10, dS_valueOf_13, dS_valueOf_16, dS_valueOf_19, dS_valueOf_20, dS_valueOf_21, dS_valueOf_22, dS_valueOf_25, dS_valueOf_28, dS_valueOf_29, dS_valueOf_32, dS_valueOf_33, dS_valueOf_36, dS_valueOf_37, dS_valueOf_38, dS_valueOf_39, dS_valueOf_42, dS_valueOf_45, dS_valueOf_46, dS_valueOf_49, dS_valueOf_52, dS_valueOf_53, dS_valueOf_56, dS_valueOf_57, dS_valueOf_60, dS_valueOf_61, xf_3_92, xf_3_144, xf_3_108, xf_3_86, xf_3_151, xf_3_96, xf_3_135, b1, b2]
    simp [oVal, mhv, z]
  · rw [if_neg z] at b2
    have hk : M 26 j - 1 < M 12 0 := by omega
    obtain ⟨⟨q1, -⟩, ⟨q2, q3, -⟩, -⟩ := h.2.2.2.2.1 _ hk
    have hp := (h.1.2.2.2.1 _ hk).2.1
    have hk4 := (h.1.2.2.2.1 _ hk).1
    obtain ⟨⟨p1, -⟩, ⟨-, -, -, p2, -⟩, -⟩ := h.2.2.2.1 _ hp
    have hw8 := (h.1.2.2.1 _ hp).2.2.2
    have e8 : (nI (M 8 (M 14 (M 26 j - 1))) = 0) = (M 8 (M 14 (M 26 j - 1)) = 0) := propext (nI_eq (b := 0) (by omega) (by decide))
    have e13 : (nI (M 13 (M 26 j - 1)) = 0) = (M 13 (M 26 j - 1) = 0) := propext (nI_eq (b := 0) (by omega) (by decide))
    have hw27 : M 27 j ≤ 4194304 := by
      have h9 := hw.2 z
      split at h9
      · rename_i y
        have := (h.1.2.2.2.2.1 _ hk y).2
        omega
      · omega
    have e27 : (nI (M 27 j) = 0) = (M 27 j = 0) := propext (nI_eq (b := 0) (by omega) (by decide))
    by_cases g : M 8 (M 14 (M 26 j - 1)) = 0
    · obtain ⟨s1, s2⟩ := hs.at h hk (by simp [mnot, g])
      refine xrun_ok hV [] 30 _ _ _ _ _ _ ?_
      simp (maxDischargeDepth := 60) only [xrun, xisc, ↓xstep, xget, xtgt, xcmp, xacmp, xprev, xisR, xnt, List.set, List.length, xsw, xlk, true_or, or_true, if_true, if_false, true_and, and_true, List.mem_cons, List.not_mem_nil, or_false, false_or, Bool.false_eq_true, reduceCtorEq, not_false_eq_true, forall_const, Nat.zero_add, Nat.reduceAdd, Nat.reduceSub, Int.reduceAdd, Int.reduceNeg, Int.reduceToNat, Nat.reduceEqDiff, Nat.reduceLT, Nat.reduceLeDiff, Int.reduceLE, Int.reduceLT, reduceIte, Int.cast_ofNat_Int, Int.natCast_zero, Int.natCast_one, Int.reduceAdd, eq_self, Int.reduceSub, List.length_cons, List.length_nil, xli_m1, xli_0, xli_1, xli_2, xli_3, xli_4, xli_5, xlb_8, xlb_12, xlb_31, xlb_32, xlb_64, xls_256, xls_513, xls_2048, xls_4096, xll_0, xll_1, xnr_i, xnr_0, xnr_1, xnr_ite, xft_i, xft_0, xft_1, xat_999, xat_1001, xat_1002, xat_1003, xat_2001, xat_2002, xat_2003, List.getElem?_cons_succ, List.getElem?_cons_zero, xfn_0, xfn_1, xfn_2, xfn_3, x10, x01, not_true_eq_false, false_implies, implies_true, true_implies, xrm_c, xrm_s, xnl_4, xnl_32, xnl_64, xnl_256, xtn_4, xtn_32, xtn_64, xtn_256, Option.some.injEq, Sum.inl.injEq, Sum.inr.injEq, exists_eq_left', exists_eq_right, Option.toList_some, Option.toList_none, List.cons_append, List.nil_append, xE, lg_cmp_ge, lg_cmp_le, lg_cmp_gt, lg_cmp_lt, lg_cmp_eq, Nat.le_refl, Nat.zero_le, ne_eq, Nat.add_zero, dS_valueOf_0, dS_valueOf_1, dS_valueOf_4, dS_valueOf_5, dS_valueOf_6, dS_valueOf_9, dS_valueOf_10, dS_valueOf_13, dS_valueOf_16, dS_valueOf_19, dS_valueOf_20, dS_valueOf_21, dS_valueOf_22, dS_valueOf_25, dS_valueOf_28, dS_valueOf_29, dS_valueOf_32, dS_valueOf_33, dS_valueOf_36, dS_valueOf_37, dS_valueOf_38, dS_valueOf_39, dS_valueOf_42, dS_valueOf_45, dS_valueOf_46, dS_valueOf_49, dS_valueOf_52, dS_valueOf_53, dS_valueOf_56, dS_valueOf_57, dS_valueOf_60, dS_valueOf_61, xf_3_92, xf_3_144, xf_3_108, xf_3_86, xf_3_151, xf_3_96, xf_3_135, b1, b2, b3, q1, q2, q3, p1, p2, e8, e13, e27, s1, s2, g, nI_0]
      have ht : (decide (M 26 j ≠ 0) && mnot M (M 26 j - 1)) = true := by simp [z, mnot, g]
      unfold oVal mhv
      rw [if_pos ht]
      unfold mval
      refine ⟨fun y => ⟨fun y2 => ?_, fun y2 => ?_⟩, fun y => ?_⟩
      · rw [if_neg (by simp [y, y2]), nI_add]
      · rw [if_pos (Or.inr y2), y2, Nat.add_zero]
      · rw [if_pos (Or.inl y), nI_add]
    · refine xrun_ok hV [] 30 _ _ _ _ _ _ ?_
      simp (maxDischargeDepth := 60) only [xrun, xisc, ↓xstep, xget, xtgt, xcmp, xacmp, xprev, xisR, xnt, List.set, List.length, xsw, xlk, true_or, or_true, if_true, if_false, true_and, and_true, List.mem_cons, List.not_mem_nil, or_false, false_or, Bool.false_eq_true, reduceCtorEq, not_false_eq_true, forall_const, Nat.zero_add, Nat.reduceAdd, Nat.reduceSub, Int.reduceAdd, Int.reduceNeg, Int.reduceToNat, Nat.reduceEqDiff, Nat.reduceLT, Nat.reduceLeDiff, Int.reduceLE, Int.reduceLT, reduceIte, Int.cast_ofNat_Int, Int.natCast_zero, Int.natCast_one, Int.reduceAdd, eq_self, Int.reduceSub, List.length_cons, List.length_nil, xli_m1, xli_0, xli_1, xli_2, xli_3, xli_4, xli_5, xlb_8, xlb_12, xlb_31, xlb_32, xlb_64, xls_256, xls_513, xls_2048, xls_4096, xll_0, xll_1, xnr_i, xnr_0, xnr_1, xnr_ite, xft_i, xft_0, xft_1, xat_999, xat_1001, xat_1002, xat_1003, xat_2001, xat_2002, xat_2003, List.getElem?_cons_succ, List.getElem?_cons_zero, xfn_0, xfn_1, xfn_2, xfn_3, x10, x01, not_true_eq_false, false_implies, implies_true, true_implies, xrm_c, xrm_s, xnl_4, xnl_32, xnl_64, xnl_256, xtn_4, xtn_32, xtn_64, xtn_256, Option.some.injEq, Sum.inl.injEq, Sum.inr.injEq, exists_eq_left', exists_eq_right, Option.toList_some, Option.toList_none, List.cons_append, List.nil_append, xE, lg_cmp_ge, lg_cmp_le, lg_cmp_gt, lg_cmp_lt, lg_cmp_eq, Nat.le_refl, Nat.zero_le, ne_eq, Nat.add_zero, dS_valueOf_0, dS_valueOf_1, dS_valueOf_4, dS_valueOf_5, dS_valueOf_6, dS_valueOf_9, dS_valueOf_10, dS_valueOf_13, dS_valueOf_16, dS_valueOf_19, dS_valueOf_20, dS_valueOf_21, dS_valueOf_22, dS_valueOf_25, dS_valueOf_28, dS_valueOf_29, dS_valueOf_32, dS_valueOf_33, dS_valueOf_36, dS_valueOf_37, dS_valueOf_38, dS_valueOf_39, dS_valueOf_42, dS_valueOf_45, dS_valueOf_46, dS_valueOf_49, dS_valueOf_52, dS_valueOf_53, dS_valueOf_56, dS_valueOf_57, dS_valueOf_60, dS_valueOf_61, xf_3_92, xf_3_144, xf_3_108, xf_3_86, xf_3_151, xf_3_96, xf_3_135, b1, b2, b3, q1, q2, q3, p1, p2, e8, e13, e27, g]
      have ht : ¬ (decide (M 26 j ≠ 0) && mnot M (M 26 j - 1)) = true := by simp [mnot, g]
      unfold oVal mhv
      rw [if_neg ht]
set_option maxHeartbeats 4000000 in
set_option maxRecDepth 100000 in
theorem c_aimOf (h : rC S th ar pa qa la M) (hs : kS S ar pa qa M) {k : Nat} (hk : k < M 12 0) : xMet l D n0 mS_aimOf 0 0 [.inr (.inr (some (qa k)))] S (fun r S' => r = some (.inr (.inl (oAimL M k))) ∧ S' = S) := by
  refine xMet.of (k := mS_aimOf) (own := 3) (ini := false) xm_S_aimOf (by decide +kernel) (by decide +kernel) (by decide) (Nat.le_of_ble_eq_true rfl) ?_
  intro V hV
  show V 0 [some (.inr (.inr (some (qa k)))), none] [] S 0 0
  obtain ⟨⟨q1, -⟩, ⟨-, -, q2, q3, -⟩, -⟩ := h.2.2.2.2.1 k hk
  by_cases z : maim M k = true
  · rw [if_pos z] at q2
    have hl := (h.1.2.2.2.2.2.1 k hk z).2.2.1
    refine xrun_ok hV [] 30 _ _ _ _ _ _ ?_
    simp (maxDischargeDepth := 60) only [xrun, xisc, ↓xstep, xget, xtgt, xcmp, xacmp, xprev, xisR, xnt, List.set, List.length, xsw, xlk, true_or, or_true, if_true, if_false, true_and, and_true, List.mem_cons, List.not_mem_nil, or_false, false_or, Bool.false_eq_true, reduceCtorEq, not_false_eq_true, forall_const, Nat.zero_add, Nat.reduceAdd, Nat.reduceSub, Int.reduceAdd, Int.reduceNeg, Int.reduceToNat, Nat.reduceEqDiff, Nat.reduceLT, Nat.reduceLeDiff, Int.reduceLE, Int.reduceLT, reduceIte, Int.cast_ofNat_Int, Int.natCast_zero, Int.natCast_one, Int.reduceAdd, eq_self, Int.reduceSub, List.length_cons, List.length_nil, xli_m1, xli_0, xli_1, xli_2, xli_3, xli_4, xli_5, xlb_8, xlb_12, xlb_31, xlb_32, xlb_64, xls_256, xls_513, xls_2048, xls_4096, xll_0, xll_1, xnr_i, xnr_0, xnr_1, xnr_ite, xft_i, xft_0, xft_1, xat_999, xat_1001, xat_1002, xat_1003, xat_2001, xat_2002, xat_2003, List.getElem?_cons_succ, List.getElem?_cons_zero, xfn_0, xfn_1, xfn_2, xfn_3, x10, x01, not_true_eq_false, false_implies, implies_true, true_implies, xrm_c, xrm_s, xnl_4, xnl_32, xnl_64, xnl_256, xtn_4, xtn_32, xtn_64, xtn_256, Option.some.injEq, Sum.inl.injEq, Sum.inr.injEq, exists_eq_left', exists_eq_right, Option.toList_some, Option.toList_none, List.cons_append, List.nil_append, xE, lg_cmp_ge, lg_cmp_le, lg_cmp_gt, lg_cmp_lt, lg_cmp_eq, Nat.le_refl, Nat.zero_le, ne_eq, Nat.add_zero, dS_aimOf_0, dS_aimOf_1, dS_aimOf_4, dS_aimOf_7, dS_aimOf_10, dS_aimOf_11, dS_aimOf_12, dS_aimOf_15, dS_aimOf_18, dS_aimOf_19, dS_aimOf_20, dS_aimOf_21, dS_aimOf_24, dS_aimOf_27, dS_aimOf_30, dS_aimOf_31, dS_aimOf_32, dS_aimOf_33, dS_aimOf_36, dS_aimOf_37, dS_aimOf_38, xf_3_128, xj_3_164, xf_3_248, q1, q2, q3]
    refine hV.call [] xh_3_170 dS_aimOf_15 (c_valueOf h hs hl) (Or.inl rfl) rfl rfl (by decide) (by decide) (by decide) ?_
    rintro r S' ⟨rfl, rfl⟩
    by_cases y : mhv M (M 18 k) = true
    · have hv := mval_le h.1 hl y
      have e : oVal M (M 18 k) = nI (mval M (M 18 k)) := by unfold oVal; rw [if_pos y]
      have ne : ¬ nI (mval M (M 18 k)) = -1 := by
        intro w
        have := congrArg Int32.toInt w
        rw [nI_toInt (by omega)] at this
        have e2 : (-1 : Int32).toInt = -1 := by decide
        omega
      refine xrun_ok hV [] 30 _ _ _ _ _ _ ?_
      simp (maxDischargeDepth := 60) only [xrun, xisc, ↓xstep, xget, xtgt, xcmp, xacmp, xprev, xisR, xnt, List.set, List.length, xsw, xlk, true_or, or_true, if_true, if_false, true_and, and_true, List.mem_cons, List.not_mem_nil, or_false, false_or, Bool.false_eq_true, reduceCtorEq, not_false_eq_true, forall_const, Nat.zero_add, Nat.reduceAdd, Nat.reduceSub, Int.reduceAdd, Int.reduceNeg, Int.reduceToNat, Nat.reduceEqDiff, Nat.reduceLT, Nat.reduceLeDiff, Int.reduceLE, Int.reduceLT, reduceIte, Int.cast_ofNat_Int, Int.natCast_zero, Int.natCast_one, Int.reduceAdd, eq_self, Int.reduceSub, List.length_cons, List.length_nil, xli_m1, xli_0, xli_1, xli_2, xli_3, xli_4, xli_5, xlb_8, xlb_12, xlb_31, xlb_32, xlb_64, xls_256, xls_513, xls_2048, xls_4096, xll_0, xll_1, xnr_i, xnr_0, xnr_1, xnr_ite, xft_i, xft_0, xft_1, xat_999, xat_1001, xat_1002, xat_1003, xat_2001, xat_2002, xat_2003, List.getElem?_cons_succ, List.getElem?_cons_zero, xfn_0, xfn_1, xfn_2, xfn_3, x10, x01, not_true_eq_false, false_implies, implies_true, true_implies, xrm_c, xrm_s, xnl_4, xnl_32, xnl_64, xnl_256, xtn_4, xtn_32, xtn_64, xtn_256, Option.some.injEq, Sum.inl.injEq, Sum.inr.injEq, exists_eq_left', exists_eq_right, Option.toList_some, Option.toList_none, List.cons_append, List.nil_append, xE, lg_cmp_ge, lg_cmp_le, lg_cmp_gt, lg_cmp_lt, lg_cmp_eq, Nat.le_refl, Nat.zero_le, ne_eq, Nat.add_zero, dS_aimOf_0, dS_aimOf_1, dS_aimOf_4, dS_aimOf_7, dS_aimOf_10, dS_aimOf_11, dS_aimOf_12, dS_aimOf_15, dS_aimOf_18, dS_aimOf_19, dS_aimOf_20, dS_aimOf_21, dS_aimOf_24, dS_aimOf_27, dS_aimOf_30, dS_aimOf_31, dS_aimOf_32, dS_aimOf_33, dS_aimOf_36, dS_aimOf_37, dS_aimOf_38, xf_3_128, xj_3_164, xf_3_248, q1, q2, q3, e, ne]
      unfold oAimL mhas
      rw [if_pos (by simp [z, y])]
    · have e : oVal M (M 18 k) = -1 := by unfold oVal; rw [if_neg y]
      refine xrun_ok hV [] 30 _ _ _ _ _ _ ?_
      simp (maxDischargeDepth := 60) only [xrun, xisc, ↓xstep, xget, xtgt, xcmp, xacmp, xprev, xisR, xnt, List.set, List.length, xsw, xlk, true_or, or_true, if_true, if_false, true_and, and_true, List.mem_cons, List.not_mem_nil, or_false, false_or, Bool.false_eq_true, reduceCtorEq, not_false_eq_true, forall_const, Nat.zero_add, Nat.reduceAdd, Nat.reduceSub, Int.reduceAdd, Int.reduceNeg, Int.reduceToNat, Nat.reduceEqDiff, Nat.reduceLT, Nat.reduceLeDiff, Int.reduceLE, Int.reduceLT, reduceIte, Int.cast_ofNat_Int, Int.natCast_zero, Int.natCast_one, Int.reduceAdd, eq_self, Int.reduceSub, List.length_cons, List.length_nil, xli_m1, xli_0, xli_1, xli_2, xli_3, xli_4, xli_5, xlb_8, xlb_12, xlb_31, xlb_32, xlb_64, xls_256, xls_513, xls_2048, xls_4096, xll_0, xll_1, xnr_i, xnr_0, xnr_1, xnr_ite, xft_i, xft_0, xft_1, xat_999, xat_1001, xat_1002, xat_1003, xat_2001, xat_2002, xat_2003, List.getElem?_cons_succ, List.getElem?_cons_zero, xfn_0, xfn_1, xfn_2, xfn_3, x10, x01, not_true_eq_false, false_implies, implies_true, true_implies, xrm_c, xrm_s, xnl_4, xnl_32, xnl_64, xnl_256, xtn_4, xtn_32, xtn_64, xtn_256, Option.some.injEq, Sum.inl.injEq, Sum.inr.injEq, exists_eq_left', exists_eq_right, Option.toList_some, Option.toList_none, List.cons_append, List.nil_append, xE, lg_cmp_ge, lg_cmp_le, lg_cmp_gt, lg_cmp_lt, lg_cmp_eq, Nat.le_refl, Nat.zero_le, ne_eq, Nat.add_zero, dS_aimOf_0, dS_aimOf_1, dS_aimOf_4, dS_aimOf_7, dS_aimOf_10, dS_aimOf_11, dS_aimOf_12, dS_aimOf_15, dS_aimOf_18, dS_aimOf_19, dS_aimOf_20, dS_aimOf_21, dS_aimOf_24, dS_aimOf_27, dS_aimOf_30, dS_aimOf_31, dS_aimOf_32, dS_aimOf_33, dS_aimOf_36, dS_aimOf_37, dS_aimOf_38, xf_3_128, xj_3_164, xf_3_248, q1, q2, q3, e]
      unfold oAimL mhas
      rw [if_neg (by simp [y])]
  · rw [if_neg z] at q2
    refine xrun_ok hV [] 30 _ _ _ _ _ _ ?_
    simp (maxDischargeDepth := 60) only [xrun, xisc, ↓xstep, xget, xtgt, xcmp, xacmp, xprev, xisR, xnt, List.set, List.length, xsw, xlk, true_or, or_true, if_true, if_false, true_and, and_true, List.mem_cons, List.not_mem_nil, or_false, false_or, Bool.false_eq_true, reduceCtorEq, not_false_eq_true, forall_const, Nat.zero_add, Nat.reduceAdd, Nat.reduceSub, Int.reduceAdd, Int.reduceNeg, Int.reduceToNat, Nat.reduceEqDiff, Nat.reduceLT, Nat.reduceLeDiff, Int.reduceLE, Int.reduceLT, reduceIte, Int.cast_ofNat_Int, Int.natCast_zero, Int.natCast_one, Int.reduceAdd, eq_self, Int.reduceSub, List.length_cons, List.length_nil, xli_m1, xli_0, xli_1, xli_2, xli_3, xli_4, xli_5, xlb_8, xlb_12, xlb_31, xlb_32, xlb_64, xls_256, xls_513, xls_2048, xls_4096, xll_0, xll_1, xnr_i, xnr_0, xnr_1, xnr_ite, xft_i, xft_0, xft_1, xat_999, xat_1001, xat_1002, xat_1003, xat_2001, xat_2002, xat_2003, List.getElem?_cons_succ, List.getElem?_cons_zero, xfn_0, xfn_1, xfn_2, xfn_3, x10, x01, not_true_eq_false, false_implies, implies_true, true_implies, xrm_c, xrm_s, xnl_4, xnl_32, xnl_64, xnl_256, xtn_4, xtn_32, xtn_64, xtn_256, Option.some.injEq, Sum.inl.injEq, Sum.inr.injEq, exists_eq_left', exists_eq_right, Option.toList_some, Option.toList_none, List.cons_append, List.nil_append, xE, lg_cmp_ge, lg_cmp_le, lg_cmp_gt, lg_cmp_lt, lg_cmp_eq, Nat.le_refl, Nat.zero_le, ne_eq, Nat.add_zero, dS_aimOf_0, dS_aimOf_1, dS_aimOf_4, dS_aimOf_7, dS_aimOf_10, dS_aimOf_11, dS_aimOf_12, dS_aimOf_15, dS_aimOf_18, dS_aimOf_19, dS_aimOf_20, dS_aimOf_21, dS_aimOf_24, dS_aimOf_27, dS_aimOf_30, dS_aimOf_31, dS_aimOf_32, dS_aimOf_33, dS_aimOf_36, dS_aimOf_37, dS_aimOf_38, xf_3_128, xj_3_164, xf_3_248, q1, q2]
    unfold oAimL mhas
    rw [if_neg (by simp [z])]
theorem nI_ite (c : Prop) [Decidable c] (a b : Nat) : (if c then nI a else nI b) = nI (if c then a else b) := by split <;> rfl
set_option maxHeartbeats 4000000 in
set_option maxRecDepth 100000 in
theorem c_leastCall (S : xS) (d : Int64) {t : Nat} (ht : t ≤ 1) : xMet l D n0 mS_leastCall 0 0 [.inr (.inl d), .inl (nI t)] S (fun r S' => r = some (.inl (nI (mlc d.toInt (decide (t = 1))))) ∧ S' = S) := by
  refine xMet.of (k := mS_leastCall) (own := 3) (ini := false) xm_S_leastCall (by decide +kernel) (by decide +kernel) (by decide) (Nat.le_of_ble_eq_true rfl) ?_
  intro V hV
  show V 0 [some (.inr (.inl d)), none, some (.inl (nI t)), none] [] S 0 0
  have et : (nI t = 0) = (t = 0) := propext (nI_eq (b := 0) (by omega) (by decide))
  have f1 : (-2048 : Int64).toInt = -2048 := by decide +kernel
  have f2 : (2046 : Int64).toInt = 2046 := by decide +kernel
  have f3 : (-1048576 : Int64).toInt = -1048576 := by decide +kernel
  have f4 : (1048574 : Int64).toInt = 1048574 := by decide +kernel
  -- an odd distance
  by_cases he : d.toInt % 2 = 0
  · have late : V 37 [some (.inr (.inl d)), none, some (.inl (nI t)), some (.inl 1)] [] S 0 0 ∨ True := Or.inr trivial
    have fin : (¬ (t = 1 ∧ -2048 ≤ d.toInt ∧ d.toInt ≤ 2047)) → V 37 [some (.inr (.inl d)), none, some (.inl (nI t)), some (.inl 1)] [] S 0 0 := by
      intro hno
      refine xrun_ok hV [] 30 _ _ _ _ _ _ ?_
      simp (maxDischargeDepth := 60) only [xrun, xisc, ↓xstep, xget, xtgt, xcmp, xacmp, xprev, xisR, xnt, List.set, List.length, xsw, xlk, true_or, or_true, if_true, if_false, true_and, and_true, List.mem_cons, List.not_mem_nil, or_false, false_or, Bool.false_eq_true, reduceCtorEq, not_false_eq_true, forall_const, Nat.zero_add, Nat.reduceAdd, Nat.reduceSub, Int.reduceAdd, Int.reduceNeg, Int.reduceToNat, Nat.reduceEqDiff, Nat.reduceLT, Nat.reduceLeDiff, Int.reduceLE, Int.reduceLT, reduceIte, Int.cast_ofNat_Int, Int.natCast_zero, Int.natCast_one, Int.reduceAdd, eq_self, Int.reduceSub, List.length_cons, List.length_nil, xli_m1, xli_0, xli_1, xli_2, xli_3, xli_4, xli_5, xlb_8, xlb_12, xlb_31, xlb_32, xlb_64, xls_256, xls_513, xls_2048, xls_4096, xll_0, xll_1, xnr_i, xnr_0, xnr_1, xnr_ite, xft_i, xft_0, xft_1, xat_999, xat_1001, xat_1002, xat_1003, xat_2001, xat_2002, xat_2003, List.getElem?_cons_succ, List.getElem?_cons_zero, xfn_0, xfn_1, xfn_2, xfn_3, x10, x01, not_true_eq_false, false_implies, implies_true, true_implies, xrm_c, xrm_s, xnl_4, xnl_32, xnl_64, xnl_256, xtn_4, xtn_32, xtn_64, xtn_256, Option.some.injEq, Sum.inl.injEq, Sum.inr.injEq, exists_eq_left', exists_eq_right, Option.toList_some, Option.toList_none, List.cons_append, List.nil_append, xE, lg_cmp_ge, lg_cmp_le, lg_cmp_gt, lg_cmp_lt, lg_cmp_eq, Nat.le_refl, Nat.zero_le, ne_eq, Nat.add_zero, dS_leastCall_0, dS_leastCall_1, dS_leastCall_2, dS_leastCall_3, dS_leastCall_4, dS_leastCall_5, dS_leastCall_8, dS_leastCall_9, dS_leastCall_12, dS_leastCall_13, dS_leastCall_14, dS_leastCall_15, dS_leastCall_18, dS_leastCall_19, dS_leastCall_22, dS_leastCall_23, dS_leastCall_26, dS_leastCall_29, dS_leastCall_32, dS_leastCall_35, dS_leastCall_36, dS_leastCall_37, dS_leastCall_38, dS_leastCall_41, dS_leastCall_42, dS_leastCall_45, dS_leastCall_48, dS_leastCall_51, dS_leastCall_54, dS_leastCall_55, dS_leastCall_58, dS_leastCall_60, xj_3_230, xj_3_232, xj_3_234, xj_3_236]
      refine hV.call [] xh_3_57 dS_leastCall_48 (c_isWithin S d (-1048576) 1048574) (Or.inl rfl) rfl rfl (by decide) (by decide) (by decide) ?_
      rintro r S' ⟨rfl, rfl⟩
      rw [f3, f4]
      have e1 : ¬ (decide (t = 1) = true ∧ d.toInt % 2 = 0 ∧ mnear d.toInt = true) := fun w => hno ⟨by simpa using w.1, by have := w.2.2; simp [mnear] at this; exact this⟩
      by_cases hr : -1048576 ≤ d.toInt ∧ d.toInt ≤ 1048574
      · rw [if_pos hr]
        refine xrun_ok hV [] 30 _ _ _ _ _ _ ?_
        simp (maxDischargeDepth := 60) only [xrun, xisc, ↓xstep, xget, xtgt, xcmp, xacmp, xprev, xisR, xnt, List.set, List.length, xsw, xlk, true_or, or_true, if_true, if_false, true_and, and_true, List.mem_cons, List.not_mem_nil, or_false, false_or, Bool.false_eq_true, reduceCtorEq, not_false_eq_true, forall_const, Nat.zero_add, Nat.reduceAdd, Nat.reduceSub, Int.reduceAdd, Int.reduceNeg, Int.reduceToNat, Nat.reduceEqDiff, Nat.reduceLT, Nat.reduceLeDiff, Int.reduceLE, Int.reduceLT, reduceIte, Int.cast_ofNat_Int, Int.natCast_zero, Int.natCast_one, Int.reduceAdd, eq_self, Int.reduceSub, List.length_cons, List.length_nil, xli_m1, xli_0, xli_1, xli_2, xli_3, xli_4, xli_5, xlb_8, xlb_12, xlb_31, xlb_32, xlb_64, xls_256, xls_513, xls_2048, xls_4096, xll_0, xll_1, xnr_i, xnr_0, xnr_1, xnr_ite, xft_i, xft_0, xft_1, xat_999, xat_1001, xat_1002, xat_1003, xat_2001, xat_2002, xat_2003, List.getElem?_cons_succ, List.getElem?_cons_zero, xfn_0, xfn_1, xfn_2, xfn_3, x10, x01, not_true_eq_false, false_implies, implies_true, true_implies, xrm_c, xrm_s, xnl_4, xnl_32, xnl_64, xnl_256, xtn_4, xtn_32, xtn_64, xtn_256, Option.some.injEq, Sum.inl.injEq, Sum.inr.injEq, exists_eq_left', exists_eq_right, Option.toList_some, Option.toList_none, List.cons_append, List.nil_append, xE, lg_cmp_ge, lg_cmp_le, lg_cmp_gt, lg_cmp_lt, lg_cmp_eq, Nat.le_refl, Nat.zero_le, ne_eq, Nat.add_zero, dS_leastCall_0, dS_leastCall_1, dS_leastCall_2, dS_leastCall_3, dS_leastCall_4, dS_leastCall_5, dS_leastCall_8, dS_leastCall_9, dS_leastCall_12, dS_leastCall_13, dS_leastCall_14, dS_leastCall_15, dS_leastCall_18, dS_leastCall_19, dS_leastCall_22, dS_leastCall_23, dS_leastCall_26, dS_leastCall_29, dS_leastCall_32, dS_leastCall_35, dS_leastCall_36, dS_leastCall_37, dS_leastCall_38, dS_leastCall_41, dS_leastCall_42, dS_leastCall_45, dS_leastCall_48, dS_leastCall_51, dS_leastCall_54, dS_leastCall_55, dS_leastCall_58, dS_leastCall_60, xj_3_230, xj_3_232, xj_3_234, xj_3_236]
        unfold mlc
        rw [if_neg e1, if_pos ⟨he, hr⟩]
        rfl
      · rw [if_neg hr]
        refine xrun_ok hV [] 30 _ _ _ _ _ _ ?_
        simp (maxDischargeDepth := 60) only [xrun, xisc, ↓xstep, xget, xtgt, xcmp, xacmp, xprev, xisR, xnt, List.set, List.length, xsw, xlk, true_or, or_true, if_true, if_false, true_and, and_true, List.mem_cons, List.not_mem_nil, or_false, false_or, Bool.false_eq_true, reduceCtorEq, not_false_eq_true, forall_const, Nat.zero_add, Nat.reduceAdd, Nat.reduceSub, Int.reduceAdd, Int.reduceNeg, Int.reduceToNat, Nat.reduceEqDiff, Nat.reduceLT, Nat.reduceLeDiff, Int.reduceLE, Int.reduceLT, reduceIte, Int.cast_ofNat_Int, Int.natCast_zero, Int.natCast_one, Int.reduceAdd, eq_self, Int.reduceSub, List.length_cons, List.length_nil, xli_m1, xli_0, xli_1, xli_2, xli_3, xli_4, xli_5, xlb_8, xlb_12, xlb_31, xlb_32, xlb_64, xls_256, xls_513, xls_2048, xls_4096, xll_0, xll_1, xnr_i, xnr_0, xnr_1, xnr_ite, xft_i, xft_0, xft_1, xat_999, xat_1001, xat_1002, xat_1003, xat_2001, xat_2002, xat_2003, List.getElem?_cons_succ, List.getElem?_cons_zero, xfn_0, xfn_1, xfn_2, xfn_3, x10, x01, not_true_eq_false, false_implies, implies_true, true_implies, xrm_c, xrm_s, xnl_4, xnl_32, xnl_64, xnl_256, xtn_4, xtn_32, xtn_64, xtn_256, Option.some.injEq, Sum.inl.injEq, Sum.inr.injEq, exists_eq_left', exists_eq_right, Option.toList_some, Option.toList_none, List.cons_append, List.nil_append, xE, lg_cmp_ge, lg_cmp_le, lg_cmp_gt, lg_cmp_lt, lg_cmp_eq, Nat.le_refl, Nat.zero_le, ne_eq, Nat.add_zero, dS_leastCall_0, dS_leastCall_1, dS_leastCall_2, dS_leastCall_3, dS_leastCall_4, dS_leastCall_5, dS_leastCall_8, dS_leastCall_9, dS_leastCall_12, dS_leastCall_13, dS_leastCall_14, dS_leastCall_15, dS_leastCall_18, dS_leastCall_19, dS_leastCall_22, dS_leastCall_23, dS_leastCall_26, dS_leastCall_29, dS_leastCall_32, dS_leastCall_35, dS_leastCall_36, dS_leastCall_37, dS_leastCall_38, dS_leastCall_41, dS_leastCall_42, dS_leastCall_45, dS_leastCall_48, dS_leastCall_51, dS_leastCall_54, dS_leastCall_55, dS_leastCall_58, dS_leastCall_60, xj_3_230, xj_3_232, xj_3_234, xj_3_236]
        unfold mlc
        rw [if_neg e1, if_neg (fun w => hr w.2)]
        rfl
    have ha : (d &&& 1 = 0) = True := by rw [i64_and1]; simp [he]
    refine xrun_ok hV [37] 30 _ _ _ _ _ _ ?_
    simp (maxDischargeDepth := 60) only [xrun, xisc, ↓xstep, xget, xtgt, xcmp, xacmp, xprev, xisR, xnt, List.set, List.length, xsw, xlk, true_or, or_true, if_true, if_false, true_and, and_true, List.mem_cons, List.not_mem_nil, or_false, false_or, Bool.false_eq_true, reduceCtorEq, not_false_eq_true, forall_const, Nat.zero_add, Nat.reduceAdd, Nat.reduceSub, Int.reduceAdd, Int.reduceNeg, Int.reduceToNat, Nat.reduceEqDiff, Nat.reduceLT, Nat.reduceLeDiff, Int.reduceLE, Int.reduceLT, reduceIte, Int.cast_ofNat_Int, Int.natCast_zero, Int.natCast_one, Int.reduceAdd, eq_self, Int.reduceSub, List.length_cons, List.length_nil, xli_m1, xli_0, xli_1, xli_2, xli_3, xli_4, xli_5, xlb_8, xlb_12, xlb_31, xlb_32, xlb_64, xls_256, xls_513, xls_2048, xls_4096, xll_0, xll_1, xnr_i, xnr_0, xnr_1, xnr_ite, xft_i, xft_0, xft_1, xat_999, xat_1001, xat_1002, xat_1003, xat_2001, xat_2002, xat_2003, List.getElem?_cons_succ, List.getElem?_cons_zero, xfn_0, xfn_1, xfn_2, xfn_3, x10, x01, not_true_eq_false, false_implies, implies_true, true_implies, xrm_c, xrm_s, xnl_4, xnl_32, xnl_64, xnl_256, xtn_4, xtn_32, xtn_64, xtn_256, Option.some.injEq, Sum.inl.injEq, Sum.inr.injEq, exists_eq_left', exists_eq_right, Option.toList_some, Option.toList_none, List.cons_append, List.nil_append, xE, lg_cmp_ge, lg_cmp_le, lg_cmp_gt, lg_cmp_lt, lg_cmp_eq, Nat.le_refl, Nat.zero_le, ne_eq, Nat.add_zero, dS_leastCall_0, dS_leastCall_1, dS_leastCall_2, dS_leastCall_3, dS_leastCall_4, dS_leastCall_5, dS_leastCall_8, dS_leastCall_9, dS_leastCall_12, dS_leastCall_13, dS_leastCall_14, dS_leastCall_15, dS_leastCall_18, dS_leastCall_19, dS_leastCall_22, dS_leastCall_23, dS_leastCall_26, dS_leastCall_29, dS_leastCall_32, dS_leastCall_35, dS_leastCall_36, dS_leastCall_37, dS_leastCall_38, dS_leastCall_41, dS_leastCall_42, dS_leastCall_45, dS_leastCall_48, dS_leastCall_51, dS_leastCall_54, dS_leastCall_55, dS_leastCall_58, dS_leastCall_60, xj_3_230, xj_3_232, xj_3_234, xj_3_236, ha, et]
    refine ⟨fun z => fin (fun w => by omega), fun z => ?_⟩
    refine hV.call [] xh_3_57 dS_leastCall_29 (c_isWithin S d (-2048) 2046) (Or.inl rfl) rfl rfl (by decide) (by decide) (by decide) ?_
    rintro r S' ⟨rfl, rfl⟩
    rw [f1, f2]
    by_cases hr : -2048 ≤ d.toInt ∧ d.toInt ≤ 2046
    · rw [if_pos hr]
      refine xrun_ok hV [37] 30 _ _ _ _ _ _ ?_
      simp (maxDischargeDepth := 60) only [xrun, xisc, ↓xstep, xget, xtgt, xcmp, xacmp, xprev, xisR, xnt, List.set, List.length, xsw, xlk, true_or, or_true, if_true, if_false, true_and, and_true, List.mem_cons, List.not_mem_nil, or_false, false_or, Bool.false_eq_true, reduceCtorEq, not_false_eq_true, forall_const, Nat.zero_add, Nat.reduceAdd, Nat.reduceSub, Int.reduceAdd, Int.reduceNeg, Int.reduceToNat, Nat.reduceEqDiff, Nat.reduceLT, Nat.reduceLeDiff, Int.reduceLE, Int.reduceLT, reduceIte, Int.cast_ofNat_Int, Int.natCast_zero, Int.natCast_one, Int.reduceAdd, eq_self, Int.reduceSub, List.length_cons, List.length_nil, xli_m1, xli_0, xli_1, xli_2, xli_3, xli_4, xli_5, xlb_8, xlb_12, xlb_31, xlb_32, xlb_64, xls_256, xls_513, xls_2048, xls_4096, xll_0, xll_1, xnr_i, xnr_0, xnr_1, xnr_ite, xft_i, xft_0, xft_1, xat_999, xat_1001, xat_1002, xat_1003, xat_2001, xat_2002, xat_2003, List.getElem?_cons_succ, List.getElem?_cons_zero, xfn_0, xfn_1, xfn_2, xfn_3, x10, x01, not_true_eq_false, false_implies, implies_true, true_implies, xrm_c, xrm_s, xnl_4, xnl_32, xnl_64, xnl_256, xtn_4, xtn_32, xtn_64, xtn_256, Option.some.injEq, Sum.inl.injEq, Sum.inr.injEq, exists_eq_left', exists_eq_right, Option.toList_some, Option.toList_none, List.cons_append, List.nil_append, xE, lg_cmp_ge, lg_cmp_le, lg_cmp_gt, lg_cmp_lt, lg_cmp_eq, Nat.le_refl, Nat.zero_le, ne_eq, Nat.add_zero, dS_leastCall_0, dS_leastCall_1, dS_leastCall_2, dS_leastCall_3, dS_leastCall_4, dS_leastCall_5, dS_leastCall_8, dS_leastCall_9, dS_leastCall_12, dS_leastCall_13, dS_leastCall_14, dS_leastCall_15, dS_leastCall_18, dS_leastCall_19, dS_leastCall_22, dS_leastCall_23, dS_leastCall_26, dS_leastCall_29, dS_leastCall_32, dS_leastCall_35, dS_leastCall_36, dS_leastCall_37, dS_leastCall_38, dS_leastCall_41, dS_leastCall_42, dS_leastCall_45, dS_leastCall_48, dS_leastCall_51, dS_leastCall_54, dS_leastCall_55, dS_leastCall_58, dS_leastCall_60, xj_3_230, xj_3_232, xj_3_234, xj_3_236]
      unfold mlc
      rw [if_pos ⟨by simp; omega, he, by simp [mnear]; omega⟩]
      rfl
    · rw [if_neg hr]
      refine xrun_ok hV [37] 30 _ _ _ _ _ _ ?_
      simp (maxDischargeDepth := 60) only [xrun, xisc, ↓xstep, xget, xtgt, xcmp, xacmp, xprev, xisR, xnt, List.set, List.length, xsw, xlk, true_or, or_true, if_true, if_false, true_and, and_true, List.mem_cons, List.not_mem_nil, or_false, false_or, Bool.false_eq_true, reduceCtorEq, not_false_eq_true, forall_const, Nat.zero_add, Nat.reduceAdd, Nat.reduceSub, Int.reduceAdd, Int.reduceNeg, Int.reduceToNat, Nat.reduceEqDiff, Nat.reduceLT, Nat.reduceLeDiff, Int.reduceLE, Int.reduceLT, reduceIte, Int.cast_ofNat_Int, Int.natCast_zero, Int.natCast_one, Int.reduceAdd, eq_self, Int.reduceSub, List.length_cons, List.length_nil, xli_m1, xli_0, xli_1, xli_2, xli_3, xli_4, xli_5, xlb_8, xlb_12, xlb_31, xlb_32, xlb_64, xls_256, xls_513, xls_2048, xls_4096, xll_0, xll_1, xnr_i, xnr_0, xnr_1, xnr_ite, xft_i, xft_0, xft_1, xat_999, xat_1001, xat_1002, xat_1003, xat_2001, xat_2002, xat_2003, List.getElem?_cons_succ, List.getElem?_cons_zero, xfn_0, xfn_1, xfn_2, xfn_3, x10, x01, not_true_eq_false, false_implies, implies_true, true_implies, xrm_c, xrm_s, xnl_4, xnl_32, xnl_64, xnl_256, xtn_4, xtn_32, xtn_64, xtn_256, Option.some.injEq, Sum.inl.injEq, Sum.inr.injEq, exists_eq_left', exists_eq_right, Option.toList_some, Option.toList_none, List.cons_append, List.nil_append, xE, lg_cmp_ge, lg_cmp_le, lg_cmp_gt, lg_cmp_lt, lg_cmp_eq, Nat.le_refl, Nat.zero_le, ne_eq, Nat.add_zero, dS_leastCall_0, dS_leastCall_1, dS_leastCall_2, dS_leastCall_3, dS_leastCall_4, dS_leastCall_5, dS_leastCall_8, dS_leastCall_9, dS_leastCall_12, dS_leastCall_13, dS_leastCall_14, dS_leastCall_15, dS_leastCall_18, dS_leastCall_19, dS_leastCall_22, dS_leastCall_23, dS_leastCall_26, dS_leastCall_29, dS_leastCall_32, dS_leastCall_35, dS_leastCall_36, dS_leastCall_37, dS_leastCall_38, dS_leastCall_41, dS_leastCall_42, dS_leastCall_45, dS_leastCall_48, dS_leastCall_51, dS_leastCall_54, dS_leastCall_55, dS_leastCall_58, dS_leastCall_60, xj_3_230, xj_3_232, xj_3_234, xj_3_236]
      exact fin (fun w => by omega)
  · have ha : (d &&& 1 = 0) = False := by rw [i64_and1]; simp [he]
    refine xrun_ok hV [] 60 _ _ _ _ _ _ ?_
    simp (maxDischargeDepth := 60) only [xrun, xisc, ↓xstep, xget, xtgt, xcmp, xacmp, xprev, xisR, xnt, List.set, List.length, xsw, xlk, true_or, or_true, if_true, if_false, true_and, and_true, List.mem_cons, List.not_mem_nil, or_false, false_or, Bool.false_eq_true, reduceCtorEq, not_false_eq_true, forall_const, Nat.zero_add, Nat.reduceAdd, Nat.reduceSub, Int.reduceAdd, Int.reduceNeg, Int.reduceToNat, Nat.reduceEqDiff, Nat.reduceLT, Nat.reduceLeDiff, Int.reduceLE, Int.reduceLT, reduceIte, Int.cast_ofNat_Int, Int.natCast_zero, Int.natCast_one, Int.reduceAdd, eq_self, Int.reduceSub, List.length_cons, List.length_nil, xli_m1, xli_0, xli_1, xli_2, xli_3, xli_4, xli_5, xlb_8, xlb_12, xlb_31, xlb_32, xlb_64, xls_256, xls_513, xls_2048, xls_4096, xll_0, xll_1, xnr_i, xnr_0, xnr_1, xnr_ite, xft_i, xft_0, xft_1, xat_999, xat_1001, xat_1002, xat_1003, xat_2001, xat_2002, xat_2003, List.getElem?_cons_succ, List.getElem?_cons_zero, xfn_0, xfn_1, xfn_2, xfn_3, x10, x01, not_true_eq_false, false_implies, implies_true, true_implies, xrm_c, xrm_s, xnl_4, xnl_32, xnl_64, xnl_256, xtn_4, xtn_32, xtn_64, xtn_256, Option.some.injEq, Sum.inl.injEq, Sum.inr.injEq, exists_eq_left', exists_eq_right, Option.toList_some, Option.toList_none, List.cons_append, List.nil_append, xE, lg_cmp_ge, lg_cmp_le, lg_cmp_gt, lg_cmp_lt, lg_cmp_eq, Nat.le_refl, Nat.zero_le, ne_eq, Nat.add_zero, dS_leastCall_0, dS_leastCall_1, dS_leastCall_2, dS_leastCall_3, dS_leastCall_4, dS_leastCall_5, dS_leastCall_8, dS_leastCall_9, dS_leastCall_12, dS_leastCall_13, dS_leastCall_14, dS_leastCall_15, dS_leastCall_18, dS_leastCall_19, dS_leastCall_22, dS_leastCall_23, dS_leastCall_26, dS_leastCall_29, dS_leastCall_32, dS_leastCall_35, dS_leastCall_36, dS_leastCall_37, dS_leastCall_38, dS_leastCall_41, dS_leastCall_42, dS_leastCall_45, dS_leastCall_48, dS_leastCall_51, dS_leastCall_54, dS_leastCall_55, dS_leastCall_58, dS_leastCall_60, xj_3_230, xj_3_232, xj_3_234, xj_3_236, ha, et]
    unfold mlc
    rw [if_neg (fun w => he w.2.1), if_neg (fun w => he w.1)]
    exact ⟨fun _ => rfl, fun _ => rfl⟩
theorem i64_xor_neg (x : Int64) : (0 ≤ x ^^^ 4096) = (0 ≤ x.toInt) := by
  have h1 : (x ^^^ 4096).toBitVec.msb = x.toBitVec.msb := by
    rw [Int64.toBitVec_xor, BitVec.msb_xor]
    have : (4096 : Int64).toBitVec.msb = false := by decide +kernel
    rw [this, Bool.xor_false]
  have h2 : ∀ y : Int64, y.toBitVec.msb = decide (y.toInt < 0) := fun y => BitVec.msb_eq_toInt
  rw [h2, h2] at h1
  have h3 : (0 ≤ x ^^^ 4096) = (0 ≤ (x ^^^ 4096).toInt) := propext Int64.le_iff_toInt_le
  rw [h3]
  have h4 : ((x ^^^ 4096).toInt < 0) ↔ (x.toInt < 0) := by simpa using h1
  apply propext
  omega
theorem i64_div4096 {x : Int64} (h : -(2 ^ 61) ≤ x.toInt ∧ x.toInt ≤ 2 ^ 61) : (x / 4096).toInt = if 0 ≤ x.toInt then x.toInt / 4096 else -((-x.toInt) / 4096) := by
  rw [Int64.toInt_div]
  have e : (4096 : Int64).toInt = 4096 := by decide +kernel
  rw [e]
  have h1 : x.toInt.tdiv 4096 = if 0 ≤ x.toInt then x.toInt / 4096 else -((-x.toInt) / 4096) := by
    split
    · rename_i z
      exact Int.tdiv_eq_ediv_of_nonneg z
    · rename_i z
      rw [← Int.tdiv_eq_ediv_of_nonneg (show 0 ≤ -x.toInt by omega), Int.neg_tdiv, Int.neg_neg]
  rw [h1, Int.bmod_def]
  split <;> split <;> omega
set_option maxHeartbeats 4000000 in
set_option maxRecDepth 100000 in
theorem c_floorDiv (S : xS) (x : Int64) (h : -(2 ^ 61) ≤ x.toInt ∧ x.toInt ≤ 2 ^ 61) : xMet l D n0 mA_floorDiv 0 0 [.inr (.inl x), .inr (.inl 4096)] S (fun r S' => (∃ q : Int64, r = some (.inr (.inl q)) ∧ q.toInt = x.toInt / 4096) ∧ S' = S) := by
  refine xMet.of (k := mA_floorDiv) (own := 6) (ini := false) xm_A_floorDiv (by decide +kernel) (by decide +kernel) (by decide) (Nat.le_of_ble_eq_true rfl) ?_
  intro V hV
  show V 0 [some (.inr (.inl x)), none, some (.inr (.inl 4096)), none, none, none] [] S 0 0
  have hd := i64_div4096 h
  have n0 : ((4096 : Int64) = 0) = False := by decide +kernel
  have e : (4096 : Int64).toInt = 4096 := by decide +kernel
  have hx := i64_xor_neg x
  refine xrun_ok hV [] 60 _ _ _ _ _ _ ?_
  simp (maxDischargeDepth := 60) only [xrun, xisc, ↓xstep, xget, xtgt, xcmp, xacmp, xprev, xisR, xnt, List.set, List.length, xsw, xlk, true_or, or_true, if_true, if_false, true_and, and_true, List.mem_cons, List.not_mem_nil, or_false, false_or, Bool.false_eq_true, reduceCtorEq, not_false_eq_true, forall_const, Nat.zero_add, Nat.reduceAdd, Nat.reduceSub, Int.reduceAdd, Int.reduceNeg, Int.reduceToNat, Nat.reduceEqDiff, Nat.reduceLT, Nat.reduceLeDiff, Int.reduceLE, Int.reduceLT, reduceIte, Int.cast_ofNat_Int, Int.natCast_zero, Int.natCast_one, Int.reduceAdd, eq_self, Int.reduceSub, List.length_cons, List.length_nil, xli_m1, xli_0, xli_1, xli_2, xli_3, xli_4, xli_5, xlb_8, xlb_12, xlb_31, xlb_32, xlb_64, xls_256, xls_513, xls_2048, xls_4096, xll_0, xll_1, xnr_i, xnr_0, xnr_1, xnr_ite, xft_i, xft_0, xft_1, xat_999, xat_1001, xat_1002, xat_1003, xat_2001, xat_2002, xat_2003, List.getElem?_cons_succ, List.getElem?_cons_zero, xfn_0, xfn_1, xfn_2, xfn_3, x10, x01, not_true_eq_false, false_implies, implies_true, true_implies, xrm_c, xrm_s, xnl_4, xnl_32, xnl_64, xnl_256, xtn_4, xtn_32, xtn_64, xtn_256, Option.some.injEq, Sum.inl.injEq, Sum.inr.injEq, exists_eq_left', exists_eq_right, Option.toList_some, Option.toList_none, List.cons_append, List.nil_append, xE, lg_cmp_ge, lg_cmp_le, lg_cmp_gt, lg_cmp_lt, lg_cmp_eq, Nat.le_refl, Nat.zero_le, ne_eq, Nat.add_zero, dA_floorDiv_0, dA_floorDiv_1, dA_floorDiv_2, dA_floorDiv_3, dA_floorDiv_5, dA_floorDiv_6, dA_floorDiv_7, dA_floorDiv_8, dA_floorDiv_9, dA_floorDiv_10, dA_floorDiv_13, dA_floorDiv_15, dA_floorDiv_16, dA_floorDiv_17, dA_floorDiv_18, dA_floorDiv_19, dA_floorDiv_22, dA_floorDiv_24, dA_floorDiv_25, dA_floorDiv_26, dA_floorDiv_27, dA_floorDiv_29, n0, hx]
  have hm : (x / 4096 * 4096).toInt = (x / 4096).toInt * 4096 := by
    rw [Int64.toInt_mul, e, Int.bmod_def, hd]
    split <;> split <;> omega
  refine ⟨fun z => ?_, fun z => ⟨fun y => ?_, fun y => ?_⟩⟩
  · rw [hd, if_pos z]
  · have := congrArg Int64.toInt y
    rw [hm] at this
    omega
  · have h1 : (1 : Int64).toInt = 1 := by decide +kernel
    have ne : (x / 4096).toInt * 4096 ≠ x.toInt := fun w => y (Int64.toInt_inj.mp (hm.trans w))
    rw [if_neg z] at hd
    rw [i64_sub (by omega) (by omega), h1, hd]
    rw [hd] at ne
    omega
set_option maxHeartbeats 4000000 in
set_option maxRecDepth 100000 in
theorem c_leastLoad (S : xS) (a g : Int64) {t : Nat} (ht : t ≤ 1) (ha : -(2 ^ 60) ≤ a.toInt ∧ a.toInt ≤ 2 ^ 60) (hg : -(2 ^ 60) ≤ g.toInt ∧ g.toInt ≤ 2 ^ 60) : xMet l D n0 mS_leastLoad 0 0 [.inr (.inl a), .inr (.inl g), .inl (nI t)] S (fun r S' => r = some (.inl (nI (mll a.toInt g.toInt (decide (t = 1))))) ∧ S' = S) := by
  refine xMet.of (k := mS_leastLoad) (own := 3) (ini := false) xm_S_leastLoad (by decide +kernel) (by decide +kernel) (by decide) (Nat.le_of_ble_eq_true rfl) ?_
  intro V hV
  show V 0 [some (.inr (.inl a)), none, some (.inr (.inl g)), none, some (.inl (nI t))] [] S 0 0
  have et : (nI t = 0) = (t = 0) := propext (nI_eq (b := 0) (by omega) (by decide))
  have f1 : (-2048 : Int64).toInt = -2048 := by decide +kernel
  have f2 : (2047 : Int64).toInt = 2047 := by decide +kernel
  have f3 : (2048 : Int64).toInt = 2048 := by decide +kernel
  have f4 : (1 : Int64).toInt = 1 := by decide +kernel
  have f5 : (31 : Int64).toInt = 31 := by decide +kernel
  refine xrun_ok hV [] 30 _ _ _ _ _ _ ?_
  simp (maxDischargeDepth := 60) only [xrun, xisc, ↓xstep, xget, xtgt, xcmp, xacmp, xprev, xisR, xnt, List.set, List.length, xsw, xlk, true_or, or_true, if_true, if_false, true_and, and_true, List.mem_cons, List.not_mem_nil, or_false, false_or, Bool.false_eq_true, reduceCtorEq, not_false_eq_true, forall_const, Nat.zero_add, Nat.reduceAdd, Nat.reduceSub, Int.reduceAdd, Int.reduceNeg, Int.reduceToNat, Nat.reduceEqDiff, Nat.reduceLT, Nat.reduceLeDiff, Int.reduceLE, Int.reduceLT, reduceIte, Int.cast_ofNat_Int, Int.natCast_zero, Int.natCast_one, Int.reduceAdd, eq_self, Int.reduceSub, List.length_cons, List.length_nil, xli_m1, xli_0, xli_1, xli_2, xli_3, xli_4, xli_5, xlb_8, xlb_12, xlb_31, xlb_32, xlb_64, xls_256, xls_513, xls_2048, xls_4096, xll_0, xll_1, xnr_i, xnr_0, xnr_1, xnr_ite, xft_i, xft_0, xft_1, xat_999, xat_1001, xat_1002, xat_1003, xat_2001, xat_2002, xat_2003, List.getElem?_cons_succ, List.getElem?_cons_zero, xfn_0, xfn_1, xfn_2, xfn_3, x10, x01, not_true_eq_false, false_implies, implies_true, true_implies, xrm_c, xrm_s, xnl_4, xnl_32, xnl_64, xnl_256, xtn_4, xtn_32, xtn_64, xtn_256, Option.some.injEq, Sum.inl.injEq, Sum.inr.injEq, exists_eq_left', exists_eq_right, Option.toList_some, Option.toList_none, List.cons_append, List.nil_append, xE, lg_cmp_ge, lg_cmp_le, lg_cmp_gt, lg_cmp_lt, lg_cmp_eq, Nat.le_refl, Nat.zero_le, ne_eq, Nat.add_zero, dS_leastLoad_0, dS_leastLoad_1, dS_leastLoad_4, dS_leastLoad_7, dS_leastLoad_10, dS_leastLoad_13, dS_leastLoad_14, dS_leastLoad_15, dS_leastLoad_16, dS_leastLoad_19, dS_leastLoad_22, dS_leastLoad_25, dS_leastLoad_28, dS_leastLoad_29, dS_leastLoad_30, dS_leastLoad_32, dS_leastLoad_35, dS_leastLoad_36, dS_leastLoad_39, dS_leastLoad_40, dS_leastLoad_43, dS_leastLoad_46, dS_leastLoad_47, dS_leastLoad_50, dS_leastLoad_53, dS_leastLoad_56, dS_leastLoad_57, dS_leastLoad_60, dS_leastLoad_61, xj_3_230, xj_3_238, xj_3_240, xj_3_72, xj_3_246]
  refine hV.call [] xh_3_57 dS_leastLoad_7 (c_isWithin S a (-2048) 2047) (Or.inl rfl) rfl rfl (by decide) (by decide) (by decide) ?_
  rintro r S' ⟨rfl, rfl⟩
  rw [f1, f2]
  by_cases h1 : -2048 ≤ a.toInt ∧ a.toInt ≤ 2047
  · rw [if_pos h1]
    refine xrun_ok hV [] 30 _ _ _ _ _ _ ?_
    simp (maxDischargeDepth := 60) only [xrun, xisc, ↓xstep, xget, xtgt, xcmp, xacmp, xprev, xisR, xnt, List.set, List.length, xsw, xlk, true_or, or_true, if_true, if_false, true_and, and_true, List.mem_cons, List.not_mem_nil, or_false, false_or, Bool.false_eq_true, reduceCtorEq, not_false_eq_true, forall_const, Nat.zero_add, Nat.reduceAdd, Nat.reduceSub, Int.reduceAdd, Int.reduceNeg, Int.reduceToNat, Nat.reduceEqDiff, Nat.reduceLT, Nat.reduceLeDiff, Int.reduceLE, Int.reduceLT, reduceIte, Int.cast_ofNat_Int, Int.natCast_zero, Int.natCast_one, Int.reduceAdd, eq_self, Int.reduceSub, List.length_cons, List.length_nil, xli_m1, xli_0, xli_1, xli_2, xli_3, xli_4, xli_5, xlb_8, xlb_12, xlb_31, xlb_32, xlb_64, xls_256, xls_513, xls_2048, xls_4096, xll_0, xll_1, xnr_i, xnr_0, xnr_1, xnr_ite, xft_i, xft_0, xft_1, xat_999, xat_1001, xat_1002, xat_1003, xat_2001, xat_2002, xat_2003, List.getElem?_cons_succ, List.getElem?_cons_zero, xfn_0, xfn_1, xfn_2, xfn_3, x10, x01, not_true_eq_false, false_implies, implies_true, true_implies, xrm_c, xrm_s, xnl_4, xnl_32, xnl_64, xnl_256, xtn_4, xtn_32, xtn_64, xtn_256, Option.some.injEq, Sum.inl.injEq, Sum.inr.injEq, exists_eq_left', exists_eq_right, Option.toList_some, Option.toList_none, List.cons_append, List.nil_append, xE, lg_cmp_ge, lg_cmp_le, lg_cmp_gt, lg_cmp_lt, lg_cmp_eq, Nat.le_refl, Nat.zero_le, ne_eq, Nat.add_zero, dS_leastLoad_0, dS_leastLoad_1, dS_leastLoad_4, dS_leastLoad_7, dS_leastLoad_10, dS_leastLoad_13, dS_leastLoad_14, dS_leastLoad_15, dS_leastLoad_16, dS_leastLoad_19, dS_leastLoad_22, dS_leastLoad_25, dS_leastLoad_28, dS_leastLoad_29, dS_leastLoad_30, dS_leastLoad_32, dS_leastLoad_35, dS_leastLoad_36, dS_leastLoad_39, dS_leastLoad_40, dS_leastLoad_43, dS_leastLoad_46, dS_leastLoad_47, dS_leastLoad_50, dS_leastLoad_53, dS_leastLoad_56, dS_leastLoad_57, dS_leastLoad_60, dS_leastLoad_61, xj_3_230, xj_3_238, xj_3_240, xj_3_72, xj_3_246]
    unfold mll
    rw [if_pos (Or.inl (by simp [mnear]; exact h1))]
    rfl
  rw [if_neg h1]
  refine xrun_ok hV [] 30 _ _ _ _ _ _ ?_
  simp (maxDischargeDepth := 60) only [xrun, xisc, ↓xstep, xget, xtgt, xcmp, xacmp, xprev, xisR, xnt, List.set, List.length, xsw, xlk, true_or, or_true, if_true, if_false, true_and, and_true, List.mem_cons, List.not_mem_nil, or_false, false_or, Bool.false_eq_true, reduceCtorEq, not_false_eq_true, forall_const, Nat.zero_add, Nat.reduceAdd, Nat.reduceSub, Int.reduceAdd, Int.reduceNeg, Int.reduceToNat, Nat.reduceEqDiff, Nat.reduceLT, Nat.reduceLeDiff, Int.reduceLE, Int.reduceLT, reduceIte, Int.cast_ofNat_Int, Int.natCast_zero, Int.natCast_one, Int.reduceAdd, eq_self, Int.reduceSub, List.length_cons, List.length_nil, xli_m1, xli_0, xli_1, xli_2, xli_3, xli_4, xli_5, xlb_8, xlb_12, xlb_31, xlb_32, xlb_64, xls_256, xls_513, xls_2048, xls_4096, xll_0, xll_1, xnr_i, xnr_0, xnr_1, xnr_ite, xft_i, xft_0, xft_1, xat_999, xat_1001, xat_1002, xat_1003, xat_2001, xat_2002, xat_2003, List.getElem?_cons_succ, List.getElem?_cons_zero, xfn_0, xfn_1, xfn_2, xfn_3, x10, x01, not_true_eq_false, false_implies, implies_true, true_implies, xrm_c, xrm_s, xnl_4, xnl_32, xnl_64, xnl_256, xtn_4, xtn_32, xtn_64, xtn_256, Option.some.injEq, Sum.inl.injEq, Sum.inr.injEq, exists_eq_left', exists_eq_right, Option.toList_some, Option.toList_none, List.cons_append, List.nil_append, xE, lg_cmp_ge, lg_cmp_le, lg_cmp_gt, lg_cmp_lt, lg_cmp_eq, Nat.le_refl, Nat.zero_le, ne_eq, Nat.add_zero, dS_leastLoad_0, dS_leastLoad_1, dS_leastLoad_4, dS_leastLoad_7, dS_leastLoad_10, dS_leastLoad_13, dS_leastLoad_14, dS_leastLoad_15, dS_leastLoad_16, dS_leastLoad_19, dS_leastLoad_22, dS_leastLoad_25, dS_leastLoad_28, dS_leastLoad_29, dS_leastLoad_30, dS_leastLoad_32, dS_leastLoad_35, dS_leastLoad_36, dS_leastLoad_39, dS_leastLoad_40, dS_leastLoad_43, dS_leastLoad_46, dS_leastLoad_47, dS_leastLoad_50, dS_leastLoad_53, dS_leastLoad_56, dS_leastLoad_57, dS_leastLoad_60, dS_leastLoad_61, xj_3_230, xj_3_238, xj_3_240, xj_3_72, xj_3_246]
  refine hV.call [] xh_3_57 dS_leastLoad_22 (c_isWithin S' (a - g) (-2048) 2047) (Or.inl rfl) rfl rfl (by decide) (by decide) (by decide) ?_
  rintro r S' ⟨rfl, rfl⟩
  rw [f1, f2, i64_sub (by omega) (by omega)]
  by_cases h2 : -2048 ≤ a.toInt - g.toInt ∧ a.toInt - g.toInt ≤ 2047
  · rw [if_pos h2]
    refine xrun_ok hV [] 30 _ _ _ _ _ _ ?_
    simp (maxDischargeDepth := 60) only [xrun, xisc, ↓xstep, xget, xtgt, xcmp, xacmp, xprev, xisR, xnt, List.set, List.length, xsw, xlk, true_or, or_true, if_true, if_false, true_and, and_true, List.mem_cons, List.not_mem_nil, or_false, false_or, Bool.false_eq_true, reduceCtorEq, not_false_eq_true, forall_const, Nat.zero_add, Nat.reduceAdd, Nat.reduceSub, Int.reduceAdd, Int.reduceNeg, Int.reduceToNat, Nat.reduceEqDiff, Nat.reduceLT, Nat.reduceLeDiff, Int.reduceLE, Int.reduceLT, reduceIte, Int.cast_ofNat_Int, Int.natCast_zero, Int.natCast_one, Int.reduceAdd, eq_self, Int.reduceSub, List.length_cons, List.length_nil, xli_m1, xli_0, xli_1, xli_2, xli_3, xli_4, xli_5, xlb_8, xlb_12, xlb_31, xlb_32, xlb_64, xls_256, xls_513, xls_2048, xls_4096, xll_0, xll_1, xnr_i, xnr_0, xnr_1, xnr_ite, xft_i, xft_0, xft_1, xat_999, xat_1001, xat_1002, xat_1003, xat_2001, xat_2002, xat_2003, List.getElem?_cons_succ, List.getElem?_cons_zero, xfn_0, xfn_1, xfn_2, xfn_3, x10, x01, not_true_eq_false, false_implies, implies_true, true_implies, xrm_c, xrm_s, xnl_4, xnl_32, xnl_64, xnl_256, xtn_4, xtn_32, xtn_64, xtn_256, Option.some.injEq, Sum.inl.injEq, Sum.inr.injEq, exists_eq_left', exists_eq_right, Option.toList_some, Option.toList_none, List.cons_append, List.nil_append, xE, lg_cmp_ge, lg_cmp_le, lg_cmp_gt, lg_cmp_lt, lg_cmp_eq, Nat.le_refl, Nat.zero_le, ne_eq, Nat.add_zero, dS_leastLoad_0, dS_leastLoad_1, dS_leastLoad_4, dS_leastLoad_7, dS_leastLoad_10, dS_leastLoad_13, dS_leastLoad_14, dS_leastLoad_15, dS_leastLoad_16, dS_leastLoad_19, dS_leastLoad_22, dS_leastLoad_25, dS_leastLoad_28, dS_leastLoad_29, dS_leastLoad_30, dS_leastLoad_32, dS_leastLoad_35, dS_leastLoad_36, dS_leastLoad_39, dS_leastLoad_40, dS_leastLoad_43, dS_leastLoad_46, dS_leastLoad_47, dS_leastLoad_50, dS_leastLoad_53, dS_leastLoad_56, dS_leastLoad_57, dS_leastLoad_60, dS_leastLoad_61, xj_3_230, xj_3_238, xj_3_240, xj_3_72, xj_3_246]
    unfold mll
    rw [if_pos (Or.inr (by simp [mnear]; exact h2))]
    rfl
  rw [if_neg h2]
  have hno : ¬ (mnear a.toInt = true ∨ mnear (a.toInt - g.toInt) = true) := by
    simp only [mnear, Bool.and_eq_true, decide_eq_true_eq]
    exact fun w => w.elim h1 h2
  refine xrun_ok hV [] 30 _ _ _ _ _ _ ?_
  simp (maxDischargeDepth := 60) only [xrun, xisc, ↓xstep, xget, xtgt, xcmp, xacmp, xprev, xisR, xnt, List.set, List.length, xsw, xlk, true_or, or_true, if_true, if_false, true_and, and_true, List.mem_cons, List.not_mem_nil, or_false, false_or, Bool.false_eq_true, reduceCtorEq, not_false_eq_true, forall_const, Nat.zero_add, Nat.reduceAdd, Nat.reduceSub, Int.reduceAdd, Int.reduceNeg, Int.reduceToNat, Nat.reduceEqDiff, Nat.reduceLT, Nat.reduceLeDiff, Int.reduceLE, Int.reduceLT, reduceIte, Int.cast_ofNat_Int, Int.natCast_zero, Int.natCast_one, Int.reduceAdd, eq_self, Int.reduceSub, List.length_cons, List.length_nil, xli_m1, xli_0, xli_1, xli_2, xli_3, xli_4, xli_5, xlb_8, xlb_12, xlb_31, xlb_32, xlb_64, xls_256, xls_513, xls_2048, xls_4096, xll_0, xll_1, xnr_i, xnr_0, xnr_1, xnr_ite, xft_i, xft_0, xft_1, xat_999, xat_1001, xat_1002, xat_1003, xat_2001, xat_2002, xat_2003, List.getElem?_cons_succ, List.getElem?_cons_zero, xfn_0, xfn_1, xfn_2, xfn_3, x10, x01, not_true_eq_false, false_implies, implies_true, true_implies, xrm_c, xrm_s, xnl_4, xnl_32, xnl_64, xnl_256, xtn_4, xtn_32, xtn_64, xtn_256, Option.some.injEq, Sum.inl.injEq, Sum.inr.injEq, exists_eq_left', exists_eq_right, Option.toList_some, Option.toList_none, List.cons_append, List.nil_append, xE, lg_cmp_ge, lg_cmp_le, lg_cmp_gt, lg_cmp_lt, lg_cmp_eq, Nat.le_refl, Nat.zero_le, ne_eq, Nat.add_zero, dS_leastLoad_0, dS_leastLoad_1, dS_leastLoad_4, dS_leastLoad_7, dS_leastLoad_10, dS_leastLoad_13, dS_leastLoad_14, dS_leastLoad_15, dS_leastLoad_16, dS_leastLoad_19, dS_leastLoad_22, dS_leastLoad_25, dS_leastLoad_28, dS_leastLoad_29, dS_leastLoad_30, dS_leastLoad_32, dS_leastLoad_35, dS_leastLoad_36, dS_leastLoad_39, dS_leastLoad_40, dS_leastLoad_43, dS_leastLoad_46, dS_leastLoad_47, dS_leastLoad_50, dS_leastLoad_53, dS_leastLoad_56, dS_leastLoad_57, dS_leastLoad_60, dS_leastLoad_61, xj_3_230, xj_3_238, xj_3_240, xj_3_72, xj_3_246, et]
  refine ⟨fun z => ?_, fun z => ?_⟩
  · unfold mll
    rw [if_neg hno, if_neg (fun w => by have := w.1; simp at this; omega)]
    rfl
  have hadd : (a + 2048).toInt = a.toInt + 2048 := by rw [i64_add (by omega) (by omega), f3]
  refine hV.call [] xh_3_242 dS_leastLoad_43 (c_floorDiv S' (a + 2048) (by omega)) (Or.inl rfl) rfl rfl (by decide) (by decide) (by decide) ?_
  rintro r S' ⟨⟨q, rfl, hq⟩, rfl⟩
  refine xrun_ok hV [] 30 _ _ _ _ _ _ ?_
  simp (maxDischargeDepth := 60) only [xrun, xisc, ↓xstep, xget, xtgt, xcmp, xacmp, xprev, xisR, xnt, List.set, List.length, xsw, xlk, true_or, or_true, if_true, if_false, true_and, and_true, List.mem_cons, List.not_mem_nil, or_false, false_or, Bool.false_eq_true, reduceCtorEq, not_false_eq_true, forall_const, Nat.zero_add, Nat.reduceAdd, Nat.reduceSub, Int.reduceAdd, Int.reduceNeg, Int.reduceToNat, Nat.reduceEqDiff, Nat.reduceLT, Nat.reduceLeDiff, Int.reduceLE, Int.reduceLT, reduceIte, Int.cast_ofNat_Int, Int.natCast_zero, Int.natCast_one, Int.reduceAdd, eq_self, Int.reduceSub, List.length_cons, List.length_nil, xli_m1, xli_0, xli_1, xli_2, xli_3, xli_4, xli_5, xlb_8, xlb_12, xlb_31, xlb_32, xlb_64, xls_256, xls_513, xls_2048, xls_4096, xll_0, xll_1, xnr_i, xnr_0, xnr_1, xnr_ite, xft_i, xft_0, xft_1, xat_999, xat_1001, xat_1002, xat_1003, xat_2001, xat_2002, xat_2003, List.getElem?_cons_succ, List.getElem?_cons_zero, xfn_0, xfn_1, xfn_2, xfn_3, x10, x01, not_true_eq_false, false_implies, implies_true, true_implies, xrm_c, xrm_s, xnl_4, xnl_32, xnl_64, xnl_256, xtn_4, xtn_32, xtn_64, xtn_256, Option.some.injEq, Sum.inl.injEq, Sum.inr.injEq, exists_eq_left', exists_eq_right, Option.toList_some, Option.toList_none, List.cons_append, List.nil_append, xE, lg_cmp_ge, lg_cmp_le, lg_cmp_gt, lg_cmp_lt, lg_cmp_eq, Nat.le_refl, Nat.zero_le, ne_eq, Nat.add_zero, dS_leastLoad_0, dS_leastLoad_1, dS_leastLoad_4, dS_leastLoad_7, dS_leastLoad_10, dS_leastLoad_13, dS_leastLoad_14, dS_leastLoad_15, dS_leastLoad_16, dS_leastLoad_19, dS_leastLoad_22, dS_leastLoad_25, dS_leastLoad_28, dS_leastLoad_29, dS_leastLoad_30, dS_leastLoad_32, dS_leastLoad_35, dS_leastLoad_36, dS_leastLoad_39, dS_leastLoad_40, dS_leastLoad_43, dS_leastLoad_46, dS_leastLoad_47, dS_leastLoad_50, dS_leastLoad_53, dS_leastLoad_56, dS_leastLoad_57, dS_leastLoad_60, dS_leastLoad_61, xj_3_230, xj_3_238, xj_3_240, xj_3_72, xj_3_246]
  refine hV.call [] xh_3_57 dS_leastLoad_50 (c_isWithin S' q 1 31) (Or.inl rfl) rfl rfl (by decide) (by decide) (by decide) ?_
  rintro r S' ⟨rfl, rfl⟩
  rw [f4, f5, hq, hadd]
  by_cases h3 : 1 ≤ (a.toInt + 2048) / 4096 ∧ (a.toInt + 2048) / 4096 ≤ 31
  · rw [if_pos h3]
    refine xrun_ok hV [] 30 _ _ _ _ _ _ ?_
    simp (maxDischargeDepth := 60) only [xrun, xisc, ↓xstep, xget, xtgt, xcmp, xacmp, xprev, xisR, xnt, List.set, List.length, xsw, xlk, true_or, or_true, if_true, if_false, true_and, and_true, List.mem_cons, List.not_mem_nil, or_false, false_or, Bool.false_eq_true, reduceCtorEq, not_false_eq_true, forall_const, Nat.zero_add, Nat.reduceAdd, Nat.reduceSub, Int.reduceAdd, Int.reduceNeg, Int.reduceToNat, Nat.reduceEqDiff, Nat.reduceLT, Nat.reduceLeDiff, Int.reduceLE, Int.reduceLT, reduceIte, Int.cast_ofNat_Int, Int.natCast_zero, Int.natCast_one, Int.reduceAdd, eq_self, Int.reduceSub, List.length_cons, List.length_nil, xli_m1, xli_0, xli_1, xli_2, xli_3, xli_4, xli_5, xlb_8, xlb_12, xlb_31, xlb_32, xlb_64, xls_256, xls_513, xls_2048, xls_4096, xll_0, xll_1, xnr_i, xnr_0, xnr_1, xnr_ite, xft_i, xft_0, xft_1, xat_999, xat_1001, xat_1002, xat_1003, xat_2001, xat_2002, xat_2003, List.getElem?_cons_succ, List.getElem?_cons_zero, xfn_0, xfn_1, xfn_2, xfn_3, x10, x01, not_true_eq_false, false_implies, implies_true, true_implies, xrm_c, xrm_s, xnl_4, xnl_32, xnl_64, xnl_256, xtn_4, xtn_32, xtn_64, xtn_256, Option.some.injEq, Sum.inl.injEq, Sum.inr.injEq, exists_eq_left', exists_eq_right, Option.toList_some, Option.toList_none, List.cons_append, List.nil_append, xE, lg_cmp_ge, lg_cmp_le, lg_cmp_gt, lg_cmp_lt, lg_cmp_eq, Nat.le_refl, Nat.zero_le, ne_eq, Nat.add_zero, dS_leastLoad_0, dS_leastLoad_1, dS_leastLoad_4, dS_leastLoad_7, dS_leastLoad_10, dS_leastLoad_13, dS_leastLoad_14, dS_leastLoad_15, dS_leastLoad_16, dS_leastLoad_19, dS_leastLoad_22, dS_leastLoad_25, dS_leastLoad_28, dS_leastLoad_29, dS_leastLoad_30, dS_leastLoad_32, dS_leastLoad_35, dS_leastLoad_36, dS_leastLoad_39, dS_leastLoad_40, dS_leastLoad_43, dS_leastLoad_46, dS_leastLoad_47, dS_leastLoad_50, dS_leastLoad_53, dS_leastLoad_56, dS_leastLoad_57, dS_leastLoad_60, dS_leastLoad_61, xj_3_230, xj_3_238, xj_3_240, xj_3_72, xj_3_246]
    unfold mll
    rw [if_neg hno, if_pos ⟨by simp; omega, by omega, by omega⟩]
    rfl
  · rw [if_neg h3]
    refine xrun_ok hV [] 30 _ _ _ _ _ _ ?_
    simp (maxDischargeDepth := 60) only [xrun, xisc, ↓xstep, xget, xtgt, xcmp, xacmp, xprev, xisR, xnt, List.set, List.length, xsw, xlk, true_or, or_true, if_true, if_false, true_and, and_true, List.mem_cons, List.not_mem_nil, or_false, false_or, Bool.false_eq_true, reduceCtorEq, not_false_eq_true, forall_const, Nat.zero_add, Nat.reduceAdd, Nat.reduceSub, Int.reduceAdd, Int.reduceNeg, Int.reduceToNat, Nat.reduceEqDiff, Nat.reduceLT, Nat.reduceLeDiff, Int.reduceLE, Int.reduceLT, reduceIte, Int.cast_ofNat_Int, Int.natCast_zero, Int.natCast_one, Int.reduceAdd, eq_self, Int.reduceSub, List.length_cons, List.length_nil, xli_m1, xli_0, xli_1, xli_2, xli_3, xli_4, xli_5, xlb_8, xlb_12, xlb_31, xlb_32, xlb_64, xls_256, xls_513, xls_2048, xls_4096, xll_0, xll_1, xnr_i, xnr_0, xnr_1, xnr_ite, xft_i, xft_0, xft_1, xat_999, xat_1001, xat_1002, xat_1003, xat_2001, xat_2002, xat_2003, List.getElem?_cons_succ, List.getElem?_cons_zero, xfn_0, xfn_1, xfn_2, xfn_3, x10, x01, not_true_eq_false, false_implies, implies_true, true_implies, xrm_c, xrm_s, xnl_4, xnl_32, xnl_64, xnl_256, xtn_4, xtn_32, xtn_64, xtn_256, Option.some.injEq, Sum.inl.injEq, Sum.inr.injEq, exists_eq_left', exists_eq_right, Option.toList_some, Option.toList_none, List.cons_append, List.nil_append, xE, lg_cmp_ge, lg_cmp_le, lg_cmp_gt, lg_cmp_lt, lg_cmp_eq, Nat.le_refl, Nat.zero_le, ne_eq, Nat.add_zero, dS_leastLoad_0, dS_leastLoad_1, dS_leastLoad_4, dS_leastLoad_7, dS_leastLoad_10, dS_leastLoad_13, dS_leastLoad_14, dS_leastLoad_15, dS_leastLoad_16, dS_leastLoad_19, dS_leastLoad_22, dS_leastLoad_25, dS_leastLoad_28, dS_leastLoad_29, dS_leastLoad_30, dS_leastLoad_32, dS_leastLoad_35, dS_leastLoad_36, dS_leastLoad_39, dS_leastLoad_40, dS_leastLoad_43, dS_leastLoad_46, dS_leastLoad_47, dS_leastLoad_50, dS_leastLoad_53, dS_leastLoad_56, dS_leastLoad_57, dS_leastLoad_60, dS_leastLoad_61, xj_3_230, xj_3_238, xj_3_240, xj_3_72, xj_3_246]
    unfold mll
    rw [if_neg hno, if_neg (fun w => h3 (by omega))]
    rfl
end LEAST
end
section
/-! THE CLASS: survey -/
section LOOK
variable {l : Launch} {D : va_G} {n0 : Nat} {S S' : xS} {th : Nat} {ar pa qa la : Nat → Nat} {M : mT}
set_option maxHeartbeats 4000000 in
set_option maxRecDepth 100000 in
theorem c_leastSize (h : rC S th ar pa qa la M) (hs : kS S ar pa qa M) {k : Nat} (hk : k < M 12 0) (hn : mnot M k = true) : xMet l D n0 mS_leastSize 0 0 [.inr (.inr (some th)), .inr (.inr (some (qa k)))] S (fun r S' => r = some (.inl (nI (mleast M k))) ∧ S' = S) := by
  refine xMet.of (k := mS_leastSize) (own := 3) (ini := false) xm_S_leastSize (by decide +kernel) (by decide +kernel) (by decide) (Nat.le_of_ble_eq_true rfl) ?_
  intro V hV
  show V 0 [some (.inr (.inr (some th))), some (.inr (.inr (some (qa k)))), none, none] [] S 0 0
  obtain ⟨⟨q1, -⟩, ⟨q3, -, q2, -, q4, -, -, q5⟩, -⟩ := h.2.2.2.2.1 k hk
  obtain ⟨s1, s2⟩ := hs.at h hk hn
  have hw := h.1.2.2.2.1 k hk
  have hpl := (mpl_le h.1 hk hn).2
  by_cases z : maim M k = true
  · rw [if_pos z] at q2
    have hwa := h.1.2.2.2.2.2.1 k hk z
    refine xrun_ok hV [] 30 _ _ _ _ _ _ ?_
    simp (maxDischargeDepth := 60) only [xrun, xisc, ↓xstep, xget, xtgt, xcmp, xacmp, xprev, xisR, xnt, List.set, List.length, xsw, xlk, true_or, or_true, if_true, if_false, true_and, and_true, List.mem_cons, List.not_mem_nil, or_false, false_or, Bool.false_eq_true, reduceCtorEq, not_false_eq_true, forall_const, Nat.zero_add, Nat.reduceAdd, Nat.reduceSub, Int.reduceAdd, Int.reduceNeg, Int.reduceToNat, Nat.reduceEqDiff, Nat.reduceLT, Nat.reduceLeDiff, Int.reduceLE, Int.reduceLT, reduceIte, Int.cast_ofNat_Int, Int.natCast_zero, Int.natCast_one, Int.reduceAdd, eq_self, Int.reduceSub, List.length_cons, List.length_nil, xli_m1, xli_0, xli_1, xli_2, xli_3, xli_4, xli_5, xlb_8, xlb_12, xlb_31, xlb_32, xlb_64, xls_256, xls_513, xls_2048, xls_4096, xll_0, xll_1, xnr_i, xnr_0, xnr_1, xnr_ite, xft_i, xft_0, xft_1, xat_999, xat_1001, xat_1002, xat_1003, xat_2001, xat_2002, xat_2003, List.getElem?_cons_succ, List.getElem?_cons_zero, xfn_0, xfn_1, xfn_2, xfn_3, x10, x01, not_true_eq_false, false_implies, implies_true, true_implies, xrm_c, xrm_s, xnl_4, xnl_32, xnl_64, xnl_256, xtn_4, xtn_32, xtn_64, xtn_256, Option.some.injEq, Sum.inl.injEq, Sum.inr.injEq, exists_eq_left', exists_eq_right, Option.toList_some, Option.toList_none, List.cons_append, List.nil_append, xE, lg_cmp_ge, lg_cmp_le, lg_cmp_gt, lg_cmp_lt, lg_cmp_eq, Nat.le_refl, Nat.zero_le, ne_eq, Nat.add_zero, dS_leastSize_0, dS_leastSize_1, dS_leastSize_4, dS_leastSize_7, dS_leastSize_8, dS_leastSize_11, dS_leastSize_12, dS_leastSize_13, dS_leastSize_16, dS_leastSize_17, dS_leastSize_18, dS_leastSize_21, dS_leastSize_22, dS_leastSize_25, dS_leastSize_26, dS_leastSize_29, dS_leastSize_30, dS_leastSize_31, dS_leastSize_34, dS_leastSize_35, dS_leastSize_38, dS_leastSize_39, dS_leastSize_40, dS_leastSize_43, dS_leastSize_44, dS_leastSize_45, dS_leastSize_46, dS_leastSize_49, dS_leastSize_52, dS_leastSize_53, dS_leastSize_54, dS_leastSize_55, dS_leastSize_58, dS_leastSize_59, dS_leastSize_60, dS_leastSize_63, dS_leastSize_64, dS_leastSize_65, dS_leastSize_66, dS_leastSize_69, dS_leastSize_72, xf_3_128, xf_3_135, xj_3_164, xf_3_132, xf_3_86, xf_3_151, xf_3_219, xf_3_31, q1, q2]
    refine hV.call [] xh_3_166 dS_leastSize_13 (c_aimOf h hs hk) (Or.inl rfl) rfl rfl (by decide) (by decide) (by decide) ?_
    rintro r S' ⟨rfl, rfl⟩
    by_cases y : mhv M (M 18 k) = true
    · have hh : mhas M k = true := by simp [mhas, z, y]
      obtain ⟨a1, a2, a3⟩ := oAimL_toInt h.1 hk hh
      have ne : (oAimL M k = 1099511627776) = False := by
        apply eq_false
        intro w
        have w1 := congrArg Int64.toInt w
        have e : (1099511627776 : Int64).toInt = 1099511627776 := by decide +kernel
        omega
      have e1 : (nI (M 13 k) = 1) = (M 13 k = 1) := propext (nI_eq (b := 1) (by omega) (by decide))
      have ep : ((nI (mpl M k)).toInt64).toInt = mpl M k := by rw [Int32.toInt_toInt64, nI_toInt (by omega)]
      have ht := hw.2.2.1
      have h1 := h.th
      have h2 := (h.2.1.2.1 4 (by decide)).1
      have h3 := h.2.1.2.2.1.2.2.2.2.1
      have h4 := h.2.1.2.2.2.1.2.2.2.2.1
      have h5 := (hs.2 2 (by decide)).1
      have ob : mob M 2 ≤ 1074937820 := by
        have o1 : mob M 2 ≤ mend M 3 := (mend_step (M := M) 2).2
        have o2 := mend_lt h.1 (show 3 ≤ 4 by decide)
        omega
      have e22 : Int32.toNatClampNeg 2 = 2 := by decide +kernel
      have i2 : vp_in 2 4 := by unfold vp_in; decide +kernel
      refine xrun_ok hV [] 30 _ _ _ _ _ _ ?_
      simp (maxDischargeDepth := 60) only [xrun, xisc, ↓xstep, xget, xtgt, xcmp, xacmp, xprev, xisR, xnt, List.set, List.length, xsw, xlk, true_or, or_true, if_true, if_false, true_and, and_true, List.mem_cons, List.not_mem_nil, or_false, false_or, Bool.false_eq_true, reduceCtorEq, not_false_eq_true, forall_const, Nat.zero_add, Nat.reduceAdd, Nat.reduceSub, Int.reduceAdd, Int.reduceNeg, Int.reduceToNat, Nat.reduceEqDiff, Nat.reduceLT, Nat.reduceLeDiff, Int.reduceLE, Int.reduceLT, reduceIte, Int.cast_ofNat_Int, Int.natCast_zero, Int.natCast_one, Int.reduceAdd, eq_self, Int.reduceSub, List.length_cons, List.length_nil, xli_m1, xli_0, xli_1, xli_2, xli_3, xli_4, xli_5, xlb_8, xlb_12, xlb_31, xlb_32, xlb_64, xls_256, xls_513, xls_2048, xls_4096, xll_0, xll_1, xnr_i, xnr_0, xnr_1, xnr_ite, xft_i, xft_0, xft_1, xat_999, xat_1001, xat_1002, xat_1003, xat_2001, xat_2002, xat_2003, List.getElem?_cons_succ, List.getElem?_cons_zero, xfn_0, xfn_1, xfn_2, xfn_3, x10, x01, not_true_eq_false, false_implies, implies_true, true_implies, xrm_c, xrm_s, xnl_4, xnl_32, xnl_64, xnl_256, xtn_4, xtn_32, xtn_64, xtn_256, Option.some.injEq, Sum.inl.injEq, Sum.inr.injEq, exists_eq_left', exists_eq_right, Option.toList_some, Option.toList_none, List.cons_append, List.nil_append, xE, lg_cmp_ge, lg_cmp_le, lg_cmp_gt, lg_cmp_lt, lg_cmp_eq, Nat.le_refl, Nat.zero_le, ne_eq, Nat.add_zero, dS_leastSize_0, dS_leastSize_1, dS_leastSize_4, dS_leastSize_7, dS_leastSize_8, dS_leastSize_11, dS_leastSize_12, dS_leastSize_13, dS_leastSize_16, dS_leastSize_17, dS_leastSize_18, dS_leastSize_21, dS_leastSize_22, dS_leastSize_25, dS_leastSize_26, dS_leastSize_29, dS_leastSize_30, dS_leastSize_31, dS_leastSize_34, dS_leastSize_35, dS_leastSize_38, dS_leastSize_39, dS_leastSize_40, dS_leastSize_43, dS_leastSize_44, dS_leastSize_45, dS_leastSize_46, dS_leastSize_49, dS_leastSize_52, dS_leastSize_53, dS_leastSize_54, dS_leastSize_55, dS_leastSize_58, dS_leastSize_59, dS_leastSize_60, dS_leastSize_63, dS_leastSize_64, dS_leastSize_65, dS_leastSize_66, dS_leastSize_69, dS_leastSize_72, xf_3_128, xf_3_135, xj_3_164, xf_3_132, xf_3_86, xf_3_151, xf_3_219, xf_3_31, q1, q2, q3, q4, s1, ne, e1, h1, h2, h3, h4, h5, e22, i2]
      refine ⟨fun w => ?_, fun w => ?_⟩
      · have eg : nI (mob M 2) + 2048 = nI (mob M 2 + 2048) := nI_add (mob M 2) 2048
        rw [eg]
        have eg2 : ((nI (mob M 2 + 2048)).toInt64).toInt = mob M 2 + 2048 := by rw [Int32.toInt_toInt64, nI_toInt (by omega)]; omega
        refine hV.call [] xh_3_226 dS_leastSize_69 (c_leastLoad S' (oAimL M k) (nI (mob M 2 + 2048)).toInt64 ht (by omega) (by omega)) (Or.inl rfl) rfl rfl (by decide) (by decide) (by decide) ?_
        rintro r S' ⟨rfl, rfl⟩
        refine xrun_ok hV [] 30 _ _ _ _ _ _ ?_
        simp (maxDischargeDepth := 60) only [xrun, xisc, ↓xstep, xget, xtgt, xcmp, xacmp, xprev, xisR, xnt, List.set, List.length, xsw, xlk, true_or, or_true, if_true, if_false, true_and, and_true, List.mem_cons, List.not_mem_nil, or_false, false_or, Bool.false_eq_true, reduceCtorEq, not_false_eq_true, forall_const, Nat.zero_add, Nat.reduceAdd, Nat.reduceSub, Int.reduceAdd, Int.reduceNeg, Int.reduceToNat, Nat.reduceEqDiff, Nat.reduceLT, Nat.reduceLeDiff, Int.reduceLE, Int.reduceLT, reduceIte, Int.cast_ofNat_Int, Int.natCast_zero, Int.natCast_one, Int.reduceAdd, eq_self, Int.reduceSub, List.length_cons, List.length_nil, xli_m1, xli_0, xli_1, xli_2, xli_3, xli_4, xli_5, xlb_8, xlb_12, xlb_31, xlb_32, xlb_64, xls_256, xls_513, xls_2048, xls_4096, xll_0, xll_1, xnr_i, xnr_0, xnr_1, xnr_ite, xft_i, xft_0, xft_1, xat_999, xat_1001, xat_1002, xat_1003, xat_2001, xat_2002, xat_2003, List.getElem?_cons_succ, List.getElem?_cons_zero, xfn_0, xfn_1, xfn_2, xfn_3, x10, x01, not_true_eq_false, false_implies, implies_true, true_implies, xrm_c, xrm_s, xnl_4, xnl_32, xnl_64, xnl_256, xtn_4, xtn_32, xtn_64, xtn_256, Option.some.injEq, Sum.inl.injEq, Sum.inr.injEq, exists_eq_left', exists_eq_right, Option.toList_some, Option.toList_none, List.cons_append, List.nil_append, xE, lg_cmp_ge, lg_cmp_le, lg_cmp_gt, lg_cmp_lt, lg_cmp_eq, Nat.le_refl, Nat.zero_le, ne_eq, Nat.add_zero, dS_leastSize_0, dS_leastSize_1, dS_leastSize_4, dS_leastSize_7, dS_leastSize_8, dS_leastSize_11, dS_leastSize_12, dS_leastSize_13, dS_leastSize_16, dS_leastSize_17, dS_leastSize_18, dS_leastSize_21, dS_leastSize_22, dS_leastSize_25, dS_leastSize_26, dS_leastSize_29, dS_leastSize_30, dS_leastSize_31, dS_leastSize_34, dS_leastSize_35, dS_leastSize_38, dS_leastSize_39, dS_leastSize_40, dS_leastSize_43, dS_leastSize_44, dS_leastSize_45, dS_leastSize_46, dS_leastSize_49, dS_leastSize_52, dS_leastSize_53, dS_leastSize_54, dS_leastSize_55, dS_leastSize_58, dS_leastSize_59, dS_leastSize_60, dS_leastSize_63, dS_leastSize_64, dS_leastSize_65, dS_leastSize_66, dS_leastSize_69, dS_leastSize_72, xf_3_128, xf_3_135, xj_3_164, xf_3_132, xf_3_86, xf_3_151, xf_3_219, xf_3_31]
        unfold mleast
        rw [if_pos z, if_pos y, if_neg w, a1, eg2]
      · have hd : (oAimL M k - (nI (mpl M k)).toInt64).toInt = maimv M k - mpl M k := by rw [i64_sub (by omega) (by omega), a1, ep]
        refine hV.call [] xh_3_222 dS_leastSize_49 (c_leastCall S' (oAimL M k - (nI (mpl M k)).toInt64) ht) (Or.inl rfl) rfl rfl (by decide) (by decide) (by decide) ?_
        rintro r S' ⟨rfl, rfl⟩
        refine xrun_ok hV [] 30 _ _ _ _ _ _ ?_
        simp (maxDischargeDepth := 60) only [xrun, xisc, ↓xstep, xget, xtgt, xcmp, xacmp, xprev, xisR, xnt, List.set, List.length, xsw, xlk, true_or, or_true, if_true, if_false, true_and, and_true, List.mem_cons, List.not_mem_nil, or_false, false_or, Bool.false_eq_true, reduceCtorEq, not_false_eq_true, forall_const, Nat.zero_add, Nat.reduceAdd, Nat.reduceSub, Int.reduceAdd, Int.reduceNeg, Int.reduceToNat, Nat.reduceEqDiff, Nat.reduceLT, Nat.reduceLeDiff, Int.reduceLE, Int.reduceLT, reduceIte, Int.cast_ofNat_Int, Int.natCast_zero, Int.natCast_one, Int.reduceAdd, eq_self, Int.reduceSub, List.length_cons, List.length_nil, xli_m1, xli_0, xli_1, xli_2, xli_3, xli_4, xli_5, xlb_8, xlb_12, xlb_31, xlb_32, xlb_64, xls_256, xls_513, xls_2048, xls_4096, xll_0, xll_1, xnr_i, xnr_0, xnr_1, xnr_ite, xft_i, xft_0, xft_1, xat_999, xat_1001, xat_1002, xat_1003, xat_2001, xat_2002, xat_2003, List.getElem?_cons_succ, List.getElem?_cons_zero, xfn_0, xfn_1, xfn_2, xfn_3, x10, x01, not_true_eq_false, false_implies, implies_true, true_implies, xrm_c, xrm_s, xnl_4, xnl_32, xnl_64, xnl_256, xtn_4, xtn_32, xtn_64, xtn_256, Option.some.injEq, Sum.inl.injEq, Sum.inr.injEq, exists_eq_left', exists_eq_right, Option.toList_some, Option.toList_none, List.cons_append, List.nil_append, xE, lg_cmp_ge, lg_cmp_le, lg_cmp_gt, lg_cmp_lt, lg_cmp_eq, Nat.le_refl, Nat.zero_le, ne_eq, Nat.add_zero, dS_leastSize_0, dS_leastSize_1, dS_leastSize_4, dS_leastSize_7, dS_leastSize_8, dS_leastSize_11, dS_leastSize_12, dS_leastSize_13, dS_leastSize_16, dS_leastSize_17, dS_leastSize_18, dS_leastSize_21, dS_leastSize_22, dS_leastSize_25, dS_leastSize_26, dS_leastSize_29, dS_leastSize_30, dS_leastSize_31, dS_leastSize_34, dS_leastSize_35, dS_leastSize_38, dS_leastSize_39, dS_leastSize_40, dS_leastSize_43, dS_leastSize_44, dS_leastSize_45, dS_leastSize_46, dS_leastSize_49, dS_leastSize_52, dS_leastSize_53, dS_leastSize_54, dS_leastSize_55, dS_leastSize_58, dS_leastSize_59, dS_leastSize_60, dS_leastSize_63, dS_leastSize_64, dS_leastSize_65, dS_leastSize_66, dS_leastSize_69, dS_leastSize_72, xf_3_128, xf_3_135, xj_3_164, xf_3_132, xf_3_86, xf_3_151, xf_3_219, xf_3_31]
        unfold mleast
        rw [if_pos z, if_pos y, if_pos w, hd]
    · have e : oAimL M k = 1099511627776 := by unfold oAimL mhas; rw [if_neg (by simp [y])]
      refine xrun_ok hV [] 30 _ _ _ _ _ _ ?_
      simp (maxDischargeDepth := 60) only [xrun, xisc, ↓xstep, xget, xtgt, xcmp, xacmp, xprev, xisR, xnt, List.set, List.length, xsw, xlk, true_or, or_true, if_true, if_false, true_and, and_true, List.mem_cons, List.not_mem_nil, or_false, false_or, Bool.false_eq_true, reduceCtorEq, not_false_eq_true, forall_const, Nat.zero_add, Nat.reduceAdd, Nat.reduceSub, Int.reduceAdd, Int.reduceNeg, Int.reduceToNat, Nat.reduceEqDiff, Nat.reduceLT, Nat.reduceLeDiff, Int.reduceLE, Int.reduceLT, reduceIte, Int.cast_ofNat_Int, Int.natCast_zero, Int.natCast_one, Int.reduceAdd, eq_self, Int.reduceSub, List.length_cons, List.length_nil, xli_m1, xli_0, xli_1, xli_2, xli_3, xli_4, xli_5, xlb_8, xlb_12, xlb_31, xlb_32, xlb_64, xls_256, xls_513, xls_2048, xls_4096, xll_0, xll_1, xnr_i, xnr_0, xnr_1, xnr_ite, xft_i, xft_0, xft_1, xat_999, xat_1001, xat_1002, xat_1003, xat_2001, xat_2002, xat_2003, List.getElem?_cons_succ, List.getElem?_cons_zero, xfn_0, xfn_1, xfn_2, xfn_3, x10, x01, not_true_eq_false, false_implies, implies_true, true_implies, xrm_c, xrm_s, xnl_4, xnl_32, xnl_64, xnl_256, xtn_4, xtn_32, xtn_64, xtn_256, Option.some.injEq, Sum.inl.injEq, Sum.inr.injEq, exists_eq_left', exists_eq_right, Option.toList_some, Option.toList_none, List.cons_append, List.nil_append, xE, lg_cmp_ge, lg_cmp_le, lg_cmp_gt, lg_cmp_lt, lg_cmp_eq, Nat.le_refl, Nat.zero_le, ne_eq, Nat.add_zero, dS_leastSize_0, dS_leastSize_1, dS_leastSize_4, dS_leastSize_7, dS_leastSize_8, dS_leastSize_11, dS_leastSize_12, dS_leastSize_13, dS_leastSize_16, dS_leastSize_17, dS_leastSize_18, dS_leastSize_21, dS_leastSize_22, dS_leastSize_25, dS_leastSize_26, dS_leastSize_29, dS_leastSize_30, dS_leastSize_31, dS_leastSize_34, dS_leastSize_35, dS_leastSize_38, dS_leastSize_39, dS_leastSize_40, dS_leastSize_43, dS_leastSize_44, dS_leastSize_45, dS_leastSize_46, dS_leastSize_49, dS_leastSize_52, dS_leastSize_53, dS_leastSize_54, dS_leastSize_55, dS_leastSize_58, dS_leastSize_59, dS_leastSize_60, dS_leastSize_63, dS_leastSize_64, dS_leastSize_65, dS_leastSize_66, dS_leastSize_69, dS_leastSize_72, xf_3_128, xf_3_135, xj_3_164, xf_3_132, xf_3_86, xf_3_151, xf_3_219, xf_3_31, q1, q2, q5, e]
      unfold mleast
      rw [if_pos z, if_neg y, hwa.1]
  · rw [if_neg z] at q2
    refine xrun_ok hV [] 30 _ _ _ _ _ _ ?_
    simp (maxDischargeDepth := 60) only [xrun, xisc, ↓xstep, xget, xtgt, xcmp, xacmp, xprev, xisR, xnt, List.set, List.length, xsw, xlk, true_or, or_true, if_true, if_false, true_and, and_true, List.mem_cons, List.not_mem_nil, or_false, false_or, Bool.false_eq_true, reduceCtorEq, not_false_eq_true, forall_const, Nat.zero_add, Nat.reduceAdd, Nat.reduceSub, Int.reduceAdd, Int.reduceNeg, Int.reduceToNat, Nat.reduceEqDiff, Nat.reduceLT, Nat.reduceLeDiff, Int.reduceLE, Int.reduceLT, reduceIte, Int.cast_ofNat_Int, Int.natCast_zero, Int.natCast_one, Int.reduceAdd, eq_self, Int.reduceSub, List.length_cons, List.length_nil, xli_m1, xli_0, xli_1, xli_2, xli_3, xli_4, xli_5, xlb_8, xlb_12, xlb_31, xlb_32, xlb_64, xls_256, xls_513, xls_2048, xls_4096, xll_0, xll_1, xnr_i, xnr_0, xnr_1, xnr_ite, xft_i, xft_0, xft_1, xat_999, xat_1001, xat_1002, xat_1003, xat_2001, xat_2002, xat_2003, List.getElem?_cons_succ, List.getElem?_cons_zero, xfn_0, xfn_1, xfn_2, xfn_3, x10, x01, not_true_eq_false, false_implies, implies_true, true_implies, xrm_c, xrm_s, xnl_4, xnl_32, xnl_64, xnl_256, xtn_4, xtn_32, xtn_64, xtn_256, Option.some.injEq, Sum.inl.injEq, Sum.inr.injEq, exists_eq_left', exists_eq_right, Option.toList_some, Option.toList_none, List.cons_append, List.nil_append, xE, lg_cmp_ge, lg_cmp_le, lg_cmp_gt, lg_cmp_lt, lg_cmp_eq, Nat.le_refl, Nat.zero_le, ne_eq, Nat.add_zero, dS_leastSize_0, dS_leastSize_1, dS_leastSize_4, dS_leastSize_7, dS_leastSize_8, dS_leastSize_11, dS_leastSize_12, dS_leastSize_13, dS_leastSize_16, dS_leastSize_17, dS_leastSize_18, dS_leastSize_21, dS_leastSize_22, dS_leastSize_25, dS_leastSize_26, dS_leastSize_29, dS_leastSize_30, dS_leastSize_31, dS_leastSize_34, dS_leastSize_35, dS_leastSize_38, dS_leastSize_39, dS_leastSize_40, dS_leastSize_43, dS_leastSize_44, dS_leastSize_45, dS_leastSize_46, dS_leastSize_49, dS_leastSize_52, dS_leastSize_53, dS_leastSize_54, dS_leastSize_55, dS_leastSize_58, dS_leastSize_59, dS_leastSize_60, dS_leastSize_63, dS_leastSize_64, dS_leastSize_65, dS_leastSize_66, dS_leastSize_69, dS_leastSize_72, xf_3_128, xf_3_135, xj_3_164, xf_3_132, xf_3_86, xf_3_151, xf_3_219, xf_3_31, q1, q2, s2]
    unfold mleast
    rw [if_neg z]
set_option maxHeartbeats 4000000 in
set_option maxRecDepth 100000 in
theorem c_placeOutput (h : rC S th ar pa qa la M) {o : Nat} (ho : o < 4) (hk : kO S ar pa qa M o 0) : xMet l D n0 mS_placeOutput 0 0 [.inr (.inr (some th)), .inl (nI o), .inl (nI (mend M o))] S (fun r S' => r = some (.inl (nI (mend M (o + 1)))) ∧ xCa ar S S' ∧ kO S' ar pa qa M (o + 1) 0) := by
  refine xMet.of (k := mS_placeOutput) (own := 3) (ini := false) xm_S_placeOutput (by decide +kernel) (by decide +kernel) (by decide) (Nat.le_of_ble_eq_true rfl) ?_
  intro V hV
  show V 0 [some (.inr (.inr (some th))), some (.inl (nI o)), some (.inl (nI (mend M o))), none, none, none, none, none] [] S 0 0
  have h1 := h.th
  have h2 := (h.2.1.2.1 3 (by decide)).1
  have h3 := h.2.1.2.2.1.2.2.2.1
  have h4 := h.2.1.2.2.2.1.2.2.2.1
  have h5 := h.2.1.2.2.2.2.2.2 o ho
  have g2 := (h.2.1.2.1 4 (by decide)).1
  have g3 := h.2.1.2.2.1.2.2.2.2.1
  have g4 := h.2.1.2.2.2.1.2.2.2.2.1
  have f2 := (h.2.1.2.1 0 (by decide)).1
  have f3 := h.2.1.2.2.1.1
  have f4 := h.2.1.2.2.2.1.1
  have e0 : (nI o).toNatClampNeg = o := nI_clamp (by omega)
  have hio : vp_in (nI o) 4 := vp_in_nI ho (by decide)
  have hw := h.1.2.1 o ho
  have hme := mend_lt h.1 (show o ≤ 4 by omega)
  refine xrun_ok hV [] 30 _ _ _ _ _ _ ?_
  simp (maxDischargeDepth := 60) only [xrun, xisc, ↓xstep, xget, xtgt, xcmp, xacmp, xprev, xisR, xnt, List.set, List.length, xsw, xlk, true_or, or_true, if_true, if_false, true_and, and_true, List.mem_cons, List.not_mem_nil, or_false, false_or, Bool.false_eq_true, reduceCtorEq, not_false_eq_true, forall_const, Nat.zero_add, Nat.reduceAdd, Nat.reduceSub, Int.reduceAdd, Int.reduceNeg, Int.reduceToNat, Nat.reduceEqDiff, Nat.reduceLT, Nat.reduceLeDiff, Int.reduceLE, Int.reduceLT, reduceIte, Int.cast_ofNat_Int, Int.natCast_zero, Int.natCast_one, Int.reduceAdd, eq_self, Int.reduceSub, List.length_cons, List.length_nil, xli_m1, xli_0, xli_1, xli_2, xli_3, xli_4, xli_5, xlb_8, xlb_12, xlb_31, xlb_32, xlb_64, xls_256, xls_513, xls_2048, xls_4096, xll_0, xll_1, xnr_i, xnr_0, xnr_1, xnr_ite, xft_i, xft_0, xft_1, xat_999, xat_1001, xat_1002, xat_1003, xat_2001, xat_2002, xat_2003, List.getElem?_cons_succ, List.getElem?_cons_zero, xfn_0, xfn_1, xfn_2, xfn_3, x10, x01, not_true_eq_false, false_implies, implies_true, true_implies, xrm_c, xrm_s, xnl_4, xnl_32, xnl_64, xnl_256, xtn_4, xtn_32, xtn_64, xtn_256, Option.some.injEq, Sum.inl.injEq, Sum.inr.injEq, exists_eq_left', exists_eq_right, Option.toList_some, Option.toList_none, List.cons_append, List.nil_append, xE, lg_cmp_ge, lg_cmp_le, lg_cmp_gt, lg_cmp_lt, lg_cmp_eq, Nat.le_refl, Nat.zero_le, ne_eq, Nat.add_zero, dS_placeOutput_0, dS_placeOutput_1, dS_placeOutput_2, dS_placeOutput_3, dS_placeOutput_6, dS_placeOutput_7, dS_placeOutput_8, dS_placeOutput_11, dS_placeOutput_12, dS_placeOutput_13, dS_placeOutput_14, dS_placeOutput_17, dS_placeOutput_18, dS_placeOutput_19, dS_placeOutput_20, dS_placeOutput_21, dS_placeOutput_24, dS_placeOutput_26, dS_placeOutput_28, dS_placeOutput_29, dS_placeOutput_31, dS_placeOutput_32, dS_placeOutput_34, dS_placeOutput_36, dS_placeOutput_38, dS_placeOutput_41, dS_placeOutput_43, dS_placeOutput_45, dS_placeOutput_46, dS_placeOutput_48, dS_placeOutput_50, dS_placeOutput_53, dS_placeOutput_56, dS_placeOutput_58, dS_placeOutput_61, dS_placeOutput_62, dS_placeOutput_65, dS_placeOutput_67, dS_placeOutput_70, dS_placeOutput_73, dS_placeOutput_75, dS_placeOutput_76, dS_placeOutput_79, dS_placeOutput_80, dS_placeOutput_83, dS_placeOutput_86, dS_placeOutput_87, dS_placeOutput_90, dS_placeOutput_91, dS_placeOutput_92, dS_placeOutput_93, dS_placeOutput_94, xf_3_27, xf_3_31, xf_3_11, xf_3_174, xf_3_108, xf_3_34, h1, h2, h3, h4, h5, e0, hio]
  refine hV.call [.inl (nI (mend M o))] xh_3_157 dS_placeOutput_8 (c_bytes S (x := mend M o) (p := M 1 o) (by omega) hw) (Or.inl rfl) rfl rfl (Nat.le_of_ble_eq_true rfl) (by decide) (by decide) ?_
  rintro r S2 ⟨rfl, rfl⟩
  have hbb : nI (mend M o) + nI (mpad (mend M o) (M 1 o)) = nI (mob M o) := nI_add _ _
  have e32 : Int32.ofNat 32 = 32 := rfl
  refine xrun_ok hV [34] 30 _ _ _ _ _ _ ?_
  simp (maxDischargeDepth := 60) only [xrun, xisc, ↓xstep, xget, xtgt, xcmp, xacmp, xprev, xisR, xnt, List.set, List.length, xsw, xlk, true_or, or_true, if_true, if_false, true_and, and_true, List.mem_cons, List.not_mem_nil, or_false, false_or, Bool.false_eq_true, reduceCtorEq, not_false_eq_true, forall_const, Nat.zero_add, Nat.reduceAdd, Nat.reduceSub, Int.reduceAdd, Int.reduceNeg, Int.reduceToNat, Nat.reduceEqDiff, Nat.reduceLT, Nat.reduceLeDiff, Int.reduceLE, Int.reduceLT, reduceIte, Int.cast_ofNat_Int, Int.natCast_zero, Int.natCast_one, Int.reduceAdd, eq_self, Int.reduceSub, List.length_cons, List.length_nil, xli_m1, xli_0, xli_1, xli_2, xli_3, xli_4, xli_5, xlb_8, xlb_12, xlb_31, xlb_32, xlb_64, xls_256, xls_513, xls_2048, xls_4096, xll_0, xll_1, xnr_i, xnr_0, xnr_1, xnr_ite, xft_i, xft_0, xft_1, xat_999, xat_1001, xat_1002, xat_1003, xat_2001, xat_2002, xat_2003, List.getElem?_cons_succ, List.getElem?_cons_zero, xfn_0, xfn_1, xfn_2, xfn_3, x10, x01, not_true_eq_false, false_implies, implies_true, true_implies, xrm_c, xrm_s, xnl_4, xnl_32, xnl_64, xnl_256, xtn_4, xtn_32, xtn_64, xtn_256, Option.some.injEq, Sum.inl.injEq, Sum.inr.injEq, exists_eq_left', exists_eq_right, Option.toList_some, Option.toList_none, List.cons_append, List.nil_append, xE, lg_cmp_ge, lg_cmp_le, lg_cmp_gt, lg_cmp_lt, lg_cmp_eq, Nat.le_refl, Nat.zero_le, ne_eq, Nat.add_zero, dS_placeOutput_0, dS_placeOutput_1, dS_placeOutput_2, dS_placeOutput_3, dS_placeOutput_6, dS_placeOutput_7, dS_placeOutput_8, dS_placeOutput_11, dS_placeOutput_12, dS_placeOutput_13, dS_placeOutput_14, dS_placeOutput_17, dS_placeOutput_18, dS_placeOutput_19, dS_placeOutput_20, dS_placeOutput_21, dS_placeOutput_24, dS_placeOutput_26, dS_placeOutput_28, dS_placeOutput_29, dS_placeOutput_31, dS_placeOutput_32, dS_placeOutput_34, dS_placeOutput_36, dS_placeOutput_38, dS_placeOutput_41, dS_placeOutput_43, dS_placeOutput_45, dS_placeOutput_46, dS_placeOutput_48, dS_placeOutput_50, dS_placeOutput_53, dS_placeOutput_56, dS_placeOutput_58, dS_placeOutput_61, dS_placeOutput_62, dS_placeOutput_65, dS_placeOutput_67, dS_placeOutput_70, dS_placeOutput_73, dS_placeOutput_75, dS_placeOutput_76, dS_placeOutput_79, dS_placeOutput_80, dS_placeOutput_83, dS_placeOutput_86, dS_placeOutput_87, dS_placeOutput_90, dS_placeOutput_91, dS_placeOutput_92, dS_placeOutput_93, dS_placeOutput_94, xf_3_27, xf_3_31, xf_3_11, xf_3_174, xf_3_108, xf_3_34, h1, g2, g3, g4, f2, f3, f4, e0, hio, hbb, xc_pi, xr_pi, xl_pi, e32]
  refine ⟨⟨_, rfl⟩, ?_⟩
  have hca : xCa ar S2 (xpi S2 (ar 4) o (nI (mob M o))) := xCa.pi (Or.inr (Or.inr (Or.inl rfl)))
  have key := placeOutput_loop ho h hV (fun S1 w1 w2 => ⟨rfl, w1, w2⟩) (M 4 0) 0 (xpi S2 (ar 4) o (nI (mob M o))) (Nat.zero_le _) (by omega) hca ⟨fun q hq hg hoq => ?_, fun o' ho' => ?_⟩ (by rw [xi_pi, if_pos ⟨rfl, rfl⟩])
  · exact key
  · have hkp := hk.1 q hq hg hoq
    have n1 : pa q ≠ ar 4 := h.nP hq g3 (by decide)
    refine ⟨?_, ?_, fun k hk' hkq => ⟨?_, ?_⟩⟩
    · rw [xi_pi, if_neg (fun z => n1 z.1)]; exact hkp.1
    · rw [xi_pi, if_neg (fun z => n1 z.1)]; exact hkp.2.1
    · rw [xi_pi, if_neg (fun z => h.nQ hk' g3 (by decide) z.1)]; exact (hkp.2.2 k hk' hkq).1
    · rw [xi_pi, if_neg (fun z => h.nQ hk' g3 (by decide) z.1)]; exact (hkp.2.2 k hk' hkq).2
  · have hne : ar 4 ≠ ar 5 := h.2.1.2.2.2.2.1.2.2
    rw [xi_pi, if_neg (fun z => by omega), xi_pi, if_neg (fun z => hne z.1.symm)]
    exact hk.2 o' ho'
/-- survey has been: places and least sizes are as they are to be -/
def kL (S : xS) (ar pa qa : Nat → Nat) (M : mT) : Prop := kS S ar pa qa M ∧ ∀ k, k < M 12 0 → mnot M k = true → xi S (qa k) 10 = nI (mleast M k)
theorem kS.ten (h : rC S th ar pa qa la M) (hs : kS S ar pa qa M) {k : Nat} (hk : k < M 12 0) (x : Int32) : kS (xpi S (qa k) 10 x) ar pa qa M := by
  have q1 := (h.2.2.2.2.1 k hk).1.1
  have c4 := h.2.1.2.2.1.2.2.2.2.1
  have c5 := h.2.1.2.2.1.2.2.2.2.2
  refine ⟨fun q hq hg hoq => ?_, fun o ho => ?_⟩
  · have hkp := hs.1 q hq hg hoq
    have n1 : pa q ≠ qa k := h.nP hq q1 (by decide)
    refine ⟨?_, ?_, fun j hj hjq => ⟨?_, ?_⟩⟩
    · rw [xi_pi, if_neg (fun z => n1 z.1)]; exact hkp.1
    · rw [xi_pi, if_neg (fun z => n1 z.1)]; exact hkp.2.1
    · rw [xi_pi, if_neg (by simp)]; exact (hkp.2.2 j hj hjq).1
    · rw [xi_pi, if_neg (by simp)]; exact (hkp.2.2 j hj hjq).2
  · rw [xi_pi, if_neg (fun z => xne c4 q1 (by decide) z.1), xi_pi, if_neg (fun z => xne c5 q1 (by decide) z.1)]
    exact hs.2 o ho
set_option maxHeartbeats 4000000 in
set_option maxRecDepth 100000 in
theorem survey_loop2 {S0 : xS} (h0 : rC S0 th ar pa qa la M) {V : xKt} {Q : Option xVal → xS → Prop}
    (hV : xCl l D n0 3 cS_survey false none (xrm mS_survey 0 0) V (xE 0 0 Q))
    (hQ : ∀ S, xCa ar S0 S → kL S ar pa qa M → Q none S) (v1 : Option xVal) :
    ∀ (n k : Nat) (S : xS), k ≤ M 12 0 → M 12 0 - k = n → xCa ar S0 S → kS S ar pa qa M → (∀ j, j < k → mnot M j = true → xi S (qa j) 10 = nI (mleast M j)) → V 36 [some (.inr (.inr (some th))), v1, some (.inr (.inr (some (ar 1)))), some (.inl 256), some (.inl (nI k)), none] [] S 0 0 := by
  intro n
  induction n with
  | zero =>
    intro k S hk hn hc hs hl
    have : k = M 12 0 := by omega
    subst this
    have h := h0.ca hc
    have h3 := h.2.1.2.2.1.2.1
    have h4 := h.2.1.2.2.2.1.2.1
    have hw := h.1.1.2.2.1
    have h6 : ((256 : Int32) ≤ nI (M 12 0)) = (256 ≤ M 12 0) := xI_le_nI (by omega) 256 (by decide)
    have e0 : (nI (M 12 0)).toNatClampNeg = M 12 0 := nI_clamp (by omega)
    by_cases h32 : 256 ≤ M 12 0
    · refine xrun_ok hV [] 20 _ _ _ _ _ _ ?_
      simp (maxDischargeDepth := 60) only [xrun, xisc, ↓xstep, xget, xtgt, xcmp, xacmp, xprev, xisR, xnt, List.set, List.length, xsw, xlk, true_or, or_true, if_true, if_false, true_and, and_true, List.mem_cons, List.not_mem_nil, or_false, false_or, Bool.false_eq_true, reduceCtorEq, not_false_eq_true, forall_const, Nat.zero_add, Nat.reduceAdd, Nat.reduceSub, Int.reduceAdd, Int.reduceNeg, Int.reduceToNat, Nat.reduceEqDiff, Nat.reduceLT, Nat.reduceLeDiff, Int.reduceLE, Int.reduceLT, reduceIte, Int.cast_ofNat_Int, Int.natCast_zero, Int.natCast_one, Int.reduceAdd, eq_self, Int.reduceSub, List.length_cons, List.length_nil, xli_m1, xli_0, xli_1, xli_2, xli_3, xli_4, xli_5, xlb_8, xlb_12, xlb_31, xlb_32, xlb_64, xls_256, xls_513, xls_2048, xls_4096, xll_0, xll_1, xnr_i, xnr_0, xnr_1, xnr_ite, xft_i, xft_0, xft_1, xat_999, xat_1001, xat_1002, xat_1003, xat_2001, xat_2002, xat_2003, List.getElem?_cons_succ, List.getElem?_cons_zero, xfn_0, xfn_1, xfn_2, xfn_3, x10, x01, not_true_eq_false, false_implies, implies_true, true_implies, xrm_c, xrm_s, xnl_4, xnl_32, xnl_64, xnl_256, xtn_4, xtn_32, xtn_64, xtn_256, Option.some.injEq, Sum.inl.injEq, Sum.inr.injEq, exists_eq_left', exists_eq_right, Option.toList_some, Option.toList_none, List.cons_append, List.nil_append, xE, lg_cmp_ge, lg_cmp_le, lg_cmp_gt, lg_cmp_lt, lg_cmp_eq, Nat.le_refl, Nat.zero_le, ne_eq, Nat.add_zero, dS_survey_0, dS_survey_1, dS_survey_4, dS_survey_5, dS_survey_6, dS_survey_7, dS_survey_8, dS_survey_9, dS_survey_12, dS_survey_13, dS_survey_14, dS_survey_15, dS_survey_18, dS_survey_19, dS_survey_22, dS_survey_25, dS_survey_26, dS_survey_29, dS_survey_30, dS_survey_31, dS_survey_32, dS_survey_33, dS_survey_34, dS_survey_36, dS_survey_38, dS_survey_39, dS_survey_42, dS_survey_43, dS_survey_45, dS_survey_46, dS_survey_48, dS_survey_50, dS_survey_53, dS_survey_56, dS_survey_58, dS_survey_61, dS_survey_64, dS_survey_67, dS_survey_69, dS_survey_70, dS_survey_72, dS_survey_75, dS_survey_78, dS_survey_81, dS_survey_84, xf_3_101, xf_3_17, xf_3_144, xf_3_108, xf_3_148, h3, h4, h6]
      exact ⟨fun _ => hQ S hc ⟨hs, fun j hj => hl j hj⟩, fun z => absurd h32 z⟩
    · have hr := h.2.2.1.2.1 (M 12 0) (by omega)
      rw [if_neg (by omega)] at hr
      refine xrun_ok hV [] 20 _ _ _ _ _ _ ?_
      simp (maxDischargeDepth := 60) only [xrun, xisc, ↓xstep, xget, xtgt, xcmp, xacmp, xprev, xisR, xnt, List.set, List.length, xsw, xlk, true_or, or_true, if_true, if_false, true_and, and_true, List.mem_cons, List.not_mem_nil, or_false, false_or, Bool.false_eq_true, reduceCtorEq, not_false_eq_true, forall_const, Nat.zero_add, Nat.reduceAdd, Nat.reduceSub, Int.reduceAdd, Int.reduceNeg, Int.reduceToNat, Nat.reduceEqDiff, Nat.reduceLT, Nat.reduceLeDiff, Int.reduceLE, Int.reduceLT, reduceIte, Int.cast_ofNat_Int, Int.natCast_zero, Int.natCast_one, Int.reduceAdd, eq_self, Int.reduceSub, List.length_cons, List.length_nil, xli_m1, xli_0, xli_1, xli_2, xli_3, xli_4, xli_5, xlb_8, xlb_12, xlb_31, xlb_32, xlb_64, xls_256, xls_513, xls_2048, xls_4096, xll_0, xll_1, xnr_i, xnr_0, xnr_1, xnr_ite, xft_i, xft_0, xft_1, xat_999, xat_1001, xat_1002, xat_1003, xat_2001, xat_2002, xat_2003, List.getElem?_cons_succ, List.getElem?_cons_zero, xfn_0, xfn_1, xfn_2, xfn_3, x10, x01, not_true_eq_false, false_implies, implies_true, true_implies, xrm_c, xrm_s, xnl_4, xnl_32, xnl_64, xnl_256, xtn_4, xtn_32, xtn_64, xtn_256, Option.some.injEq, Sum.inl.injEq, Sum.inr.injEq, exists_eq_left', exists_eq_right, Option.toList_some, Option.toList_none, List.cons_append, List.nil_append, xE, lg_cmp_ge, lg_cmp_le, lg_cmp_gt, lg_cmp_lt, lg_cmp_eq, Nat.le_refl, Nat.zero_le, ne_eq, Nat.add_zero, dS_survey_0, dS_survey_1, dS_survey_4, dS_survey_5, dS_survey_6, dS_survey_7, dS_survey_8, dS_survey_9, dS_survey_12, dS_survey_13, dS_survey_14, dS_survey_15, dS_survey_18, dS_survey_19, dS_survey_22, dS_survey_25, dS_survey_26, dS_survey_29, dS_survey_30, dS_survey_31, dS_survey_32, dS_survey_33, dS_survey_34, dS_survey_36, dS_survey_38, dS_survey_39, dS_survey_42, dS_survey_43, dS_survey_45, dS_survey_46, dS_survey_48, dS_survey_50, dS_survey_53, dS_survey_56, dS_survey_58, dS_survey_61, dS_survey_64, dS_survey_67, dS_survey_69, dS_survey_70, dS_survey_72, dS_survey_75, dS_survey_78, dS_survey_81, dS_survey_84, xf_3_101, xf_3_17, xf_3_144, xf_3_108, xf_3_148, h3, h4, h6, e0, hr]
      exact ⟨fun z => absurd z h32, fun _ => ⟨⟨_, rfl⟩, vp_in_nI (by omega) (by decide), hQ S hc ⟨hs, fun j hj => hl j hj⟩⟩⟩
  | succ n ih =>
    intro k S hk hn hc hs hl
    have hkl : k < M 12 0 := by omega
    have h := h0.ca hc
    have h1 := h.th
    have h3 := h.2.1.2.2.1.2.1
    have h4 := h.2.1.2.2.2.1.2.1
    have hw := h.1.1.2.2.1
    have h6 : ((256 : Int32) ≤ nI k) = (256 ≤ k) := xI_le_nI (by omega) 256 (by decide)
    have e0 : (nI k).toNatClampNeg = k := nI_clamp (by omega)
    have n32 : ¬ 256 ≤ k := by omega
    have hr := h.2.2.1.2.1 k (by omega)
    rw [if_pos hkl] at hr
    obtain ⟨⟨q1, -⟩, ⟨-, q2, -⟩, -⟩ := h.2.2.2.2.1 k hkl
    have hp := (h.1.2.2.2.1 k hkl).2.1
    obtain ⟨⟨p1, -⟩, ⟨-, -, -, p2, -⟩, -⟩ := h.2.2.2.1 _ hp
    have hw8 := (h.1.2.2.1 _ hp).2.2.2
    have e8 : (nI (M 8 (M 14 k)) = 0) = (M 8 (M 14 k) = 0) := propext (nI_eq (b := 0) (by omega) (by decide))
    have next : ∀ S1 : xS, xCa ar S0 S1 → kS S1 ar pa qa M → (∀ j, j < k + 1 → mnot M j = true → xi S1 (qa j) 10 = nI (mleast M j)) → V 78 [some (.inr (.inr (some th))), v1, some (.inr (.inr (some (ar 1)))), some (.inl 256), some (.inl (nI k)), some (.inr (.inr (some (qa k))))] [] S1 0 0 := by
      intro S1 hc1 hs1 hl1
      cases v1 with
      | none =>
        refine xrun_ok hV [36] 20 _ _ _ _ _ _ ?_
        simp (maxDischargeDepth := 60) only [xrun, xisc, ↓xstep, xget, xtgt, xcmp, xacmp, xprev, xisR, xnt, List.set, List.length, xsw, xlk, true_or, or_true, if_true, if_false, true_and, and_true, List.mem_cons, List.not_mem_nil, or_false, false_or, Bool.false_eq_true, reduceCtorEq, not_false_eq_true, forall_const, Nat.zero_add, Nat.reduceAdd, Nat.reduceSub, Int.reduceAdd, Int.reduceNeg, Int.reduceToNat, Nat.reduceEqDiff, Nat.reduceLT, Nat.reduceLeDiff, Int.reduceLE, Int.reduceLT, reduceIte, Int.cast_ofNat_Int, Int.natCast_zero, Int.natCast_one, Int.reduceAdd, eq_self, Int.reduceSub, List.length_cons, List.length_nil, xli_m1, xli_0, xli_1, xli_2, xli_3, xli_4, xli_5, xlb_8, xlb_12, xlb_31, xlb_32, xlb_64, xls_256, xls_513, xls_2048, xls_4096, xll_0, xll_1, xnr_i, xnr_0, xnr_1, xnr_ite, xft_i, xft_0, xft_1, xat_999, xat_1001, xat_1002, xat_1003, xat_2001, xat_2002, xat_2003, List.getElem?_cons_succ, List.getElem?_cons_zero, xfn_0, xfn_1, xfn_2, xfn_3, x10, x01, not_true_eq_false, false_implies, implies_true, true_implies, xrm_c, xrm_s, xnl_4, xnl_32, xnl_64, xnl_256, xtn_4, xtn_32, xtn_64, xtn_256, Option.some.injEq, Sum.inl.injEq, Sum.inr.injEq, exists_eq_left', exists_eq_right, Option.toList_some, Option.toList_none, List.cons_append, List.nil_append, xE, lg_cmp_ge, lg_cmp_le, lg_cmp_gt, lg_cmp_lt, lg_cmp_eq, Nat.le_refl, Nat.zero_le, ne_eq, Nat.add_zero, dS_survey_0, dS_survey_1, dS_survey_4, dS_survey_5, dS_survey_6, dS_survey_7, dS_survey_8, dS_survey_9, dS_survey_12, dS_survey_13, dS_survey_14, dS_survey_15, dS_survey_18, dS_survey_19, dS_survey_22, dS_survey_25, dS_survey_26, dS_survey_29, dS_survey_30, dS_survey_31, dS_survey_32, dS_survey_33, dS_survey_34, dS_survey_36, dS_survey_38, dS_survey_39, dS_survey_42, dS_survey_43, dS_survey_45, dS_survey_46, dS_survey_48, dS_survey_50, dS_survey_53, dS_survey_56, dS_survey_58, dS_survey_61, dS_survey_64, dS_survey_67, dS_survey_69, dS_survey_70, dS_survey_72, dS_survey_75, dS_survey_78, dS_survey_81, dS_survey_84, xf_3_101, xf_3_17, xf_3_144, xf_3_108, xf_3_148, nI_1]
        exact hV.weak [some (.inr (.inr (some th))), none, some (.inr (.inr (some (ar 1)))), some (.inl 256), some (.inl (nI (k + 1))), none] ⟨rfl, rfl, rfl, rfl, trivial⟩ (ih (k + 1) S1 (by omega) (by omega) hc1 hs1 hl1)
      | some v =>
        rcases v with v | v | v
        · refine xrun_ok hV [36] 20 _ _ _ _ _ _ ?_
          simp (maxDischargeDepth := 60) only [xrun, xisc, ↓xstep, xget, xtgt, xcmp, xacmp, xprev, xisR, xnt, List.set, List.length, xsw, xlk, true_or, or_true, if_true, if_false, true_and, and_true, List.mem_cons, List.not_mem_nil, or_false, false_or, Bool.false_eq_true, reduceCtorEq, not_false_eq_true, forall_const, Nat.zero_add, Nat.reduceAdd, Nat.reduceSub, Int.reduceAdd, Int.reduceNeg, Int.reduceToNat, Nat.reduceEqDiff, Nat.reduceLT, Nat.reduceLeDiff, Int.reduceLE, Int.reduceLT, reduceIte, Int.cast_ofNat_Int, Int.natCast_zero, Int.natCast_one, Int.reduceAdd, eq_self, Int.reduceSub, List.length_cons, List.length_nil, xli_m1, xli_0, xli_1, xli_2, xli_3, xli_4, xli_5, xlb_8, xlb_12, xlb_31, xlb_32, xlb_64, xls_256, xls_513, xls_2048, xls_4096, xll_0, xll_1, xnr_i, xnr_0, xnr_1, xnr_ite, xft_i, xft_0, xft_1, xat_999, xat_1001, xat_1002, xat_1003, xat_2001, xat_2002, xat_2003, List.getElem?_cons_succ, List.getElem?_cons_zero, xfn_0, xfn_1, xfn_2, xfn_3, x10, x01, not_true_eq_false, false_implies, implies_true, true_implies, xrm_c, xrm_s, xnl_4, xnl_32, xnl_64, xnl_256, xtn_4, xtn_32, xtn_64, xtn_256, Option.some.injEq, Sum.inl.injEq, Sum.inr.injEq, exists_eq_left', exists_eq_right, Option.toList_some, Option.toList_none, List.cons_append, List.nil_append, xE, lg_cmp_ge, lg_cmp_le, lg_cmp_gt, lg_cmp_lt, lg_cmp_eq, Nat.le_refl, Nat.zero_le, ne_eq, Nat.add_zero, dS_survey_0, dS_survey_1, dS_survey_4, dS_survey_5, dS_survey_6, dS_survey_7, dS_survey_8, dS_survey_9, dS_survey_12, dS_survey_13, dS_survey_14, dS_survey_15, dS_survey_18, dS_survey_19, dS_survey_22, dS_survey_25, dS_survey_26, dS_survey_29, dS_survey_30, dS_survey_31, dS_survey_32, dS_survey_33, dS_survey_34, dS_survey_36, dS_survey_38, dS_survey_39, dS_survey_42, dS_survey_43, dS_survey_45, dS_survey_46, dS_survey_48, dS_survey_50, dS_survey_53, dS_survey_56, dS_survey_58, dS_survey_61, dS_survey_64, dS_survey_67, dS_survey_69, dS_survey_70, dS_survey_72, dS_survey_75, dS_survey_78, dS_survey_81, dS_survey_84, xf_3_101, xf_3_17, xf_3_144, xf_3_108, xf_3_148, nI_1]
          exact hV.weak [some (.inr (.inr (some th))), some (.inl v), some (.inr (.inr (some (ar 1)))), some (.inl 256), some (.inl (nI (k + 1))), none] ⟨rfl, rfl, rfl, rfl, rfl, trivial⟩ (ih (k + 1) S1 (by omega) (by omega) hc1 hs1 hl1)
        · refine xrun_ok hV [36] 20 _ _ _ _ _ _ ?_
          simp (maxDischargeDepth := 60) only [xrun, xisc, ↓xstep, xget, xtgt, xcmp, xacmp, xprev, xisR, xnt, List.set, List.length, xsw, xlk, true_or, or_true, if_true, if_false, true_and, and_true, List.mem_cons, List.not_mem_nil, or_false, false_or, Bool.false_eq_true, reduceCtorEq, not_false_eq_true, forall_const, Nat.zero_add, Nat.reduceAdd, Nat.reduceSub, Int.reduceAdd, Int.reduceNeg, Int.reduceToNat, Nat.reduceEqDiff, Nat.reduceLT, Nat.reduceLeDiff, Int.reduceLE, Int.reduceLT, reduceIte, Int.cast_ofNat_Int, Int.natCast_zero, Int.natCast_one, Int.reduceAdd, eq_self, Int.reduceSub, List.length_cons, List.length_nil, xli_m1, xli_0, xli_1, xli_2, xli_3, xli_4, xli_5, xlb_8, xlb_12, xlb_31, xlb_32, xlb_64, xls_256, xls_513, xls_2048, xls_4096, xll_0, xll_1, xnr_i, xnr_0, xnr_1, xnr_ite, xft_i, xft_0, xft_1, xat_999, xat_1001, xat_1002, xat_1003, xat_2001, xat_2002, xat_2003, List.getElem?_cons_succ, List.getElem?_cons_zero, xfn_0, xfn_1, xfn_2, xfn_3, x10, x01, not_true_eq_false, false_implies, implies_true, true_implies, xrm_c, xrm_s, xnl_4, xnl_32, xnl_64, xnl_256, xtn_4, xtn_32, xtn_64, xtn_256, Option.some.injEq, Sum.inl.injEq, Sum.inr.injEq, exists_eq_left', exists_eq_right, Option.toList_some, Option.toList_none, List.cons_append, List.nil_append, xE, lg_cmp_ge, lg_cmp_le, lg_cmp_gt, lg_cmp_lt, lg_cmp_eq, Nat.le_refl, Nat.zero_le, ne_eq, Nat.add_zero, dS_survey_0, dS_survey_1, dS_survey_4, dS_survey_5, dS_survey_6, dS_survey_7, dS_survey_8, dS_survey_9, dS_survey_12, dS_survey_13, dS_survey_14, dS_survey_15, dS_survey_18, dS_survey_19, dS_survey_22, dS_survey_25, dS_survey_26, dS_survey_29, dS_survey_30, dS_survey_31, dS_survey_32, dS_survey_33, dS_survey_34, dS_survey_36, dS_survey_38, dS_survey_39, dS_survey_42, dS_survey_43, dS_survey_45, dS_survey_46, dS_survey_48, dS_survey_50, dS_survey_53, dS_survey_56, dS_survey_58, dS_survey_61, dS_survey_64, dS_survey_67, dS_survey_69, dS_survey_70, dS_survey_72, dS_survey_75, dS_survey_78, dS_survey_81, dS_survey_84, xf_3_101, xf_3_17, xf_3_144, xf_3_108, xf_3_148, nI_1]
          exact hV.weak [some (.inr (.inr (some th))), some (.inr (.inl v)), some (.inr (.inr (some (ar 1)))), some (.inl 256), some (.inl (nI (k + 1))), none] ⟨rfl, rfl, rfl, rfl, rfl, trivial⟩ (ih (k + 1) S1 (by omega) (by omega) hc1 hs1 hl1)
        · refine xrun_ok hV [36] 20 _ _ _ _ _ _ ?_
          simp (maxDischargeDepth := 60) only [xrun, xisc, ↓xstep, xget, xtgt, xcmp, xacmp, xprev, xisR, xnt, List.set, List.length, xsw, xlk, true_or, or_true, if_true, if_false, true_and, and_true, List.mem_cons, List.not_mem_nil, or_false, false_or, Bool.false_eq_true, reduceCtorEq, not_false_eq_true, forall_const, Nat.zero_add, Nat.reduceAdd, Nat.reduceSub, Int.reduceAdd, Int.reduceNeg, Int.reduceToNat, Nat.reduceEqDiff, Nat.reduceLT, Nat.reduceLeDiff, Int.reduceLE, Int.reduceLT, reduceIte, Int.cast_ofNat_Int, Int.natCast_zero, Int.natCast_one, Int.reduceAdd, eq_self, Int.reduceSub, List.length_cons, List.length_nil, xli_m1, xli_0, xli_1, xli_2, xli_3, xli_4, xli_5, xlb_8, xlb_12, xlb_31, xlb_32, xlb_64, xls_256, xls_513, xls_2048, xls_4096, xll_0, xll_1, xnr_i, xnr_0, xnr_1, xnr_ite, xft_i, xft_0, xft_1, xat_999, xat_1001, xat_1002, xat_1003, xat_2001, xat_2002, xat_2003, List.getElem?_cons_succ, List.getElem?_cons_zero, xfn_0, xfn_1, xfn_2, xfn_3, x10, x01, not_true_eq_false, false_implies, implies_true, true_implies, xrm_c, xrm_s, xnl_4, xnl_32, xnl_64, xnl_256, xtn_4, xtn_32, xtn_64, xtn_256, Option.some.injEq, Sum.inl.injEq, Sum.inr.injEq, exists_eq_left', exists_eq_right, Option.toList_some, Option.toList_none, List.cons_append, List.nil_append, xE, lg_cmp_ge, lg_cmp_le, lg_cmp_gt, lg_cmp_lt, lg_cmp_eq, Nat.le_refl, Nat.zero_le, ne_eq, Nat.add_zero, dS_survey_0, dS_survey_1, dS_survey_4, dS_survey_5, dS_survey_6, dS_survey_7, dS_survey_8, dS_survey_9, dS_survey_12, dS_survey_13, dS_survey_14, dS_survey_15, dS_survey_18, dS_survey_19, dS_survey_22, dS_survey_25, dS_survey_26, dS_survey_29, dS_survey_30, dS_survey_31, dS_survey_32, dS_survey_33, dS_survey_34, dS_survey_36, dS_survey_38, dS_survey_39, dS_survey_42, dS_survey_43, dS_survey_45, dS_survey_46, dS_survey_48, dS_survey_50, dS_survey_53, dS_survey_56, dS_survey_58, dS_survey_61, dS_survey_64, dS_survey_67, dS_survey_69, dS_survey_70, dS_survey_72, dS_survey_75, dS_survey_78, dS_survey_81, dS_survey_84, xf_3_101, xf_3_17, xf_3_144, xf_3_108, xf_3_148, nI_1]
          exact hV.weak [some (.inr (.inr (some th))), some (.inr (.inr v)), some (.inr (.inr (some (ar 1)))), some (.inl 256), some (.inl (nI (k + 1))), none] ⟨rfl, rfl, rfl, rfl, rfl, trivial⟩ (ih (k + 1) S1 (by omega) (by omega) hc1 hs1 hl1)
    refine xrun_ok hV [78] 20 _ _ _ _ _ _ ?_
    simp (maxDischargeDepth := 60) only [xrun, xisc, ↓xstep, xget, xtgt, xcmp, xacmp, xprev, xisR, xnt, List.set, List.length, xsw, xlk, true_or, or_true, if_true, if_false, true_and, and_true, List.mem_cons, List.not_mem_nil, or_false, false_or, Bool.false_eq_true, reduceCtorEq, not_false_eq_true, forall_const, Nat.zero_add, Nat.reduceAdd, Nat.reduceSub, Int.reduceAdd, Int.reduceNeg, Int.reduceToNat, Nat.reduceEqDiff, Nat.reduceLT, Nat.reduceLeDiff, Int.reduceLE, Int.reduceLT, reduceIte, Int.cast_ofNat_Int, Int.natCast_zero, Int.natCast_one, Int.reduceAdd, eq_self, Int.reduceSub, List.length_cons, List.length_nil, xli_m1, xli_0, xli_1, xli_2, xli_3, xli_4, xli_5, xlb_8, xlb_12, xlb_31, xlb_32, xlb_64, xls_256, xls_513, xls_2048, xls_4096, xll_0, xll_1, xnr_i, xnr_0, xnr_1, xnr_ite, xft_i, xft_0, xft_1, xat_999, xat_1001, xat_1002, xat_1003, xat_2001, xat_2002, xat_2003, List.getElem?_cons_succ, List.getElem?_cons_zero, xfn_0, xfn_1, xfn_2, xfn_3, x10, x01, not_true_eq_false, false_implies, implies_true, true_implies, xrm_c, xrm_s, xnl_4, xnl_32, xnl_64, xnl_256, xtn_4, xtn_32, xtn_64, xtn_256, Option.some.injEq, Sum.inl.injEq, Sum.inr.injEq, exists_eq_left', exists_eq_right, Option.toList_some, Option.toList_none, List.cons_append, List.nil_append, xE, lg_cmp_ge, lg_cmp_le, lg_cmp_gt, lg_cmp_lt, lg_cmp_eq, Nat.le_refl, Nat.zero_le, ne_eq, Nat.add_zero, dS_survey_0, dS_survey_1, dS_survey_4, dS_survey_5, dS_survey_6, dS_survey_7, dS_survey_8, dS_survey_9, dS_survey_12, dS_survey_13, dS_survey_14, dS_survey_15, dS_survey_18, dS_survey_19, dS_survey_22, dS_survey_25, dS_survey_26, dS_survey_29, dS_survey_30, dS_survey_31, dS_survey_32, dS_survey_33, dS_survey_34, dS_survey_36, dS_survey_38, dS_survey_39, dS_survey_42, dS_survey_43, dS_survey_45, dS_survey_46, dS_survey_48, dS_survey_50, dS_survey_53, dS_survey_56, dS_survey_58, dS_survey_61, dS_survey_64, dS_survey_67, dS_survey_69, dS_survey_70, dS_survey_72, dS_survey_75, dS_survey_78, dS_survey_81, dS_survey_84, xf_3_101, xf_3_17, xf_3_144, xf_3_108, xf_3_148, h3, h4, h6, e0, hr, q1, q2, p1, p2, e8, n32]
    refine ⟨⟨_, rfl⟩, vp_in_nI (by omega) (by decide), fun z => ?_, fun z => ?_⟩
    · refine next S hc hs (fun j hj hm => ?_)
      by_cases e : j = k
      · subst e
        exact absurd (by simpa [mnot] using hm) z
      · exact hl j (by omega) hm
    · have hn : mnot M k = true := by simp [mnot, z]
      refine hV.call [.inr (.inr (some (qa k)))] (As := [.inr (.inr (some th)), .inr (.inr (some (qa k)))]) xh_3_200 dS_survey_72 (c_leastSize h hs hkl hn) (Or.inr ⟨_, _, rfl, fun _ => h1⟩) rfl rfl (Nat.le_of_ble_eq_true rfl) (by decide) (by decide) ?_
      rintro r S' ⟨rfl, rfl⟩
      refine xrun_ok hV [78] 20 _ _ _ _ _ _ ?_
      simp (maxDischargeDepth := 60) only [xrun, xisc, ↓xstep, xget, xtgt, xcmp, xacmp, xprev, xisR, xnt, List.set, List.length, xsw, xlk, true_or, or_true, if_true, if_false, true_and, and_true, List.mem_cons, List.not_mem_nil, or_false, false_or, Bool.false_eq_true, reduceCtorEq, not_false_eq_true, forall_const, Nat.zero_add, Nat.reduceAdd, Nat.reduceSub, Int.reduceAdd, Int.reduceNeg, Int.reduceToNat, Nat.reduceEqDiff, Nat.reduceLT, Nat.reduceLeDiff, Int.reduceLE, Int.reduceLT, reduceIte, Int.cast_ofNat_Int, Int.natCast_zero, Int.natCast_one, Int.reduceAdd, eq_self, Int.reduceSub, List.length_cons, List.length_nil, xli_m1, xli_0, xli_1, xli_2, xli_3, xli_4, xli_5, xlb_8, xlb_12, xlb_31, xlb_32, xlb_64, xls_256, xls_513, xls_2048, xls_4096, xll_0, xll_1, xnr_i, xnr_0, xnr_1, xnr_ite, xft_i, xft_0, xft_1, xat_999, xat_1001, xat_1002, xat_1003, xat_2001, xat_2002, xat_2003, List.getElem?_cons_succ, List.getElem?_cons_zero, xfn_0, xfn_1, xfn_2, xfn_3, x10, x01, not_true_eq_false, false_implies, implies_true, true_implies, xrm_c, xrm_s, xnl_4, xnl_32, xnl_64, xnl_256, xtn_4, xtn_32, xtn_64, xtn_256, Option.some.injEq, Sum.inl.injEq, Sum.inr.injEq, exists_eq_left', exists_eq_right, Option.toList_some, Option.toList_none, List.cons_append, List.nil_append, xE, lg_cmp_ge, lg_cmp_le, lg_cmp_gt, lg_cmp_lt, lg_cmp_eq, Nat.le_refl, Nat.zero_le, ne_eq, Nat.add_zero, dS_survey_0, dS_survey_1, dS_survey_4, dS_survey_5, dS_survey_6, dS_survey_7, dS_survey_8, dS_survey_9, dS_survey_12, dS_survey_13, dS_survey_14, dS_survey_15, dS_survey_18, dS_survey_19, dS_survey_22, dS_survey_25, dS_survey_26, dS_survey_29, dS_survey_30, dS_survey_31, dS_survey_32, dS_survey_33, dS_survey_34, dS_survey_36, dS_survey_38, dS_survey_39, dS_survey_42, dS_survey_43, dS_survey_45, dS_survey_46, dS_survey_48, dS_survey_50, dS_survey_53, dS_survey_56, dS_survey_58, dS_survey_61, dS_survey_64, dS_survey_67, dS_survey_69, dS_survey_70, dS_survey_72, dS_survey_75, dS_survey_78, dS_survey_81, dS_survey_84, xf_3_101, xf_3_17, xf_3_144, xf_3_108, xf_3_148, q1]
      refine next _ (xCa.tr h0 hc (xCa.pi (Or.inr (Or.inl ⟨q1, Or.inr (Or.inl rfl)⟩)))) (hs.ten h hkl _) (fun j hj hm => ?_)
      rw [xi_pi]
      by_cases e : j = k
      · subst e
        rw [if_pos ⟨rfl, rfl⟩]
      · rw [if_neg (fun w => e (h.2.2.2.2.2.2.2.1 j k (by omega) hkl w.1))]
        exact hl j (by omega) hm
end LOOK
end
