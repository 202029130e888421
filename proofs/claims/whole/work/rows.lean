section
-- ===== PART A: goes FIRST, ahead of the names: the tables' words, and 'selects' of the private methods out of them =====
/-- a private method of a class that the tables say can be made, by its rows of tables_1 -/
def lw_okq (q : MethodName × Nat) : Prop := (q.1.cls ≠ "java/lang/invoke/MethodHandle" ∧ q.1.cls ≠ "java/lang/invoke/VarHandle") ∧ Cond.instantiable q.1.cls q.2 ∈ tables_1 ∧ Cond.privateMethod q.1 ∈ tables_1 ∧ Cond.instanceMethod q.1 ∈ tables_1
theorem lw_p0 : lw_okq (⟨"TileDesk$Picture", "frameTile", "(I)V"⟩, 15) := ⟨⟨by decide +kernel, by decide +kernel⟩, List.mem_of_getElem? (i := 64) (by decide +kernel), List.mem_of_getElem? (i := 221) (by decide +kernel), List.mem_of_getElem? (i := 222) (by decide +kernel)⟩
theorem lw_p1 : lw_okq (⟨"TileDesk$Picture", "fillWithBackground", "()V"⟩, 15) := ⟨⟨by decide +kernel, by decide +kernel⟩, List.mem_of_getElem? (i := 64) (by decide +kernel), List.mem_of_getElem? (i := 232) (by decide +kernel), List.mem_of_getElem? (i := 233) (by decide +kernel)⟩
theorem lw_p2 : lw_okq (⟨"TileDesk$Picture", "drawPiece", "(I)V"⟩, 15) := ⟨⟨by decide +kernel, by decide +kernel⟩, List.mem_of_getElem? (i := 64) (by decide +kernel), List.mem_of_getElem? (i := 240) (by decide +kernel), List.mem_of_getElem? (i := 241) (by decide +kernel)⟩
theorem lw_p3 : lw_okq (⟨"TileDesk$Shape", "ownsItsEdge", "(II)Z"⟩, 5) := ⟨⟨by decide +kernel, by decide +kernel⟩, List.mem_of_getElem? (i := 17) (by decide +kernel), List.mem_of_getElem? (i := 295) (by decide +kernel), List.mem_of_getElem? (i := 296) (by decide +kernel)⟩
theorem lw_p4 : lw_okq (⟨"TileDesk$Picture", "paint", "(III)V"⟩, 15) := ⟨⟨by decide +kernel, by decide +kernel⟩, List.mem_of_getElem? (i := 64) (by decide +kernel), List.mem_of_getElem? (i := 299) (by decide +kernel), List.mem_of_getElem? (i := 300) (by decide +kernel)⟩
theorem lw_p5 : lw_okq (⟨"TileDesk$Shape", "weighedR", "()J"⟩, 5) := ⟨⟨by decide +kernel, by decide +kernel⟩, List.mem_of_getElem? (i := 17) (by decide +kernel), List.mem_of_getElem? (i := 307) (by decide +kernel), List.mem_of_getElem? (i := 308) (by decide +kernel)⟩
theorem lw_p6 : lw_okq (⟨"TileDeskModel", "area", "(I)J"⟩, 11) := ⟨⟨by decide +kernel, by decide +kernel⟩, List.mem_of_getElem? (i := 346) (by decide +kernel), List.mem_of_getElem? (i := 396) (by decide +kernel), List.mem_of_getElem? (i := 397) (by decide +kernel)⟩
theorem lw_p7 : lw_okq (⟨"TileDeskModel", "edge", "(IIJJ)J"⟩, 11) := ⟨⟨by decide +kernel, by decide +kernel⟩, List.mem_of_getElem? (i := 346) (by decide +kernel), List.mem_of_getElem? (i := 400) (by decide +kernel), List.mem_of_getElem? (i := 401) (by decide +kernel)⟩
theorem lw_p8 : lw_okq (⟨"TileDeskModel", "draw", "(IIII)V"⟩, 11) := ⟨⟨by decide +kernel, by decide +kernel⟩, List.mem_of_getElem? (i := 346) (by decide +kernel), List.mem_of_getElem? (i := 420) (by decide +kernel), List.mem_of_getElem? (i := 421) (by decide +kernel)⟩
theorem lw_p9 : lw_okq (⟨"TileDeskModel", "holds", "(IIJJ)Z"⟩, 11) := ⟨⟨by decide +kernel, by decide +kernel⟩, List.mem_of_getElem? (i := 346) (by decide +kernel), List.mem_of_getElem? (i := 426) (by decide +kernel), List.mem_of_getElem? (i := 427) (by decide +kernel)⟩
theorem lw_p10 : lw_okq (⟨"TileDeskModel", "tiles", "()I"⟩, 11) := ⟨⟨by decide +kernel, by decide +kernel⟩, List.mem_of_getElem? (i := 346) (by decide +kernel), List.mem_of_getElem? (i := 437) (by decide +kernel), List.mem_of_getElem? (i := 438) (by decide +kernel)⟩
theorem lw_p11 : lw_okq (⟨"TileDeskModel", "columns", "()I"⟩, 11) := ⟨⟨by decide +kernel, by decide +kernel⟩, List.mem_of_getElem? (i := 346) (by decide +kernel), List.mem_of_getElem? (i := 441) (by decide +kernel), List.mem_of_getElem? (i := 442) (by decide +kernel)⟩
theorem lw_p12 : lw_okq (⟨"TileDeskModel", "isSeen", "(II)Z"⟩, 11) := ⟨⟨by decide +kernel, by decide +kernel⟩, List.mem_of_getElem? (i := 346) (by decide +kernel), List.mem_of_getElem? (i := 453) (by decide +kernel), List.mem_of_getElem? (i := 454) (by decide +kernel)⟩
def lw_privs_1 : List (MethodName × Nat) := [(⟨"TileDesk$Picture", "frameTile", "(I)V"⟩, 15), (⟨"TileDesk$Picture", "fillWithBackground", "()V"⟩, 15), (⟨"TileDesk$Picture", "drawPiece", "(I)V"⟩, 15), (⟨"TileDesk$Shape", "ownsItsEdge", "(II)Z"⟩, 5), (⟨"TileDesk$Picture", "paint", "(III)V"⟩, 15), (⟨"TileDesk$Shape", "weighedR", "()J"⟩, 5), (⟨"TileDeskModel", "area", "(I)J"⟩, 11), (⟨"TileDeskModel", "edge", "(IIJJ)J"⟩, 11), (⟨"TileDeskModel", "draw", "(IIII)V"⟩, 11), (⟨"TileDeskModel", "holds", "(IIJJ)Z"⟩, 11), (⟨"TileDeskModel", "tiles", "()I"⟩, 11), (⟨"TileDeskModel", "columns", "()I"⟩, 11), (⟨"TileDeskModel", "isSeen", "(II)Z"⟩, 11)]
theorem lw_r1 : ∀ q ∈ lw_privs_1, lw_okq q := List.forall_mem_cons.mpr ⟨lw_p0, List.forall_mem_cons.mpr ⟨lw_p1, List.forall_mem_cons.mpr ⟨lw_p2, List.forall_mem_cons.mpr ⟨lw_p3, List.forall_mem_cons.mpr ⟨lw_p4, List.forall_mem_cons.mpr ⟨lw_p5, List.forall_mem_cons.mpr ⟨lw_p6, List.forall_mem_cons.mpr ⟨lw_p7, List.forall_mem_cons.mpr ⟨lw_p8, List.forall_mem_cons.mpr ⟨lw_p9, List.forall_mem_cons.mpr ⟨lw_p10, List.forall_mem_cons.mpr ⟨lw_p11, List.forall_mem_cons.mpr ⟨lw_p12, fun _ h => absurd h List.not_mem_nil⟩⟩⟩⟩⟩⟩⟩⟩⟩⟩⟩⟩⟩
def lw_privs : List (MethodName × Nat) := lw_privs_1
def lw_tbl : List Cond := k2_sels lw_privs ++ tables_1
theorem lw_privs_ok : ∀ q ∈ lw_privs, lw_okq q := lw_r1
end
section
def RX0 : String := "TileDesk$Shape"
def RX1 : String := "TileDesk$Pieces"
def RX2 : String := "TileDesk$Picture"
def RX3 : String := "TileDesk"
def RX4 : String := "TileDeskModel"
def RJ : String := "java/lang/Math"
def RL : String := "TileDeskLaw"
def TX0 : u_T := fun k => match k with
  | 0 => ("TileDesk$Shape", "xs", "[J", true)
  | 1 => ("TileDesk$Shape", "ys", "[J", true)
  | 2 => ("TileDesk$Shape", "rs", "[J", true)
  | 3 => ("TileDesk$Shape", "lights", "[J", true)
  | _ => ("TileDesk$Shape", "weights", "[J", true)
def tyX0 : Nat → FieldType := fun k => match k with
  | 0 => .array .long
  | 1 => .array .long
  | 2 => .array .long
  | 3 => .array .long
  | _ => .array .long
theorem nmX0 : ∀ a, a < 5 → ∀ b, b < 5 → a ≠ b → (TX0 a).2.1 ≠ (TX0 b).2.1 := by decide +kernel
theorem tyX0_ok : ∀ k, k < 5 → parseFieldDescriptor (TX0 k).2.2.1 = some (tyX0 k) := by decide +kernel
def TX1 : u_T := fun k => match k with
  | 0 => ("TileDesk$Pieces", "corners", "[J", true)
  | 1 => ("TileDesk$Pieces", "tints", "[I", true)
  | 2 => ("TileDesk$Pieces", "covers", "[I", true)
  | _ => ("TileDesk$Pieces", "size", "I", false)
def tyX1 : Nat → FieldType := fun k => match k with
  | 0 => .array .long
  | 1 => .array .int
  | 2 => .array .int
  | _ => .int
theorem nmX1 : ∀ a, a < 4 → ∀ b, b < 4 → a ≠ b → (TX1 a).2.1 ≠ (TX1 b).2.1 := by decide +kernel
theorem tyX1_ok : ∀ k, k < 4 → parseFieldDescriptor (TX1 k).2.2.1 = some (tyX1 k) := by decide +kernel
def TX2 : u_T := fun k => match k with
  | 0 => ("TileDesk$Picture", "width", "I", true)
  | 1 => ("TileDesk$Picture", "height", "I", true)
  | 2 => ("TileDesk$Picture", "tilesAcross", "I", true)
  | 3 => ("TileDesk$Picture", "colours", "[I", true)
  | 4 => ("TileDesk$Picture", "nearest", "[I", true)
  | 5 => ("TileDesk$Picture", "done", "[Z", true)
  | 6 => ("TileDesk$Picture", "taken", "LTileDesk$Pieces;", true)
  | 7 => ("TileDesk$Picture", "shape", "LTileDesk$Shape;", true)
  | 8 => ("TileDesk$Picture", "background", "I", false)
  | 9 => ("TileDesk$Picture", "begun", "Z", false)
  | 10 => ("TileDesk$Picture", "doneTiles", "I", false)
  | 11 => ("TileDesk$Picture", "left", "I", false)
  | 12 => ("TileDesk$Picture", "top", "I", false)
  | 13 => ("TileDesk$Picture", "right", "I", false)
  | _ => ("TileDesk$Picture", "bottom", "I", false)
def tyX2 : Nat → FieldType := fun k => match k with
  | 0 => .int
  | 1 => .int
  | 2 => .int
  | 3 => .array .int
  | 4 => .array .int
  | 5 => .array .boolean
  | 6 => .object "TileDesk$Pieces"
  | 7 => .object "TileDesk$Shape"
  | 8 => .int
  | 9 => .boolean
  | 10 => .int
  | 11 => .int
  | 12 => .int
  | 13 => .int
  | _ => .int
theorem nmX2 : ∀ a, a < 15 → ∀ b, b < 15 → a ≠ b → (TX2 a).2.1 ≠ (TX2 b).2.1 := by decide +kernel
theorem tyX2_ok : ∀ k, k < 15 → parseFieldDescriptor (TX2 k).2.2.1 = some (tyX2 k) := by decide +kernel
def TX3 : u_T := fun k => match k with
  | 0 => ("TileDesk", "text", "LTileDesk$Shape;", true)
  | 1 => ("TileDesk", "pieces", "LTileDesk$Pieces;", true)
  | 2 => ("TileDesk", "picture", "LTileDesk$Picture;", true)
  | _ => ("TileDesk", "backgroundNow", "I", false)
def tyX3 : Nat → FieldType := fun k => match k with
  | 0 => .object "TileDesk$Shape"
  | 1 => .object "TileDesk$Pieces"
  | 2 => .object "TileDesk$Picture"
  | _ => .int
theorem nmX3 : ∀ a, a < 4 → ∀ b, b < 4 → a ≠ b → (TX3 a).2.1 ≠ (TX3 b).2.1 := by decide +kernel
theorem tyX3_ok : ∀ k, k < 4 → parseFieldDescriptor (TX3 k).2.2.1 = some (tyX3 k) := by decide +kernel
def TX4 : u_T := fun k => match k with
  | 0 => ("TileDeskModel", "thrown", "I", false)
  | 1 => ("TileDeskModel", "width", "I", true)
  | 2 => ("TileDeskModel", "height", "I", true)
  | 3 => ("TileDeskModel", "many", "I", false)
  | 4 => ("TileDeskModel", "pieces", "[I", true)
  | 5 => ("TileDeskModel", "background", "I", false)
  | 6 => ("TileDeskModel", "begun", "Z", false)
  | 7 => ("TileDeskModel", "took", "I", false)
  | 8 => ("TileDeskModel", "colours", "[I", true)
  | 9 => ("TileDeskModel", "nears", "[I", true)
  | _ => ("TileDeskModel", "done", "[Z", true)
def tyX4 : Nat → FieldType := fun k => match k with
  | 0 => .int
  | 1 => .int
  | 2 => .int
  | 3 => .int
  | 4 => .array .int
  | 5 => .int
  | 6 => .boolean
  | 7 => .int
  | 8 => .array .int
  | 9 => .array .int
  | _ => .array .boolean
theorem nmX4 : ∀ a, a < 11 → ∀ b, b < 11 → a ≠ b → (TX4 a).2.1 ≠ (TX4 b).2.1 := by decide +kernel
theorem tyX4_ok : ∀ k, k < 11 → parseFieldDescriptor (TX4 k).2.2.1 = some (tyX4 k) := by decide +kernel
abbrev cX3_init : ByteArray := prog_1_method_1_code
def yX3_init : MethodName := ⟨RX3, "<init>", "(II)V"⟩
abbrev cX3_corner : ByteArray := prog_1_method_2_code
def yX3_corner : MethodName := ⟨RX3, "corner", "(IIIII)Z"⟩
abbrev cX3_add : ByteArray := prog_1_method_3_code
def yX3_add : MethodName := ⟨RX3, "add", "(II)I"⟩
abbrev cX3_clear : ByteArray := prog_1_method_4_code
def yX3_clear : MethodName := ⟨RX3, "clear", "()V"⟩
abbrev cX3_background : ByteArray := prog_1_method_5_code
def yX3_background : MethodName := ⟨RX3, "background", "(I)Z"⟩
abbrev cX3_begin : ByteArray := prog_1_method_6_code
def yX3_begin : MethodName := ⟨RX3, "begin", "()I"⟩
abbrev cX3_tile : ByteArray := prog_1_method_7_code
def yX3_tile : MethodName := ⟨RX3, "tile", "(I)Z"⟩
abbrev cX3_pixel : ByteArray := prog_1_method_8_code
def yX3_pixel : MethodName := ⟨RX3, "pixel", "(II)I"⟩
abbrev cX3_nearness : ByteArray := prog_1_method_9_code
def yX3_nearness : MethodName := ⟨RX3, "nearness", "(II)I"⟩
abbrev cX3_count : ByteArray := prog_1_method_10_code
def yX3_count : MethodName := ⟨RX3, "count", "(I)I"⟩
abbrev cX3_nearestSide : ByteArray := prog_1_method_11_code
def yX3_nearestSide : MethodName := ⟨RX3, "nearestSide", "(I)I"⟩
abbrev cX3_isWithin : ByteArray := prog_1_method_12_code
def yX3_isWithin : MethodName := ⟨RX3, "isWithin", "(III)Z"⟩
abbrev cX3_isColour : ByteArray := prog_1_method_13_code
def yX3_isColour : MethodName := ⟨RX3, "isColour", "(I)Z"⟩
abbrev cX3_quotient : ByteArray := prog_1_method_14_code
def yX3_quotient : MethodName := ⟨RX3, "quotient", "(JJ)J"⟩
abbrev cX3_litColour : ByteArray := prog_1_method_15_code
def yX3_litColour : MethodName := ⟨RX3, "litColour", "(IJ)I"⟩
abbrev cX3_mixedColour : ByteArray := prog_1_method_16_code
def yX3_mixedColour : MethodName := ⟨RX3, "mixedColour", "(III)I"⟩
abbrev cX4_init : ByteArray := prog_6_method_1_code
def yX4_init : MethodName := ⟨RX4, "<init>", "(II)V"⟩
abbrev cX4_corner : ByteArray := prog_6_method_3_code
def yX4_corner : MethodName := ⟨RX4, "corner", "(IIIII)Z"⟩
abbrev cX4_edge : ByteArray := prog_6_method_4_code
def yX4_edge : MethodName := ⟨RX4, "edge", "(IIJJ)J"⟩
abbrev cX4_area : ByteArray := prog_6_method_5_code
def yX4_area : MethodName := ⟨RX4, "area", "(I)J"⟩
abbrev cX4_isColour : ByteArray := prog_6_method_6_code
def yX4_isColour : MethodName := ⟨RX4, "isColour", "(I)Z"⟩
abbrev cX4_add : ByteArray := prog_6_method_7_code
def yX4_add : MethodName := ⟨RX4, "add", "(II)I"⟩
abbrev cX4_clear : ByteArray := prog_6_method_8_code
def yX4_clear : MethodName := ⟨RX4, "clear", "()V"⟩
abbrev cX4_background : ByteArray := prog_6_method_9_code
def yX4_background : MethodName := ⟨RX4, "background", "(I)Z"⟩
abbrev cX4_holds : ByteArray := prog_6_method_10_code
def yX4_holds : MethodName := ⟨RX4, "holds", "(IIJJ)Z"⟩
abbrev cX4_part : ByteArray := prog_6_method_11_code
def yX4_part : MethodName := ⟨RX4, "part", "(II)I"⟩
abbrev cX4_over : ByteArray := prog_6_method_12_code
def yX4_over : MethodName := ⟨RX4, "over", "(IJII)I"⟩
abbrev cX4_draw : ByteArray := prog_6_method_13_code
def yX4_draw : MethodName := ⟨RX4, "draw", "(IIII)V"⟩
abbrev cX4_columns : ByteArray := prog_6_method_14_code
def yX4_columns : MethodName := ⟨RX4, "columns", "()I"⟩
abbrev cX4_tiles : ByteArray := prog_6_method_15_code
def yX4_tiles : MethodName := ⟨RX4, "tiles", "()I"⟩
abbrev cX4_begin : ByteArray := prog_6_method_16_code
def yX4_begin : MethodName := ⟨RX4, "begin", "()I"⟩
abbrev cX4_tile : ByteArray := prog_6_method_17_code
def yX4_tile : MethodName := ⟨RX4, "tile", "(I)Z"⟩
abbrev cX4_isSeen : ByteArray := prog_6_method_18_code
def yX4_isSeen : MethodName := ⟨RX4, "isSeen", "(II)Z"⟩
abbrev cX4_pixel : ByteArray := prog_6_method_19_code
def yX4_pixel : MethodName := ⟨RX4, "pixel", "(II)I"⟩
abbrev cX4_nearness : ByteArray := prog_6_method_20_code
def yX4_nearness : MethodName := ⟨RX4, "nearness", "(II)I"⟩
abbrev cX4_count : ByteArray := prog_6_method_21_code
def yX4_count : MethodName := ⟨RX4, "count", "(I)I"⟩
abbrev cX2_init : ByteArray := prog_2_method_1_code
def yX2_init : MethodName := ⟨RX2, "<init>", "(II)V"⟩
abbrev cX2_start : ByteArray := prog_2_method_2_code
def yX2_start : MethodName := ⟨RX2, "start", "(LTileDesk$Pieces;I)I"⟩
abbrev cX2_pixelIndex : ByteArray := prog_2_method_3_code
def yX2_pixelIndex : MethodName := ⟨RX2, "pixelIndex", "(II)I"⟩
abbrev cX2_isShown : ByteArray := prog_2_method_4_code
def yX2_isShown : MethodName := ⟨RX2, "isShown", "(II)Z"⟩
abbrev cX2_drawTile : ByteArray := prog_2_method_5_code
def yX2_drawTile : MethodName := ⟨RX2, "drawTile", "(I)Z"⟩
abbrev cX2_frameTile : ByteArray := prog_2_method_6_code
def yX2_frameTile : MethodName := ⟨RX2, "frameTile", "(I)V"⟩
abbrev cX2_fillWithBackground : ByteArray := prog_2_method_7_code
def yX2_fillWithBackground : MethodName := ⟨RX2, "fillWithBackground", "()V"⟩
abbrev cX2_drawPiece : ByteArray := prog_2_method_8_code
def yX2_drawPiece : MethodName := ⟨RX2, "drawPiece", "(I)V"⟩
abbrev cX2_paint : ByteArray := prog_2_method_9_code
def yX2_paint : MethodName := ⟨RX2, "paint", "(III)V"⟩
abbrev cX1_init : ByteArray := prog_3_method_1_code
def yX1_init : MethodName := ⟨RX1, "<init>", "()V"⟩
abbrev cX1_append : ByteArray := prog_3_method_2_code
def yX1_append : MethodName := ⟨RX1, "append", "(LTileDesk$Shape;II)I"⟩
abbrev cX1_removeAll : ByteArray := prog_3_method_3_code
def yX1_removeAll : MethodName := ⟨RX1, "removeAll", "()V"⟩
abbrev cX1_copyFrom : ByteArray := prog_3_method_4_code
def yX1_copyFrom : MethodName := ⟨RX1, "copyFrom", "(LTileDesk$Pieces;)V"⟩
abbrev cX1_unpackTo : ByteArray := prog_3_method_5_code
def yX1_unpackTo : MethodName := ⟨RX1, "unpackTo", "(LTileDesk$Shape;I)V"⟩
abbrev cX0_init : ByteArray := prog_4_method_1_code
def yX0_init : MethodName := ⟨RX0, "<init>", "()V"⟩
abbrev cX0_setCorner : ByteArray := prog_4_method_2_code
def yX0_setCorner : MethodName := ⟨RX0, "setCorner", "(IJJJJ)V"⟩
abbrev cX0_packedCorner : ByteArray := prog_4_method_3_code
def yX0_packedCorner : MethodName := ⟨RX0, "packedCorner", "(I)J"⟩
abbrev cX0_unpackCorner : ByteArray := prog_4_method_4_code
def yX0_unpackCorner : MethodName := ⟨RX0, "unpackCorner", "(IJ)V"⟩
abbrev cX0_area : ByteArray := prog_4_method_5_code
def yX0_area : MethodName := ⟨RX0, "area", "()J"⟩
abbrev cX0_coversPixel : ByteArray := prog_4_method_6_code
def yX0_coversPixel : MethodName := ⟨RX0, "coversPixel", "(II)Z"⟩
abbrev cX0_ownsItsEdge : ByteArray := prog_4_method_7_code
def yX0_ownsItsEdge : MethodName := ⟨RX0, "ownsItsEdge", "(II)Z"⟩
abbrev cX0_weighedR : ByteArray := prog_4_method_8_code
def yX0_weighedR : MethodName := ⟨RX0, "weighedR", "()J"⟩
abbrev cX0_nearnessHere : ByteArray := prog_4_method_9_code
def yX0_nearnessHere : MethodName := ⟨RX0, "nearnessHere", "()J"⟩
abbrev cX0_lightHere : ByteArray := prog_4_method_10_code
def yX0_lightHere : MethodName := ⟨RX0, "lightHere", "()J"⟩
abbrev cX0_firstColumn : ByteArray := prog_4_method_11_code
def yX0_firstColumn : MethodName := ⟨RX0, "firstColumn", "()I"⟩
abbrev cX0_lastColumn : ByteArray := prog_4_method_12_code
def yX0_lastColumn : MethodName := ⟨RX0, "lastColumn", "()I"⟩
abbrev cX0_firstRow : ByteArray := prog_4_method_13_code
def yX0_firstRow : MethodName := ⟨RX0, "firstRow", "()I"⟩
abbrev cX0_lastRow : ByteArray := prog_4_method_14_code
def yX0_lastRow : MethodName := ⟨RX0, "lastRow", "()I"⟩
abbrev cX0_least : ByteArray := prog_4_method_15_code
def yX0_least : MethodName := ⟨RX0, "least", "([J)J"⟩
abbrev cX0_most : ByteArray := prog_4_method_16_code
def yX0_most : MethodName := ⟨RX0, "most", "([J)J"⟩
abbrev cX0_firstMiddle : ByteArray := prog_4_method_17_code
def yX0_firstMiddle : MethodName := ⟨RX0, "firstMiddle", "(J)I"⟩
abbrev cX0_lastMiddle : ByteArray := prog_4_method_18_code
def yX0_lastMiddle : MethodName := ⟨RX0, "lastMiddle", "(J)I"⟩
abbrev cL_cell : ByteArray := method_2_code
def yL_cell : MethodName := ⟨RL, "cell", "([II)I"⟩
abbrev cL_law : ByteArray := code
abbrev cJ_floorDiv : ByteArray := prog_7_method_49_code
def yJ_floorDiv : MethodName := ⟨RJ, "floorDiv", "(JJ)J"⟩
abbrev cJ_max : ByteArray := prog_7_method_65_code
def yJ_max : MethodName := ⟨RJ, "max", "(II)I"⟩
abbrev cJ_max_ : ByteArray := prog_7_method_66_code
def yJ_max_ : MethodName := ⟨RJ, "max", "(JJ)J"⟩
abbrev cJ_min : ByteArray := prog_7_method_69_code
def yJ_min : MethodName := ⟨RJ, "min", "(II)I"⟩
abbrev cJ_min_ : ByteArray := prog_7_method_70_code
def yJ_min_ : MethodName := ⟨RJ, "min", "(JJ)J"⟩
abbrev vwCl : List vw_C := [(RX0, TX0, 5), (RX1, TX1, 4), (RX2, TX2, 15), (RX3, TX3, 4), (RX4, TX4, 11)]
abbrev tdn (C : String) (T : u_T) (N : Nat) : List Cond := u_ws C T N
def td_w0 : List Cond := [.arrayClass .long, .arrayClass .int, .arrayClass .boolean]
def td_w1 : List Cond := [.initialized RL, .initialized RX3, .initialized RX0, .initialized RX1, .initialized RX2, .initialized RJ, .initialized RX4, .initialized "java/lang/System", .classLink RL 7 RX3, .instantiable RX3 4, .methodLink RL 15 yX3_init, .instanceMethod yX3_init, .code yX3_init cX3_init 3 none, .methodLink RX3 3 objectInit, .instanceMethod objectInit, .code objectInit object_method_1_code 1 none, .classLink RX3 9 RX0, .instantiable RX0 5, .instanceMethod yX0_init, .code yX0_init cX0_init 1 none, .methodLink RX0 3 objectInit, .fieldLink RX0 9 "TileDesk$Shape" "xs" "[J", .fieldLink RX0 15 "TileDesk$Shape" "ys" "[J", .fieldLink RX0 18 "TileDesk$Shape" "rs" "[J"]
def td_w2 : List Cond := [.fieldLink RX0 21 "TileDesk$Shape" "lights" "[J", .fieldLink RX0 24 "TileDesk$Shape" "weights" "[J", .classLink RX3 16 RX1, .instantiable RX1 4, .instanceMethod yX1_init, .code yX1_init cX1_init 1 none, .methodLink RX1 3 objectInit, .fieldLink RX1 9 "TileDesk$Pieces" "corners" "[J", .fieldLink RX1 15 "TileDesk$Pieces" "tints" "[I", .fieldLink RX1 19 "TileDesk$Pieces" "covers" "[I", .fieldLink RX1 22 "TileDesk$Pieces" "size" "I", .classLink RX3 27 RX2, .instantiable RX2 15, .methodLink RX3 29 yX3_nearestSide, .static yX3_nearestSide, .code yX3_nearestSide cX3_nearestSide 1 (some .int), .methodLink RX3 102 yJ_min, .static yJ_min, .code yJ_min cJ_min 2 (some .int), .methodLink RX3 107 yJ_max, .static yJ_max, .code yJ_max cJ_max 2 (some .int), .methodLink RX3 33 yX2_init, .instanceMethod yX2_init]
def td_w3 : List Cond := [.code yX2_init cX2_init 4 none, .methodLink RX2 3 objectInit, .classLink RX2 9 RX1, .classLink RX2 18 RX0, .fieldLink RX2 48 "TileDesk$Picture" "width" "I", .fieldLink RX2 51 "TileDesk$Picture" "height" "I", .fieldLink RX2 54 "TileDesk$Picture" "tilesAcross" "I", .fieldLink RX2 57 "TileDesk$Picture" "colours" "[I", .fieldLink RX2 61 "TileDesk$Picture" "nearest" "[I", .fieldLink RX2 64 "TileDesk$Picture" "done" "[Z", .fieldLink RX2 12 "TileDesk$Picture" "taken" "LTileDesk$Pieces;", .fieldLink RX2 21 "TileDesk$Picture" "shape" "LTileDesk$Shape;", .fieldLink RX2 25 "TileDesk$Picture" "background" "I", .fieldLink RX2 29 "TileDesk$Picture" "begun" "Z", .fieldLink RX2 33 "TileDesk$Picture" "doneTiles" "I", .fieldLink RX2 36 "TileDesk$Picture" "left" "I", .fieldLink RX2 39 "TileDesk$Picture" "top" "I", .fieldLink RX2 42 "TileDesk$Picture" "right" "I", .fieldLink RX2 45 "TileDesk$Picture" "bottom" "I", .fieldLink RX3 12 "TileDesk" "text" "LTileDesk$Shape;", .fieldLink RX3 19 "TileDesk" "pieces" "LTileDesk$Pieces;", .fieldLink RX3 36 "TileDesk" "picture" "LTileDesk$Picture;", .fieldLink RX3 23 "TileDesk" "backgroundNow" "I", .methodLink RL 21 yX3_corner]
def td_w4 : List Cond := [.instanceMethod yX3_corner, .selects RX3 yX3_corner yX3_corner, .code yX3_corner cX3_corner 7 (some .boolean), .methodLink RX3 40 yX3_isWithin, .static yX3_isWithin, .code yX3_isWithin cX3_isWithin 3 (some .boolean), .constant RX3 44 1048576, .constant RX3 45 65536, .methodLink RX3 46 yX0_setCorner, .instanceMethod yX0_setCorner, .selects RX0 yX0_setCorner yX0_setCorner, .code yX0_setCorner cX0_setCorner 10 none, .methodLink RL 26 yX3_add, .instanceMethod yX3_add, .selects RX3 yX3_add yX3_add, .code yX3_add cX3_add 3 (some .int), .methodLink RX3 50 yX3_isColour, .static yX3_isColour, .code yX3_isColour cX3_isColour 1 (some .boolean), .constant RX3 110 16777215, .methodLink RX3 54 yX0_area, .instanceMethod yX0_area, .selects RX0 yX0_area yX0_area, .code yX0_area cX0_area 1 (some .long)]
def td_w5 : List Cond := [.methodLink RX3 58 yX1_append, .instanceMethod yX1_append, .selects RX1 yX1_append yX1_append, .code yX1_append cX1_append 5 (some .int), .methodLink RX1 26 yX0_packedCorner, .instanceMethod yX0_packedCorner, .selects RX0 yX0_packedCorner yX0_packedCorner, .code yX0_packedCorner cX0_packedCorner 4 (some .long), .constantLong RX0 27 4096, .constantLong RX0 29 8193, .constantLong RX0 31 1048576, .constantLong RX0 33 65537, .methodLink RL 31 yX3_clear, .instanceMethod yX3_clear, .selects RX3 yX3_clear yX3_clear, .code yX3_clear cX3_clear 1 none, .methodLink RX3 62 yX1_removeAll, .instanceMethod yX1_removeAll, .selects RX1 yX1_removeAll yX1_removeAll, .code yX1_removeAll cX1_removeAll 1 none, .methodLink RL 35 yX3_background, .instanceMethod yX3_background, .selects RX3 yX3_background yX3_background, .code yX3_background cX3_background 2 (some .boolean)]
def td_w6 : List Cond := [.methodLink RL 40 yX3_begin, .instanceMethod yX3_begin, .selects RX3 yX3_begin yX3_begin, .code yX3_begin cX3_begin 1 (some .int), .methodLink RX3 65 yX2_start, .instanceMethod yX2_start, .selects RX2 yX2_start yX2_start, .code yX2_start cX2_start 4 (some .int), .methodLink RX2 68 yX1_copyFrom, .instanceMethod yX1_copyFrom, .selects RX1 yX1_copyFrom yX1_copyFrom, .code yX1_copyFrom cX1_copyFrom 2 none, .methodLink RX1 32 ⟨"java/lang/System", "arraycopy", "(Ljava/lang/Object;ILjava/lang/Object;II)V"⟩, .static ⟨"java/lang/System", "arraycopy", "(Ljava/lang/Object;ILjava/lang/Object;II)V"⟩, .native ⟨"java/lang/System", "arraycopy", "(Ljava/lang/Object;ILjava/lang/Object;II)V"⟩, .methodLink RL 45 yX3_tile, .instanceMethod yX3_tile, .selects RX3 yX3_tile yX3_tile, .code yX3_tile cX3_tile 2 (some .boolean), .methodLink RX3 69 yX2_drawTile, .instanceMethod yX2_drawTile, .selects RX2 yX2_drawTile yX2_drawTile, .code yX2_drawTile cX2_drawTile 3 (some .boolean), .methodLink RX2 76 yX2_frameTile]
def td_w7 : List Cond := [.instanceMethod yX2_frameTile, .code yX2_frameTile cX2_frameTile 4 none, .static yX3_quotient, .code yX3_quotient cX3_quotient 4 (some .long), .methodLink RX3 111 yJ_floorDiv, .static yJ_floorDiv, .code yJ_floorDiv cJ_floorDiv 6 (some .long), .methodLink RX2 93 yJ_min, .methodLink RX2 80 yX2_fillWithBackground, .instanceMethod yX2_fillWithBackground, .code yX2_fillWithBackground cX2_fillWithBackground 3 none, .methodLink RX2 99 yX2_pixelIndex, .instanceMethod yX2_pixelIndex, .selects RX2 yX2_pixelIndex yX2_pixelIndex, .code yX2_pixelIndex cX2_pixelIndex 3 (some .int), .methodLink RX2 86 yX2_drawPiece, .instanceMethod yX2_drawPiece, .code yX2_drawPiece cX2_drawPiece 8 none, .methodLink RX2 102 yX1_unpackTo, .instanceMethod yX1_unpackTo, .selects RX1 yX1_unpackTo yX1_unpackTo, .code yX1_unpackTo cX1_unpackTo 4 none, .methodLink RX1 38 yX0_unpackCorner, .instanceMethod yX0_unpackCorner]
def td_w8 : List Cond := [.selects RX0 yX0_unpackCorner yX0_unpackCorner, .code yX0_unpackCorner cX0_unpackCorner 8 none, .methodLink RX0 35 yX0_setCorner, .methodLink RX2 106 yX0_firstColumn, .instanceMethod yX0_firstColumn, .selects RX0 yX0_firstColumn yX0_firstColumn, .code yX0_firstColumn cX0_firstColumn 1 (some .int), .methodLink RX0 54 yX0_least, .static yX0_least, .code yX0_least cX0_least 1 (some .long), .methodLink RX0 68 yJ_min_, .static yJ_min_, .code yJ_min_ cJ_min_ 4 (some .long), .methodLink RX0 58 yX0_firstMiddle, .static yX0_firstMiddle, .code yX0_firstMiddle cX0_firstMiddle 2 (some .int), .constantLong RX0 76 8, .constantLong RX0 78 16, .methodLink RX2 110 yJ_max, .methodLink RX2 113 yX0_lastColumn, .instanceMethod yX0_lastColumn, .selects RX0 yX0_lastColumn yX0_lastColumn, .code yX0_lastColumn cX0_lastColumn 1 (some .int), .methodLink RX0 62 yX0_most]
def td_w9 : List Cond := [.static yX0_most, .code yX0_most cX0_most 1 (some .long), .methodLink RX0 73 yJ_max_, .static yJ_max_, .code yJ_max_ cJ_max_ 4 (some .long), .methodLink RX0 65 yX0_lastMiddle, .static yX0_lastMiddle, .code yX0_lastMiddle cX0_lastMiddle 2 (some .int), .methodLink RX2 116 yX0_firstRow, .instanceMethod yX0_firstRow, .selects RX0 yX0_firstRow yX0_firstRow, .code yX0_firstRow cX0_firstRow 1 (some .int), .methodLink RX2 119 yX0_lastRow, .instanceMethod yX0_lastRow, .selects RX0 yX0_lastRow yX0_lastRow, .code yX0_lastRow cX0_lastRow 1 (some .int), .methodLink RX2 122 yX0_coversPixel, .instanceMethod yX0_coversPixel, .selects RX0 yX0_coversPixel yX0_coversPixel, .code yX0_coversPixel cX0_coversPixel 12 (some .boolean), .methodLink RX0 39 yX0_ownsItsEdge, .instanceMethod yX0_ownsItsEdge, .code yX0_ownsItsEdge cX0_ownsItsEdge 3 (some .boolean), .methodLink RX2 132 yX2_paint]
def td_w10 : List Cond := [.instanceMethod yX2_paint, .code yX2_paint cX2_paint 6 none, .methodLink RX2 136 yX0_nearnessHere, .instanceMethod yX0_nearnessHere, .selects RX0 yX0_nearnessHere yX0_nearnessHere, .code yX0_nearnessHere cX0_nearnessHere 1 (some .long), .methodLink RX0 43 yX0_weighedR, .instanceMethod yX0_weighedR, .code yX0_weighedR cX0_weighedR 1 (some .long), .methodLink RX0 47 yX0_area, .methodLink RX2 140 yX0_lightHere, .instanceMethod yX0_lightHere, .selects RX0 yX0_lightHere yX0_lightHere, .code yX0_lightHere cX0_lightHere 3 (some .long), .static yX3_litColour, .code yX3_litColour cX3_litColour 7 (some .int), .constantLong RX3 115 65536, .methodLink RX3 117 yX3_quotient, .static yX3_mixedColour, .code yX3_mixedColour cX3_mixedColour 11 (some .int), .constantLong RX3 120 255, .methodLink RL 49 yX3_pixel, .instanceMethod yX3_pixel, .selects RX3 yX3_pixel yX3_pixel]
def td_w11 : List Cond := [.code yX3_pixel cX3_pixel 3 (some .int), .methodLink RX3 72 yX2_isShown, .instanceMethod yX2_isShown, .selects RX2 yX2_isShown yX2_isShown, .code yX2_isShown cX2_isShown 3 (some .boolean), .methodLink RX3 80 yX2_pixelIndex, .methodLink RL 53 yX3_nearness, .instanceMethod yX3_nearness, .selects RX3 yX3_nearness yX3_nearness, .code yX3_nearness cX3_nearness 3 (some .int), .methodLink RL 57 yX3_count, .instanceMethod yX3_count, .selects RX3 yX3_count yX3_count, .code yX3_count cX3_count 2 (some .int), .methodLink RL 9 yL_cell, .static yL_cell, .code yL_cell cL_cell 2 (some .int), .classLink RL 18 RX4, .instantiable RX4 11, .methodLink RL 20 yX4_init, .instanceMethod yX4_init, .code yX4_init cX4_init 4 none, .methodLink RX4 1 objectInit, .fieldLink RX4 30 "TileDeskModel" "thrown" "I"]
def td_w12 : List Cond := [.fieldLink RX4 23 "TileDeskModel" "width" "I", .fieldLink RX4 27 "TileDeskModel" "height" "I", .fieldLink RX4 40 "TileDeskModel" "many" "I", .fieldLink RX4 7 "TileDeskModel" "pieces" "[I", .fieldLink RX4 51 "TileDeskModel" "background" "I", .fieldLink RX4 76 "TileDeskModel" "begun" "Z", .fieldLink RX4 80 "TileDeskModel" "took" "I", .fieldLink RX4 13 "TileDeskModel" "colours" "[I", .fieldLink RX4 16 "TileDeskModel" "nears" "[I", .fieldLink RX4 19 "TileDeskModel" "done" "[Z", .methodLink RL 25 yX4_corner, .instanceMethod yX4_corner, .selects RX4 yX4_corner yX4_corner, .code yX4_corner cX4_corner 7 (some .boolean), .constant RX4 33 1048576, .constant RX4 34 65536, .methodLink RL 30 yX4_add, .instanceMethod yX4_add, .selects RX4 yX4_add yX4_add, .code yX4_add cX4_add 4 (some .int), .methodLink RX4 43 yX4_area, .instanceMethod yX4_area, .code yX4_area cX4_area 2 (some .long), .methodLink RX4 35 yX4_edge]
def td_w13 : List Cond := [.instanceMethod yX4_edge, .code yX4_edge cX4_edge 7 (some .long), .methodLink RX4 47 yX4_isColour, .static yX4_isColour, .code yX4_isColour cX4_isColour 1 (some .boolean), .constant RX4 39 16777216, .methodLink RL 34 yX4_clear, .instanceMethod yX4_clear, .selects RX4 yX4_clear yX4_clear, .code yX4_clear cX4_clear 1 none, .methodLink RL 39 yX4_background, .instanceMethod yX4_background, .selects RX4 yX4_background yX4_background, .code yX4_background cX4_background 2 (some .boolean), .methodLink RL 44 yX4_begin, .instanceMethod yX4_begin, .selects RX4 yX4_begin yX4_begin, .code yX4_begin cX4_begin 5 (some .int), .methodLink RX4 83 yX4_draw, .instanceMethod yX4_draw, .code yX4_draw cX4_draw 21 none, .constantLong RX4 60 16, .constantLong RX4 62 8, .methodLink RX4 64 yX4_holds]
def td_w14 : List Cond := [.instanceMethod yX4_holds, .code yX4_holds cX4_holds 10 (some .boolean), .methodLink RX4 68 yX4_over, .static yX4_over, .code yX4_over cX4_over 9 (some .int), .methodLink RX4 54 yX4_part, .static yX4_part, .code yX4_part cX4_part 2 (some .int), .constantLong RX4 58 65536, .methodLink RX4 87 yX4_tiles, .instanceMethod yX4_tiles, .code yX4_tiles cX4_tiles 1 (some .int), .methodLink RX4 72 yX4_columns, .instanceMethod yX4_columns, .code yX4_columns cX4_columns 1 (some .int), .methodLink RL 48 yX4_tile, .instanceMethod yX4_tile, .selects RX4 yX4_tile yX4_tile, .code yX4_tile cX4_tile 2 (some .boolean), .methodLink RL 52 yX4_pixel, .instanceMethod yX4_pixel, .selects RX4 yX4_pixel yX4_pixel, .code yX4_pixel cX4_pixel 3 (some .int), .methodLink RX4 90 yX4_isSeen]
def td_w15 : List Cond := [.instanceMethod yX4_isSeen, .code yX4_isSeen cX4_isSeen 3 (some .boolean), .methodLink RL 56 yX4_nearness, .instanceMethod yX4_nearness, .selects RX4 yX4_nearness yX4_nearness, .code yX4_nearness cX4_nearness 3 (some .int), .methodLink RL 61 yX4_count, .instanceMethod yX4_count, .selects RX4 yX4_count yX4_count, .code yX4_count cX4_count 4 (some .int), .selects RX2 yX2_frameTile yX2_frameTile, .selects RX2 yX2_fillWithBackground yX2_fillWithBackground, .selects RX2 yX2_drawPiece yX2_drawPiece, .selects RX0 yX0_ownsItsEdge yX0_ownsItsEdge, .selects RX2 yX2_paint yX2_paint, .selects RX0 yX0_weighedR yX0_weighedR, .selects RX4 yX4_area yX4_area, .selects RX4 yX4_edge yX4_edge, .selects RX4 yX4_draw yX4_draw, .selects RX4 yX4_holds yX4_holds, .selects RX4 yX4_tiles yX4_tiles, .selects RX4 yX4_columns yX4_columns, .selects RX4 yX4_isSeen yX4_isSeen]
def td_all : List Cond := td_w0 ++ (td_w1 ++ (td_w2 ++ (td_w3 ++ (td_w4 ++ (td_w5 ++ (td_w6 ++ (td_w7 ++ (td_w8 ++ (td_w9 ++ (td_w10 ++ (td_w11 ++ (td_w12 ++ (td_w13 ++ (td_w14 ++ (td_w15 ++ (u_ws RX0 TX0 5 ++ (u_ws RX1 TX1 4 ++ (u_ws RX2 TX2 15 ++ (u_ws RX3 TX3 4 ++ (u_ws RX4 TX4 11))))))))))))))))))))
theorem td_i0 {w c0 : Cond} (h : w ∈ td_w0) : w ∈ c0 :: td_all := List.mem_cons_of_mem _ (show w ∈ td_all from List.mem_append_left _ (h))
theorem td_i1 {w c0 : Cond} (h : w ∈ td_w1) : w ∈ c0 :: td_all := List.mem_cons_of_mem _ (show w ∈ td_all from List.mem_append_right _ (List.mem_append_left _ (h)))
theorem td_i2 {w c0 : Cond} (h : w ∈ td_w2) : w ∈ c0 :: td_all := List.mem_cons_of_mem _ (show w ∈ td_all from List.mem_append_right _ (List.mem_append_right _ (List.mem_append_left _ (h))))
theorem td_i3 {w c0 : Cond} (h : w ∈ td_w3) : w ∈ c0 :: td_all := List.mem_cons_of_mem _ (show w ∈ td_all from List.mem_append_right _ (List.mem_append_right _ (List.mem_append_right _ (List.mem_append_left _ (h)))))
theorem td_i4 {w c0 : Cond} (h : w ∈ td_w4) : w ∈ c0 :: td_all := List.mem_cons_of_mem _ (show w ∈ td_all from List.mem_append_right _ (List.mem_append_right _ (List.mem_append_right _ (List.mem_append_right _ (List.mem_append_left _ (h))))))
theorem td_i5 {w c0 : Cond} (h : w ∈ td_w5) : w ∈ c0 :: td_all := List.mem_cons_of_mem _ (show w ∈ td_all from List.mem_append_right _ (List.mem_append_right _ (List.mem_append_right _ (List.mem_append_right _ (List.mem_append_right _ (List.mem_append_left _ (h)))))))
theorem td_i6 {w c0 : Cond} (h : w ∈ td_w6) : w ∈ c0 :: td_all := List.mem_cons_of_mem _ (show w ∈ td_all from List.mem_append_right _ (List.mem_append_right _ (List.mem_append_right _ (List.mem_append_right _ (List.mem_append_right _ (List.mem_append_right _ (List.mem_append_left _ (h))))))))
theorem td_i7 {w c0 : Cond} (h : w ∈ td_w7) : w ∈ c0 :: td_all := List.mem_cons_of_mem _ (show w ∈ td_all from List.mem_append_right _ (List.mem_append_right _ (List.mem_append_right _ (List.mem_append_right _ (List.mem_append_right _ (List.mem_append_right _ (List.mem_append_right _ (List.mem_append_left _ (h)))))))))
theorem td_i8 {w c0 : Cond} (h : w ∈ td_w8) : w ∈ c0 :: td_all := List.mem_cons_of_mem _ (show w ∈ td_all from List.mem_append_right _ (List.mem_append_right _ (List.mem_append_right _ (List.mem_append_right _ (List.mem_append_right _ (List.mem_append_right _ (List.mem_append_right _ (List.mem_append_right _ (List.mem_append_left _ (h))))))))))
theorem td_i9 {w c0 : Cond} (h : w ∈ td_w9) : w ∈ c0 :: td_all := List.mem_cons_of_mem _ (show w ∈ td_all from List.mem_append_right _ (List.mem_append_right _ (List.mem_append_right _ (List.mem_append_right _ (List.mem_append_right _ (List.mem_append_right _ (List.mem_append_right _ (List.mem_append_right _ (List.mem_append_right _ (List.mem_append_left _ (h)))))))))))
theorem td_i10 {w c0 : Cond} (h : w ∈ td_w10) : w ∈ c0 :: td_all := List.mem_cons_of_mem _ (show w ∈ td_all from List.mem_append_right _ (List.mem_append_right _ (List.mem_append_right _ (List.mem_append_right _ (List.mem_append_right _ (List.mem_append_right _ (List.mem_append_right _ (List.mem_append_right _ (List.mem_append_right _ (List.mem_append_right _ (List.mem_append_left _ (h))))))))))))
theorem td_i11 {w c0 : Cond} (h : w ∈ td_w11) : w ∈ c0 :: td_all := List.mem_cons_of_mem _ (show w ∈ td_all from List.mem_append_right _ (List.mem_append_right _ (List.mem_append_right _ (List.mem_append_right _ (List.mem_append_right _ (List.mem_append_right _ (List.mem_append_right _ (List.mem_append_right _ (List.mem_append_right _ (List.mem_append_right _ (List.mem_append_right _ (List.mem_append_left _ (h)))))))))))))
theorem td_i12 {w c0 : Cond} (h : w ∈ td_w12) : w ∈ c0 :: td_all := List.mem_cons_of_mem _ (show w ∈ td_all from List.mem_append_right _ (List.mem_append_right _ (List.mem_append_right _ (List.mem_append_right _ (List.mem_append_right _ (List.mem_append_right _ (List.mem_append_right _ (List.mem_append_right _ (List.mem_append_right _ (List.mem_append_right _ (List.mem_append_right _ (List.mem_append_right _ (List.mem_append_left _ (h))))))))))))))
theorem td_i13 {w c0 : Cond} (h : w ∈ td_w13) : w ∈ c0 :: td_all := List.mem_cons_of_mem _ (show w ∈ td_all from List.mem_append_right _ (List.mem_append_right _ (List.mem_append_right _ (List.mem_append_right _ (List.mem_append_right _ (List.mem_append_right _ (List.mem_append_right _ (List.mem_append_right _ (List.mem_append_right _ (List.mem_append_right _ (List.mem_append_right _ (List.mem_append_right _ (List.mem_append_right _ (List.mem_append_left _ (h)))))))))))))))
theorem td_i14 {w c0 : Cond} (h : w ∈ td_w14) : w ∈ c0 :: td_all := List.mem_cons_of_mem _ (show w ∈ td_all from List.mem_append_right _ (List.mem_append_right _ (List.mem_append_right _ (List.mem_append_right _ (List.mem_append_right _ (List.mem_append_right _ (List.mem_append_right _ (List.mem_append_right _ (List.mem_append_right _ (List.mem_append_right _ (List.mem_append_right _ (List.mem_append_right _ (List.mem_append_right _ (List.mem_append_right _ (List.mem_append_left _ (h))))))))))))))))
theorem td_i15 {w c0 : Cond} (h : w ∈ td_w15) : w ∈ c0 :: td_all := List.mem_cons_of_mem _ (show w ∈ td_all from List.mem_append_right _ (List.mem_append_right _ (List.mem_append_right _ (List.mem_append_right _ (List.mem_append_right _ (List.mem_append_right _ (List.mem_append_right _ (List.mem_append_right _ (List.mem_append_right _ (List.mem_append_right _ (List.mem_append_right _ (List.mem_append_right _ (List.mem_append_right _ (List.mem_append_right _ (List.mem_append_right _ (List.mem_append_left _ (h)))))))))))))))))
theorem td_i16 {w c0 : Cond} (h : w ∈ u_ws RX0 TX0 5) : w ∈ c0 :: td_all := List.mem_cons_of_mem _ (show w ∈ td_all from List.mem_append_right _ (List.mem_append_right _ (List.mem_append_right _ (List.mem_append_right _ (List.mem_append_right _ (List.mem_append_right _ (List.mem_append_right _ (List.mem_append_right _ (List.mem_append_right _ (List.mem_append_right _ (List.mem_append_right _ (List.mem_append_right _ (List.mem_append_right _ (List.mem_append_right _ (List.mem_append_right _ (List.mem_append_right _ (List.mem_append_left _ (h))))))))))))))))))
theorem td_i17 {w c0 : Cond} (h : w ∈ u_ws RX1 TX1 4) : w ∈ c0 :: td_all := List.mem_cons_of_mem _ (show w ∈ td_all from List.mem_append_right _ (List.mem_append_right _ (List.mem_append_right _ (List.mem_append_right _ (List.mem_append_right _ (List.mem_append_right _ (List.mem_append_right _ (List.mem_append_right _ (List.mem_append_right _ (List.mem_append_right _ (List.mem_append_right _ (List.mem_append_right _ (List.mem_append_right _ (List.mem_append_right _ (List.mem_append_right _ (List.mem_append_right _ (List.mem_append_right _ (List.mem_append_left _ (h)))))))))))))))))))
theorem td_i18 {w c0 : Cond} (h : w ∈ u_ws RX2 TX2 15) : w ∈ c0 :: td_all := List.mem_cons_of_mem _ (show w ∈ td_all from List.mem_append_right _ (List.mem_append_right _ (List.mem_append_right _ (List.mem_append_right _ (List.mem_append_right _ (List.mem_append_right _ (List.mem_append_right _ (List.mem_append_right _ (List.mem_append_right _ (List.mem_append_right _ (List.mem_append_right _ (List.mem_append_right _ (List.mem_append_right _ (List.mem_append_right _ (List.mem_append_right _ (List.mem_append_right _ (List.mem_append_right _ (List.mem_append_right _ (List.mem_append_left _ (h))))))))))))))))))))
theorem td_i19 {w c0 : Cond} (h : w ∈ u_ws RX3 TX3 4) : w ∈ c0 :: td_all := List.mem_cons_of_mem _ (show w ∈ td_all from List.mem_append_right _ (List.mem_append_right _ (List.mem_append_right _ (List.mem_append_right _ (List.mem_append_right _ (List.mem_append_right _ (List.mem_append_right _ (List.mem_append_right _ (List.mem_append_right _ (List.mem_append_right _ (List.mem_append_right _ (List.mem_append_right _ (List.mem_append_right _ (List.mem_append_right _ (List.mem_append_right _ (List.mem_append_right _ (List.mem_append_right _ (List.mem_append_right _ (List.mem_append_right _ (List.mem_append_left _ (h)))))))))))))))))))))
theorem td_i20 {w c0 : Cond} (h : w ∈ u_ws RX4 TX4 11) : w ∈ c0 :: td_all := List.mem_cons_of_mem _ (show w ∈ td_all from List.mem_append_right _ (List.mem_append_right _ (List.mem_append_right _ (List.mem_append_right _ (List.mem_append_right _ (List.mem_append_right _ (List.mem_append_right _ (List.mem_append_right _ (List.mem_append_right _ (List.mem_append_right _ (List.mem_append_right _ (List.mem_append_right _ (List.mem_append_right _ (List.mem_append_right _ (List.mem_append_right _ (List.mem_append_right _ (List.mem_append_right _ (List.mem_append_right _ (List.mem_append_right _ (List.mem_append_right _ (h)))))))))))))))))))))
theorem td_fX0 {c0 : Cond} : ∀ w ∈ u_ws RX0 TX0 5, w ∈ c0 :: td_all := fun _ h => td_i16 h
theorem td_fX1 {c0 : Cond} : ∀ w ∈ u_ws RX1 TX1 4, w ∈ c0 :: td_all := fun _ h => td_i17 h
theorem td_fX2 {c0 : Cond} : ∀ w ∈ u_ws RX2 TX2 15, w ∈ c0 :: td_all := fun _ h => td_i18 h
theorem td_fX3 {c0 : Cond} : ∀ w ∈ u_ws RX3 TX3 4, w ∈ c0 :: td_all := fun _ h => td_i19 h
theorem td_fX4 {c0 : Cond} : ∀ w ∈ u_ws RX4 TX4 11, w ∈ c0 :: td_all := fun _ h => td_i20 h
set_option maxRecDepth 20000 in
theorem td_t0 : ∀ w ∈ td_w0, w ∈ lw_tbl := List.forall_mem_cons.mpr ⟨List.mem_append_right _ (List.mem_append_left _ (List.mem_of_getElem? (i := 38) rfl)), List.forall_mem_cons.mpr ⟨List.mem_append_right _ (List.mem_append_left _ (List.mem_of_getElem? (i := 62) rfl)), List.forall_mem_cons.mpr ⟨List.mem_append_right _ (List.mem_append_left _ (List.mem_of_getElem? (i := 134) rfl)), fun _ h => absurd h List.not_mem_nil⟩⟩⟩
set_option maxRecDepth 20000 in
theorem td_t1 : ∀ w ∈ td_w1, w ∈ lw_tbl := List.forall_mem_cons.mpr ⟨List.mem_append_right _ (List.mem_append_left _ (List.mem_of_getElem? (i := 0) rfl)), List.forall_mem_cons.mpr ⟨List.mem_append_right _ (List.mem_append_left _ (List.mem_of_getElem? (i := 1) rfl)), List.forall_mem_cons.mpr ⟨List.mem_append_right _ (List.mem_append_left _ (List.mem_of_getElem? (i := 2) rfl)), List.forall_mem_cons.mpr ⟨List.mem_append_right _ (List.mem_append_left _ (List.mem_of_getElem? (i := 3) rfl)), List.forall_mem_cons.mpr ⟨List.mem_append_right _ (List.mem_append_left _ (List.mem_of_getElem? (i := 4) rfl)), List.forall_mem_cons.mpr ⟨List.mem_append_right _ (List.mem_append_left _ (List.mem_of_getElem? (i := 5) rfl)), List.forall_mem_cons.mpr ⟨List.mem_append_right _ (List.mem_append_left _ (List.mem_of_getElem? (i := 6) rfl)), List.forall_mem_cons.mpr ⟨List.mem_append_right _ (List.mem_append_left _ (List.mem_of_getElem? (i := 7) rfl)), List.forall_mem_cons.mpr ⟨List.mem_append_right _ (List.mem_append_left _ (List.mem_of_getElem? (i := 8) rfl)), List.forall_mem_cons.mpr ⟨List.mem_append_right _ (List.mem_append_left _ (List.mem_of_getElem? (i := 9) rfl)), List.forall_mem_cons.mpr ⟨List.mem_append_right _ (List.mem_append_left _ (List.mem_of_getElem? (i := 10) rfl)), List.forall_mem_cons.mpr ⟨List.mem_append_right _ (List.mem_append_left _ (List.mem_of_getElem? (i := 11) rfl)), List.forall_mem_cons.mpr ⟨List.mem_append_right _ (List.mem_append_left _ (List.mem_of_getElem? (i := 12) rfl)), List.forall_mem_cons.mpr ⟨List.mem_append_right _ (List.mem_append_left _ (List.mem_of_getElem? (i := 13) rfl)), List.forall_mem_cons.mpr ⟨List.mem_append_right _ (List.mem_append_left _ (List.mem_of_getElem? (i := 14) rfl)), List.forall_mem_cons.mpr ⟨List.mem_append_right _ (List.mem_append_left _ (List.mem_of_getElem? (i := 15) rfl)), List.forall_mem_cons.mpr ⟨List.mem_append_right _ (List.mem_append_left _ (List.mem_of_getElem? (i := 16) rfl)), List.forall_mem_cons.mpr ⟨List.mem_append_right _ (List.mem_append_left _ (List.mem_of_getElem? (i := 17) rfl)), List.forall_mem_cons.mpr ⟨List.mem_append_right _ (List.mem_append_left _ (List.mem_of_getElem? (i := 19) rfl)), List.forall_mem_cons.mpr ⟨List.mem_append_right _ (List.mem_append_left _ (List.mem_of_getElem? (i := 20) rfl)), List.forall_mem_cons.mpr ⟨List.mem_append_right _ (List.mem_append_left _ (List.mem_of_getElem? (i := 21) rfl)), List.forall_mem_cons.mpr ⟨List.mem_append_right _ (List.mem_append_left _ (List.mem_of_getElem? (i := 22) rfl)), List.forall_mem_cons.mpr ⟨List.mem_append_right _ (List.mem_append_left _ (List.mem_of_getElem? (i := 23) rfl)), List.forall_mem_cons.mpr ⟨List.mem_append_right _ (List.mem_append_left _ (List.mem_of_getElem? (i := 24) rfl)), fun _ h => absurd h List.not_mem_nil⟩⟩⟩⟩⟩⟩⟩⟩⟩⟩⟩⟩⟩⟩⟩⟩⟩⟩⟩⟩⟩⟩⟩⟩
set_option maxRecDepth 20000 in
theorem td_t2 : ∀ w ∈ td_w2, w ∈ lw_tbl := List.forall_mem_cons.mpr ⟨List.mem_append_right _ (List.mem_append_left _ (List.mem_of_getElem? (i := 25) rfl)), List.forall_mem_cons.mpr ⟨List.mem_append_right _ (List.mem_append_left _ (List.mem_of_getElem? (i := 26) rfl)), List.forall_mem_cons.mpr ⟨List.mem_append_right _ (List.mem_append_left _ (List.mem_of_getElem? (i := 39) rfl)), List.forall_mem_cons.mpr ⟨List.mem_append_right _ (List.mem_append_left _ (List.mem_of_getElem? (i := 40) rfl)), List.forall_mem_cons.mpr ⟨List.mem_append_right _ (List.mem_append_left _ (List.mem_of_getElem? (i := 42) rfl)), List.forall_mem_cons.mpr ⟨List.mem_append_right _ (List.mem_append_left _ (List.mem_of_getElem? (i := 43) rfl)), List.forall_mem_cons.mpr ⟨List.mem_append_right _ (List.mem_append_left _ (List.mem_of_getElem? (i := 44) rfl)), List.forall_mem_cons.mpr ⟨List.mem_append_right _ (List.mem_append_left _ (List.mem_of_getElem? (i := 45) rfl)), List.forall_mem_cons.mpr ⟨List.mem_append_right _ (List.mem_append_left _ (List.mem_of_getElem? (i := 46) rfl)), List.forall_mem_cons.mpr ⟨List.mem_append_right _ (List.mem_append_left _ (List.mem_of_getElem? (i := 48) rfl)), List.forall_mem_cons.mpr ⟨List.mem_append_right _ (List.mem_append_left _ (List.mem_of_getElem? (i := 50) rfl)), List.forall_mem_cons.mpr ⟨List.mem_append_right _ (List.mem_append_left _ (List.mem_of_getElem? (i := 63) rfl)), List.forall_mem_cons.mpr ⟨List.mem_append_right _ (List.mem_append_left _ (List.mem_of_getElem? (i := 64) rfl)), List.forall_mem_cons.mpr ⟨List.mem_append_right _ (List.mem_append_left _ (List.mem_of_getElem? (i := 65) rfl)), List.forall_mem_cons.mpr ⟨List.mem_append_right _ (List.mem_append_left _ (List.mem_of_getElem? (i := 66) rfl)), List.forall_mem_cons.mpr ⟨List.mem_append_right _ (List.mem_append_left _ (List.mem_of_getElem? (i := 67) rfl)), List.forall_mem_cons.mpr ⟨List.mem_append_right _ (List.mem_append_left _ (List.mem_of_getElem? (i := 68) rfl)), List.forall_mem_cons.mpr ⟨List.mem_append_right _ (List.mem_append_left _ (List.mem_of_getElem? (i := 69) rfl)), List.forall_mem_cons.mpr ⟨List.mem_append_right _ (List.mem_append_left _ (List.mem_of_getElem? (i := 70) rfl)), List.forall_mem_cons.mpr ⟨List.mem_append_right _ (List.mem_append_left _ (List.mem_of_getElem? (i := 71) rfl)), List.forall_mem_cons.mpr ⟨List.mem_append_right _ (List.mem_append_left _ (List.mem_of_getElem? (i := 72) rfl)), List.forall_mem_cons.mpr ⟨List.mem_append_right _ (List.mem_append_left _ (List.mem_of_getElem? (i := 73) rfl)), List.forall_mem_cons.mpr ⟨List.mem_append_right _ (List.mem_append_left _ (List.mem_of_getElem? (i := 74) rfl)), List.forall_mem_cons.mpr ⟨List.mem_append_right _ (List.mem_append_left _ (List.mem_of_getElem? (i := 75) rfl)), fun _ h => absurd h List.not_mem_nil⟩⟩⟩⟩⟩⟩⟩⟩⟩⟩⟩⟩⟩⟩⟩⟩⟩⟩⟩⟩⟩⟩⟩⟩
set_option maxRecDepth 20000 in
theorem td_t3 : ∀ w ∈ td_w3, w ∈ lw_tbl := List.forall_mem_cons.mpr ⟨List.mem_append_right _ (List.mem_append_left _ (List.mem_of_getElem? (i := 76) rfl)), List.forall_mem_cons.mpr ⟨List.mem_append_right _ (List.mem_append_left _ (List.mem_of_getElem? (i := 77) rfl)), List.forall_mem_cons.mpr ⟨List.mem_append_right _ (List.mem_append_left _ (List.mem_of_getElem? (i := 78) rfl)), List.forall_mem_cons.mpr ⟨List.mem_append_right _ (List.mem_append_left _ (List.mem_of_getElem? (i := 80) rfl)), List.forall_mem_cons.mpr ⟨List.mem_append_right _ (List.mem_append_left _ (List.mem_of_getElem? (i := 82) rfl)), List.forall_mem_cons.mpr ⟨List.mem_append_right _ (List.mem_append_left _ (List.mem_of_getElem? (i := 84) rfl)), List.forall_mem_cons.mpr ⟨List.mem_append_right _ (List.mem_append_left _ (List.mem_of_getElem? (i := 86) rfl)), List.forall_mem_cons.mpr ⟨List.mem_append_right _ (List.mem_append_left _ (List.mem_of_getElem? (i := 87) rfl)), List.forall_mem_cons.mpr ⟨List.mem_append_right _ (List.mem_append_left _ (List.mem_of_getElem? (i := 89) rfl)), List.forall_mem_cons.mpr ⟨List.mem_append_right _ (List.mem_append_left _ (List.mem_of_getElem? (i := 91) rfl)), List.forall_mem_cons.mpr ⟨List.mem_append_right _ (List.mem_append_left _ (List.mem_of_getElem? (i := 92) rfl)), List.forall_mem_cons.mpr ⟨List.mem_append_right _ (List.mem_append_left _ (List.mem_of_getElem? (i := 94) rfl)), List.forall_mem_cons.mpr ⟨List.mem_append_right _ (List.mem_append_left _ (List.mem_of_getElem? (i := 95) rfl)), List.forall_mem_cons.mpr ⟨List.mem_append_right _ (List.mem_append_left _ (List.mem_of_getElem? (i := 96) rfl)), List.forall_mem_cons.mpr ⟨List.mem_append_right _ (List.mem_append_left _ (List.mem_of_getElem? (i := 97) rfl)), List.forall_mem_cons.mpr ⟨List.mem_append_right _ (List.mem_append_left _ (List.mem_of_getElem? (i := 99) rfl)), List.forall_mem_cons.mpr ⟨List.mem_append_right _ (List.mem_append_left _ (List.mem_of_getElem? (i := 100) rfl)), List.forall_mem_cons.mpr ⟨List.mem_append_right _ (List.mem_append_left _ (List.mem_of_getElem? (i := 101) rfl)), List.forall_mem_cons.mpr ⟨List.mem_append_right _ (List.mem_append_left _ (List.mem_of_getElem? (i := 102) rfl)), List.forall_mem_cons.mpr ⟨List.mem_append_right _ (List.mem_append_left _ (List.mem_of_getElem? (i := 135) rfl)), List.forall_mem_cons.mpr ⟨List.mem_append_right _ (List.mem_append_left _ (List.mem_of_getElem? (i := 136) rfl)), List.forall_mem_cons.mpr ⟨List.mem_append_right _ (List.mem_append_left _ (List.mem_of_getElem? (i := 137) rfl)), List.forall_mem_cons.mpr ⟨List.mem_append_right _ (List.mem_append_left _ (List.mem_of_getElem? (i := 138) rfl)), List.forall_mem_cons.mpr ⟨List.mem_append_right _ (List.mem_append_left _ (List.mem_of_getElem? (i := 148) rfl)), fun _ h => absurd h List.not_mem_nil⟩⟩⟩⟩⟩⟩⟩⟩⟩⟩⟩⟩⟩⟩⟩⟩⟩⟩⟩⟩⟩⟩⟩⟩
set_option maxRecDepth 20000 in
theorem td_t4 : ∀ w ∈ td_w4, w ∈ lw_tbl := List.forall_mem_cons.mpr ⟨List.mem_append_right _ (List.mem_append_left _ (List.mem_of_getElem? (i := 149) rfl)), List.forall_mem_cons.mpr ⟨List.mem_append_right _ (List.mem_append_left _ (List.mem_of_getElem? (i := 150) rfl)), List.forall_mem_cons.mpr ⟨List.mem_append_right _ (List.mem_append_left _ (List.mem_of_getElem? (i := 151) rfl)), List.forall_mem_cons.mpr ⟨List.mem_append_right _ (List.mem_append_left _ (List.mem_of_getElem? (i := 152) rfl)), List.forall_mem_cons.mpr ⟨List.mem_append_right _ (List.mem_append_left _ (List.mem_of_getElem? (i := 153) rfl)), List.forall_mem_cons.mpr ⟨List.mem_append_right _ (List.mem_append_left _ (List.mem_of_getElem? (i := 154) rfl)), List.forall_mem_cons.mpr ⟨List.mem_append_right _ (List.mem_append_left _ (List.mem_of_getElem? (i := 155) rfl)), List.forall_mem_cons.mpr ⟨List.mem_append_right _ (List.mem_append_left _ (List.mem_of_getElem? (i := 156) rfl)), List.forall_mem_cons.mpr ⟨List.mem_append_right _ (List.mem_append_left _ (List.mem_of_getElem? (i := 157) rfl)), List.forall_mem_cons.mpr ⟨List.mem_append_right _ (List.mem_append_left _ (List.mem_of_getElem? (i := 158) rfl)), List.forall_mem_cons.mpr ⟨List.mem_append_right _ (List.mem_append_left _ (List.mem_of_getElem? (i := 159) rfl)), List.forall_mem_cons.mpr ⟨List.mem_append_right _ (List.mem_append_left _ (List.mem_of_getElem? (i := 160) rfl)), List.forall_mem_cons.mpr ⟨List.mem_append_right _ (List.mem_append_left _ (List.mem_of_getElem? (i := 161) rfl)), List.forall_mem_cons.mpr ⟨List.mem_append_right _ (List.mem_append_left _ (List.mem_of_getElem? (i := 162) rfl)), List.forall_mem_cons.mpr ⟨List.mem_append_right _ (List.mem_append_left _ (List.mem_of_getElem? (i := 163) rfl)), List.forall_mem_cons.mpr ⟨List.mem_append_right _ (List.mem_append_left _ (List.mem_of_getElem? (i := 164) rfl)), List.forall_mem_cons.mpr ⟨List.mem_append_right _ (List.mem_append_left _ (List.mem_of_getElem? (i := 165) rfl)), List.forall_mem_cons.mpr ⟨List.mem_append_right _ (List.mem_append_left _ (List.mem_of_getElem? (i := 166) rfl)), List.forall_mem_cons.mpr ⟨List.mem_append_right _ (List.mem_append_left _ (List.mem_of_getElem? (i := 167) rfl)), List.forall_mem_cons.mpr ⟨List.mem_append_right _ (List.mem_append_left _ (List.mem_of_getElem? (i := 168) rfl)), List.forall_mem_cons.mpr ⟨List.mem_append_right _ (List.mem_append_left _ (List.mem_of_getElem? (i := 169) rfl)), List.forall_mem_cons.mpr ⟨List.mem_append_right _ (List.mem_append_left _ (List.mem_of_getElem? (i := 170) rfl)), List.forall_mem_cons.mpr ⟨List.mem_append_right _ (List.mem_append_left _ (List.mem_of_getElem? (i := 171) rfl)), List.forall_mem_cons.mpr ⟨List.mem_append_right _ (List.mem_append_left _ (List.mem_of_getElem? (i := 172) rfl)), fun _ h => absurd h List.not_mem_nil⟩⟩⟩⟩⟩⟩⟩⟩⟩⟩⟩⟩⟩⟩⟩⟩⟩⟩⟩⟩⟩⟩⟩⟩
set_option maxRecDepth 20000 in
theorem td_t5 : ∀ w ∈ td_w5, w ∈ lw_tbl := List.forall_mem_cons.mpr ⟨List.mem_append_right _ (List.mem_append_left _ (List.mem_of_getElem? (i := 173) rfl)), List.forall_mem_cons.mpr ⟨List.mem_append_right _ (List.mem_append_left _ (List.mem_of_getElem? (i := 174) rfl)), List.forall_mem_cons.mpr ⟨List.mem_append_right _ (List.mem_append_left _ (List.mem_of_getElem? (i := 175) rfl)), List.forall_mem_cons.mpr ⟨List.mem_append_right _ (List.mem_append_left _ (List.mem_of_getElem? (i := 176) rfl)), List.forall_mem_cons.mpr ⟨List.mem_append_right _ (List.mem_append_left _ (List.mem_of_getElem? (i := 177) rfl)), List.forall_mem_cons.mpr ⟨List.mem_append_right _ (List.mem_append_left _ (List.mem_of_getElem? (i := 178) rfl)), List.forall_mem_cons.mpr ⟨List.mem_append_right _ (List.mem_append_left _ (List.mem_of_getElem? (i := 179) rfl)), List.forall_mem_cons.mpr ⟨List.mem_append_right _ (List.mem_append_left _ (List.mem_of_getElem? (i := 180) rfl)), List.forall_mem_cons.mpr ⟨List.mem_append_right _ (List.mem_append_left _ (List.mem_of_getElem? (i := 181) rfl)), List.forall_mem_cons.mpr ⟨List.mem_append_right _ (List.mem_append_left _ (List.mem_of_getElem? (i := 182) rfl)), List.forall_mem_cons.mpr ⟨List.mem_append_right _ (List.mem_append_left _ (List.mem_of_getElem? (i := 183) rfl)), List.forall_mem_cons.mpr ⟨List.mem_append_right _ (List.mem_append_left _ (List.mem_of_getElem? (i := 184) rfl)), List.forall_mem_cons.mpr ⟨List.mem_append_right _ (List.mem_append_left _ (List.mem_of_getElem? (i := 185) rfl)), List.forall_mem_cons.mpr ⟨List.mem_append_right _ (List.mem_append_left _ (List.mem_of_getElem? (i := 186) rfl)), List.forall_mem_cons.mpr ⟨List.mem_append_right _ (List.mem_append_left _ (List.mem_of_getElem? (i := 187) rfl)), List.forall_mem_cons.mpr ⟨List.mem_append_right _ (List.mem_append_left _ (List.mem_of_getElem? (i := 188) rfl)), List.forall_mem_cons.mpr ⟨List.mem_append_right _ (List.mem_append_left _ (List.mem_of_getElem? (i := 189) rfl)), List.forall_mem_cons.mpr ⟨List.mem_append_right _ (List.mem_append_left _ (List.mem_of_getElem? (i := 190) rfl)), List.forall_mem_cons.mpr ⟨List.mem_append_right _ (List.mem_append_left _ (List.mem_of_getElem? (i := 191) rfl)), List.forall_mem_cons.mpr ⟨List.mem_append_right _ (List.mem_append_left _ (List.mem_of_getElem? (i := 192) rfl)), List.forall_mem_cons.mpr ⟨List.mem_append_right _ (List.mem_append_left _ (List.mem_of_getElem? (i := 193) rfl)), List.forall_mem_cons.mpr ⟨List.mem_append_right _ (List.mem_append_left _ (List.mem_of_getElem? (i := 194) rfl)), List.forall_mem_cons.mpr ⟨List.mem_append_right _ (List.mem_append_left _ (List.mem_of_getElem? (i := 195) rfl)), List.forall_mem_cons.mpr ⟨List.mem_append_right _ (List.mem_append_left _ (List.mem_of_getElem? (i := 196) rfl)), fun _ h => absurd h List.not_mem_nil⟩⟩⟩⟩⟩⟩⟩⟩⟩⟩⟩⟩⟩⟩⟩⟩⟩⟩⟩⟩⟩⟩⟩⟩
set_option maxRecDepth 20000 in
theorem td_t6 : ∀ w ∈ td_w6, w ∈ lw_tbl := List.forall_mem_cons.mpr ⟨List.mem_append_right _ (List.mem_append_left _ (List.mem_of_getElem? (i := 197) rfl)), List.forall_mem_cons.mpr ⟨List.mem_append_right _ (List.mem_append_left _ (List.mem_of_getElem? (i := 198) rfl)), List.forall_mem_cons.mpr ⟨List.mem_append_right _ (List.mem_append_left _ (List.mem_of_getElem? (i := 199) rfl)), List.forall_mem_cons.mpr ⟨List.mem_append_right _ (List.mem_append_left _ (List.mem_of_getElem? (i := 200) rfl)), List.forall_mem_cons.mpr ⟨List.mem_append_right _ (List.mem_append_left _ (List.mem_of_getElem? (i := 201) rfl)), List.forall_mem_cons.mpr ⟨List.mem_append_right _ (List.mem_append_left _ (List.mem_of_getElem? (i := 202) rfl)), List.forall_mem_cons.mpr ⟨List.mem_append_right _ (List.mem_append_left _ (List.mem_of_getElem? (i := 203) rfl)), List.forall_mem_cons.mpr ⟨List.mem_append_right _ (List.mem_append_left _ (List.mem_of_getElem? (i := 204) rfl)), List.forall_mem_cons.mpr ⟨List.mem_append_right _ (List.mem_append_left _ (List.mem_of_getElem? (i := 205) rfl)), List.forall_mem_cons.mpr ⟨List.mem_append_right _ (List.mem_append_left _ (List.mem_of_getElem? (i := 206) rfl)), List.forall_mem_cons.mpr ⟨List.mem_append_right _ (List.mem_append_left _ (List.mem_of_getElem? (i := 207) rfl)), List.forall_mem_cons.mpr ⟨List.mem_append_right _ (List.mem_append_left _ (List.mem_of_getElem? (i := 208) rfl)), List.forall_mem_cons.mpr ⟨List.mem_append_right _ (List.mem_append_left _ (List.mem_of_getElem? (i := 209) rfl)), List.forall_mem_cons.mpr ⟨List.mem_append_right _ (List.mem_append_left _ (List.mem_of_getElem? (i := 210) rfl)), List.forall_mem_cons.mpr ⟨List.mem_append_right _ (List.mem_append_left _ (List.mem_of_getElem? (i := 211) rfl)), List.forall_mem_cons.mpr ⟨List.mem_append_right _ (List.mem_append_left _ (List.mem_of_getElem? (i := 212) rfl)), List.forall_mem_cons.mpr ⟨List.mem_append_right _ (List.mem_append_left _ (List.mem_of_getElem? (i := 213) rfl)), List.forall_mem_cons.mpr ⟨List.mem_append_right _ (List.mem_append_left _ (List.mem_of_getElem? (i := 214) rfl)), List.forall_mem_cons.mpr ⟨List.mem_append_right _ (List.mem_append_left _ (List.mem_of_getElem? (i := 215) rfl)), List.forall_mem_cons.mpr ⟨List.mem_append_right _ (List.mem_append_left _ (List.mem_of_getElem? (i := 216) rfl)), List.forall_mem_cons.mpr ⟨List.mem_append_right _ (List.mem_append_left _ (List.mem_of_getElem? (i := 217) rfl)), List.forall_mem_cons.mpr ⟨List.mem_append_right _ (List.mem_append_left _ (List.mem_of_getElem? (i := 218) rfl)), List.forall_mem_cons.mpr ⟨List.mem_append_right _ (List.mem_append_left _ (List.mem_of_getElem? (i := 219) rfl)), List.forall_mem_cons.mpr ⟨List.mem_append_right _ (List.mem_append_left _ (List.mem_of_getElem? (i := 220) rfl)), fun _ h => absurd h List.not_mem_nil⟩⟩⟩⟩⟩⟩⟩⟩⟩⟩⟩⟩⟩⟩⟩⟩⟩⟩⟩⟩⟩⟩⟩⟩
set_option maxRecDepth 20000 in
theorem td_t7 : ∀ w ∈ td_w7, w ∈ lw_tbl := List.forall_mem_cons.mpr ⟨List.mem_append_right _ (List.mem_append_left _ (List.mem_of_getElem? (i := 222) rfl)), List.forall_mem_cons.mpr ⟨List.mem_append_right _ (List.mem_append_left _ (List.mem_of_getElem? (i := 223) rfl)), List.forall_mem_cons.mpr ⟨List.mem_append_right _ (List.mem_append_left _ (List.mem_of_getElem? (i := 225) rfl)), List.forall_mem_cons.mpr ⟨List.mem_append_right _ (List.mem_append_left _ (List.mem_of_getElem? (i := 226) rfl)), List.forall_mem_cons.mpr ⟨List.mem_append_right _ (List.mem_append_left _ (List.mem_of_getElem? (i := 227) rfl)), List.forall_mem_cons.mpr ⟨List.mem_append_right _ (List.mem_append_left _ (List.mem_of_getElem? (i := 228) rfl)), List.forall_mem_cons.mpr ⟨List.mem_append_right _ (List.mem_append_left _ (List.mem_of_getElem? (i := 229) rfl)), List.forall_mem_cons.mpr ⟨List.mem_append_right _ (List.mem_append_left _ (List.mem_of_getElem? (i := 230) rfl)), List.forall_mem_cons.mpr ⟨List.mem_append_right _ (List.mem_append_left _ (List.mem_of_getElem? (i := 231) rfl)), List.forall_mem_cons.mpr ⟨List.mem_append_right _ (List.mem_append_left _ (List.mem_of_getElem? (i := 233) rfl)), List.forall_mem_cons.mpr ⟨List.mem_append_right _ (List.mem_append_left _ (List.mem_of_getElem? (i := 234) rfl)), List.forall_mem_cons.mpr ⟨List.mem_append_right _ (List.mem_append_left _ (List.mem_of_getElem? (i := 235) rfl)), List.forall_mem_cons.mpr ⟨List.mem_append_right _ (List.mem_append_left _ (List.mem_of_getElem? (i := 236) rfl)), List.forall_mem_cons.mpr ⟨List.mem_append_right _ (List.mem_append_left _ (List.mem_of_getElem? (i := 237) rfl)), List.forall_mem_cons.mpr ⟨List.mem_append_right _ (List.mem_append_left _ (List.mem_of_getElem? (i := 238) rfl)), List.forall_mem_cons.mpr ⟨List.mem_append_right _ (List.mem_append_left _ (List.mem_of_getElem? (i := 239) rfl)), List.forall_mem_cons.mpr ⟨List.mem_append_right _ (List.mem_append_right _ (List.mem_of_getElem? (i := 1) rfl)), List.forall_mem_cons.mpr ⟨List.mem_append_right _ (List.mem_append_right _ (List.mem_of_getElem? (i := 2) rfl)), List.forall_mem_cons.mpr ⟨List.mem_append_right _ (List.mem_append_right _ (List.mem_of_getElem? (i := 3) rfl)), List.forall_mem_cons.mpr ⟨List.mem_append_right _ (List.mem_append_right _ (List.mem_of_getElem? (i := 4) rfl)), List.forall_mem_cons.mpr ⟨List.mem_append_right _ (List.mem_append_right _ (List.mem_of_getElem? (i := 5) rfl)), List.forall_mem_cons.mpr ⟨List.mem_append_right _ (List.mem_append_right _ (List.mem_of_getElem? (i := 6) rfl)), List.forall_mem_cons.mpr ⟨List.mem_append_right _ (List.mem_append_right _ (List.mem_of_getElem? (i := 7) rfl)), List.forall_mem_cons.mpr ⟨List.mem_append_right _ (List.mem_append_right _ (List.mem_of_getElem? (i := 8) rfl)), fun _ h => absurd h List.not_mem_nil⟩⟩⟩⟩⟩⟩⟩⟩⟩⟩⟩⟩⟩⟩⟩⟩⟩⟩⟩⟩⟩⟩⟩⟩
set_option maxRecDepth 20000 in
theorem td_t8 : ∀ w ∈ td_w8, w ∈ lw_tbl := List.forall_mem_cons.mpr ⟨List.mem_append_right _ (List.mem_append_right _ (List.mem_of_getElem? (i := 9) rfl)), List.forall_mem_cons.mpr ⟨List.mem_append_right _ (List.mem_append_right _ (List.mem_of_getElem? (i := 10) rfl)), List.forall_mem_cons.mpr ⟨List.mem_append_right _ (List.mem_append_right _ (List.mem_of_getElem? (i := 11) rfl)), List.forall_mem_cons.mpr ⟨List.mem_append_right _ (List.mem_append_right _ (List.mem_of_getElem? (i := 12) rfl)), List.forall_mem_cons.mpr ⟨List.mem_append_right _ (List.mem_append_right _ (List.mem_of_getElem? (i := 13) rfl)), List.forall_mem_cons.mpr ⟨List.mem_append_right _ (List.mem_append_right _ (List.mem_of_getElem? (i := 14) rfl)), List.forall_mem_cons.mpr ⟨List.mem_append_right _ (List.mem_append_right _ (List.mem_of_getElem? (i := 15) rfl)), List.forall_mem_cons.mpr ⟨List.mem_append_right _ (List.mem_append_right _ (List.mem_of_getElem? (i := 16) rfl)), List.forall_mem_cons.mpr ⟨List.mem_append_right _ (List.mem_append_right _ (List.mem_of_getElem? (i := 17) rfl)), List.forall_mem_cons.mpr ⟨List.mem_append_right _ (List.mem_append_right _ (List.mem_of_getElem? (i := 18) rfl)), List.forall_mem_cons.mpr ⟨List.mem_append_right _ (List.mem_append_right _ (List.mem_of_getElem? (i := 19) rfl)), List.forall_mem_cons.mpr ⟨List.mem_append_right _ (List.mem_append_right _ (List.mem_of_getElem? (i := 20) rfl)), List.forall_mem_cons.mpr ⟨List.mem_append_right _ (List.mem_append_right _ (List.mem_of_getElem? (i := 21) rfl)), List.forall_mem_cons.mpr ⟨List.mem_append_right _ (List.mem_append_right _ (List.mem_of_getElem? (i := 22) rfl)), List.forall_mem_cons.mpr ⟨List.mem_append_right _ (List.mem_append_right _ (List.mem_of_getElem? (i := 23) rfl)), List.forall_mem_cons.mpr ⟨List.mem_append_right _ (List.mem_append_right _ (List.mem_of_getElem? (i := 24) rfl)), List.forall_mem_cons.mpr ⟨List.mem_append_right _ (List.mem_append_right _ (List.mem_of_getElem? (i := 25) rfl)), List.forall_mem_cons.mpr ⟨List.mem_append_right _ (List.mem_append_right _ (List.mem_of_getElem? (i := 26) rfl)), List.forall_mem_cons.mpr ⟨List.mem_append_right _ (List.mem_append_right _ (List.mem_of_getElem? (i := 28) rfl)), List.forall_mem_cons.mpr ⟨List.mem_append_right _ (List.mem_append_right _ (List.mem_of_getElem? (i := 29) rfl)), List.forall_mem_cons.mpr ⟨List.mem_append_right _ (List.mem_append_right _ (List.mem_of_getElem? (i := 30) rfl)), List.forall_mem_cons.mpr ⟨List.mem_append_right _ (List.mem_append_right _ (List.mem_of_getElem? (i := 31) rfl)), List.forall_mem_cons.mpr ⟨List.mem_append_right _ (List.mem_append_right _ (List.mem_of_getElem? (i := 32) rfl)), List.forall_mem_cons.mpr ⟨List.mem_append_right _ (List.mem_append_right _ (List.mem_of_getElem? (i := 33) rfl)), fun _ h => absurd h List.not_mem_nil⟩⟩⟩⟩⟩⟩⟩⟩⟩⟩⟩⟩⟩⟩⟩⟩⟩⟩⟩⟩⟩⟩⟩⟩
set_option maxRecDepth 20000 in
theorem td_t9 : ∀ w ∈ td_w9, w ∈ lw_tbl := List.forall_mem_cons.mpr ⟨List.mem_append_right _ (List.mem_append_right _ (List.mem_of_getElem? (i := 34) rfl)), List.forall_mem_cons.mpr ⟨List.mem_append_right _ (List.mem_append_right _ (List.mem_of_getElem? (i := 35) rfl)), List.forall_mem_cons.mpr ⟨List.mem_append_right _ (List.mem_append_right _ (List.mem_of_getElem? (i := 36) rfl)), List.forall_mem_cons.mpr ⟨List.mem_append_right _ (List.mem_append_right _ (List.mem_of_getElem? (i := 37) rfl)), List.forall_mem_cons.mpr ⟨List.mem_append_right _ (List.mem_append_right _ (List.mem_of_getElem? (i := 38) rfl)), List.forall_mem_cons.mpr ⟨List.mem_append_right _ (List.mem_append_right _ (List.mem_of_getElem? (i := 39) rfl)), List.forall_mem_cons.mpr ⟨List.mem_append_right _ (List.mem_append_right _ (List.mem_of_getElem? (i := 40) rfl)), List.forall_mem_cons.mpr ⟨List.mem_append_right _ (List.mem_append_right _ (List.mem_of_getElem? (i := 41) rfl)), List.forall_mem_cons.mpr ⟨List.mem_append_right _ (List.mem_append_right _ (List.mem_of_getElem? (i := 42) rfl)), List.forall_mem_cons.mpr ⟨List.mem_append_right _ (List.mem_append_right _ (List.mem_of_getElem? (i := 43) rfl)), List.forall_mem_cons.mpr ⟨List.mem_append_right _ (List.mem_append_right _ (List.mem_of_getElem? (i := 44) rfl)), List.forall_mem_cons.mpr ⟨List.mem_append_right _ (List.mem_append_right _ (List.mem_of_getElem? (i := 45) rfl)), List.forall_mem_cons.mpr ⟨List.mem_append_right _ (List.mem_append_right _ (List.mem_of_getElem? (i := 46) rfl)), List.forall_mem_cons.mpr ⟨List.mem_append_right _ (List.mem_append_right _ (List.mem_of_getElem? (i := 47) rfl)), List.forall_mem_cons.mpr ⟨List.mem_append_right _ (List.mem_append_right _ (List.mem_of_getElem? (i := 48) rfl)), List.forall_mem_cons.mpr ⟨List.mem_append_right _ (List.mem_append_right _ (List.mem_of_getElem? (i := 49) rfl)), List.forall_mem_cons.mpr ⟨List.mem_append_right _ (List.mem_append_right _ (List.mem_of_getElem? (i := 50) rfl)), List.forall_mem_cons.mpr ⟨List.mem_append_right _ (List.mem_append_right _ (List.mem_of_getElem? (i := 51) rfl)), List.forall_mem_cons.mpr ⟨List.mem_append_right _ (List.mem_append_right _ (List.mem_of_getElem? (i := 52) rfl)), List.forall_mem_cons.mpr ⟨List.mem_append_right _ (List.mem_append_right _ (List.mem_of_getElem? (i := 53) rfl)), List.forall_mem_cons.mpr ⟨List.mem_append_right _ (List.mem_append_right _ (List.mem_of_getElem? (i := 54) rfl)), List.forall_mem_cons.mpr ⟨List.mem_append_right _ (List.mem_append_right _ (List.mem_of_getElem? (i := 56) rfl)), List.forall_mem_cons.mpr ⟨List.mem_append_right _ (List.mem_append_right _ (List.mem_of_getElem? (i := 57) rfl)), List.forall_mem_cons.mpr ⟨List.mem_append_right _ (List.mem_append_right _ (List.mem_of_getElem? (i := 58) rfl)), fun _ h => absurd h List.not_mem_nil⟩⟩⟩⟩⟩⟩⟩⟩⟩⟩⟩⟩⟩⟩⟩⟩⟩⟩⟩⟩⟩⟩⟩⟩
set_option maxRecDepth 20000 in
theorem td_t10 : ∀ w ∈ td_w10, w ∈ lw_tbl := List.forall_mem_cons.mpr ⟨List.mem_append_right _ (List.mem_append_right _ (List.mem_of_getElem? (i := 60) rfl)), List.forall_mem_cons.mpr ⟨List.mem_append_right _ (List.mem_append_right _ (List.mem_of_getElem? (i := 61) rfl)), List.forall_mem_cons.mpr ⟨List.mem_append_right _ (List.mem_append_right _ (List.mem_of_getElem? (i := 62) rfl)), List.forall_mem_cons.mpr ⟨List.mem_append_right _ (List.mem_append_right _ (List.mem_of_getElem? (i := 63) rfl)), List.forall_mem_cons.mpr ⟨List.mem_append_right _ (List.mem_append_right _ (List.mem_of_getElem? (i := 64) rfl)), List.forall_mem_cons.mpr ⟨List.mem_append_right _ (List.mem_append_right _ (List.mem_of_getElem? (i := 65) rfl)), List.forall_mem_cons.mpr ⟨List.mem_append_right _ (List.mem_append_right _ (List.mem_of_getElem? (i := 66) rfl)), List.forall_mem_cons.mpr ⟨List.mem_append_right _ (List.mem_append_right _ (List.mem_of_getElem? (i := 68) rfl)), List.forall_mem_cons.mpr ⟨List.mem_append_right _ (List.mem_append_right _ (List.mem_of_getElem? (i := 69) rfl)), List.forall_mem_cons.mpr ⟨List.mem_append_right _ (List.mem_append_right _ (List.mem_of_getElem? (i := 70) rfl)), List.forall_mem_cons.mpr ⟨List.mem_append_right _ (List.mem_append_right _ (List.mem_of_getElem? (i := 71) rfl)), List.forall_mem_cons.mpr ⟨List.mem_append_right _ (List.mem_append_right _ (List.mem_of_getElem? (i := 72) rfl)), List.forall_mem_cons.mpr ⟨List.mem_append_right _ (List.mem_append_right _ (List.mem_of_getElem? (i := 73) rfl)), List.forall_mem_cons.mpr ⟨List.mem_append_right _ (List.mem_append_right _ (List.mem_of_getElem? (i := 74) rfl)), List.forall_mem_cons.mpr ⟨List.mem_append_right _ (List.mem_append_right _ (List.mem_of_getElem? (i := 76) rfl)), List.forall_mem_cons.mpr ⟨List.mem_append_right _ (List.mem_append_right _ (List.mem_of_getElem? (i := 77) rfl)), List.forall_mem_cons.mpr ⟨List.mem_append_right _ (List.mem_append_right _ (List.mem_of_getElem? (i := 78) rfl)), List.forall_mem_cons.mpr ⟨List.mem_append_right _ (List.mem_append_right _ (List.mem_of_getElem? (i := 79) rfl)), List.forall_mem_cons.mpr ⟨List.mem_append_right _ (List.mem_append_right _ (List.mem_of_getElem? (i := 81) rfl)), List.forall_mem_cons.mpr ⟨List.mem_append_right _ (List.mem_append_right _ (List.mem_of_getElem? (i := 82) rfl)), List.forall_mem_cons.mpr ⟨List.mem_append_right _ (List.mem_append_right _ (List.mem_of_getElem? (i := 83) rfl)), List.forall_mem_cons.mpr ⟨List.mem_append_right _ (List.mem_append_right _ (List.mem_of_getElem? (i := 84) rfl)), List.forall_mem_cons.mpr ⟨List.mem_append_right _ (List.mem_append_right _ (List.mem_of_getElem? (i := 85) rfl)), List.forall_mem_cons.mpr ⟨List.mem_append_right _ (List.mem_append_right _ (List.mem_of_getElem? (i := 86) rfl)), fun _ h => absurd h List.not_mem_nil⟩⟩⟩⟩⟩⟩⟩⟩⟩⟩⟩⟩⟩⟩⟩⟩⟩⟩⟩⟩⟩⟩⟩⟩
set_option maxRecDepth 20000 in
theorem td_t11 : ∀ w ∈ td_w11, w ∈ lw_tbl := List.forall_mem_cons.mpr ⟨List.mem_append_right _ (List.mem_append_right _ (List.mem_of_getElem? (i := 87) rfl)), List.forall_mem_cons.mpr ⟨List.mem_append_right _ (List.mem_append_right _ (List.mem_of_getElem? (i := 88) rfl)), List.forall_mem_cons.mpr ⟨List.mem_append_right _ (List.mem_append_right _ (List.mem_of_getElem? (i := 89) rfl)), List.forall_mem_cons.mpr ⟨List.mem_append_right _ (List.mem_append_right _ (List.mem_of_getElem? (i := 90) rfl)), List.forall_mem_cons.mpr ⟨List.mem_append_right _ (List.mem_append_right _ (List.mem_of_getElem? (i := 91) rfl)), List.forall_mem_cons.mpr ⟨List.mem_append_right _ (List.mem_append_right _ (List.mem_of_getElem? (i := 93) rfl)), List.forall_mem_cons.mpr ⟨List.mem_append_right _ (List.mem_append_right _ (List.mem_of_getElem? (i := 94) rfl)), List.forall_mem_cons.mpr ⟨List.mem_append_right _ (List.mem_append_right _ (List.mem_of_getElem? (i := 95) rfl)), List.forall_mem_cons.mpr ⟨List.mem_append_right _ (List.mem_append_right _ (List.mem_of_getElem? (i := 96) rfl)), List.forall_mem_cons.mpr ⟨List.mem_append_right _ (List.mem_append_right _ (List.mem_of_getElem? (i := 97) rfl)), List.forall_mem_cons.mpr ⟨List.mem_append_right _ (List.mem_append_right _ (List.mem_of_getElem? (i := 98) rfl)), List.forall_mem_cons.mpr ⟨List.mem_append_right _ (List.mem_append_right _ (List.mem_of_getElem? (i := 99) rfl)), List.forall_mem_cons.mpr ⟨List.mem_append_right _ (List.mem_append_right _ (List.mem_of_getElem? (i := 100) rfl)), List.forall_mem_cons.mpr ⟨List.mem_append_right _ (List.mem_append_right _ (List.mem_of_getElem? (i := 101) rfl)), List.forall_mem_cons.mpr ⟨List.mem_append_right _ (List.mem_append_right _ (List.mem_of_getElem? (i := 102) rfl)), List.forall_mem_cons.mpr ⟨List.mem_append_right _ (List.mem_append_right _ (List.mem_of_getElem? (i := 103) rfl)), List.forall_mem_cons.mpr ⟨List.mem_append_right _ (List.mem_append_right _ (List.mem_of_getElem? (i := 104) rfl)), List.forall_mem_cons.mpr ⟨List.mem_append_right _ (List.mem_append_right _ (List.mem_of_getElem? (i := 105) rfl)), List.forall_mem_cons.mpr ⟨List.mem_append_right _ (List.mem_append_right _ (List.mem_of_getElem? (i := 106) rfl)), List.forall_mem_cons.mpr ⟨List.mem_append_right _ (List.mem_append_right _ (List.mem_of_getElem? (i := 107) rfl)), List.forall_mem_cons.mpr ⟨List.mem_append_right _ (List.mem_append_right _ (List.mem_of_getElem? (i := 108) rfl)), List.forall_mem_cons.mpr ⟨List.mem_append_right _ (List.mem_append_right _ (List.mem_of_getElem? (i := 109) rfl)), List.forall_mem_cons.mpr ⟨List.mem_append_right _ (List.mem_append_right _ (List.mem_of_getElem? (i := 110) rfl)), List.forall_mem_cons.mpr ⟨List.mem_append_right _ (List.mem_append_right _ (List.mem_of_getElem? (i := 111) rfl)), fun _ h => absurd h List.not_mem_nil⟩⟩⟩⟩⟩⟩⟩⟩⟩⟩⟩⟩⟩⟩⟩⟩⟩⟩⟩⟩⟩⟩⟩⟩
set_option maxRecDepth 20000 in
theorem td_t12 : ∀ w ∈ td_w12, w ∈ lw_tbl := List.forall_mem_cons.mpr ⟨List.mem_append_right _ (List.mem_append_right _ (List.mem_of_getElem? (i := 112) rfl)), List.forall_mem_cons.mpr ⟨List.mem_append_right _ (List.mem_append_right _ (List.mem_of_getElem? (i := 113) rfl)), List.forall_mem_cons.mpr ⟨List.mem_append_right _ (List.mem_append_right _ (List.mem_of_getElem? (i := 114) rfl)), List.forall_mem_cons.mpr ⟨List.mem_append_right _ (List.mem_append_right _ (List.mem_of_getElem? (i := 115) rfl)), List.forall_mem_cons.mpr ⟨List.mem_append_right _ (List.mem_append_right _ (List.mem_of_getElem? (i := 116) rfl)), List.forall_mem_cons.mpr ⟨List.mem_append_right _ (List.mem_append_right _ (List.mem_of_getElem? (i := 117) rfl)), List.forall_mem_cons.mpr ⟨List.mem_append_right _ (List.mem_append_right _ (List.mem_of_getElem? (i := 118) rfl)), List.forall_mem_cons.mpr ⟨List.mem_append_right _ (List.mem_append_right _ (List.mem_of_getElem? (i := 119) rfl)), List.forall_mem_cons.mpr ⟨List.mem_append_right _ (List.mem_append_right _ (List.mem_of_getElem? (i := 120) rfl)), List.forall_mem_cons.mpr ⟨List.mem_append_right _ (List.mem_append_right _ (List.mem_of_getElem? (i := 121) rfl)), List.forall_mem_cons.mpr ⟨List.mem_append_right _ (List.mem_append_right _ (List.mem_of_getElem? (i := 145) rfl)), List.forall_mem_cons.mpr ⟨List.mem_append_right _ (List.mem_append_right _ (List.mem_of_getElem? (i := 146) rfl)), List.forall_mem_cons.mpr ⟨List.mem_append_right _ (List.mem_append_right _ (List.mem_of_getElem? (i := 147) rfl)), List.forall_mem_cons.mpr ⟨List.mem_append_right _ (List.mem_append_right _ (List.mem_of_getElem? (i := 148) rfl)), List.forall_mem_cons.mpr ⟨List.mem_append_right _ (List.mem_append_right _ (List.mem_of_getElem? (i := 149) rfl)), List.forall_mem_cons.mpr ⟨List.mem_append_right _ (List.mem_append_right _ (List.mem_of_getElem? (i := 150) rfl)), List.forall_mem_cons.mpr ⟨List.mem_append_right _ (List.mem_append_right _ (List.mem_of_getElem? (i := 151) rfl)), List.forall_mem_cons.mpr ⟨List.mem_append_right _ (List.mem_append_right _ (List.mem_of_getElem? (i := 152) rfl)), List.forall_mem_cons.mpr ⟨List.mem_append_right _ (List.mem_append_right _ (List.mem_of_getElem? (i := 153) rfl)), List.forall_mem_cons.mpr ⟨List.mem_append_right _ (List.mem_append_right _ (List.mem_of_getElem? (i := 154) rfl)), List.forall_mem_cons.mpr ⟨List.mem_append_right _ (List.mem_append_right _ (List.mem_of_getElem? (i := 155) rfl)), List.forall_mem_cons.mpr ⟨List.mem_append_right _ (List.mem_append_right _ (List.mem_of_getElem? (i := 157) rfl)), List.forall_mem_cons.mpr ⟨List.mem_append_right _ (List.mem_append_right _ (List.mem_of_getElem? (i := 158) rfl)), List.forall_mem_cons.mpr ⟨List.mem_append_right _ (List.mem_append_right _ (List.mem_of_getElem? (i := 159) rfl)), fun _ h => absurd h List.not_mem_nil⟩⟩⟩⟩⟩⟩⟩⟩⟩⟩⟩⟩⟩⟩⟩⟩⟩⟩⟩⟩⟩⟩⟩⟩
set_option maxRecDepth 20000 in
theorem td_t13 : ∀ w ∈ td_w13, w ∈ lw_tbl := List.forall_mem_cons.mpr ⟨List.mem_append_right _ (List.mem_append_right _ (List.mem_of_getElem? (i := 161) rfl)), List.forall_mem_cons.mpr ⟨List.mem_append_right _ (List.mem_append_right _ (List.mem_of_getElem? (i := 162) rfl)), List.forall_mem_cons.mpr ⟨List.mem_append_right _ (List.mem_append_right _ (List.mem_of_getElem? (i := 163) rfl)), List.forall_mem_cons.mpr ⟨List.mem_append_right _ (List.mem_append_right _ (List.mem_of_getElem? (i := 164) rfl)), List.forall_mem_cons.mpr ⟨List.mem_append_right _ (List.mem_append_right _ (List.mem_of_getElem? (i := 165) rfl)), List.forall_mem_cons.mpr ⟨List.mem_append_right _ (List.mem_append_right _ (List.mem_of_getElem? (i := 166) rfl)), List.forall_mem_cons.mpr ⟨List.mem_append_right _ (List.mem_append_right _ (List.mem_of_getElem? (i := 167) rfl)), List.forall_mem_cons.mpr ⟨List.mem_append_right _ (List.mem_append_right _ (List.mem_of_getElem? (i := 168) rfl)), List.forall_mem_cons.mpr ⟨List.mem_append_right _ (List.mem_append_right _ (List.mem_of_getElem? (i := 169) rfl)), List.forall_mem_cons.mpr ⟨List.mem_append_right _ (List.mem_append_right _ (List.mem_of_getElem? (i := 170) rfl)), List.forall_mem_cons.mpr ⟨List.mem_append_right _ (List.mem_append_right _ (List.mem_of_getElem? (i := 171) rfl)), List.forall_mem_cons.mpr ⟨List.mem_append_right _ (List.mem_append_right _ (List.mem_of_getElem? (i := 172) rfl)), List.forall_mem_cons.mpr ⟨List.mem_append_right _ (List.mem_append_right _ (List.mem_of_getElem? (i := 173) rfl)), List.forall_mem_cons.mpr ⟨List.mem_append_right _ (List.mem_append_right _ (List.mem_of_getElem? (i := 174) rfl)), List.forall_mem_cons.mpr ⟨List.mem_append_right _ (List.mem_append_right _ (List.mem_of_getElem? (i := 175) rfl)), List.forall_mem_cons.mpr ⟨List.mem_append_right _ (List.mem_append_right _ (List.mem_of_getElem? (i := 176) rfl)), List.forall_mem_cons.mpr ⟨List.mem_append_right _ (List.mem_append_right _ (List.mem_of_getElem? (i := 177) rfl)), List.forall_mem_cons.mpr ⟨List.mem_append_right _ (List.mem_append_right _ (List.mem_of_getElem? (i := 178) rfl)), List.forall_mem_cons.mpr ⟨List.mem_append_right _ (List.mem_append_right _ (List.mem_of_getElem? (i := 179) rfl)), List.forall_mem_cons.mpr ⟨List.mem_append_right _ (List.mem_append_right _ (List.mem_of_getElem? (i := 181) rfl)), List.forall_mem_cons.mpr ⟨List.mem_append_right _ (List.mem_append_right _ (List.mem_of_getElem? (i := 182) rfl)), List.forall_mem_cons.mpr ⟨List.mem_append_right _ (List.mem_append_right _ (List.mem_of_getElem? (i := 183) rfl)), List.forall_mem_cons.mpr ⟨List.mem_append_right _ (List.mem_append_right _ (List.mem_of_getElem? (i := 184) rfl)), List.forall_mem_cons.mpr ⟨List.mem_append_right _ (List.mem_append_right _ (List.mem_of_getElem? (i := 185) rfl)), fun _ h => absurd h List.not_mem_nil⟩⟩⟩⟩⟩⟩⟩⟩⟩⟩⟩⟩⟩⟩⟩⟩⟩⟩⟩⟩⟩⟩⟩⟩
set_option maxRecDepth 20000 in
theorem td_t14 : ∀ w ∈ td_w14, w ∈ lw_tbl := List.forall_mem_cons.mpr ⟨List.mem_append_right _ (List.mem_append_right _ (List.mem_of_getElem? (i := 187) rfl)), List.forall_mem_cons.mpr ⟨List.mem_append_right _ (List.mem_append_right _ (List.mem_of_getElem? (i := 188) rfl)), List.forall_mem_cons.mpr ⟨List.mem_append_right _ (List.mem_append_right _ (List.mem_of_getElem? (i := 189) rfl)), List.forall_mem_cons.mpr ⟨List.mem_append_right _ (List.mem_append_right _ (List.mem_of_getElem? (i := 190) rfl)), List.forall_mem_cons.mpr ⟨List.mem_append_right _ (List.mem_append_right _ (List.mem_of_getElem? (i := 191) rfl)), List.forall_mem_cons.mpr ⟨List.mem_append_right _ (List.mem_append_right _ (List.mem_of_getElem? (i := 192) rfl)), List.forall_mem_cons.mpr ⟨List.mem_append_right _ (List.mem_append_right _ (List.mem_of_getElem? (i := 193) rfl)), List.forall_mem_cons.mpr ⟨List.mem_append_right _ (List.mem_append_right _ (List.mem_of_getElem? (i := 194) rfl)), List.forall_mem_cons.mpr ⟨List.mem_append_right _ (List.mem_append_right _ (List.mem_of_getElem? (i := 195) rfl)), List.forall_mem_cons.mpr ⟨List.mem_append_right _ (List.mem_append_right _ (List.mem_of_getElem? (i := 196) rfl)), List.forall_mem_cons.mpr ⟨List.mem_append_right _ (List.mem_append_right _ (List.mem_of_getElem? (i := 198) rfl)), List.forall_mem_cons.mpr ⟨List.mem_append_right _ (List.mem_append_right _ (List.mem_of_getElem? (i := 199) rfl)), List.forall_mem_cons.mpr ⟨List.mem_append_right _ (List.mem_append_right _ (List.mem_of_getElem? (i := 200) rfl)), List.forall_mem_cons.mpr ⟨List.mem_append_right _ (List.mem_append_right _ (List.mem_of_getElem? (i := 202) rfl)), List.forall_mem_cons.mpr ⟨List.mem_append_right _ (List.mem_append_right _ (List.mem_of_getElem? (i := 203) rfl)), List.forall_mem_cons.mpr ⟨List.mem_append_right _ (List.mem_append_right _ (List.mem_of_getElem? (i := 204) rfl)), List.forall_mem_cons.mpr ⟨List.mem_append_right _ (List.mem_append_right _ (List.mem_of_getElem? (i := 205) rfl)), List.forall_mem_cons.mpr ⟨List.mem_append_right _ (List.mem_append_right _ (List.mem_of_getElem? (i := 206) rfl)), List.forall_mem_cons.mpr ⟨List.mem_append_right _ (List.mem_append_right _ (List.mem_of_getElem? (i := 207) rfl)), List.forall_mem_cons.mpr ⟨List.mem_append_right _ (List.mem_append_right _ (List.mem_of_getElem? (i := 208) rfl)), List.forall_mem_cons.mpr ⟨List.mem_append_right _ (List.mem_append_right _ (List.mem_of_getElem? (i := 209) rfl)), List.forall_mem_cons.mpr ⟨List.mem_append_right _ (List.mem_append_right _ (List.mem_of_getElem? (i := 210) rfl)), List.forall_mem_cons.mpr ⟨List.mem_append_right _ (List.mem_append_right _ (List.mem_of_getElem? (i := 211) rfl)), List.forall_mem_cons.mpr ⟨List.mem_append_right _ (List.mem_append_right _ (List.mem_of_getElem? (i := 212) rfl)), fun _ h => absurd h List.not_mem_nil⟩⟩⟩⟩⟩⟩⟩⟩⟩⟩⟩⟩⟩⟩⟩⟩⟩⟩⟩⟩⟩⟩⟩⟩
set_option maxRecDepth 20000 in
theorem td_t15 : ∀ w ∈ td_w15, w ∈ lw_tbl := List.forall_mem_cons.mpr ⟨List.mem_append_right _ (List.mem_append_right _ (List.mem_of_getElem? (i := 214) rfl)), List.forall_mem_cons.mpr ⟨List.mem_append_right _ (List.mem_append_right _ (List.mem_of_getElem? (i := 215) rfl)), List.forall_mem_cons.mpr ⟨List.mem_append_right _ (List.mem_append_right _ (List.mem_of_getElem? (i := 216) rfl)), List.forall_mem_cons.mpr ⟨List.mem_append_right _ (List.mem_append_right _ (List.mem_of_getElem? (i := 217) rfl)), List.forall_mem_cons.mpr ⟨List.mem_append_right _ (List.mem_append_right _ (List.mem_of_getElem? (i := 218) rfl)), List.forall_mem_cons.mpr ⟨List.mem_append_right _ (List.mem_append_right _ (List.mem_of_getElem? (i := 219) rfl)), List.forall_mem_cons.mpr ⟨List.mem_append_right _ (List.mem_append_right _ (List.mem_of_getElem? (i := 220) rfl)), List.forall_mem_cons.mpr ⟨List.mem_append_right _ (List.mem_append_right _ (List.mem_of_getElem? (i := 221) rfl)), List.forall_mem_cons.mpr ⟨List.mem_append_right _ (List.mem_append_right _ (List.mem_of_getElem? (i := 222) rfl)), List.forall_mem_cons.mpr ⟨List.mem_append_right _ (List.mem_append_right _ (List.mem_of_getElem? (i := 223) rfl)), List.forall_mem_cons.mpr ⟨List.mem_append_left _ (List.mem_of_getElem? (i := 0) rfl), List.forall_mem_cons.mpr ⟨List.mem_append_left _ (List.mem_of_getElem? (i := 1) rfl), List.forall_mem_cons.mpr ⟨List.mem_append_left _ (List.mem_of_getElem? (i := 2) rfl), List.forall_mem_cons.mpr ⟨List.mem_append_left _ (List.mem_of_getElem? (i := 3) rfl), List.forall_mem_cons.mpr ⟨List.mem_append_left _ (List.mem_of_getElem? (i := 4) rfl), List.forall_mem_cons.mpr ⟨List.mem_append_left _ (List.mem_of_getElem? (i := 5) rfl), List.forall_mem_cons.mpr ⟨List.mem_append_left _ (List.mem_of_getElem? (i := 6) rfl), List.forall_mem_cons.mpr ⟨List.mem_append_left _ (List.mem_of_getElem? (i := 7) rfl), List.forall_mem_cons.mpr ⟨List.mem_append_left _ (List.mem_of_getElem? (i := 8) rfl), List.forall_mem_cons.mpr ⟨List.mem_append_left _ (List.mem_of_getElem? (i := 9) rfl), List.forall_mem_cons.mpr ⟨List.mem_append_left _ (List.mem_of_getElem? (i := 10) rfl), List.forall_mem_cons.mpr ⟨List.mem_append_left _ (List.mem_of_getElem? (i := 11) rfl), List.forall_mem_cons.mpr ⟨List.mem_append_left _ (List.mem_of_getElem? (i := 12) rfl), fun _ h => absurd h List.not_mem_nil⟩⟩⟩⟩⟩⟩⟩⟩⟩⟩⟩⟩⟩⟩⟩⟩⟩⟩⟩⟩⟩⟩⟩
set_option maxRecDepth 20000 in
theorem td_t16 : ∀ w ∈ u_ws RX0 TX0 5, w ∈ lw_tbl := by decide +kernel
set_option maxRecDepth 20000 in
theorem td_t17 : ∀ w ∈ u_ws RX1 TX1 4, w ∈ lw_tbl := by decide +kernel
set_option maxRecDepth 20000 in
theorem td_t18 : ∀ w ∈ u_ws RX2 TX2 15, w ∈ lw_tbl := by decide +kernel
set_option maxRecDepth 20000 in
theorem td_t19 : ∀ w ∈ u_ws RX3 TX3 4, w ∈ lw_tbl := by decide +kernel
set_option maxRecDepth 20000 in
theorem td_t20 : ∀ w ∈ u_ws RX4 TX4 11, w ∈ lw_tbl := by decide +kernel
theorem td_all_in : ∀ w ∈ td_all, w ∈ lw_tbl := fun w h => (List.mem_append.mp h).elim (td_t0 w) (fun h0 => (List.mem_append.mp h0).elim (td_t1 w) (fun h1 => (List.mem_append.mp h1).elim (td_t2 w) (fun h2 => (List.mem_append.mp h2).elim (td_t3 w) (fun h3 => (List.mem_append.mp h3).elim (td_t4 w) (fun h4 => (List.mem_append.mp h4).elim (td_t5 w) (fun h5 => (List.mem_append.mp h5).elim (td_t6 w) (fun h6 => (List.mem_append.mp h6).elim (td_t7 w) (fun h7 => (List.mem_append.mp h7).elim (td_t8 w) (fun h8 => (List.mem_append.mp h8).elim (td_t9 w) (fun h9 => (List.mem_append.mp h9).elim (td_t10 w) (fun h10 => (List.mem_append.mp h10).elim (td_t11 w) (fun h11 => (List.mem_append.mp h11).elim (td_t12 w) (fun h12 => (List.mem_append.mp h12).elim (td_t13 w) (fun h13 => (List.mem_append.mp h13).elim (td_t14 w) (fun h14 => (List.mem_append.mp h14).elim (td_t15 w) (fun h15 => (List.mem_append.mp h15).elim (td_t16 w) (fun h16 => (List.mem_append.mp h16).elim (td_t17 w) (fun h17 => (List.mem_append.mp h17).elim (td_t18 w) (fun h18 => (List.mem_append.mp h18).elim (td_t19 w) (fun h19 => td_t20 w h19))))))))))))))))))))
theorem td_g0 : ∀ w ∈ td_w0, ((w.onTables && w.keeps) = true ∨ ∃ ty, w = .arrayClass ty) := List.forall_mem_cons.mpr ⟨Or.inr ⟨_, rfl⟩, List.forall_mem_cons.mpr ⟨Or.inr ⟨_, rfl⟩, List.forall_mem_cons.mpr ⟨Or.inr ⟨_, rfl⟩, fun _ h => absurd h List.not_mem_nil⟩⟩⟩
set_option maxRecDepth 20000 in
theorem td_g1 : ∀ w ∈ td_w1, ((w.onTables && w.keeps) = true ∨ ∃ ty, w = .arrayClass ty) := fun w h => Or.inl (List.all_eq_true.mp (show td_w1.all (fun w => w.onTables && w.keeps) = true from by decide +kernel) w h)
set_option maxRecDepth 20000 in
theorem td_g2 : ∀ w ∈ td_w2, ((w.onTables && w.keeps) = true ∨ ∃ ty, w = .arrayClass ty) := fun w h => Or.inl (List.all_eq_true.mp (show td_w2.all (fun w => w.onTables && w.keeps) = true from by decide +kernel) w h)
set_option maxRecDepth 20000 in
theorem td_g3 : ∀ w ∈ td_w3, ((w.onTables && w.keeps) = true ∨ ∃ ty, w = .arrayClass ty) := fun w h => Or.inl (List.all_eq_true.mp (show td_w3.all (fun w => w.onTables && w.keeps) = true from by decide +kernel) w h)
set_option maxRecDepth 20000 in
theorem td_g4 : ∀ w ∈ td_w4, ((w.onTables && w.keeps) = true ∨ ∃ ty, w = .arrayClass ty) := fun w h => Or.inl (List.all_eq_true.mp (show td_w4.all (fun w => w.onTables && w.keeps) = true from by decide +kernel) w h)
set_option maxRecDepth 20000 in
theorem td_g5 : ∀ w ∈ td_w5, ((w.onTables && w.keeps) = true ∨ ∃ ty, w = .arrayClass ty) := fun w h => Or.inl (List.all_eq_true.mp (show td_w5.all (fun w => w.onTables && w.keeps) = true from by decide +kernel) w h)
set_option maxRecDepth 20000 in
theorem td_g6 : ∀ w ∈ td_w6, ((w.onTables && w.keeps) = true ∨ ∃ ty, w = .arrayClass ty) := fun w h => Or.inl (List.all_eq_true.mp (show td_w6.all (fun w => w.onTables && w.keeps) = true from by decide +kernel) w h)
set_option maxRecDepth 20000 in
theorem td_g7 : ∀ w ∈ td_w7, ((w.onTables && w.keeps) = true ∨ ∃ ty, w = .arrayClass ty) := fun w h => Or.inl (List.all_eq_true.mp (show td_w7.all (fun w => w.onTables && w.keeps) = true from by decide +kernel) w h)
set_option maxRecDepth 20000 in
theorem td_g8 : ∀ w ∈ td_w8, ((w.onTables && w.keeps) = true ∨ ∃ ty, w = .arrayClass ty) := fun w h => Or.inl (List.all_eq_true.mp (show td_w8.all (fun w => w.onTables && w.keeps) = true from by decide +kernel) w h)
set_option maxRecDepth 20000 in
theorem td_g9 : ∀ w ∈ td_w9, ((w.onTables && w.keeps) = true ∨ ∃ ty, w = .arrayClass ty) := fun w h => Or.inl (List.all_eq_true.mp (show td_w9.all (fun w => w.onTables && w.keeps) = true from by decide +kernel) w h)
set_option maxRecDepth 20000 in
theorem td_g10 : ∀ w ∈ td_w10, ((w.onTables && w.keeps) = true ∨ ∃ ty, w = .arrayClass ty) := fun w h => Or.inl (List.all_eq_true.mp (show td_w10.all (fun w => w.onTables && w.keeps) = true from by decide +kernel) w h)
set_option maxRecDepth 20000 in
theorem td_g11 : ∀ w ∈ td_w11, ((w.onTables && w.keeps) = true ∨ ∃ ty, w = .arrayClass ty) := fun w h => Or.inl (List.all_eq_true.mp (show td_w11.all (fun w => w.onTables && w.keeps) = true from by decide +kernel) w h)
set_option maxRecDepth 20000 in
theorem td_g12 : ∀ w ∈ td_w12, ((w.onTables && w.keeps) = true ∨ ∃ ty, w = .arrayClass ty) := fun w h => Or.inl (List.all_eq_true.mp (show td_w12.all (fun w => w.onTables && w.keeps) = true from by decide +kernel) w h)
set_option maxRecDepth 20000 in
theorem td_g13 : ∀ w ∈ td_w13, ((w.onTables && w.keeps) = true ∨ ∃ ty, w = .arrayClass ty) := fun w h => Or.inl (List.all_eq_true.mp (show td_w13.all (fun w => w.onTables && w.keeps) = true from by decide +kernel) w h)
set_option maxRecDepth 20000 in
theorem td_g14 : ∀ w ∈ td_w14, ((w.onTables && w.keeps) = true ∨ ∃ ty, w = .arrayClass ty) := fun w h => Or.inl (List.all_eq_true.mp (show td_w14.all (fun w => w.onTables && w.keeps) = true from by decide +kernel) w h)
set_option maxRecDepth 20000 in
theorem td_g15 : ∀ w ∈ td_w15, ((w.onTables && w.keeps) = true ∨ ∃ ty, w = .arrayClass ty) := fun w h => Or.inl (List.all_eq_true.mp (show td_w15.all (fun w => w.onTables && w.keeps) = true from by decide +kernel) w h)
theorem td_g16 : ∀ w ∈ u_ws RX0 TX0 5, ((w.onTables && w.keeps) = true ∨ ∃ ty, w = .arrayClass ty) := fun w h => Or.inl (List.all_eq_true.mp (show (u_ws RX0 TX0 5).all (fun w => w.onTables && w.keeps) = true from by decide +kernel) w h)
theorem td_g17 : ∀ w ∈ u_ws RX1 TX1 4, ((w.onTables && w.keeps) = true ∨ ∃ ty, w = .arrayClass ty) := fun w h => Or.inl (List.all_eq_true.mp (show (u_ws RX1 TX1 4).all (fun w => w.onTables && w.keeps) = true from by decide +kernel) w h)
theorem td_g18 : ∀ w ∈ u_ws RX2 TX2 15, ((w.onTables && w.keeps) = true ∨ ∃ ty, w = .arrayClass ty) := fun w h => Or.inl (List.all_eq_true.mp (show (u_ws RX2 TX2 15).all (fun w => w.onTables && w.keeps) = true from by decide +kernel) w h)
theorem td_g19 : ∀ w ∈ u_ws RX3 TX3 4, ((w.onTables && w.keeps) = true ∨ ∃ ty, w = .arrayClass ty) := fun w h => Or.inl (List.all_eq_true.mp (show (u_ws RX3 TX3 4).all (fun w => w.onTables && w.keeps) = true from by decide +kernel) w h)
theorem td_g20 : ∀ w ∈ u_ws RX4 TX4 11, ((w.onTables && w.keeps) = true ∨ ∃ ty, w = .arrayClass ty) := fun w h => Or.inl (List.all_eq_true.mp (show (u_ws RX4 TX4 11).all (fun w => w.onTables && w.keeps) = true from by decide +kernel) w h)
theorem td_all_g : ∀ w ∈ td_all, ((w.onTables && w.keeps) = true ∨ ∃ ty, w = .arrayClass ty) := fun w h => (List.mem_append.mp h).elim (td_g0 w) (fun h0 => (List.mem_append.mp h0).elim (td_g1 w) (fun h1 => (List.mem_append.mp h1).elim (td_g2 w) (fun h2 => (List.mem_append.mp h2).elim (td_g3 w) (fun h3 => (List.mem_append.mp h3).elim (td_g4 w) (fun h4 => (List.mem_append.mp h4).elim (td_g5 w) (fun h5 => (List.mem_append.mp h5).elim (td_g6 w) (fun h6 => (List.mem_append.mp h6).elim (td_g7 w) (fun h7 => (List.mem_append.mp h7).elim (td_g8 w) (fun h8 => (List.mem_append.mp h8).elim (td_g9 w) (fun h9 => (List.mem_append.mp h9).elim (td_g10 w) (fun h10 => (List.mem_append.mp h10).elim (td_g11 w) (fun h11 => (List.mem_append.mp h11).elim (td_g12 w) (fun h12 => (List.mem_append.mp h12).elim (td_g13 w) (fun h13 => (List.mem_append.mp h13).elim (td_g14 w) (fun h14 => (List.mem_append.mp h14).elim (td_g15 w) (fun h15 => (List.mem_append.mp h15).elim (td_g16 w) (fun h16 => (List.mem_append.mp h16).elim (td_g17 w) (fun h17 => (List.mem_append.mp h17).elim (td_g18 w) (fun h18 => (List.mem_append.mp h18).elim (td_g19 w) (fun h19 => td_g20 w h19))))))))))))))))))))
theorem td_gd {c0 c1 : Cond} (h : c1 ∈ c0 :: td_all) (hc : (c1.onTables && c1.keeps) = true) : GoodIn (c0 :: td_all) (c1 :: td_all) := fun w hw => by
  rcases List.mem_cons.mp hw with rfl | hw
  · exact ⟨h, Or.inl hc⟩
  · exact ⟨List.mem_cons_of_mem _ hw, td_all_g w hw⟩
theorem td_gA {c0 c1 : Cond} {pre : List Cond} (hp : ∀ w ∈ pre, w ∈ c0 :: td_all ∧ (w.onTables && w.keeps) = true) (h : c1 ∈ c0 :: td_all) (hc : (c1.onTables && c1.keeps) = true) : GoodIn (c0 :: td_all) (pre ++ (c1 :: td_all)) := fun w hw => by
  rcases List.mem_append.mp hw with hw | hw
  · exact ⟨(hp w hw).1, Or.inl (hp w hw).2⟩
  · exact td_gd h hc w hw
theorem td_gV {c0 : Cond} {own C : String} {idx n : Nat} {y : MethodName} {cc : ByteArray} {rt : Option FieldType} (h1 : .methodLink own idx y ∈ c0 :: td_all) (h2 : .instanceMethod y ∈ c0 :: td_all) (h3 : .selects C y y ∈ c0 :: td_all) (h4 : .initialized C ∈ c0 :: td_all) (h : .code y cc n rt ∈ c0 :: td_all) : GoodIn (c0 :: td_all) (wsV own idx C y (.code y cc n rt :: td_all)) := by
  refine td_gA (fun w hw => ?_) h rfl
  simp only [List.mem_cons, List.not_mem_nil, or_false] at hw
  rcases hw with rfl | rfl | rfl | rfl
  · exact ⟨h1, rfl⟩
  · exact ⟨h2, rfl⟩
  · exact ⟨h3, rfl⟩
  · exact ⟨h4, rfl⟩
theorem td_gS {c0 : Cond} {own : String} {idx n : Nat} {y : MethodName} {cc : ByteArray} {rt : Option FieldType} (h1 : .methodLink own idx y ∈ c0 :: td_all) (h2 : .static y ∈ c0 :: td_all) (h4 : .initialized y.cls ∈ c0 :: td_all) (h : .code y cc n rt ∈ c0 :: td_all) : GoodIn (c0 :: td_all) (va_wsS own idx y (.code y cc n rt :: td_all)) := by
  refine td_gA (fun w hw => ?_) h rfl
  simp only [List.mem_cons, List.not_mem_nil, or_false] at hw
  rcases hw with rfl | rfl | rfl
  · exact ⟨h1, rfl⟩
  · exact ⟨h2, rfl⟩
  · exact ⟨h4, rfl⟩
theorem td_gC {c0 : Cond} {n : Nat} {y : MethodName} {cc : ByteArray} {rt : Option FieldType} (h : .code y cc n rt ∈ c0 :: td_all) : GoodIn (c0 :: td_all) (.code y cc n rt :: td_all) := td_gd h rfl
def td_nl : List Cond := [.methodLinkNest RX3 11 yX0_init "TileDesk", .methodLinkNest RX3 18 yX1_init "TileDesk", .fieldLinkNest RX2 126 "TileDesk$Pieces" "tints" "[I" "TileDesk", .fieldLinkNest RX2 129 "TileDesk$Pieces" "covers" "[I" "TileDesk", .fieldLinkNest RX2 83 "TileDesk$Pieces" "size" "I" "TileDesk", .fieldLinkNest RX3 87 "TileDesk$Pieces" "size" "I" "TileDesk", .methodLinkNest RX2 11 yX1_init "TileDesk", .methodLinkNest RX2 20 yX0_init "TileDesk", .fieldLinkNest RX3 96 "TileDesk$Picture" "width" "I" "TileDesk", .fieldLinkNest RX3 99 "TileDesk$Picture" "height" "I" "TileDesk", .fieldLinkNest RX3 76 "TileDesk$Picture" "colours" "[I" "TileDesk", .fieldLinkNest RX3 84 "TileDesk$Picture" "nearest" "[I" "TileDesk", .fieldLinkNest RX3 90 "TileDesk$Picture" "taken" "LTileDesk$Pieces;" "TileDesk", .fieldLinkNest RX3 93 "TileDesk$Picture" "doneTiles" "I" "TileDesk", .methodLinkNest RX2 89 yX3_quotient "TileDesk", .methodLinkNest RX0 50 yX3_quotient "TileDesk", .methodLinkNest RX2 143 yX3_litColour "TileDesk", .methodLinkNest RX2 147 yX3_mixedColour "TileDesk", .methodLinkNest RX2 72 yX3_isWithin "TileDesk"]
set_option maxRecDepth 20000 in
theorem td_nl_in : ∀ w ∈ td_nl, w ∈ lw_tbl := List.forall_mem_cons.mpr ⟨List.mem_append_right _ (List.mem_append_left _ (List.mem_of_getElem? (i := 18) rfl)), List.forall_mem_cons.mpr ⟨List.mem_append_right _ (List.mem_append_left _ (List.mem_of_getElem? (i := 41) rfl)), List.forall_mem_cons.mpr ⟨List.mem_append_right _ (List.mem_append_left _ (List.mem_of_getElem? (i := 47) rfl)), List.forall_mem_cons.mpr ⟨List.mem_append_right _ (List.mem_append_left _ (List.mem_of_getElem? (i := 49) rfl)), List.forall_mem_cons.mpr ⟨List.mem_append_right _ (List.mem_append_left _ (List.mem_of_getElem? (i := 51) rfl)), List.forall_mem_cons.mpr ⟨List.mem_append_right _ (List.mem_append_left _ (List.mem_of_getElem? (i := 52) rfl)), List.forall_mem_cons.mpr ⟨List.mem_append_right _ (List.mem_append_left _ (List.mem_of_getElem? (i := 79) rfl)), List.forall_mem_cons.mpr ⟨List.mem_append_right _ (List.mem_append_left _ (List.mem_of_getElem? (i := 81) rfl)), List.forall_mem_cons.mpr ⟨List.mem_append_right _ (List.mem_append_left _ (List.mem_of_getElem? (i := 83) rfl)), List.forall_mem_cons.mpr ⟨List.mem_append_right _ (List.mem_append_left _ (List.mem_of_getElem? (i := 85) rfl)), List.forall_mem_cons.mpr ⟨List.mem_append_right _ (List.mem_append_left _ (List.mem_of_getElem? (i := 88) rfl)), List.forall_mem_cons.mpr ⟨List.mem_append_right _ (List.mem_append_left _ (List.mem_of_getElem? (i := 90) rfl)), List.forall_mem_cons.mpr ⟨List.mem_append_right _ (List.mem_append_left _ (List.mem_of_getElem? (i := 93) rfl)), List.forall_mem_cons.mpr ⟨List.mem_append_right _ (List.mem_append_left _ (List.mem_of_getElem? (i := 98) rfl)), List.forall_mem_cons.mpr ⟨List.mem_append_right _ (List.mem_append_left _ (List.mem_of_getElem? (i := 224) rfl)), List.forall_mem_cons.mpr ⟨List.mem_append_right _ (List.mem_append_right _ (List.mem_of_getElem? (i := 27) rfl)), List.forall_mem_cons.mpr ⟨List.mem_append_right _ (List.mem_append_right _ (List.mem_of_getElem? (i := 75) rfl)), List.forall_mem_cons.mpr ⟨List.mem_append_right _ (List.mem_append_right _ (List.mem_of_getElem? (i := 80) rfl)), List.forall_mem_cons.mpr ⟨List.mem_append_right _ (List.mem_append_right _ (List.mem_of_getElem? (i := 92) rfl)), fun _ h => absurd h List.not_mem_nil⟩⟩⟩⟩⟩⟩⟩⟩⟩⟩⟩⟩⟩⟩⟩⟩⟩⟩⟩
abbrev wsX3_init : List Cond := .code yX3_init cX3_init 3 none :: td_all
abbrev wsX3_corner : List Cond := .code yX3_corner cX3_corner 7 (some .boolean) :: td_all
abbrev wsX3_add : List Cond := .code yX3_add cX3_add 3 (some .int) :: td_all
abbrev wsX3_clear : List Cond := .code yX3_clear cX3_clear 1 none :: td_all
abbrev wsX3_background : List Cond := .code yX3_background cX3_background 2 (some .boolean) :: td_all
abbrev wsX3_begin : List Cond := .code yX3_begin cX3_begin 1 (some .int) :: td_all
abbrev wsX3_tile : List Cond := .code yX3_tile cX3_tile 2 (some .boolean) :: td_all
abbrev wsX3_pixel : List Cond := .code yX3_pixel cX3_pixel 3 (some .int) :: td_all
abbrev wsX3_nearness : List Cond := .code yX3_nearness cX3_nearness 3 (some .int) :: td_all
abbrev wsX3_count : List Cond := .code yX3_count cX3_count 2 (some .int) :: td_all
abbrev wsX3_nearestSide : List Cond := .code yX3_nearestSide cX3_nearestSide 1 (some .int) :: td_all
abbrev wsX3_isWithin : List Cond := .code yX3_isWithin cX3_isWithin 3 (some .boolean) :: td_all
abbrev wsX3_isColour : List Cond := .code yX3_isColour cX3_isColour 1 (some .boolean) :: td_all
abbrev wsX3_quotient : List Cond := .code yX3_quotient cX3_quotient 4 (some .long) :: td_all
abbrev wsX3_litColour : List Cond := .code yX3_litColour cX3_litColour 7 (some .int) :: td_all
abbrev wsX3_mixedColour : List Cond := .code yX3_mixedColour cX3_mixedColour 11 (some .int) :: td_all
abbrev wsX4_init : List Cond := .code yX4_init cX4_init 4 none :: td_all
abbrev wsX4_corner : List Cond := .code yX4_corner cX4_corner 7 (some .boolean) :: td_all
abbrev wsX4_edge : List Cond := .code yX4_edge cX4_edge 7 (some .long) :: td_all
abbrev wsX4_area : List Cond := .code yX4_area cX4_area 2 (some .long) :: td_all
abbrev wsX4_isColour : List Cond := .code yX4_isColour cX4_isColour 1 (some .boolean) :: td_all
abbrev wsX4_add : List Cond := .code yX4_add cX4_add 4 (some .int) :: td_all
abbrev wsX4_clear : List Cond := .code yX4_clear cX4_clear 1 none :: td_all
abbrev wsX4_background : List Cond := .code yX4_background cX4_background 2 (some .boolean) :: td_all
abbrev wsX4_holds : List Cond := .code yX4_holds cX4_holds 10 (some .boolean) :: td_all
abbrev wsX4_part : List Cond := .code yX4_part cX4_part 2 (some .int) :: td_all
abbrev wsX4_over : List Cond := .code yX4_over cX4_over 9 (some .int) :: td_all
abbrev wsX4_draw : List Cond := .code yX4_draw cX4_draw 21 none :: td_all
abbrev wsX4_columns : List Cond := .code yX4_columns cX4_columns 1 (some .int) :: td_all
abbrev wsX4_tiles : List Cond := .code yX4_tiles cX4_tiles 1 (some .int) :: td_all
abbrev wsX4_begin : List Cond := .code yX4_begin cX4_begin 5 (some .int) :: td_all
abbrev wsX4_tile : List Cond := .code yX4_tile cX4_tile 2 (some .boolean) :: td_all
abbrev wsX4_isSeen : List Cond := .code yX4_isSeen cX4_isSeen 3 (some .boolean) :: td_all
abbrev wsX4_pixel : List Cond := .code yX4_pixel cX4_pixel 3 (some .int) :: td_all
abbrev wsX4_nearness : List Cond := .code yX4_nearness cX4_nearness 3 (some .int) :: td_all
abbrev wsX4_count : List Cond := .code yX4_count cX4_count 4 (some .int) :: td_all
abbrev wsX2_init : List Cond := .code yX2_init cX2_init 4 none :: td_all
abbrev wsX2_start : List Cond := .code yX2_start cX2_start 4 (some .int) :: td_all
abbrev wsX2_pixelIndex : List Cond := .code yX2_pixelIndex cX2_pixelIndex 3 (some .int) :: td_all
abbrev wsX2_isShown : List Cond := .code yX2_isShown cX2_isShown 3 (some .boolean) :: td_all
abbrev wsX2_drawTile : List Cond := .code yX2_drawTile cX2_drawTile 3 (some .boolean) :: td_all
abbrev wsX2_frameTile : List Cond := .code yX2_frameTile cX2_frameTile 4 none :: td_all
abbrev wsX2_fillWithBackground : List Cond := .code yX2_fillWithBackground cX2_fillWithBackground 3 none :: td_all
abbrev wsX2_drawPiece : List Cond := .code yX2_drawPiece cX2_drawPiece 8 none :: td_all
abbrev wsX2_paint : List Cond := .code yX2_paint cX2_paint 6 none :: td_all
abbrev wsX1_init : List Cond := .code yX1_init cX1_init 1 none :: td_all
abbrev wsX1_append : List Cond := .code yX1_append cX1_append 5 (some .int) :: td_all
abbrev wsX1_removeAll : List Cond := .code yX1_removeAll cX1_removeAll 1 none :: td_all
abbrev wsX1_copyFrom : List Cond := .code yX1_copyFrom cX1_copyFrom 2 none :: td_all
abbrev wsX1_unpackTo : List Cond := .code yX1_unpackTo cX1_unpackTo 4 none :: td_all
abbrev wsX0_init : List Cond := .code yX0_init cX0_init 1 none :: td_all
abbrev wsX0_setCorner : List Cond := .code yX0_setCorner cX0_setCorner 10 none :: td_all
abbrev wsX0_packedCorner : List Cond := .code yX0_packedCorner cX0_packedCorner 4 (some .long) :: td_all
abbrev wsX0_unpackCorner : List Cond := .code yX0_unpackCorner cX0_unpackCorner 8 none :: td_all
abbrev wsX0_area : List Cond := .code yX0_area cX0_area 1 (some .long) :: td_all
abbrev wsX0_coversPixel : List Cond := .code yX0_coversPixel cX0_coversPixel 12 (some .boolean) :: td_all
abbrev wsX0_ownsItsEdge : List Cond := .code yX0_ownsItsEdge cX0_ownsItsEdge 3 (some .boolean) :: td_all
abbrev wsX0_weighedR : List Cond := .code yX0_weighedR cX0_weighedR 1 (some .long) :: td_all
abbrev wsX0_nearnessHere : List Cond := .code yX0_nearnessHere cX0_nearnessHere 1 (some .long) :: td_all
abbrev wsX0_lightHere : List Cond := .code yX0_lightHere cX0_lightHere 3 (some .long) :: td_all
abbrev wsX0_firstColumn : List Cond := .code yX0_firstColumn cX0_firstColumn 1 (some .int) :: td_all
abbrev wsX0_lastColumn : List Cond := .code yX0_lastColumn cX0_lastColumn 1 (some .int) :: td_all
abbrev wsX0_firstRow : List Cond := .code yX0_firstRow cX0_firstRow 1 (some .int) :: td_all
abbrev wsX0_lastRow : List Cond := .code yX0_lastRow cX0_lastRow 1 (some .int) :: td_all
abbrev wsX0_least : List Cond := .code yX0_least cX0_least 1 (some .long) :: td_all
abbrev wsX0_most : List Cond := .code yX0_most cX0_most 1 (some .long) :: td_all
abbrev wsX0_firstMiddle : List Cond := .code yX0_firstMiddle cX0_firstMiddle 2 (some .int) :: td_all
abbrev wsX0_lastMiddle : List Cond := .code yX0_lastMiddle cX0_lastMiddle 2 (some .int) :: td_all
abbrev wsL_cell : List Cond := .code yL_cell cL_cell 2 (some .int) :: td_all
abbrev wsJ_floorDiv : List Cond := .code yJ_floorDiv cJ_floorDiv 6 (some .long) :: td_all
abbrev wsJ_max : List Cond := .code yJ_max cJ_max 2 (some .int) :: td_all
abbrev wsJ_max_ : List Cond := .code yJ_max_ cJ_max_ 4 (some .long) :: td_all
abbrev wsJ_min : List Cond := .code yJ_min cJ_min 2 (some .int) :: td_all
abbrev wsJ_min_ : List Cond := .code yJ_min_ cJ_min_ 4 (some .long) :: td_all
abbrev wsL_law : List Cond := .initialized RL :: td_all
end
section
theorem dX0_init_0 : decode cX0_init 0 = .ok (.aload_n 0, 1) := by decide +kernel
theorem dX0_init_1 : decode cX0_init 1 = .ok (.invokespecial 3, 3) := by decide +kernel
theorem dX0_init_4 : decode cX0_init 4 = .ok (.aload_n 0, 1) := by decide +kernel
theorem dX0_init_5 : decode cX0_init 5 = .ok (.iconst 3, 1) := by decide +kernel
theorem dX0_init_6 : decode cX0_init 6 = .ok (.newarray .long, 2) := by decide +kernel
theorem dX0_init_8 : decode cX0_init 8 = .ok (.putfield 9, 3) := by decide +kernel
theorem dX0_init_11 : decode cX0_init 11 = .ok (.aload_n 0, 1) := by decide +kernel
theorem dX0_init_12 : decode cX0_init 12 = .ok (.iconst 3, 1) := by decide +kernel
theorem dX0_init_13 : decode cX0_init 13 = .ok (.newarray .long, 2) := by decide +kernel
theorem dX0_init_15 : decode cX0_init 15 = .ok (.putfield 15, 3) := by decide +kernel
theorem dX0_init_18 : decode cX0_init 18 = .ok (.aload_n 0, 1) := by decide +kernel
theorem dX0_init_19 : decode cX0_init 19 = .ok (.iconst 3, 1) := by decide +kernel
theorem dX0_init_20 : decode cX0_init 20 = .ok (.newarray .long, 2) := by decide +kernel
theorem dX0_init_22 : decode cX0_init 22 = .ok (.dup, 1) := by decide +kernel
theorem dX0_init_23 : decode cX0_init 23 = .ok (.iconst 0, 1) := by decide +kernel
theorem dX0_init_24 : decode cX0_init 24 = .ok (.lconst 1, 1) := by decide +kernel
theorem dX0_init_25 : decode cX0_init 25 = .ok (.lastore, 1) := by decide +kernel
theorem dX0_init_26 : decode cX0_init 26 = .ok (.dup, 1) := by decide +kernel
theorem dX0_init_27 : decode cX0_init 27 = .ok (.iconst 1, 1) := by decide +kernel
theorem dX0_init_28 : decode cX0_init 28 = .ok (.lconst 1, 1) := by decide +kernel
theorem dX0_init_29 : decode cX0_init 29 = .ok (.lastore, 1) := by decide +kernel
theorem dX0_init_30 : decode cX0_init 30 = .ok (.dup, 1) := by decide +kernel
theorem dX0_init_31 : decode cX0_init 31 = .ok (.iconst 2, 1) := by decide +kernel
theorem dX0_init_32 : decode cX0_init 32 = .ok (.lconst 1, 1) := by decide +kernel
theorem dX0_init_33 : decode cX0_init 33 = .ok (.lastore, 1) := by decide +kernel
theorem dX0_init_34 : decode cX0_init 34 = .ok (.putfield 18, 3) := by decide +kernel
theorem dX0_init_37 : decode cX0_init 37 = .ok (.aload_n 0, 1) := by decide +kernel
theorem dX0_init_38 : decode cX0_init 38 = .ok (.iconst 3, 1) := by decide +kernel
theorem dX0_init_39 : decode cX0_init 39 = .ok (.newarray .long, 2) := by decide +kernel
theorem dX0_init_41 : decode cX0_init 41 = .ok (.putfield 21, 3) := by decide +kernel
theorem dX0_init_44 : decode cX0_init 44 = .ok (.aload_n 0, 1) := by decide +kernel
theorem dX0_init_45 : decode cX0_init 45 = .ok (.iconst 3, 1) := by decide +kernel
theorem dX0_init_46 : decode cX0_init 46 = .ok (.newarray .long, 2) := by decide +kernel
theorem dX0_init_48 : decode cX0_init 48 = .ok (.putfield 24, 3) := by decide +kernel
theorem dX0_init_51 : decode cX0_init 51 = .ok (.return_, 1) := by decide +kernel
theorem dX0_setCorner_0 : decode cX0_setCorner 0 = .ok (.aload_n 0, 1) := by decide +kernel
theorem dX0_setCorner_1 : decode cX0_setCorner 1 = .ok (.getfield 9, 3) := by decide +kernel
theorem dX0_setCorner_4 : decode cX0_setCorner 4 = .ok (.iload_n 1, 1) := by decide +kernel
theorem dX0_setCorner_5 : decode cX0_setCorner 5 = .ok (.lload_n 2, 1) := by decide +kernel
theorem dX0_setCorner_6 : decode cX0_setCorner 6 = .ok (.lastore, 1) := by decide +kernel
theorem dX0_setCorner_7 : decode cX0_setCorner 7 = .ok (.aload_n 0, 1) := by decide +kernel
theorem dX0_setCorner_8 : decode cX0_setCorner 8 = .ok (.getfield 15, 3) := by decide +kernel
theorem dX0_setCorner_11 : decode cX0_setCorner 11 = .ok (.iload_n 1, 1) := by decide +kernel
theorem dX0_setCorner_12 : decode cX0_setCorner 12 = .ok (.lload 4, 2) := by decide +kernel
theorem dX0_setCorner_14 : decode cX0_setCorner 14 = .ok (.lastore, 1) := by decide +kernel
theorem dX0_setCorner_15 : decode cX0_setCorner 15 = .ok (.aload_n 0, 1) := by decide +kernel
theorem dX0_setCorner_16 : decode cX0_setCorner 16 = .ok (.getfield 18, 3) := by decide +kernel
theorem dX0_setCorner_19 : decode cX0_setCorner 19 = .ok (.iload_n 1, 1) := by decide +kernel
theorem dX0_setCorner_20 : decode cX0_setCorner 20 = .ok (.lload 6, 2) := by decide +kernel
theorem dX0_setCorner_22 : decode cX0_setCorner 22 = .ok (.lastore, 1) := by decide +kernel
theorem dX0_setCorner_23 : decode cX0_setCorner 23 = .ok (.aload_n 0, 1) := by decide +kernel
theorem dX0_setCorner_24 : decode cX0_setCorner 24 = .ok (.getfield 21, 3) := by decide +kernel
theorem dX0_setCorner_27 : decode cX0_setCorner 27 = .ok (.iload_n 1, 1) := by decide +kernel
theorem dX0_setCorner_28 : decode cX0_setCorner 28 = .ok (.lload 8, 2) := by decide +kernel
theorem dX0_setCorner_30 : decode cX0_setCorner 30 = .ok (.lastore, 1) := by decide +kernel
theorem dX0_setCorner_31 : decode cX0_setCorner 31 = .ok (.return_, 1) := by decide +kernel
theorem dX0_packedCorner_0 : decode cX0_packedCorner 0 = .ok (.aload_n 0, 1) := by decide +kernel
theorem dX0_packedCorner_1 : decode cX0_packedCorner 1 = .ok (.getfield 9, 3) := by decide +kernel
theorem dX0_packedCorner_4 : decode cX0_packedCorner 4 = .ok (.iload_n 1, 1) := by decide +kernel
theorem dX0_packedCorner_5 : decode cX0_packedCorner 5 = .ok (.laload, 1) := by decide +kernel
theorem dX0_packedCorner_6 : decode cX0_packedCorner 6 = .ok (.ldc2_w 27, 3) := by decide +kernel
theorem dX0_packedCorner_9 : decode cX0_packedCorner 9 = .ok (.ladd, 1) := by decide +kernel
theorem dX0_packedCorner_10 : decode cX0_packedCorner 10 = .ok (.ldc2_w 29, 3) := by decide +kernel
theorem dX0_packedCorner_13 : decode cX0_packedCorner 13 = .ok (.lmul, 1) := by decide +kernel
theorem dX0_packedCorner_14 : decode cX0_packedCorner 14 = .ok (.aload_n 0, 1) := by decide +kernel
theorem dX0_packedCorner_15 : decode cX0_packedCorner 15 = .ok (.getfield 15, 3) := by decide +kernel
theorem dX0_packedCorner_18 : decode cX0_packedCorner 18 = .ok (.iload_n 1, 1) := by decide +kernel
theorem dX0_packedCorner_19 : decode cX0_packedCorner 19 = .ok (.laload, 1) := by decide +kernel
theorem dX0_packedCorner_20 : decode cX0_packedCorner 20 = .ok (.ladd, 1) := by decide +kernel
theorem dX0_packedCorner_21 : decode cX0_packedCorner 21 = .ok (.ldc2_w 27, 3) := by decide +kernel
theorem dX0_packedCorner_24 : decode cX0_packedCorner 24 = .ok (.ladd, 1) := by decide +kernel
theorem dX0_packedCorner_25 : decode cX0_packedCorner 25 = .ok (.lstore_n 2, 1) := by decide +kernel
theorem dX0_packedCorner_26 : decode cX0_packedCorner 26 = .ok (.lload_n 2, 1) := by decide +kernel
theorem dX0_packedCorner_27 : decode cX0_packedCorner 27 = .ok (.ldc2_w 31, 3) := by decide +kernel
theorem dX0_packedCorner_30 : decode cX0_packedCorner 30 = .ok (.lmul, 1) := by decide +kernel
theorem dX0_packedCorner_31 : decode cX0_packedCorner 31 = .ok (.aload_n 0, 1) := by decide +kernel
theorem dX0_packedCorner_32 : decode cX0_packedCorner 32 = .ok (.getfield 18, 3) := by decide +kernel
theorem dX0_packedCorner_35 : decode cX0_packedCorner 35 = .ok (.iload_n 1, 1) := by decide +kernel
theorem dX0_packedCorner_36 : decode cX0_packedCorner 36 = .ok (.laload, 1) := by decide +kernel
theorem dX0_packedCorner_37 : decode cX0_packedCorner 37 = .ok (.ladd, 1) := by decide +kernel
theorem dX0_packedCorner_38 : decode cX0_packedCorner 38 = .ok (.lconst 1, 1) := by decide +kernel
theorem dX0_packedCorner_39 : decode cX0_packedCorner 39 = .ok (.lsub, 1) := by decide +kernel
theorem dX0_packedCorner_40 : decode cX0_packedCorner 40 = .ok (.ldc2_w 33, 3) := by decide +kernel
theorem dX0_packedCorner_43 : decode cX0_packedCorner 43 = .ok (.lmul, 1) := by decide +kernel
theorem dX0_packedCorner_44 : decode cX0_packedCorner 44 = .ok (.aload_n 0, 1) := by decide +kernel
theorem dX0_packedCorner_45 : decode cX0_packedCorner 45 = .ok (.getfield 21, 3) := by decide +kernel
theorem dX0_packedCorner_48 : decode cX0_packedCorner 48 = .ok (.iload_n 1, 1) := by decide +kernel
theorem dX0_packedCorner_49 : decode cX0_packedCorner 49 = .ok (.laload, 1) := by decide +kernel
theorem dX0_packedCorner_50 : decode cX0_packedCorner 50 = .ok (.ladd, 1) := by decide +kernel
theorem dX0_packedCorner_51 : decode cX0_packedCorner 51 = .ok (.lreturn, 1) := by decide +kernel
theorem dX0_unpackCorner_0 : decode cX0_unpackCorner 0 = .ok (.lload_n 2, 1) := by decide +kernel
theorem dX0_unpackCorner_1 : decode cX0_unpackCorner 1 = .ok (.ldc2_w 33, 3) := by decide +kernel
theorem dX0_unpackCorner_4 : decode cX0_unpackCorner 4 = .ok (.ldiv, 1) := by decide +kernel
theorem dX0_unpackCorner_5 : decode cX0_unpackCorner 5 = .ok (.lstore 4, 2) := by decide +kernel
theorem dX0_unpackCorner_7 : decode cX0_unpackCorner 7 = .ok (.lload 4, 2) := by decide +kernel
theorem dX0_unpackCorner_9 : decode cX0_unpackCorner 9 = .ok (.ldc2_w 31, 3) := by decide +kernel
theorem dX0_unpackCorner_12 : decode cX0_unpackCorner 12 = .ok (.ldiv, 1) := by decide +kernel
theorem dX0_unpackCorner_13 : decode cX0_unpackCorner 13 = .ok (.lstore 6, 2) := by decide +kernel
theorem dX0_unpackCorner_15 : decode cX0_unpackCorner 15 = .ok (.aload_n 0, 1) := by decide +kernel
theorem dX0_unpackCorner_16 : decode cX0_unpackCorner 16 = .ok (.iload_n 1, 1) := by decide +kernel
theorem dX0_unpackCorner_17 : decode cX0_unpackCorner 17 = .ok (.lload 6, 2) := by decide +kernel
theorem dX0_unpackCorner_19 : decode cX0_unpackCorner 19 = .ok (.ldc2_w 29, 3) := by decide +kernel
theorem dX0_unpackCorner_22 : decode cX0_unpackCorner 22 = .ok (.ldiv, 1) := by decide +kernel
theorem dX0_unpackCorner_23 : decode cX0_unpackCorner 23 = .ok (.ldc2_w 27, 3) := by decide +kernel
theorem dX0_unpackCorner_26 : decode cX0_unpackCorner 26 = .ok (.lsub, 1) := by decide +kernel
theorem dX0_unpackCorner_27 : decode cX0_unpackCorner 27 = .ok (.lload 6, 2) := by decide +kernel
theorem dX0_unpackCorner_29 : decode cX0_unpackCorner 29 = .ok (.ldc2_w 29, 3) := by decide +kernel
theorem dX0_unpackCorner_32 : decode cX0_unpackCorner 32 = .ok (.lrem, 1) := by decide +kernel
theorem dX0_unpackCorner_33 : decode cX0_unpackCorner 33 = .ok (.ldc2_w 27, 3) := by decide +kernel
theorem dX0_unpackCorner_36 : decode cX0_unpackCorner 36 = .ok (.lsub, 1) := by decide +kernel
theorem dX0_unpackCorner_37 : decode cX0_unpackCorner 37 = .ok (.lload 4, 2) := by decide +kernel
theorem dX0_unpackCorner_39 : decode cX0_unpackCorner 39 = .ok (.ldc2_w 31, 3) := by decide +kernel
theorem dX0_unpackCorner_42 : decode cX0_unpackCorner 42 = .ok (.lrem, 1) := by decide +kernel
theorem dX0_unpackCorner_43 : decode cX0_unpackCorner 43 = .ok (.lconst 1, 1) := by decide +kernel
theorem dX0_unpackCorner_44 : decode cX0_unpackCorner 44 = .ok (.ladd, 1) := by decide +kernel
theorem dX0_unpackCorner_45 : decode cX0_unpackCorner 45 = .ok (.lload_n 2, 1) := by decide +kernel
theorem dX0_unpackCorner_46 : decode cX0_unpackCorner 46 = .ok (.ldc2_w 33, 3) := by decide +kernel
theorem dX0_unpackCorner_49 : decode cX0_unpackCorner 49 = .ok (.lrem, 1) := by decide +kernel
theorem dX0_unpackCorner_50 : decode cX0_unpackCorner 50 = .ok (.invokevirtual 35, 3) := by decide +kernel
theorem dX0_unpackCorner_53 : decode cX0_unpackCorner 53 = .ok (.return_, 1) := by decide +kernel
theorem dX0_area_0 : decode cX0_area 0 = .ok (.aload_n 0, 1) := by decide +kernel
theorem dX0_area_1 : decode cX0_area 1 = .ok (.getfield 9, 3) := by decide +kernel
theorem dX0_area_4 : decode cX0_area 4 = .ok (.iconst 1, 1) := by decide +kernel
theorem dX0_area_5 : decode cX0_area 5 = .ok (.laload, 1) := by decide +kernel
theorem dX0_area_6 : decode cX0_area 6 = .ok (.aload_n 0, 1) := by decide +kernel
theorem dX0_area_7 : decode cX0_area 7 = .ok (.getfield 9, 3) := by decide +kernel
theorem dX0_area_10 : decode cX0_area 10 = .ok (.iconst 0, 1) := by decide +kernel
theorem dX0_area_11 : decode cX0_area 11 = .ok (.laload, 1) := by decide +kernel
theorem dX0_area_12 : decode cX0_area 12 = .ok (.lsub, 1) := by decide +kernel
theorem dX0_area_13 : decode cX0_area 13 = .ok (.aload_n 0, 1) := by decide +kernel
theorem dX0_area_14 : decode cX0_area 14 = .ok (.getfield 15, 3) := by decide +kernel
theorem dX0_area_17 : decode cX0_area 17 = .ok (.iconst 2, 1) := by decide +kernel
theorem dX0_area_18 : decode cX0_area 18 = .ok (.laload, 1) := by decide +kernel
theorem dX0_area_19 : decode cX0_area 19 = .ok (.aload_n 0, 1) := by decide +kernel
theorem dX0_area_20 : decode cX0_area 20 = .ok (.getfield 15, 3) := by decide +kernel
theorem dX0_area_23 : decode cX0_area 23 = .ok (.iconst 0, 1) := by decide +kernel
theorem dX0_area_24 : decode cX0_area 24 = .ok (.laload, 1) := by decide +kernel
theorem dX0_area_25 : decode cX0_area 25 = .ok (.lsub, 1) := by decide +kernel
theorem dX0_area_26 : decode cX0_area 26 = .ok (.lmul, 1) := by decide +kernel
theorem dX0_area_27 : decode cX0_area 27 = .ok (.aload_n 0, 1) := by decide +kernel
theorem dX0_area_28 : decode cX0_area 28 = .ok (.getfield 9, 3) := by decide +kernel
theorem dX0_area_31 : decode cX0_area 31 = .ok (.iconst 2, 1) := by decide +kernel
theorem dX0_area_32 : decode cX0_area 32 = .ok (.laload, 1) := by decide +kernel
theorem dX0_area_33 : decode cX0_area 33 = .ok (.aload_n 0, 1) := by decide +kernel
theorem dX0_area_34 : decode cX0_area 34 = .ok (.getfield 9, 3) := by decide +kernel
theorem dX0_area_37 : decode cX0_area 37 = .ok (.iconst 0, 1) := by decide +kernel
theorem dX0_area_38 : decode cX0_area 38 = .ok (.laload, 1) := by decide +kernel
theorem dX0_area_39 : decode cX0_area 39 = .ok (.lsub, 1) := by decide +kernel
theorem dX0_area_40 : decode cX0_area 40 = .ok (.aload_n 0, 1) := by decide +kernel
theorem dX0_area_41 : decode cX0_area 41 = .ok (.getfield 15, 3) := by decide +kernel
theorem dX0_area_44 : decode cX0_area 44 = .ok (.iconst 1, 1) := by decide +kernel
theorem dX0_area_45 : decode cX0_area 45 = .ok (.laload, 1) := by decide +kernel
theorem dX0_area_46 : decode cX0_area 46 = .ok (.aload_n 0, 1) := by decide +kernel
theorem dX0_area_47 : decode cX0_area 47 = .ok (.getfield 15, 3) := by decide +kernel
theorem dX0_area_50 : decode cX0_area 50 = .ok (.iconst 0, 1) := by decide +kernel
theorem dX0_area_51 : decode cX0_area 51 = .ok (.laload, 1) := by decide +kernel
theorem dX0_area_52 : decode cX0_area 52 = .ok (.lsub, 1) := by decide +kernel
theorem dX0_area_53 : decode cX0_area 53 = .ok (.lmul, 1) := by decide +kernel
theorem dX0_area_54 : decode cX0_area 54 = .ok (.lsub, 1) := by decide +kernel
theorem dX0_area_55 : decode cX0_area 55 = .ok (.lreturn, 1) := by decide +kernel
theorem dX0_coversPixel_0 : decode cX0_coversPixel 0 = .ok (.bipush 16, 2) := by decide +kernel
theorem dX0_coversPixel_2 : decode cX0_coversPixel 2 = .ok (.iload_n 1, 1) := by decide +kernel
theorem dX0_coversPixel_3 : decode cX0_coversPixel 3 = .ok (.imul, 1) := by decide +kernel
theorem dX0_coversPixel_4 : decode cX0_coversPixel 4 = .ok (.bipush 8, 2) := by decide +kernel
theorem dX0_coversPixel_6 : decode cX0_coversPixel 6 = .ok (.iadd, 1) := by decide +kernel
theorem dX0_coversPixel_7 : decode cX0_coversPixel 7 = .ok (.i2l, 1) := by decide +kernel
theorem dX0_coversPixel_8 : decode cX0_coversPixel 8 = .ok (.lstore_n 3, 1) := by decide +kernel
theorem dX0_coversPixel_9 : decode cX0_coversPixel 9 = .ok (.bipush 16, 2) := by decide +kernel
theorem dX0_coversPixel_11 : decode cX0_coversPixel 11 = .ok (.iload_n 2, 1) := by decide +kernel
theorem dX0_coversPixel_12 : decode cX0_coversPixel 12 = .ok (.imul, 1) := by decide +kernel
theorem dX0_coversPixel_13 : decode cX0_coversPixel 13 = .ok (.bipush 8, 2) := by decide +kernel
theorem dX0_coversPixel_15 : decode cX0_coversPixel 15 = .ok (.iadd, 1) := by decide +kernel
theorem dX0_coversPixel_16 : decode cX0_coversPixel 16 = .ok (.i2l, 1) := by decide +kernel
theorem dX0_coversPixel_17 : decode cX0_coversPixel 17 = .ok (.lstore 5, 2) := by decide +kernel
theorem dX0_coversPixel_19 : decode cX0_coversPixel 19 = .ok (.iconst 0, 1) := by decide +kernel
theorem dX0_coversPixel_20 : decode cX0_coversPixel 20 = .ok (.istore 7, 2) := by decide +kernel
theorem dX0_coversPixel_22 : decode cX0_coversPixel 22 = .ok (.iload 7, 2) := by decide +kernel
theorem dX0_coversPixel_24 : decode cX0_coversPixel 24 = .ok (.iconst 3, 1) := by decide +kernel
theorem dX0_coversPixel_25 : decode cX0_coversPixel 25 = .ok (.if_icmp .ge 115, 3) := by decide +kernel
theorem dX0_coversPixel_28 : decode cX0_coversPixel 28 = .ok (.iload 7, 2) := by decide +kernel
theorem dX0_coversPixel_30 : decode cX0_coversPixel 30 = .ok (.iconst 1, 1) := by decide +kernel
theorem dX0_coversPixel_31 : decode cX0_coversPixel 31 = .ok (.iadd, 1) := by decide +kernel
theorem dX0_coversPixel_32 : decode cX0_coversPixel 32 = .ok (.iconst 3, 1) := by decide +kernel
theorem dX0_coversPixel_33 : decode cX0_coversPixel 33 = .ok (.irem, 1) := by decide +kernel
theorem dX0_coversPixel_34 : decode cX0_coversPixel 34 = .ok (.istore 8, 2) := by decide +kernel
theorem dX0_coversPixel_36 : decode cX0_coversPixel 36 = .ok (.iload 7, 2) := by decide +kernel
theorem dX0_coversPixel_38 : decode cX0_coversPixel 38 = .ok (.iconst 2, 1) := by decide +kernel
theorem dX0_coversPixel_39 : decode cX0_coversPixel 39 = .ok (.iadd, 1) := by decide +kernel
theorem dX0_coversPixel_40 : decode cX0_coversPixel 40 = .ok (.iconst 3, 1) := by decide +kernel
theorem dX0_coversPixel_41 : decode cX0_coversPixel 41 = .ok (.irem, 1) := by decide +kernel
theorem dX0_coversPixel_42 : decode cX0_coversPixel 42 = .ok (.istore 9, 2) := by decide +kernel
theorem dX0_coversPixel_44 : decode cX0_coversPixel 44 = .ok (.aload_n 0, 1) := by decide +kernel
theorem dX0_coversPixel_45 : decode cX0_coversPixel 45 = .ok (.getfield 9, 3) := by decide +kernel
theorem dX0_coversPixel_48 : decode cX0_coversPixel 48 = .ok (.iload 9, 2) := by decide +kernel
theorem dX0_coversPixel_50 : decode cX0_coversPixel 50 = .ok (.laload, 1) := by decide +kernel
theorem dX0_coversPixel_51 : decode cX0_coversPixel 51 = .ok (.aload_n 0, 1) := by decide +kernel
theorem dX0_coversPixel_52 : decode cX0_coversPixel 52 = .ok (.getfield 9, 3) := by decide +kernel
theorem dX0_coversPixel_55 : decode cX0_coversPixel 55 = .ok (.iload 8, 2) := by decide +kernel
theorem dX0_coversPixel_57 : decode cX0_coversPixel 57 = .ok (.laload, 1) := by decide +kernel
theorem dX0_coversPixel_58 : decode cX0_coversPixel 58 = .ok (.lsub, 1) := by decide +kernel
theorem dX0_coversPixel_59 : decode cX0_coversPixel 59 = .ok (.lload 5, 2) := by decide +kernel
theorem dX0_coversPixel_61 : decode cX0_coversPixel 61 = .ok (.aload_n 0, 1) := by decide +kernel
theorem dX0_coversPixel_62 : decode cX0_coversPixel 62 = .ok (.getfield 15, 3) := by decide +kernel
theorem dX0_coversPixel_65 : decode cX0_coversPixel 65 = .ok (.iload 8, 2) := by decide +kernel
theorem dX0_coversPixel_67 : decode cX0_coversPixel 67 = .ok (.laload, 1) := by decide +kernel
theorem dX0_coversPixel_68 : decode cX0_coversPixel 68 = .ok (.lsub, 1) := by decide +kernel
theorem dX0_coversPixel_69 : decode cX0_coversPixel 69 = .ok (.lmul, 1) := by decide +kernel
theorem dX0_coversPixel_70 : decode cX0_coversPixel 70 = .ok (.aload_n 0, 1) := by decide +kernel
theorem dX0_coversPixel_71 : decode cX0_coversPixel 71 = .ok (.getfield 15, 3) := by decide +kernel
theorem dX0_coversPixel_74 : decode cX0_coversPixel 74 = .ok (.iload 9, 2) := by decide +kernel
theorem dX0_coversPixel_76 : decode cX0_coversPixel 76 = .ok (.laload, 1) := by decide +kernel
theorem dX0_coversPixel_77 : decode cX0_coversPixel 77 = .ok (.aload_n 0, 1) := by decide +kernel
theorem dX0_coversPixel_78 : decode cX0_coversPixel 78 = .ok (.getfield 15, 3) := by decide +kernel
theorem dX0_coversPixel_81 : decode cX0_coversPixel 81 = .ok (.iload 8, 2) := by decide +kernel
theorem dX0_coversPixel_83 : decode cX0_coversPixel 83 = .ok (.laload, 1) := by decide +kernel
theorem dX0_coversPixel_84 : decode cX0_coversPixel 84 = .ok (.lsub, 1) := by decide +kernel
theorem dX0_coversPixel_85 : decode cX0_coversPixel 85 = .ok (.lload_n 3, 1) := by decide +kernel
theorem dX0_coversPixel_86 : decode cX0_coversPixel 86 = .ok (.aload_n 0, 1) := by decide +kernel
theorem dX0_coversPixel_87 : decode cX0_coversPixel 87 = .ok (.getfield 9, 3) := by decide +kernel
theorem dX0_coversPixel_90 : decode cX0_coversPixel 90 = .ok (.iload 8, 2) := by decide +kernel
theorem dX0_coversPixel_92 : decode cX0_coversPixel 92 = .ok (.laload, 1) := by decide +kernel
theorem dX0_coversPixel_93 : decode cX0_coversPixel 93 = .ok (.lsub, 1) := by decide +kernel
theorem dX0_coversPixel_94 : decode cX0_coversPixel 94 = .ok (.lmul, 1) := by decide +kernel
theorem dX0_coversPixel_95 : decode cX0_coversPixel 95 = .ok (.lsub, 1) := by decide +kernel
theorem dX0_coversPixel_96 : decode cX0_coversPixel 96 = .ok (.lstore 10, 2) := by decide +kernel
theorem dX0_coversPixel_98 : decode cX0_coversPixel 98 = .ok (.lload 10, 2) := by decide +kernel
theorem dX0_coversPixel_100 : decode cX0_coversPixel 100 = .ok (.lconst 0, 1) := by decide +kernel
theorem dX0_coversPixel_101 : decode cX0_coversPixel 101 = .ok (.lcmp, 1) := by decide +kernel
theorem dX0_coversPixel_102 : decode cX0_coversPixel 102 = .ok (.ifCond .lt 21, 3) := by decide +kernel
theorem dX0_coversPixel_105 : decode cX0_coversPixel 105 = .ok (.lload 10, 2) := by decide +kernel
theorem dX0_coversPixel_107 : decode cX0_coversPixel 107 = .ok (.lconst 0, 1) := by decide +kernel
theorem dX0_coversPixel_108 : decode cX0_coversPixel 108 = .ok (.lcmp, 1) := by decide +kernel
theorem dX0_coversPixel_109 : decode cX0_coversPixel 109 = .ok (.ifCond .ne 16, 3) := by decide +kernel
theorem dX0_coversPixel_112 : decode cX0_coversPixel 112 = .ok (.aload_n 0, 1) := by decide +kernel
theorem dX0_coversPixel_113 : decode cX0_coversPixel 113 = .ok (.iload 8, 2) := by decide +kernel
theorem dX0_coversPixel_115 : decode cX0_coversPixel 115 = .ok (.iload 9, 2) := by decide +kernel
theorem dX0_coversPixel_117 : decode cX0_coversPixel 117 = .ok (.invokevirtual 39, 3) := by decide +kernel
theorem dX0_coversPixel_120 : decode cX0_coversPixel 120 = .ok (.ifCond .ne 5, 3) := by decide +kernel
theorem dX0_coversPixel_123 : decode cX0_coversPixel 123 = .ok (.iconst 0, 1) := by decide +kernel
theorem dX0_coversPixel_124 : decode cX0_coversPixel 124 = .ok (.ireturn, 1) := by decide +kernel
theorem dX0_coversPixel_125 : decode cX0_coversPixel 125 = .ok (.aload_n 0, 1) := by decide +kernel
theorem dX0_coversPixel_126 : decode cX0_coversPixel 126 = .ok (.getfield 24, 3) := by decide +kernel
theorem dX0_coversPixel_129 : decode cX0_coversPixel 129 = .ok (.iload 7, 2) := by decide +kernel
theorem dX0_coversPixel_131 : decode cX0_coversPixel 131 = .ok (.lload 10, 2) := by decide +kernel
theorem dX0_coversPixel_133 : decode cX0_coversPixel 133 = .ok (.lastore, 1) := by decide +kernel
theorem dX0_coversPixel_134 : decode cX0_coversPixel 134 = .ok (.iinc 7 1, 3) := by decide +kernel
theorem dX0_coversPixel_137 : decode cX0_coversPixel 137 = .ok (.goto (-115), 3) := by decide +kernel
theorem dX0_coversPixel_140 : decode cX0_coversPixel 140 = .ok (.iconst 1, 1) := by decide +kernel
theorem dX0_coversPixel_141 : decode cX0_coversPixel 141 = .ok (.ireturn, 1) := by decide +kernel
theorem dX0_ownsItsEdge_0 : decode cX0_ownsItsEdge 0 = .ok (.aload_n 0, 1) := by decide +kernel
theorem dX0_ownsItsEdge_1 : decode cX0_ownsItsEdge 1 = .ok (.getfield 15, 3) := by decide +kernel
theorem dX0_ownsItsEdge_4 : decode cX0_ownsItsEdge 4 = .ok (.iload_n 2, 1) := by decide +kernel
theorem dX0_ownsItsEdge_5 : decode cX0_ownsItsEdge 5 = .ok (.laload, 1) := by decide +kernel
theorem dX0_ownsItsEdge_6 : decode cX0_ownsItsEdge 6 = .ok (.aload_n 0, 1) := by decide +kernel
theorem dX0_ownsItsEdge_7 : decode cX0_ownsItsEdge 7 = .ok (.getfield 15, 3) := by decide +kernel
theorem dX0_ownsItsEdge_10 : decode cX0_ownsItsEdge 10 = .ok (.iload_n 1, 1) := by decide +kernel
theorem dX0_ownsItsEdge_11 : decode cX0_ownsItsEdge 11 = .ok (.laload, 1) := by decide +kernel
theorem dX0_ownsItsEdge_12 : decode cX0_ownsItsEdge 12 = .ok (.lcmp, 1) := by decide +kernel
theorem dX0_ownsItsEdge_13 : decode cX0_ownsItsEdge 13 = .ok (.ifCond .lt 35, 3) := by decide +kernel
theorem dX0_ownsItsEdge_16 : decode cX0_ownsItsEdge 16 = .ok (.aload_n 0, 1) := by decide +kernel
theorem dX0_ownsItsEdge_17 : decode cX0_ownsItsEdge 17 = .ok (.getfield 15, 3) := by decide +kernel
theorem dX0_ownsItsEdge_20 : decode cX0_ownsItsEdge 20 = .ok (.iload_n 2, 1) := by decide +kernel
theorem dX0_ownsItsEdge_21 : decode cX0_ownsItsEdge 21 = .ok (.laload, 1) := by decide +kernel
theorem dX0_ownsItsEdge_22 : decode cX0_ownsItsEdge 22 = .ok (.aload_n 0, 1) := by decide +kernel
theorem dX0_ownsItsEdge_23 : decode cX0_ownsItsEdge 23 = .ok (.getfield 15, 3) := by decide +kernel
theorem dX0_ownsItsEdge_26 : decode cX0_ownsItsEdge 26 = .ok (.iload_n 1, 1) := by decide +kernel
theorem dX0_ownsItsEdge_27 : decode cX0_ownsItsEdge 27 = .ok (.laload, 1) := by decide +kernel
theorem dX0_ownsItsEdge_28 : decode cX0_ownsItsEdge 28 = .ok (.lcmp, 1) := by decide +kernel
theorem dX0_ownsItsEdge_29 : decode cX0_ownsItsEdge 29 = .ok (.ifCond .ne 23, 3) := by decide +kernel
theorem dX0_ownsItsEdge_32 : decode cX0_ownsItsEdge 32 = .ok (.aload_n 0, 1) := by decide +kernel
theorem dX0_ownsItsEdge_33 : decode cX0_ownsItsEdge 33 = .ok (.getfield 9, 3) := by decide +kernel
theorem dX0_ownsItsEdge_36 : decode cX0_ownsItsEdge 36 = .ok (.iload_n 2, 1) := by decide +kernel
theorem dX0_ownsItsEdge_37 : decode cX0_ownsItsEdge 37 = .ok (.laload, 1) := by decide +kernel
theorem dX0_ownsItsEdge_38 : decode cX0_ownsItsEdge 38 = .ok (.aload_n 0, 1) := by decide +kernel
theorem dX0_ownsItsEdge_39 : decode cX0_ownsItsEdge 39 = .ok (.getfield 9, 3) := by decide +kernel
theorem dX0_ownsItsEdge_42 : decode cX0_ownsItsEdge 42 = .ok (.iload_n 1, 1) := by decide +kernel
theorem dX0_ownsItsEdge_43 : decode cX0_ownsItsEdge 43 = .ok (.laload, 1) := by decide +kernel
theorem dX0_ownsItsEdge_44 : decode cX0_ownsItsEdge 44 = .ok (.lcmp, 1) := by decide +kernel
theorem dX0_ownsItsEdge_45 : decode cX0_ownsItsEdge 45 = .ok (.ifCond .le 7, 3) := by decide +kernel
theorem dX0_ownsItsEdge_48 : decode cX0_ownsItsEdge 48 = .ok (.iconst 1, 1) := by decide +kernel
theorem dX0_ownsItsEdge_49 : decode cX0_ownsItsEdge 49 = .ok (.goto 4, 3) := by decide +kernel
theorem dX0_ownsItsEdge_52 : decode cX0_ownsItsEdge 52 = .ok (.iconst 0, 1) := by decide +kernel
theorem dX0_ownsItsEdge_53 : decode cX0_ownsItsEdge 53 = .ok (.ireturn, 1) := by decide +kernel
theorem dX0_weighedR_0 : decode cX0_weighedR 0 = .ok (.aload_n 0, 1) := by decide +kernel
theorem dX0_weighedR_1 : decode cX0_weighedR 1 = .ok (.getfield 24, 3) := by decide +kernel
theorem dX0_weighedR_4 : decode cX0_weighedR 4 = .ok (.iconst 0, 1) := by decide +kernel
theorem dX0_weighedR_5 : decode cX0_weighedR 5 = .ok (.laload, 1) := by decide +kernel
theorem dX0_weighedR_6 : decode cX0_weighedR 6 = .ok (.aload_n 0, 1) := by decide +kernel
theorem dX0_weighedR_7 : decode cX0_weighedR 7 = .ok (.getfield 18, 3) := by decide +kernel
theorem dX0_weighedR_10 : decode cX0_weighedR 10 = .ok (.iconst 0, 1) := by decide +kernel
theorem dX0_weighedR_11 : decode cX0_weighedR 11 = .ok (.laload, 1) := by decide +kernel
theorem dX0_weighedR_12 : decode cX0_weighedR 12 = .ok (.lmul, 1) := by decide +kernel
theorem dX0_weighedR_13 : decode cX0_weighedR 13 = .ok (.aload_n 0, 1) := by decide +kernel
theorem dX0_weighedR_14 : decode cX0_weighedR 14 = .ok (.getfield 24, 3) := by decide +kernel
theorem dX0_weighedR_17 : decode cX0_weighedR 17 = .ok (.iconst 1, 1) := by decide +kernel
theorem dX0_weighedR_18 : decode cX0_weighedR 18 = .ok (.laload, 1) := by decide +kernel
theorem dX0_weighedR_19 : decode cX0_weighedR 19 = .ok (.aload_n 0, 1) := by decide +kernel
theorem dX0_weighedR_20 : decode cX0_weighedR 20 = .ok (.getfield 18, 3) := by decide +kernel
theorem dX0_weighedR_23 : decode cX0_weighedR 23 = .ok (.iconst 1, 1) := by decide +kernel
theorem dX0_weighedR_24 : decode cX0_weighedR 24 = .ok (.laload, 1) := by decide +kernel
theorem dX0_weighedR_25 : decode cX0_weighedR 25 = .ok (.lmul, 1) := by decide +kernel
theorem dX0_weighedR_26 : decode cX0_weighedR 26 = .ok (.ladd, 1) := by decide +kernel
theorem dX0_weighedR_27 : decode cX0_weighedR 27 = .ok (.aload_n 0, 1) := by decide +kernel
theorem dX0_weighedR_28 : decode cX0_weighedR 28 = .ok (.getfield 24, 3) := by decide +kernel
theorem dX0_weighedR_31 : decode cX0_weighedR 31 = .ok (.iconst 2, 1) := by decide +kernel
theorem dX0_weighedR_32 : decode cX0_weighedR 32 = .ok (.laload, 1) := by decide +kernel
theorem dX0_weighedR_33 : decode cX0_weighedR 33 = .ok (.aload_n 0, 1) := by decide +kernel
theorem dX0_weighedR_34 : decode cX0_weighedR 34 = .ok (.getfield 18, 3) := by decide +kernel
theorem dX0_weighedR_37 : decode cX0_weighedR 37 = .ok (.iconst 2, 1) := by decide +kernel
theorem dX0_weighedR_38 : decode cX0_weighedR 38 = .ok (.laload, 1) := by decide +kernel
theorem dX0_weighedR_39 : decode cX0_weighedR 39 = .ok (.lmul, 1) := by decide +kernel
theorem dX0_weighedR_40 : decode cX0_weighedR 40 = .ok (.ladd, 1) := by decide +kernel
theorem dX0_weighedR_41 : decode cX0_weighedR 41 = .ok (.lreturn, 1) := by decide +kernel
theorem dX0_nearnessHere_0 : decode cX0_nearnessHere 0 = .ok (.aload_n 0, 1) := by decide +kernel
theorem dX0_nearnessHere_1 : decode cX0_nearnessHere 1 = .ok (.invokevirtual 43, 3) := by decide +kernel
theorem dX0_nearnessHere_4 : decode cX0_nearnessHere 4 = .ok (.aload_n 0, 1) := by decide +kernel
theorem dX0_nearnessHere_5 : decode cX0_nearnessHere 5 = .ok (.invokevirtual 47, 3) := by decide +kernel
theorem dX0_nearnessHere_8 : decode cX0_nearnessHere 8 = .ok (.invokestatic 50, 3) := by decide +kernel
theorem dX0_nearnessHere_11 : decode cX0_nearnessHere 11 = .ok (.lreturn, 1) := by decide +kernel
theorem dX0_lightHere_0 : decode cX0_lightHere 0 = .ok (.aload_n 0, 1) := by decide +kernel
theorem dX0_lightHere_1 : decode cX0_lightHere 1 = .ok (.getfield 24, 3) := by decide +kernel
theorem dX0_lightHere_4 : decode cX0_lightHere 4 = .ok (.iconst 0, 1) := by decide +kernel
theorem dX0_lightHere_5 : decode cX0_lightHere 5 = .ok (.laload, 1) := by decide +kernel
theorem dX0_lightHere_6 : decode cX0_lightHere 6 = .ok (.aload_n 0, 1) := by decide +kernel
theorem dX0_lightHere_7 : decode cX0_lightHere 7 = .ok (.getfield 18, 3) := by decide +kernel
theorem dX0_lightHere_10 : decode cX0_lightHere 10 = .ok (.iconst 0, 1) := by decide +kernel
theorem dX0_lightHere_11 : decode cX0_lightHere 11 = .ok (.laload, 1) := by decide +kernel
theorem dX0_lightHere_12 : decode cX0_lightHere 12 = .ok (.lmul, 1) := by decide +kernel
theorem dX0_lightHere_13 : decode cX0_lightHere 13 = .ok (.aload_n 0, 1) := by decide +kernel
theorem dX0_lightHere_14 : decode cX0_lightHere 14 = .ok (.getfield 21, 3) := by decide +kernel
theorem dX0_lightHere_17 : decode cX0_lightHere 17 = .ok (.iconst 0, 1) := by decide +kernel
theorem dX0_lightHere_18 : decode cX0_lightHere 18 = .ok (.laload, 1) := by decide +kernel
theorem dX0_lightHere_19 : decode cX0_lightHere 19 = .ok (.lmul, 1) := by decide +kernel
theorem dX0_lightHere_20 : decode cX0_lightHere 20 = .ok (.aload_n 0, 1) := by decide +kernel
theorem dX0_lightHere_21 : decode cX0_lightHere 21 = .ok (.getfield 24, 3) := by decide +kernel
theorem dX0_lightHere_24 : decode cX0_lightHere 24 = .ok (.iconst 1, 1) := by decide +kernel
theorem dX0_lightHere_25 : decode cX0_lightHere 25 = .ok (.laload, 1) := by decide +kernel
theorem dX0_lightHere_26 : decode cX0_lightHere 26 = .ok (.aload_n 0, 1) := by decide +kernel
theorem dX0_lightHere_27 : decode cX0_lightHere 27 = .ok (.getfield 18, 3) := by decide +kernel
theorem dX0_lightHere_30 : decode cX0_lightHere 30 = .ok (.iconst 1, 1) := by decide +kernel
theorem dX0_lightHere_31 : decode cX0_lightHere 31 = .ok (.laload, 1) := by decide +kernel
theorem dX0_lightHere_32 : decode cX0_lightHere 32 = .ok (.lmul, 1) := by decide +kernel
theorem dX0_lightHere_33 : decode cX0_lightHere 33 = .ok (.aload_n 0, 1) := by decide +kernel
theorem dX0_lightHere_34 : decode cX0_lightHere 34 = .ok (.getfield 21, 3) := by decide +kernel
theorem dX0_lightHere_37 : decode cX0_lightHere 37 = .ok (.iconst 1, 1) := by decide +kernel
theorem dX0_lightHere_38 : decode cX0_lightHere 38 = .ok (.laload, 1) := by decide +kernel
theorem dX0_lightHere_39 : decode cX0_lightHere 39 = .ok (.lmul, 1) := by decide +kernel
theorem dX0_lightHere_40 : decode cX0_lightHere 40 = .ok (.ladd, 1) := by decide +kernel
theorem dX0_lightHere_41 : decode cX0_lightHere 41 = .ok (.aload_n 0, 1) := by decide +kernel
theorem dX0_lightHere_42 : decode cX0_lightHere 42 = .ok (.getfield 24, 3) := by decide +kernel
theorem dX0_lightHere_45 : decode cX0_lightHere 45 = .ok (.iconst 2, 1) := by decide +kernel
theorem dX0_lightHere_46 : decode cX0_lightHere 46 = .ok (.laload, 1) := by decide +kernel
theorem dX0_lightHere_47 : decode cX0_lightHere 47 = .ok (.aload_n 0, 1) := by decide +kernel
theorem dX0_lightHere_48 : decode cX0_lightHere 48 = .ok (.getfield 18, 3) := by decide +kernel
theorem dX0_lightHere_51 : decode cX0_lightHere 51 = .ok (.iconst 2, 1) := by decide +kernel
theorem dX0_lightHere_52 : decode cX0_lightHere 52 = .ok (.laload, 1) := by decide +kernel
theorem dX0_lightHere_53 : decode cX0_lightHere 53 = .ok (.lmul, 1) := by decide +kernel
theorem dX0_lightHere_54 : decode cX0_lightHere 54 = .ok (.aload_n 0, 1) := by decide +kernel
theorem dX0_lightHere_55 : decode cX0_lightHere 55 = .ok (.getfield 21, 3) := by decide +kernel
theorem dX0_lightHere_58 : decode cX0_lightHere 58 = .ok (.iconst 2, 1) := by decide +kernel
theorem dX0_lightHere_59 : decode cX0_lightHere 59 = .ok (.laload, 1) := by decide +kernel
theorem dX0_lightHere_60 : decode cX0_lightHere 60 = .ok (.lmul, 1) := by decide +kernel
theorem dX0_lightHere_61 : decode cX0_lightHere 61 = .ok (.ladd, 1) := by decide +kernel
theorem dX0_lightHere_62 : decode cX0_lightHere 62 = .ok (.lstore_n 1, 1) := by decide +kernel
theorem dX0_lightHere_63 : decode cX0_lightHere 63 = .ok (.lload_n 1, 1) := by decide +kernel
theorem dX0_lightHere_64 : decode cX0_lightHere 64 = .ok (.aload_n 0, 1) := by decide +kernel
theorem dX0_lightHere_65 : decode cX0_lightHere 65 = .ok (.invokevirtual 43, 3) := by decide +kernel
theorem dX0_lightHere_68 : decode cX0_lightHere 68 = .ok (.invokestatic 50, 3) := by decide +kernel
theorem dX0_lightHere_71 : decode cX0_lightHere 71 = .ok (.lreturn, 1) := by decide +kernel
theorem dX0_firstColumn_0 : decode cX0_firstColumn 0 = .ok (.aload_n 0, 1) := by decide +kernel
theorem dX0_firstColumn_1 : decode cX0_firstColumn 1 = .ok (.getfield 9, 3) := by decide +kernel
theorem dX0_firstColumn_4 : decode cX0_firstColumn 4 = .ok (.invokestatic 54, 3) := by decide +kernel
theorem dX0_firstColumn_7 : decode cX0_firstColumn 7 = .ok (.invokestatic 58, 3) := by decide +kernel
theorem dX0_firstColumn_10 : decode cX0_firstColumn 10 = .ok (.ireturn, 1) := by decide +kernel
theorem dX0_lastColumn_0 : decode cX0_lastColumn 0 = .ok (.aload_n 0, 1) := by decide +kernel
theorem dX0_lastColumn_1 : decode cX0_lastColumn 1 = .ok (.getfield 9, 3) := by decide +kernel
theorem dX0_lastColumn_4 : decode cX0_lastColumn 4 = .ok (.invokestatic 62, 3) := by decide +kernel
theorem dX0_lastColumn_7 : decode cX0_lastColumn 7 = .ok (.invokestatic 65, 3) := by decide +kernel
theorem dX0_lastColumn_10 : decode cX0_lastColumn 10 = .ok (.ireturn, 1) := by decide +kernel
theorem dX0_firstRow_0 : decode cX0_firstRow 0 = .ok (.aload_n 0, 1) := by decide +kernel
theorem dX0_firstRow_1 : decode cX0_firstRow 1 = .ok (.getfield 15, 3) := by decide +kernel
theorem dX0_firstRow_4 : decode cX0_firstRow 4 = .ok (.invokestatic 54, 3) := by decide +kernel
theorem dX0_firstRow_7 : decode cX0_firstRow 7 = .ok (.invokestatic 58, 3) := by decide +kernel
theorem dX0_firstRow_10 : decode cX0_firstRow 10 = .ok (.ireturn, 1) := by decide +kernel
theorem dX0_lastRow_0 : decode cX0_lastRow 0 = .ok (.aload_n 0, 1) := by decide +kernel
theorem dX0_lastRow_1 : decode cX0_lastRow 1 = .ok (.getfield 15, 3) := by decide +kernel
theorem dX0_lastRow_4 : decode cX0_lastRow 4 = .ok (.invokestatic 62, 3) := by decide +kernel
theorem dX0_lastRow_7 : decode cX0_lastRow 7 = .ok (.invokestatic 65, 3) := by decide +kernel
theorem dX0_lastRow_10 : decode cX0_lastRow 10 = .ok (.ireturn, 1) := by decide +kernel
theorem dX0_least_0 : decode cX0_least 0 = .ok (.aload_n 0, 1) := by decide +kernel
theorem dX0_least_1 : decode cX0_least 1 = .ok (.iconst 0, 1) := by decide +kernel
theorem dX0_least_2 : decode cX0_least 2 = .ok (.laload, 1) := by decide +kernel
theorem dX0_least_3 : decode cX0_least 3 = .ok (.aload_n 0, 1) := by decide +kernel
theorem dX0_least_4 : decode cX0_least 4 = .ok (.iconst 1, 1) := by decide +kernel
theorem dX0_least_5 : decode cX0_least 5 = .ok (.laload, 1) := by decide +kernel
theorem dX0_least_6 : decode cX0_least 6 = .ok (.aload_n 0, 1) := by decide +kernel
theorem dX0_least_7 : decode cX0_least 7 = .ok (.iconst 2, 1) := by decide +kernel
theorem dX0_least_8 : decode cX0_least 8 = .ok (.laload, 1) := by decide +kernel
theorem dX0_least_9 : decode cX0_least 9 = .ok (.invokestatic 68, 3) := by decide +kernel
theorem dX0_least_12 : decode cX0_least 12 = .ok (.invokestatic 68, 3) := by decide +kernel
theorem dX0_least_15 : decode cX0_least 15 = .ok (.lreturn, 1) := by decide +kernel
theorem dX0_most_0 : decode cX0_most 0 = .ok (.aload_n 0, 1) := by decide +kernel
theorem dX0_most_1 : decode cX0_most 1 = .ok (.iconst 0, 1) := by decide +kernel
theorem dX0_most_2 : decode cX0_most 2 = .ok (.laload, 1) := by decide +kernel
theorem dX0_most_3 : decode cX0_most 3 = .ok (.aload_n 0, 1) := by decide +kernel
theorem dX0_most_4 : decode cX0_most 4 = .ok (.iconst 1, 1) := by decide +kernel
theorem dX0_most_5 : decode cX0_most 5 = .ok (.laload, 1) := by decide +kernel
theorem dX0_most_6 : decode cX0_most 6 = .ok (.aload_n 0, 1) := by decide +kernel
theorem dX0_most_7 : decode cX0_most 7 = .ok (.iconst 2, 1) := by decide +kernel
theorem dX0_most_8 : decode cX0_most 8 = .ok (.laload, 1) := by decide +kernel
theorem dX0_most_9 : decode cX0_most 9 = .ok (.invokestatic 73, 3) := by decide +kernel
theorem dX0_most_12 : decode cX0_most 12 = .ok (.invokestatic 73, 3) := by decide +kernel
theorem dX0_most_15 : decode cX0_most 15 = .ok (.lreturn, 1) := by decide +kernel
theorem dX0_firstMiddle_0 : decode cX0_firstMiddle 0 = .ok (.lload_n 0, 1) := by decide +kernel
theorem dX0_firstMiddle_1 : decode cX0_firstMiddle 1 = .ok (.ldc2_w 76, 3) := by decide +kernel
theorem dX0_firstMiddle_4 : decode cX0_firstMiddle 4 = .ok (.lsub, 1) := by decide +kernel
theorem dX0_firstMiddle_5 : decode cX0_firstMiddle 5 = .ok (.ldc2_w 78, 3) := by decide +kernel
theorem dX0_firstMiddle_8 : decode cX0_firstMiddle 8 = .ok (.ladd, 1) := by decide +kernel
theorem dX0_firstMiddle_9 : decode cX0_firstMiddle 9 = .ok (.lconst 1, 1) := by decide +kernel
theorem dX0_firstMiddle_10 : decode cX0_firstMiddle 10 = .ok (.lsub, 1) := by decide +kernel
theorem dX0_firstMiddle_11 : decode cX0_firstMiddle 11 = .ok (.ldc2_w 78, 3) := by decide +kernel
theorem dX0_firstMiddle_14 : decode cX0_firstMiddle 14 = .ok (.invokestatic 50, 3) := by decide +kernel
theorem dX0_firstMiddle_17 : decode cX0_firstMiddle 17 = .ok (.l2i, 1) := by decide +kernel
theorem dX0_firstMiddle_18 : decode cX0_firstMiddle 18 = .ok (.ireturn, 1) := by decide +kernel
theorem dX0_lastMiddle_0 : decode cX0_lastMiddle 0 = .ok (.lload_n 0, 1) := by decide +kernel
theorem dX0_lastMiddle_1 : decode cX0_lastMiddle 1 = .ok (.ldc2_w 76, 3) := by decide +kernel
theorem dX0_lastMiddle_4 : decode cX0_lastMiddle 4 = .ok (.lsub, 1) := by decide +kernel
theorem dX0_lastMiddle_5 : decode cX0_lastMiddle 5 = .ok (.ldc2_w 78, 3) := by decide +kernel
theorem dX0_lastMiddle_8 : decode cX0_lastMiddle 8 = .ok (.invokestatic 50, 3) := by decide +kernel
theorem dX0_lastMiddle_11 : decode cX0_lastMiddle 11 = .ok (.l2i, 1) := by decide +kernel
theorem dX0_lastMiddle_12 : decode cX0_lastMiddle 12 = .ok (.ireturn, 1) := by decide +kernel
end
section
theorem dX3_init_0 : decode cX3_init 0 = .ok (.aload_n 0, 1) := by decide +kernel
theorem dX3_init_1 : decode cX3_init 1 = .ok (.invokespecial 3, 3) := by decide +kernel
theorem dX3_init_4 : decode cX3_init 4 = .ok (.aload_n 0, 1) := by decide +kernel
theorem dX3_init_5 : decode cX3_init 5 = .ok (.new 9, 3) := by decide +kernel
theorem dX3_init_8 : decode cX3_init 8 = .ok (.dup, 1) := by decide +kernel
theorem dX3_init_9 : decode cX3_init 9 = .ok (.invokespecial 11, 3) := by decide +kernel
theorem dX3_init_12 : decode cX3_init 12 = .ok (.putfield 12, 3) := by decide +kernel
theorem dX3_init_15 : decode cX3_init 15 = .ok (.aload_n 0, 1) := by decide +kernel
theorem dX3_init_16 : decode cX3_init 16 = .ok (.new 16, 3) := by decide +kernel
theorem dX3_init_19 : decode cX3_init 19 = .ok (.dup, 1) := by decide +kernel
theorem dX3_init_20 : decode cX3_init 20 = .ok (.invokespecial 18, 3) := by decide +kernel
theorem dX3_init_23 : decode cX3_init 23 = .ok (.putfield 19, 3) := by decide +kernel
theorem dX3_init_26 : decode cX3_init 26 = .ok (.aload_n 0, 1) := by decide +kernel
theorem dX3_init_27 : decode cX3_init 27 = .ok (.iconst 0, 1) := by decide +kernel
theorem dX3_init_28 : decode cX3_init 28 = .ok (.putfield 23, 3) := by decide +kernel
theorem dX3_init_31 : decode cX3_init 31 = .ok (.aload_n 0, 1) := by decide +kernel
theorem dX3_init_32 : decode cX3_init 32 = .ok (.new 27, 3) := by decide +kernel
theorem dX3_init_35 : decode cX3_init 35 = .ok (.dup, 1) := by decide +kernel
theorem dX3_init_36 : decode cX3_init 36 = .ok (.iload_n 1, 1) := by decide +kernel
theorem dX3_init_37 : decode cX3_init 37 = .ok (.invokestatic 29, 3) := by decide +kernel
theorem dX3_init_40 : decode cX3_init 40 = .ok (.iload_n 2, 1) := by decide +kernel
theorem dX3_init_41 : decode cX3_init 41 = .ok (.invokestatic 29, 3) := by decide +kernel
theorem dX3_init_44 : decode cX3_init 44 = .ok (.invokespecial 33, 3) := by decide +kernel
theorem dX3_init_47 : decode cX3_init 47 = .ok (.putfield 36, 3) := by decide +kernel
theorem dX3_init_50 : decode cX3_init 50 = .ok (.return_, 1) := by decide +kernel
theorem dX3_corner_0 : decode cX3_corner 0 = .ok (.iload_n 1, 1) := by decide +kernel
theorem dX3_corner_1 : decode cX3_corner 1 = .ok (.iconst 0, 1) := by decide +kernel
theorem dX3_corner_2 : decode cX3_corner 2 = .ok (.iconst 2, 1) := by decide +kernel
theorem dX3_corner_3 : decode cX3_corner 3 = .ok (.invokestatic 40, 3) := by decide +kernel
theorem dX3_corner_6 : decode cX3_corner 6 = .ok (.ifCond .eq 55, 3) := by decide +kernel
theorem dX3_corner_9 : decode cX3_corner 9 = .ok (.iload_n 2, 1) := by decide +kernel
theorem dX3_corner_10 : decode cX3_corner 10 = .ok (.sipush (-4096), 3) := by decide +kernel
theorem dX3_corner_13 : decode cX3_corner 13 = .ok (.sipush 4096, 3) := by decide +kernel
theorem dX3_corner_16 : decode cX3_corner 16 = .ok (.invokestatic 40, 3) := by decide +kernel
theorem dX3_corner_19 : decode cX3_corner 19 = .ok (.ifCond .eq 42, 3) := by decide +kernel
theorem dX3_corner_22 : decode cX3_corner 22 = .ok (.iload_n 3, 1) := by decide +kernel
theorem dX3_corner_23 : decode cX3_corner 23 = .ok (.sipush (-4096), 3) := by decide +kernel
theorem dX3_corner_26 : decode cX3_corner 26 = .ok (.sipush 4096, 3) := by decide +kernel
theorem dX3_corner_29 : decode cX3_corner 29 = .ok (.invokestatic 40, 3) := by decide +kernel
theorem dX3_corner_32 : decode cX3_corner 32 = .ok (.ifCond .eq 29, 3) := by decide +kernel
theorem dX3_corner_35 : decode cX3_corner 35 = .ok (.iload 4, 2) := by decide +kernel
theorem dX3_corner_37 : decode cX3_corner 37 = .ok (.iconst 1, 1) := by decide +kernel
theorem dX3_corner_38 : decode cX3_corner 38 = .ok (.ldc 44, 2) := by decide +kernel
theorem dX3_corner_40 : decode cX3_corner 40 = .ok (.invokestatic 40, 3) := by decide +kernel
theorem dX3_corner_43 : decode cX3_corner 43 = .ok (.ifCond .eq 18, 3) := by decide +kernel
theorem dX3_corner_46 : decode cX3_corner 46 = .ok (.iload 5, 2) := by decide +kernel
theorem dX3_corner_48 : decode cX3_corner 48 = .ok (.iconst 0, 1) := by decide +kernel
theorem dX3_corner_49 : decode cX3_corner 49 = .ok (.ldc 45, 2) := by decide +kernel
theorem dX3_corner_51 : decode cX3_corner 51 = .ok (.invokestatic 40, 3) := by decide +kernel
theorem dX3_corner_54 : decode cX3_corner 54 = .ok (.ifCond .eq 7, 3) := by decide +kernel
theorem dX3_corner_57 : decode cX3_corner 57 = .ok (.iconst 1, 1) := by decide +kernel
theorem dX3_corner_58 : decode cX3_corner 58 = .ok (.goto 4, 3) := by decide +kernel
theorem dX3_corner_61 : decode cX3_corner 61 = .ok (.iconst 0, 1) := by decide +kernel
theorem dX3_corner_62 : decode cX3_corner 62 = .ok (.istore 6, 2) := by decide +kernel
theorem dX3_corner_64 : decode cX3_corner 64 = .ok (.iload 6, 2) := by decide +kernel
theorem dX3_corner_66 : decode cX3_corner 66 = .ok (.ifCond .eq 21, 3) := by decide +kernel
theorem dX3_corner_69 : decode cX3_corner 69 = .ok (.aload_n 0, 1) := by decide +kernel
theorem dX3_corner_70 : decode cX3_corner 70 = .ok (.getfield 12, 3) := by decide +kernel
theorem dX3_corner_73 : decode cX3_corner 73 = .ok (.iload_n 1, 1) := by decide +kernel
theorem dX3_corner_74 : decode cX3_corner 74 = .ok (.iload_n 2, 1) := by decide +kernel
theorem dX3_corner_75 : decode cX3_corner 75 = .ok (.i2l, 1) := by decide +kernel
theorem dX3_corner_76 : decode cX3_corner 76 = .ok (.iload_n 3, 1) := by decide +kernel
theorem dX3_corner_77 : decode cX3_corner 77 = .ok (.i2l, 1) := by decide +kernel
theorem dX3_corner_78 : decode cX3_corner 78 = .ok (.iload 4, 2) := by decide +kernel
theorem dX3_corner_80 : decode cX3_corner 80 = .ok (.i2l, 1) := by decide +kernel
theorem dX3_corner_81 : decode cX3_corner 81 = .ok (.iload 5, 2) := by decide +kernel
theorem dX3_corner_83 : decode cX3_corner 83 = .ok (.i2l, 1) := by decide +kernel
theorem dX3_corner_84 : decode cX3_corner 84 = .ok (.invokevirtual 46, 3) := by decide +kernel
theorem dX3_corner_87 : decode cX3_corner 87 = .ok (.iload 6, 2) := by decide +kernel
theorem dX3_corner_89 : decode cX3_corner 89 = .ok (.ireturn, 1) := by decide +kernel
theorem dX3_add_0 : decode cX3_add 0 = .ok (.iload_n 1, 1) := by decide +kernel
theorem dX3_add_1 : decode cX3_add 1 = .ok (.invokestatic 50, 3) := by decide +kernel
theorem dX3_add_4 : decode cX3_add 4 = .ok (.ifCond .eq 26, 3) := by decide +kernel
theorem dX3_add_7 : decode cX3_add 7 = .ok (.iload_n 2, 1) := by decide +kernel
theorem dX3_add_8 : decode cX3_add 8 = .ok (.iconst 0, 1) := by decide +kernel
theorem dX3_add_9 : decode cX3_add 9 = .ok (.sipush 255, 3) := by decide +kernel
theorem dX3_add_12 : decode cX3_add 12 = .ok (.invokestatic 40, 3) := by decide +kernel
theorem dX3_add_15 : decode cX3_add 15 = .ok (.ifCond .eq 15, 3) := by decide +kernel
theorem dX3_add_18 : decode cX3_add 18 = .ok (.aload_n 0, 1) := by decide +kernel
theorem dX3_add_19 : decode cX3_add 19 = .ok (.getfield 12, 3) := by decide +kernel
theorem dX3_add_22 : decode cX3_add 22 = .ok (.invokevirtual 54, 3) := by decide +kernel
theorem dX3_add_25 : decode cX3_add 25 = .ok (.lconst 0, 1) := by decide +kernel
theorem dX3_add_26 : decode cX3_add 26 = .ok (.lcmp, 1) := by decide +kernel
theorem dX3_add_27 : decode cX3_add 27 = .ok (.ifCond .gt 5, 3) := by decide +kernel
theorem dX3_add_30 : decode cX3_add 30 = .ok (.iconst (-1), 1) := by decide +kernel
theorem dX3_add_31 : decode cX3_add 31 = .ok (.ireturn, 1) := by decide +kernel
theorem dX3_add_32 : decode cX3_add 32 = .ok (.aload_n 0, 1) := by decide +kernel
theorem dX3_add_33 : decode cX3_add 33 = .ok (.getfield 19, 3) := by decide +kernel
theorem dX3_add_36 : decode cX3_add 36 = .ok (.aload_n 0, 1) := by decide +kernel
theorem dX3_add_37 : decode cX3_add 37 = .ok (.getfield 12, 3) := by decide +kernel
theorem dX3_add_40 : decode cX3_add 40 = .ok (.iload_n 1, 1) := by decide +kernel
theorem dX3_add_41 : decode cX3_add 41 = .ok (.iload_n 2, 1) := by decide +kernel
theorem dX3_add_42 : decode cX3_add 42 = .ok (.invokevirtual 58, 3) := by decide +kernel
theorem dX3_add_45 : decode cX3_add 45 = .ok (.ireturn, 1) := by decide +kernel
theorem dX3_clear_0 : decode cX3_clear 0 = .ok (.aload_n 0, 1) := by decide +kernel
theorem dX3_clear_1 : decode cX3_clear 1 = .ok (.getfield 19, 3) := by decide +kernel
theorem dX3_clear_4 : decode cX3_clear 4 = .ok (.invokevirtual 62, 3) := by decide +kernel
theorem dX3_clear_7 : decode cX3_clear 7 = .ok (.return_, 1) := by decide +kernel
theorem dX3_background_0 : decode cX3_background 0 = .ok (.iload_n 1, 1) := by decide +kernel
theorem dX3_background_1 : decode cX3_background 1 = .ok (.invokestatic 50, 3) := by decide +kernel
theorem dX3_background_4 : decode cX3_background 4 = .ok (.ifCond .ne 5, 3) := by decide +kernel
theorem dX3_background_7 : decode cX3_background 7 = .ok (.iconst 0, 1) := by decide +kernel
theorem dX3_background_8 : decode cX3_background 8 = .ok (.ireturn, 1) := by decide +kernel
theorem dX3_background_9 : decode cX3_background 9 = .ok (.aload_n 0, 1) := by decide +kernel
theorem dX3_background_10 : decode cX3_background 10 = .ok (.iload_n 1, 1) := by decide +kernel
theorem dX3_background_11 : decode cX3_background 11 = .ok (.putfield 23, 3) := by decide +kernel
theorem dX3_background_14 : decode cX3_background 14 = .ok (.iconst 1, 1) := by decide +kernel
theorem dX3_background_15 : decode cX3_background 15 = .ok (.ireturn, 1) := by decide +kernel
theorem dX3_begin_0 : decode cX3_begin 0 = .ok (.aload_n 0, 1) := by decide +kernel
theorem dX3_begin_1 : decode cX3_begin 1 = .ok (.getfield 36, 3) := by decide +kernel
theorem dX3_begin_4 : decode cX3_begin 4 = .ok (.aload_n 0, 1) := by decide +kernel
theorem dX3_begin_5 : decode cX3_begin 5 = .ok (.getfield 19, 3) := by decide +kernel
theorem dX3_begin_8 : decode cX3_begin 8 = .ok (.aload_n 0, 1) := by decide +kernel
theorem dX3_begin_9 : decode cX3_begin 9 = .ok (.getfield 23, 3) := by decide +kernel
theorem dX3_begin_12 : decode cX3_begin 12 = .ok (.invokevirtual 65, 3) := by decide +kernel
theorem dX3_begin_15 : decode cX3_begin 15 = .ok (.ireturn, 1) := by decide +kernel
theorem dX3_tile_0 : decode cX3_tile 0 = .ok (.aload_n 0, 1) := by decide +kernel
theorem dX3_tile_1 : decode cX3_tile 1 = .ok (.getfield 36, 3) := by decide +kernel
theorem dX3_tile_4 : decode cX3_tile 4 = .ok (.iload_n 1, 1) := by decide +kernel
theorem dX3_tile_5 : decode cX3_tile 5 = .ok (.invokevirtual 69, 3) := by decide +kernel
theorem dX3_tile_8 : decode cX3_tile 8 = .ok (.ireturn, 1) := by decide +kernel
theorem dX3_pixel_0 : decode cX3_pixel 0 = .ok (.aload_n 0, 1) := by decide +kernel
theorem dX3_pixel_1 : decode cX3_pixel 1 = .ok (.getfield 36, 3) := by decide +kernel
theorem dX3_pixel_4 : decode cX3_pixel 4 = .ok (.iload_n 1, 1) := by decide +kernel
theorem dX3_pixel_5 : decode cX3_pixel 5 = .ok (.iload_n 2, 1) := by decide +kernel
theorem dX3_pixel_6 : decode cX3_pixel 6 = .ok (.invokevirtual 72, 3) := by decide +kernel
theorem dX3_pixel_9 : decode cX3_pixel 9 = .ok (.ifCond .eq 23, 3) := by decide +kernel
theorem dX3_pixel_12 : decode cX3_pixel 12 = .ok (.aload_n 0, 1) := by decide +kernel
theorem dX3_pixel_13 : decode cX3_pixel 13 = .ok (.getfield 36, 3) := by decide +kernel
theorem dX3_pixel_16 : decode cX3_pixel 16 = .ok (.getfield 76, 3) := by decide +kernel
theorem dX3_pixel_19 : decode cX3_pixel 19 = .ok (.aload_n 0, 1) := by decide +kernel
theorem dX3_pixel_20 : decode cX3_pixel 20 = .ok (.getfield 36, 3) := by decide +kernel
theorem dX3_pixel_23 : decode cX3_pixel 23 = .ok (.iload_n 1, 1) := by decide +kernel
theorem dX3_pixel_24 : decode cX3_pixel 24 = .ok (.iload_n 2, 1) := by decide +kernel
theorem dX3_pixel_25 : decode cX3_pixel 25 = .ok (.invokevirtual 80, 3) := by decide +kernel
theorem dX3_pixel_28 : decode cX3_pixel 28 = .ok (.iaload, 1) := by decide +kernel
theorem dX3_pixel_29 : decode cX3_pixel 29 = .ok (.goto 4, 3) := by decide +kernel
theorem dX3_pixel_32 : decode cX3_pixel 32 = .ok (.iconst (-1), 1) := by decide +kernel
theorem dX3_pixel_33 : decode cX3_pixel 33 = .ok (.ireturn, 1) := by decide +kernel
theorem dX3_nearness_0 : decode cX3_nearness 0 = .ok (.aload_n 0, 1) := by decide +kernel
theorem dX3_nearness_1 : decode cX3_nearness 1 = .ok (.getfield 36, 3) := by decide +kernel
theorem dX3_nearness_4 : decode cX3_nearness 4 = .ok (.iload_n 1, 1) := by decide +kernel
theorem dX3_nearness_5 : decode cX3_nearness 5 = .ok (.iload_n 2, 1) := by decide +kernel
theorem dX3_nearness_6 : decode cX3_nearness 6 = .ok (.invokevirtual 72, 3) := by decide +kernel
theorem dX3_nearness_9 : decode cX3_nearness 9 = .ok (.ifCond .eq 23, 3) := by decide +kernel
theorem dX3_nearness_12 : decode cX3_nearness 12 = .ok (.aload_n 0, 1) := by decide +kernel
theorem dX3_nearness_13 : decode cX3_nearness 13 = .ok (.getfield 36, 3) := by decide +kernel
theorem dX3_nearness_16 : decode cX3_nearness 16 = .ok (.getfield 84, 3) := by decide +kernel
theorem dX3_nearness_19 : decode cX3_nearness 19 = .ok (.aload_n 0, 1) := by decide +kernel
theorem dX3_nearness_20 : decode cX3_nearness 20 = .ok (.getfield 36, 3) := by decide +kernel
theorem dX3_nearness_23 : decode cX3_nearness 23 = .ok (.iload_n 1, 1) := by decide +kernel
theorem dX3_nearness_24 : decode cX3_nearness 24 = .ok (.iload_n 2, 1) := by decide +kernel
theorem dX3_nearness_25 : decode cX3_nearness 25 = .ok (.invokevirtual 80, 3) := by decide +kernel
theorem dX3_nearness_28 : decode cX3_nearness 28 = .ok (.iaload, 1) := by decide +kernel
theorem dX3_nearness_29 : decode cX3_nearness 29 = .ok (.goto 4, 3) := by decide +kernel
theorem dX3_nearness_32 : decode cX3_nearness 32 = .ok (.iconst (-1), 1) := by decide +kernel
theorem dX3_nearness_33 : decode cX3_nearness 33 = .ok (.ireturn, 1) := by decide +kernel
theorem dX3_count_0 : decode cX3_count 0 = .ok (.iload_n 1, 1) := by decide +kernel
theorem dX3_count_1 : decode cX3_count 1 = .ok (.tableswitch 78 0 4 #[35, 43, 54, 62, 70], 35) := by decide +kernel
theorem dX3_count_36 : decode cX3_count 36 = .ok (.aload_n 0, 1) := by decide +kernel
theorem dX3_count_37 : decode cX3_count 37 = .ok (.getfield 19, 3) := by decide +kernel
theorem dX3_count_40 : decode cX3_count 40 = .ok (.getfield 87, 3) := by decide +kernel
theorem dX3_count_43 : decode cX3_count 43 = .ok (.ireturn, 1) := by decide +kernel
theorem dX3_count_44 : decode cX3_count 44 = .ok (.aload_n 0, 1) := by decide +kernel
theorem dX3_count_45 : decode cX3_count 45 = .ok (.getfield 36, 3) := by decide +kernel
theorem dX3_count_48 : decode cX3_count 48 = .ok (.getfield 90, 3) := by decide +kernel
theorem dX3_count_51 : decode cX3_count 51 = .ok (.getfield 87, 3) := by decide +kernel
theorem dX3_count_54 : decode cX3_count 54 = .ok (.ireturn, 1) := by decide +kernel
theorem dX3_count_55 : decode cX3_count 55 = .ok (.aload_n 0, 1) := by decide +kernel
theorem dX3_count_56 : decode cX3_count 56 = .ok (.getfield 36, 3) := by decide +kernel
theorem dX3_count_59 : decode cX3_count 59 = .ok (.getfield 93, 3) := by decide +kernel
theorem dX3_count_62 : decode cX3_count 62 = .ok (.ireturn, 1) := by decide +kernel
theorem dX3_count_63 : decode cX3_count 63 = .ok (.aload_n 0, 1) := by decide +kernel
theorem dX3_count_64 : decode cX3_count 64 = .ok (.getfield 36, 3) := by decide +kernel
theorem dX3_count_67 : decode cX3_count 67 = .ok (.getfield 96, 3) := by decide +kernel
theorem dX3_count_70 : decode cX3_count 70 = .ok (.ireturn, 1) := by decide +kernel
theorem dX3_count_71 : decode cX3_count 71 = .ok (.aload_n 0, 1) := by decide +kernel
theorem dX3_count_72 : decode cX3_count 72 = .ok (.getfield 36, 3) := by decide +kernel
theorem dX3_count_75 : decode cX3_count 75 = .ok (.getfield 99, 3) := by decide +kernel
theorem dX3_count_78 : decode cX3_count 78 = .ok (.ireturn, 1) := by decide +kernel
theorem dX3_count_79 : decode cX3_count 79 = .ok (.iconst (-1), 1) := by decide +kernel
theorem dX3_count_80 : decode cX3_count 80 = .ok (.ireturn, 1) := by decide +kernel
theorem dX3_nearestSide_0 : decode cX3_nearestSide 0 = .ok (.bipush 8, 2) := by decide +kernel
theorem dX3_nearestSide_2 : decode cX3_nearestSide 2 = .ok (.bipush 48, 2) := by decide +kernel
theorem dX3_nearestSide_4 : decode cX3_nearestSide 4 = .ok (.iload_n 0, 1) := by decide +kernel
theorem dX3_nearestSide_5 : decode cX3_nearestSide 5 = .ok (.invokestatic 102, 3) := by decide +kernel
theorem dX3_nearestSide_8 : decode cX3_nearestSide 8 = .ok (.invokestatic 107, 3) := by decide +kernel
theorem dX3_nearestSide_11 : decode cX3_nearestSide 11 = .ok (.ireturn, 1) := by decide +kernel
theorem dX3_isWithin_0 : decode cX3_isWithin 0 = .ok (.iload_n 0, 1) := by decide +kernel
theorem dX3_isWithin_1 : decode cX3_isWithin 1 = .ok (.iload_n 1, 1) := by decide +kernel
theorem dX3_isWithin_2 : decode cX3_isWithin 2 = .ok (.if_icmp .lt 12, 3) := by decide +kernel
theorem dX3_isWithin_5 : decode cX3_isWithin 5 = .ok (.iload_n 0, 1) := by decide +kernel
theorem dX3_isWithin_6 : decode cX3_isWithin 6 = .ok (.iload_n 2, 1) := by decide +kernel
theorem dX3_isWithin_7 : decode cX3_isWithin 7 = .ok (.if_icmp .gt 7, 3) := by decide +kernel
theorem dX3_isWithin_10 : decode cX3_isWithin 10 = .ok (.iconst 1, 1) := by decide +kernel
theorem dX3_isWithin_11 : decode cX3_isWithin 11 = .ok (.goto 4, 3) := by decide +kernel
theorem dX3_isWithin_14 : decode cX3_isWithin 14 = .ok (.iconst 0, 1) := by decide +kernel
theorem dX3_isWithin_15 : decode cX3_isWithin 15 = .ok (.ireturn, 1) := by decide +kernel
theorem dX3_isColour_0 : decode cX3_isColour 0 = .ok (.iload_n 0, 1) := by decide +kernel
theorem dX3_isColour_1 : decode cX3_isColour 1 = .ok (.iconst 0, 1) := by decide +kernel
theorem dX3_isColour_2 : decode cX3_isColour 2 = .ok (.ldc 110, 2) := by decide +kernel
theorem dX3_isColour_4 : decode cX3_isColour 4 = .ok (.invokestatic 40, 3) := by decide +kernel
theorem dX3_isColour_7 : decode cX3_isColour 7 = .ok (.ireturn, 1) := by decide +kernel
theorem dX3_quotient_0 : decode cX3_quotient 0 = .ok (.lload_n 2, 1) := by decide +kernel
theorem dX3_quotient_1 : decode cX3_quotient 1 = .ok (.lconst 0, 1) := by decide +kernel
theorem dX3_quotient_2 : decode cX3_quotient 2 = .ok (.lcmp, 1) := by decide +kernel
theorem dX3_quotient_3 : decode cX3_quotient 3 = .ok (.ifCond .le 11, 3) := by decide +kernel
theorem dX3_quotient_6 : decode cX3_quotient 6 = .ok (.lload_n 0, 1) := by decide +kernel
theorem dX3_quotient_7 : decode cX3_quotient 7 = .ok (.lload_n 2, 1) := by decide +kernel
theorem dX3_quotient_8 : decode cX3_quotient 8 = .ok (.invokestatic 111, 3) := by decide +kernel
theorem dX3_quotient_11 : decode cX3_quotient 11 = .ok (.goto 4, 3) := by decide +kernel
theorem dX3_quotient_14 : decode cX3_quotient 14 = .ok (.lconst 0, 1) := by decide +kernel
theorem dX3_quotient_15 : decode cX3_quotient 15 = .ok (.lreturn, 1) := by decide +kernel
theorem dX3_litColour_0 : decode cX3_litColour 0 = .ok (.iconst 0, 1) := by decide +kernel
theorem dX3_litColour_1 : decode cX3_litColour 1 = .ok (.istore_n 3, 1) := by decide +kernel
theorem dX3_litColour_2 : decode cX3_litColour 2 = .ok (.iconst 0, 1) := by decide +kernel
theorem dX3_litColour_3 : decode cX3_litColour 3 = .ok (.istore 4, 2) := by decide +kernel
theorem dX3_litColour_5 : decode cX3_litColour 5 = .ok (.iload 4, 2) := by decide +kernel
theorem dX3_litColour_7 : decode cX3_litColour 7 = .ok (.bipush 16, 2) := by decide +kernel
theorem dX3_litColour_9 : decode cX3_litColour 9 = .ok (.if_icmp .gt 37, 3) := by decide +kernel
theorem dX3_litColour_12 : decode cX3_litColour 12 = .ok (.iload_n 0, 1) := by decide +kernel
theorem dX3_litColour_13 : decode cX3_litColour 13 = .ok (.iload 4, 2) := by decide +kernel
theorem dX3_litColour_15 : decode cX3_litColour 15 = .ok (.ishr, 1) := by decide +kernel
theorem dX3_litColour_16 : decode cX3_litColour 16 = .ok (.sipush 255, 3) := by decide +kernel
theorem dX3_litColour_19 : decode cX3_litColour 19 = .ok (.iand, 1) := by decide +kernel
theorem dX3_litColour_20 : decode cX3_litColour 20 = .ok (.i2l, 1) := by decide +kernel
theorem dX3_litColour_21 : decode cX3_litColour 21 = .ok (.lstore 5, 2) := by decide +kernel
theorem dX3_litColour_23 : decode cX3_litColour 23 = .ok (.iload_n 3, 1) := by decide +kernel
theorem dX3_litColour_24 : decode cX3_litColour 24 = .ok (.lload 5, 2) := by decide +kernel
theorem dX3_litColour_26 : decode cX3_litColour 26 = .ok (.lload_n 1, 1) := by decide +kernel
theorem dX3_litColour_27 : decode cX3_litColour 27 = .ok (.lmul, 1) := by decide +kernel
theorem dX3_litColour_28 : decode cX3_litColour 28 = .ok (.ldc2_w 115, 3) := by decide +kernel
theorem dX3_litColour_31 : decode cX3_litColour 31 = .ok (.invokestatic 117, 3) := by decide +kernel
theorem dX3_litColour_34 : decode cX3_litColour 34 = .ok (.l2i, 1) := by decide +kernel
theorem dX3_litColour_35 : decode cX3_litColour 35 = .ok (.iload 4, 2) := by decide +kernel
theorem dX3_litColour_37 : decode cX3_litColour 37 = .ok (.ishl, 1) := by decide +kernel
theorem dX3_litColour_38 : decode cX3_litColour 38 = .ok (.ior, 1) := by decide +kernel
theorem dX3_litColour_39 : decode cX3_litColour 39 = .ok (.istore_n 3, 1) := by decide +kernel
theorem dX3_litColour_40 : decode cX3_litColour 40 = .ok (.iinc 4 8, 3) := by decide +kernel
theorem dX3_litColour_43 : decode cX3_litColour 43 = .ok (.goto (-38), 3) := by decide +kernel
theorem dX3_litColour_46 : decode cX3_litColour 46 = .ok (.iload_n 3, 1) := by decide +kernel
theorem dX3_litColour_47 : decode cX3_litColour 47 = .ok (.ireturn, 1) := by decide +kernel
theorem dX3_mixedColour_0 : decode cX3_mixedColour 0 = .ok (.iconst 0, 1) := by decide +kernel
theorem dX3_mixedColour_1 : decode cX3_mixedColour 1 = .ok (.istore_n 3, 1) := by decide +kernel
theorem dX3_mixedColour_2 : decode cX3_mixedColour 2 = .ok (.iconst 0, 1) := by decide +kernel
theorem dX3_mixedColour_3 : decode cX3_mixedColour 3 = .ok (.istore 4, 2) := by decide +kernel
theorem dX3_mixedColour_5 : decode cX3_mixedColour 5 = .ok (.iload 4, 2) := by decide +kernel
theorem dX3_mixedColour_7 : decode cX3_mixedColour 7 = .ok (.bipush 16, 2) := by decide +kernel
theorem dX3_mixedColour_9 : decode cX3_mixedColour 9 = .ok (.if_icmp .gt 63, 3) := by decide +kernel
theorem dX3_mixedColour_12 : decode cX3_mixedColour 12 = .ok (.iload_n 0, 1) := by decide +kernel
theorem dX3_mixedColour_13 : decode cX3_mixedColour 13 = .ok (.iload 4, 2) := by decide +kernel
theorem dX3_mixedColour_15 : decode cX3_mixedColour 15 = .ok (.ishr, 1) := by decide +kernel
theorem dX3_mixedColour_16 : decode cX3_mixedColour 16 = .ok (.sipush 255, 3) := by decide +kernel
theorem dX3_mixedColour_19 : decode cX3_mixedColour 19 = .ok (.iand, 1) := by decide +kernel
theorem dX3_mixedColour_20 : decode cX3_mixedColour 20 = .ok (.i2l, 1) := by decide +kernel
theorem dX3_mixedColour_21 : decode cX3_mixedColour 21 = .ok (.lstore 5, 2) := by decide +kernel
theorem dX3_mixedColour_23 : decode cX3_mixedColour 23 = .ok (.iload_n 1, 1) := by decide +kernel
theorem dX3_mixedColour_24 : decode cX3_mixedColour 24 = .ok (.iload 4, 2) := by decide +kernel
theorem dX3_mixedColour_26 : decode cX3_mixedColour 26 = .ok (.ishr, 1) := by decide +kernel
theorem dX3_mixedColour_27 : decode cX3_mixedColour 27 = .ok (.sipush 255, 3) := by decide +kernel
theorem dX3_mixedColour_30 : decode cX3_mixedColour 30 = .ok (.iand, 1) := by decide +kernel
theorem dX3_mixedColour_31 : decode cX3_mixedColour 31 = .ok (.i2l, 1) := by decide +kernel
theorem dX3_mixedColour_32 : decode cX3_mixedColour 32 = .ok (.lstore 7, 2) := by decide +kernel
theorem dX3_mixedColour_34 : decode cX3_mixedColour 34 = .ok (.lload 5, 2) := by decide +kernel
theorem dX3_mixedColour_36 : decode cX3_mixedColour 36 = .ok (.iload_n 2, 1) := by decide +kernel
theorem dX3_mixedColour_37 : decode cX3_mixedColour 37 = .ok (.i2l, 1) := by decide +kernel
theorem dX3_mixedColour_38 : decode cX3_mixedColour 38 = .ok (.lmul, 1) := by decide +kernel
theorem dX3_mixedColour_39 : decode cX3_mixedColour 39 = .ok (.lload 7, 2) := by decide +kernel
theorem dX3_mixedColour_41 : decode cX3_mixedColour 41 = .ok (.sipush 255, 3) := by decide +kernel
theorem dX3_mixedColour_44 : decode cX3_mixedColour 44 = .ok (.iload_n 2, 1) := by decide +kernel
theorem dX3_mixedColour_45 : decode cX3_mixedColour 45 = .ok (.isub, 1) := by decide +kernel
theorem dX3_mixedColour_46 : decode cX3_mixedColour 46 = .ok (.i2l, 1) := by decide +kernel
theorem dX3_mixedColour_47 : decode cX3_mixedColour 47 = .ok (.lmul, 1) := by decide +kernel
theorem dX3_mixedColour_48 : decode cX3_mixedColour 48 = .ok (.ladd, 1) := by decide +kernel
theorem dX3_mixedColour_49 : decode cX3_mixedColour 49 = .ok (.lstore 9, 2) := by decide +kernel
theorem dX3_mixedColour_51 : decode cX3_mixedColour 51 = .ok (.iload_n 3, 1) := by decide +kernel
theorem dX3_mixedColour_52 : decode cX3_mixedColour 52 = .ok (.lload 9, 2) := by decide +kernel
theorem dX3_mixedColour_54 : decode cX3_mixedColour 54 = .ok (.ldc2_w 120, 3) := by decide +kernel
theorem dX3_mixedColour_57 : decode cX3_mixedColour 57 = .ok (.invokestatic 117, 3) := by decide +kernel
theorem dX3_mixedColour_60 : decode cX3_mixedColour 60 = .ok (.l2i, 1) := by decide +kernel
theorem dX3_mixedColour_61 : decode cX3_mixedColour 61 = .ok (.iload 4, 2) := by decide +kernel
theorem dX3_mixedColour_63 : decode cX3_mixedColour 63 = .ok (.ishl, 1) := by decide +kernel
theorem dX3_mixedColour_64 : decode cX3_mixedColour 64 = .ok (.ior, 1) := by decide +kernel
theorem dX3_mixedColour_65 : decode cX3_mixedColour 65 = .ok (.istore_n 3, 1) := by decide +kernel
theorem dX3_mixedColour_66 : decode cX3_mixedColour 66 = .ok (.iinc 4 8, 3) := by decide +kernel
theorem dX3_mixedColour_69 : decode cX3_mixedColour 69 = .ok (.goto (-64), 3) := by decide +kernel
theorem dX3_mixedColour_72 : decode cX3_mixedColour 72 = .ok (.iload_n 3, 1) := by decide +kernel
theorem dX3_mixedColour_73 : decode cX3_mixedColour 73 = .ok (.ireturn, 1) := by decide +kernel
theorem dX1_init_0 : decode cX1_init 0 = .ok (.aload_n 0, 1) := by decide +kernel
theorem dX1_init_1 : decode cX1_init 1 = .ok (.invokespecial 3, 3) := by decide +kernel
theorem dX1_init_4 : decode cX1_init 4 = .ok (.aload_n 0, 1) := by decide +kernel
theorem dX1_init_5 : decode cX1_init 5 = .ok (.sipush 1536, 3) := by decide +kernel
theorem dX1_init_8 : decode cX1_init 8 = .ok (.newarray .long, 2) := by decide +kernel
theorem dX1_init_10 : decode cX1_init 10 = .ok (.putfield 9, 3) := by decide +kernel
theorem dX1_init_13 : decode cX1_init 13 = .ok (.aload_n 0, 1) := by decide +kernel
theorem dX1_init_14 : decode cX1_init 14 = .ok (.sipush 512, 3) := by decide +kernel
theorem dX1_init_17 : decode cX1_init 17 = .ok (.newarray .int, 2) := by decide +kernel
theorem dX1_init_19 : decode cX1_init 19 = .ok (.putfield 15, 3) := by decide +kernel
theorem dX1_init_22 : decode cX1_init 22 = .ok (.aload_n 0, 1) := by decide +kernel
theorem dX1_init_23 : decode cX1_init 23 = .ok (.sipush 512, 3) := by decide +kernel
theorem dX1_init_26 : decode cX1_init 26 = .ok (.newarray .int, 2) := by decide +kernel
theorem dX1_init_28 : decode cX1_init 28 = .ok (.putfield 19, 3) := by decide +kernel
theorem dX1_init_31 : decode cX1_init 31 = .ok (.aload_n 0, 1) := by decide +kernel
theorem dX1_init_32 : decode cX1_init 32 = .ok (.iconst 0, 1) := by decide +kernel
theorem dX1_init_33 : decode cX1_init 33 = .ok (.putfield 22, 3) := by decide +kernel
theorem dX1_init_36 : decode cX1_init 36 = .ok (.return_, 1) := by decide +kernel
theorem dX1_append_0 : decode cX1_append 0 = .ok (.aload_n 0, 1) := by decide +kernel
theorem dX1_append_1 : decode cX1_append 1 = .ok (.getfield 22, 3) := by decide +kernel
theorem dX1_append_4 : decode cX1_append 4 = .ok (.sipush 512, 3) := by decide +kernel
theorem dX1_append_7 : decode cX1_append 7 = .ok (.if_icmp .lt 5, 3) := by decide +kernel
theorem dX1_append_10 : decode cX1_append 10 = .ok (.iconst (-1), 1) := by decide +kernel
theorem dX1_append_11 : decode cX1_append 11 = .ok (.ireturn, 1) := by decide +kernel
theorem dX1_append_12 : decode cX1_append 12 = .ok (.iconst 0, 1) := by decide +kernel
theorem dX1_append_13 : decode cX1_append 13 = .ok (.istore 4, 2) := by decide +kernel
theorem dX1_append_15 : decode cX1_append 15 = .ok (.iload 4, 2) := by decide +kernel
theorem dX1_append_17 : decode cX1_append 17 = .ok (.iconst 3, 1) := by decide +kernel
theorem dX1_append_18 : decode cX1_append 18 = .ok (.if_icmp .ge 29, 3) := by decide +kernel
theorem dX1_append_21 : decode cX1_append 21 = .ok (.aload_n 0, 1) := by decide +kernel
theorem dX1_append_22 : decode cX1_append 22 = .ok (.getfield 9, 3) := by decide +kernel
theorem dX1_append_25 : decode cX1_append 25 = .ok (.iconst 3, 1) := by decide +kernel
theorem dX1_append_26 : decode cX1_append 26 = .ok (.aload_n 0, 1) := by decide +kernel
theorem dX1_append_27 : decode cX1_append 27 = .ok (.getfield 22, 3) := by decide +kernel
theorem dX1_append_30 : decode cX1_append 30 = .ok (.imul, 1) := by decide +kernel
theorem dX1_append_31 : decode cX1_append 31 = .ok (.iload 4, 2) := by decide +kernel
theorem dX1_append_33 : decode cX1_append 33 = .ok (.iadd, 1) := by decide +kernel
theorem dX1_append_34 : decode cX1_append 34 = .ok (.aload_n 1, 1) := by decide +kernel
theorem dX1_append_35 : decode cX1_append 35 = .ok (.iload 4, 2) := by decide +kernel
theorem dX1_append_37 : decode cX1_append 37 = .ok (.invokevirtual 26, 3) := by decide +kernel
theorem dX1_append_40 : decode cX1_append 40 = .ok (.lastore, 1) := by decide +kernel
theorem dX1_append_41 : decode cX1_append 41 = .ok (.iinc 4 1, 3) := by decide +kernel
theorem dX1_append_44 : decode cX1_append 44 = .ok (.goto (-29), 3) := by decide +kernel
theorem dX1_append_47 : decode cX1_append 47 = .ok (.aload_n 0, 1) := by decide +kernel
theorem dX1_append_48 : decode cX1_append 48 = .ok (.getfield 15, 3) := by decide +kernel
theorem dX1_append_51 : decode cX1_append 51 = .ok (.aload_n 0, 1) := by decide +kernel
theorem dX1_append_52 : decode cX1_append 52 = .ok (.getfield 22, 3) := by decide +kernel
theorem dX1_append_55 : decode cX1_append 55 = .ok (.iload_n 2, 1) := by decide +kernel
theorem dX1_append_56 : decode cX1_append 56 = .ok (.iastore, 1) := by decide +kernel
theorem dX1_append_57 : decode cX1_append 57 = .ok (.aload_n 0, 1) := by decide +kernel
theorem dX1_append_58 : decode cX1_append 58 = .ok (.getfield 19, 3) := by decide +kernel
theorem dX1_append_61 : decode cX1_append 61 = .ok (.aload_n 0, 1) := by decide +kernel
theorem dX1_append_62 : decode cX1_append 62 = .ok (.getfield 22, 3) := by decide +kernel
theorem dX1_append_65 : decode cX1_append 65 = .ok (.iload_n 3, 1) := by decide +kernel
theorem dX1_append_66 : decode cX1_append 66 = .ok (.iastore, 1) := by decide +kernel
theorem dX1_append_67 : decode cX1_append 67 = .ok (.aload_n 0, 1) := by decide +kernel
theorem dX1_append_68 : decode cX1_append 68 = .ok (.dup, 1) := by decide +kernel
theorem dX1_append_69 : decode cX1_append 69 = .ok (.getfield 22, 3) := by decide +kernel
theorem dX1_append_72 : decode cX1_append 72 = .ok (.dup_x1, 1) := by decide +kernel
theorem dX1_append_73 : decode cX1_append 73 = .ok (.iconst 1, 1) := by decide +kernel
theorem dX1_append_74 : decode cX1_append 74 = .ok (.iadd, 1) := by decide +kernel
theorem dX1_append_75 : decode cX1_append 75 = .ok (.putfield 22, 3) := by decide +kernel
theorem dX1_append_78 : decode cX1_append 78 = .ok (.ireturn, 1) := by decide +kernel
theorem dX1_removeAll_0 : decode cX1_removeAll 0 = .ok (.aload_n 0, 1) := by decide +kernel
theorem dX1_removeAll_1 : decode cX1_removeAll 1 = .ok (.iconst 0, 1) := by decide +kernel
theorem dX1_removeAll_2 : decode cX1_removeAll 2 = .ok (.putfield 22, 3) := by decide +kernel
theorem dX1_removeAll_5 : decode cX1_removeAll 5 = .ok (.return_, 1) := by decide +kernel
theorem dX1_copyFrom_0 : decode cX1_copyFrom 0 = .ok (.aload_n 0, 1) := by decide +kernel
theorem dX1_copyFrom_1 : decode cX1_copyFrom 1 = .ok (.aload_n 1, 1) := by decide +kernel
theorem dX1_copyFrom_2 : decode cX1_copyFrom 2 = .ok (.getfield 22, 3) := by decide +kernel
theorem dX1_copyFrom_5 : decode cX1_copyFrom 5 = .ok (.putfield 22, 3) := by decide +kernel
theorem dX1_copyFrom_8 : decode cX1_copyFrom 8 = .ok (.aload_n 1, 1) := by decide +kernel
theorem dX1_copyFrom_9 : decode cX1_copyFrom 9 = .ok (.getfield 9, 3) := by decide +kernel
theorem dX1_copyFrom_12 : decode cX1_copyFrom 12 = .ok (.iconst 0, 1) := by decide +kernel
theorem dX1_copyFrom_13 : decode cX1_copyFrom 13 = .ok (.aload_n 0, 1) := by decide +kernel
theorem dX1_copyFrom_14 : decode cX1_copyFrom 14 = .ok (.getfield 9, 3) := by decide +kernel
theorem dX1_copyFrom_17 : decode cX1_copyFrom 17 = .ok (.iconst 0, 1) := by decide +kernel
theorem dX1_copyFrom_18 : decode cX1_copyFrom 18 = .ok (.iconst 3, 1) := by decide +kernel
theorem dX1_copyFrom_19 : decode cX1_copyFrom 19 = .ok (.aload_n 0, 1) := by decide +kernel
theorem dX1_copyFrom_20 : decode cX1_copyFrom 20 = .ok (.getfield 22, 3) := by decide +kernel
theorem dX1_copyFrom_23 : decode cX1_copyFrom 23 = .ok (.imul, 1) := by decide +kernel
theorem dX1_copyFrom_24 : decode cX1_copyFrom 24 = .ok (.invokestatic 32, 3) := by decide +kernel
theorem dX1_copyFrom_27 : decode cX1_copyFrom 27 = .ok (.aload_n 1, 1) := by decide +kernel
theorem dX1_copyFrom_28 : decode cX1_copyFrom 28 = .ok (.getfield 15, 3) := by decide +kernel
theorem dX1_copyFrom_31 : decode cX1_copyFrom 31 = .ok (.iconst 0, 1) := by decide +kernel
theorem dX1_copyFrom_32 : decode cX1_copyFrom 32 = .ok (.aload_n 0, 1) := by decide +kernel
theorem dX1_copyFrom_33 : decode cX1_copyFrom 33 = .ok (.getfield 15, 3) := by decide +kernel
theorem dX1_copyFrom_36 : decode cX1_copyFrom 36 = .ok (.iconst 0, 1) := by decide +kernel
theorem dX1_copyFrom_37 : decode cX1_copyFrom 37 = .ok (.aload_n 0, 1) := by decide +kernel
theorem dX1_copyFrom_38 : decode cX1_copyFrom 38 = .ok (.getfield 22, 3) := by decide +kernel
theorem dX1_copyFrom_41 : decode cX1_copyFrom 41 = .ok (.invokestatic 32, 3) := by decide +kernel
theorem dX1_copyFrom_44 : decode cX1_copyFrom 44 = .ok (.aload_n 1, 1) := by decide +kernel
theorem dX1_copyFrom_45 : decode cX1_copyFrom 45 = .ok (.getfield 19, 3) := by decide +kernel
theorem dX1_copyFrom_48 : decode cX1_copyFrom 48 = .ok (.iconst 0, 1) := by decide +kernel
theorem dX1_copyFrom_49 : decode cX1_copyFrom 49 = .ok (.aload_n 0, 1) := by decide +kernel
theorem dX1_copyFrom_50 : decode cX1_copyFrom 50 = .ok (.getfield 19, 3) := by decide +kernel
theorem dX1_copyFrom_53 : decode cX1_copyFrom 53 = .ok (.iconst 0, 1) := by decide +kernel
theorem dX1_copyFrom_54 : decode cX1_copyFrom 54 = .ok (.aload_n 0, 1) := by decide +kernel
theorem dX1_copyFrom_55 : decode cX1_copyFrom 55 = .ok (.getfield 22, 3) := by decide +kernel
theorem dX1_copyFrom_58 : decode cX1_copyFrom 58 = .ok (.invokestatic 32, 3) := by decide +kernel
theorem dX1_copyFrom_61 : decode cX1_copyFrom 61 = .ok (.return_, 1) := by decide +kernel
theorem dX1_unpackTo_0 : decode cX1_unpackTo 0 = .ok (.iconst 0, 1) := by decide +kernel
theorem dX1_unpackTo_1 : decode cX1_unpackTo 1 = .ok (.istore_n 3, 1) := by decide +kernel
theorem dX1_unpackTo_2 : decode cX1_unpackTo 2 = .ok (.iload_n 3, 1) := by decide +kernel
theorem dX1_unpackTo_3 : decode cX1_unpackTo 3 = .ok (.iconst 3, 1) := by decide +kernel
theorem dX1_unpackTo_4 : decode cX1_unpackTo 4 = .ok (.if_icmp .ge 24, 3) := by decide +kernel
theorem dX1_unpackTo_7 : decode cX1_unpackTo 7 = .ok (.aload_n 1, 1) := by decide +kernel
theorem dX1_unpackTo_8 : decode cX1_unpackTo 8 = .ok (.iload_n 3, 1) := by decide +kernel
theorem dX1_unpackTo_9 : decode cX1_unpackTo 9 = .ok (.aload_n 0, 1) := by decide +kernel
theorem dX1_unpackTo_10 : decode cX1_unpackTo 10 = .ok (.getfield 9, 3) := by decide +kernel
theorem dX1_unpackTo_13 : decode cX1_unpackTo 13 = .ok (.iconst 3, 1) := by decide +kernel
theorem dX1_unpackTo_14 : decode cX1_unpackTo 14 = .ok (.iload_n 2, 1) := by decide +kernel
theorem dX1_unpackTo_15 : decode cX1_unpackTo 15 = .ok (.imul, 1) := by decide +kernel
theorem dX1_unpackTo_16 : decode cX1_unpackTo 16 = .ok (.iload_n 3, 1) := by decide +kernel
theorem dX1_unpackTo_17 : decode cX1_unpackTo 17 = .ok (.iadd, 1) := by decide +kernel
theorem dX1_unpackTo_18 : decode cX1_unpackTo 18 = .ok (.laload, 1) := by decide +kernel
theorem dX1_unpackTo_19 : decode cX1_unpackTo 19 = .ok (.invokevirtual 38, 3) := by decide +kernel
theorem dX1_unpackTo_22 : decode cX1_unpackTo 22 = .ok (.iinc 3 1, 3) := by decide +kernel
theorem dX1_unpackTo_25 : decode cX1_unpackTo 25 = .ok (.goto (-23), 3) := by decide +kernel
theorem dX1_unpackTo_28 : decode cX1_unpackTo 28 = .ok (.return_, 1) := by decide +kernel
theorem dJ_floorDiv_0 : decode cJ_floorDiv 0 = .ok (.lload_n 0, 1) := by decide +kernel
theorem dJ_floorDiv_1 : decode cJ_floorDiv 1 = .ok (.lload_n 2, 1) := by decide +kernel
theorem dJ_floorDiv_2 : decode cJ_floorDiv 2 = .ok (.ldiv, 1) := by decide +kernel
theorem dJ_floorDiv_3 : decode cJ_floorDiv 3 = .ok (.lstore 4, 2) := by decide +kernel
theorem dJ_floorDiv_5 : decode cJ_floorDiv 5 = .ok (.lload_n 0, 1) := by decide +kernel
theorem dJ_floorDiv_6 : decode cJ_floorDiv 6 = .ok (.lload_n 2, 1) := by decide +kernel
theorem dJ_floorDiv_7 : decode cJ_floorDiv 7 = .ok (.lxor, 1) := by decide +kernel
theorem dJ_floorDiv_8 : decode cJ_floorDiv 8 = .ok (.lconst 0, 1) := by decide +kernel
theorem dJ_floorDiv_9 : decode cJ_floorDiv 9 = .ok (.lcmp, 1) := by decide +kernel
theorem dJ_floorDiv_10 : decode cJ_floorDiv 10 = .ok (.ifCond .ge 17, 3) := by decide +kernel
theorem dJ_floorDiv_13 : decode cJ_floorDiv 13 = .ok (.lload 4, 2) := by decide +kernel
theorem dJ_floorDiv_15 : decode cJ_floorDiv 15 = .ok (.lload_n 2, 1) := by decide +kernel
theorem dJ_floorDiv_16 : decode cJ_floorDiv 16 = .ok (.lmul, 1) := by decide +kernel
theorem dJ_floorDiv_17 : decode cJ_floorDiv 17 = .ok (.lload_n 0, 1) := by decide +kernel
theorem dJ_floorDiv_18 : decode cJ_floorDiv 18 = .ok (.lcmp, 1) := by decide +kernel
theorem dJ_floorDiv_19 : decode cJ_floorDiv 19 = .ok (.ifCond .eq 8, 3) := by decide +kernel
theorem dJ_floorDiv_22 : decode cJ_floorDiv 22 = .ok (.lload 4, 2) := by decide +kernel
theorem dJ_floorDiv_24 : decode cJ_floorDiv 24 = .ok (.lconst 1, 1) := by decide +kernel
theorem dJ_floorDiv_25 : decode cJ_floorDiv 25 = .ok (.lsub, 1) := by decide +kernel
theorem dJ_floorDiv_26 : decode cJ_floorDiv 26 = .ok (.lreturn, 1) := by decide +kernel
theorem dJ_floorDiv_27 : decode cJ_floorDiv 27 = .ok (.lload 4, 2) := by decide +kernel
theorem dJ_floorDiv_29 : decode cJ_floorDiv 29 = .ok (.lreturn, 1) := by decide +kernel
theorem dJ_max_0 : decode cJ_max 0 = .ok (.iload_n 0, 1) := by decide +kernel
theorem dJ_max_1 : decode cJ_max 1 = .ok (.iload_n 1, 1) := by decide +kernel
theorem dJ_max_2 : decode cJ_max 2 = .ok (.if_icmp .lt 7, 3) := by decide +kernel
theorem dJ_max_5 : decode cJ_max 5 = .ok (.iload_n 0, 1) := by decide +kernel
theorem dJ_max_6 : decode cJ_max 6 = .ok (.goto 4, 3) := by decide +kernel
theorem dJ_max_9 : decode cJ_max 9 = .ok (.iload_n 1, 1) := by decide +kernel
theorem dJ_max_10 : decode cJ_max 10 = .ok (.ireturn, 1) := by decide +kernel
theorem dJ_max__0 : decode cJ_max_ 0 = .ok (.lload_n 0, 1) := by decide +kernel
theorem dJ_max__1 : decode cJ_max_ 1 = .ok (.lload_n 2, 1) := by decide +kernel
theorem dJ_max__2 : decode cJ_max_ 2 = .ok (.lcmp, 1) := by decide +kernel
theorem dJ_max__3 : decode cJ_max_ 3 = .ok (.ifCond .lt 7, 3) := by decide +kernel
theorem dJ_max__6 : decode cJ_max_ 6 = .ok (.lload_n 0, 1) := by decide +kernel
theorem dJ_max__7 : decode cJ_max_ 7 = .ok (.goto 4, 3) := by decide +kernel
theorem dJ_max__10 : decode cJ_max_ 10 = .ok (.lload_n 2, 1) := by decide +kernel
theorem dJ_max__11 : decode cJ_max_ 11 = .ok (.lreturn, 1) := by decide +kernel
theorem dJ_min_0 : decode cJ_min 0 = .ok (.iload_n 0, 1) := by decide +kernel
theorem dJ_min_1 : decode cJ_min 1 = .ok (.iload_n 1, 1) := by decide +kernel
theorem dJ_min_2 : decode cJ_min 2 = .ok (.if_icmp .gt 7, 3) := by decide +kernel
theorem dJ_min_5 : decode cJ_min 5 = .ok (.iload_n 0, 1) := by decide +kernel
theorem dJ_min_6 : decode cJ_min 6 = .ok (.goto 4, 3) := by decide +kernel
theorem dJ_min_9 : decode cJ_min 9 = .ok (.iload_n 1, 1) := by decide +kernel
theorem dJ_min_10 : decode cJ_min 10 = .ok (.ireturn, 1) := by decide +kernel
theorem dJ_min__0 : decode cJ_min_ 0 = .ok (.lload_n 0, 1) := by decide +kernel
theorem dJ_min__1 : decode cJ_min_ 1 = .ok (.lload_n 2, 1) := by decide +kernel
theorem dJ_min__2 : decode cJ_min_ 2 = .ok (.lcmp, 1) := by decide +kernel
theorem dJ_min__3 : decode cJ_min_ 3 = .ok (.ifCond .gt 7, 3) := by decide +kernel
theorem dJ_min__6 : decode cJ_min_ 6 = .ok (.lload_n 0, 1) := by decide +kernel
theorem dJ_min__7 : decode cJ_min_ 7 = .ok (.goto 4, 3) := by decide +kernel
theorem dJ_min__10 : decode cJ_min_ 10 = .ok (.lload_n 2, 1) := by decide +kernel
theorem dJ_min__11 : decode cJ_min_ 11 = .ok (.lreturn, 1) := by decide +kernel
end
section
theorem dX2_init_0 : decode cX2_init 0 = .ok (.aload_n 0, 1) := by decide +kernel
theorem dX2_init_1 : decode cX2_init 1 = .ok (.invokespecial 3, 3) := by decide +kernel
theorem dX2_init_4 : decode cX2_init 4 = .ok (.aload_n 0, 1) := by decide +kernel
theorem dX2_init_5 : decode cX2_init 5 = .ok (.new 9, 3) := by decide +kernel
theorem dX2_init_8 : decode cX2_init 8 = .ok (.dup, 1) := by decide +kernel
theorem dX2_init_9 : decode cX2_init 9 = .ok (.invokespecial 11, 3) := by decide +kernel
theorem dX2_init_12 : decode cX2_init 12 = .ok (.putfield 12, 3) := by decide +kernel
theorem dX2_init_15 : decode cX2_init 15 = .ok (.aload_n 0, 1) := by decide +kernel
theorem dX2_init_16 : decode cX2_init 16 = .ok (.new 18, 3) := by decide +kernel
theorem dX2_init_19 : decode cX2_init 19 = .ok (.dup, 1) := by decide +kernel
theorem dX2_init_20 : decode cX2_init 20 = .ok (.invokespecial 20, 3) := by decide +kernel
theorem dX2_init_23 : decode cX2_init 23 = .ok (.putfield 21, 3) := by decide +kernel
theorem dX2_init_26 : decode cX2_init 26 = .ok (.aload_n 0, 1) := by decide +kernel
theorem dX2_init_27 : decode cX2_init 27 = .ok (.iconst 0, 1) := by decide +kernel
theorem dX2_init_28 : decode cX2_init 28 = .ok (.putfield 25, 3) := by decide +kernel
theorem dX2_init_31 : decode cX2_init 31 = .ok (.aload_n 0, 1) := by decide +kernel
theorem dX2_init_32 : decode cX2_init 32 = .ok (.iconst 0, 1) := by decide +kernel
theorem dX2_init_33 : decode cX2_init 33 = .ok (.putfield 29, 3) := by decide +kernel
theorem dX2_init_36 : decode cX2_init 36 = .ok (.aload_n 0, 1) := by decide +kernel
theorem dX2_init_37 : decode cX2_init 37 = .ok (.iconst 0, 1) := by decide +kernel
theorem dX2_init_38 : decode cX2_init 38 = .ok (.putfield 33, 3) := by decide +kernel
theorem dX2_init_41 : decode cX2_init 41 = .ok (.aload_n 0, 1) := by decide +kernel
theorem dX2_init_42 : decode cX2_init 42 = .ok (.iconst 0, 1) := by decide +kernel
theorem dX2_init_43 : decode cX2_init 43 = .ok (.putfield 36, 3) := by decide +kernel
theorem dX2_init_46 : decode cX2_init 46 = .ok (.aload_n 0, 1) := by decide +kernel
theorem dX2_init_47 : decode cX2_init 47 = .ok (.iconst 0, 1) := by decide +kernel
theorem dX2_init_48 : decode cX2_init 48 = .ok (.putfield 39, 3) := by decide +kernel
theorem dX2_init_51 : decode cX2_init 51 = .ok (.aload_n 0, 1) := by decide +kernel
theorem dX2_init_52 : decode cX2_init 52 = .ok (.iconst 0, 1) := by decide +kernel
theorem dX2_init_53 : decode cX2_init 53 = .ok (.putfield 42, 3) := by decide +kernel
theorem dX2_init_56 : decode cX2_init 56 = .ok (.aload_n 0, 1) := by decide +kernel
theorem dX2_init_57 : decode cX2_init 57 = .ok (.iconst 0, 1) := by decide +kernel
theorem dX2_init_58 : decode cX2_init 58 = .ok (.putfield 45, 3) := by decide +kernel
theorem dX2_init_61 : decode cX2_init 61 = .ok (.aload_n 0, 1) := by decide +kernel
theorem dX2_init_62 : decode cX2_init 62 = .ok (.iload_n 1, 1) := by decide +kernel
theorem dX2_init_63 : decode cX2_init 63 = .ok (.putfield 48, 3) := by decide +kernel
theorem dX2_init_66 : decode cX2_init 66 = .ok (.aload_n 0, 1) := by decide +kernel
theorem dX2_init_67 : decode cX2_init 67 = .ok (.iload_n 2, 1) := by decide +kernel
theorem dX2_init_68 : decode cX2_init 68 = .ok (.putfield 51, 3) := by decide +kernel
theorem dX2_init_71 : decode cX2_init 71 = .ok (.aload_n 0, 1) := by decide +kernel
theorem dX2_init_72 : decode cX2_init 72 = .ok (.iload_n 1, 1) := by decide +kernel
theorem dX2_init_73 : decode cX2_init 73 = .ok (.bipush 8, 2) := by decide +kernel
theorem dX2_init_75 : decode cX2_init 75 = .ok (.iadd, 1) := by decide +kernel
theorem dX2_init_76 : decode cX2_init 76 = .ok (.iconst 1, 1) := by decide +kernel
theorem dX2_init_77 : decode cX2_init 77 = .ok (.isub, 1) := by decide +kernel
theorem dX2_init_78 : decode cX2_init 78 = .ok (.bipush 8, 2) := by decide +kernel
theorem dX2_init_80 : decode cX2_init 80 = .ok (.idiv, 1) := by decide +kernel
theorem dX2_init_81 : decode cX2_init 81 = .ok (.putfield 54, 3) := by decide +kernel
theorem dX2_init_84 : decode cX2_init 84 = .ok (.iload_n 2, 1) := by decide +kernel
theorem dX2_init_85 : decode cX2_init 85 = .ok (.bipush 8, 2) := by decide +kernel
theorem dX2_init_87 : decode cX2_init 87 = .ok (.iadd, 1) := by decide +kernel
theorem dX2_init_88 : decode cX2_init 88 = .ok (.iconst 1, 1) := by decide +kernel
theorem dX2_init_89 : decode cX2_init 89 = .ok (.isub, 1) := by decide +kernel
theorem dX2_init_90 : decode cX2_init 90 = .ok (.bipush 8, 2) := by decide +kernel
theorem dX2_init_92 : decode cX2_init 92 = .ok (.idiv, 1) := by decide +kernel
theorem dX2_init_93 : decode cX2_init 93 = .ok (.istore_n 3, 1) := by decide +kernel
theorem dX2_init_94 : decode cX2_init 94 = .ok (.aload_n 0, 1) := by decide +kernel
theorem dX2_init_95 : decode cX2_init 95 = .ok (.iload_n 1, 1) := by decide +kernel
theorem dX2_init_96 : decode cX2_init 96 = .ok (.iload_n 2, 1) := by decide +kernel
theorem dX2_init_97 : decode cX2_init 97 = .ok (.imul, 1) := by decide +kernel
theorem dX2_init_98 : decode cX2_init 98 = .ok (.newarray .int, 2) := by decide +kernel
theorem dX2_init_100 : decode cX2_init 100 = .ok (.putfield 57, 3) := by decide +kernel
theorem dX2_init_103 : decode cX2_init 103 = .ok (.aload_n 0, 1) := by decide +kernel
theorem dX2_init_104 : decode cX2_init 104 = .ok (.iload_n 1, 1) := by decide +kernel
theorem dX2_init_105 : decode cX2_init 105 = .ok (.iload_n 2, 1) := by decide +kernel
theorem dX2_init_106 : decode cX2_init 106 = .ok (.imul, 1) := by decide +kernel
theorem dX2_init_107 : decode cX2_init 107 = .ok (.newarray .int, 2) := by decide +kernel
theorem dX2_init_109 : decode cX2_init 109 = .ok (.putfield 61, 3) := by decide +kernel
theorem dX2_init_112 : decode cX2_init 112 = .ok (.aload_n 0, 1) := by decide +kernel
theorem dX2_init_113 : decode cX2_init 113 = .ok (.aload_n 0, 1) := by decide +kernel
theorem dX2_init_114 : decode cX2_init 114 = .ok (.getfield 54, 3) := by decide +kernel
theorem dX2_init_117 : decode cX2_init 117 = .ok (.iload_n 3, 1) := by decide +kernel
theorem dX2_init_118 : decode cX2_init 118 = .ok (.imul, 1) := by decide +kernel
theorem dX2_init_119 : decode cX2_init 119 = .ok (.newarray .boolean, 2) := by decide +kernel
theorem dX2_init_121 : decode cX2_init 121 = .ok (.putfield 64, 3) := by decide +kernel
theorem dX2_init_124 : decode cX2_init 124 = .ok (.return_, 1) := by decide +kernel
theorem dX2_start_0 : decode cX2_start 0 = .ok (.aload_n 0, 1) := by decide +kernel
theorem dX2_start_1 : decode cX2_start 1 = .ok (.getfield 12, 3) := by decide +kernel
theorem dX2_start_4 : decode cX2_start 4 = .ok (.aload_n 1, 1) := by decide +kernel
theorem dX2_start_5 : decode cX2_start 5 = .ok (.invokevirtual 68, 3) := by decide +kernel
theorem dX2_start_8 : decode cX2_start 8 = .ok (.aload_n 0, 1) := by decide +kernel
theorem dX2_start_9 : decode cX2_start 9 = .ok (.iload_n 2, 1) := by decide +kernel
theorem dX2_start_10 : decode cX2_start 10 = .ok (.putfield 25, 3) := by decide +kernel
theorem dX2_start_13 : decode cX2_start 13 = .ok (.aload_n 0, 1) := by decide +kernel
theorem dX2_start_14 : decode cX2_start 14 = .ok (.iconst 1, 1) := by decide +kernel
theorem dX2_start_15 : decode cX2_start 15 = .ok (.putfield 29, 3) := by decide +kernel
theorem dX2_start_18 : decode cX2_start 18 = .ok (.aload_n 0, 1) := by decide +kernel
theorem dX2_start_19 : decode cX2_start 19 = .ok (.iconst 0, 1) := by decide +kernel
theorem dX2_start_20 : decode cX2_start 20 = .ok (.putfield 33, 3) := by decide +kernel
theorem dX2_start_23 : decode cX2_start 23 = .ok (.iconst 0, 1) := by decide +kernel
theorem dX2_start_24 : decode cX2_start 24 = .ok (.istore_n 3, 1) := by decide +kernel
theorem dX2_start_25 : decode cX2_start 25 = .ok (.iload_n 3, 1) := by decide +kernel
theorem dX2_start_26 : decode cX2_start 26 = .ok (.aload_n 0, 1) := by decide +kernel
theorem dX2_start_27 : decode cX2_start 27 = .ok (.getfield 64, 3) := by decide +kernel
theorem dX2_start_30 : decode cX2_start 30 = .ok (.arraylength, 1) := by decide +kernel
theorem dX2_start_31 : decode cX2_start 31 = .ok (.if_icmp .ge 16, 3) := by decide +kernel
theorem dX2_start_34 : decode cX2_start 34 = .ok (.aload_n 0, 1) := by decide +kernel
theorem dX2_start_35 : decode cX2_start 35 = .ok (.getfield 64, 3) := by decide +kernel
theorem dX2_start_38 : decode cX2_start 38 = .ok (.iload_n 3, 1) := by decide +kernel
theorem dX2_start_39 : decode cX2_start 39 = .ok (.iconst 0, 1) := by decide +kernel
theorem dX2_start_40 : decode cX2_start 40 = .ok (.bastore, 1) := by decide +kernel
theorem dX2_start_41 : decode cX2_start 41 = .ok (.iinc 3 1, 3) := by decide +kernel
theorem dX2_start_44 : decode cX2_start 44 = .ok (.goto (-19), 3) := by decide +kernel
theorem dX2_start_47 : decode cX2_start 47 = .ok (.aload_n 0, 1) := by decide +kernel
theorem dX2_start_48 : decode cX2_start 48 = .ok (.getfield 64, 3) := by decide +kernel
theorem dX2_start_51 : decode cX2_start 51 = .ok (.arraylength, 1) := by decide +kernel
theorem dX2_start_52 : decode cX2_start 52 = .ok (.ireturn, 1) := by decide +kernel
theorem dX2_pixelIndex_0 : decode cX2_pixelIndex 0 = .ok (.iload_n 2, 1) := by decide +kernel
theorem dX2_pixelIndex_1 : decode cX2_pixelIndex 1 = .ok (.aload_n 0, 1) := by decide +kernel
theorem dX2_pixelIndex_2 : decode cX2_pixelIndex 2 = .ok (.getfield 48, 3) := by decide +kernel
theorem dX2_pixelIndex_5 : decode cX2_pixelIndex 5 = .ok (.imul, 1) := by decide +kernel
theorem dX2_pixelIndex_6 : decode cX2_pixelIndex 6 = .ok (.iload_n 1, 1) := by decide +kernel
theorem dX2_pixelIndex_7 : decode cX2_pixelIndex 7 = .ok (.iadd, 1) := by decide +kernel
theorem dX2_pixelIndex_8 : decode cX2_pixelIndex 8 = .ok (.ireturn, 1) := by decide +kernel
theorem dX2_isShown_0 : decode cX2_isShown 0 = .ok (.iload_n 1, 1) := by decide +kernel
theorem dX2_isShown_1 : decode cX2_isShown 1 = .ok (.iconst 0, 1) := by decide +kernel
theorem dX2_isShown_2 : decode cX2_isShown 2 = .ok (.aload_n 0, 1) := by decide +kernel
theorem dX2_isShown_3 : decode cX2_isShown 3 = .ok (.getfield 48, 3) := by decide +kernel
theorem dX2_isShown_6 : decode cX2_isShown 6 = .ok (.iconst 1, 1) := by decide +kernel
theorem dX2_isShown_7 : decode cX2_isShown 7 = .ok (.isub, 1) := by decide +kernel
theorem dX2_isShown_8 : decode cX2_isShown 8 = .ok (.invokestatic 72, 3) := by decide +kernel
theorem dX2_isShown_11 : decode cX2_isShown 11 = .ok (.ifCond .eq 43, 3) := by decide +kernel
theorem dX2_isShown_14 : decode cX2_isShown 14 = .ok (.iload_n 2, 1) := by decide +kernel
theorem dX2_isShown_15 : decode cX2_isShown 15 = .ok (.iconst 0, 1) := by decide +kernel
theorem dX2_isShown_16 : decode cX2_isShown 16 = .ok (.aload_n 0, 1) := by decide +kernel
theorem dX2_isShown_17 : decode cX2_isShown 17 = .ok (.getfield 51, 3) := by decide +kernel
theorem dX2_isShown_20 : decode cX2_isShown 20 = .ok (.iconst 1, 1) := by decide +kernel
theorem dX2_isShown_21 : decode cX2_isShown 21 = .ok (.isub, 1) := by decide +kernel
theorem dX2_isShown_22 : decode cX2_isShown 22 = .ok (.invokestatic 72, 3) := by decide +kernel
theorem dX2_isShown_25 : decode cX2_isShown 25 = .ok (.ifCond .eq 29, 3) := by decide +kernel
theorem dX2_isShown_28 : decode cX2_isShown 28 = .ok (.aload_n 0, 1) := by decide +kernel
theorem dX2_isShown_29 : decode cX2_isShown 29 = .ok (.getfield 64, 3) := by decide +kernel
theorem dX2_isShown_32 : decode cX2_isShown 32 = .ok (.iload_n 2, 1) := by decide +kernel
theorem dX2_isShown_33 : decode cX2_isShown 33 = .ok (.bipush 8, 2) := by decide +kernel
theorem dX2_isShown_35 : decode cX2_isShown 35 = .ok (.idiv, 1) := by decide +kernel
theorem dX2_isShown_36 : decode cX2_isShown 36 = .ok (.aload_n 0, 1) := by decide +kernel
theorem dX2_isShown_37 : decode cX2_isShown 37 = .ok (.getfield 54, 3) := by decide +kernel
theorem dX2_isShown_40 : decode cX2_isShown 40 = .ok (.imul, 1) := by decide +kernel
theorem dX2_isShown_41 : decode cX2_isShown 41 = .ok (.iload_n 1, 1) := by decide +kernel
theorem dX2_isShown_42 : decode cX2_isShown 42 = .ok (.bipush 8, 2) := by decide +kernel
theorem dX2_isShown_44 : decode cX2_isShown 44 = .ok (.idiv, 1) := by decide +kernel
theorem dX2_isShown_45 : decode cX2_isShown 45 = .ok (.iadd, 1) := by decide +kernel
theorem dX2_isShown_46 : decode cX2_isShown 46 = .ok (.baload, 1) := by decide +kernel
theorem dX2_isShown_47 : decode cX2_isShown 47 = .ok (.ifCond .eq 7, 3) := by decide +kernel
theorem dX2_isShown_50 : decode cX2_isShown 50 = .ok (.iconst 1, 1) := by decide +kernel
theorem dX2_isShown_51 : decode cX2_isShown 51 = .ok (.goto 4, 3) := by decide +kernel
theorem dX2_isShown_54 : decode cX2_isShown 54 = .ok (.iconst 0, 1) := by decide +kernel
theorem dX2_isShown_55 : decode cX2_isShown 55 = .ok (.ireturn, 1) := by decide +kernel
theorem dX2_drawTile_0 : decode cX2_drawTile 0 = .ok (.aload_n 0, 1) := by decide +kernel
theorem dX2_drawTile_1 : decode cX2_drawTile 1 = .ok (.getfield 29, 3) := by decide +kernel
theorem dX2_drawTile_4 : decode cX2_drawTile 4 = .ok (.ifCond .eq 25, 3) := by decide +kernel
theorem dX2_drawTile_7 : decode cX2_drawTile 7 = .ok (.iload_n 1, 1) := by decide +kernel
theorem dX2_drawTile_8 : decode cX2_drawTile 8 = .ok (.ifCond .lt 21, 3) := by decide +kernel
theorem dX2_drawTile_11 : decode cX2_drawTile 11 = .ok (.iload_n 1, 1) := by decide +kernel
theorem dX2_drawTile_12 : decode cX2_drawTile 12 = .ok (.aload_n 0, 1) := by decide +kernel
theorem dX2_drawTile_13 : decode cX2_drawTile 13 = .ok (.getfield 64, 3) := by decide +kernel
theorem dX2_drawTile_16 : decode cX2_drawTile 16 = .ok (.arraylength, 1) := by decide +kernel
theorem dX2_drawTile_17 : decode cX2_drawTile 17 = .ok (.if_icmp .ge 12, 3) := by decide +kernel
theorem dX2_drawTile_20 : decode cX2_drawTile 20 = .ok (.aload_n 0, 1) := by decide +kernel
theorem dX2_drawTile_21 : decode cX2_drawTile 21 = .ok (.getfield 64, 3) := by decide +kernel
theorem dX2_drawTile_24 : decode cX2_drawTile 24 = .ok (.iload_n 1, 1) := by decide +kernel
theorem dX2_drawTile_25 : decode cX2_drawTile 25 = .ok (.baload, 1) := by decide +kernel
theorem dX2_drawTile_26 : decode cX2_drawTile 26 = .ok (.ifCond .eq 5, 3) := by decide +kernel
theorem dX2_drawTile_29 : decode cX2_drawTile 29 = .ok (.iconst 0, 1) := by decide +kernel
theorem dX2_drawTile_30 : decode cX2_drawTile 30 = .ok (.ireturn, 1) := by decide +kernel
theorem dX2_drawTile_31 : decode cX2_drawTile 31 = .ok (.aload_n 0, 1) := by decide +kernel
theorem dX2_drawTile_32 : decode cX2_drawTile 32 = .ok (.iload_n 1, 1) := by decide +kernel
theorem dX2_drawTile_33 : decode cX2_drawTile 33 = .ok (.invokevirtual 76, 3) := by decide +kernel
theorem dX2_drawTile_36 : decode cX2_drawTile 36 = .ok (.aload_n 0, 1) := by decide +kernel
theorem dX2_drawTile_37 : decode cX2_drawTile 37 = .ok (.invokevirtual 80, 3) := by decide +kernel
theorem dX2_drawTile_40 : decode cX2_drawTile 40 = .ok (.iconst 0, 1) := by decide +kernel
theorem dX2_drawTile_41 : decode cX2_drawTile 41 = .ok (.istore_n 2, 1) := by decide +kernel
theorem dX2_drawTile_42 : decode cX2_drawTile 42 = .ok (.iload_n 2, 1) := by decide +kernel
theorem dX2_drawTile_43 : decode cX2_drawTile 43 = .ok (.aload_n 0, 1) := by decide +kernel
theorem dX2_drawTile_44 : decode cX2_drawTile 44 = .ok (.getfield 12, 3) := by decide +kernel
theorem dX2_drawTile_47 : decode cX2_drawTile 47 = .ok (.getfield 83, 3) := by decide +kernel
theorem dX2_drawTile_50 : decode cX2_drawTile 50 = .ok (.if_icmp .ge 14, 3) := by decide +kernel
theorem dX2_drawTile_53 : decode cX2_drawTile 53 = .ok (.aload_n 0, 1) := by decide +kernel
theorem dX2_drawTile_54 : decode cX2_drawTile 54 = .ok (.iload_n 2, 1) := by decide +kernel
theorem dX2_drawTile_55 : decode cX2_drawTile 55 = .ok (.invokevirtual 86, 3) := by decide +kernel
theorem dX2_drawTile_58 : decode cX2_drawTile 58 = .ok (.iinc 2 1, 3) := by decide +kernel
theorem dX2_drawTile_61 : decode cX2_drawTile 61 = .ok (.goto (-19), 3) := by decide +kernel
theorem dX2_drawTile_64 : decode cX2_drawTile 64 = .ok (.aload_n 0, 1) := by decide +kernel
theorem dX2_drawTile_65 : decode cX2_drawTile 65 = .ok (.getfield 64, 3) := by decide +kernel
theorem dX2_drawTile_68 : decode cX2_drawTile 68 = .ok (.iload_n 1, 1) := by decide +kernel
theorem dX2_drawTile_69 : decode cX2_drawTile 69 = .ok (.iconst 1, 1) := by decide +kernel
theorem dX2_drawTile_70 : decode cX2_drawTile 70 = .ok (.bastore, 1) := by decide +kernel
theorem dX2_drawTile_71 : decode cX2_drawTile 71 = .ok (.aload_n 0, 1) := by decide +kernel
theorem dX2_drawTile_72 : decode cX2_drawTile 72 = .ok (.dup, 1) := by decide +kernel
theorem dX2_drawTile_73 : decode cX2_drawTile 73 = .ok (.getfield 33, 3) := by decide +kernel
theorem dX2_drawTile_76 : decode cX2_drawTile 76 = .ok (.iconst 1, 1) := by decide +kernel
theorem dX2_drawTile_77 : decode cX2_drawTile 77 = .ok (.iadd, 1) := by decide +kernel
theorem dX2_drawTile_78 : decode cX2_drawTile 78 = .ok (.putfield 33, 3) := by decide +kernel
theorem dX2_drawTile_81 : decode cX2_drawTile 81 = .ok (.iconst 1, 1) := by decide +kernel
theorem dX2_drawTile_82 : decode cX2_drawTile 82 = .ok (.ireturn, 1) := by decide +kernel
theorem dX2_frameTile_0 : decode cX2_frameTile 0 = .ok (.iload_n 1, 1) := by decide +kernel
theorem dX2_frameTile_1 : decode cX2_frameTile 1 = .ok (.i2l, 1) := by decide +kernel
theorem dX2_frameTile_2 : decode cX2_frameTile 2 = .ok (.aload_n 0, 1) := by decide +kernel
theorem dX2_frameTile_3 : decode cX2_frameTile 3 = .ok (.getfield 54, 3) := by decide +kernel
theorem dX2_frameTile_6 : decode cX2_frameTile 6 = .ok (.i2l, 1) := by decide +kernel
theorem dX2_frameTile_7 : decode cX2_frameTile 7 = .ok (.invokestatic 89, 3) := by decide +kernel
theorem dX2_frameTile_10 : decode cX2_frameTile 10 = .ok (.l2i, 1) := by decide +kernel
theorem dX2_frameTile_11 : decode cX2_frameTile 11 = .ok (.istore_n 2, 1) := by decide +kernel
theorem dX2_frameTile_12 : decode cX2_frameTile 12 = .ok (.iload_n 1, 1) := by decide +kernel
theorem dX2_frameTile_13 : decode cX2_frameTile 13 = .ok (.iload_n 2, 1) := by decide +kernel
theorem dX2_frameTile_14 : decode cX2_frameTile 14 = .ok (.aload_n 0, 1) := by decide +kernel
theorem dX2_frameTile_15 : decode cX2_frameTile 15 = .ok (.getfield 54, 3) := by decide +kernel
theorem dX2_frameTile_18 : decode cX2_frameTile 18 = .ok (.imul, 1) := by decide +kernel
theorem dX2_frameTile_19 : decode cX2_frameTile 19 = .ok (.isub, 1) := by decide +kernel
theorem dX2_frameTile_20 : decode cX2_frameTile 20 = .ok (.istore_n 3, 1) := by decide +kernel
theorem dX2_frameTile_21 : decode cX2_frameTile 21 = .ok (.aload_n 0, 1) := by decide +kernel
theorem dX2_frameTile_22 : decode cX2_frameTile 22 = .ok (.iload_n 3, 1) := by decide +kernel
theorem dX2_frameTile_23 : decode cX2_frameTile 23 = .ok (.bipush 8, 2) := by decide +kernel
theorem dX2_frameTile_25 : decode cX2_frameTile 25 = .ok (.imul, 1) := by decide +kernel
theorem dX2_frameTile_26 : decode cX2_frameTile 26 = .ok (.putfield 36, 3) := by decide +kernel
theorem dX2_frameTile_29 : decode cX2_frameTile 29 = .ok (.aload_n 0, 1) := by decide +kernel
theorem dX2_frameTile_30 : decode cX2_frameTile 30 = .ok (.iload_n 2, 1) := by decide +kernel
theorem dX2_frameTile_31 : decode cX2_frameTile 31 = .ok (.bipush 8, 2) := by decide +kernel
theorem dX2_frameTile_33 : decode cX2_frameTile 33 = .ok (.imul, 1) := by decide +kernel
theorem dX2_frameTile_34 : decode cX2_frameTile 34 = .ok (.putfield 39, 3) := by decide +kernel
theorem dX2_frameTile_37 : decode cX2_frameTile 37 = .ok (.aload_n 0, 1) := by decide +kernel
theorem dX2_frameTile_38 : decode cX2_frameTile 38 = .ok (.aload_n 0, 1) := by decide +kernel
theorem dX2_frameTile_39 : decode cX2_frameTile 39 = .ok (.getfield 48, 3) := by decide +kernel
theorem dX2_frameTile_42 : decode cX2_frameTile 42 = .ok (.aload_n 0, 1) := by decide +kernel
theorem dX2_frameTile_43 : decode cX2_frameTile 43 = .ok (.getfield 36, 3) := by decide +kernel
theorem dX2_frameTile_46 : decode cX2_frameTile 46 = .ok (.bipush 8, 2) := by decide +kernel
theorem dX2_frameTile_48 : decode cX2_frameTile 48 = .ok (.iadd, 1) := by decide +kernel
theorem dX2_frameTile_49 : decode cX2_frameTile 49 = .ok (.invokestatic 93, 3) := by decide +kernel
theorem dX2_frameTile_52 : decode cX2_frameTile 52 = .ok (.putfield 42, 3) := by decide +kernel
theorem dX2_frameTile_55 : decode cX2_frameTile 55 = .ok (.aload_n 0, 1) := by decide +kernel
theorem dX2_frameTile_56 : decode cX2_frameTile 56 = .ok (.aload_n 0, 1) := by decide +kernel
theorem dX2_frameTile_57 : decode cX2_frameTile 57 = .ok (.getfield 51, 3) := by decide +kernel
theorem dX2_frameTile_60 : decode cX2_frameTile 60 = .ok (.aload_n 0, 1) := by decide +kernel
theorem dX2_frameTile_61 : decode cX2_frameTile 61 = .ok (.getfield 39, 3) := by decide +kernel
theorem dX2_frameTile_64 : decode cX2_frameTile 64 = .ok (.bipush 8, 2) := by decide +kernel
theorem dX2_frameTile_66 : decode cX2_frameTile 66 = .ok (.iadd, 1) := by decide +kernel
theorem dX2_frameTile_67 : decode cX2_frameTile 67 = .ok (.invokestatic 93, 3) := by decide +kernel
theorem dX2_frameTile_70 : decode cX2_frameTile 70 = .ok (.putfield 45, 3) := by decide +kernel
theorem dX2_frameTile_73 : decode cX2_frameTile 73 = .ok (.return_, 1) := by decide +kernel
theorem dX2_fillWithBackground_0 : decode cX2_fillWithBackground 0 = .ok (.aload_n 0, 1) := by decide +kernel
theorem dX2_fillWithBackground_1 : decode cX2_fillWithBackground 1 = .ok (.getfield 39, 3) := by decide +kernel
theorem dX2_fillWithBackground_4 : decode cX2_fillWithBackground 4 = .ok (.istore_n 1, 1) := by decide +kernel
theorem dX2_fillWithBackground_5 : decode cX2_fillWithBackground 5 = .ok (.iload_n 1, 1) := by decide +kernel
theorem dX2_fillWithBackground_6 : decode cX2_fillWithBackground 6 = .ok (.aload_n 0, 1) := by decide +kernel
theorem dX2_fillWithBackground_7 : decode cX2_fillWithBackground 7 = .ok (.getfield 45, 3) := by decide +kernel
theorem dX2_fillWithBackground_10 : decode cX2_fillWithBackground 10 = .ok (.if_icmp .ge 55, 3) := by decide +kernel
theorem dX2_fillWithBackground_13 : decode cX2_fillWithBackground 13 = .ok (.aload_n 0, 1) := by decide +kernel
theorem dX2_fillWithBackground_14 : decode cX2_fillWithBackground 14 = .ok (.getfield 36, 3) := by decide +kernel
theorem dX2_fillWithBackground_17 : decode cX2_fillWithBackground 17 = .ok (.istore_n 2, 1) := by decide +kernel
theorem dX2_fillWithBackground_18 : decode cX2_fillWithBackground 18 = .ok (.iload_n 2, 1) := by decide +kernel
theorem dX2_fillWithBackground_19 : decode cX2_fillWithBackground 19 = .ok (.aload_n 0, 1) := by decide +kernel
theorem dX2_fillWithBackground_20 : decode cX2_fillWithBackground 20 = .ok (.getfield 42, 3) := by decide +kernel
theorem dX2_fillWithBackground_23 : decode cX2_fillWithBackground 23 = .ok (.if_icmp .ge 36, 3) := by decide +kernel
theorem dX2_fillWithBackground_26 : decode cX2_fillWithBackground 26 = .ok (.aload_n 0, 1) := by decide +kernel
theorem dX2_fillWithBackground_27 : decode cX2_fillWithBackground 27 = .ok (.getfield 57, 3) := by decide +kernel
theorem dX2_fillWithBackground_30 : decode cX2_fillWithBackground 30 = .ok (.aload_n 0, 1) := by decide +kernel
theorem dX2_fillWithBackground_31 : decode cX2_fillWithBackground 31 = .ok (.iload_n 2, 1) := by decide +kernel
theorem dX2_fillWithBackground_32 : decode cX2_fillWithBackground 32 = .ok (.iload_n 1, 1) := by decide +kernel
theorem dX2_fillWithBackground_33 : decode cX2_fillWithBackground 33 = .ok (.invokevirtual 99, 3) := by decide +kernel
theorem dX2_fillWithBackground_36 : decode cX2_fillWithBackground 36 = .ok (.aload_n 0, 1) := by decide +kernel
theorem dX2_fillWithBackground_37 : decode cX2_fillWithBackground 37 = .ok (.getfield 25, 3) := by decide +kernel
theorem dX2_fillWithBackground_40 : decode cX2_fillWithBackground 40 = .ok (.iastore, 1) := by decide +kernel
theorem dX2_fillWithBackground_41 : decode cX2_fillWithBackground 41 = .ok (.aload_n 0, 1) := by decide +kernel
theorem dX2_fillWithBackground_42 : decode cX2_fillWithBackground 42 = .ok (.getfield 61, 3) := by decide +kernel
theorem dX2_fillWithBackground_45 : decode cX2_fillWithBackground 45 = .ok (.aload_n 0, 1) := by decide +kernel
theorem dX2_fillWithBackground_46 : decode cX2_fillWithBackground 46 = .ok (.iload_n 2, 1) := by decide +kernel
theorem dX2_fillWithBackground_47 : decode cX2_fillWithBackground 47 = .ok (.iload_n 1, 1) := by decide +kernel
theorem dX2_fillWithBackground_48 : decode cX2_fillWithBackground 48 = .ok (.invokevirtual 99, 3) := by decide +kernel
theorem dX2_fillWithBackground_51 : decode cX2_fillWithBackground 51 = .ok (.iconst 0, 1) := by decide +kernel
theorem dX2_fillWithBackground_52 : decode cX2_fillWithBackground 52 = .ok (.iastore, 1) := by decide +kernel
theorem dX2_fillWithBackground_53 : decode cX2_fillWithBackground 53 = .ok (.iinc 2 1, 3) := by decide +kernel
theorem dX2_fillWithBackground_56 : decode cX2_fillWithBackground 56 = .ok (.goto (-38), 3) := by decide +kernel
theorem dX2_fillWithBackground_59 : decode cX2_fillWithBackground 59 = .ok (.iinc 1 1, 3) := by decide +kernel
theorem dX2_fillWithBackground_62 : decode cX2_fillWithBackground 62 = .ok (.goto (-57), 3) := by decide +kernel
theorem dX2_fillWithBackground_65 : decode cX2_fillWithBackground 65 = .ok (.return_, 1) := by decide +kernel
theorem dX2_drawPiece_0 : decode cX2_drawPiece 0 = .ok (.aload_n 0, 1) := by decide +kernel
theorem dX2_drawPiece_1 : decode cX2_drawPiece 1 = .ok (.getfield 12, 3) := by decide +kernel
theorem dX2_drawPiece_4 : decode cX2_drawPiece 4 = .ok (.aload_n 0, 1) := by decide +kernel
theorem dX2_drawPiece_5 : decode cX2_drawPiece 5 = .ok (.getfield 21, 3) := by decide +kernel
theorem dX2_drawPiece_8 : decode cX2_drawPiece 8 = .ok (.iload_n 1, 1) := by decide +kernel
theorem dX2_drawPiece_9 : decode cX2_drawPiece 9 = .ok (.invokevirtual 102, 3) := by decide +kernel
theorem dX2_drawPiece_12 : decode cX2_drawPiece 12 = .ok (.aload_n 0, 1) := by decide +kernel
theorem dX2_drawPiece_13 : decode cX2_drawPiece 13 = .ok (.getfield 36, 3) := by decide +kernel
theorem dX2_drawPiece_16 : decode cX2_drawPiece 16 = .ok (.aload_n 0, 1) := by decide +kernel
theorem dX2_drawPiece_17 : decode cX2_drawPiece 17 = .ok (.getfield 21, 3) := by decide +kernel
theorem dX2_drawPiece_20 : decode cX2_drawPiece 20 = .ok (.invokevirtual 106, 3) := by decide +kernel
theorem dX2_drawPiece_23 : decode cX2_drawPiece 23 = .ok (.invokestatic 110, 3) := by decide +kernel
theorem dX2_drawPiece_26 : decode cX2_drawPiece 26 = .ok (.istore_n 2, 1) := by decide +kernel
theorem dX2_drawPiece_27 : decode cX2_drawPiece 27 = .ok (.aload_n 0, 1) := by decide +kernel
theorem dX2_drawPiece_28 : decode cX2_drawPiece 28 = .ok (.getfield 42, 3) := by decide +kernel
theorem dX2_drawPiece_31 : decode cX2_drawPiece 31 = .ok (.iconst 1, 1) := by decide +kernel
theorem dX2_drawPiece_32 : decode cX2_drawPiece 32 = .ok (.isub, 1) := by decide +kernel
theorem dX2_drawPiece_33 : decode cX2_drawPiece 33 = .ok (.aload_n 0, 1) := by decide +kernel
theorem dX2_drawPiece_34 : decode cX2_drawPiece 34 = .ok (.getfield 21, 3) := by decide +kernel
theorem dX2_drawPiece_37 : decode cX2_drawPiece 37 = .ok (.invokevirtual 113, 3) := by decide +kernel
theorem dX2_drawPiece_40 : decode cX2_drawPiece 40 = .ok (.invokestatic 93, 3) := by decide +kernel
theorem dX2_drawPiece_43 : decode cX2_drawPiece 43 = .ok (.istore_n 3, 1) := by decide +kernel
theorem dX2_drawPiece_44 : decode cX2_drawPiece 44 = .ok (.aload_n 0, 1) := by decide +kernel
theorem dX2_drawPiece_45 : decode cX2_drawPiece 45 = .ok (.getfield 39, 3) := by decide +kernel
theorem dX2_drawPiece_48 : decode cX2_drawPiece 48 = .ok (.aload_n 0, 1) := by decide +kernel
theorem dX2_drawPiece_49 : decode cX2_drawPiece 49 = .ok (.getfield 21, 3) := by decide +kernel
theorem dX2_drawPiece_52 : decode cX2_drawPiece 52 = .ok (.invokevirtual 116, 3) := by decide +kernel
theorem dX2_drawPiece_55 : decode cX2_drawPiece 55 = .ok (.invokestatic 110, 3) := by decide +kernel
theorem dX2_drawPiece_58 : decode cX2_drawPiece 58 = .ok (.istore 4, 2) := by decide +kernel
theorem dX2_drawPiece_60 : decode cX2_drawPiece 60 = .ok (.aload_n 0, 1) := by decide +kernel
theorem dX2_drawPiece_61 : decode cX2_drawPiece 61 = .ok (.getfield 45, 3) := by decide +kernel
theorem dX2_drawPiece_64 : decode cX2_drawPiece 64 = .ok (.iconst 1, 1) := by decide +kernel
theorem dX2_drawPiece_65 : decode cX2_drawPiece 65 = .ok (.isub, 1) := by decide +kernel
theorem dX2_drawPiece_66 : decode cX2_drawPiece 66 = .ok (.aload_n 0, 1) := by decide +kernel
theorem dX2_drawPiece_67 : decode cX2_drawPiece 67 = .ok (.getfield 21, 3) := by decide +kernel
theorem dX2_drawPiece_70 : decode cX2_drawPiece 70 = .ok (.invokevirtual 119, 3) := by decide +kernel
theorem dX2_drawPiece_73 : decode cX2_drawPiece 73 = .ok (.invokestatic 93, 3) := by decide +kernel
theorem dX2_drawPiece_76 : decode cX2_drawPiece 76 = .ok (.istore 5, 2) := by decide +kernel
theorem dX2_drawPiece_78 : decode cX2_drawPiece 78 = .ok (.iload 4, 2) := by decide +kernel
theorem dX2_drawPiece_80 : decode cX2_drawPiece 80 = .ok (.istore 6, 2) := by decide +kernel
theorem dX2_drawPiece_82 : decode cX2_drawPiece 82 = .ok (.iload 6, 2) := by decide +kernel
theorem dX2_drawPiece_84 : decode cX2_drawPiece 84 = .ok (.iload 5, 2) := by decide +kernel
theorem dX2_drawPiece_86 : decode cX2_drawPiece 86 = .ok (.if_icmp .gt 68, 3) := by decide +kernel
theorem dX2_drawPiece_89 : decode cX2_drawPiece 89 = .ok (.iload_n 2, 1) := by decide +kernel
theorem dX2_drawPiece_90 : decode cX2_drawPiece 90 = .ok (.istore 7, 2) := by decide +kernel
theorem dX2_drawPiece_92 : decode cX2_drawPiece 92 = .ok (.iload 7, 2) := by decide +kernel
theorem dX2_drawPiece_94 : decode cX2_drawPiece 94 = .ok (.iload_n 3, 1) := by decide +kernel
theorem dX2_drawPiece_95 : decode cX2_drawPiece 95 = .ok (.if_icmp .gt 53, 3) := by decide +kernel
theorem dX2_drawPiece_98 : decode cX2_drawPiece 98 = .ok (.aload_n 0, 1) := by decide +kernel
theorem dX2_drawPiece_99 : decode cX2_drawPiece 99 = .ok (.getfield 21, 3) := by decide +kernel
theorem dX2_drawPiece_102 : decode cX2_drawPiece 102 = .ok (.iload 7, 2) := by decide +kernel
theorem dX2_drawPiece_104 : decode cX2_drawPiece 104 = .ok (.iload 6, 2) := by decide +kernel
theorem dX2_drawPiece_106 : decode cX2_drawPiece 106 = .ok (.invokevirtual 122, 3) := by decide +kernel
theorem dX2_drawPiece_109 : decode cX2_drawPiece 109 = .ok (.ifCond .eq 33, 3) := by decide +kernel
theorem dX2_drawPiece_112 : decode cX2_drawPiece 112 = .ok (.aload_n 0, 1) := by decide +kernel
theorem dX2_drawPiece_113 : decode cX2_drawPiece 113 = .ok (.aload_n 0, 1) := by decide +kernel
theorem dX2_drawPiece_114 : decode cX2_drawPiece 114 = .ok (.iload 7, 2) := by decide +kernel
theorem dX2_drawPiece_116 : decode cX2_drawPiece 116 = .ok (.iload 6, 2) := by decide +kernel
theorem dX2_drawPiece_118 : decode cX2_drawPiece 118 = .ok (.invokevirtual 99, 3) := by decide +kernel
theorem dX2_drawPiece_121 : decode cX2_drawPiece 121 = .ok (.aload_n 0, 1) := by decide +kernel
theorem dX2_drawPiece_122 : decode cX2_drawPiece 122 = .ok (.getfield 12, 3) := by decide +kernel
theorem dX2_drawPiece_125 : decode cX2_drawPiece 125 = .ok (.getfield 126, 3) := by decide +kernel
theorem dX2_drawPiece_128 : decode cX2_drawPiece 128 = .ok (.iload_n 1, 1) := by decide +kernel
theorem dX2_drawPiece_129 : decode cX2_drawPiece 129 = .ok (.iaload, 1) := by decide +kernel
theorem dX2_drawPiece_130 : decode cX2_drawPiece 130 = .ok (.aload_n 0, 1) := by decide +kernel
theorem dX2_drawPiece_131 : decode cX2_drawPiece 131 = .ok (.getfield 12, 3) := by decide +kernel
theorem dX2_drawPiece_134 : decode cX2_drawPiece 134 = .ok (.getfield 129, 3) := by decide +kernel
theorem dX2_drawPiece_137 : decode cX2_drawPiece 137 = .ok (.iload_n 1, 1) := by decide +kernel
theorem dX2_drawPiece_138 : decode cX2_drawPiece 138 = .ok (.iaload, 1) := by decide +kernel
theorem dX2_drawPiece_139 : decode cX2_drawPiece 139 = .ok (.invokevirtual 132, 3) := by decide +kernel
theorem dX2_drawPiece_142 : decode cX2_drawPiece 142 = .ok (.iinc 7 1, 3) := by decide +kernel
theorem dX2_drawPiece_145 : decode cX2_drawPiece 145 = .ok (.goto (-53), 3) := by decide +kernel
theorem dX2_drawPiece_148 : decode cX2_drawPiece 148 = .ok (.iinc 6 1, 3) := by decide +kernel
theorem dX2_drawPiece_151 : decode cX2_drawPiece 151 = .ok (.goto (-69), 3) := by decide +kernel
theorem dX2_drawPiece_154 : decode cX2_drawPiece 154 = .ok (.return_, 1) := by decide +kernel
theorem dX2_paint_0 : decode cX2_paint 0 = .ok (.aload_n 0, 1) := by decide +kernel
theorem dX2_paint_1 : decode cX2_paint 1 = .ok (.getfield 21, 3) := by decide +kernel
theorem dX2_paint_4 : decode cX2_paint 4 = .ok (.invokevirtual 136, 3) := by decide +kernel
theorem dX2_paint_7 : decode cX2_paint 7 = .ok (.l2i, 1) := by decide +kernel
theorem dX2_paint_8 : decode cX2_paint 8 = .ok (.istore 4, 2) := by decide +kernel
theorem dX2_paint_10 : decode cX2_paint 10 = .ok (.iload 4, 2) := by decide +kernel
theorem dX2_paint_12 : decode cX2_paint 12 = .ok (.aload_n 0, 1) := by decide +kernel
theorem dX2_paint_13 : decode cX2_paint 13 = .ok (.getfield 61, 3) := by decide +kernel
theorem dX2_paint_16 : decode cX2_paint 16 = .ok (.iload_n 1, 1) := by decide +kernel
theorem dX2_paint_17 : decode cX2_paint 17 = .ok (.iaload, 1) := by decide +kernel
theorem dX2_paint_18 : decode cX2_paint 18 = .ok (.if_icmp .gt 4, 3) := by decide +kernel
theorem dX2_paint_21 : decode cX2_paint 21 = .ok (.return_, 1) := by decide +kernel
theorem dX2_paint_22 : decode cX2_paint 22 = .ok (.iload_n 2, 1) := by decide +kernel
theorem dX2_paint_23 : decode cX2_paint 23 = .ok (.aload_n 0, 1) := by decide +kernel
theorem dX2_paint_24 : decode cX2_paint 24 = .ok (.getfield 21, 3) := by decide +kernel
theorem dX2_paint_27 : decode cX2_paint 27 = .ok (.invokevirtual 140, 3) := by decide +kernel
theorem dX2_paint_30 : decode cX2_paint 30 = .ok (.invokestatic 143, 3) := by decide +kernel
theorem dX2_paint_33 : decode cX2_paint 33 = .ok (.istore 5, 2) := by decide +kernel
theorem dX2_paint_35 : decode cX2_paint 35 = .ok (.iload_n 3, 1) := by decide +kernel
theorem dX2_paint_36 : decode cX2_paint 36 = .ok (.sipush 255, 3) := by decide +kernel
theorem dX2_paint_39 : decode cX2_paint 39 = .ok (.if_icmp .ne 22, 3) := by decide +kernel
theorem dX2_paint_42 : decode cX2_paint 42 = .ok (.aload_n 0, 1) := by decide +kernel
theorem dX2_paint_43 : decode cX2_paint 43 = .ok (.getfield 57, 3) := by decide +kernel
theorem dX2_paint_46 : decode cX2_paint 46 = .ok (.iload_n 1, 1) := by decide +kernel
theorem dX2_paint_47 : decode cX2_paint 47 = .ok (.iload 5, 2) := by decide +kernel
theorem dX2_paint_49 : decode cX2_paint 49 = .ok (.iastore, 1) := by decide +kernel
theorem dX2_paint_50 : decode cX2_paint 50 = .ok (.aload_n 0, 1) := by decide +kernel
theorem dX2_paint_51 : decode cX2_paint 51 = .ok (.getfield 61, 3) := by decide +kernel
theorem dX2_paint_54 : decode cX2_paint 54 = .ok (.iload_n 1, 1) := by decide +kernel
theorem dX2_paint_55 : decode cX2_paint 55 = .ok (.iload 4, 2) := by decide +kernel
theorem dX2_paint_57 : decode cX2_paint 57 = .ok (.iastore, 1) := by decide +kernel
theorem dX2_paint_58 : decode cX2_paint 58 = .ok (.goto 21, 3) := by decide +kernel
theorem dX2_paint_61 : decode cX2_paint 61 = .ok (.aload_n 0, 1) := by decide +kernel
theorem dX2_paint_62 : decode cX2_paint 62 = .ok (.getfield 57, 3) := by decide +kernel
theorem dX2_paint_65 : decode cX2_paint 65 = .ok (.iload_n 1, 1) := by decide +kernel
theorem dX2_paint_66 : decode cX2_paint 66 = .ok (.iload 5, 2) := by decide +kernel
theorem dX2_paint_68 : decode cX2_paint 68 = .ok (.aload_n 0, 1) := by decide +kernel
theorem dX2_paint_69 : decode cX2_paint 69 = .ok (.getfield 57, 3) := by decide +kernel
theorem dX2_paint_72 : decode cX2_paint 72 = .ok (.iload_n 1, 1) := by decide +kernel
theorem dX2_paint_73 : decode cX2_paint 73 = .ok (.iaload, 1) := by decide +kernel
theorem dX2_paint_74 : decode cX2_paint 74 = .ok (.iload_n 3, 1) := by decide +kernel
theorem dX2_paint_75 : decode cX2_paint 75 = .ok (.invokestatic 147, 3) := by decide +kernel
theorem dX2_paint_78 : decode cX2_paint 78 = .ok (.iastore, 1) := by decide +kernel
theorem dX2_paint_79 : decode cX2_paint 79 = .ok (.return_, 1) := by decide +kernel
end
section
theorem dX4_init_0 : decode cX4_init 0 = .ok (.aload_n 0, 1) := by decide +kernel
theorem dX4_init_1 : decode cX4_init 1 = .ok (.invokespecial 1, 3) := by decide +kernel
theorem dX4_init_4 : decode cX4_init 4 = .ok (.aload_n 0, 1) := by decide +kernel
theorem dX4_init_5 : decode cX4_init 5 = .ok (.sipush 7180, 3) := by decide +kernel
theorem dX4_init_8 : decode cX4_init 8 = .ok (.newarray .int, 2) := by decide +kernel
theorem dX4_init_10 : decode cX4_init 10 = .ok (.putfield 7, 3) := by decide +kernel
theorem dX4_init_13 : decode cX4_init 13 = .ok (.aload_n 0, 1) := by decide +kernel
theorem dX4_init_14 : decode cX4_init 14 = .ok (.sipush 2304, 3) := by decide +kernel
theorem dX4_init_17 : decode cX4_init 17 = .ok (.newarray .int, 2) := by decide +kernel
theorem dX4_init_19 : decode cX4_init 19 = .ok (.putfield 13, 3) := by decide +kernel
theorem dX4_init_22 : decode cX4_init 22 = .ok (.aload_n 0, 1) := by decide +kernel
theorem dX4_init_23 : decode cX4_init 23 = .ok (.sipush 2304, 3) := by decide +kernel
theorem dX4_init_26 : decode cX4_init 26 = .ok (.newarray .int, 2) := by decide +kernel
theorem dX4_init_28 : decode cX4_init 28 = .ok (.putfield 16, 3) := by decide +kernel
theorem dX4_init_31 : decode cX4_init 31 = .ok (.aload_n 0, 1) := by decide +kernel
theorem dX4_init_32 : decode cX4_init 32 = .ok (.bipush 36, 2) := by decide +kernel
theorem dX4_init_34 : decode cX4_init 34 = .ok (.newarray .boolean, 2) := by decide +kernel
theorem dX4_init_36 : decode cX4_init 36 = .ok (.putfield 19, 3) := by decide +kernel
theorem dX4_init_39 : decode cX4_init 39 = .ok (.aload_n 0, 1) := by decide +kernel
theorem dX4_init_40 : decode cX4_init 40 = .ok (.iload_n 1, 1) := by decide +kernel
theorem dX4_init_41 : decode cX4_init 41 = .ok (.bipush 8, 2) := by decide +kernel
theorem dX4_init_43 : decode cX4_init 43 = .ok (.if_icmp .ge 8, 3) := by decide +kernel
theorem dX4_init_46 : decode cX4_init 46 = .ok (.bipush 8, 2) := by decide +kernel
theorem dX4_init_48 : decode cX4_init 48 = .ok (.goto 15, 3) := by decide +kernel
theorem dX4_init_51 : decode cX4_init 51 = .ok (.iload_n 1, 1) := by decide +kernel
theorem dX4_init_52 : decode cX4_init 52 = .ok (.bipush 48, 2) := by decide +kernel
theorem dX4_init_54 : decode cX4_init 54 = .ok (.if_icmp .le 8, 3) := by decide +kernel
theorem dX4_init_57 : decode cX4_init 57 = .ok (.bipush 48, 2) := by decide +kernel
theorem dX4_init_59 : decode cX4_init 59 = .ok (.goto 4, 3) := by decide +kernel
theorem dX4_init_62 : decode cX4_init 62 = .ok (.iload_n 1, 1) := by decide +kernel
theorem dX4_init_63 : decode cX4_init 63 = .ok (.putfield 23, 3) := by decide +kernel
theorem dX4_init_66 : decode cX4_init 66 = .ok (.aload_n 0, 1) := by decide +kernel
theorem dX4_init_67 : decode cX4_init 67 = .ok (.iload_n 2, 1) := by decide +kernel
theorem dX4_init_68 : decode cX4_init 68 = .ok (.bipush 8, 2) := by decide +kernel
theorem dX4_init_70 : decode cX4_init 70 = .ok (.if_icmp .ge 8, 3) := by decide +kernel
theorem dX4_init_73 : decode cX4_init 73 = .ok (.bipush 8, 2) := by decide +kernel
theorem dX4_init_75 : decode cX4_init 75 = .ok (.goto 15, 3) := by decide +kernel
theorem dX4_init_78 : decode cX4_init 78 = .ok (.iload_n 2, 1) := by decide +kernel
theorem dX4_init_79 : decode cX4_init 79 = .ok (.bipush 48, 2) := by decide +kernel
theorem dX4_init_81 : decode cX4_init 81 = .ok (.if_icmp .le 8, 3) := by decide +kernel
theorem dX4_init_84 : decode cX4_init 84 = .ok (.bipush 48, 2) := by decide +kernel
theorem dX4_init_86 : decode cX4_init 86 = .ok (.goto 4, 3) := by decide +kernel
theorem dX4_init_89 : decode cX4_init 89 = .ok (.iload_n 2, 1) := by decide +kernel
theorem dX4_init_90 : decode cX4_init 90 = .ok (.putfield 27, 3) := by decide +kernel
theorem dX4_init_93 : decode cX4_init 93 = .ok (.iconst 0, 1) := by decide +kernel
theorem dX4_init_94 : decode cX4_init 94 = .ok (.istore_n 3, 1) := by decide +kernel
theorem dX4_init_95 : decode cX4_init 95 = .ok (.iload_n 3, 1) := by decide +kernel
theorem dX4_init_96 : decode cX4_init 96 = .ok (.iconst 3, 1) := by decide +kernel
theorem dX4_init_97 : decode cX4_init 97 = .ok (.if_icmp .ge 24, 3) := by decide +kernel
theorem dX4_init_100 : decode cX4_init 100 = .ok (.aload_n 0, 1) := by decide +kernel
theorem dX4_init_101 : decode cX4_init 101 = .ok (.getfield 7, 3) := by decide +kernel
theorem dX4_init_104 : decode cX4_init 104 = .ok (.sipush 7168, 3) := by decide +kernel
theorem dX4_init_107 : decode cX4_init 107 = .ok (.iconst 4, 1) := by decide +kernel
theorem dX4_init_108 : decode cX4_init 108 = .ok (.iload_n 3, 1) := by decide +kernel
theorem dX4_init_109 : decode cX4_init 109 = .ok (.imul, 1) := by decide +kernel
theorem dX4_init_110 : decode cX4_init 110 = .ok (.iadd, 1) := by decide +kernel
theorem dX4_init_111 : decode cX4_init 111 = .ok (.iconst 2, 1) := by decide +kernel
theorem dX4_init_112 : decode cX4_init 112 = .ok (.iadd, 1) := by decide +kernel
theorem dX4_init_113 : decode cX4_init 113 = .ok (.iconst 1, 1) := by decide +kernel
theorem dX4_init_114 : decode cX4_init 114 = .ok (.iastore, 1) := by decide +kernel
theorem dX4_init_115 : decode cX4_init 115 = .ok (.iinc 3 1, 3) := by decide +kernel
theorem dX4_init_118 : decode cX4_init 118 = .ok (.goto (-23), 3) := by decide +kernel
theorem dX4_init_121 : decode cX4_init 121 = .ok (.return_, 1) := by decide +kernel
theorem dX4_corner_0 : decode cX4_corner 0 = .ok (.aload_n 0, 1) := by decide +kernel
theorem dX4_corner_1 : decode cX4_corner 1 = .ok (.iconst 0, 1) := by decide +kernel
theorem dX4_corner_2 : decode cX4_corner 2 = .ok (.putfield 30, 3) := by decide +kernel
theorem dX4_corner_5 : decode cX4_corner 5 = .ok (.iload_n 1, 1) := by decide +kernel
theorem dX4_corner_6 : decode cX4_corner 6 = .ok (.ifCond .lt 65, 3) := by decide +kernel
theorem dX4_corner_9 : decode cX4_corner 9 = .ok (.iload_n 1, 1) := by decide +kernel
theorem dX4_corner_10 : decode cX4_corner 10 = .ok (.iconst 3, 1) := by decide +kernel
theorem dX4_corner_11 : decode cX4_corner 11 = .ok (.if_icmp .ge 60, 3) := by decide +kernel
theorem dX4_corner_14 : decode cX4_corner 14 = .ok (.iload_n 2, 1) := by decide +kernel
theorem dX4_corner_15 : decode cX4_corner 15 = .ok (.sipush (-4096), 3) := by decide +kernel
theorem dX4_corner_18 : decode cX4_corner 18 = .ok (.if_icmp .lt 53, 3) := by decide +kernel
theorem dX4_corner_21 : decode cX4_corner 21 = .ok (.iload_n 2, 1) := by decide +kernel
theorem dX4_corner_22 : decode cX4_corner 22 = .ok (.sipush 4096, 3) := by decide +kernel
theorem dX4_corner_25 : decode cX4_corner 25 = .ok (.if_icmp .gt 46, 3) := by decide +kernel
theorem dX4_corner_28 : decode cX4_corner 28 = .ok (.iload_n 3, 1) := by decide +kernel
theorem dX4_corner_29 : decode cX4_corner 29 = .ok (.sipush (-4096), 3) := by decide +kernel
theorem dX4_corner_32 : decode cX4_corner 32 = .ok (.if_icmp .lt 39, 3) := by decide +kernel
theorem dX4_corner_35 : decode cX4_corner 35 = .ok (.iload_n 3, 1) := by decide +kernel
theorem dX4_corner_36 : decode cX4_corner 36 = .ok (.sipush 4096, 3) := by decide +kernel
theorem dX4_corner_39 : decode cX4_corner 39 = .ok (.if_icmp .gt 32, 3) := by decide +kernel
theorem dX4_corner_42 : decode cX4_corner 42 = .ok (.iload 4, 2) := by decide +kernel
theorem dX4_corner_44 : decode cX4_corner 44 = .ok (.iconst 1, 1) := by decide +kernel
theorem dX4_corner_45 : decode cX4_corner 45 = .ok (.if_icmp .lt 26, 3) := by decide +kernel
theorem dX4_corner_48 : decode cX4_corner 48 = .ok (.iload 4, 2) := by decide +kernel
theorem dX4_corner_50 : decode cX4_corner 50 = .ok (.ldc 33, 2) := by decide +kernel
theorem dX4_corner_52 : decode cX4_corner 52 = .ok (.if_icmp .gt 19, 3) := by decide +kernel
theorem dX4_corner_55 : decode cX4_corner 55 = .ok (.iload 5, 2) := by decide +kernel
theorem dX4_corner_57 : decode cX4_corner 57 = .ok (.ifCond .lt 14, 3) := by decide +kernel
theorem dX4_corner_60 : decode cX4_corner 60 = .ok (.iload 5, 2) := by decide +kernel
theorem dX4_corner_62 : decode cX4_corner 62 = .ok (.ldc 34, 2) := by decide +kernel
theorem dX4_corner_64 : decode cX4_corner 64 = .ok (.if_icmp .gt 7, 3) := by decide +kernel
theorem dX4_corner_67 : decode cX4_corner 67 = .ok (.iconst 1, 1) := by decide +kernel
theorem dX4_corner_68 : decode cX4_corner 68 = .ok (.goto 4, 3) := by decide +kernel
theorem dX4_corner_71 : decode cX4_corner 71 = .ok (.iconst 0, 1) := by decide +kernel
theorem dX4_corner_72 : decode cX4_corner 72 = .ok (.istore 6, 2) := by decide +kernel
theorem dX4_corner_74 : decode cX4_corner 74 = .ok (.iload 6, 2) := by decide +kernel
theorem dX4_corner_76 : decode cX4_corner 76 = .ok (.ifCond .eq 63, 3) := by decide +kernel
theorem dX4_corner_79 : decode cX4_corner 79 = .ok (.aload_n 0, 1) := by decide +kernel
theorem dX4_corner_80 : decode cX4_corner 80 = .ok (.getfield 7, 3) := by decide +kernel
theorem dX4_corner_83 : decode cX4_corner 83 = .ok (.sipush 7168, 3) := by decide +kernel
theorem dX4_corner_86 : decode cX4_corner 86 = .ok (.iconst 4, 1) := by decide +kernel
theorem dX4_corner_87 : decode cX4_corner 87 = .ok (.iload_n 1, 1) := by decide +kernel
theorem dX4_corner_88 : decode cX4_corner 88 = .ok (.imul, 1) := by decide +kernel
theorem dX4_corner_89 : decode cX4_corner 89 = .ok (.iadd, 1) := by decide +kernel
theorem dX4_corner_90 : decode cX4_corner 90 = .ok (.iload_n 2, 1) := by decide +kernel
theorem dX4_corner_91 : decode cX4_corner 91 = .ok (.iastore, 1) := by decide +kernel
theorem dX4_corner_92 : decode cX4_corner 92 = .ok (.aload_n 0, 1) := by decide +kernel
theorem dX4_corner_93 : decode cX4_corner 93 = .ok (.getfield 7, 3) := by decide +kernel
theorem dX4_corner_96 : decode cX4_corner 96 = .ok (.sipush 7168, 3) := by decide +kernel
theorem dX4_corner_99 : decode cX4_corner 99 = .ok (.iconst 4, 1) := by decide +kernel
theorem dX4_corner_100 : decode cX4_corner 100 = .ok (.iload_n 1, 1) := by decide +kernel
theorem dX4_corner_101 : decode cX4_corner 101 = .ok (.imul, 1) := by decide +kernel
theorem dX4_corner_102 : decode cX4_corner 102 = .ok (.iadd, 1) := by decide +kernel
theorem dX4_corner_103 : decode cX4_corner 103 = .ok (.iconst 1, 1) := by decide +kernel
theorem dX4_corner_104 : decode cX4_corner 104 = .ok (.iadd, 1) := by decide +kernel
theorem dX4_corner_105 : decode cX4_corner 105 = .ok (.iload_n 3, 1) := by decide +kernel
theorem dX4_corner_106 : decode cX4_corner 106 = .ok (.iastore, 1) := by decide +kernel
theorem dX4_corner_107 : decode cX4_corner 107 = .ok (.aload_n 0, 1) := by decide +kernel
theorem dX4_corner_108 : decode cX4_corner 108 = .ok (.getfield 7, 3) := by decide +kernel
theorem dX4_corner_111 : decode cX4_corner 111 = .ok (.sipush 7168, 3) := by decide +kernel
theorem dX4_corner_114 : decode cX4_corner 114 = .ok (.iconst 4, 1) := by decide +kernel
theorem dX4_corner_115 : decode cX4_corner 115 = .ok (.iload_n 1, 1) := by decide +kernel
theorem dX4_corner_116 : decode cX4_corner 116 = .ok (.imul, 1) := by decide +kernel
theorem dX4_corner_117 : decode cX4_corner 117 = .ok (.iadd, 1) := by decide +kernel
theorem dX4_corner_118 : decode cX4_corner 118 = .ok (.iconst 2, 1) := by decide +kernel
theorem dX4_corner_119 : decode cX4_corner 119 = .ok (.iadd, 1) := by decide +kernel
theorem dX4_corner_120 : decode cX4_corner 120 = .ok (.iload 4, 2) := by decide +kernel
theorem dX4_corner_122 : decode cX4_corner 122 = .ok (.iastore, 1) := by decide +kernel
theorem dX4_corner_123 : decode cX4_corner 123 = .ok (.aload_n 0, 1) := by decide +kernel
theorem dX4_corner_124 : decode cX4_corner 124 = .ok (.getfield 7, 3) := by decide +kernel
theorem dX4_corner_127 : decode cX4_corner 127 = .ok (.sipush 7168, 3) := by decide +kernel
theorem dX4_corner_130 : decode cX4_corner 130 = .ok (.iconst 4, 1) := by decide +kernel
theorem dX4_corner_131 : decode cX4_corner 131 = .ok (.iload_n 1, 1) := by decide +kernel
theorem dX4_corner_132 : decode cX4_corner 132 = .ok (.imul, 1) := by decide +kernel
theorem dX4_corner_133 : decode cX4_corner 133 = .ok (.iadd, 1) := by decide +kernel
theorem dX4_corner_134 : decode cX4_corner 134 = .ok (.iconst 3, 1) := by decide +kernel
theorem dX4_corner_135 : decode cX4_corner 135 = .ok (.iadd, 1) := by decide +kernel
theorem dX4_corner_136 : decode cX4_corner 136 = .ok (.iload 5, 2) := by decide +kernel
theorem dX4_corner_138 : decode cX4_corner 138 = .ok (.iastore, 1) := by decide +kernel
theorem dX4_corner_139 : decode cX4_corner 139 = .ok (.iload 6, 2) := by decide +kernel
theorem dX4_corner_141 : decode cX4_corner 141 = .ok (.ireturn, 1) := by decide +kernel
theorem dX4_edge_0 : decode cX4_edge 0 = .ok (.aload_n 0, 1) := by decide +kernel
theorem dX4_edge_1 : decode cX4_edge 1 = .ok (.getfield 7, 3) := by decide +kernel
theorem dX4_edge_4 : decode cX4_edge 4 = .ok (.iload_n 2, 1) := by decide +kernel
theorem dX4_edge_5 : decode cX4_edge 5 = .ok (.iaload, 1) := by decide +kernel
theorem dX4_edge_6 : decode cX4_edge 6 = .ok (.aload_n 0, 1) := by decide +kernel
theorem dX4_edge_7 : decode cX4_edge 7 = .ok (.getfield 7, 3) := by decide +kernel
theorem dX4_edge_10 : decode cX4_edge 10 = .ok (.iload_n 1, 1) := by decide +kernel
theorem dX4_edge_11 : decode cX4_edge 11 = .ok (.iaload, 1) := by decide +kernel
theorem dX4_edge_12 : decode cX4_edge 12 = .ok (.isub, 1) := by decide +kernel
theorem dX4_edge_13 : decode cX4_edge 13 = .ok (.i2l, 1) := by decide +kernel
theorem dX4_edge_14 : decode cX4_edge 14 = .ok (.lload 5, 2) := by decide +kernel
theorem dX4_edge_16 : decode cX4_edge 16 = .ok (.aload_n 0, 1) := by decide +kernel
theorem dX4_edge_17 : decode cX4_edge 17 = .ok (.getfield 7, 3) := by decide +kernel
theorem dX4_edge_20 : decode cX4_edge 20 = .ok (.iload_n 1, 1) := by decide +kernel
theorem dX4_edge_21 : decode cX4_edge 21 = .ok (.iconst 1, 1) := by decide +kernel
theorem dX4_edge_22 : decode cX4_edge 22 = .ok (.iadd, 1) := by decide +kernel
theorem dX4_edge_23 : decode cX4_edge 23 = .ok (.iaload, 1) := by decide +kernel
theorem dX4_edge_24 : decode cX4_edge 24 = .ok (.i2l, 1) := by decide +kernel
theorem dX4_edge_25 : decode cX4_edge 25 = .ok (.lsub, 1) := by decide +kernel
theorem dX4_edge_26 : decode cX4_edge 26 = .ok (.lmul, 1) := by decide +kernel
theorem dX4_edge_27 : decode cX4_edge 27 = .ok (.aload_n 0, 1) := by decide +kernel
theorem dX4_edge_28 : decode cX4_edge 28 = .ok (.getfield 7, 3) := by decide +kernel
theorem dX4_edge_31 : decode cX4_edge 31 = .ok (.iload_n 2, 1) := by decide +kernel
theorem dX4_edge_32 : decode cX4_edge 32 = .ok (.iconst 1, 1) := by decide +kernel
theorem dX4_edge_33 : decode cX4_edge 33 = .ok (.iadd, 1) := by decide +kernel
theorem dX4_edge_34 : decode cX4_edge 34 = .ok (.iaload, 1) := by decide +kernel
theorem dX4_edge_35 : decode cX4_edge 35 = .ok (.aload_n 0, 1) := by decide +kernel
theorem dX4_edge_36 : decode cX4_edge 36 = .ok (.getfield 7, 3) := by decide +kernel
theorem dX4_edge_39 : decode cX4_edge 39 = .ok (.iload_n 1, 1) := by decide +kernel
theorem dX4_edge_40 : decode cX4_edge 40 = .ok (.iconst 1, 1) := by decide +kernel
theorem dX4_edge_41 : decode cX4_edge 41 = .ok (.iadd, 1) := by decide +kernel
theorem dX4_edge_42 : decode cX4_edge 42 = .ok (.iaload, 1) := by decide +kernel
theorem dX4_edge_43 : decode cX4_edge 43 = .ok (.isub, 1) := by decide +kernel
theorem dX4_edge_44 : decode cX4_edge 44 = .ok (.i2l, 1) := by decide +kernel
theorem dX4_edge_45 : decode cX4_edge 45 = .ok (.lload_n 3, 1) := by decide +kernel
theorem dX4_edge_46 : decode cX4_edge 46 = .ok (.aload_n 0, 1) := by decide +kernel
theorem dX4_edge_47 : decode cX4_edge 47 = .ok (.getfield 7, 3) := by decide +kernel
theorem dX4_edge_50 : decode cX4_edge 50 = .ok (.iload_n 1, 1) := by decide +kernel
theorem dX4_edge_51 : decode cX4_edge 51 = .ok (.iaload, 1) := by decide +kernel
theorem dX4_edge_52 : decode cX4_edge 52 = .ok (.i2l, 1) := by decide +kernel
theorem dX4_edge_53 : decode cX4_edge 53 = .ok (.lsub, 1) := by decide +kernel
theorem dX4_edge_54 : decode cX4_edge 54 = .ok (.lmul, 1) := by decide +kernel
theorem dX4_edge_55 : decode cX4_edge 55 = .ok (.lsub, 1) := by decide +kernel
theorem dX4_edge_56 : decode cX4_edge 56 = .ok (.lreturn, 1) := by decide +kernel
theorem dX4_area_0 : decode cX4_area 0 = .ok (.aload_n 0, 1) := by decide +kernel
theorem dX4_area_1 : decode cX4_area 1 = .ok (.iload_n 1, 1) := by decide +kernel
theorem dX4_area_2 : decode cX4_area 2 = .ok (.iload_n 1, 1) := by decide +kernel
theorem dX4_area_3 : decode cX4_area 3 = .ok (.iconst 4, 1) := by decide +kernel
theorem dX4_area_4 : decode cX4_area 4 = .ok (.iadd, 1) := by decide +kernel
theorem dX4_area_5 : decode cX4_area 5 = .ok (.aload_n 0, 1) := by decide +kernel
theorem dX4_area_6 : decode cX4_area 6 = .ok (.getfield 7, 3) := by decide +kernel
theorem dX4_area_9 : decode cX4_area 9 = .ok (.iload_n 1, 1) := by decide +kernel
theorem dX4_area_10 : decode cX4_area 10 = .ok (.bipush 8, 2) := by decide +kernel
theorem dX4_area_12 : decode cX4_area 12 = .ok (.iadd, 1) := by decide +kernel
theorem dX4_area_13 : decode cX4_area 13 = .ok (.iaload, 1) := by decide +kernel
theorem dX4_area_14 : decode cX4_area 14 = .ok (.i2l, 1) := by decide +kernel
theorem dX4_area_15 : decode cX4_area 15 = .ok (.aload_n 0, 1) := by decide +kernel
theorem dX4_area_16 : decode cX4_area 16 = .ok (.getfield 7, 3) := by decide +kernel
theorem dX4_area_19 : decode cX4_area 19 = .ok (.iload_n 1, 1) := by decide +kernel
theorem dX4_area_20 : decode cX4_area 20 = .ok (.bipush 9, 2) := by decide +kernel
theorem dX4_area_22 : decode cX4_area 22 = .ok (.iadd, 1) := by decide +kernel
theorem dX4_area_23 : decode cX4_area 23 = .ok (.iaload, 1) := by decide +kernel
theorem dX4_area_24 : decode cX4_area 24 = .ok (.i2l, 1) := by decide +kernel
theorem dX4_area_25 : decode cX4_area 25 = .ok (.invokevirtual 35, 3) := by decide +kernel
theorem dX4_area_28 : decode cX4_area 28 = .ok (.lreturn, 1) := by decide +kernel
theorem dX4_isColour_0 : decode cX4_isColour 0 = .ok (.iload_n 0, 1) := by decide +kernel
theorem dX4_isColour_1 : decode cX4_isColour 1 = .ok (.ifCond .lt 13, 3) := by decide +kernel
theorem dX4_isColour_4 : decode cX4_isColour 4 = .ok (.iload_n 0, 1) := by decide +kernel
theorem dX4_isColour_5 : decode cX4_isColour 5 = .ok (.ldc 39, 2) := by decide +kernel
theorem dX4_isColour_7 : decode cX4_isColour 7 = .ok (.if_icmp .ge 7, 3) := by decide +kernel
theorem dX4_isColour_10 : decode cX4_isColour 10 = .ok (.iconst 1, 1) := by decide +kernel
theorem dX4_isColour_11 : decode cX4_isColour 11 = .ok (.goto 4, 3) := by decide +kernel
theorem dX4_isColour_14 : decode cX4_isColour 14 = .ok (.iconst 0, 1) := by decide +kernel
theorem dX4_isColour_15 : decode cX4_isColour 15 = .ok (.ireturn, 1) := by decide +kernel
theorem dX4_add_0 : decode cX4_add 0 = .ok (.aload_n 0, 1) := by decide +kernel
theorem dX4_add_1 : decode cX4_add 1 = .ok (.iconst 0, 1) := by decide +kernel
theorem dX4_add_2 : decode cX4_add 2 = .ok (.putfield 30, 3) := by decide +kernel
theorem dX4_add_5 : decode cX4_add 5 = .ok (.aload_n 0, 1) := by decide +kernel
theorem dX4_add_6 : decode cX4_add 6 = .ok (.getfield 40, 3) := by decide +kernel
theorem dX4_add_9 : decode cX4_add 9 = .ok (.sipush 512, 3) := by decide +kernel
theorem dX4_add_12 : decode cX4_add 12 = .ok (.if_icmp .eq 33, 3) := by decide +kernel
theorem dX4_add_15 : decode cX4_add 15 = .ok (.aload_n 0, 1) := by decide +kernel
theorem dX4_add_16 : decode cX4_add 16 = .ok (.sipush 7168, 3) := by decide +kernel
theorem dX4_add_19 : decode cX4_add 19 = .ok (.invokevirtual 43, 3) := by decide +kernel
theorem dX4_add_22 : decode cX4_add 22 = .ok (.lconst 0, 1) := by decide +kernel
theorem dX4_add_23 : decode cX4_add 23 = .ok (.lcmp, 1) := by decide +kernel
theorem dX4_add_24 : decode cX4_add 24 = .ok (.ifCond .le 21, 3) := by decide +kernel
theorem dX4_add_27 : decode cX4_add 27 = .ok (.iload_n 1, 1) := by decide +kernel
theorem dX4_add_28 : decode cX4_add 28 = .ok (.invokestatic 47, 3) := by decide +kernel
theorem dX4_add_31 : decode cX4_add 31 = .ok (.ifCond .eq 14, 3) := by decide +kernel
theorem dX4_add_34 : decode cX4_add 34 = .ok (.iload_n 2, 1) := by decide +kernel
theorem dX4_add_35 : decode cX4_add 35 = .ok (.ifCond .lt 10, 3) := by decide +kernel
theorem dX4_add_38 : decode cX4_add 38 = .ok (.iload_n 2, 1) := by decide +kernel
theorem dX4_add_39 : decode cX4_add 39 = .ok (.sipush 255, 3) := by decide +kernel
theorem dX4_add_42 : decode cX4_add 42 = .ok (.if_icmp .le 5, 3) := by decide +kernel
theorem dX4_add_45 : decode cX4_add 45 = .ok (.iconst (-1), 1) := by decide +kernel
theorem dX4_add_46 : decode cX4_add 46 = .ok (.ireturn, 1) := by decide +kernel
theorem dX4_add_47 : decode cX4_add 47 = .ok (.iconst 0, 1) := by decide +kernel
theorem dX4_add_48 : decode cX4_add 48 = .ok (.istore_n 3, 1) := by decide +kernel
theorem dX4_add_49 : decode cX4_add 49 = .ok (.iload_n 3, 1) := by decide +kernel
theorem dX4_add_50 : decode cX4_add 50 = .ok (.bipush 12, 2) := by decide +kernel
theorem dX4_add_52 : decode cX4_add 52 = .ok (.if_icmp .ge 33, 3) := by decide +kernel
theorem dX4_add_55 : decode cX4_add 55 = .ok (.aload_n 0, 1) := by decide +kernel
theorem dX4_add_56 : decode cX4_add 56 = .ok (.getfield 7, 3) := by decide +kernel
theorem dX4_add_59 : decode cX4_add 59 = .ok (.bipush 14, 2) := by decide +kernel
theorem dX4_add_61 : decode cX4_add 61 = .ok (.aload_n 0, 1) := by decide +kernel
theorem dX4_add_62 : decode cX4_add 62 = .ok (.getfield 40, 3) := by decide +kernel
theorem dX4_add_65 : decode cX4_add 65 = .ok (.imul, 1) := by decide +kernel
theorem dX4_add_66 : decode cX4_add 66 = .ok (.iload_n 3, 1) := by decide +kernel
theorem dX4_add_67 : decode cX4_add 67 = .ok (.iadd, 1) := by decide +kernel
theorem dX4_add_68 : decode cX4_add 68 = .ok (.aload_n 0, 1) := by decide +kernel
theorem dX4_add_69 : decode cX4_add 69 = .ok (.getfield 7, 3) := by decide +kernel
theorem dX4_add_72 : decode cX4_add 72 = .ok (.sipush 7168, 3) := by decide +kernel
theorem dX4_add_75 : decode cX4_add 75 = .ok (.iload_n 3, 1) := by decide +kernel
theorem dX4_add_76 : decode cX4_add 76 = .ok (.iadd, 1) := by decide +kernel
theorem dX4_add_77 : decode cX4_add 77 = .ok (.iaload, 1) := by decide +kernel
theorem dX4_add_78 : decode cX4_add 78 = .ok (.iastore, 1) := by decide +kernel
theorem dX4_add_79 : decode cX4_add 79 = .ok (.iinc 3 1, 3) := by decide +kernel
theorem dX4_add_82 : decode cX4_add 82 = .ok (.goto (-33), 3) := by decide +kernel
theorem dX4_add_85 : decode cX4_add 85 = .ok (.aload_n 0, 1) := by decide +kernel
theorem dX4_add_86 : decode cX4_add 86 = .ok (.getfield 7, 3) := by decide +kernel
theorem dX4_add_89 : decode cX4_add 89 = .ok (.bipush 14, 2) := by decide +kernel
theorem dX4_add_91 : decode cX4_add 91 = .ok (.aload_n 0, 1) := by decide +kernel
theorem dX4_add_92 : decode cX4_add 92 = .ok (.getfield 40, 3) := by decide +kernel
theorem dX4_add_95 : decode cX4_add 95 = .ok (.imul, 1) := by decide +kernel
theorem dX4_add_96 : decode cX4_add 96 = .ok (.bipush 12, 2) := by decide +kernel
theorem dX4_add_98 : decode cX4_add 98 = .ok (.iadd, 1) := by decide +kernel
theorem dX4_add_99 : decode cX4_add 99 = .ok (.iload_n 1, 1) := by decide +kernel
theorem dX4_add_100 : decode cX4_add 100 = .ok (.iastore, 1) := by decide +kernel
theorem dX4_add_101 : decode cX4_add 101 = .ok (.aload_n 0, 1) := by decide +kernel
theorem dX4_add_102 : decode cX4_add 102 = .ok (.getfield 7, 3) := by decide +kernel
theorem dX4_add_105 : decode cX4_add 105 = .ok (.bipush 14, 2) := by decide +kernel
theorem dX4_add_107 : decode cX4_add 107 = .ok (.aload_n 0, 1) := by decide +kernel
theorem dX4_add_108 : decode cX4_add 108 = .ok (.getfield 40, 3) := by decide +kernel
theorem dX4_add_111 : decode cX4_add 111 = .ok (.imul, 1) := by decide +kernel
theorem dX4_add_112 : decode cX4_add 112 = .ok (.bipush 13, 2) := by decide +kernel
theorem dX4_add_114 : decode cX4_add 114 = .ok (.iadd, 1) := by decide +kernel
theorem dX4_add_115 : decode cX4_add 115 = .ok (.iload_n 2, 1) := by decide +kernel
theorem dX4_add_116 : decode cX4_add 116 = .ok (.iastore, 1) := by decide +kernel
theorem dX4_add_117 : decode cX4_add 117 = .ok (.aload_n 0, 1) := by decide +kernel
theorem dX4_add_118 : decode cX4_add 118 = .ok (.dup, 1) := by decide +kernel
theorem dX4_add_119 : decode cX4_add 119 = .ok (.getfield 40, 3) := by decide +kernel
theorem dX4_add_122 : decode cX4_add 122 = .ok (.iconst 1, 1) := by decide +kernel
theorem dX4_add_123 : decode cX4_add 123 = .ok (.iadd, 1) := by decide +kernel
theorem dX4_add_124 : decode cX4_add 124 = .ok (.putfield 40, 3) := by decide +kernel
theorem dX4_add_127 : decode cX4_add 127 = .ok (.aload_n 0, 1) := by decide +kernel
theorem dX4_add_128 : decode cX4_add 128 = .ok (.getfield 40, 3) := by decide +kernel
theorem dX4_add_131 : decode cX4_add 131 = .ok (.iconst 1, 1) := by decide +kernel
theorem dX4_add_132 : decode cX4_add 132 = .ok (.isub, 1) := by decide +kernel
theorem dX4_add_133 : decode cX4_add 133 = .ok (.ireturn, 1) := by decide +kernel
theorem dX4_clear_0 : decode cX4_clear 0 = .ok (.aload_n 0, 1) := by decide +kernel
theorem dX4_clear_1 : decode cX4_clear 1 = .ok (.iconst 0, 1) := by decide +kernel
theorem dX4_clear_2 : decode cX4_clear 2 = .ok (.putfield 30, 3) := by decide +kernel
theorem dX4_clear_5 : decode cX4_clear 5 = .ok (.aload_n 0, 1) := by decide +kernel
theorem dX4_clear_6 : decode cX4_clear 6 = .ok (.iconst 0, 1) := by decide +kernel
theorem dX4_clear_7 : decode cX4_clear 7 = .ok (.putfield 40, 3) := by decide +kernel
theorem dX4_clear_10 : decode cX4_clear 10 = .ok (.return_, 1) := by decide +kernel
theorem dX4_background_0 : decode cX4_background 0 = .ok (.aload_n 0, 1) := by decide +kernel
theorem dX4_background_1 : decode cX4_background 1 = .ok (.iconst 0, 1) := by decide +kernel
theorem dX4_background_2 : decode cX4_background 2 = .ok (.putfield 30, 3) := by decide +kernel
theorem dX4_background_5 : decode cX4_background 5 = .ok (.aload_n 0, 1) := by decide +kernel
theorem dX4_background_6 : decode cX4_background 6 = .ok (.iload_n 1, 1) := by decide +kernel
theorem dX4_background_7 : decode cX4_background 7 = .ok (.invokestatic 47, 3) := by decide +kernel
theorem dX4_background_10 : decode cX4_background 10 = .ok (.ifCond .eq 7, 3) := by decide +kernel
theorem dX4_background_13 : decode cX4_background 13 = .ok (.iload_n 1, 1) := by decide +kernel
theorem dX4_background_14 : decode cX4_background 14 = .ok (.goto 7, 3) := by decide +kernel
theorem dX4_background_17 : decode cX4_background 17 = .ok (.aload_n 0, 1) := by decide +kernel
theorem dX4_background_18 : decode cX4_background 18 = .ok (.getfield 51, 3) := by decide +kernel
theorem dX4_background_21 : decode cX4_background 21 = .ok (.putfield 51, 3) := by decide +kernel
theorem dX4_background_24 : decode cX4_background 24 = .ok (.iload_n 1, 1) := by decide +kernel
theorem dX4_background_25 : decode cX4_background 25 = .ok (.invokestatic 47, 3) := by decide +kernel
theorem dX4_background_28 : decode cX4_background 28 = .ok (.ireturn, 1) := by decide +kernel
theorem dX4_holds_0 : decode cX4_holds 0 = .ok (.aload_n 0, 1) := by decide +kernel
theorem dX4_holds_1 : decode cX4_holds 1 = .ok (.iload_n 1, 1) := by decide +kernel
theorem dX4_holds_2 : decode cX4_holds 2 = .ok (.iload_n 2, 1) := by decide +kernel
theorem dX4_holds_3 : decode cX4_holds 3 = .ok (.lload_n 3, 1) := by decide +kernel
theorem dX4_holds_4 : decode cX4_holds 4 = .ok (.lload 5, 2) := by decide +kernel
theorem dX4_holds_6 : decode cX4_holds 6 = .ok (.invokevirtual 35, 3) := by decide +kernel
theorem dX4_holds_9 : decode cX4_holds 9 = .ok (.lstore 7, 2) := by decide +kernel
theorem dX4_holds_11 : decode cX4_holds 11 = .ok (.aload_n 0, 1) := by decide +kernel
theorem dX4_holds_12 : decode cX4_holds 12 = .ok (.getfield 7, 3) := by decide +kernel
theorem dX4_holds_15 : decode cX4_holds 15 = .ok (.iload_n 2, 1) := by decide +kernel
theorem dX4_holds_16 : decode cX4_holds 16 = .ok (.iconst 1, 1) := by decide +kernel
theorem dX4_holds_17 : decode cX4_holds 17 = .ok (.iadd, 1) := by decide +kernel
theorem dX4_holds_18 : decode cX4_holds 18 = .ok (.iaload, 1) := by decide +kernel
theorem dX4_holds_19 : decode cX4_holds 19 = .ok (.aload_n 0, 1) := by decide +kernel
theorem dX4_holds_20 : decode cX4_holds 20 = .ok (.getfield 7, 3) := by decide +kernel
theorem dX4_holds_23 : decode cX4_holds 23 = .ok (.iload_n 1, 1) := by decide +kernel
theorem dX4_holds_24 : decode cX4_holds 24 = .ok (.iconst 1, 1) := by decide +kernel
theorem dX4_holds_25 : decode cX4_holds 25 = .ok (.iadd, 1) := by decide +kernel
theorem dX4_holds_26 : decode cX4_holds 26 = .ok (.iaload, 1) := by decide +kernel
theorem dX4_holds_27 : decode cX4_holds 27 = .ok (.if_icmp .lt 37, 3) := by decide +kernel
theorem dX4_holds_30 : decode cX4_holds 30 = .ok (.aload_n 0, 1) := by decide +kernel
theorem dX4_holds_31 : decode cX4_holds 31 = .ok (.getfield 7, 3) := by decide +kernel
theorem dX4_holds_34 : decode cX4_holds 34 = .ok (.iload_n 2, 1) := by decide +kernel
theorem dX4_holds_35 : decode cX4_holds 35 = .ok (.iconst 1, 1) := by decide +kernel
theorem dX4_holds_36 : decode cX4_holds 36 = .ok (.iadd, 1) := by decide +kernel
theorem dX4_holds_37 : decode cX4_holds 37 = .ok (.iaload, 1) := by decide +kernel
theorem dX4_holds_38 : decode cX4_holds 38 = .ok (.aload_n 0, 1) := by decide +kernel
theorem dX4_holds_39 : decode cX4_holds 39 = .ok (.getfield 7, 3) := by decide +kernel
theorem dX4_holds_42 : decode cX4_holds 42 = .ok (.iload_n 1, 1) := by decide +kernel
theorem dX4_holds_43 : decode cX4_holds 43 = .ok (.iconst 1, 1) := by decide +kernel
theorem dX4_holds_44 : decode cX4_holds 44 = .ok (.iadd, 1) := by decide +kernel
theorem dX4_holds_45 : decode cX4_holds 45 = .ok (.iaload, 1) := by decide +kernel
theorem dX4_holds_46 : decode cX4_holds 46 = .ok (.if_icmp .ne 22, 3) := by decide +kernel
theorem dX4_holds_49 : decode cX4_holds 49 = .ok (.aload_n 0, 1) := by decide +kernel
theorem dX4_holds_50 : decode cX4_holds 50 = .ok (.getfield 7, 3) := by decide +kernel
theorem dX4_holds_53 : decode cX4_holds 53 = .ok (.iload_n 2, 1) := by decide +kernel
theorem dX4_holds_54 : decode cX4_holds 54 = .ok (.iaload, 1) := by decide +kernel
theorem dX4_holds_55 : decode cX4_holds 55 = .ok (.aload_n 0, 1) := by decide +kernel
theorem dX4_holds_56 : decode cX4_holds 56 = .ok (.getfield 7, 3) := by decide +kernel
theorem dX4_holds_59 : decode cX4_holds 59 = .ok (.iload_n 1, 1) := by decide +kernel
theorem dX4_holds_60 : decode cX4_holds 60 = .ok (.iaload, 1) := by decide +kernel
theorem dX4_holds_61 : decode cX4_holds 61 = .ok (.if_icmp .le 7, 3) := by decide +kernel
theorem dX4_holds_64 : decode cX4_holds 64 = .ok (.iconst 1, 1) := by decide +kernel
theorem dX4_holds_65 : decode cX4_holds 65 = .ok (.goto 4, 3) := by decide +kernel
theorem dX4_holds_68 : decode cX4_holds 68 = .ok (.iconst 0, 1) := by decide +kernel
theorem dX4_holds_69 : decode cX4_holds 69 = .ok (.istore 9, 2) := by decide +kernel
theorem dX4_holds_71 : decode cX4_holds 71 = .ok (.lload 7, 2) := by decide +kernel
theorem dX4_holds_73 : decode cX4_holds 73 = .ok (.lconst 0, 1) := by decide +kernel
theorem dX4_holds_74 : decode cX4_holds 74 = .ok (.lcmp, 1) := by decide +kernel
theorem dX4_holds_75 : decode cX4_holds 75 = .ok (.ifCond .gt 15, 3) := by decide +kernel
theorem dX4_holds_78 : decode cX4_holds 78 = .ok (.lload 7, 2) := by decide +kernel
theorem dX4_holds_80 : decode cX4_holds 80 = .ok (.lconst 0, 1) := by decide +kernel
theorem dX4_holds_81 : decode cX4_holds 81 = .ok (.lcmp, 1) := by decide +kernel
theorem dX4_holds_82 : decode cX4_holds 82 = .ok (.ifCond .ne 12, 3) := by decide +kernel
theorem dX4_holds_85 : decode cX4_holds 85 = .ok (.iload 9, 2) := by decide +kernel
theorem dX4_holds_87 : decode cX4_holds 87 = .ok (.ifCond .eq 7, 3) := by decide +kernel
theorem dX4_holds_90 : decode cX4_holds 90 = .ok (.iconst 1, 1) := by decide +kernel
theorem dX4_holds_91 : decode cX4_holds 91 = .ok (.goto 4, 3) := by decide +kernel
theorem dX4_holds_94 : decode cX4_holds 94 = .ok (.iconst 0, 1) := by decide +kernel
theorem dX4_holds_95 : decode cX4_holds 95 = .ok (.ireturn, 1) := by decide +kernel
theorem dX4_part_0 : decode cX4_part 0 = .ok (.iload_n 1, 1) := by decide +kernel
theorem dX4_part_1 : decode cX4_part 1 = .ok (.ifCond .ne 10, 3) := by decide +kernel
theorem dX4_part_4 : decode cX4_part 4 = .ok (.iload_n 0, 1) := by decide +kernel
theorem dX4_part_5 : decode cX4_part 5 = .ok (.ldc 34, 2) := by decide +kernel
theorem dX4_part_7 : decode cX4_part 7 = .ok (.idiv, 1) := by decide +kernel
theorem dX4_part_8 : decode cX4_part 8 = .ok (.goto 25, 3) := by decide +kernel
theorem dX4_part_11 : decode cX4_part 11 = .ok (.iload_n 1, 1) := by decide +kernel
theorem dX4_part_12 : decode cX4_part 12 = .ok (.iconst 1, 1) := by decide +kernel
theorem dX4_part_13 : decode cX4_part 13 = .ok (.if_icmp .ne 15, 3) := by decide +kernel
theorem dX4_part_16 : decode cX4_part 16 = .ok (.iload_n 0, 1) := by decide +kernel
theorem dX4_part_17 : decode cX4_part 17 = .ok (.sipush 256, 3) := by decide +kernel
theorem dX4_part_20 : decode cX4_part 20 = .ok (.idiv, 1) := by decide +kernel
theorem dX4_part_21 : decode cX4_part 21 = .ok (.sipush 256, 3) := by decide +kernel
theorem dX4_part_24 : decode cX4_part 24 = .ok (.irem, 1) := by decide +kernel
theorem dX4_part_25 : decode cX4_part 25 = .ok (.goto 8, 3) := by decide +kernel
theorem dX4_part_28 : decode cX4_part 28 = .ok (.iload_n 0, 1) := by decide +kernel
theorem dX4_part_29 : decode cX4_part 29 = .ok (.sipush 256, 3) := by decide +kernel
theorem dX4_part_32 : decode cX4_part 32 = .ok (.irem, 1) := by decide +kernel
theorem dX4_part_33 : decode cX4_part 33 = .ok (.ireturn, 1) := by decide +kernel
theorem dX4_over_0 : decode cX4_over 0 = .ok (.iconst 0, 1) := by decide +kernel
theorem dX4_over_1 : decode cX4_over 1 = .ok (.istore 5, 2) := by decide +kernel
theorem dX4_over_3 : decode cX4_over 3 = .ok (.iconst 0, 1) := by decide +kernel
theorem dX4_over_4 : decode cX4_over 4 = .ok (.istore 6, 2) := by decide +kernel
theorem dX4_over_6 : decode cX4_over 6 = .ok (.iload 6, 2) := by decide +kernel
theorem dX4_over_8 : decode cX4_over 8 = .ok (.iconst 3, 1) := by decide +kernel
theorem dX4_over_9 : decode cX4_over 9 = .ok (.if_icmp .ge 72, 3) := by decide +kernel
theorem dX4_over_12 : decode cX4_over 12 = .ok (.iload_n 0, 1) := by decide +kernel
theorem dX4_over_13 : decode cX4_over 13 = .ok (.iload 6, 2) := by decide +kernel
theorem dX4_over_15 : decode cX4_over 15 = .ok (.invokestatic 54, 3) := by decide +kernel
theorem dX4_over_18 : decode cX4_over 18 = .ok (.i2l, 1) := by decide +kernel
theorem dX4_over_19 : decode cX4_over 19 = .ok (.lload_n 1, 1) := by decide +kernel
theorem dX4_over_20 : decode cX4_over 20 = .ok (.lmul, 1) := by decide +kernel
theorem dX4_over_21 : decode cX4_over 21 = .ok (.ldc2_w 58, 3) := by decide +kernel
theorem dX4_over_24 : decode cX4_over 24 = .ok (.ldiv, 1) := by decide +kernel
theorem dX4_over_25 : decode cX4_over 25 = .ok (.l2i, 1) := by decide +kernel
theorem dX4_over_26 : decode cX4_over 26 = .ok (.istore 7, 2) := by decide +kernel
theorem dX4_over_28 : decode cX4_over 28 = .ok (.iload_n 3, 1) := by decide +kernel
theorem dX4_over_29 : decode cX4_over 29 = .ok (.sipush 255, 3) := by decide +kernel
theorem dX4_over_32 : decode cX4_over 32 = .ok (.if_icmp .ne 8, 3) := by decide +kernel
theorem dX4_over_35 : decode cX4_over 35 = .ok (.iload 7, 2) := by decide +kernel
theorem dX4_over_37 : decode cX4_over 37 = .ok (.goto 25, 3) := by decide +kernel
theorem dX4_over_40 : decode cX4_over 40 = .ok (.iload 7, 2) := by decide +kernel
theorem dX4_over_42 : decode cX4_over 42 = .ok (.iload_n 3, 1) := by decide +kernel
theorem dX4_over_43 : decode cX4_over 43 = .ok (.imul, 1) := by decide +kernel
theorem dX4_over_44 : decode cX4_over 44 = .ok (.iload 4, 2) := by decide +kernel
theorem dX4_over_46 : decode cX4_over 46 = .ok (.iload 6, 2) := by decide +kernel
theorem dX4_over_48 : decode cX4_over 48 = .ok (.invokestatic 54, 3) := by decide +kernel
theorem dX4_over_51 : decode cX4_over 51 = .ok (.sipush 255, 3) := by decide +kernel
theorem dX4_over_54 : decode cX4_over 54 = .ok (.iload_n 3, 1) := by decide +kernel
theorem dX4_over_55 : decode cX4_over 55 = .ok (.isub, 1) := by decide +kernel
theorem dX4_over_56 : decode cX4_over 56 = .ok (.imul, 1) := by decide +kernel
theorem dX4_over_57 : decode cX4_over 57 = .ok (.iadd, 1) := by decide +kernel
theorem dX4_over_58 : decode cX4_over 58 = .ok (.sipush 255, 3) := by decide +kernel
theorem dX4_over_61 : decode cX4_over 61 = .ok (.idiv, 1) := by decide +kernel
theorem dX4_over_62 : decode cX4_over 62 = .ok (.istore 8, 2) := by decide +kernel
theorem dX4_over_64 : decode cX4_over 64 = .ok (.iload 5, 2) := by decide +kernel
theorem dX4_over_66 : decode cX4_over 66 = .ok (.sipush 256, 3) := by decide +kernel
theorem dX4_over_69 : decode cX4_over 69 = .ok (.imul, 1) := by decide +kernel
theorem dX4_over_70 : decode cX4_over 70 = .ok (.iload 8, 2) := by decide +kernel
theorem dX4_over_72 : decode cX4_over 72 = .ok (.iadd, 1) := by decide +kernel
theorem dX4_over_73 : decode cX4_over 73 = .ok (.istore 5, 2) := by decide +kernel
theorem dX4_over_75 : decode cX4_over 75 = .ok (.iinc 6 1, 3) := by decide +kernel
theorem dX4_over_78 : decode cX4_over 78 = .ok (.goto (-72), 3) := by decide +kernel
theorem dX4_over_81 : decode cX4_over 81 = .ok (.iload 5, 2) := by decide +kernel
theorem dX4_over_83 : decode cX4_over 83 = .ok (.ireturn, 1) := by decide +kernel
theorem dX4_draw_0 : decode cX4_draw 0 = .ok (.ldc2_w 60, 3) := by decide +kernel
theorem dX4_draw_3 : decode cX4_draw 3 = .ok (.iload_n 2, 1) := by decide +kernel
theorem dX4_draw_4 : decode cX4_draw 4 = .ok (.i2l, 1) := by decide +kernel
theorem dX4_draw_5 : decode cX4_draw 5 = .ok (.lmul, 1) := by decide +kernel
theorem dX4_draw_6 : decode cX4_draw 6 = .ok (.ldc2_w 62, 3) := by decide +kernel
theorem dX4_draw_9 : decode cX4_draw 9 = .ok (.ladd, 1) := by decide +kernel
theorem dX4_draw_10 : decode cX4_draw 10 = .ok (.lstore 5, 2) := by decide +kernel
theorem dX4_draw_12 : decode cX4_draw 12 = .ok (.ldc2_w 60, 3) := by decide +kernel
theorem dX4_draw_15 : decode cX4_draw 15 = .ok (.iload_n 3, 1) := by decide +kernel
theorem dX4_draw_16 : decode cX4_draw 16 = .ok (.i2l, 1) := by decide +kernel
theorem dX4_draw_17 : decode cX4_draw 17 = .ok (.lmul, 1) := by decide +kernel
theorem dX4_draw_18 : decode cX4_draw 18 = .ok (.ldc2_w 62, 3) := by decide +kernel
theorem dX4_draw_21 : decode cX4_draw 21 = .ok (.ladd, 1) := by decide +kernel
theorem dX4_draw_22 : decode cX4_draw 22 = .ok (.lstore 7, 2) := by decide +kernel
theorem dX4_draw_24 : decode cX4_draw 24 = .ok (.aload_n 0, 1) := by decide +kernel
theorem dX4_draw_25 : decode cX4_draw 25 = .ok (.iload_n 1, 1) := by decide +kernel
theorem dX4_draw_26 : decode cX4_draw 26 = .ok (.iconst 4, 1) := by decide +kernel
theorem dX4_draw_27 : decode cX4_draw 27 = .ok (.iadd, 1) := by decide +kernel
theorem dX4_draw_28 : decode cX4_draw 28 = .ok (.iload_n 1, 1) := by decide +kernel
theorem dX4_draw_29 : decode cX4_draw 29 = .ok (.bipush 8, 2) := by decide +kernel
theorem dX4_draw_31 : decode cX4_draw 31 = .ok (.iadd, 1) := by decide +kernel
theorem dX4_draw_32 : decode cX4_draw 32 = .ok (.lload 5, 2) := by decide +kernel
theorem dX4_draw_34 : decode cX4_draw 34 = .ok (.lload 7, 2) := by decide +kernel
theorem dX4_draw_36 : decode cX4_draw 36 = .ok (.invokevirtual 64, 3) := by decide +kernel
theorem dX4_draw_39 : decode cX4_draw 39 = .ok (.ifCond .eq 34, 3) := by decide +kernel
theorem dX4_draw_42 : decode cX4_draw 42 = .ok (.aload_n 0, 1) := by decide +kernel
theorem dX4_draw_43 : decode cX4_draw 43 = .ok (.iload_n 1, 1) := by decide +kernel
theorem dX4_draw_44 : decode cX4_draw 44 = .ok (.bipush 8, 2) := by decide +kernel
theorem dX4_draw_46 : decode cX4_draw 46 = .ok (.iadd, 1) := by decide +kernel
theorem dX4_draw_47 : decode cX4_draw 47 = .ok (.iload_n 1, 1) := by decide +kernel
theorem dX4_draw_48 : decode cX4_draw 48 = .ok (.lload 5, 2) := by decide +kernel
theorem dX4_draw_50 : decode cX4_draw 50 = .ok (.lload 7, 2) := by decide +kernel
theorem dX4_draw_52 : decode cX4_draw 52 = .ok (.invokevirtual 64, 3) := by decide +kernel
theorem dX4_draw_55 : decode cX4_draw 55 = .ok (.ifCond .eq 18, 3) := by decide +kernel
theorem dX4_draw_58 : decode cX4_draw 58 = .ok (.aload_n 0, 1) := by decide +kernel
theorem dX4_draw_59 : decode cX4_draw 59 = .ok (.iload_n 1, 1) := by decide +kernel
theorem dX4_draw_60 : decode cX4_draw 60 = .ok (.iload_n 1, 1) := by decide +kernel
theorem dX4_draw_61 : decode cX4_draw 61 = .ok (.iconst 4, 1) := by decide +kernel
theorem dX4_draw_62 : decode cX4_draw 62 = .ok (.iadd, 1) := by decide +kernel
theorem dX4_draw_63 : decode cX4_draw 63 = .ok (.lload 5, 2) := by decide +kernel
theorem dX4_draw_65 : decode cX4_draw 65 = .ok (.lload 7, 2) := by decide +kernel
theorem dX4_draw_67 : decode cX4_draw 67 = .ok (.invokevirtual 64, 3) := by decide +kernel
theorem dX4_draw_70 : decode cX4_draw 70 = .ok (.ifCond .ne 4, 3) := by decide +kernel
theorem dX4_draw_73 : decode cX4_draw 73 = .ok (.return_, 1) := by decide +kernel
theorem dX4_draw_74 : decode cX4_draw 74 = .ok (.aload_n 0, 1) := by decide +kernel
theorem dX4_draw_75 : decode cX4_draw 75 = .ok (.iload_n 1, 1) := by decide +kernel
theorem dX4_draw_76 : decode cX4_draw 76 = .ok (.iconst 4, 1) := by decide +kernel
theorem dX4_draw_77 : decode cX4_draw 77 = .ok (.iadd, 1) := by decide +kernel
theorem dX4_draw_78 : decode cX4_draw 78 = .ok (.iload_n 1, 1) := by decide +kernel
theorem dX4_draw_79 : decode cX4_draw 79 = .ok (.bipush 8, 2) := by decide +kernel
theorem dX4_draw_81 : decode cX4_draw 81 = .ok (.iadd, 1) := by decide +kernel
theorem dX4_draw_82 : decode cX4_draw 82 = .ok (.lload 5, 2) := by decide +kernel
theorem dX4_draw_84 : decode cX4_draw 84 = .ok (.lload 7, 2) := by decide +kernel
theorem dX4_draw_86 : decode cX4_draw 86 = .ok (.invokevirtual 35, 3) := by decide +kernel
theorem dX4_draw_89 : decode cX4_draw 89 = .ok (.aload_n 0, 1) := by decide +kernel
theorem dX4_draw_90 : decode cX4_draw 90 = .ok (.getfield 7, 3) := by decide +kernel
theorem dX4_draw_93 : decode cX4_draw 93 = .ok (.iload_n 1, 1) := by decide +kernel
theorem dX4_draw_94 : decode cX4_draw 94 = .ok (.iconst 2, 1) := by decide +kernel
theorem dX4_draw_95 : decode cX4_draw 95 = .ok (.iadd, 1) := by decide +kernel
theorem dX4_draw_96 : decode cX4_draw 96 = .ok (.iaload, 1) := by decide +kernel
theorem dX4_draw_97 : decode cX4_draw 97 = .ok (.i2l, 1) := by decide +kernel
theorem dX4_draw_98 : decode cX4_draw 98 = .ok (.lmul, 1) := by decide +kernel
theorem dX4_draw_99 : decode cX4_draw 99 = .ok (.lstore 9, 2) := by decide +kernel
theorem dX4_draw_101 : decode cX4_draw 101 = .ok (.aload_n 0, 1) := by decide +kernel
theorem dX4_draw_102 : decode cX4_draw 102 = .ok (.iload_n 1, 1) := by decide +kernel
theorem dX4_draw_103 : decode cX4_draw 103 = .ok (.bipush 8, 2) := by decide +kernel
theorem dX4_draw_105 : decode cX4_draw 105 = .ok (.iadd, 1) := by decide +kernel
theorem dX4_draw_106 : decode cX4_draw 106 = .ok (.iload_n 1, 1) := by decide +kernel
theorem dX4_draw_107 : decode cX4_draw 107 = .ok (.lload 5, 2) := by decide +kernel
theorem dX4_draw_109 : decode cX4_draw 109 = .ok (.lload 7, 2) := by decide +kernel
theorem dX4_draw_111 : decode cX4_draw 111 = .ok (.invokevirtual 35, 3) := by decide +kernel
theorem dX4_draw_114 : decode cX4_draw 114 = .ok (.aload_n 0, 1) := by decide +kernel
theorem dX4_draw_115 : decode cX4_draw 115 = .ok (.getfield 7, 3) := by decide +kernel
theorem dX4_draw_118 : decode cX4_draw 118 = .ok (.iload_n 1, 1) := by decide +kernel
theorem dX4_draw_119 : decode cX4_draw 119 = .ok (.bipush 6, 2) := by decide +kernel
theorem dX4_draw_121 : decode cX4_draw 121 = .ok (.iadd, 1) := by decide +kernel
theorem dX4_draw_122 : decode cX4_draw 122 = .ok (.iaload, 1) := by decide +kernel
theorem dX4_draw_123 : decode cX4_draw 123 = .ok (.i2l, 1) := by decide +kernel
theorem dX4_draw_124 : decode cX4_draw 124 = .ok (.lmul, 1) := by decide +kernel
theorem dX4_draw_125 : decode cX4_draw 125 = .ok (.lstore 11, 2) := by decide +kernel
theorem dX4_draw_127 : decode cX4_draw 127 = .ok (.aload_n 0, 1) := by decide +kernel
theorem dX4_draw_128 : decode cX4_draw 128 = .ok (.iload_n 1, 1) := by decide +kernel
theorem dX4_draw_129 : decode cX4_draw 129 = .ok (.iload_n 1, 1) := by decide +kernel
theorem dX4_draw_130 : decode cX4_draw 130 = .ok (.iconst 4, 1) := by decide +kernel
theorem dX4_draw_131 : decode cX4_draw 131 = .ok (.iadd, 1) := by decide +kernel
theorem dX4_draw_132 : decode cX4_draw 132 = .ok (.lload 5, 2) := by decide +kernel
theorem dX4_draw_134 : decode cX4_draw 134 = .ok (.lload 7, 2) := by decide +kernel
theorem dX4_draw_136 : decode cX4_draw 136 = .ok (.invokevirtual 35, 3) := by decide +kernel
theorem dX4_draw_139 : decode cX4_draw 139 = .ok (.aload_n 0, 1) := by decide +kernel
theorem dX4_draw_140 : decode cX4_draw 140 = .ok (.getfield 7, 3) := by decide +kernel
theorem dX4_draw_143 : decode cX4_draw 143 = .ok (.iload_n 1, 1) := by decide +kernel
theorem dX4_draw_144 : decode cX4_draw 144 = .ok (.bipush 10, 2) := by decide +kernel
theorem dX4_draw_146 : decode cX4_draw 146 = .ok (.iadd, 1) := by decide +kernel
theorem dX4_draw_147 : decode cX4_draw 147 = .ok (.iaload, 1) := by decide +kernel
theorem dX4_draw_148 : decode cX4_draw 148 = .ok (.i2l, 1) := by decide +kernel
theorem dX4_draw_149 : decode cX4_draw 149 = .ok (.lmul, 1) := by decide +kernel
theorem dX4_draw_150 : decode cX4_draw 150 = .ok (.lstore 13, 2) := by decide +kernel
theorem dX4_draw_152 : decode cX4_draw 152 = .ok (.lload 9, 2) := by decide +kernel
theorem dX4_draw_154 : decode cX4_draw 154 = .ok (.lload 11, 2) := by decide +kernel
theorem dX4_draw_156 : decode cX4_draw 156 = .ok (.ladd, 1) := by decide +kernel
theorem dX4_draw_157 : decode cX4_draw 157 = .ok (.lload 13, 2) := by decide +kernel
theorem dX4_draw_159 : decode cX4_draw 159 = .ok (.ladd, 1) := by decide +kernel
theorem dX4_draw_160 : decode cX4_draw 160 = .ok (.lstore 15, 2) := by decide +kernel
theorem dX4_draw_162 : decode cX4_draw 162 = .ok (.lload 15, 2) := by decide +kernel
theorem dX4_draw_164 : decode cX4_draw 164 = .ok (.aload_n 0, 1) := by decide +kernel
theorem dX4_draw_165 : decode cX4_draw 165 = .ok (.iload_n 1, 1) := by decide +kernel
theorem dX4_draw_166 : decode cX4_draw 166 = .ok (.invokevirtual 43, 3) := by decide +kernel
theorem dX4_draw_169 : decode cX4_draw 169 = .ok (.ldiv, 1) := by decide +kernel
theorem dX4_draw_170 : decode cX4_draw 170 = .ok (.l2i, 1) := by decide +kernel
theorem dX4_draw_171 : decode cX4_draw 171 = .ok (.istore 17, 2) := by decide +kernel
theorem dX4_draw_173 : decode cX4_draw 173 = .ok (.iload 17, 2) := by decide +kernel
theorem dX4_draw_175 : decode cX4_draw 175 = .ok (.aload_n 0, 1) := by decide +kernel
theorem dX4_draw_176 : decode cX4_draw 176 = .ok (.getfield 16, 3) := by decide +kernel
theorem dX4_draw_179 : decode cX4_draw 179 = .ok (.iload 4, 2) := by decide +kernel
theorem dX4_draw_181 : decode cX4_draw 181 = .ok (.iaload, 1) := by decide +kernel
theorem dX4_draw_182 : decode cX4_draw 182 = .ok (.if_icmp .gt 4, 3) := by decide +kernel
theorem dX4_draw_185 : decode cX4_draw 185 = .ok (.return_, 1) := by decide +kernel
theorem dX4_draw_186 : decode cX4_draw 186 = .ok (.lload 9, 2) := by decide +kernel
theorem dX4_draw_188 : decode cX4_draw 188 = .ok (.aload_n 0, 1) := by decide +kernel
theorem dX4_draw_189 : decode cX4_draw 189 = .ok (.getfield 7, 3) := by decide +kernel
theorem dX4_draw_192 : decode cX4_draw 192 = .ok (.iload_n 1, 1) := by decide +kernel
theorem dX4_draw_193 : decode cX4_draw 193 = .ok (.iconst 3, 1) := by decide +kernel
theorem dX4_draw_194 : decode cX4_draw 194 = .ok (.iadd, 1) := by decide +kernel
theorem dX4_draw_195 : decode cX4_draw 195 = .ok (.iaload, 1) := by decide +kernel
theorem dX4_draw_196 : decode cX4_draw 196 = .ok (.i2l, 1) := by decide +kernel
theorem dX4_draw_197 : decode cX4_draw 197 = .ok (.lmul, 1) := by decide +kernel
theorem dX4_draw_198 : decode cX4_draw 198 = .ok (.lload 11, 2) := by decide +kernel
theorem dX4_draw_200 : decode cX4_draw 200 = .ok (.aload_n 0, 1) := by decide +kernel
theorem dX4_draw_201 : decode cX4_draw 201 = .ok (.getfield 7, 3) := by decide +kernel
theorem dX4_draw_204 : decode cX4_draw 204 = .ok (.iload_n 1, 1) := by decide +kernel
theorem dX4_draw_205 : decode cX4_draw 205 = .ok (.bipush 7, 2) := by decide +kernel
theorem dX4_draw_207 : decode cX4_draw 207 = .ok (.iadd, 1) := by decide +kernel
theorem dX4_draw_208 : decode cX4_draw 208 = .ok (.iaload, 1) := by decide +kernel
theorem dX4_draw_209 : decode cX4_draw 209 = .ok (.i2l, 1) := by decide +kernel
theorem dX4_draw_210 : decode cX4_draw 210 = .ok (.lmul, 1) := by decide +kernel
theorem dX4_draw_211 : decode cX4_draw 211 = .ok (.ladd, 1) := by decide +kernel
theorem dX4_draw_212 : decode cX4_draw 212 = .ok (.lload 13, 2) := by decide +kernel
theorem dX4_draw_214 : decode cX4_draw 214 = .ok (.aload_n 0, 1) := by decide +kernel
theorem dX4_draw_215 : decode cX4_draw 215 = .ok (.getfield 7, 3) := by decide +kernel
theorem dX4_draw_218 : decode cX4_draw 218 = .ok (.iload_n 1, 1) := by decide +kernel
theorem dX4_draw_219 : decode cX4_draw 219 = .ok (.bipush 11, 2) := by decide +kernel
theorem dX4_draw_221 : decode cX4_draw 221 = .ok (.iadd, 1) := by decide +kernel
theorem dX4_draw_222 : decode cX4_draw 222 = .ok (.iaload, 1) := by decide +kernel
theorem dX4_draw_223 : decode cX4_draw 223 = .ok (.i2l, 1) := by decide +kernel
theorem dX4_draw_224 : decode cX4_draw 224 = .ok (.lmul, 1) := by decide +kernel
theorem dX4_draw_225 : decode cX4_draw 225 = .ok (.ladd, 1) := by decide +kernel
theorem dX4_draw_226 : decode cX4_draw 226 = .ok (.lload 15, 2) := by decide +kernel
theorem dX4_draw_228 : decode cX4_draw 228 = .ok (.ldiv, 1) := by decide +kernel
theorem dX4_draw_229 : decode cX4_draw 229 = .ok (.lstore 18, 2) := by decide +kernel
theorem dX4_draw_231 : decode cX4_draw 231 = .ok (.aload_n 0, 1) := by decide +kernel
theorem dX4_draw_232 : decode cX4_draw 232 = .ok (.getfield 7, 3) := by decide +kernel
theorem dX4_draw_235 : decode cX4_draw 235 = .ok (.iload_n 1, 1) := by decide +kernel
theorem dX4_draw_236 : decode cX4_draw 236 = .ok (.bipush 13, 2) := by decide +kernel
theorem dX4_draw_238 : decode cX4_draw 238 = .ok (.iadd, 1) := by decide +kernel
theorem dX4_draw_239 : decode cX4_draw 239 = .ok (.iaload, 1) := by decide +kernel
theorem dX4_draw_240 : decode cX4_draw 240 = .ok (.istore 20, 2) := by decide +kernel
theorem dX4_draw_242 : decode cX4_draw 242 = .ok (.aload_n 0, 1) := by decide +kernel
theorem dX4_draw_243 : decode cX4_draw 243 = .ok (.getfield 13, 3) := by decide +kernel
theorem dX4_draw_246 : decode cX4_draw 246 = .ok (.iload 4, 2) := by decide +kernel
theorem dX4_draw_248 : decode cX4_draw 248 = .ok (.aload_n 0, 1) := by decide +kernel
theorem dX4_draw_249 : decode cX4_draw 249 = .ok (.getfield 7, 3) := by decide +kernel
theorem dX4_draw_252 : decode cX4_draw 252 = .ok (.iload_n 1, 1) := by decide +kernel
theorem dX4_draw_253 : decode cX4_draw 253 = .ok (.bipush 12, 2) := by decide +kernel
theorem dX4_draw_255 : decode cX4_draw 255 = .ok (.iadd, 1) := by decide +kernel
theorem dX4_draw_256 : decode cX4_draw 256 = .ok (.iaload, 1) := by decide +kernel
theorem dX4_draw_257 : decode cX4_draw 257 = .ok (.lload 18, 2) := by decide +kernel
theorem dX4_draw_259 : decode cX4_draw 259 = .ok (.iload 20, 2) := by decide +kernel
theorem dX4_draw_261 : decode cX4_draw 261 = .ok (.aload_n 0, 1) := by decide +kernel
theorem dX4_draw_262 : decode cX4_draw 262 = .ok (.getfield 13, 3) := by decide +kernel
theorem dX4_draw_265 : decode cX4_draw 265 = .ok (.iload 4, 2) := by decide +kernel
theorem dX4_draw_267 : decode cX4_draw 267 = .ok (.iaload, 1) := by decide +kernel
theorem dX4_draw_268 : decode cX4_draw 268 = .ok (.invokestatic 68, 3) := by decide +kernel
theorem dX4_draw_271 : decode cX4_draw 271 = .ok (.iastore, 1) := by decide +kernel
theorem dX4_draw_272 : decode cX4_draw 272 = .ok (.aload_n 0, 1) := by decide +kernel
theorem dX4_draw_273 : decode cX4_draw 273 = .ok (.getfield 16, 3) := by decide +kernel
theorem dX4_draw_276 : decode cX4_draw 276 = .ok (.iload 4, 2) := by decide +kernel
theorem dX4_draw_278 : decode cX4_draw 278 = .ok (.iload 20, 2) := by decide +kernel
theorem dX4_draw_280 : decode cX4_draw 280 = .ok (.sipush 255, 3) := by decide +kernel
theorem dX4_draw_283 : decode cX4_draw 283 = .ok (.if_icmp .ne 8, 3) := by decide +kernel
theorem dX4_draw_286 : decode cX4_draw 286 = .ok (.iload 17, 2) := by decide +kernel
theorem dX4_draw_288 : decode cX4_draw 288 = .ok (.goto 10, 3) := by decide +kernel
theorem dX4_draw_291 : decode cX4_draw 291 = .ok (.aload_n 0, 1) := by decide +kernel
theorem dX4_draw_292 : decode cX4_draw 292 = .ok (.getfield 16, 3) := by decide +kernel
theorem dX4_draw_295 : decode cX4_draw 295 = .ok (.iload 4, 2) := by decide +kernel
theorem dX4_draw_297 : decode cX4_draw 297 = .ok (.iaload, 1) := by decide +kernel
theorem dX4_draw_298 : decode cX4_draw 298 = .ok (.iastore, 1) := by decide +kernel
theorem dX4_draw_299 : decode cX4_draw 299 = .ok (.return_, 1) := by decide +kernel
theorem dX4_columns_0 : decode cX4_columns 0 = .ok (.aload_n 0, 1) := by decide +kernel
theorem dX4_columns_1 : decode cX4_columns 1 = .ok (.getfield 23, 3) := by decide +kernel
theorem dX4_columns_4 : decode cX4_columns 4 = .ok (.bipush 7, 2) := by decide +kernel
theorem dX4_columns_6 : decode cX4_columns 6 = .ok (.iadd, 1) := by decide +kernel
theorem dX4_columns_7 : decode cX4_columns 7 = .ok (.bipush 8, 2) := by decide +kernel
theorem dX4_columns_9 : decode cX4_columns 9 = .ok (.idiv, 1) := by decide +kernel
theorem dX4_columns_10 : decode cX4_columns 10 = .ok (.ireturn, 1) := by decide +kernel
theorem dX4_tiles_0 : decode cX4_tiles 0 = .ok (.aload_n 0, 1) := by decide +kernel
theorem dX4_tiles_1 : decode cX4_tiles 1 = .ok (.invokevirtual 72, 3) := by decide +kernel
theorem dX4_tiles_4 : decode cX4_tiles 4 = .ok (.aload_n 0, 1) := by decide +kernel
theorem dX4_tiles_5 : decode cX4_tiles 5 = .ok (.getfield 27, 3) := by decide +kernel
theorem dX4_tiles_8 : decode cX4_tiles 8 = .ok (.bipush 7, 2) := by decide +kernel
theorem dX4_tiles_10 : decode cX4_tiles 10 = .ok (.iadd, 1) := by decide +kernel
theorem dX4_tiles_11 : decode cX4_tiles 11 = .ok (.bipush 8, 2) := by decide +kernel
theorem dX4_tiles_13 : decode cX4_tiles 13 = .ok (.idiv, 1) := by decide +kernel
theorem dX4_tiles_14 : decode cX4_tiles 14 = .ok (.imul, 1) := by decide +kernel
theorem dX4_tiles_15 : decode cX4_tiles 15 = .ok (.ireturn, 1) := by decide +kernel
theorem dX4_begin_0 : decode cX4_begin 0 = .ok (.aload_n 0, 1) := by decide +kernel
theorem dX4_begin_1 : decode cX4_begin 1 = .ok (.iconst 0, 1) := by decide +kernel
theorem dX4_begin_2 : decode cX4_begin 2 = .ok (.putfield 30, 3) := by decide +kernel
theorem dX4_begin_5 : decode cX4_begin 5 = .ok (.aload_n 0, 1) := by decide +kernel
theorem dX4_begin_6 : decode cX4_begin 6 = .ok (.iconst 1, 1) := by decide +kernel
theorem dX4_begin_7 : decode cX4_begin 7 = .ok (.putfield 76, 3) := by decide +kernel
theorem dX4_begin_10 : decode cX4_begin 10 = .ok (.aload_n 0, 1) := by decide +kernel
theorem dX4_begin_11 : decode cX4_begin 11 = .ok (.aload_n 0, 1) := by decide +kernel
theorem dX4_begin_12 : decode cX4_begin 12 = .ok (.getfield 40, 3) := by decide +kernel
theorem dX4_begin_15 : decode cX4_begin 15 = .ok (.putfield 80, 3) := by decide +kernel
theorem dX4_begin_18 : decode cX4_begin 18 = .ok (.iconst 0, 1) := by decide +kernel
theorem dX4_begin_19 : decode cX4_begin 19 = .ok (.istore_n 1, 1) := by decide +kernel
theorem dX4_begin_20 : decode cX4_begin 20 = .ok (.iload_n 1, 1) := by decide +kernel
theorem dX4_begin_21 : decode cX4_begin 21 = .ok (.bipush 36, 2) := by decide +kernel
theorem dX4_begin_23 : decode cX4_begin 23 = .ok (.if_icmp .ge 16, 3) := by decide +kernel
theorem dX4_begin_26 : decode cX4_begin 26 = .ok (.aload_n 0, 1) := by decide +kernel
theorem dX4_begin_27 : decode cX4_begin 27 = .ok (.getfield 19, 3) := by decide +kernel
theorem dX4_begin_30 : decode cX4_begin 30 = .ok (.iload_n 1, 1) := by decide +kernel
theorem dX4_begin_31 : decode cX4_begin 31 = .ok (.iconst 0, 1) := by decide +kernel
theorem dX4_begin_32 : decode cX4_begin 32 = .ok (.bastore, 1) := by decide +kernel
theorem dX4_begin_33 : decode cX4_begin 33 = .ok (.iinc 1 1, 3) := by decide +kernel
theorem dX4_begin_36 : decode cX4_begin 36 = .ok (.goto (-16), 3) := by decide +kernel
theorem dX4_begin_39 : decode cX4_begin 39 = .ok (.iconst 0, 1) := by decide +kernel
theorem dX4_begin_40 : decode cX4_begin 40 = .ok (.istore_n 1, 1) := by decide +kernel
theorem dX4_begin_41 : decode cX4_begin 41 = .ok (.iload_n 1, 1) := by decide +kernel
theorem dX4_begin_42 : decode cX4_begin 42 = .ok (.aload_n 0, 1) := by decide +kernel
theorem dX4_begin_43 : decode cX4_begin 43 = .ok (.getfield 27, 3) := by decide +kernel
theorem dX4_begin_46 : decode cX4_begin 46 = .ok (.if_icmp .ge 79, 3) := by decide +kernel
theorem dX4_begin_49 : decode cX4_begin 49 = .ok (.iconst 0, 1) := by decide +kernel
theorem dX4_begin_50 : decode cX4_begin 50 = .ok (.istore_n 2, 1) := by decide +kernel
theorem dX4_begin_51 : decode cX4_begin 51 = .ok (.iload_n 2, 1) := by decide +kernel
theorem dX4_begin_52 : decode cX4_begin 52 = .ok (.aload_n 0, 1) := by decide +kernel
theorem dX4_begin_53 : decode cX4_begin 53 = .ok (.getfield 23, 3) := by decide +kernel
theorem dX4_begin_56 : decode cX4_begin 56 = .ok (.if_icmp .ge 63, 3) := by decide +kernel
theorem dX4_begin_59 : decode cX4_begin 59 = .ok (.bipush 48, 2) := by decide +kernel
theorem dX4_begin_61 : decode cX4_begin 61 = .ok (.iload_n 1, 1) := by decide +kernel
theorem dX4_begin_62 : decode cX4_begin 62 = .ok (.imul, 1) := by decide +kernel
theorem dX4_begin_63 : decode cX4_begin 63 = .ok (.iload_n 2, 1) := by decide +kernel
theorem dX4_begin_64 : decode cX4_begin 64 = .ok (.iadd, 1) := by decide +kernel
theorem dX4_begin_65 : decode cX4_begin 65 = .ok (.istore_n 3, 1) := by decide +kernel
theorem dX4_begin_66 : decode cX4_begin 66 = .ok (.aload_n 0, 1) := by decide +kernel
theorem dX4_begin_67 : decode cX4_begin 67 = .ok (.getfield 13, 3) := by decide +kernel
theorem dX4_begin_70 : decode cX4_begin 70 = .ok (.iload_n 3, 1) := by decide +kernel
theorem dX4_begin_71 : decode cX4_begin 71 = .ok (.aload_n 0, 1) := by decide +kernel
theorem dX4_begin_72 : decode cX4_begin 72 = .ok (.getfield 51, 3) := by decide +kernel
theorem dX4_begin_75 : decode cX4_begin 75 = .ok (.iastore, 1) := by decide +kernel
theorem dX4_begin_76 : decode cX4_begin 76 = .ok (.aload_n 0, 1) := by decide +kernel
theorem dX4_begin_77 : decode cX4_begin 77 = .ok (.getfield 16, 3) := by decide +kernel
theorem dX4_begin_80 : decode cX4_begin 80 = .ok (.iload_n 3, 1) := by decide +kernel
theorem dX4_begin_81 : decode cX4_begin 81 = .ok (.iconst 0, 1) := by decide +kernel
theorem dX4_begin_82 : decode cX4_begin 82 = .ok (.iastore, 1) := by decide +kernel
theorem dX4_begin_83 : decode cX4_begin 83 = .ok (.iconst 0, 1) := by decide +kernel
theorem dX4_begin_84 : decode cX4_begin 84 = .ok (.istore 4, 2) := by decide +kernel
theorem dX4_begin_86 : decode cX4_begin 86 = .ok (.iload 4, 2) := by decide +kernel
theorem dX4_begin_88 : decode cX4_begin 88 = .ok (.aload_n 0, 1) := by decide +kernel
theorem dX4_begin_89 : decode cX4_begin 89 = .ok (.getfield 40, 3) := by decide +kernel
theorem dX4_begin_92 : decode cX4_begin 92 = .ok (.if_icmp .ge 21, 3) := by decide +kernel
theorem dX4_begin_95 : decode cX4_begin 95 = .ok (.aload_n 0, 1) := by decide +kernel
theorem dX4_begin_96 : decode cX4_begin 96 = .ok (.bipush 14, 2) := by decide +kernel
theorem dX4_begin_98 : decode cX4_begin 98 = .ok (.iload 4, 2) := by decide +kernel
theorem dX4_begin_100 : decode cX4_begin 100 = .ok (.imul, 1) := by decide +kernel
theorem dX4_begin_101 : decode cX4_begin 101 = .ok (.iload_n 2, 1) := by decide +kernel
theorem dX4_begin_102 : decode cX4_begin 102 = .ok (.iload_n 1, 1) := by decide +kernel
theorem dX4_begin_103 : decode cX4_begin 103 = .ok (.iload_n 3, 1) := by decide +kernel
theorem dX4_begin_104 : decode cX4_begin 104 = .ok (.invokevirtual 83, 3) := by decide +kernel
theorem dX4_begin_107 : decode cX4_begin 107 = .ok (.iinc 4 1, 3) := by decide +kernel
theorem dX4_begin_110 : decode cX4_begin 110 = .ok (.goto (-24), 3) := by decide +kernel
theorem dX4_begin_113 : decode cX4_begin 113 = .ok (.iinc 2 1, 3) := by decide +kernel
theorem dX4_begin_116 : decode cX4_begin 116 = .ok (.goto (-65), 3) := by decide +kernel
theorem dX4_begin_119 : decode cX4_begin 119 = .ok (.iinc 1 1, 3) := by decide +kernel
theorem dX4_begin_122 : decode cX4_begin 122 = .ok (.goto (-81), 3) := by decide +kernel
theorem dX4_begin_125 : decode cX4_begin 125 = .ok (.aload_n 0, 1) := by decide +kernel
theorem dX4_begin_126 : decode cX4_begin 126 = .ok (.invokevirtual 87, 3) := by decide +kernel
theorem dX4_begin_129 : decode cX4_begin 129 = .ok (.ireturn, 1) := by decide +kernel
theorem dX4_tile_0 : decode cX4_tile 0 = .ok (.aload_n 0, 1) := by decide +kernel
theorem dX4_tile_1 : decode cX4_tile 1 = .ok (.iconst 0, 1) := by decide +kernel
theorem dX4_tile_2 : decode cX4_tile 2 = .ok (.putfield 30, 3) := by decide +kernel
theorem dX4_tile_5 : decode cX4_tile 5 = .ok (.aload_n 0, 1) := by decide +kernel
theorem dX4_tile_6 : decode cX4_tile 6 = .ok (.getfield 76, 3) := by decide +kernel
theorem dX4_tile_9 : decode cX4_tile 9 = .ok (.ifCond .eq 24, 3) := by decide +kernel
theorem dX4_tile_12 : decode cX4_tile 12 = .ok (.iload_n 1, 1) := by decide +kernel
theorem dX4_tile_13 : decode cX4_tile 13 = .ok (.ifCond .lt 20, 3) := by decide +kernel
theorem dX4_tile_16 : decode cX4_tile 16 = .ok (.iload_n 1, 1) := by decide +kernel
theorem dX4_tile_17 : decode cX4_tile 17 = .ok (.aload_n 0, 1) := by decide +kernel
theorem dX4_tile_18 : decode cX4_tile 18 = .ok (.invokevirtual 87, 3) := by decide +kernel
theorem dX4_tile_21 : decode cX4_tile 21 = .ok (.if_icmp .ge 12, 3) := by decide +kernel
theorem dX4_tile_24 : decode cX4_tile 24 = .ok (.aload_n 0, 1) := by decide +kernel
theorem dX4_tile_25 : decode cX4_tile 25 = .ok (.getfield 19, 3) := by decide +kernel
theorem dX4_tile_28 : decode cX4_tile 28 = .ok (.iload_n 1, 1) := by decide +kernel
theorem dX4_tile_29 : decode cX4_tile 29 = .ok (.baload, 1) := by decide +kernel
theorem dX4_tile_30 : decode cX4_tile 30 = .ok (.ifCond .eq 5, 3) := by decide +kernel
theorem dX4_tile_33 : decode cX4_tile 33 = .ok (.iconst 0, 1) := by decide +kernel
theorem dX4_tile_34 : decode cX4_tile 34 = .ok (.ireturn, 1) := by decide +kernel
theorem dX4_tile_35 : decode cX4_tile 35 = .ok (.aload_n 0, 1) := by decide +kernel
theorem dX4_tile_36 : decode cX4_tile 36 = .ok (.getfield 19, 3) := by decide +kernel
theorem dX4_tile_39 : decode cX4_tile 39 = .ok (.iload_n 1, 1) := by decide +kernel
theorem dX4_tile_40 : decode cX4_tile 40 = .ok (.iconst 1, 1) := by decide +kernel
theorem dX4_tile_41 : decode cX4_tile 41 = .ok (.bastore, 1) := by decide +kernel
theorem dX4_tile_42 : decode cX4_tile 42 = .ok (.iconst 1, 1) := by decide +kernel
theorem dX4_tile_43 : decode cX4_tile 43 = .ok (.ireturn, 1) := by decide +kernel
theorem dX4_isSeen_0 : decode cX4_isSeen 0 = .ok (.aload_n 0, 1) := by decide +kernel
theorem dX4_isSeen_1 : decode cX4_isSeen 1 = .ok (.getfield 76, 3) := by decide +kernel
theorem dX4_isSeen_4 : decode cX4_isSeen 4 = .ok (.ifCond .eq 53, 3) := by decide +kernel
theorem dX4_isSeen_7 : decode cX4_isSeen 7 = .ok (.iload_n 1, 1) := by decide +kernel
theorem dX4_isSeen_8 : decode cX4_isSeen 8 = .ok (.ifCond .lt 49, 3) := by decide +kernel
theorem dX4_isSeen_11 : decode cX4_isSeen 11 = .ok (.iload_n 1, 1) := by decide +kernel
theorem dX4_isSeen_12 : decode cX4_isSeen 12 = .ok (.aload_n 0, 1) := by decide +kernel
theorem dX4_isSeen_13 : decode cX4_isSeen 13 = .ok (.getfield 23, 3) := by decide +kernel
theorem dX4_isSeen_16 : decode cX4_isSeen 16 = .ok (.if_icmp .ge 41, 3) := by decide +kernel
theorem dX4_isSeen_19 : decode cX4_isSeen 19 = .ok (.iload_n 2, 1) := by decide +kernel
theorem dX4_isSeen_20 : decode cX4_isSeen 20 = .ok (.ifCond .lt 37, 3) := by decide +kernel
theorem dX4_isSeen_23 : decode cX4_isSeen 23 = .ok (.iload_n 2, 1) := by decide +kernel
theorem dX4_isSeen_24 : decode cX4_isSeen 24 = .ok (.aload_n 0, 1) := by decide +kernel
theorem dX4_isSeen_25 : decode cX4_isSeen 25 = .ok (.getfield 27, 3) := by decide +kernel
theorem dX4_isSeen_28 : decode cX4_isSeen 28 = .ok (.if_icmp .ge 29, 3) := by decide +kernel
theorem dX4_isSeen_31 : decode cX4_isSeen 31 = .ok (.aload_n 0, 1) := by decide +kernel
theorem dX4_isSeen_32 : decode cX4_isSeen 32 = .ok (.getfield 19, 3) := by decide +kernel
theorem dX4_isSeen_35 : decode cX4_isSeen 35 = .ok (.iload_n 2, 1) := by decide +kernel
theorem dX4_isSeen_36 : decode cX4_isSeen 36 = .ok (.bipush 8, 2) := by decide +kernel
theorem dX4_isSeen_38 : decode cX4_isSeen 38 = .ok (.idiv, 1) := by decide +kernel
theorem dX4_isSeen_39 : decode cX4_isSeen 39 = .ok (.aload_n 0, 1) := by decide +kernel
theorem dX4_isSeen_40 : decode cX4_isSeen 40 = .ok (.invokevirtual 72, 3) := by decide +kernel
theorem dX4_isSeen_43 : decode cX4_isSeen 43 = .ok (.imul, 1) := by decide +kernel
theorem dX4_isSeen_44 : decode cX4_isSeen 44 = .ok (.iload_n 1, 1) := by decide +kernel
theorem dX4_isSeen_45 : decode cX4_isSeen 45 = .ok (.bipush 8, 2) := by decide +kernel
theorem dX4_isSeen_47 : decode cX4_isSeen 47 = .ok (.idiv, 1) := by decide +kernel
theorem dX4_isSeen_48 : decode cX4_isSeen 48 = .ok (.iadd, 1) := by decide +kernel
theorem dX4_isSeen_49 : decode cX4_isSeen 49 = .ok (.baload, 1) := by decide +kernel
theorem dX4_isSeen_50 : decode cX4_isSeen 50 = .ok (.ifCond .eq 7, 3) := by decide +kernel
theorem dX4_isSeen_53 : decode cX4_isSeen 53 = .ok (.iconst 1, 1) := by decide +kernel
theorem dX4_isSeen_54 : decode cX4_isSeen 54 = .ok (.goto 4, 3) := by decide +kernel
theorem dX4_isSeen_57 : decode cX4_isSeen 57 = .ok (.iconst 0, 1) := by decide +kernel
theorem dX4_isSeen_58 : decode cX4_isSeen 58 = .ok (.ireturn, 1) := by decide +kernel
theorem dX4_pixel_0 : decode cX4_pixel 0 = .ok (.aload_n 0, 1) := by decide +kernel
theorem dX4_pixel_1 : decode cX4_pixel 1 = .ok (.iconst 0, 1) := by decide +kernel
theorem dX4_pixel_2 : decode cX4_pixel 2 = .ok (.putfield 30, 3) := by decide +kernel
theorem dX4_pixel_5 : decode cX4_pixel 5 = .ok (.aload_n 0, 1) := by decide +kernel
theorem dX4_pixel_6 : decode cX4_pixel 6 = .ok (.iload_n 1, 1) := by decide +kernel
theorem dX4_pixel_7 : decode cX4_pixel 7 = .ok (.iload_n 2, 1) := by decide +kernel
theorem dX4_pixel_8 : decode cX4_pixel 8 = .ok (.invokevirtual 90, 3) := by decide +kernel
theorem dX4_pixel_11 : decode cX4_pixel 11 = .ok (.ifCond .eq 17, 3) := by decide +kernel
theorem dX4_pixel_14 : decode cX4_pixel 14 = .ok (.aload_n 0, 1) := by decide +kernel
theorem dX4_pixel_15 : decode cX4_pixel 15 = .ok (.getfield 13, 3) := by decide +kernel
theorem dX4_pixel_18 : decode cX4_pixel 18 = .ok (.bipush 48, 2) := by decide +kernel
theorem dX4_pixel_20 : decode cX4_pixel 20 = .ok (.iload_n 2, 1) := by decide +kernel
theorem dX4_pixel_21 : decode cX4_pixel 21 = .ok (.imul, 1) := by decide +kernel
theorem dX4_pixel_22 : decode cX4_pixel 22 = .ok (.iload_n 1, 1) := by decide +kernel
theorem dX4_pixel_23 : decode cX4_pixel 23 = .ok (.iadd, 1) := by decide +kernel
theorem dX4_pixel_24 : decode cX4_pixel 24 = .ok (.iaload, 1) := by decide +kernel
theorem dX4_pixel_25 : decode cX4_pixel 25 = .ok (.goto 4, 3) := by decide +kernel
theorem dX4_pixel_28 : decode cX4_pixel 28 = .ok (.iconst (-1), 1) := by decide +kernel
theorem dX4_pixel_29 : decode cX4_pixel 29 = .ok (.ireturn, 1) := by decide +kernel
theorem dX4_nearness_0 : decode cX4_nearness 0 = .ok (.aload_n 0, 1) := by decide +kernel
theorem dX4_nearness_1 : decode cX4_nearness 1 = .ok (.iconst 0, 1) := by decide +kernel
theorem dX4_nearness_2 : decode cX4_nearness 2 = .ok (.putfield 30, 3) := by decide +kernel
theorem dX4_nearness_5 : decode cX4_nearness 5 = .ok (.aload_n 0, 1) := by decide +kernel
theorem dX4_nearness_6 : decode cX4_nearness 6 = .ok (.iload_n 1, 1) := by decide +kernel
theorem dX4_nearness_7 : decode cX4_nearness 7 = .ok (.iload_n 2, 1) := by decide +kernel
theorem dX4_nearness_8 : decode cX4_nearness 8 = .ok (.invokevirtual 90, 3) := by decide +kernel
theorem dX4_nearness_11 : decode cX4_nearness 11 = .ok (.ifCond .eq 17, 3) := by decide +kernel
theorem dX4_nearness_14 : decode cX4_nearness 14 = .ok (.aload_n 0, 1) := by decide +kernel
theorem dX4_nearness_15 : decode cX4_nearness 15 = .ok (.getfield 16, 3) := by decide +kernel
theorem dX4_nearness_18 : decode cX4_nearness 18 = .ok (.bipush 48, 2) := by decide +kernel
theorem dX4_nearness_20 : decode cX4_nearness 20 = .ok (.iload_n 2, 1) := by decide +kernel
theorem dX4_nearness_21 : decode cX4_nearness 21 = .ok (.imul, 1) := by decide +kernel
theorem dX4_nearness_22 : decode cX4_nearness 22 = .ok (.iload_n 1, 1) := by decide +kernel
theorem dX4_nearness_23 : decode cX4_nearness 23 = .ok (.iadd, 1) := by decide +kernel
theorem dX4_nearness_24 : decode cX4_nearness 24 = .ok (.iaload, 1) := by decide +kernel
theorem dX4_nearness_25 : decode cX4_nearness 25 = .ok (.goto 4, 3) := by decide +kernel
theorem dX4_nearness_28 : decode cX4_nearness 28 = .ok (.iconst (-1), 1) := by decide +kernel
theorem dX4_nearness_29 : decode cX4_nearness 29 = .ok (.ireturn, 1) := by decide +kernel
theorem dX4_count_0 : decode cX4_count 0 = .ok (.aload_n 0, 1) := by decide +kernel
theorem dX4_count_1 : decode cX4_count 1 = .ok (.iconst 0, 1) := by decide +kernel
theorem dX4_count_2 : decode cX4_count 2 = .ok (.putfield 30, 3) := by decide +kernel
theorem dX4_count_5 : decode cX4_count 5 = .ok (.iconst 0, 1) := by decide +kernel
theorem dX4_count_6 : decode cX4_count 6 = .ok (.istore_n 2, 1) := by decide +kernel
theorem dX4_count_7 : decode cX4_count 7 = .ok (.iconst 0, 1) := by decide +kernel
theorem dX4_count_8 : decode cX4_count 8 = .ok (.istore_n 3, 1) := by decide +kernel
theorem dX4_count_9 : decode cX4_count 9 = .ok (.iload_n 3, 1) := by decide +kernel
theorem dX4_count_10 : decode cX4_count 10 = .ok (.bipush 36, 2) := by decide +kernel
theorem dX4_count_12 : decode cX4_count 12 = .ok (.if_icmp .ge 26, 3) := by decide +kernel
theorem dX4_count_15 : decode cX4_count 15 = .ok (.iload_n 2, 1) := by decide +kernel
theorem dX4_count_16 : decode cX4_count 16 = .ok (.aload_n 0, 1) := by decide +kernel
theorem dX4_count_17 : decode cX4_count 17 = .ok (.getfield 19, 3) := by decide +kernel
theorem dX4_count_20 : decode cX4_count 20 = .ok (.iload_n 3, 1) := by decide +kernel
theorem dX4_count_21 : decode cX4_count 21 = .ok (.baload, 1) := by decide +kernel
theorem dX4_count_22 : decode cX4_count 22 = .ok (.ifCond .eq 7, 3) := by decide +kernel
theorem dX4_count_25 : decode cX4_count 25 = .ok (.iconst 1, 1) := by decide +kernel
theorem dX4_count_26 : decode cX4_count 26 = .ok (.goto 4, 3) := by decide +kernel
theorem dX4_count_29 : decode cX4_count 29 = .ok (.iconst 0, 1) := by decide +kernel
theorem dX4_count_30 : decode cX4_count 30 = .ok (.iadd, 1) := by decide +kernel
theorem dX4_count_31 : decode cX4_count 31 = .ok (.istore_n 2, 1) := by decide +kernel
theorem dX4_count_32 : decode cX4_count 32 = .ok (.iinc 3 1, 3) := by decide +kernel
theorem dX4_count_35 : decode cX4_count 35 = .ok (.goto (-26), 3) := by decide +kernel
theorem dX4_count_38 : decode cX4_count 38 = .ok (.iload_n 1, 1) := by decide +kernel
theorem dX4_count_39 : decode cX4_count 39 = .ok (.tableswitch 55 0 4 #[33, 38, 43, 45, 50], 33) := by decide +kernel
theorem dX4_count_72 : decode cX4_count 72 = .ok (.aload_n 0, 1) := by decide +kernel
theorem dX4_count_73 : decode cX4_count 73 = .ok (.getfield 40, 3) := by decide +kernel
theorem dX4_count_76 : decode cX4_count 76 = .ok (.ireturn, 1) := by decide +kernel
theorem dX4_count_77 : decode cX4_count 77 = .ok (.aload_n 0, 1) := by decide +kernel
theorem dX4_count_78 : decode cX4_count 78 = .ok (.getfield 80, 3) := by decide +kernel
theorem dX4_count_81 : decode cX4_count 81 = .ok (.ireturn, 1) := by decide +kernel
theorem dX4_count_82 : decode cX4_count 82 = .ok (.iload_n 2, 1) := by decide +kernel
theorem dX4_count_83 : decode cX4_count 83 = .ok (.ireturn, 1) := by decide +kernel
theorem dX4_count_84 : decode cX4_count 84 = .ok (.aload_n 0, 1) := by decide +kernel
theorem dX4_count_85 : decode cX4_count 85 = .ok (.getfield 23, 3) := by decide +kernel
theorem dX4_count_88 : decode cX4_count 88 = .ok (.ireturn, 1) := by decide +kernel
theorem dX4_count_89 : decode cX4_count 89 = .ok (.aload_n 0, 1) := by decide +kernel
theorem dX4_count_90 : decode cX4_count 90 = .ok (.getfield 27, 3) := by decide +kernel
theorem dX4_count_93 : decode cX4_count 93 = .ok (.ireturn, 1) := by decide +kernel
theorem dX4_count_94 : decode cX4_count 94 = .ok (.iconst (-1), 1) := by decide +kernel
theorem dX4_count_95 : decode cX4_count 95 = .ok (.ireturn, 1) := by decide +kernel
end
section
theorem dL_cell_0 : decode cL_cell 0 = .ok (.iload_n 1, 1) := by decide +kernel
theorem dL_cell_1 : decode cL_cell 1 = .ok (.aload_n 0, 1) := by decide +kernel
theorem dL_cell_2 : decode cL_cell 2 = .ok (.arraylength, 1) := by decide +kernel
theorem dL_cell_3 : decode cL_cell 3 = .ok (.if_icmp .ge 9, 3) := by decide +kernel
theorem dL_cell_6 : decode cL_cell 6 = .ok (.aload_n 0, 1) := by decide +kernel
theorem dL_cell_7 : decode cL_cell 7 = .ok (.iload_n 1, 1) := by decide +kernel
theorem dL_cell_8 : decode cL_cell 8 = .ok (.iaload, 1) := by decide +kernel
theorem dL_cell_9 : decode cL_cell 9 = .ok (.goto 4, 3) := by decide +kernel
theorem dL_cell_12 : decode cL_cell 12 = .ok (.iconst 0, 1) := by decide +kernel
theorem dL_cell_13 : decode cL_cell 13 = .ok (.ireturn, 1) := by decide +kernel
theorem dL_law_0 : decode cL_law 0 = .ok (.new 7, 3) := by decide +kernel
theorem dL_law_3 : decode cL_law 3 = .ok (.dup, 1) := by decide +kernel
theorem dL_law_4 : decode cL_law 4 = .ok (.aload_n 0, 1) := by decide +kernel
theorem dL_law_5 : decode cL_law 5 = .ok (.iconst 0, 1) := by decide +kernel
theorem dL_law_6 : decode cL_law 6 = .ok (.invokestatic 9, 3) := by decide +kernel
theorem dL_law_9 : decode cL_law 9 = .ok (.aload_n 0, 1) := by decide +kernel
theorem dL_law_10 : decode cL_law 10 = .ok (.iconst 1, 1) := by decide +kernel
theorem dL_law_11 : decode cL_law 11 = .ok (.invokestatic 9, 3) := by decide +kernel
theorem dL_law_14 : decode cL_law 14 = .ok (.invokespecial 15, 3) := by decide +kernel
theorem dL_law_17 : decode cL_law 17 = .ok (.astore_n 1, 1) := by decide +kernel
theorem dL_law_18 : decode cL_law 18 = .ok (.new 18, 3) := by decide +kernel
theorem dL_law_21 : decode cL_law 21 = .ok (.dup, 1) := by decide +kernel
theorem dL_law_22 : decode cL_law 22 = .ok (.aload_n 0, 1) := by decide +kernel
theorem dL_law_23 : decode cL_law 23 = .ok (.iconst 0, 1) := by decide +kernel
theorem dL_law_24 : decode cL_law 24 = .ok (.invokestatic 9, 3) := by decide +kernel
theorem dL_law_27 : decode cL_law 27 = .ok (.aload_n 0, 1) := by decide +kernel
theorem dL_law_28 : decode cL_law 28 = .ok (.iconst 1, 1) := by decide +kernel
theorem dL_law_29 : decode cL_law 29 = .ok (.invokestatic 9, 3) := by decide +kernel
theorem dL_law_32 : decode cL_law 32 = .ok (.invokespecial 20, 3) := by decide +kernel
theorem dL_law_35 : decode cL_law 35 = .ok (.astore_n 2, 1) := by decide +kernel
theorem dL_law_36 : decode cL_law 36 = .ok (.iconst 2, 1) := by decide +kernel
theorem dL_law_37 : decode cL_law 37 = .ok (.istore_n 3, 1) := by decide +kernel
theorem dL_law_38 : decode cL_law 38 = .ok (.iload_n 3, 1) := by decide +kernel
theorem dL_law_39 : decode cL_law 39 = .ok (.aload_n 0, 1) := by decide +kernel
theorem dL_law_40 : decode cL_law 40 = .ok (.arraylength, 1) := by decide +kernel
theorem dL_law_41 : decode cL_law 41 = .ok (.bipush 6, 2) := by decide +kernel
theorem dL_law_43 : decode cL_law 43 = .ok (.isub, 1) := by decide +kernel
theorem dL_law_44 : decode cL_law 44 = .ok (.if_icmp .gt 321, 3) := by decide +kernel
theorem dL_law_47 : decode cL_law 47 = .ok (.aload_n 0, 1) := by decide +kernel
theorem dL_law_48 : decode cL_law 48 = .ok (.iload_n 3, 1) := by decide +kernel
theorem dL_law_49 : decode cL_law 49 = .ok (.iaload, 1) := by decide +kernel
theorem dL_law_50 : decode cL_law 50 = .ok (.bipush 15, 2) := by decide +kernel
theorem dL_law_52 : decode cL_law 52 = .ok (.iand, 1) := by decide +kernel
theorem dL_law_53 : decode cL_law 53 = .ok (.tableswitch 306 0 8 #[51, 114, 147, 158, 181, 194, 217, 250, 283], 51) := by decide +kernel
theorem dL_law_104 : decode cL_law 104 = .ok (.aload_n 1, 1) := by decide +kernel
theorem dL_law_105 : decode cL_law 105 = .ok (.aload_n 0, 1) := by decide +kernel
theorem dL_law_106 : decode cL_law 106 = .ok (.iload_n 3, 1) := by decide +kernel
theorem dL_law_107 : decode cL_law 107 = .ok (.iconst 1, 1) := by decide +kernel
theorem dL_law_108 : decode cL_law 108 = .ok (.iadd, 1) := by decide +kernel
theorem dL_law_109 : decode cL_law 109 = .ok (.iaload, 1) := by decide +kernel
theorem dL_law_110 : decode cL_law 110 = .ok (.aload_n 0, 1) := by decide +kernel
theorem dL_law_111 : decode cL_law 111 = .ok (.iload_n 3, 1) := by decide +kernel
theorem dL_law_112 : decode cL_law 112 = .ok (.iconst 2, 1) := by decide +kernel
theorem dL_law_113 : decode cL_law 113 = .ok (.iadd, 1) := by decide +kernel
theorem dL_law_114 : decode cL_law 114 = .ok (.iaload, 1) := by decide +kernel
theorem dL_law_115 : decode cL_law 115 = .ok (.aload_n 0, 1) := by decide +kernel
theorem dL_law_116 : decode cL_law 116 = .ok (.iload_n 3, 1) := by decide +kernel
theorem dL_law_117 : decode cL_law 117 = .ok (.iconst 3, 1) := by decide +kernel
theorem dL_law_118 : decode cL_law 118 = .ok (.iadd, 1) := by decide +kernel
theorem dL_law_119 : decode cL_law 119 = .ok (.iaload, 1) := by decide +kernel
theorem dL_law_120 : decode cL_law 120 = .ok (.aload_n 0, 1) := by decide +kernel
theorem dL_law_121 : decode cL_law 121 = .ok (.iload_n 3, 1) := by decide +kernel
theorem dL_law_122 : decode cL_law 122 = .ok (.iconst 4, 1) := by decide +kernel
theorem dL_law_123 : decode cL_law 123 = .ok (.iadd, 1) := by decide +kernel
theorem dL_law_124 : decode cL_law 124 = .ok (.iaload, 1) := by decide +kernel
theorem dL_law_125 : decode cL_law 125 = .ok (.aload_n 0, 1) := by decide +kernel
theorem dL_law_126 : decode cL_law 126 = .ok (.iload_n 3, 1) := by decide +kernel
theorem dL_law_127 : decode cL_law 127 = .ok (.iconst 5, 1) := by decide +kernel
theorem dL_law_128 : decode cL_law 128 = .ok (.iadd, 1) := by decide +kernel
theorem dL_law_129 : decode cL_law 129 = .ok (.iaload, 1) := by decide +kernel
theorem dL_law_130 : decode cL_law 130 = .ok (.invokevirtual 21, 3) := by decide +kernel
theorem dL_law_133 : decode cL_law 133 = .ok (.aload_n 2, 1) := by decide +kernel
theorem dL_law_134 : decode cL_law 134 = .ok (.aload_n 0, 1) := by decide +kernel
theorem dL_law_135 : decode cL_law 135 = .ok (.iload_n 3, 1) := by decide +kernel
theorem dL_law_136 : decode cL_law 136 = .ok (.iconst 1, 1) := by decide +kernel
theorem dL_law_137 : decode cL_law 137 = .ok (.iadd, 1) := by decide +kernel
theorem dL_law_138 : decode cL_law 138 = .ok (.iaload, 1) := by decide +kernel
theorem dL_law_139 : decode cL_law 139 = .ok (.aload_n 0, 1) := by decide +kernel
theorem dL_law_140 : decode cL_law 140 = .ok (.iload_n 3, 1) := by decide +kernel
theorem dL_law_141 : decode cL_law 141 = .ok (.iconst 2, 1) := by decide +kernel
theorem dL_law_142 : decode cL_law 142 = .ok (.iadd, 1) := by decide +kernel
theorem dL_law_143 : decode cL_law 143 = .ok (.iaload, 1) := by decide +kernel
theorem dL_law_144 : decode cL_law 144 = .ok (.aload_n 0, 1) := by decide +kernel
theorem dL_law_145 : decode cL_law 145 = .ok (.iload_n 3, 1) := by decide +kernel
theorem dL_law_146 : decode cL_law 146 = .ok (.iconst 3, 1) := by decide +kernel
theorem dL_law_147 : decode cL_law 147 = .ok (.iadd, 1) := by decide +kernel
theorem dL_law_148 : decode cL_law 148 = .ok (.iaload, 1) := by decide +kernel
theorem dL_law_149 : decode cL_law 149 = .ok (.aload_n 0, 1) := by decide +kernel
theorem dL_law_150 : decode cL_law 150 = .ok (.iload_n 3, 1) := by decide +kernel
theorem dL_law_151 : decode cL_law 151 = .ok (.iconst 4, 1) := by decide +kernel
theorem dL_law_152 : decode cL_law 152 = .ok (.iadd, 1) := by decide +kernel
theorem dL_law_153 : decode cL_law 153 = .ok (.iaload, 1) := by decide +kernel
theorem dL_law_154 : decode cL_law 154 = .ok (.aload_n 0, 1) := by decide +kernel
theorem dL_law_155 : decode cL_law 155 = .ok (.iload_n 3, 1) := by decide +kernel
theorem dL_law_156 : decode cL_law 156 = .ok (.iconst 5, 1) := by decide +kernel
theorem dL_law_157 : decode cL_law 157 = .ok (.iadd, 1) := by decide +kernel
theorem dL_law_158 : decode cL_law 158 = .ok (.iaload, 1) := by decide +kernel
theorem dL_law_159 : decode cL_law 159 = .ok (.invokevirtual 25, 3) := by decide +kernel
theorem dL_law_162 : decode cL_law 162 = .ok (.if_icmp .eq 197, 3) := by decide +kernel
theorem dL_law_165 : decode cL_law 165 = .ok (.iconst 0, 1) := by decide +kernel
theorem dL_law_166 : decode cL_law 166 = .ok (.ireturn, 1) := by decide +kernel
theorem dL_law_167 : decode cL_law 167 = .ok (.aload_n 1, 1) := by decide +kernel
theorem dL_law_168 : decode cL_law 168 = .ok (.aload_n 0, 1) := by decide +kernel
theorem dL_law_169 : decode cL_law 169 = .ok (.iload_n 3, 1) := by decide +kernel
theorem dL_law_170 : decode cL_law 170 = .ok (.iconst 1, 1) := by decide +kernel
theorem dL_law_171 : decode cL_law 171 = .ok (.iadd, 1) := by decide +kernel
theorem dL_law_172 : decode cL_law 172 = .ok (.iaload, 1) := by decide +kernel
theorem dL_law_173 : decode cL_law 173 = .ok (.aload_n 0, 1) := by decide +kernel
theorem dL_law_174 : decode cL_law 174 = .ok (.iload_n 3, 1) := by decide +kernel
theorem dL_law_175 : decode cL_law 175 = .ok (.iconst 2, 1) := by decide +kernel
theorem dL_law_176 : decode cL_law 176 = .ok (.iadd, 1) := by decide +kernel
theorem dL_law_177 : decode cL_law 177 = .ok (.iaload, 1) := by decide +kernel
theorem dL_law_178 : decode cL_law 178 = .ok (.invokevirtual 26, 3) := by decide +kernel
theorem dL_law_181 : decode cL_law 181 = .ok (.aload_n 2, 1) := by decide +kernel
theorem dL_law_182 : decode cL_law 182 = .ok (.aload_n 0, 1) := by decide +kernel
theorem dL_law_183 : decode cL_law 183 = .ok (.iload_n 3, 1) := by decide +kernel
theorem dL_law_184 : decode cL_law 184 = .ok (.iconst 1, 1) := by decide +kernel
theorem dL_law_185 : decode cL_law 185 = .ok (.iadd, 1) := by decide +kernel
theorem dL_law_186 : decode cL_law 186 = .ok (.iaload, 1) := by decide +kernel
theorem dL_law_187 : decode cL_law 187 = .ok (.aload_n 0, 1) := by decide +kernel
theorem dL_law_188 : decode cL_law 188 = .ok (.iload_n 3, 1) := by decide +kernel
theorem dL_law_189 : decode cL_law 189 = .ok (.iconst 2, 1) := by decide +kernel
theorem dL_law_190 : decode cL_law 190 = .ok (.iadd, 1) := by decide +kernel
theorem dL_law_191 : decode cL_law 191 = .ok (.iaload, 1) := by decide +kernel
theorem dL_law_192 : decode cL_law 192 = .ok (.invokevirtual 30, 3) := by decide +kernel
theorem dL_law_195 : decode cL_law 195 = .ok (.if_icmp .eq 164, 3) := by decide +kernel
theorem dL_law_198 : decode cL_law 198 = .ok (.iconst 0, 1) := by decide +kernel
theorem dL_law_199 : decode cL_law 199 = .ok (.ireturn, 1) := by decide +kernel
theorem dL_law_200 : decode cL_law 200 = .ok (.aload_n 1, 1) := by decide +kernel
theorem dL_law_201 : decode cL_law 201 = .ok (.invokevirtual 31, 3) := by decide +kernel
theorem dL_law_204 : decode cL_law 204 = .ok (.aload_n 2, 1) := by decide +kernel
theorem dL_law_205 : decode cL_law 205 = .ok (.invokevirtual 34, 3) := by decide +kernel
theorem dL_law_208 : decode cL_law 208 = .ok (.goto 151, 3) := by decide +kernel
theorem dL_law_211 : decode cL_law 211 = .ok (.aload_n 1, 1) := by decide +kernel
theorem dL_law_212 : decode cL_law 212 = .ok (.aload_n 0, 1) := by decide +kernel
theorem dL_law_213 : decode cL_law 213 = .ok (.iload_n 3, 1) := by decide +kernel
theorem dL_law_214 : decode cL_law 214 = .ok (.iconst 1, 1) := by decide +kernel
theorem dL_law_215 : decode cL_law 215 = .ok (.iadd, 1) := by decide +kernel
theorem dL_law_216 : decode cL_law 216 = .ok (.iaload, 1) := by decide +kernel
theorem dL_law_217 : decode cL_law 217 = .ok (.invokevirtual 35, 3) := by decide +kernel
theorem dL_law_220 : decode cL_law 220 = .ok (.aload_n 2, 1) := by decide +kernel
theorem dL_law_221 : decode cL_law 221 = .ok (.aload_n 0, 1) := by decide +kernel
theorem dL_law_222 : decode cL_law 222 = .ok (.iload_n 3, 1) := by decide +kernel
theorem dL_law_223 : decode cL_law 223 = .ok (.iconst 1, 1) := by decide +kernel
theorem dL_law_224 : decode cL_law 224 = .ok (.iadd, 1) := by decide +kernel
theorem dL_law_225 : decode cL_law 225 = .ok (.iaload, 1) := by decide +kernel
theorem dL_law_226 : decode cL_law 226 = .ok (.invokevirtual 39, 3) := by decide +kernel
theorem dL_law_229 : decode cL_law 229 = .ok (.if_icmp .eq 130, 3) := by decide +kernel
theorem dL_law_232 : decode cL_law 232 = .ok (.iconst 0, 1) := by decide +kernel
theorem dL_law_233 : decode cL_law 233 = .ok (.ireturn, 1) := by decide +kernel
theorem dL_law_234 : decode cL_law 234 = .ok (.aload_n 1, 1) := by decide +kernel
theorem dL_law_235 : decode cL_law 235 = .ok (.invokevirtual 40, 3) := by decide +kernel
theorem dL_law_238 : decode cL_law 238 = .ok (.aload_n 2, 1) := by decide +kernel
theorem dL_law_239 : decode cL_law 239 = .ok (.invokevirtual 44, 3) := by decide +kernel
theorem dL_law_242 : decode cL_law 242 = .ok (.if_icmp .eq 117, 3) := by decide +kernel
theorem dL_law_245 : decode cL_law 245 = .ok (.iconst 0, 1) := by decide +kernel
theorem dL_law_246 : decode cL_law 246 = .ok (.ireturn, 1) := by decide +kernel
theorem dL_law_247 : decode cL_law 247 = .ok (.aload_n 1, 1) := by decide +kernel
theorem dL_law_248 : decode cL_law 248 = .ok (.aload_n 0, 1) := by decide +kernel
theorem dL_law_249 : decode cL_law 249 = .ok (.iload_n 3, 1) := by decide +kernel
theorem dL_law_250 : decode cL_law 250 = .ok (.iconst 1, 1) := by decide +kernel
theorem dL_law_251 : decode cL_law 251 = .ok (.iadd, 1) := by decide +kernel
theorem dL_law_252 : decode cL_law 252 = .ok (.iaload, 1) := by decide +kernel
theorem dL_law_253 : decode cL_law 253 = .ok (.invokevirtual 45, 3) := by decide +kernel
theorem dL_law_256 : decode cL_law 256 = .ok (.aload_n 2, 1) := by decide +kernel
theorem dL_law_257 : decode cL_law 257 = .ok (.aload_n 0, 1) := by decide +kernel
theorem dL_law_258 : decode cL_law 258 = .ok (.iload_n 3, 1) := by decide +kernel
theorem dL_law_259 : decode cL_law 259 = .ok (.iconst 1, 1) := by decide +kernel
theorem dL_law_260 : decode cL_law 260 = .ok (.iadd, 1) := by decide +kernel
theorem dL_law_261 : decode cL_law 261 = .ok (.iaload, 1) := by decide +kernel
theorem dL_law_262 : decode cL_law 262 = .ok (.invokevirtual 48, 3) := by decide +kernel
theorem dL_law_265 : decode cL_law 265 = .ok (.if_icmp .eq 94, 3) := by decide +kernel
theorem dL_law_268 : decode cL_law 268 = .ok (.iconst 0, 1) := by decide +kernel
theorem dL_law_269 : decode cL_law 269 = .ok (.ireturn, 1) := by decide +kernel
theorem dL_law_270 : decode cL_law 270 = .ok (.aload_n 1, 1) := by decide +kernel
theorem dL_law_271 : decode cL_law 271 = .ok (.aload_n 0, 1) := by decide +kernel
theorem dL_law_272 : decode cL_law 272 = .ok (.iload_n 3, 1) := by decide +kernel
theorem dL_law_273 : decode cL_law 273 = .ok (.iconst 1, 1) := by decide +kernel
theorem dL_law_274 : decode cL_law 274 = .ok (.iadd, 1) := by decide +kernel
theorem dL_law_275 : decode cL_law 275 = .ok (.iaload, 1) := by decide +kernel
theorem dL_law_276 : decode cL_law 276 = .ok (.aload_n 0, 1) := by decide +kernel
theorem dL_law_277 : decode cL_law 277 = .ok (.iload_n 3, 1) := by decide +kernel
theorem dL_law_278 : decode cL_law 278 = .ok (.iconst 2, 1) := by decide +kernel
theorem dL_law_279 : decode cL_law 279 = .ok (.iadd, 1) := by decide +kernel
theorem dL_law_280 : decode cL_law 280 = .ok (.iaload, 1) := by decide +kernel
theorem dL_law_281 : decode cL_law 281 = .ok (.invokevirtual 49, 3) := by decide +kernel
theorem dL_law_284 : decode cL_law 284 = .ok (.aload_n 2, 1) := by decide +kernel
theorem dL_law_285 : decode cL_law 285 = .ok (.aload_n 0, 1) := by decide +kernel
theorem dL_law_286 : decode cL_law 286 = .ok (.iload_n 3, 1) := by decide +kernel
theorem dL_law_287 : decode cL_law 287 = .ok (.iconst 1, 1) := by decide +kernel
theorem dL_law_288 : decode cL_law 288 = .ok (.iadd, 1) := by decide +kernel
theorem dL_law_289 : decode cL_law 289 = .ok (.iaload, 1) := by decide +kernel
theorem dL_law_290 : decode cL_law 290 = .ok (.aload_n 0, 1) := by decide +kernel
theorem dL_law_291 : decode cL_law 291 = .ok (.iload_n 3, 1) := by decide +kernel
theorem dL_law_292 : decode cL_law 292 = .ok (.iconst 2, 1) := by decide +kernel
theorem dL_law_293 : decode cL_law 293 = .ok (.iadd, 1) := by decide +kernel
theorem dL_law_294 : decode cL_law 294 = .ok (.iaload, 1) := by decide +kernel
theorem dL_law_295 : decode cL_law 295 = .ok (.invokevirtual 52, 3) := by decide +kernel
theorem dL_law_298 : decode cL_law 298 = .ok (.if_icmp .eq 61, 3) := by decide +kernel
theorem dL_law_301 : decode cL_law 301 = .ok (.iconst 0, 1) := by decide +kernel
theorem dL_law_302 : decode cL_law 302 = .ok (.ireturn, 1) := by decide +kernel
theorem dL_law_303 : decode cL_law 303 = .ok (.aload_n 1, 1) := by decide +kernel
theorem dL_law_304 : decode cL_law 304 = .ok (.aload_n 0, 1) := by decide +kernel
theorem dL_law_305 : decode cL_law 305 = .ok (.iload_n 3, 1) := by decide +kernel
theorem dL_law_306 : decode cL_law 306 = .ok (.iconst 1, 1) := by decide +kernel
theorem dL_law_307 : decode cL_law 307 = .ok (.iadd, 1) := by decide +kernel
theorem dL_law_308 : decode cL_law 308 = .ok (.iaload, 1) := by decide +kernel
theorem dL_law_309 : decode cL_law 309 = .ok (.aload_n 0, 1) := by decide +kernel
theorem dL_law_310 : decode cL_law 310 = .ok (.iload_n 3, 1) := by decide +kernel
theorem dL_law_311 : decode cL_law 311 = .ok (.iconst 2, 1) := by decide +kernel
theorem dL_law_312 : decode cL_law 312 = .ok (.iadd, 1) := by decide +kernel
theorem dL_law_313 : decode cL_law 313 = .ok (.iaload, 1) := by decide +kernel
theorem dL_law_314 : decode cL_law 314 = .ok (.invokevirtual 53, 3) := by decide +kernel
theorem dL_law_317 : decode cL_law 317 = .ok (.aload_n 2, 1) := by decide +kernel
theorem dL_law_318 : decode cL_law 318 = .ok (.aload_n 0, 1) := by decide +kernel
theorem dL_law_319 : decode cL_law 319 = .ok (.iload_n 3, 1) := by decide +kernel
theorem dL_law_320 : decode cL_law 320 = .ok (.iconst 1, 1) := by decide +kernel
theorem dL_law_321 : decode cL_law 321 = .ok (.iadd, 1) := by decide +kernel
theorem dL_law_322 : decode cL_law 322 = .ok (.iaload, 1) := by decide +kernel
theorem dL_law_323 : decode cL_law 323 = .ok (.aload_n 0, 1) := by decide +kernel
theorem dL_law_324 : decode cL_law 324 = .ok (.iload_n 3, 1) := by decide +kernel
theorem dL_law_325 : decode cL_law 325 = .ok (.iconst 2, 1) := by decide +kernel
theorem dL_law_326 : decode cL_law 326 = .ok (.iadd, 1) := by decide +kernel
theorem dL_law_327 : decode cL_law 327 = .ok (.iaload, 1) := by decide +kernel
theorem dL_law_328 : decode cL_law 328 = .ok (.invokevirtual 56, 3) := by decide +kernel
theorem dL_law_331 : decode cL_law 331 = .ok (.if_icmp .eq 28, 3) := by decide +kernel
theorem dL_law_334 : decode cL_law 334 = .ok (.iconst 0, 1) := by decide +kernel
theorem dL_law_335 : decode cL_law 335 = .ok (.ireturn, 1) := by decide +kernel
theorem dL_law_336 : decode cL_law 336 = .ok (.aload_n 1, 1) := by decide +kernel
theorem dL_law_337 : decode cL_law 337 = .ok (.aload_n 0, 1) := by decide +kernel
theorem dL_law_338 : decode cL_law 338 = .ok (.iload_n 3, 1) := by decide +kernel
theorem dL_law_339 : decode cL_law 339 = .ok (.iconst 1, 1) := by decide +kernel
theorem dL_law_340 : decode cL_law 340 = .ok (.iadd, 1) := by decide +kernel
theorem dL_law_341 : decode cL_law 341 = .ok (.iaload, 1) := by decide +kernel
theorem dL_law_342 : decode cL_law 342 = .ok (.invokevirtual 57, 3) := by decide +kernel
theorem dL_law_345 : decode cL_law 345 = .ok (.aload_n 2, 1) := by decide +kernel
theorem dL_law_346 : decode cL_law 346 = .ok (.aload_n 0, 1) := by decide +kernel
theorem dL_law_347 : decode cL_law 347 = .ok (.iload_n 3, 1) := by decide +kernel
theorem dL_law_348 : decode cL_law 348 = .ok (.iconst 1, 1) := by decide +kernel
theorem dL_law_349 : decode cL_law 349 = .ok (.iadd, 1) := by decide +kernel
theorem dL_law_350 : decode cL_law 350 = .ok (.iaload, 1) := by decide +kernel
theorem dL_law_351 : decode cL_law 351 = .ok (.invokevirtual 61, 3) := by decide +kernel
theorem dL_law_354 : decode cL_law 354 = .ok (.if_icmp .eq 5, 3) := by decide +kernel
theorem dL_law_357 : decode cL_law 357 = .ok (.iconst 0, 1) := by decide +kernel
theorem dL_law_358 : decode cL_law 358 = .ok (.ireturn, 1) := by decide +kernel
theorem dL_law_359 : decode cL_law 359 = .ok (.iinc 3 6, 3) := by decide +kernel
theorem dL_law_362 : decode cL_law 362 = .ok (.goto (-324), 3) := by decide +kernel
theorem dL_law_365 : decode cL_law 365 = .ok (.iconst 1, 1) := by decide +kernel
theorem dL_law_366 : decode cL_law 366 = .ok (.ireturn, 1) := by decide +kernel
end
section
/-! Own rows: loads and stores by a Nat index, calls in one row, returns in one row. -/
section TD
variable {p : Program} {l : Launch} {e : Env} {R : Room} {s : State} {m : MethodId} {args : Array Value} {below : List Frame} {meth : Method} {c : Code} {H H0 : Heap} {locs : List Loc} {cells slots : Nat} {Q : State → Prop} {cc : ByteArray} {pc : Nat} {ls : Array Slot} {rest : List Value} {D : va_G} {cl : List vw_C} {tys : List (ClassId × FieldType)} {ws : va_W} {A : Nat → Prop} {a : Nat}
abbrev td_T (cI cJ cZ : ClassId) : List (ClassId × FieldType) := [(cI, .int), (cJ, .long), (cZ, .boolean)]
/-- a truth as the machine has it -/
def td_bz (P : Prop) [Decidable P] : Int32 := if P then 1 else 0
theorem td_bz1 {P : Prop} [Decidable P] (h : P) : td_bz P = 1 := if_pos h
theorem td_bz0 {P : Prop} [Decidable P] (h : ¬ P) : td_bz P = 0 := if_neg h
theorem td_bz_eq0 {P : Prop} [Decidable P] : td_bz P = 0 ↔ ¬ P := by
  by_cases h : P
  · rw [td_bz1 h]; exact ⟨fun q => absurd q (by decide), fun q => absurd h q⟩
  · rw [td_bz0 h]; exact ⟨fun _ => h, fun _ => rfl⟩
theorem td_bz_nar {P : Prop} [Decidable P] : narrow .boolean (.int (td_bz P)) = .int (td_bz P) := by
  by_cases h : P
  · rw [td_bz1 h]; rfl
  · rw [td_bz0 h]; rfl
theorem td_bz_iff {P Q' : Prop} [Decidable P] [Decidable Q'] (h : P ↔ Q') : td_bz P = td_bz Q' := by
  by_cases hp : P
  · rw [td_bz1 hp, td_bz1 (h.mp hp)]
  · rw [td_bz0 hp, td_bz0 (fun q => hp (h.mpr q))]
/-- the top of the stack under another name -/
theorem td_ti {x : Int32} (y : Int32) (h : x = y) (k : W p l e R s m args below meth c H locs cells slots Q (F0 m pc ls (.int y :: rest))) : W p l e R s m args below meth c H locs cells slots Q (F0 m pc ls (.int x :: rest)) := h ▸ k
theorem td_tl {x : Int64} (y : Int64) (h : x = y) (k : W p l e R s m args below meth c H locs cells slots Q (F0 m pc ls (.long y :: rest))) : W p l e R s m args below meth c H locs cells slots Q (F0 m pc ls (.long x :: rest)) := h ▸ k
/-- branches on a truth, and behind a comparison of longs -/
theorem td_ifeq {P : Prop} [Decidable P] (hx : p.tables.exec = Jvm.exec) (hb : c.code = cc) {off : Int} {tgt : Nat} (hdg : decode cc pc = .ok (.ifCond .eq off, 3)) (ht : (pc : Int) + off = (tgt : Int))
    (kt : ¬ P → W p l e R s m args below meth c H locs cells slots Q (F0 m tgt ls rest)) (kf : P → W p l e R s m args below meth c H locs cells slots Q (F0 m (pc + 3) ls rest)) : W p l e R s m args below meth c H locs cells slots Q (F0 m pc ls (.int (td_bz P) :: rest)) :=
  lv_if_eq hx hb hdg ht (fun h => kt (td_bz_eq0.mp h)) (fun h => kf (Classical.byContradiction fun q => h (td_bz0 q)))
theorem td_ifne {P : Prop} [Decidable P] (hx : p.tables.exec = Jvm.exec) (hb : c.code = cc) {off : Int} {tgt : Nat} (hdg : decode cc pc = .ok (.ifCond .ne off, 3)) (ht : (pc : Int) + off = (tgt : Int))
    (kt : P → W p l e R s m args below meth c H locs cells slots Q (F0 m tgt ls rest)) (kf : ¬ P → W p l e R s m args below meth c H locs cells slots Q (F0 m (pc + 3) ls rest)) : W p l e R s m args below meth c H locs cells slots Q (F0 m pc ls (.int (td_bz P) :: rest)) :=
  lv_if_ne hx hb hdg ht (fun h => kt (Classical.byContradiction fun q => h (td_bz0 q))) (fun h => kf (td_bz_eq0.mp h))
theorem td_lle {x y : Int64} (hx : p.tables.exec = Jvm.exec) (hb : c.code = cc) {off : Int} {tgt : Nat} (hdg : decode cc pc = .ok (.ifCond .le off, 3)) (ht : (pc : Int) + off = (tgt : Int))
    (kt : x ≤ y → W p l e R s m args below meth c H locs cells slots Q (F0 m tgt ls rest)) (kf : ¬ x ≤ y → W p l e R s m args below meth c H locs cells slots Q (F0 m (pc + 3) ls rest)) : W p l e R s m args below meth c H locs cells slots Q (F0 m pc ls (.int (lg_cmp x y) :: rest)) :=
  lv_if_le hx hb hdg ht (fun h => kt ((lg_cmp_le x y).mp h)) (fun h => kf (fun q => h ((lg_cmp_le x y).mpr q)))
theorem td_llt {x y : Int64} (hx : p.tables.exec = Jvm.exec) (hb : c.code = cc) {off : Int} {tgt : Nat} (hdg : decode cc pc = .ok (.ifCond .lt off, 3)) (ht : (pc : Int) + off = (tgt : Int))
    (kt : x < y → W p l e R s m args below meth c H locs cells slots Q (F0 m tgt ls rest)) (kf : ¬ x < y → W p l e R s m args below meth c H locs cells slots Q (F0 m (pc + 3) ls rest)) : W p l e R s m args below meth c H locs cells slots Q (F0 m pc ls (.int (lg_cmp x y) :: rest)) :=
  lv_if_lt hx hb hdg ht (fun h => kt ((lg_cmp_lt x y).mp h)) (fun h => kf (fun q => h ((lg_cmp_lt x y).mpr q)))
theorem td_lge {x y : Int64} (hx : p.tables.exec = Jvm.exec) (hb : c.code = cc) {off : Int} {tgt : Nat} (hdg : decode cc pc = .ok (.ifCond .ge off, 3)) (ht : (pc : Int) + off = (tgt : Int))
    (kt : y ≤ x → W p l e R s m args below meth c H locs cells slots Q (F0 m tgt ls rest)) (kf : ¬ y ≤ x → W p l e R s m args below meth c H locs cells slots Q (F0 m (pc + 3) ls rest)) : W p l e R s m args below meth c H locs cells slots Q (F0 m pc ls (.int (lg_cmp x y) :: rest)) :=
  lv_if_ge hx hb hdg ht (fun h => kt ((lg_cmp_ge x y).mp h)) (fun h => kf (fun q => h ((lg_cmp_ge x y).mpr q)))
theorem td_lgt {x y : Int64} (hx : p.tables.exec = Jvm.exec) (hb : c.code = cc) {off : Int} {tgt : Nat} (hdg : decode cc pc = .ok (.ifCond .gt off, 3)) (ht : (pc : Int) + off = (tgt : Int))
    (kt : y < x → W p l e R s m args below meth c H locs cells slots Q (F0 m tgt ls rest)) (kf : ¬ y < x → W p l e R s m args below meth c H locs cells slots Q (F0 m (pc + 3) ls rest)) : W p l e R s m args below meth c H locs cells slots Q (F0 m pc ls (.int (lg_cmp x y) :: rest)) :=
  lv_if_gt hx hb hdg ht (fun h => kt ((lg_cmp_gt x y).mp h)) (fun h => kf (fun q => h ((lg_cmp_gt x y).mpr q)))
theorem td_leq {x y : Int64} (hx : p.tables.exec = Jvm.exec) (hb : c.code = cc) {off : Int} {tgt : Nat} (hdg : decode cc pc = .ok (.ifCond .eq off, 3)) (ht : (pc : Int) + off = (tgt : Int))
    (kt : x = y → W p l e R s m args below meth c H locs cells slots Q (F0 m tgt ls rest)) (kf : ¬ x = y → W p l e R s m args below meth c H locs cells slots Q (F0 m (pc + 3) ls rest)) : W p l e R s m args below meth c H locs cells slots Q (F0 m pc ls (.int (lg_cmp x y) :: rest)) :=
  lv_if_eq hx hb hdg ht (fun h => kt ((lg_cmp_eq x y).mp h)) (fun h => kf (fun q => h ((lg_cmp_eq x y).mpr q)))
theorem td_lne {x y : Int64} (hx : p.tables.exec = Jvm.exec) (hb : c.code = cc) {off : Int} {tgt : Nat} (hdg : decode cc pc = .ok (.ifCond .ne off, 3)) (ht : (pc : Int) + off = (tgt : Int))
    (kt : ¬ x = y → W p l e R s m args below meth c H locs cells slots Q (F0 m tgt ls rest)) (kf : x = y → W p l e R s m args below meth c H locs cells slots Q (F0 m (pc + 3) ls rest)) : W p l e R s m args below meth c H locs cells slots Q (F0 m pc ls (.int (lg_cmp x y) :: rest)) :=
  lv_if_ne hx hb hdg ht (fun h => kt (fun q => h ((lg_cmp_eq x y).mpr q))) (fun h => kf ((lg_cmp_eq x y).mp h))
/-- arrays by a Nat index -/
theorem td_iald (hx : p.tables.exec = Jvm.exec) (hb : c.code = cc) (hK : va_K D cl tys s) (hP : va_P D cl ws H) (q0 t0 j : Nat) {cA : ClassId} {n : Nat} {f : Nat → Int32} (ha : ws[q0]? = some (a, .inl (cA, n, .inl f))) (ht : tys[t0]? = some (cA, .int)) {i : Int32} (hi : i = nI j) (hj : j < n) (hn : n < 2 ^ 31) (hdg : decode cc pc = .ok (.iaload, 1))
    (kk : W p l e R s m args below meth c H locs cells slots Q (F0 m (pc + 1) ls (.int (f j) :: rest))) : W p l e R s m args below meth c H locs cells slots Q (F0 m pc ls (.int i :: .ref a :: rest)) := by
  subst hi
  refine va_iald hx hb hK hP q0 t0 ha ht (vp_in_nI hj hn) hdg ?_
  rw [nI_clamp (Nat.lt_trans hj hn)]
  exact kk
theorem td_zald (hx : p.tables.exec = Jvm.exec) (hb : c.code = cc) (hK : va_K D cl tys s) (hP : va_P D cl ws H) (q0 t0 j : Nat) {cA : ClassId} {n : Nat} {f : Nat → Int32} (ha : ws[q0]? = some (a, .inl (cA, n, .inl f))) (ht : tys[t0]? = some (cA, .boolean)) {i : Int32} (hi : i = nI j) (hj : j < n) (hn : n < 2 ^ 31) (hdg : decode cc pc = .ok (.baload, 1))
    (kk : W p l e R s m args below meth c H locs cells slots Q (F0 m (pc + 1) ls (.int (f j) :: rest))) : W p l e R s m args below meth c H locs cells slots Q (F0 m pc ls (.int i :: .ref a :: rest)) := by
  subst hi
  refine va_zald hx hb hK hP q0 t0 ha ht (vp_in_nI hj hn) hdg ?_
  rw [nI_clamp (Nat.lt_trans hj hn)]
  exact kk
theorem td_lald (hx : p.tables.exec = Jvm.exec) (hb : c.code = cc) (hK : va_K D cl tys s) (hP : va_P D cl ws H) (q0 t0 j : Nat) {cA : ClassId} {n : Nat} {f : Nat → Int64} (ha : ws[q0]? = some (a, .inl (cA, n, .inr (.inl f)))) (ht : tys[t0]? = some (cA, .long)) {i : Int32} (hi : i = nI j) (hj : j < n) (hn : n < 2 ^ 31) (hdg : decode cc pc = .ok (.laload, 1))
    (kk : W p l e R s m args below meth c H locs cells slots Q (F0 m (pc + 1) ls (.long (f j) :: rest))) : W p l e R s m args below meth c H locs cells slots Q (F0 m pc ls (.int i :: .ref a :: rest)) := by
  subst hi
  refine va_lald hx hb hK hP q0 t0 ha ht (vp_in_nI hj hn) hdg ?_
  rw [nI_clamp (Nat.lt_trans hj hn)]
  exact kk
theorem td_iast (hx : p.tables.exec = Jvm.exec) (hb : c.code = cc) (hK : va_K D cl tys s) (hP : va_P D cl ws H) (hD : va_D A ws) (hS : va_S A H0 H locs) (q0 t0 j : Nat) {cA : ClassId} {n : Nat} {f : Nat → Int32} (ha : ws[q0]? = some (a, .inl (cA, n, .inl f))) (ht : tys[t0]? = some (cA, .int)) {i : Int32} {x : Int32} (hi : i = nI j) (hj : j < n) (hn : n < 2 ^ 31) (hdg : decode cc pc = .ok (.iastore, 1))
    (kk : ∀ (H1 : Heap) (locs1 : List Loc), va_P D cl (ws.set q0 (a, .inl (cA, n, .inl (upd f j x)))) H1 → va_D A (ws.set q0 (a, .inl (cA, n, .inl (upd f j x)))) → va_S A H0 H1 locs1 → W p l e R s m args below meth c H1 locs1 cells slots Q (F0 m (pc + 1) ls rest)) : W p l e R s m args below meth c H locs cells slots Q (F0 m pc ls (.int x :: .int i :: .ref a :: rest)) := by
  subst hi
  refine va_iast hx hb hK hP hD hS q0 t0 ha ht (vp_in_nI hj hn) hdg ?_
  rw [nI_clamp (Nat.lt_trans hj hn)]
  exact kk
theorem td_zast (hx : p.tables.exec = Jvm.exec) (hb : c.code = cc) (hK : va_K D cl tys s) (hP : va_P D cl ws H) (hD : va_D A ws) (hS : va_S A H0 H locs) (q0 t0 j : Nat) {cA : ClassId} {n : Nat} {f : Nat → Int32} (ha : ws[q0]? = some (a, .inl (cA, n, .inl f))) (ht : tys[t0]? = some (cA, .boolean)) {i : Int32} {x y : Int32} (hi : i = nI j) (hj : j < n) (hn : n < 2 ^ 31) (hz : vp_nar .boolean x = y) (hdg : decode cc pc = .ok (.bastore, 1))
    (kk : ∀ (H1 : Heap) (locs1 : List Loc), va_P D cl (ws.set q0 (a, .inl (cA, n, .inl (upd f j y)))) H1 → va_D A (ws.set q0 (a, .inl (cA, n, .inl (upd f j y)))) → va_S A H0 H1 locs1 → W p l e R s m args below meth c H1 locs1 cells slots Q (F0 m (pc + 1) ls rest)) : W p l e R s m args below meth c H locs cells slots Q (F0 m pc ls (.int x :: .int i :: .ref a :: rest)) := by
  subst hi
  refine va_zast hx hb hK hP hD hS q0 t0 ha ht (vp_in_nI hj hn) hdg ?_
  rw [nI_clamp (Nat.lt_trans hj hn), hz]
  exact kk
theorem td_last (hx : p.tables.exec = Jvm.exec) (hb : c.code = cc) (hK : va_K D cl tys s) (hP : va_P D cl ws H) (hD : va_D A ws) (hS : va_S A H0 H locs) (q0 t0 j : Nat) {cA : ClassId} {n : Nat} {f : Nat → Int64} (ha : ws[q0]? = some (a, .inl (cA, n, .inr (.inl f)))) (ht : tys[t0]? = some (cA, .long)) {i : Int32} {x : Int64} (hi : i = nI j) (hj : j < n) (hn : n < 2 ^ 31) (hdg : decode cc pc = .ok (.lastore, 1))
    (kk : ∀ (H1 : Heap) (locs1 : List Loc), va_P D cl (ws.set q0 (a, .inl (cA, n, .inr (.inl (vp_updL f j x))))) H1 → va_D A (ws.set q0 (a, .inl (cA, n, .inr (.inl (vp_updL f j x))))) → va_S A H0 H1 locs1 → W p l e R s m args below meth c H1 locs1 cells slots Q (F0 m (pc + 1) ls rest)) : W p l e R s m args below meth c H locs cells slots Q (F0 m pc ls (.long x :: .int i :: .ref a :: rest)) := by
  subst hi
  refine va_last hx hb hK hP hD hS q0 t0 ha ht (vp_in_nI hj hn) hdg ?_
  rw [nI_clamp (Nat.lt_trans hj hn)]
  exact kk
/-- a new array: its class is the one that is known -/
theorem td_newa (t0 : Nat) (hx : p.tables.exec = Jvm.exec) (hb : c.code = cc) {atype : ArrayType} (harr : (Cond.arrayClass (newarray.typeOf atype)).before args s = true) {ty : FieldType} (hty : newarray.typeOf atype = ty) (hK : va_K D cl tys s) (hP : va_P D cl ws H) (hD : va_D A ws) (hS : va_S A H0 H locs) (hA : ∀ q, H0.size ≤ q → A q)
    {n : Int32} {N' : Nat} {a0 : vp_A} {cA : ClassId} (ht : tys[t0]? = some (cA, ty)) (hra : ∀ cB, va_RA s cB ty → s.vm.findClass ("[" ++ ty.toString) = some cB) (ha : ∀ cA : ClassId, vp_cell cA a0 = arrV cA N' (fun _ => defaultValue ty)) (hn : n = nI N') (hN : N' < 2 ^ 31) (hbytes : N' * componentBytes ty ≤ 536870912) (hcells : cells + 1 ≤ R.cells) (hslots : slots + N' ≤ R.slots) (hdg : decode cc pc = .ok (.newarray atype, 2))
    (kk : ∀ (q : Nat) (H1 : Heap), va_P D cl (ws ++ [(q, .inl (cA, a0))]) H1 → va_D A (ws ++ [(q, .inl (cA, a0))]) → va_S A H0 H1 locs →
      W p l e R s m args below meth c H1 locs (cells + 1) (slots + N') Q (F0 m (pc + 2) ls (.ref q :: rest))) : W p l e R s m args below meth c H locs cells slots Q (F0 m pc ls (.int n :: rest)) := by
  subst hn
  refine va_newa hx hb harr hty hK hP hD hS hA ha (nI_pos hN) (nI_clamp hN) hbytes hcells hslots hdg (fun q cB H1 hK1 hP1 hD1 hS1 => ?_)
  have e1 := hra cA (hK.2 t0 _ ht).2
  have e2 := hra cB (hK1.2 tys.length (cB, ty) (by simp)).2
  have e3 : cB = cA := Option.some.inj (e2.symm.trans e1)
  subst e3
  exact kk q H1 hP1 hD1 hS1
theorem td_raI (s : State) : ∀ cB, va_RA s cB .int → s.vm.findClass ("[" ++ (FieldType.int).toString) = some cB := fun _ h => h
theorem td_raJ (s : State) : ∀ cB, va_RA s cB .long → s.vm.findClass ("[" ++ (FieldType.long).toString) = some cB := fun _ h => h
theorem td_raZ (s : State) : ∀ cB, va_RA s cB .boolean → s.vm.findClass ("[" ++ (FieldType.boolean).toString) = some cB := fun _ h => h
theorem td_arr {ty : FieldType} (h : (Cond.arrayClass ty).before args s = true) : ∃ cA : ClassId, ArrOfT s cA ty ∧ s.vm.findClass ("[" ++ ty.toString) = some cA := by
  obtain ⟨cA, kA, comp, h1, h2, h3⟩ := Cond.arrayClass_spec h
  exact ⟨cA, fun n z => ⟨fun k h => (by cases h), kA, h2, comp, h3⟩, h1⟩
/-- links to nest mates: they stand in the start of a contract, not among its words -/
def td_isN (w : Cond) : Bool := match w with
  | .fieldLinkNest .. => true
  | .methodLinkNest .. => true
  | _ => false
def td_ZL (L : List Cond) (U : State) : Prop := L.all td_isN = true ∧ ∀ w ∈ L, va_Nw w U
theorem td_ZL.warm {L : List Cond} {U : State} (hW : s.WarmedH U.vm) (h : td_ZL L s) : td_ZL L U := by
  refine ⟨h.1, fun w hw => ?_⟩
  have h1 := List.all_eq_true.mp h.1 w hw
  have h2 := h.2 w hw
  cases w <;> first | exact va_Nw.warmF hW h2 | exact va_Nw.warmM hW h2 | (simp [td_isN] at h1)
theorem td_ZL.same {L : List Cond} {u U : State} (hv : u.vm = U.vm) (h : td_ZL L u) : td_ZL L U := by
  refine ⟨h.1, fun w hw => ?_⟩
  have h1 := List.all_eq_true.mp h.1 w hw
  have h2 := h.2 w hw
  cases w <;> first | exact va_Nw.same rfl hv h2 | (simp [td_isN] at h1)
/-- contracts: of a method that reads alone, of one that writes -/
abbrev td_RP (D : va_G) (cl : List vw_C) (tys : List (ClassId × FieldType)) (L : List Cond) (ws : va_W) (av : List Value) : Array Value → State → Prop := va_Pc av (fun U => va_P D cl ws U.heap ∧ va_K D cl tys U ∧ td_ZL L U)
abbrev td_WP (D : va_G) (cl : List vw_C) (tys : List (ClassId × FieldType)) (L : List Cond) (ws : va_W) (sz : Nat) (av : List Value) : Array Value → State → Prop := va_Pc av (fun U => U.heap.size = sz ∧ va_P D cl ws U.heap ∧ va_K D cl tys U ∧ td_ZL L U ∧ va_D (fun _ => True) ws)
abbrev td_B {S : Type} (D : va_G) (cl : List vw_C) (tys : List (ClassId × FieldType)) (A : Nat → Prop) (w : S → va_W) : S → State → Prop := fun u t => va_P D cl (w u) t.heap ∧ va_K D cl tys t ∧ va_D A (w u)
theorem td_blR {L : List Cond} {av : List Value} : FrameBlind (td_RP D cl tys L ws av) := fun a U g mk q => by
  obtain ⟨q0, qP, qK, qZ⟩ := q
  exact ⟨q0, qP, va_K.moved (u := U) (U := U.calling g mk a) (Vm.Alike.refl U.vm) qK, td_ZL.same (u := U) (U := U.calling g mk a) rfl qZ⟩
theorem td_blW {L : List Cond} {sz : Nat} {av : List Value} : FrameBlind (td_WP D cl tys L ws sz av) := fun a U g mk q => by
  obtain ⟨q0, q1, qP, qK, qZ, qD⟩ := q
  exact ⟨q0, q1, qP, va_K.moved (u := U) (U := U.calling g mk a) (Vm.Alike.refl U.vm) qK, td_ZL.same (u := U) (U := U.calling g mk a) rfl qZ, qD⟩
theorem td_Psub {w0 wc : va_W} (hP : va_P D cl w0 H) (is : List Nat) (hC : is.map (fun i => w0[i]?) = wc.map some) : va_P D cl wc H := fun k q hk => by
  obtain ⟨i, -, h⟩ := va_in_of is hC hk
  exact hP i q h
theorem td_pRV {L : List Cond} {w0 wc : va_W} {C : String} {b : Nat} {As : List Value} (hK : va_K D cl tys s) (hZ : td_ZL L s) (hP : va_P D cl w0 H) (is : List Nat) (hC : is.map (fun i => w0[i]?) = wc.map some) (hrc : ∃ cell : Cell, H[b]? = some cell ∧ cell.vm.isStatics = false ∧ s.vm.findClass C = some cell.cls) : PreV s H C b (td_RP D cl tys L wc (.ref b :: As)) As :=
  ⟨td_blR, hrc, fun U hU hW => ⟨rfl, by rw [hU]; exact td_Psub hP is hC, va_K.moved hW.alike hK, hZ.warm hW⟩⟩
theorem td_pRS {L : List Cond} {w0 wc : va_W} {As : List Value} (hK : va_K D cl tys s) (hZ : td_ZL L s) (hP : va_P D cl w0 H) (is : List Nat) (hC : is.map (fun i => w0[i]?) = wc.map some) : PreS s H (td_RP D cl tys L wc As) As :=
  ⟨td_blR, fun U hU hW => ⟨rfl, by rw [hU]; exact td_Psub hP is hC, va_K.moved hW.alike hK, hZ.warm hW⟩⟩
theorem td_pWV {L : List Cond} {w0 wc : va_W} {C : String} {b : Nat} {As : List Value} (hK : va_K D cl tys s) (hZ : td_ZL L s) (hP : va_P D cl w0 H) (hD : va_D A w0) (is : List Nat) (hn : va_nd is = true) (hC : is.map (fun i => w0[i]?) = wc.map some) (hrc : ∃ cell : Cell, H[b]? = some cell ∧ cell.vm.isStatics = false ∧ s.vm.findClass C = some cell.cls) : PreV s H C b (td_WP D cl tys L wc H.size (.ref b :: As)) As :=
  ⟨td_blW, hrc, fun U hU hW => ⟨rfl, by rw [hU], by rw [hU]; exact td_Psub hP is hC, va_K.moved hW.alike hK, hZ.warm hW, (hD.sub is hn hC).weaken (fun _ _ _ _ => trivial)⟩⟩
theorem td_pWS {L : List Cond} {w0 wc : va_W} {As : List Value} (hK : va_K D cl tys s) (hZ : td_ZL L s) (hP : va_P D cl w0 H) (hD : va_D A w0) (is : List Nat) (hn : va_nd is = true) (hC : is.map (fun i => w0[i]?) = wc.map some) : PreS s H (td_WP D cl tys L wc H.size As) As :=
  ⟨td_blW, fun U hU hW => ⟨rfl, by rw [hU], by rw [hU]; exact td_Psub hP is hC, va_K.moved hW.alike hK, hZ.warm hW, (hD.sub is hn hC).weaken (fun _ _ _ _ => trivial)⟩⟩
theorem td_rn {mc ms : Nat} {g : JFrame} {Qa : State → Outcome → State → Prop} {free : Addr → Prop} (h : va_Run p l e R s m args below meth c H locs cells slots mc ms g rest Qa free) : CallRun p l e R s m args below meth c H locs cells slots mc ms g rest Qa free := fun T hT X => by
  obtain ⟨v, st, t, T', L, h1, h2, h3, h4, _, h6, h7⟩ := h T hT X
  exact ⟨v, st, t, T', L, h1, h2, h3, h4, h6, h7⟩
/-- a call that reads alone: its answer stands on the stack -/
theorem td_csi {v : Int32} {av : Array Value} {st0 : List Value} (hr : va_Run p l e R s m args below meth c H locs cells slots 0 0 (F0 m pc ls st0) rest (vp_Si (fun r => r = v) av) (fun _ => False))
    (kk : W p l e R s m args below meth c H locs cells slots Q (F0 m (pc + 3) ls (.int v :: rest))) : W p l e R s m args below meth c H locs cells slots Q (F0 m pc ls st0) :=
  vp_callSi (td_rn hr) (fun r h => by subst h; exact kk)
theorem td_csl {v : Int64} {av : Array Value} {st0 : List Value} (hr : va_Run p l e R s m args below meth c H locs cells slots 0 0 (F0 m pc ls st0) rest (vp_Sl (fun r => r = v) av) (fun _ => False))
    (kk : W p l e R s m args below meth c H locs cells slots Q (F0 m (pc + 3) ls (.long v :: rest))) : W p l e R s m args below meth c H locs cells slots Q (F0 m pc ls st0) :=
  vp_callSl (td_rn hr) (fun r h => by subst h; exact kk)
/-- a call that writes: its cells come back beside the rest -/
theorem td_cwi {S : Type} {post : Int32 → S → Prop} {w' : S → va_W} {wc wr w0 : va_W} {av : Array Value} {st0 : List Value} {mc ms : Nat}
    (hr : va_Run p l e R s m args below meth c H locs cells slots mc ms (F0 m pc ls st0) rest (va_Qi post (td_B D cl tys (va_A wc H.size) w') (va_A wc H.size) av) (va_A wc H.size))
    (hP : va_P D cl w0 H) (hD : va_D A w0) (hS : va_S A H0 H locs) (hA : ∀ q, H0.size ≤ q → A q) (isC isR : List Nat) (hC : isC.map (fun i => w0[i]?) = wc.map some) (hR : isR.map (fun i => w0[i]?) = wr.map some) (hn : va_nd isR = true) (hdis : ∀ i ∈ isR, i ∉ isC)
    (kk : ∀ (r : Int32) (u : S) (H1 : Heap) (locs1 : List Loc), post r u → va_P D cl (wr ++ w' u) H1 → va_D A (wr ++ w' u) → va_S A H0 H1 locs1 → W p l e R s m args below meth c H1 locs1 (cells + mc) (slots + ms) Q (F0 m (pc + 3) ls (.int r :: rest))) : W p l e R s m args below meth c H locs cells slots Q (F0 m pc ls st0) := by
  have hF := va_free hD hS hA isC hC
  refine va_calli hr hS (fun q _ h => hF q h) hF (fun r u t H1 locs1 ht hvm hp hB hz hk hS1 => ?_)
  obtain ⟨hP1, hK1, hD1⟩ := hB
  rw [ht] at hP1
  obtain ⟨hP2, hD2⟩ := va_join hP hD isC isR hC hR hn hdis hk hF hP1 hD1
  exact kk r u H1 locs1 hp hP2 hD2 hS1
theorem td_cwv {S : Type} {post : S → Prop} {w' : S → va_W} {wc wr w0 : va_W} {av : Array Value} {st0 : List Value} {mc ms : Nat}
    (hr : va_Run p l e R s m args below meth c H locs cells slots mc ms (F0 m pc ls st0) rest (va_Qv post (td_B D cl tys (va_A wc H.size) w') (va_A wc H.size) av) (va_A wc H.size))
    (hP : va_P D cl w0 H) (hD : va_D A w0) (hS : va_S A H0 H locs) (hA : ∀ q, H0.size ≤ q → A q) (isC isR : List Nat) (hC : isC.map (fun i => w0[i]?) = wc.map some) (hR : isR.map (fun i => w0[i]?) = wr.map some) (hn : va_nd isR = true) (hdis : ∀ i ∈ isR, i ∉ isC)
    (kk : ∀ (u : S) (H1 : Heap) (locs1 : List Loc), post u → va_P D cl (wr ++ w' u) H1 → va_D A (wr ++ w' u) → va_S A H0 H1 locs1 → W p l e R s m args below meth c H1 locs1 (cells + mc) (slots + ms) Q (F0 m (pc + 3) ls rest)) : W p l e R s m args below meth c H locs cells slots Q (F0 m pc ls st0) := by
  have hF := va_free hD hS hA isC hC
  refine va_callv hr hS (fun q _ h => hF q h) hF (fun u t H1 locs1 ht hvm hp hB hz hk hS1 => ?_)
  obtain ⟨hP1, hK1, hD1⟩ := hB
  rw [ht] at hP1
  obtain ⟨hP2, hD2⟩ := va_join hP hD isC isR hC hR hn hdis hk hF hP1 hD1
  exact kk u H1 locs1 hp hP2 hD2 hS1
/-- the ends -/
theorem td_rri {post : Int32 → Prop} {free : Addr → Prop} {v : Int32} {ty : FieldType} (hx : p.tables.exec = Jvm.exec) (hb : c.code = cc) (hr : meth.sig.returnType = some ty) (hn : narrow ty (.int v) = .int v) (hlocks : meth.locks = false) (hp : post v) (hdg : decode cc pc = .ok (.ireturn, 1)) : W p l e R s m args below meth c s.heap [] cells slots (MQ below (vp_Si post) args s cells slots free) (F0 m pc ls [.int v]) :=
  W.zret hx hb hr hn (fun t ht hW => ⟨v, rfl, hp, ht⟩) (fun q h => by cases h) hdg hlocks
theorem td_rrl {post : Int64 → Prop} {free : Addr → Prop} {v : Int64} (hx : p.tables.exec = Jvm.exec) (hb : c.code = cc) (hr : meth.sig.returnType = some .long) (hlocks : meth.locks = false) (hp : post v) (hdg : decode cc pc = .ok (.lreturn, 1)) : W p l e R s m args below meth c s.heap [] cells slots (MQ below (vp_Sl post) args s cells slots free) (F0 m pc ls [.long v]) :=
  W.lret hx hb hr (fun t ht hW => ⟨v, rfl, hp, ht⟩) (fun q h => by cases h) hdg hlocks
theorem td_rwi {S : Type} {post : Int32 → S → Prop} {w' : S → va_W} {v : Int32} {ty : FieldType} (u : S) (hx : p.tables.exec = Jvm.exec) (hb : c.code = cc) (hr : meth.sig.returnType = some ty) (hn : narrow ty (.int v) = .int v) (hlocks : meth.locks = false) (hK : va_K D cl tys s) (hp : post v u) (hP : va_P D cl (w' u) H) (hD : va_D A (w' u)) (hS : va_S A s.heap H locs) (hdg : decode cc pc = .ok (.ireturn, 1)) : W p l e R s m args below meth c H locs cells slots (MQ below (va_Qi post (td_B D cl tys A w') A) args s cells slots A) (F0 m pc ls [.int v]) :=
  W.zret hx hb hr hn (fun t ht hW => ⟨⟨v, u, rfl, hp, by rw [ht]; exact hP, va_K.moved hW.alike hK, hD⟩, hS.F ht⟩) hS.2.2 hdg hlocks
theorem td_rwv {S : Type} {post : S → Prop} {w' : S → va_W} (u : S) (hx : p.tables.exec = Jvm.exec) (hb : c.code = cc) (hr : meth.sig.returnType = none) (hlocks : meth.locks = false) (hK : va_K D cl tys s) (hp : post u) (hP : va_P D cl (w' u) H) (hD : va_D A (w' u)) (hS : va_S A s.heap H locs) (hdg : decode cc pc = .ok (.return_, 1)) : W p l e R s m args below meth c H locs cells slots (MQ below (va_Qv post (td_B D cl tys A w') A) args s cells slots A) (F0 m pc ls []) :=
  W.vret hx hb hr (fun t ht hW => ⟨⟨u, rfl, hp, by rw [ht]; exact hP, va_K.moved hW.alike hK, hD⟩, hS.F ht⟩) hS.2.2 hdg hlocks
end TD
end
section
/-! Numbers: what the document asks of a piece at a pixel, in whole numbers; and what the machine's longs are then. g is the reference's row of pieces: a piece stands at a: corners at a, a + 4, a + 8 (x, y, r, light), its tint at a + 12, its cover at a + 13. -/
theorem td_bm64 {x : Int} (h1 : -9223372036854775808 ≤ x) (h2 : x < 9223372036854775808) : x.bmod (2 ^ 64) = x := Int.bmod_eq_of_le_mul_two (by omega) (by omega)
theorem td_bm32 {x : Int} (h1 : -2147483648 ≤ x) (h2 : x < 2147483648) : x.bmod (2 ^ 32) = x := Int.bmod_eq_of_le_mul_two (by omega) (by omega)
theorem td_add64 {a b : Int64} (h1 : -9223372036854775808 ≤ a.toInt + b.toInt) (h2 : a.toInt + b.toInt < 9223372036854775808) : (a + b).toInt = a.toInt + b.toInt := by rw [Int64.toInt_add, td_bm64 h1 h2]
theorem td_sub64 {a b : Int64} (h1 : -9223372036854775808 ≤ a.toInt - b.toInt) (h2 : a.toInt - b.toInt < 9223372036854775808) : (a - b).toInt = a.toInt - b.toInt := by rw [Int64.toInt_sub, td_bm64 h1 h2]
theorem td_mul64 {a b : Int64} (h1 : -9223372036854775808 ≤ a.toInt * b.toInt) (h2 : a.toInt * b.toInt < 9223372036854775808) : (a * b).toInt = a.toInt * b.toInt := by rw [Int64.toInt_mul, td_bm64 h1 h2]
theorem td_sub32 {a b : Int32} (h1 : -2147483648 ≤ a.toInt - b.toInt) (h2 : a.toInt - b.toInt < 2147483648) : (a - b).toInt = a.toInt - b.toInt := by rw [Int32.toInt_sub, td_bm32 h1 h2]
theorem td_eq64 {a b : Int64} (h : a.toInt = b.toInt) : a = b := Int64.toInt_inj.mp h
theorem td_eq32 {a b : Int32} (h : a.toInt = b.toInt) : a = b := Int32.toInt_inj.mp h
theorem td_lt64 {a b : Int64} : a < b ↔ a.toInt < b.toInt := Int64.lt_iff_toInt_lt
theorem td_le64 {a b : Int64} : a ≤ b ↔ a.toInt ≤ b.toInt := Int64.le_iff_toInt_le
theorem td_lt32 {a b : Int32} : a < b ↔ a.toInt < b.toInt := Int32.lt_iff_toInt_lt
theorem td_le32 {a b : Int32} : a ≤ b ↔ a.toInt ≤ b.toInt := Int32.le_iff_toInt_le
theorem td_s64 {a b : Int32} (h1 : -2147483648 ≤ a.toInt - b.toInt) (h2 : a.toInt - b.toInt < 2147483648) : (a - b).toInt64 = a.toInt64 - b.toInt64 := by
  apply td_eq64
  rw [Int32.toInt_toInt64, td_sub32 h1 h2, td_sub64 (by rw [Int32.toInt_toInt64, Int32.toInt_toInt64]; omega) (by rw [Int32.toInt_toInt64, Int32.toInt_toInt64]; omega), Int32.toInt_toInt64, Int32.toInt_toInt64]
/-- a product of two numbers within bounds -/
theorem td_mb {a b A B : Int} (h1 : -A ≤ a) (h2 : a ≤ A) (h3 : -B ≤ b) (h4 : b ≤ B) : -(A * B) ≤ a * b ∧ a * b ≤ A * B := by
  have hA : 0 ≤ A := by omega
  have hB : 0 ≤ B := by omega
  have k1 : 0 ≤ (A - a) * (B - b) := Int.mul_nonneg (by omega) (by omega)
  have k2 : 0 ≤ (A + a) * (B + b) := Int.mul_nonneg (by omega) (by omega)
  have k3 : 0 ≤ (A - a) * (B + b) := Int.mul_nonneg (by omega) (by omega)
  have k4 : 0 ≤ (A + a) * (B - b) := Int.mul_nonneg (by omega) (by omega)
  have e1 : (A - a) * (B - b) = A * B - A * b - a * B + a * b := by grind
  have e2 : (A + a) * (B + b) = A * B + A * b + a * B + a * b := by grind
  have e3 : (A - a) * (B + b) = A * B + A * b - a * B - a * b := by grind
  have e4 : (A + a) * (B - b) = A * B - A * b + a * B - a * b := by grind
  constructor <;> omega
abbrev td_e (g : Nat → Int32) (a b : Nat) (x y : Int) : Int := ((g b).toInt - (g a).toInt) * (y - (g (a + 1)).toInt) - ((g (b + 1)).toInt - (g (a + 1)).toInt) * (x - (g a).toInt)
abbrev td_eL (g : Nat → Int32) (a b : Nat) (x y : Int64) : Int64 := (g b - g a).toInt64 * (y - (g (a + 1)).toInt64) - (g (b + 1) - g (a + 1)).toInt64 * (x - (g a).toInt64)
def td_ok (g : Nat → Int32) (a : Nat) : Prop := -4096 ≤ (g a).toInt ∧ (g a).toInt ≤ 4096 ∧ -4096 ≤ (g (a + 1)).toInt ∧ (g (a + 1)).toInt ≤ 4096 ∧ 1 ≤ (g (a + 2)).toInt ∧ (g (a + 2)).toInt ≤ 1048576 ∧ 0 ≤ (g (a + 3)).toInt ∧ (g (a + 3)).toInt ≤ 65536
theorem td_eL_toInt {g : Nat → Int32} {a b : Nat} {x y : Int64} (ha : td_ok g a) (hb : td_ok g b) (hx1 : -5000 ≤ x.toInt) (hx2 : x.toInt ≤ 5000) (hy1 : -5000 ≤ y.toInt) (hy2 : y.toInt ≤ 5000) :
    (td_eL g a b x y).toInt = td_e g a b x.toInt y.toInt ∧ -200000000 ≤ td_e g a b x.toInt y.toInt ∧ td_e g a b x.toInt y.toInt ≤ 200000000 := by
  obtain ⟨a1, a2, a3, a4, -⟩ := ha
  obtain ⟨b1, b2, b3, b4, -⟩ := hb
  have i1 : (g b - g a).toInt64.toInt = (g b).toInt - (g a).toInt := by rw [Int32.toInt_toInt64, td_sub32 (by omega) (by omega)]
  have i2 : (g (b + 1) - g (a + 1)).toInt64.toInt = (g (b + 1)).toInt - (g (a + 1)).toInt := by rw [Int32.toInt_toInt64, td_sub32 (by omega) (by omega)]
  have i3 : (y - (g (a + 1)).toInt64).toInt = y.toInt - (g (a + 1)).toInt := by rw [td_sub64 (by rw [Int32.toInt_toInt64]; omega) (by rw [Int32.toInt_toInt64]; omega), Int32.toInt_toInt64]
  have i4 : (x - (g a).toInt64).toInt = x.toInt - (g a).toInt := by rw [td_sub64 (by rw [Int32.toInt_toInt64]; omega) (by rw [Int32.toInt_toInt64]; omega), Int32.toInt_toInt64]
  have p1 := td_mb (a := (g b).toInt - (g a).toInt) (b := y.toInt - (g (a + 1)).toInt) (A := 8192) (B := 9096) (by omega) (by omega) (by omega) (by omega)
  have p2 := td_mb (a := (g (b + 1)).toInt - (g (a + 1)).toInt) (b := x.toInt - (g a).toInt) (A := 8192) (B := 9096) (by omega) (by omega) (by omega) (by omega)
  have m1 : ((g b - g a).toInt64 * (y - (g (a + 1)).toInt64)).toInt = ((g b).toInt - (g a).toInt) * (y.toInt - (g (a + 1)).toInt) := by rw [td_mul64 (by rw [i1, i3]; omega) (by rw [i1, i3]; omega), i1, i3]
  have m2 : ((g (b + 1) - g (a + 1)).toInt64 * (x - (g a).toInt64)).toInt = ((g (b + 1)).toInt - (g (a + 1)).toInt) * (x.toInt - (g a).toInt) := by rw [td_mul64 (by rw [i2, i4]; omega) (by rw [i2, i4]; omega), i2, i4]
  refine ⟨?_, ?_, ?_⟩
  · show (_ - _ : Int64).toInt = _
    rw [td_sub64 (by rw [m1, m2]; omega) (by rw [m1, m2]; omega), m1, m2]
  · show -200000000 ≤ _ - _
    omega
  · show _ - _ ≤ (200000000 : Int)
    omega
abbrev td_A (g : Nat → Int32) (a : Nat) : Int := td_e g a (a + 4) (g (a + 8)).toInt (g (a + 8 + 1)).toInt
abbrev td_AL (g : Nat → Int32) (a : Nat) : Int64 := td_eL g a (a + 4) (g (a + 8)).toInt64 (g (a + 8 + 1)).toInt64
abbrev td_h (g : Nat → Int32) (a b : Nat) (x y : Int) : Prop := 0 < td_e g a b x y ∨ td_e g a b x y = 0 ∧ ((g (b + 1)).toInt < (g (a + 1)).toInt ∨ (g (b + 1)).toInt = (g (a + 1)).toInt ∧ (g a).toInt < (g b).toInt)
abbrev td_cov (g : Nat → Int32) (a : Nat) (x y : Int) : Prop := td_h g (a + 4) (a + 8) x y ∧ td_h g (a + 8) a x y ∧ td_h g a (a + 4) x y
def td_pc (g : Nat → Int32) (a : Nat) : Prop := td_ok g a ∧ td_ok g (a + 4) ∧ td_ok g (a + 8) ∧ 0 < td_A g a ∧ 0 ≤ (g (a + 12)).toInt ∧ (g (a + 12)).toInt < 16777216 ∧ 0 ≤ (g (a + 13)).toInt ∧ (g (a + 13)).toInt ≤ 255
abbrev td_num (g : Nat → Int32) (a : Nat) (x y : Int) : Int := td_e g (a + 4) (a + 8) x y * (g (a + 2)).toInt + td_e g (a + 8) a x y * (g (a + 4 + 2)).toInt + td_e g a (a + 4) x y * (g (a + 8 + 2)).toInt
abbrev td_ls (g : Nat → Int32) (a : Nat) (x y : Int) : Int := td_e g (a + 4) (a + 8) x y * (g (a + 2)).toInt * (g (a + 3)).toInt + td_e g (a + 8) a x y * (g (a + 4 + 2)).toInt * (g (a + 4 + 3)).toInt + td_e g a (a + 4) x y * (g (a + 8 + 2)).toInt * (g (a + 8 + 3)).toInt
theorem td_sum (g : Nat → Int32) (a : Nat) (x y : Int) : td_e g (a + 4) (a + 8) x y + td_e g (a + 8) a x y + td_e g a (a + 4) x y = td_A g a := by
  show _ = ((g (a + 4)).toInt - (g a).toInt) * ((g (a + 8 + 1)).toInt - (g (a + 1)).toInt) - ((g (a + 4 + 1)).toInt - (g (a + 1)).toInt) * ((g (a + 8)).toInt - (g a).toInt)
  grind
theorem td_momX (g : Nat → Int32) (a : Nat) (x y : Int) : td_e g (a + 4) (a + 8) x y * ((g a).toInt - x) + td_e g (a + 8) a x y * ((g (a + 4)).toInt - x) + td_e g a (a + 4) x y * ((g (a + 8)).toInt - x) = 0 := by
  show (_ - _) * _ + (_ - _) * _ + (_ - _) * _ = (0 : Int)
  grind
theorem td_momY (g : Nat → Int32) (a : Nat) (x y : Int) : td_e g (a + 4) (a + 8) x y * ((g (a + 1)).toInt - y) + td_e g (a + 8) a x y * ((g (a + 4 + 1)).toInt - y) + td_e g a (a + 4) x y * ((g (a + 8 + 1)).toInt - y) = 0 := by
  show (_ - _) * _ + (_ - _) * _ + (_ - _) * _ = (0 : Int)
  grind
/-- three numbers' weighed sum, all weights from 0 on, is not above what the greatest gives -/
theorem td_ub {u c D : Int} (h1 : 0 ≤ u) (h2 : u ≤ D) : u * c ≤ D * (if 0 ≤ c then c else 0) := by
  by_cases h : 0 ≤ c
  · rw [if_pos h]; exact Int.mul_le_mul_of_nonneg_right h2 h
  · rw [if_neg h]
    have : 0 ≤ u * (-c) := Int.mul_nonneg h1 (by omega)
    have e : u * (-c) = -(u * c) := Int.mul_neg u c
    omega
theorem td_areaLe {g : Nat → Int32} {a : Nat} (h0 : td_ok g a) (h1 : td_ok g (a + 4)) (h2 : td_ok g (a + 8)) : td_A g a ≤ 67108864 := by
  obtain ⟨x0, x0', y0, y0', -⟩ := h0
  obtain ⟨x1, x1', y1, y1', -⟩ := h1
  obtain ⟨x2, x2', y2, y2', -⟩ := h2
  show ((g (a + 4)).toInt - (g a).toInt) * ((g (a + 8 + 1)).toInt - (g (a + 1)).toInt) - ((g (a + 4 + 1)).toInt - (g (a + 1)).toInt) * ((g (a + 8)).toInt - (g a).toInt) ≤ _
  generalize (g a).toInt = X0 at *
  generalize (g (a + 1)).toInt = Y0 at *
  generalize (g (a + 4)).toInt = X1 at *
  generalize (g (a + 4 + 1)).toInt = Y1 at *
  generalize (g (a + 8)).toInt = X2 at *
  generalize (g (a + 8 + 1)).toInt = Y2 at *
  have e : (X1 - X0) * (Y2 - Y0) - (Y1 - Y0) * (X2 - X0) = (X0 + 4096) * (Y1 - Y2) + (X1 + 4096) * (Y2 - Y0) + (X2 + 4096) * (Y0 - Y1) := by grind
  have k0 := td_ub (u := X0 + 4096) (c := Y1 - Y2) (D := 8192) (by omega) (by omega)
  have k1 := td_ub (u := X1 + 4096) (c := Y2 - Y0) (D := 8192) (by omega) (by omega)
  have k2 := td_ub (u := X2 + 4096) (c := Y0 - Y1) (D := 8192) (by omega) (by omega)
  rw [e]
  split at k0 <;> split at k1 <;> split at k2 <;> omega
/-- a weight times what lies within 0 .. B -/
theorem td_wb {w r B : Int} (hw : 0 ≤ w) (h1 : 0 ≤ r) (h2 : r ≤ B) : 0 ≤ w * r ∧ w * r ≤ w * B := ⟨Int.mul_nonneg hw h1, Int.mul_le_mul_of_nonneg_left h2 hw⟩
theorem td_wge {w r : Int} (hw : 0 ≤ w) (h1 : 1 ≤ r) : w ≤ w * r := by
  have := Int.mul_le_mul_of_nonneg_left h1 hw
  omega
/-- what holds where a piece covers a pixel -/
theorem td_bounds {g : Nat → Int32} {a : Nat} {x y : Int} (hp : td_pc g a) (hc : td_cov g a x y) :
    0 ≤ td_e g (a + 4) (a + 8) x y ∧ 0 ≤ td_e g (a + 8) a x y ∧ 0 ≤ td_e g a (a + 4) x y ∧ td_e g (a + 4) (a + 8) x y ≤ td_A g a ∧ td_e g (a + 8) a x y ≤ td_A g a ∧ td_e g a (a + 4) x y ≤ td_A g a ∧ 0 < td_A g a ∧ td_A g a ≤ 67108864 ∧
    td_A g a ≤ td_num g a x y ∧ td_num g a x y ≤ td_A g a * 1048576 ∧ 0 ≤ td_ls g a x y ∧ td_ls g a x y ≤ td_num g a x y * 65536 := by
  obtain ⟨k0, k1, k2, hA, -⟩ := hp
  have hle := td_areaLe k0 k1 k2
  have hs := td_sum g a x y
  obtain ⟨c0, c1, c2⟩ := hc
  have w0 : 0 ≤ td_e g (a + 4) (a + 8) x y := by rcases c0 with h | h <;> omega
  have w1 : 0 ≤ td_e g (a + 8) a x y := by rcases c1 with h | h <;> omega
  have w2 : 0 ≤ td_e g a (a + 4) x y := by rcases c2 with h | h <;> omega
  obtain ⟨-, -, -, -, r0, r0', l0, l0'⟩ := k0
  obtain ⟨-, -, -, -, r1, r1', l1, l1'⟩ := k1
  obtain ⟨-, -, -, -, r2, r2', l2, l2'⟩ := k2
  unfold td_num td_ls
  generalize td_e g (a + 4) (a + 8) x y = W0 at *
  generalize td_e g (a + 8) a x y = W1 at *
  generalize td_e g a (a + 4) x y = W2 at *
  generalize td_A g a = Ar at *
  have p0 := td_wb w0 (by omega) r0'
  have p1 := td_wb w1 (by omega) r1'
  have p2 := td_wb w2 (by omega) r2'
  have q0 := td_wge w0 r0
  have q1 := td_wge w1 r1
  have q2 := td_wge w2 r2
  have s0 := td_wb p0.1 l0 l0'
  have s1 := td_wb p1.1 l1 l1'
  have s2 := td_wb p2.1 l2 l2'
  refine ⟨w0, w1, w2, by omega, by omega, by omega, hA, hle, by omega, ?_, by omega, ?_⟩
  · have : Ar * 1048576 = W0 * 1048576 + W1 * 1048576 + W2 * 1048576 := by omega
    omega
  · omega
/-- a covered pixel's middle lies within the box round the piece -/
theorem td_box {w0 w1 w2 d0 d1 d2 : Int} (h0 : 0 ≤ w0) (h1 : 0 ≤ w1) (h2 : 0 ≤ w2) (hs : 0 < w0 + w1 + w2) (hm : w0 * d0 + w1 * d1 + w2 * d2 = 0) : (d0 ≤ 0 ∨ d1 ≤ 0 ∨ d2 ≤ 0) ∧ (0 ≤ d0 ∨ 0 ≤ d1 ∨ 0 ≤ d2) := by
  constructor
  · rcases (show 0 < d0 ∨ d0 ≤ 0 by omega) with a | a
    · rcases (show 0 < d1 ∨ d1 ≤ 0 by omega) with b | b
      · rcases (show 0 < d2 ∨ d2 ≤ 0 by omega) with c | c
        · have := td_wge h0 (r := d0) (by omega)
          have := td_wge h1 (r := d1) (by omega)
          have := td_wge h2 (r := d2) (by omega)
          omega
        · omega
      · omega
    · omega
  · rcases (show d0 < 0 ∨ 0 ≤ d0 by omega) with a | a
    · rcases (show d1 < 0 ∨ 0 ≤ d1 by omega) with b | b
      · rcases (show d2 < 0 ∨ 0 ≤ d2 by omega) with c | c
        · have := td_wge h0 (r := -d0) (by omega)
          have := td_wge h1 (r := -d1) (by omega)
          have := td_wge h2 (r := -d2) (by omega)
          have e0 := Int.mul_neg w0 d0
          have e1 := Int.mul_neg w1 d1
          have e2 := Int.mul_neg w2 d2
          omega
        · omega
      · omega
    · omega
/-- colours -/
def td_v (n l : Nat) : Nat := n * l / 65536
def td_lit (t l : Nat) : Nat := (td_v (t / 65536) l * 256 + td_v (t / 256 % 256) l) * 256 + td_v (t % 256) l
def td_mx (f o c : Nat) : Nat := (f * c + o * (255 - c)) / 255
def td_mix (f o c : Nat) : Nat := (td_mx (f / 65536) (o / 65536) c * 256 + td_mx (f / 256 % 256) (o / 256 % 256) c) * 256 + td_mx (f % 256) (o % 256) c
def td_ov (t l c o : Nat) : Nat := if c = 255 then td_lit t l else td_mix (td_lit t l) o c
def td_near (g : Nat → Int32) (a : Nat) (x y : Int) : Nat := (td_num g a x y / td_A g a).toNat
def td_lig (g : Nat → Int32) (a : Nat) (x y : Int) : Nat := (td_ls g a x y / td_num g a x y).toNat
def td_x (i : Nat) : Int := 16 * (i : Int) + 8
/-- one piece at one pixel, on what is there -/
def td_stp (g : Nat → Int32) (a i j : Nat) (q : Nat × Nat) : Nat × Nat :=
  if td_cov g a (td_x i) (td_x j) then
    if td_near g a (td_x i) (td_x j) ≤ q.2 then q
    else (td_ov (g (a + 12)).toInt.toNat (td_lig g a (td_x i) (td_x j)) (g (a + 13)).toInt.toNat q.1, if (g (a + 13)).toInt.toNat = 255 then td_near g a (td_x i) (td_x j) else q.2)
  else q
/-- a pixel behind n pieces -/
def td_px (g : Nat → Int32) (bg i j : Nat) : Nat → Nat × Nat
  | 0 => (bg, 0)
  | n + 1 => td_stp g (14 * n) i j (td_px g bg i j n)
theorem td_v_le {n l : Nat} (hn : n < 256) (hl : l ≤ 65536) : td_v n l < 256 := by
  unfold td_v
  have : n * l ≤ n * 65536 := Nat.mul_le_mul_left n hl
  omega
theorem td_mx_le {f o c : Nat} (hf : f < 256) (ho : o < 256) (hc : c ≤ 255) : td_mx f o c < 256 := by
  unfold td_mx
  have h1 : f * c ≤ 255 * c := Nat.mul_le_mul_right c (by omega)
  have h2 : o * (255 - c) ≤ 255 * (255 - c) := Nat.mul_le_mul_right (255 - c) (by omega)
  omega
theorem td_lit_le {t l : Nat} (ht : t < 16777216) (hl : l ≤ 65536) : td_lit t l < 16777216 := by
  unfold td_lit
  have h0 := td_v_le (n := t / 65536) (l := l) (by omega) hl
  have h1 := td_v_le (n := t / 256 % 256) (l := l) (by omega) hl
  have h2 := td_v_le (n := t % 256) (l := l) (by omega) hl
  omega
theorem td_mix_le {f o c : Nat} (hf : f < 16777216) (ho : o < 16777216) (hc : c ≤ 255) : td_mix f o c < 16777216 := by
  unfold td_mix
  have h0 := td_mx_le (f := f / 65536) (o := o / 65536) (c := c) (by omega) (by omega) hc
  have h1 := td_mx_le (f := f / 256 % 256) (o := o / 256 % 256) (c := c) (by omega) (by omega) hc
  have h2 := td_mx_le (f := f % 256) (o := o % 256) (c := c) (by omega) (by omega) hc
  omega
theorem td_ov_le {t l c o : Nat} (ht : t < 16777216) (hl : l ≤ 65536) (hc : c ≤ 255) (ho : o < 16777216) : td_ov t l c o < 16777216 := by
  unfold td_ov
  split
  · exact td_lit_le ht hl
  · exact td_mix_le (td_lit_le ht hl) ho hc
end
section
/-! The machine's longs at a covered pixel; floor division; packed corners; colours by bits. -/
def td_fd (a b : Int64) : Int64 := if a ^^^ b < 0 ∧ ¬ a / b * b = a then a / b - 1 else a / b
def td_q (a b : Int64) : Int64 := if 0 < b then td_fd a b else 0
theorem td_neg64 (x : Int64) : x < 0 ↔ x.toInt < 0 := by rw [td_lt64]; exact Iff.rfl
theorem td_xneg (a b : Int64) : (a ^^^ b).toInt < 0 ↔ ¬ (a.toInt < 0 ↔ b.toInt < 0) := by
  have h1 : (a ^^^ b).toBitVec.msb = (a.toBitVec.msb ^^ b.toBitVec.msb) := by
    have : (a ^^^ b).toBitVec = a.toBitVec ^^^ b.toBitVec := rfl
    rw [this, BitVec.msb_xor]
  rw [BitVec.msb_eq_toInt, BitVec.msb_eq_toInt, BitVec.msb_eq_toInt] at h1
  have e : ∀ z : Int64, z.toBitVec.toInt = z.toInt := fun _ => rfl
  rw [e, e, e] at h1
  by_cases p : a.toInt < 0 <;> by_cases q : b.toInt < 0 <;> simp [p, q] at h1 ⊢ <;> omega
theorem td_b1 (a : Int64) : -9223372036854775808 ≤ a.toInt ∧ a.toInt < 9223372036854775808 := ⟨Int64.le_toInt a, Int64.toInt_lt a⟩
theorem td_fd_toInt {a b : Int64} (hb : 0 < b.toInt) : (td_fd a b).toInt = a.toInt / b.toInt := by
  have hm1 : b ≠ -1 := fun h => by
    rw [h] at hb
    exact absurd hb (by decide)
  have hq : (a / b).toInt = a.toInt.tdiv b.toInt := Int64.toInt_div_of_ne_right a b hm1
  have ra := td_b1 a
  have rb := td_b1 b
  have hte := Int.tdiv_eq_ediv (a := a.toInt) (b := b.toInt)
  have hx := td_xneg a b
  have hme := Int.mul_ediv_add_emod a.toInt b.toInt
  have hm0 := Int.emod_nonneg a.toInt (show b.toInt ≠ 0 by omega)
  have hm2 := Int.emod_lt_of_pos a.toInt hb
  unfold td_fd
  by_cases ha : 0 ≤ a.toInt
  · rw [if_neg (fun h => by
      have h1 := (td_neg64 _).mp h.1
      rw [hx] at h1
      exact h1 ⟨fun z => absurd ha (by omega), fun z => absurd hb (by omega)⟩), hq, hte, if_pos (Or.inl ha)]
    omega
  · have hxn : a ^^^ b < 0 := (td_neg64 _).mpr (hx.mpr (fun h => by
      have := h.mp (by omega)
      omega))
    have hs : b.toInt.sign = 1 := Int.sign_eq_one_of_pos hb
    have hdl : -9223372036854775808 ≤ a.toInt / b.toInt := by
      rcases (show a.toInt / b.toInt < -9223372036854775808 ∨ -9223372036854775808 ≤ a.toInt / b.toInt by omega) with h | h
      · have k1 := Int.mul_nonneg (a := b.toInt - 1) (b := -(a.toInt / b.toInt + 1)) (by omega) (by omega)
        have k2 : (b.toInt - 1) * -(a.toInt / b.toInt + 1) = (a.toInt / b.toInt + 1) - b.toInt * (a.toInt / b.toInt) - b.toInt := by grind
        omega
      · exact h
    have hdn : a.toInt / b.toInt < 0 := by
      rcases (show a.toInt / b.toInt < 0 ∨ 0 ≤ a.toInt / b.toInt by omega) with h | h
      · exact h
      · have := Int.mul_nonneg (Int.le_of_lt hb) h
        omega
    by_cases hd : b.toInt ∣ a.toInt
    · have e1 : (a / b).toInt = a.toInt / b.toInt := by rw [hq, hte, if_pos (Or.inr hd)]; omega
      have hmd : a.toInt / b.toInt * b.toInt = a.toInt := Int.ediv_mul_cancel hd
      rw [if_neg (fun h => h.2 (td_eq64 (by rw [td_mul64 (by rw [e1, hmd]; omega) (by rw [e1, hmd]; omega), e1, hmd]))), e1]
    · have e1 : (a / b).toInt = a.toInt / b.toInt + 1 := by rw [hq, hte, if_neg (by rintro (h | h); exact ha h; exact hd h), hs]
      have hne : ¬ a / b * b = a := fun h => hd (by
        have h2 : ((a / b) * b).toInt = a.toInt := by rw [h]
        have hl : (a.toInt / b.toInt + 1) * b.toInt = a.toInt / b.toInt * b.toInt + b.toInt := by grind
        have hc : a.toInt / b.toInt * b.toInt = b.toInt * (a.toInt / b.toInt) := Int.mul_comm _ _
        rw [td_mul64 (by rw [e1]; omega) (by rw [e1]; omega), e1] at h2
        exact ⟨a.toInt / b.toInt + 1, by rw [Int.mul_comm]; exact h2.symm⟩)
      have c1 : (1 : Int64).toInt = 1 := by decide
      rw [if_pos ⟨hxn, hne⟩, td_sub64 (by rw [e1, c1]; omega) (by rw [e1, c1]; omega), e1, c1]
      omega
theorem td_q_toInt {a b : Int64} (hb : 0 < b.toInt) : (td_q a b).toInt = a.toInt / b.toInt := by
  unfold td_q
  rw [if_pos (td_lt64.mpr (by rw [Int64.toInt_zero]; exact hb))]
  exact td_fd_toInt hb
/-- from 0 on, both divisions agree -/
theorem td_q_div {a b : Int64} (ha : 0 ≤ a.toInt) (hb : 0 < b.toInt) : td_q a b = a / b := by
  apply td_eq64
  have hm1 : b ≠ -1 := fun h => by
    rw [h] at hb
    exact absurd hb (by decide)
  rw [td_q_toInt hb, Int64.toInt_div_of_ne_right a b hm1, Int.tdiv_eq_ediv_of_nonneg ha]
theorem td_lNT {n : Nat} (h : n < 9223372036854775808) : (lN n).toInt = (n : Int) := pk_lT (by omega)
theorem td_lNof {a : Int64} {n : Nat} (h : a.toInt = (n : Int)) : a = lN n := td_eq64 (by rw [h, td_lNT (by have := (td_b1 a).2; omega)])
theorem td_q_nat {a b : Nat} (ha : a < 9223372036854775808) (h0 : 0 < b) (hb : b < 9223372036854775808) : td_q (lN a) (lN b) = lN (a / b) := by
  rw [td_q_div (by rw [td_lNT ha]; omega) (by rw [td_lNT hb]; omega)]
  exact pk_lDiv (by omega) h0 (by omega)
theorem td_xx (i : Nat) (hi : i < 48) : (lN (16 * i + 8)).toInt = td_x i ∧ -5000 ≤ td_x i ∧ td_x i ≤ 5000 := by
  rw [td_lNT (by omega)]
  unfold td_x
  omega
/-- the edges at a pixel, as longs -/
theorem td_edge {g : Nat → Int32} {a b i j : Nat} (ha : td_ok g a) (hb : td_ok g b) (hi : i < 48) (hj : j < 48) : (td_eL g a b (lN (16 * i + 8)) (lN (16 * j + 8))).toInt = td_e g a b (td_x i) (td_x j) := by
  obtain ⟨x1, x2, x3⟩ := td_xx i hi
  obtain ⟨y1, y2, y3⟩ := td_xx j hj
  have h := (td_eL_toInt (x := lN (16 * i + 8)) (y := lN (16 * j + 8)) ha hb (by omega) (by omega) (by omega) (by omega)).1
  rw [h, x1, y1]
theorem td_area {g : Nat → Int32} {a : Nat} (h0 : td_ok g a) (h1 : td_ok g (a + 4)) (h2 : td_ok g (a + 8)) : (td_AL g a).toInt = td_A g a := by
  obtain ⟨x1, x2, y1, y2, -⟩ := id h2
  have h := (td_eL_toInt (g := g) (a := a) (b := a + 4) (x := (g (a + 8)).toInt64) (y := (g (a + 8 + 1)).toInt64) h0 h1 (by rw [Int32.toInt_toInt64]; omega) (by rw [Int32.toInt_toInt64]; omega) (by rw [Int32.toInt_toInt64]; omega) (by rw [Int32.toInt_toInt64]; omega)).1
  rw [Int32.toInt_toInt64, Int32.toInt_toInt64] at h
  exact h
/-- what the machine works out where a piece covers a pixel -/
theorem td_mach {g : Nat → Int32} {a i j : Nat} (hp : td_pc g a) (hi : i < 48) (hj : j < 48) (hc : td_cov g a (td_x i) (td_x j)) {e0 e1 e2 h ls : Int64}
    (he0 : e0 = td_eL g (a + 4) (a + 8) (lN (16 * i + 8)) (lN (16 * j + 8))) (he1 : e1 = td_eL g (a + 8) a (lN (16 * i + 8)) (lN (16 * j + 8))) (he2 : e2 = td_eL g a (a + 4) (lN (16 * i + 8)) (lN (16 * j + 8)))
    (hh : h = e0 * (g (a + 2)).toInt64 + e1 * (g (a + 4 + 2)).toInt64 + e2 * (g (a + 8 + 2)).toInt64)
    (hls : ls = e0 * (g (a + 2)).toInt64 * (g (a + 3)).toInt64 + e1 * (g (a + 4 + 2)).toInt64 * (g (a + 4 + 3)).toInt64 + e2 * (g (a + 8 + 2)).toInt64 * (g (a + 8 + 3)).toInt64) :
    0 < h.toInt ∧ 0 < (td_AL g a).toInt ∧ 0 ≤ ls.toInt ∧ h / td_AL g a = lN (td_near g a (td_x i) (td_x j)) ∧ td_near g a (td_x i) (td_x j) ≤ 1048576 ∧ ls / h = lN (td_lig g a (td_x i) (td_x j)) ∧ td_lig g a (td_x i) (td_x j) ≤ 65536 := by
  obtain ⟨w0, w1, w2, v0, v1, v2, A0, A1, n0, n1, l0, l1⟩ := td_bounds hp hc
  obtain ⟨k0, k1, k2, -⟩ := id hp
  have E0 : e0.toInt = td_e g (a + 4) (a + 8) (td_x i) (td_x j) := by rw [he0]; exact td_edge k1 k2 hi hj
  have E1 : e1.toInt = td_e g (a + 8) a (td_x i) (td_x j) := by rw [he1]; exact td_edge k2 k0 hi hj
  have E2 : e2.toInt = td_e g a (a + 4) (td_x i) (td_x j) := by rw [he2]; exact td_edge k0 k1 hi hj
  have EA := td_area k0 k1 k2
  obtain ⟨-, -, -, -, r0, r0', m0, m0'⟩ := k0
  obtain ⟨-, -, -, -, r1, r1', m1, m1'⟩ := k1
  obtain ⟨-, -, -, -, r2, r2', m2, m2'⟩ := k2
  have hnum : td_num g a (td_x i) (td_x j) = td_e g (a + 4) (a + 8) (td_x i) (td_x j) * (g (a + 2)).toInt + td_e g (a + 8) a (td_x i) (td_x j) * (g (a + 4 + 2)).toInt + td_e g a (a + 4) (td_x i) (td_x j) * (g (a + 8 + 2)).toInt := rfl
  have hlsm : td_ls g a (td_x i) (td_x j) = td_e g (a + 4) (a + 8) (td_x i) (td_x j) * (g (a + 2)).toInt * (g (a + 3)).toInt + td_e g (a + 8) a (td_x i) (td_x j) * (g (a + 4 + 2)).toInt * (g (a + 4 + 3)).toInt + td_e g a (a + 4) (td_x i) (td_x j) * (g (a + 8 + 2)).toInt * (g (a + 8 + 3)).toInt := rfl
  unfold td_near td_lig
  generalize td_num g a (td_x i) (td_x j) = Nm at *
  generalize td_ls g a (td_x i) (td_x j) = Ls at *
  generalize td_A g a = Ar at *
  generalize td_AL g a = ArL at *
  generalize td_e g (a + 4) (a + 8) (td_x i) (td_x j) = W0 at *
  generalize td_e g (a + 8) a (td_x i) (td_x j) = W1 at *
  generalize td_e g a (a + 4) (td_x i) (td_x j) = W2 at *
  have p0 := td_wb w0 (by omega) r0'
  have p1 := td_wb w1 (by omega) r1'
  have p2 := td_wb w2 (by omega) r2'
  have s0 := td_wb p0.1 m0 m0'
  have s1 := td_wb p1.1 m1 m1'
  have s2 := td_wb p2.1 m2 m2'
  have P0 : (e0 * (g (a + 2)).toInt64).toInt = W0 * (g (a + 2)).toInt := by rw [td_mul64 (by rw [E0, Int32.toInt_toInt64]; omega) (by rw [E0, Int32.toInt_toInt64]; omega), E0, Int32.toInt_toInt64]
  have P1 : (e1 * (g (a + 4 + 2)).toInt64).toInt = W1 * (g (a + 4 + 2)).toInt := by rw [td_mul64 (by rw [E1, Int32.toInt_toInt64]; omega) (by rw [E1, Int32.toInt_toInt64]; omega), E1, Int32.toInt_toInt64]
  have P2 : (e2 * (g (a + 8 + 2)).toInt64).toInt = W2 * (g (a + 8 + 2)).toInt := by rw [td_mul64 (by rw [E2, Int32.toInt_toInt64]; omega) (by rw [E2, Int32.toInt_toInt64]; omega), E2, Int32.toInt_toInt64]
  have P01 : (e0 * (g (a + 2)).toInt64 + e1 * (g (a + 4 + 2)).toInt64).toInt = W0 * (g (a + 2)).toInt + W1 * (g (a + 4 + 2)).toInt := by rw [td_add64 (by rw [P0, P1]; omega) (by rw [P0, P1]; omega), P0, P1]
  have Ph : h.toInt = Nm := by rw [hh, td_add64 (by rw [P01, P2]; omega) (by rw [P01, P2]; omega), P01, P2, hnum]
  have S0 : (e0 * (g (a + 2)).toInt64 * (g (a + 3)).toInt64).toInt = W0 * (g (a + 2)).toInt * (g (a + 3)).toInt := by rw [td_mul64 (by rw [P0, Int32.toInt_toInt64]; omega) (by rw [P0, Int32.toInt_toInt64]; omega), P0, Int32.toInt_toInt64]
  have S1 : (e1 * (g (a + 4 + 2)).toInt64 * (g (a + 4 + 3)).toInt64).toInt = W1 * (g (a + 4 + 2)).toInt * (g (a + 4 + 3)).toInt := by rw [td_mul64 (by rw [P1, Int32.toInt_toInt64]; omega) (by rw [P1, Int32.toInt_toInt64]; omega), P1, Int32.toInt_toInt64]
  have S2 : (e2 * (g (a + 8 + 2)).toInt64 * (g (a + 8 + 3)).toInt64).toInt = W2 * (g (a + 8 + 2)).toInt * (g (a + 8 + 3)).toInt := by rw [td_mul64 (by rw [P2, Int32.toInt_toInt64]; omega) (by rw [P2, Int32.toInt_toInt64]; omega), P2, Int32.toInt_toInt64]
  have S01 : (e0 * (g (a + 2)).toInt64 * (g (a + 3)).toInt64 + e1 * (g (a + 4 + 2)).toInt64 * (g (a + 4 + 3)).toInt64).toInt = W0 * (g (a + 2)).toInt * (g (a + 3)).toInt + W1 * (g (a + 4 + 2)).toInt * (g (a + 4 + 3)).toInt := by rw [td_add64 (by rw [S0, S1]; omega) (by rw [S0, S1]; omega), S0, S1]
  have Pl : ls.toInt = Ls := by rw [hls, td_add64 (by rw [S01, S2]; omega) (by rw [S01, S2]; omega), S01, S2, hlsm]
  have d1 : 0 ≤ Nm / Ar := Int.ediv_nonneg (by omega) (by omega)
  have d2 : Nm / Ar ≤ 1048576 := by
    have := Int.ediv_le_of_le_mul (a := Nm) (b := 1048576) (c := Ar) A0 (by rw [Int.mul_comm]; exact n1)
    exact this
  have d3 : 0 ≤ Ls / Nm := Int.ediv_nonneg (by omega) (by omega)
  have d4 : Ls / Nm ≤ 65536 := Int.ediv_le_of_le_mul (by omega) (by rw [Int.mul_comm]; exact l1)
  have ne1 : ArL ≠ -1 := fun z => by
    rw [z] at EA
    have : ((-1 : Int64)).toInt = -1 := by decide
    omega
  have ne2 : h ≠ -1 := fun z => by
    rw [z] at Ph
    have : ((-1 : Int64)).toInt = -1 := by decide
    omega
  refine ⟨by omega, by omega, by omega, ?_, by omega, ?_, by omega⟩
  · apply td_lNof
    rw [Int64.toInt_div_of_ne_right _ _ ne1, Ph, EA, Int.tdiv_eq_ediv_of_nonneg (by omega), Int.toNat_of_nonneg d1]
  · apply td_lNof
    rw [Int64.toInt_div_of_ne_right _ _ ne2, Pl, Ph, Int.tdiv_eq_ediv_of_nonneg (by omega), Int.toNat_of_nonneg d3]
/-- colours by bits -/
theorem td_or (a b : Nat) : nI a ||| nI b = nI (a ||| b) := by
  apply Int32.toBitVec_inj.mp
  show (Int32.ofNat a).toBitVec ||| (Int32.ofNat b).toBitVec = (Int32.ofNat (a ||| b)).toBitVec
  show BitVec.ofNat 32 a ||| BitVec.ofNat 32 b = BitVec.ofNat 32 (a ||| b)
  exact BitVec.ofNat_or.symm
theorem td_or8 {a b : Nat} (k : Nat) (h : a < 2 ^ k) : nI a ||| nI (b * 2 ^ k) = nI (b * 2 ^ k + a) := by
  rw [td_or, Nat.or_comm, Nat.mul_comm, ← Nat.two_pow_add_eq_or_of_lt h]
/-- a packed corner -/
abbrev td_pk (x y r l : Int64) : Int64 := (((x + 4096) * 8193 + y + 4096) * 1048576 + r - 1) * 65537 + l
theorem td_as (a b c : Int64) : a + b - c = a + (b - c) := by rw [Int64.sub_eq_add_neg, Int64.sub_eq_add_neg, Int64.add_assoc]
theorem td_mad {a b : Int64} {A B : Nat} (M : Nat) (ha : a = lN A) (hb : b = lN B) : a * lN M + b = lN (A * M + B) := by rw [ha, hb, lN_mul, lN_add]
theorem td_pk_nat {x y r l : Int64} {X Y R L : Nat} (hx : x + 4096 = lN X) (hy : y + 4096 = lN Y) (hr : r - 1 = lN R) (hl : l = lN L) : td_pk x y r l = lN (((X * 8193 + Y) * 1048576 + R) * 65537 + L) := by
  have k1 : (8193 : Int64) = lN 8193 := rfl
  have k2 : (1048576 : Int64) = lN 1048576 := rfl
  have k3 : (65537 : Int64) = lN 65537 := rfl
  show (((x + 4096) * 8193 + y + 4096) * 1048576 + r - 1) * 65537 + l = _
  rw [Int64.add_assoc ((x + 4096) * 8193) y 4096, td_as, k1, k2, k3]
  exact td_mad 65537 (td_mad 1048576 (td_mad 8193 hx hy) hr) hl
theorem td_pd {A R M : Nat} (h : R < M) : (A * M + R) / M = A ∧ (A * M + R) % M = R := by
  have h0 : 0 < M := Nat.lt_of_le_of_lt (Nat.zero_le _) h
  constructor
  · rw [Nat.add_comm, Nat.add_mul_div_right _ _ h0, Nat.div_eq_of_lt h, Nat.zero_add]
  · rw [Nat.add_comm, Nat.add_mul_mod_self_right, Nat.mod_eq_of_lt h]
theorem td_mle {A A' R R' : Nat} (M : Nat) (h : A ≤ A') (h2 : R ≤ R') : A * M + R ≤ A' * M + R' := Nat.add_le_add (Nat.mul_le_mul_right M h) h2
theorem td_pb {X Y R L : Nat} (hX : X ≤ 8192) (hY : Y ≤ 8192) (hR : R < 1048576) (hL : L ≤ 65536) : ((X * 8193 + Y) * 1048576 + R) * 65537 + L < 2 ^ 63 ∧ (X * 8193 + Y) * 1048576 + R < 2 ^ 63 ∧ X * 8193 + Y < 2 ^ 63 := by
  have h1 : X * 8193 + Y ≤ 8192 * 8193 + 8192 := td_mle 8193 hX hY
  have h2 := td_mle 1048576 h1 (Nat.le_of_lt hR)
  have h3 := td_mle 65537 h2 hL
  exact ⟨Nat.lt_of_le_of_lt h3 (by decide), Nat.lt_of_le_of_lt h2 (by decide), Nat.lt_of_le_of_lt h1 (by decide)⟩
abbrev td_uw (p : Int64) : Int64 := p / 65537
abbrev td_up (p : Int64) : Int64 := td_uw p / 1048576
abbrev td_ux (p : Int64) : Int64 := td_up p / 8193 - 4096
abbrev td_uy (p : Int64) : Int64 := td_up p - td_up p / 8193 * 8193 - 4096
abbrev td_ur (p : Int64) : Int64 := td_uw p - td_uw p / 1048576 * 1048576 + 1
abbrev td_ul (p : Int64) : Int64 := p - p / 65537 * 65537
theorem td_unpkN {X Y R L : Nat} {P : Int64} (hX : X ≤ 8192) (hY : Y ≤ 8192) (hR : R < 1048576) (hL : L ≤ 65536) (e : P = lN (((X * 8193 + Y) * 1048576 + R) * 65537 + L)) : td_ux P = lN X - 4096 ∧ td_uy P = lN Y - 4096 ∧ td_ur P = lN R + 1 ∧ td_ul P = lN L := by
  obtain ⟨b1, b2, b3⟩ := td_pb hX hY hR hL
  have k1 : (8193 : Int64) = lN 8193 := rfl
  have k2 : (1048576 : Int64) = lN 1048576 := rfl
  have k3 : (65537 : Int64) = lN 65537 := rfl
  have s1 : 0 < 8193 := by decide
  have s2 : 0 < 1048576 := by decide
  have s3 : 0 < 65537 := by decide
  have t1 : 8193 < 2 ^ 63 := by decide
  have t2 : 1048576 < 2 ^ 63 := by decide
  have t3 : 65537 < 2 ^ 63 := by decide
  have q1 := td_pd (A := X) (R := Y) (M := 8193) (Nat.lt_of_le_of_lt hY (by decide))
  have q2 := td_pd (A := X * 8193 + Y) (R := R) (M := 1048576) hR
  have q3 := td_pd (A := (X * 8193 + Y) * 1048576 + R) (R := L) (M := 65537) (Nat.lt_of_le_of_lt hL (by decide))
  have d1 : td_uw P = lN ((X * 8193 + Y) * 1048576 + R) := by
    show P / 65537 = _
    rw [e, k3, pk_lDiv b1 s3 t3, q3.1]
  have d2 : td_up P = lN (X * 8193 + Y) := by
    show td_uw P / 1048576 = _
    rw [d1, k2, pk_lDiv b2 s2 t2, q2.1]
  refine ⟨?_, ?_, ?_, ?_⟩
  · show td_up P / 8193 - 4096 = _
    rw [d2, k1, pk_lDiv b3 s1 t1, q1.1]
  · show td_up P - td_up P / 8193 * 8193 - 4096 = _
    rw [d2, k1, pk_lRem b3 s1 t1, q1.2]
  · show td_uw P - td_uw P / 1048576 * 1048576 + 1 = _
    rw [d1, k2, pk_lRem b2 s2 t2, q2.2]
  · show P - P / 65537 * 65537 = _
    rw [e, k3, pk_lRem b1 s3 t3, q3.2]
theorem td_c4096 : (4096 : Int64).toInt = 4096 := by decide
theorem td_c1 : (1 : Int64).toInt = 1 := by decide
theorem td_unpk {x y r l : Int64} (x1 : -4096 ≤ x.toInt) (x2 : x.toInt ≤ 4096) (y1 : -4096 ≤ y.toInt) (y2 : y.toInt ≤ 4096) (r1 : 1 ≤ r.toInt) (r2 : r.toInt ≤ 1048576) (l1 : 0 ≤ l.toInt) (l2 : l.toInt ≤ 65536) :
    td_ux (td_pk x y r l) = x ∧ td_uy (td_pk x y r l) = y ∧ td_ur (td_pk x y r l) = r ∧ td_ul (td_pk x y r l) = l := by
  have hx : x + 4096 = lN (x.toInt + 4096).toNat := td_lNof (by rw [td_add64 (by rw [td_c4096]; omega) (by rw [td_c4096]; omega), td_c4096]; omega)
  have hy : y + 4096 = lN (y.toInt + 4096).toNat := td_lNof (by rw [td_add64 (by rw [td_c4096]; omega) (by rw [td_c4096]; omega), td_c4096]; omega)
  have hr : r - 1 = lN (r.toInt - 1).toNat := td_lNof (by rw [td_sub64 (by rw [td_c1]; omega) (by rw [td_c1]; omega), td_c1]; omega)
  have hl : l = lN l.toInt.toNat := td_lNof (by omega)
  obtain ⟨u1, u2, u3, u4⟩ := td_unpkN (by omega) (by omega) (by omega) (by omega) (td_pk_nat hx hy hr hl)
  refine ⟨?_, ?_, ?_, ?_⟩
  · rw [u1, ← hx]
    apply td_eq64
    have h := td_add64 (a := x) (b := 4096) (by rw [td_c4096]; omega) (by rw [td_c4096]; omega)
    rw [td_c4096] at h
    rw [td_sub64 (by rw [h, td_c4096]; omega) (by rw [h, td_c4096]; omega), h, td_c4096]; omega
  · rw [u2, ← hy]
    apply td_eq64
    have h := td_add64 (a := y) (b := 4096) (by rw [td_c4096]; omega) (by rw [td_c4096]; omega)
    rw [td_c4096] at h
    rw [td_sub64 (by rw [h, td_c4096]; omega) (by rw [h, td_c4096]; omega), h, td_c4096]; omega
  · rw [u3, ← hr]
    apply td_eq64
    have h := td_sub64 (a := r) (b := 1) (by rw [td_c1]; omega) (by rw [td_c1]; omega)
    rw [td_c1] at h
    rw [td_add64 (by rw [h, td_c1]; omega) (by rw [h, td_c1]; omega), h, td_c1]; omega
  · rw [u4, ← hl]
end
section
/-! What the class's own methods answer, in the machine's longs. -/
abbrev td_ca (X Y : Nat → Int64) : Int64 := (X 1 - X 0) * (Y 2 - Y 0) - (X 2 - X 0) * (Y 1 - Y 0)
abbrev td_wr (U R : Nat → Int64) : Int64 := U 0 * R 0 + U 1 * R 1 + U 2 * R 2
abbrev td_wl (U R L : Nat → Int64) : Int64 := U 0 * R 0 * L 0 + U 1 * R 1 * L 1 + U 2 * R 2 * L 2
abbrev td_mn (X : Nat → Int64) : Int64 := if (if X 2 < X 1 then X 2 else X 1) < X 0 then (if X 2 < X 1 then X 2 else X 1) else X 0
abbrev td_mxx (X : Nat → Int64) : Int64 := if (if X 2 < X 1 then X 1 else X 2) < X 0 then X 0 else (if X 2 < X 1 then X 1 else X 2)
abbrev td_fm (p : Int64) : Int32 := (td_q (p - 8 + 16 - 1) 16).toInt32
abbrev td_lm (p : Int64) : Int32 := (td_q (p - 8) 16).toInt32
abbrev td_ce (X Y : Nat → Int64) (k : Nat) (x y : Int64) : Int64 := (X ((k + 2) % 3) - X ((k + 1) % 3)) * (y - Y ((k + 1) % 3)) - (Y ((k + 2) % 3) - Y ((k + 1) % 3)) * (x - X ((k + 1) % 3))
abbrev td_cc (X Y : Nat → Int64) (k : Nat) (x y : Int64) : Prop := 0 < td_ce X Y k x y ∨ td_ce X Y k x y = 0 ∧ (Y ((k + 2) % 3) < Y ((k + 1) % 3) ∨ Y ((k + 2) % 3) = Y ((k + 1) % 3) ∧ X ((k + 1) % 3) < X ((k + 2) % 3))
abbrev td_cc3 (X Y : Nat → Int64) (x y : Int64) : Prop := td_cc X Y 0 x y ∧ td_cc X Y 1 x y ∧ td_cc X Y 2 x y
theorem td_pos64 {e : Int64} (h1 : ¬ e < 0) (h2 : ¬ e = 0) : 0 < e := by
  rw [td_lt64] at *
  have : ¬ e.toInt = (0 : Int64).toInt := fun h => h2 (td_eq64 h)
  omega
theorem td_n1 {e : Int64} {Q : Prop} (h : e < 0) (z : 0 < e ∨ e = 0 ∧ Q) : False := by
  rcases z with z | ⟨z, -⟩
  · rw [td_lt64] at h z; omega
  · rw [z] at h; exact absurd h (by decide)
theorem td_n2 {e : Int64} {Q : Prop} (h : e = 0) (hq : ¬ Q) (z : 0 < e ∨ e = 0 ∧ Q) : False := by
  rcases z with z | ⟨-, z⟩
  · rw [h] at z; exact absurd z (by decide)
  · exact hq z
theorem td_ncc {X Y : Nat → Int64} {x y : Int64} {k : Nat} (hk : k < 3) (z : td_cc3 X Y x y) (n : td_cc X Y k x y → False) : False := by
  rcases (show k = 0 ∨ k = 1 ∨ k = 2 by omega) with rfl | rfl | rfl
  · exact n z.1
  · exact n z.2.1
  · exact n z.2.2
theorem td_wst {f nW : Nat → Int64} {k : Nat} {v : Int64} (h : ∀ t, t < k → nW t = f t) (hv : v = f k) : ∀ t, t < k + 1 → vp_updL nW k v t = f t := fun t ht => by
  unfold vp_updL
  by_cases e : t = k
  · rw [if_pos e, e]; exact hv
  · rw [if_neg e]; exact h t (by omega)
theorem td_nb {n l : Nat} (hn : n < 256) (hl : l ≤ 65536) : n * l < 9223372036854775808 := by
  have := Nat.mul_le_mul (show n ≤ 255 by omega) hl
  omega
theorem td_nb2 {f o c : Nat} (hf : f < 256) (ho : o < 256) (hc : c ≤ 255) : f * c + o * (255 - c) < 9223372036854775808 := by
  have h1 := Nat.mul_le_mul (show f ≤ 255 by omega) hc
  have h2 := Nat.mul_le_mul (show o ≤ 255 by omega) (show 255 - c ≤ 255 by omega)
  omega
theorem td_bz_fit {P : Prop} [Decidable P] : fits .boolean (.int (td_bz P)) = true := by
  by_cases h : P
  · rw [td_bz1 h]; rfl
  · rw [td_bz0 h]; rfl
end
section
/-! Pixels in a row of w: places, filled parts, drawn parts. -/
theorem td_ix {i j w h : Nat} (hi : i < w) (hj : j < h) : j * w + i < w * h := by
  have h1 : (j + 1) * w ≤ h * w := Nat.mul_le_mul_right w hj
  have h2 : (j + 1) * w = j * w + w := Nat.succ_mul j w
  have h3 : h * w = w * h := Nat.mul_comm h w
  omega
theorem td_inj {i j x y w : Nat} (hi : i < w) (hx : x < w) (h : j * w + i = y * w + x) : i = x ∧ j = y := by
  have h1 : (j * w + i) % w = i := by rw [Nat.add_comm, Nat.add_mul_mod_self_right]; exact Nat.mod_eq_of_lt hi
  have h2 : (y * w + x) % w = x := by rw [Nat.add_comm, Nat.add_mul_mod_self_right]; exact Nat.mod_eq_of_lt hx
  have e : i = x := by rw [← h1, ← h2, h]
  subst e
  have h3 : j * w = y * w := by omega
  exact ⟨rfl, Nat.eq_of_mul_eq_mul_right (by omega) h3⟩
theorem td_upd_at {f : Nat → Int32} {i j x y w : Nat} {v : Int32} (hi : i < w) (hx : x < w) : upd f (y * w + x) v (j * w + i) = if i = x ∧ j = y then v else f (j * w + i) := by
  unfold upd
  by_cases h : i = x ∧ j = y
  · rw [if_pos h, if_pos (by rw [h.1, h.2])]
  · rw [if_neg h, if_neg (fun z => h (td_inj hi hx z))]
/-- a part of the picture is filled with b: rows tp .. y - 1, columns lf .. rt - 1, and of row y the columns lf .. x - 1 -/
def td_fI (w h lf tp rt y x : Nat) (b : Int32) (f0 f : Nat → Int32) : Prop := ∀ i j, i < w → j < h → f (j * w + i) = if ((lf ≤ i ∧ i < rt) ∧ tp ≤ j ∧ j < y) ∨ (j = y ∧ lf ≤ i ∧ i < x) then b else f0 (j * w + i)
theorem td_fI0 {w h lf tp rt : Nat} {b : Int32} {f : Nat → Int32} : td_fI w h lf tp rt tp lf b f f := fun i j _ _ => by rw [if_neg (by omega)]
theorem td_fI_put {w h lf tp rt y x : Nat} {b : Int32} {f0 f : Nat → Int32} (hx : x < w) (h1 : lf ≤ x) (h2 : x < rt) (H : td_fI w h lf tp rt y x b f0 f) : td_fI w h lf tp rt y (x + 1) b f0 (upd f (y * w + x) b) := fun i j hi hj => by
  rw [td_upd_at hi hx, H i j hi hj]
  by_cases e : i = x ∧ j = y
  · rw [if_pos e, if_pos (by omega)]
  · rw [if_neg e]
    by_cases q : ((lf ≤ i ∧ i < rt) ∧ tp ≤ j ∧ j < y) ∨ (j = y ∧ lf ≤ i ∧ i < x)
    · rw [if_pos q, if_pos (by omega)]
    · rw [if_neg q, if_neg (by omega)]
theorem td_fI_row {w h lf tp rt y : Nat} {b : Int32} {f0 f : Nat → Int32} (hy : tp ≤ y) (H : td_fI w h lf tp rt y rt b f0 f) : td_fI w h lf tp rt (y + 1) lf b f0 f := fun i j hi hj => by
  rw [H i j hi hj]
  by_cases q : ((lf ≤ i ∧ i < rt) ∧ tp ≤ j ∧ j < y) ∨ (j = y ∧ lf ≤ i ∧ i < rt)
  · rw [if_pos q, if_pos (by omega)]
  · rw [if_neg q, if_neg (by omega)]
/-- a piece is drawn on a part of a tile: before row Y, and of row Y before column X -/
def td_dI (w h lf tp rt bm : Nat) (st q : Nat → Nat → Nat × Nat) (c0 n0 : Nat → Int32) (Y X : Nat) (fc fn : Nat → Int32) : Prop := ∀ i j, i < w → j < h →
  ((lf ≤ i ∧ i < rt) ∧ tp ≤ j ∧ j < bm → fc (j * w + i) = nI (if j < Y ∨ j = Y ∧ i < X then st i j else q i j).1 ∧ fn (j * w + i) = nI (if j < Y ∨ j = Y ∧ i < X then st i j else q i j).2) ∧
  (¬ ((lf ≤ i ∧ i < rt) ∧ tp ≤ j ∧ j < bm) → fc (j * w + i) = c0 (j * w + i) ∧ fn (j * w + i) = n0 (j * w + i))
theorem td_dI_to {w h lf tp rt bm : Nat} {st q : Nat → Nat → Nat × Nat} {c0 n0 : Nat → Int32} {Y X Y' X' : Nat} {fc fn : Nat → Int32} (H : td_dI w h lf tp rt bm st q c0 n0 Y X fc fn)
    (hs : ∀ i j, (lf ≤ i ∧ i < rt) ∧ tp ≤ j ∧ j < bm → ¬ (j < Y ∨ j = Y ∧ i < X) → (j < Y' ∨ j = Y' ∧ i < X') → st i j = q i j) (hm : ∀ i j, (lf ≤ i ∧ i < rt) ∧ tp ≤ j ∧ j < bm → (j < Y ∨ j = Y ∧ i < X) → (j < Y' ∨ j = Y' ∧ i < X')) : td_dI w h lf tp rt bm st q c0 n0 Y' X' fc fn := fun i j hi hj => by
  obtain ⟨h1, h2⟩ := H i j hi hj
  refine ⟨fun ht => ?_, h2⟩
  have h3 := h1 ht
  by_cases a : j < Y ∨ j = Y ∧ i < X
  · rw [if_pos a] at h3
    rw [if_pos (hm i j ht a)]
    exact h3
  · rw [if_neg a] at h3
    by_cases b : j < Y' ∨ j = Y' ∧ i < X'
    · rw [if_pos b, hs i j ht a b]; exact h3
    · rw [if_neg b]; exact h3
theorem td_dI_put {w h lf tp rt bm : Nat} {st q : Nat → Nat → Nat × Nat} {c0 n0 : Nat → Int32} {Y X : Nat} {fc fn gc gn : Nat → Int32} (hX : X < w) (hY : Y < h) (ht : (lf ≤ X ∧ X < rt) ∧ tp ≤ Y ∧ Y < bm) (H : td_dI w h lf tp rt bm st q c0 n0 Y X fc fn)
    (ho : ∀ t, t ≠ Y * w + X → gc t = fc t ∧ gn t = fn t) (hc : gc (Y * w + X) = nI (st X Y).1) (hn : gn (Y * w + X) = nI (st X Y).2) : td_dI w h lf tp rt bm st q c0 n0 Y (X + 1) gc gn := fun i j hi hj => by
  by_cases e : i = X ∧ j = Y
  · obtain ⟨rfl, rfl⟩ := e
    refine ⟨fun _ => ?_, fun z => absurd ht z⟩
    rw [if_pos (by omega)]
    exact ⟨hc, hn⟩
  · have hne : j * w + i ≠ Y * w + X := fun z => e (td_inj hi hX z)
    obtain ⟨o1, o2⟩ := ho _ hne
    obtain ⟨h1, h2⟩ := H i j hi hj
    rw [o1, o2]
    refine ⟨fun z => ?_, h2⟩
    have h3 := h1 z
    by_cases a : j < Y ∨ j = Y ∧ i < X
    · rw [if_pos a] at h3; rw [if_pos (by omega)]; exact h3
    · rw [if_neg a] at h3; rw [if_neg (by omega)]; exact h3
/-- what is there at a pixel of the tile in work -/
theorem td_dI_at {w h lf tp rt bm : Nat} {st q : Nat → Nat → Nat × Nat} {c0 n0 : Nat → Int32} {Y X : Nat} {fc fn : Nat → Int32} (hX : X < w) (hY : Y < h) (ht : (lf ≤ X ∧ X < rt) ∧ tp ≤ Y ∧ Y < bm) (H : td_dI w h lf tp rt bm st q c0 n0 Y X fc fn) : fc (Y * w + X) = nI (q X Y).1 ∧ fn (Y * w + X) = nI (q X Y).2 := by
  have h1 := (H X Y hX hY).1 ht
  rw [if_neg (by omega)] at h1
  exact h1
/-- numbers of ints -/
theorem td_nat {x : Int32} {b : Nat} (h : 0 ≤ x ∧ x ≤ nI b) (hb : b < 2 ^ 31) : ∃ X : Nat, X ≤ b ∧ x = nI X := nI_of2 (nI_toInt hb) (Int32.not_lt.mpr h.1) h.2
theorem td_tn {x : Int32} {X : Nat} (e : x = nI X) (h : X < 2 ^ 31) : x.toInt.toNat = X := by rw [e, nI_toInt h]; rfl
theorem td_div8 {x : Int32} {X : Nat} (e : x = nI X) (h : X < 2 ^ 31) : x / 8 = nI (X / 8) := by rw [e]; exact pk_div (d := 8) h (by decide) (by decide)
theorem td_min32 {a b : Nat} (ha : a < 2 ^ 31) (hb : b < 2 ^ 31) : (if nI a < nI b then nI a else nI b) = nI (if a < b then a else b) := by
  by_cases h : a < b
  · rw [if_pos h, if_pos (nI_lt h hb)]
  · rw [if_neg h, if_neg (nI_nlt (by omega) ha)]
theorem td_tix {a b ta th : Nat} (h1 : a < th) (h2 : b < ta) : a * ta + b < ta * th := by
  have h3 : (a + 1) * ta ≤ th * ta := Nat.mul_le_mul_right ta h1
  have h4 : (a + 1) * ta = a * ta + ta := Nat.succ_mul a ta
  have h5 : th * ta = ta * th := Nat.mul_comm th ta
  omega
theorem td_tile {a b ta k : Nat} (h2 : b < ta) : a * ta + b = k ↔ a = k / ta ∧ b = k % ta := by
  have hp : 0 < ta := by omega
  constructor
  · intro h
    subst h
    constructor
    · rw [Nat.add_comm, Nat.add_mul_div_right _ _ hp, Nat.div_eq_of_lt h2]; omega
    · rw [Nat.add_comm, Nat.add_mul_mod_self_right, Nat.mod_eq_of_lt h2]
  · rintro ⟨rfl, rfl⟩
    have := Nat.div_add_mod' k ta
    omega
theorem td_modk {k ta : Nat} : k - k / ta * ta = k % ta := by
  have := Nat.div_add_mod' k ta
  omega
theorem td_wh {w h : Nat} (hw : w ≤ 48) (hh : h ≤ 48) : w * h ≤ 2304 := by
  have := Nat.mul_le_mul hw hh
  omega
theorem td_tt {a b : Nat} (ha : a ≤ 6) (hb : b ≤ 6) : a * b ≤ 36 := by
  have := Nat.mul_le_mul ha hb
  omega
theorem td_zst {f : Nat → Int32} {t : Nat} (h : ∀ z, z < t → f z = 0) : ∀ z, z < t + 1 → upd f t 0 z = 0 := fun z hz => by
  unfold upd
  by_cases e : z = t
  · rw [if_pos e]
  · rw [if_neg e]; exact h z (by omega)
end
section
/-! The class's corners, unpacked, are those of the piece at a in g: what it works out at a pixel is what the document asks. -/
def td_sc (g : Nat → Int32) (a : Nat) (X Y R L : Nat → Int64) : Prop := (X 0 = (g a).toInt64 ∧ X 1 = (g (a + 4)).toInt64 ∧ X 2 = (g (a + 8)).toInt64) ∧ (Y 0 = (g (a + 1)).toInt64 ∧ Y 1 = (g (a + 4 + 1)).toInt64 ∧ Y 2 = (g (a + 8 + 1)).toInt64) ∧ (R 0 = (g (a + 2)).toInt64 ∧ R 1 = (g (a + 4 + 2)).toInt64 ∧ R 2 = (g (a + 8 + 2)).toInt64) ∧ (L 0 = (g (a + 3)).toInt64 ∧ L 1 = (g (a + 4 + 3)).toInt64 ∧ L 2 = (g (a + 8 + 3)).toInt64)
theorem td_eLs {g : Nat → Int32} {a b : Nat} {x y : Int64} (ha : td_ok g a) (hb : td_ok g b) : td_eL g a b x y = ((g b).toInt64 - (g a).toInt64) * (y - (g (a + 1)).toInt64) - ((g (b + 1)).toInt64 - (g (a + 1)).toInt64) * (x - (g a).toInt64) := by
  obtain ⟨a1, a2, a3, a4, -⟩ := ha
  obtain ⟨b1, b2, b3, b4, -⟩ := hb
  show (g b - g a).toInt64 * _ - (g (b + 1) - g (a + 1)).toInt64 * _ = _
  rw [td_s64 (by omega) (by omega), td_s64 (by omega) (by omega)]
theorem td_ce0 {g : Nat → Int32} {a : Nat} {X Y R L : Nat → Int64} {x y : Int64} (hp : td_pc g a) (hs : td_sc g a X Y R L) : td_ce X Y 0 x y = td_eL g (a + 4) (a + 8) x y := by
  obtain ⟨⟨x0, x1, x2⟩, ⟨y0, y1, y2⟩, -⟩ := hs
  rw [td_eLs hp.2.1 hp.2.2.1]
  show (X 2 - X 1) * (y - Y 1) - (Y 2 - Y 1) * (x - X 1) = _
  rw [x1, x2, y1, y2]
theorem td_ce1 {g : Nat → Int32} {a : Nat} {X Y R L : Nat → Int64} {x y : Int64} (hp : td_pc g a) (hs : td_sc g a X Y R L) : td_ce X Y 1 x y = td_eL g (a + 8) a x y := by
  obtain ⟨⟨x0, x1, x2⟩, ⟨y0, y1, y2⟩, -⟩ := hs
  rw [td_eLs hp.2.2.1 hp.1]
  show (X 0 - X 2) * (y - Y 2) - (Y 0 - Y 2) * (x - X 2) = _
  rw [x0, x2, y0, y2]
theorem td_ce2 {g : Nat → Int32} {a : Nat} {X Y R L : Nat → Int64} {x y : Int64} (hp : td_pc g a) (hs : td_sc g a X Y R L) : td_ce X Y 2 x y = td_eL g a (a + 4) x y := by
  obtain ⟨⟨x0, x1, x2⟩, ⟨y0, y1, y2⟩, -⟩ := hs
  rw [td_eLs hp.1 hp.2.1]
  show (X 1 - X 0) * (y - Y 0) - (Y 1 - Y 0) * (x - X 0) = _
  rw [x0, x1, y0, y1]
theorem td_hL {g : Nat → Int32} {a b i j : Nat} (ha : td_ok g a) (hb : td_ok g b) (hi : i < 48) (hj : j < 48) {xa xb ya yb : Int64} (h1 : xa = (g a).toInt64) (h2 : xb = (g b).toInt64) (h3 : ya = (g (a + 1)).toInt64) (h4 : yb = (g (b + 1)).toInt64) :
    (0 < td_eL g a b (lN (16 * i + 8)) (lN (16 * j + 8)) ∨ td_eL g a b (lN (16 * i + 8)) (lN (16 * j + 8)) = 0 ∧ (yb < ya ∨ yb = ya ∧ xa < xb)) ↔ td_h g a b (td_x i) (td_x j) := by
  have e := td_edge ha hb hi hj
  have z : (0 : Int64).toInt = 0 := rfl
  have q1 : (0 < td_eL g a b (lN (16 * i + 8)) (lN (16 * j + 8))) ↔ 0 < td_e g a b (td_x i) (td_x j) := by rw [td_lt64, e, z]
  have q2 : (td_eL g a b (lN (16 * i + 8)) (lN (16 * j + 8)) = 0) ↔ td_e g a b (td_x i) (td_x j) = 0 := by rw [← e]; exact ⟨fun h => by rw [h]; rfl, fun h => td_eq64 h⟩
  have q3 : yb < ya ↔ (g (b + 1)).toInt < (g (a + 1)).toInt := by rw [td_lt64, h3, h4, Int32.toInt_toInt64, Int32.toInt_toInt64]
  have q4 : yb = ya ↔ (g (b + 1)).toInt = (g (a + 1)).toInt := by
    rw [h3, h4]
    exact ⟨fun h => by have := congrArg Int64.toInt h; rw [Int32.toInt_toInt64, Int32.toInt_toInt64] at this; exact this, fun h => td_eq64 (by rw [Int32.toInt_toInt64, Int32.toInt_toInt64]; exact h)⟩
  have q5 : xa < xb ↔ (g a).toInt < (g b).toInt := by rw [td_lt64, h1, h2, Int32.toInt_toInt64, Int32.toInt_toInt64]
  show _ ↔ (0 < td_e g a b (td_x i) (td_x j) ∨ td_e g a b (td_x i) (td_x j) = 0 ∧ ((g (b + 1)).toInt < (g (a + 1)).toInt ∨ (g (b + 1)).toInt = (g (a + 1)).toInt ∧ (g a).toInt < (g b).toInt))
  rw [q1, q2, q3, q4, q5]
theorem td_cc_cov {g : Nat → Int32} {a i j : Nat} {X Y R L : Nat → Int64} (hp : td_pc g a) (hs : td_sc g a X Y R L) (hi : i < 48) (hj : j < 48) : td_cc3 X Y (lN (16 * i + 8)) (lN (16 * j + 8)) ↔ td_cov g a (td_x i) (td_x j) := by
  have e0 := td_ce0 (x := lN (16 * i + 8)) (y := lN (16 * j + 8)) hp hs
  have e1 := td_ce1 (x := lN (16 * i + 8)) (y := lN (16 * j + 8)) hp hs
  have e2 := td_ce2 (x := lN (16 * i + 8)) (y := lN (16 * j + 8)) hp hs
  obtain ⟨⟨x0, x1, x2⟩, ⟨y0, y1, y2⟩, -⟩ := hs
  have k0 := td_hL (i := i) (j := j) hp.2.1 hp.2.2.1 hi hj x1 x2 y1 y2
  have k1 := td_hL (i := i) (j := j) hp.2.2.1 hp.1 hi hj x2 x0 y2 y0
  have k2 := td_hL (i := i) (j := j) hp.1 hp.2.1 hi hj x0 x1 y0 y1
  rw [← e0] at k0
  rw [← e1] at k1
  rw [← e2] at k2
  exact and_congr k0 (and_congr k1 k2)
theorem td_caE {g : Nat → Int32} {a : Nat} {X Y R L : Nat → Int64} (hp : td_pc g a) (hs : td_sc g a X Y R L) : td_ca X Y = td_AL g a := by
  obtain ⟨⟨x0, x1, x2⟩, ⟨y0, y1, y2⟩, -⟩ := hs
  show _ = td_eL g a (a + 4) (g (a + 8)).toInt64 (g (a + 8 + 1)).toInt64
  rw [td_eLs hp.1 hp.2.1]
  show (X 1 - X 0) * (Y 2 - Y 0) - (X 2 - X 0) * (Y 1 - Y 0) = _
  rw [x0, x1, x2, y0, y1, y2, Int64.mul_comm ((g (a + 8)).toInt64 - (g a).toInt64)]
/-- the class's nearness and light where a piece covers a pixel -/
theorem td_clsN {g : Nat → Int32} {a i j : Nat} {X Y R L U : Nat → Int64} (hp : td_pc g a) (hs : td_sc g a X Y R L) (hi : i < 48) (hj : j < 48) (hc : td_cov g a (td_x i) (td_x j)) (hU : ∀ t, t < 3 → U t = td_ce X Y t (lN (16 * i + 8)) (lN (16 * j + 8))) :
    td_q (td_wr U R) (td_ca X Y) = lN (td_near g a (td_x i) (td_x j)) ∧ td_near g a (td_x i) (td_x j) ≤ 1048576 ∧ td_q (td_wl U R L) (td_wr U R) = lN (td_lig g a (td_x i) (td_x j)) ∧ td_lig g a (td_x i) (td_x j) ≤ 65536 := by
  have e0 := (hU 0 (by decide)).trans (td_ce0 (x := lN (16 * i + 8)) (y := lN (16 * j + 8)) hp hs)
  have e1 := (hU 1 (by decide)).trans (td_ce1 (x := lN (16 * i + 8)) (y := lN (16 * j + 8)) hp hs)
  have e2 := (hU 2 (by decide)).trans (td_ce2 (x := lN (16 * i + 8)) (y := lN (16 * j + 8)) hp hs)
  have eA := td_caE hp hs
  obtain ⟨-, -, ⟨r0, r1, r2⟩, ⟨l0, l1, l2⟩⟩ := hs
  obtain ⟨m1, m2, m3, m4, m5, m6, m7⟩ := td_mach (h := td_wr U R) (ls := td_wl U R L) hp hi hj hc e0 e1 e2 (by show U 0 * R 0 + U 1 * R 1 + U 2 * R 2 = _; rw [r0, r1, r2]) (by show U 0 * R 0 * L 0 + U 1 * R 1 * L 1 + U 2 * R 2 * L 2 = _; rw [r0, r1, r2, l0, l1, l2])
  refine ⟨?_, m5, ?_, m7⟩
  · rw [eA, td_q_div (by omega) m2, m4]
  · rw [td_q_div m3 m1, m6]
/-- the box -/
theorem td_mn_le (X : Nat → Int64) : (td_mn X).toInt ≤ (X 0).toInt ∧ (td_mn X).toInt ≤ (X 1).toInt ∧ (td_mn X).toInt ≤ (X 2).toInt ∧ (td_mn X = X 0 ∨ td_mn X = X 1 ∨ td_mn X = X 2) := by
  unfold td_mn
  by_cases h : X 2 < X 1
  · simp only [if_pos h]
    by_cases k : X 2 < X 0
    · simp only [if_pos k]; rw [td_lt64] at h k; exact ⟨by omega, by omega, by omega, by simp⟩
    · simp only [if_neg k]; rw [td_lt64] at h k; exact ⟨by omega, by omega, by omega, by simp⟩
  · simp only [if_neg h]
    by_cases k : X 1 < X 0
    · simp only [if_pos k]; rw [td_lt64] at h k; exact ⟨by omega, by omega, by omega, by simp⟩
    · simp only [if_neg k]; rw [td_lt64] at h k; exact ⟨by omega, by omega, by omega, by simp⟩
theorem td_mxx_le (X : Nat → Int64) : (X 0).toInt ≤ (td_mxx X).toInt ∧ (X 1).toInt ≤ (td_mxx X).toInt ∧ (X 2).toInt ≤ (td_mxx X).toInt ∧ (td_mxx X = X 0 ∨ td_mxx X = X 1 ∨ td_mxx X = X 2) := by
  unfold td_mxx
  by_cases h : X 2 < X 1
  · simp only [if_pos h]
    by_cases k : X 1 < X 0
    · simp only [if_pos k]; rw [td_lt64] at h k; exact ⟨by omega, by omega, by omega, by simp⟩
    · simp only [if_neg k]; rw [td_lt64] at h k; exact ⟨by omega, by omega, by omega, by simp⟩
  · simp only [if_neg h]
    by_cases k : X 2 < X 0
    · simp only [if_pos k]; rw [td_lt64] at h k; exact ⟨by omega, by omega, by omega, by simp⟩
    · simp only [if_neg k]; rw [td_lt64] at h k; exact ⟨by omega, by omega, by omega, by simp⟩
theorem td_i32 {x : Int64} (h1 : -2147483648 ≤ x.toInt) (h2 : x.toInt < 2147483648) : x.toInt32.toInt = x.toInt := by
  rw [Int64.toInt_toInt32, td_bm32 h1 h2]
theorem td_fm_toInt {p : Int64} (h1 : -4096 ≤ p.toInt) (h2 : p.toInt ≤ 4096) : (td_fm p).toInt = (p.toInt + 7) / 16 := by
  have c8 : (8 : Int64).toInt = 8 := by decide
  have c16 : (16 : Int64).toInt = 16 := by decide
  have c1 : (1 : Int64).toInt = 1 := by decide
  have a1 : (p - 8).toInt = p.toInt - 8 := by rw [td_sub64 (by rw [c8]; omega) (by rw [c8]; omega), c8]
  have a2 : (p - 8 + 16).toInt = p.toInt + 8 := by rw [td_add64 (by rw [a1, c16]; omega) (by rw [a1, c16]; omega), a1, c16]; omega
  have a3 : (p - 8 + 16 - 1).toInt = p.toInt + 7 := by rw [td_sub64 (by rw [a2, c1]; omega) (by rw [a2, c1]; omega), a2, c1]; omega
  have a4 : (td_q (p - 8 + 16 - 1) 16).toInt = (p.toInt + 7) / 16 := by rw [td_q_toInt (by rw [c16]; omega), a3, c16]
  show (td_q (p - 8 + 16 - 1) 16).toInt32.toInt = _
  rw [td_i32 (by rw [a4]; omega) (by rw [a4]; omega), a4]
theorem td_lm_toInt {p : Int64} (h1 : -4096 ≤ p.toInt) (h2 : p.toInt ≤ 4096) : (td_lm p).toInt = (p.toInt - 8) / 16 := by
  have c8 : (8 : Int64).toInt = 8 := by decide
  have c16 : (16 : Int64).toInt = 16 := by decide
  have a1 : (p - 8).toInt = p.toInt - 8 := by rw [td_sub64 (by rw [c8]; omega) (by rw [c8]; omega), c8]
  have a4 : (td_q (p - 8) 16).toInt = (p.toInt - 8) / 16 := by rw [td_q_toInt (by rw [c16]; omega), a1, c16]
  show (td_q (p - 8) 16).toInt32.toInt = _
  rw [td_i32 (by rw [a4]; omega) (by rw [a4]; omega), a4]
/-- one side of the box: three places d0, d1, d2 (less the middle x = 16 i + 8), weighed to 0 -/
theorem td_side {X : Nat → Int64} {p0 p1 p2 w0 w1 w2 : Int} {i : Nat} (e0 : (X 0).toInt = p0) (e1 : (X 1).toInt = p1) (e2 : (X 2).toInt = p2) (b0 : -4096 ≤ p0 ∧ p0 ≤ 4096) (b1 : -4096 ≤ p1 ∧ p1 ≤ 4096) (b2 : -4096 ≤ p2 ∧ p2 ≤ 4096)
    (h0 : 0 ≤ w0) (h1 : 0 ≤ w1) (h2 : 0 ≤ w2) (hs : 0 < w0 + w1 + w2) (hm : w0 * (p0 - td_x i) + w1 * (p1 - td_x i) + w2 * (p2 - td_x i) = 0) : (td_fm (td_mn X)).toInt ≤ i ∧ (i : Int) ≤ (td_lm (td_mxx X)).toInt := by
  obtain ⟨m0, m1, m2, m3⟩ := td_mn_le X
  obtain ⟨n0, n1, n2, n3⟩ := td_mxx_le X
  obtain ⟨k1, k2⟩ := td_box h0 h1 h2 hs hm
  unfold td_x at k1 k2
  have mb : -4096 ≤ (td_mn X).toInt ∧ (td_mn X).toInt ≤ 4096 := by rcases m3 with h | h | h <;> rw [h] <;> omega
  have nb : -4096 ≤ (td_mxx X).toInt ∧ (td_mxx X).toInt ≤ 4096 := by rcases n3 with h | h | h <;> rw [h] <;> omega
  rw [td_fm_toInt mb.1 mb.2, td_lm_toInt nb.1 nb.2]
  constructor <;> omega
theorem td_inbox {g : Nat → Int32} {a i j : Nat} {X Y R L : Nat → Int64} (hp : td_pc g a) (hs : td_sc g a X Y R L) (hc : td_cov g a (td_x i) (td_x j)) :
    ((td_fm (td_mn X)).toInt ≤ i ∧ (i : Int) ≤ (td_lm (td_mxx X)).toInt) ∧ ((td_fm (td_mn Y)).toInt ≤ j ∧ (j : Int) ≤ (td_lm (td_mxx Y)).toInt) := by
  obtain ⟨w0, w1, w2, -, -, -, A0, -⟩ := td_bounds hp hc
  have hsum := td_sum g a (td_x i) (td_x j)
  have hmx := td_momX g a (td_x i) (td_x j)
  have hmy := td_momY g a (td_x i) (td_x j)
  obtain ⟨⟨x0, x1, x2⟩, ⟨y0, y1, y2⟩, -⟩ := hs
  obtain ⟨⟨a1, a2, a3, a4, -⟩, ⟨b1, b2, b3, b4, -⟩, ⟨c1, c2, c3, c4, -⟩, -⟩ := hp
  exact ⟨td_side (by rw [x0, Int32.toInt_toInt64]) (by rw [x1, Int32.toInt_toInt64]) (by rw [x2, Int32.toInt_toInt64]) ⟨a1, a2⟩ ⟨b1, b2⟩ ⟨c1, c2⟩ w0 w1 w2 (by omega) hmx, td_side (by rw [y0, Int32.toInt_toInt64]) (by rw [y1, Int32.toInt_toInt64]) (by rw [y2, Int32.toInt_toInt64]) ⟨a3, a4⟩ ⟨b3, b4⟩ ⟨c3, c4⟩ w0 w1 w2 (by omega) hmy⟩
/-- what fm and lm are, at any shape of a piece -/
theorem td_fm_b {g : Nat → Int32} {a : Nat} {X Y R L : Nat → Int64} (hp : td_pc g a) (hs : td_sc g a X Y R L) : (-300 ≤ (td_fm (td_mn X)).toInt ∧ (td_fm (td_mn X)).toInt ≤ 300) ∧ (-300 ≤ (td_lm (td_mxx X)).toInt ∧ (td_lm (td_mxx X)).toInt ≤ 300) ∧ (-300 ≤ (td_fm (td_mn Y)).toInt ∧ (td_fm (td_mn Y)).toInt ≤ 300) ∧ (-300 ≤ (td_lm (td_mxx Y)).toInt ∧ (td_lm (td_mxx Y)).toInt ≤ 300) := by
  obtain ⟨⟨x0, x1, x2⟩, ⟨y0, y1, y2⟩, -⟩ := hs
  obtain ⟨⟨a1, a2, a3, a4, -⟩, ⟨b1, b2, b3, b4, -⟩, ⟨c1, c2, c3, c4, -⟩, -⟩ := hp
  have key : ∀ (Z : Nat → Int64) (p0 p1 p2 : Int), (Z 0).toInt = p0 → (Z 1).toInt = p1 → (Z 2).toInt = p2 → (-4096 ≤ p0 ∧ p0 ≤ 4096) → (-4096 ≤ p1 ∧ p1 ≤ 4096) → (-4096 ≤ p2 ∧ p2 ≤ 4096) → (-300 ≤ (td_fm (td_mn Z)).toInt ∧ (td_fm (td_mn Z)).toInt ≤ 300) ∧ (-300 ≤ (td_lm (td_mxx Z)).toInt ∧ (td_lm (td_mxx Z)).toInt ≤ 300) := by
    intro Z p0 p1 p2 e0 e1 e2 b0 b1 b2
    obtain ⟨-, -, -, m3⟩ := td_mn_le Z
    obtain ⟨-, -, -, n3⟩ := td_mxx_le Z
    have mb : -4096 ≤ (td_mn Z).toInt ∧ (td_mn Z).toInt ≤ 4096 := by rcases m3 with h | h | h <;> rw [h] <;> omega
    have nb : -4096 ≤ (td_mxx Z).toInt ∧ (td_mxx Z).toInt ≤ 4096 := by rcases n3 with h | h | h <;> rw [h] <;> omega
    rw [td_fm_toInt mb.1 mb.2, td_lm_toInt nb.1 nb.2]
    constructor <;> constructor <;> omega
  have kx := key X _ _ _ (by rw [x0, Int32.toInt_toInt64]) (by rw [x1, Int32.toInt_toInt64]) (by rw [x2, Int32.toInt_toInt64]) ⟨a1, a2⟩ ⟨b1, b2⟩ ⟨c1, c2⟩
  have ky := key Y _ _ _ (by rw [y0, Int32.toInt_toInt64]) (by rw [y1, Int32.toInt_toInt64]) (by rw [y2, Int32.toInt_toInt64]) ⟨a3, a4⟩ ⟨b3, b4⟩ ⟨c3, c4⟩
  exact ⟨kx.1, kx.2, ky.1, ky.2⟩
end
section
/-! One piece at one pixel: as the class paints it. -/
abbrev td_sh (x y : Int32) (w h ta : Nat) (fD : Nat → Int32) : Prop := (0 ≤ x ∧ x ≤ nI (w - 1)) ∧ (0 ≤ y ∧ y ≤ nI (h - 1)) ∧ ¬ fD (y.toInt.toNat / 8 * ta + x.toInt.toNat / 8) = 0
def td_pt (T nr lt C c0 n0 : Nat) : Nat × Nat := if nr ≤ n0 then (c0, n0) else (td_ov T lt C c0, if C = 255 then nr else n0)
theorem td_pt0 {T nr lt C c0 n0 : Nat} (h : nr ≤ n0) : td_pt T nr lt C c0 n0 = (c0, n0) := if_pos h
theorem td_pt1 {T nr lt C c0 n0 : Nat} (h : n0 < nr) (hC : C = 255) : td_pt T nr lt C c0 n0 = (td_lit T lt, nr) := by
  unfold td_pt td_ov
  rw [if_neg (by omega), if_pos hC, if_pos hC]
theorem td_pt2 {T nr lt C c0 n0 : Nat} (h : n0 < nr) (hC : C ≠ 255) : td_pt T nr lt C c0 n0 = (td_mix (td_lit T lt) c0 C, n0) := by
  unfold td_pt td_ov
  rw [if_neg (by omega), if_neg hC, if_neg hC]
theorem td_stp0 {g : Nat → Int32} {a i j : Nat} {q : Nat × Nat} (h : ¬ td_cov g a (td_x i) (td_x j)) : td_stp g a i j q = q := by
  unfold td_stp
  rw [if_neg h]
theorem td_stp1 {g : Nat → Int32} {a i j : Nat} {q : Nat × Nat} (h : td_cov g a (td_x i) (td_x j)) : td_stp g a i j q = td_pt (g (a + 12)).toInt.toNat (td_near g a (td_x i) (td_x j)) (td_lig g a (td_x i) (td_x j)) (g (a + 13)).toInt.toNat q.1 q.2 := by
  unfold td_stp td_pt
  rw [if_pos h]
theorem td_pt_b {T nr lt C c0 n0 : Nat} (hT : T < 16777216) (h1 : nr ≤ 1048576) (h2 : lt ≤ 65536) (hC : C ≤ 255) (h3 : c0 < 16777216) (h4 : n0 ≤ 1048576) : (td_pt T nr lt C c0 n0).1 < 16777216 ∧ (td_pt T nr lt C c0 n0).2 ≤ 1048576 := by
  unfold td_pt
  split
  · exact ⟨h3, h4⟩
  · refine ⟨td_ov_le hT h2 hC h3, ?_⟩
    show (if C = 255 then nr else n0) ≤ _
    split <;> omega
theorem td_stp_b {g : Nat → Int32} {a i j : Nat} {q : Nat × Nat} (hp : td_pc g a) (hi : i < 48) (hj : j < 48) (h3 : q.1 < 16777216) (h4 : q.2 ≤ 1048576) : (td_stp g a i j q).1 < 16777216 ∧ (td_stp g a i j q).2 ≤ 1048576 := by
  by_cases h : td_cov g a (td_x i) (td_x j)
  · rw [td_stp1 h]
    obtain ⟨-, -, -, -, m5, -, m7⟩ := td_mach hp hi hj h rfl rfl rfl rfl rfl
    obtain ⟨-, -, -, -, t1, t2, t3, t4⟩ := hp
    exact td_pt_b (by omega) m5 m7 (by omega) h3 h4
  · rw [td_stp0 h]; exact ⟨h3, h4⟩
theorem td_px_b {g : Nat → Int32} {bg i j n : Nat} (hp : ∀ k, k < n → td_pc g (14 * k)) (hi : i < 48) (hj : j < 48) (hb : bg < 16777216) : (td_px g bg i j n).1 < 16777216 ∧ (td_px g bg i j n).2 ≤ 1048576 := by
  induction n with
  | zero => exact ⟨hb, Nat.zero_le _⟩
  | succ n ih =>
    obtain ⟨h1, h2⟩ := ih (fun k hk => hp k (by omega))
    exact td_stp_b (hp n (by omega)) hi hj h1 h2
/-- the three packed corners of a piece -/
def td_pkd (g : Nat → Int32) (a b : Nat) (f : Nat → Int64) : Prop := f (b + 0) = td_pk (g a).toInt64 (g (a + 1)).toInt64 (g (a + 2)).toInt64 (g (a + 3)).toInt64 ∧ f (b + 1) = td_pk (g (a + 4)).toInt64 (g (a + 4 + 1)).toInt64 (g (a + 4 + 2)).toInt64 (g (a + 4 + 3)).toInt64 ∧ f (b + 2) = td_pk (g (a + 8)).toInt64 (g (a + 8 + 1)).toInt64 (g (a + 8 + 2)).toInt64 (g (a + 8 + 3)).toInt64
theorem td_unok {g : Nat → Int32} {a : Nat} (h : td_ok g a) {p : Int64} (hp : p = td_pk (g a).toInt64 (g (a + 1)).toInt64 (g (a + 2)).toInt64 (g (a + 3)).toInt64) : td_ux p = (g a).toInt64 ∧ td_uy p = (g (a + 1)).toInt64 ∧ td_ur p = (g (a + 2)).toInt64 ∧ td_ul p = (g (a + 3)).toInt64 := by
  obtain ⟨a1, a2, a3, a4, a5, a6, a7, a8⟩ := h
  rw [hp]
  exact td_unpk (by rw [Int32.toInt_toInt64]; omega) (by rw [Int32.toInt_toInt64]; omega) (by rw [Int32.toInt_toInt64]; omega) (by rw [Int32.toInt_toInt64]; omega) (by rw [Int32.toInt_toInt64]; omega) (by rw [Int32.toInt_toInt64]; omega) (by rw [Int32.toInt_toInt64]; omega) (by rw [Int32.toInt_toInt64]; omega)
theorem td_u3 {v X : Nat → Int64} {a b c : Int64} (h : X = vp_updL (vp_updL (vp_updL v 0 a) 1 b) 2 c) : X 0 = a ∧ X 1 = b ∧ X 2 = c := by
  subst h
  exact ⟨rfl, rfl, rfl⟩
theorem td_scof {g : Nat → Int32} {a b : Nat} {f vX vY vR vL X Y R L : Nat → Int64} (hp : td_pc g a) (hc : td_pkd g a b f)
    (hX : X = vp_updL (vp_updL (vp_updL vX 0 (td_ux (f (b + 0)))) 1 (td_ux (f (b + 1)))) 2 (td_ux (f (b + 2)))) (hY : Y = vp_updL (vp_updL (vp_updL vY 0 (td_uy (f (b + 0)))) 1 (td_uy (f (b + 1)))) 2 (td_uy (f (b + 2))))
    (hR : R = vp_updL (vp_updL (vp_updL vR 0 (td_ur (f (b + 0)))) 1 (td_ur (f (b + 1)))) 2 (td_ur (f (b + 2)))) (hL : L = vp_updL (vp_updL (vp_updL vL 0 (td_ul (f (b + 0)))) 1 (td_ul (f (b + 1)))) 2 (td_ul (f (b + 2)))) : td_sc g a X Y R L := by
  obtain ⟨c0, c1, c2⟩ := hc
  obtain ⟨x0, y0, r0, l0⟩ := td_unok hp.1 c0
  obtain ⟨x1, y1, r1, l1⟩ := td_unok hp.2.1 c1
  obtain ⟨x2, y2, r2, l2⟩ := td_unok hp.2.2.1 c2
  obtain ⟨X0, X1, X2⟩ := td_u3 hX
  obtain ⟨Y0, Y1, Y2⟩ := td_u3 hY
  obtain ⟨R0, R1, R2⟩ := td_u3 hR
  obtain ⟨L0, L1, L2⟩ := td_u3 hL
  exact ⟨⟨X0.trans x0, X1.trans x1, X2.trans x2⟩, ⟨Y0.trans y0, Y1.trans y1, Y2.trans y2⟩, ⟨R0.trans r0, R1.trans r1, R2.trans r2⟩, ⟨L0.trans l0, L1.trans l1, L2.trans l2⟩⟩
theorem td_ofI {x : Int32} (h : 0 ≤ x.toInt) : x = nI x.toInt.toNat := td_eq32 (by
  have := Int32.toInt_lt x
  rw [nI_toInt (by omega)]
  omega)
theorem td_mx0 {lf : Nat} {v : Int32} (hl : lf < 1000) (b1 : -300 ≤ v.toInt) (b2 : v.toInt ≤ 300) : ∃ X0 : Nat, (lf ≤ X0 ∧ X0 < 1000) ∧ (if nI lf < v then v else nI lf) = nI X0 ∧ ((X0 : Int) = lf ∨ (X0 : Int) = v.toInt) := by
  by_cases h : nI lf < v
  · rw [if_pos h]
    rw [td_lt32, nI_toInt (by omega)] at h
    exact ⟨v.toInt.toNat, by omega, td_ofI (by omega), by omega⟩
  · rw [if_neg h]
    exact ⟨lf, by omega, rfl, Or.inl rfl⟩
theorem td_mn0 {rt : Nat} {v : Int32} (hl : 1 ≤ rt ∧ rt < 1000) (b1 : -300 ≤ v.toInt) (b2 : v.toInt ≤ 300) : ∃ xl : Int32, (if v < nI (rt - 1) then v else nI (rt - 1)) = xl ∧ xl.toInt ≤ (rt : Int) - 1 ∧ (xl.toInt = v.toInt ∨ xl.toInt = (rt : Int) - 1) := by
  by_cases h : v < nI (rt - 1)
  · rw [if_pos h]
    rw [td_lt32, nI_toInt (by omega)] at h
    exact ⟨v, rfl, by omega, Or.inl rfl⟩
  · rw [if_neg h]
    refine ⟨nI (rt - 1), rfl, ?_, Or.inr ?_⟩ <;> rw [nI_toInt (by omega)] <;> omega
theorem td_dI_start {w h lf tp rt bm Y0 : Nat} {st q : Nat → Nat → Nat × Nat} {fc fn : Nat → Int32} (hq : ∀ i j, (lf ≤ i ∧ i < rt) ∧ tp ≤ j ∧ j < bm → fc (j * w + i) = nI (q i j).1 ∧ fn (j * w + i) = nI (q i j).2) (hs : ∀ i j, (lf ≤ i ∧ i < rt) ∧ tp ≤ j ∧ j < bm → j < Y0 → st i j = q i j) : td_dI w h lf tp rt bm st q fc fn Y0 0 fc fn := fun i j _ _ => by
  refine ⟨fun ht => ?_, fun _ => ⟨rfl, rfl⟩⟩
  by_cases a : j < Y0 ∨ j = Y0 ∧ i < 0
  · rw [if_pos a, hs i j ht (by omega)]; exact hq i j ht
  · rw [if_neg a]; exact hq i j ht
/-- a tile holds the picture q, the rest what was there -/
def td_gI (w h lf tp rt bm : Nat) (q : Nat → Nat → Nat × Nat) (c0 n0 fc fn : Nat → Int32) : Prop := ∀ i j, i < w → j < h →
  ((lf ≤ i ∧ i < rt) ∧ tp ≤ j ∧ j < bm → fc (j * w + i) = nI (q i j).1 ∧ fn (j * w + i) = nI (q i j).2) ∧ (¬ ((lf ≤ i ∧ i < rt) ∧ tp ≤ j ∧ j < bm) → fc (j * w + i) = c0 (j * w + i) ∧ fn (j * w + i) = n0 (j * w + i))
theorem td_gI0 {w h lf tp rt bm b : Nat} {bg : Int32} {c0 n0 fc fn : Nat → Int32} (hb : bg = nI b) (h1 : td_fI w h lf tp rt bm lf bg c0 fc) (h2 : td_fI w h lf tp rt bm lf 0 n0 fn) : td_gI w h lf tp rt bm (fun _ _ => (b, 0)) c0 n0 fc fn := fun i j hi hj => by
  rw [h1 i j hi hj, h2 i j hi hj]
  refine ⟨fun ht => ?_, fun ht => ?_⟩
  · rw [if_pos (by omega), if_pos (by omega)]; exact ⟨hb, rfl⟩
  · rw [if_neg (by omega), if_neg (by omega)]; exact ⟨rfl, rfl⟩
theorem td_gI1 {w h lf tp rt bm : Nat} {st q : Nat → Nat → Nat × Nat} {c0 n0 fc fn gc gn : Nat → Int32} (h1 : td_gI w h lf tp rt bm q c0 n0 fc fn) (h2 : td_dI w h lf tp rt bm st q fc fn bm 0 gc gn) : td_gI w h lf tp rt bm st c0 n0 gc gn := fun i j hi hj => by
  obtain ⟨a1, a2⟩ := h1 i j hi hj
  obtain ⟨b1, b2⟩ := h2 i j hi hj
  refine ⟨fun ht => ?_, fun ht => ?_⟩
  · have := b1 ht
    rw [if_pos (by omega)] at this
    exact this
  · obtain ⟨p1, p2⟩ := a2 ht
    obtain ⟨q1, q2⟩ := b2 ht
    exact ⟨q1.trans p1, q2.trans p2⟩
/-- what holds of the tile kk -/
theorem td_tl1 {w h ta th kk lf tp rt bm : Nat} (hw1 : 8 ≤ w) (hh1 : 8 ≤ h) (hta : ta = (w + 7) / 8) (hth : th = (h + 7) / 8) (hk : kk < ta * th) (e1 : lf = kk % ta * 8) (e2 : tp = kk / ta * 8) (e3 : rt = (if kk % ta * 8 + 8 < w then kk % ta * 8 + 8 else w)) (e4 : bm = (if kk / ta * 8 + 8 < h then kk / ta * 8 + 8 else h)) :
    lf < rt ∧ rt ≤ w ∧ tp < bm ∧ bm ≤ h ∧ ∀ i j, i < w → j < h → (((lf ≤ i ∧ i < rt) ∧ tp ≤ j ∧ j < bm) ↔ j / 8 * ta + i / 8 = kk) := by
  have m1 : kk % ta < ta := Nat.mod_lt _ (by omega)
  have m2 : kk / ta < th := Nat.div_lt_of_lt_mul hk
  generalize hA : kk % ta = A at *
  generalize hB : kk / ta = B at *
  have c1 : lf < rt := by rw [e1, e3]; split <;> omega
  have c2 : rt ≤ w := by rw [e3]; split <;> omega
  have c3 : tp < bm := by rw [e2, e4]; split <;> omega
  have c4 : bm ≤ h := by rw [e4]; split <;> omega
  refine ⟨c1, c2, c3, c4, fun i j hi hj => ?_⟩
  rw [td_tile (ta := ta) (show i / 8 < ta by omega), hA, hB]
  constructor
  · intro z
    rw [e1, e2, e3, e4] at z
    constructor
    · split at z <;> split at z <;> omega
    · split at z <;> split at z <;> omega
  · rintro ⟨z1, z2⟩
    rw [e1, e2, e3, e4]
    split <;> split <;> omega
theorem td_idx {k : Int32} {nd : Nat} (h1 : ¬ k < 0) (h2 : ¬ nI nd ≤ k) (hn : nd < 2 ^ 31) : ∃ kk : Nat, kk < nd ∧ k = nI kk := by
  rcases pk_ix k hn with h | h | h
  · exact absurd h h1
  · exact absurd h h2
  · exact h
abbrev td_cok (k x y rr lt : Int32) : Prop := (0 ≤ k ∧ k ≤ 2) ∧ (-4096 ≤ x ∧ x ≤ 4096) ∧ (-4096 ≤ y ∧ y ≤ 4096) ∧ (1 ≤ rr ∧ rr ≤ 1048576) ∧ (0 ≤ lt ∧ lt ≤ 65536)
def td_cnt (what a b c d e : Int32) : Int32 := if what = 0 then a else if what = 1 then b else if what = 2 then c else if what = 3 then d else if what = 4 then e else -1
end
section
/-! The reference's own numbers. -/
def td_prt (C wi : Nat) : Nat := if wi = 0 then C / 65536 else if wi = 1 then C / 256 % 256 else C % 256
theorem td_nb3 {f o c : Nat} (hf : f < 256) (ho : o < 256) (hc : c ≤ 255) : f * c + o * (255 - c) < 2 ^ 31 := by
  have h1 := Nat.mul_le_mul (show f ≤ 255 by omega) hc
  have h2 := Nat.mul_le_mul (show o ≤ 255 by omega) (show 255 - c ≤ 255 by omega)
  omega
theorem td_lit_p {T Lt : Nat} (hT : T < 16777216) (hL : Lt ≤ 65536) : td_lit T Lt / 65536 = td_v (T / 65536) Lt ∧ td_lit T Lt / 256 % 256 = td_v (T / 256 % 256) Lt ∧ td_lit T Lt % 256 = td_v (T % 256) Lt := by
  have h0 := td_v_le (n := T / 65536) (l := Lt) (by omega) hL
  have h1 := td_v_le (n := T / 256 % 256) (l := Lt) (by omega) hL
  have h2 := td_v_le (n := T % 256) (l := Lt) (by omega) hL
  unfold td_lit
  omega
theorem td_mixof {T Lt C O : Nat} (hT : T < 16777216) (hL : Lt ≤ 65536) : nI (((0 + td_mx (td_v (T / 65536) Lt) (O / 65536) C) * 256 + td_mx (td_v (T / 256 % 256) Lt) (O / 256 % 256) C) * 256 + td_mx (td_v (T % 256) Lt) (O % 256) C) = nI (td_mix (td_lit T Lt) O C) := by
  obtain ⟨p0, p1, p2⟩ := td_lit_p hT hL
  unfold td_mix
  rw [p0, p1, p2, Nat.zero_add]
theorem td_m32 {g : Nat → Int32} {a b i j : Nat} (ha : td_ok g a) (hb : td_ok g b) (hi : i < 48) (hj : j < 48) :
    (0 < td_eL g a b (lN (16 * i + 8)) (lN (16 * j + 8)) ∨ td_eL g a b (lN (16 * i + 8)) (lN (16 * j + 8)) = 0 ∧ (g (b + 1) < g (a + 1) ∨ g (b + 1) = g (a + 1) ∧ g a < g b)) ↔ td_h g a b (td_x i) (td_x j) := by
  rw [← td_hL ha hb hi hj rfl rfl rfl rfl]
  have q3 : g (b + 1) < g (a + 1) ↔ (g (b + 1)).toInt64 < (g (a + 1)).toInt64 := by rw [td_lt64, td_lt32, Int32.toInt_toInt64, Int32.toInt_toInt64]
  have q4 : g (b + 1) = g (a + 1) ↔ (g (b + 1)).toInt64 = (g (a + 1)).toInt64 := ⟨fun h => by rw [h], fun h => td_eq32 (by have := congrArg Int64.toInt h; rw [Int32.toInt_toInt64, Int32.toInt_toInt64] at this; exact this)⟩
  have q5 : g a < g b ↔ (g a).toInt64 < (g b).toInt64 := by rw [td_lt64, td_lt32, Int32.toInt_toInt64, Int32.toInt_toInt64]
  rw [q3, q4, q5]
theorem td_lt3 {k : Int32} (h : ¬ (3 : Int32) ≤ k) : k ≤ 2 := by
  rw [td_le32] at *
  have c3 : (3 : Int32).toInt = 3 := by decide
  have c2 : (2 : Int32).toInt = 2 := by decide
  omega
theorem td_lt3n {k : Int32} (h : (3 : Int32) ≤ k) (h2 : k ≤ 2) : False := by
  rw [td_le32] at *
  have c3 : (3 : Int32).toInt = 3 := by decide
  have c2 : (2 : Int32).toInt = 2 := by decide
  omega
theorem td_cpst {g gg : Nat → Int32} {n k : Nat} (hn : n < 512) (hk : k < 12) (h : ∀ z, gg z = if 14 * n ≤ z ∧ z < 14 * n + k then g (7168 + (z - 14 * n)) else g z) : ∀ z, upd gg (14 * n + k) (gg (7168 + k)) z = if 14 * n ≤ z ∧ z < 14 * n + (k + 1) then g (7168 + (z - 14 * n)) else g z := fun z => by
  unfold upd
  by_cases e : z = 14 * n + k
  · rw [if_pos e, if_pos (by omega), h (7168 + k), if_neg (by omega), e]
    congr 2; omega
  · rw [if_neg e, h z]
    by_cases q : 14 * n ≤ z ∧ z < 14 * n + k
    · rw [if_pos q, if_pos (by omega)]
    · rw [if_neg q, if_neg (by omega)]
def td_added (g : Nat → Int32) (n : Nat) (tn cv : Int32) (gg : Nat → Int32) : Prop := ∀ z, gg z = if z = 14 * n + 13 then cv else if z = 14 * n + 12 then tn else if 14 * n ≤ z ∧ z < 14 * n + 12 then g (7168 + (z - 14 * n)) else g z
theorem td_addedof {g gg : Nat → Int32} {n : Nat} {tn cv : Int32} (hn : n < 512) (h : ∀ z, gg z = if 14 * n ≤ z ∧ z < 14 * n + 12 then g (7168 + (z - 14 * n)) else g z) : td_added g n tn cv (upd (upd gg (14 * n + 12) tn) (14 * n + 13) cv) := fun z => by
  unfold upd
  by_cases e : z = 14 * n + 13
  · rw [if_pos e, if_pos e]
  · rw [if_neg e, if_neg e]
    by_cases e2 : z = 14 * n + 12
    · rw [if_pos e2, if_pos e2]
    · rw [if_neg e2, if_neg e2, h z]
/-- the reference's picture, up to row J and column I -/
def td_mI (g : Nat → Int32) (bg w h n J I : Nat) (fc fn : Nat → Int32) : Prop := ∀ i j, i < w → j < h → (j < J ∨ j = J ∧ i < I) → fc (48 * j + i) = nI (td_px g bg i j n).1 ∧ fn (48 * j + i) = nI (td_px g bg i j n).2
theorem td_mI0 {g : Nat → Int32} {bg w h n : Nat} {fc fn : Nat → Int32} : td_mI g bg w h n 0 0 fc fn := fun i j _ _ q => by omega
theorem td_mI_row {g : Nat → Int32} {bg w h n J : Nat} {fc fn : Nat → Int32} (H : td_mI g bg w h n J w fc fn) : td_mI g bg w h n (J + 1) 0 fc fn := fun i j hi hj q => H i j hi hj (by omega)
theorem td_mI_put {g : Nat → Int32} {bg w h n J I : Nat} {fc fn gc gn : Nat → Int32} (hI : I < w) (hw : w ≤ 48) (hJ : J < h) (H : td_mI g bg w h n J I fc fn) (ho : ∀ z, z ≠ 48 * J + I → gc z = fc z ∧ gn z = fn z) (hp : gc (48 * J + I) = nI (td_px g bg I J n).1 ∧ gn (48 * J + I) = nI (td_px g bg I J n).2) : td_mI g bg w h n J (I + 1) gc gn := fun i j hi hj q => by
  by_cases e : i = I ∧ j = J
  · obtain ⟨rfl, rfl⟩ := e
    exact hp
  · obtain ⟨o1, o2⟩ := ho (48 * j + i) (by omega)
    rw [o1, o2]
    exact H i j hi hj (by omega)
theorem td_mI_end {g : Nat → Int32} {bg w h n : Nat} {fc fn : Nat → Int32} (H : td_mI g bg w h n h 0 fc fn) {i j : Nat} (hi : i < w) (hj : j < h) : fc (48 * j + i) = nI (td_px g bg i j n).1 ∧ fn (48 * j + i) = nI (td_px g bg i j n).2 := H i j hi hj (Or.inl hj)
abbrev td_ms (x y : Int32) (w h : Nat) (fD : Nat → Int32) : Prop := (0 ≤ x ∧ x < nI w) ∧ (0 ≤ y ∧ y < nI h) ∧ ¬ fD (y.toInt.toNat / 8 * ((w + 7) / 8) + x.toInt.toNat / 8) = 0
def td_dn (f : Nat → Int32) : Nat → Int32
  | 0 => 0
  | t + 1 => td_dn f t + (if f t = 0 then 0 else 1)
theorem td_dn0 {f : Nat → Int32} {t : Nat} (h : f t = 0) : td_dn f (t + 1) = td_dn f t + 0 := by
  show td_dn f t + (if f t = 0 then 0 else 1) = _
  rw [if_pos h]
theorem td_dn1 {f : Nat → Int32} {t : Nat} (h : ¬ f t = 0) : td_dn f (t + 1) = td_dn f t + 1 := by
  show td_dn f t + (if f t = 0 then 0 else 1) = _
  rw [if_neg h]
end
section
set_option maxHeartbeats 4000000 in
set_option maxRecDepth 100000 in
/-- isWithin -/
theorem td_isWithin (l : Launch) (dC : Nat → ClassId) (dI : Nat → Nat → Nat) (cI cJ cZ : ClassId) (v : Int32) (lo : Int32) (hi : Int32) : Met l yX3_isWithin wsX3_isWithin ({ frames := 0, cells := 0, slots := 0, locals := 0 }) (td_RP (dC, dI) vwCl (td_T cI cJ cZ) td_nl [] [.int v, .int lo, .int hi]) (vp_Si (fun r => r = td_bz (lo ≤ v ∧ v ≤ hi))) 0 0 (fun _ => False) := by
  refine Met.ofW (cc := cX3_isWithin) (maxL := 3) (ret := (some .boolean)) (by decide) rfl ?_
  intro p e s m args below meth c s₁ B hml hv
  obtain ⟨rfl, hP, hK, hZ⟩ := hv
  have hx := B.exec
  have hb := B.bytes
  have hr := B.returns
  have hts := atoms_spec (ws := wsX3_isWithin) B.pre
  have hown : s.vm.findClass RX3 = some m.cls := findClass_of_methodNamed B.named
  have hlocks := B.notSynchronized
  have hP : va_P (dC, dI) vwCl [] s.heap := hP
  have hl := lv_entry ([.int v, .int lo, .int hi]) (n := 3) (Nat.le_of_ble_eq_true rfl)
  rw [lg_entry_eq]
  generalize (lg_sl ([.int v, .int lo, .int hi]) ++ List.replicate (3 - (lg_sl ([.int v, .int lo, .int hi])).length) Slot.unset).toArray = ls at hl ⊢
  have hl : lv_has ls 3 [(0, .int v), (1, .int lo), (2, .int hi)] := hl
  refine lv_iload_n hx hb dX3_isWithin_0 rfl (lv_at hl 0 rfl) ?_
  refine lv_iload_n hx hb dX3_isWithin_1 rfl (lv_at hl 1 rfl) ?_
  refine lv_icmp_lt (tgt := 14) hx hb dX3_isWithin_2 (by decide) (fun c2_1 => ?_) (fun c2_1 => ?_)
  · refine lv_iconst (v := 0) hx hb dX3_isWithin_14 (by decide) ?_
    exact td_rri hx hb hr rfl hlocks (by rw [td_bz0 (by simp only [td_lt32, td_le32, td_lt64, td_le64] at *; omega)]) dX3_isWithin_15
  · refine lv_iload_n hx hb dX3_isWithin_5 rfl (lv_at hl 0 rfl) ?_
    refine lv_iload_n hx hb dX3_isWithin_6 rfl (lv_at hl 2 rfl) ?_
    refine lv_icmp_gt (tgt := 14) hx hb dX3_isWithin_7 (by decide) (fun c7_2 => ?_) (fun c7_2 => ?_)
    · refine lv_iconst (v := 0) hx hb dX3_isWithin_14 (by decide) ?_
      exact td_rri hx hb hr rfl hlocks (by rw [td_bz0 (by simp only [td_lt32, td_le32, td_lt64, td_le64] at *; omega)]) dX3_isWithin_15
    · refine lv_iconst (v := 1) hx hb dX3_isWithin_10 (by decide) ?_
      refine lv_goto (tgt := 15) hx hb dX3_isWithin_11 (by decide) ?_
      exact td_rri hx hb hr rfl hlocks (by rw [td_bz1 (by simp only [td_lt32, td_le32, td_lt64, td_le64] at *; omega)]) dX3_isWithin_15
set_option maxHeartbeats 4000000 in
set_option maxRecDepth 100000 in
/-- isColour -/
theorem td_isColour (l : Launch) (dC : Nat → ClassId) (dI : Nat → Nat → Nat) (cI cJ cZ : ClassId) (v : Int32) : Met l yX3_isColour wsX3_isColour ({ frames := 1, cells := 0, slots := 0, locals := 22 }) (td_RP (dC, dI) vwCl (td_T cI cJ cZ) td_nl [] [.int v]) (vp_Si (fun r => r = td_bz (0 ≤ v ∧ v ≤ 16777215))) 0 0 (fun _ => False) := by
  refine Met.ofW (cc := cX3_isColour) (maxL := 1) (ret := (some .boolean)) (by decide) rfl ?_
  intro p e s m args below meth c s₁ B hml hv
  obtain ⟨rfl, hP, hK, hZ⟩ := hv
  have hx := B.exec
  have hb := B.bytes
  have hr := B.returns
  have hts := atoms_spec (ws := wsX3_isColour) B.pre
  have hown : s.vm.findClass RX3 = some m.cls := findClass_of_methodNamed B.named
  have hlocks := B.notSynchronized
  have hP : va_P (dC, dI) vwCl [] s.heap := hP
  have hl := lv_entry ([.int v]) (n := 1) (Nat.le_of_ble_eq_true rfl)
  rw [lg_entry_eq]
  generalize (lg_sl ([.int v]) ++ List.replicate (1 - (lg_sl ([.int v])).length) Slot.unset).toArray = ls at hl ⊢
  have hl : lv_has ls 1 [(0, .int v)] := hl
  refine lv_iload_n hx hb dX3_isColour_0 rfl (lv_at hl 0 rfl) ?_
  refine lv_iconst (v := 0) hx hb dX3_isColour_1 (by decide) ?_
  refine lv_ldc (own := RX3) (v := 16777215) hx hb hown (hts (.constant RX3 110 16777215) (td_i4 (List.mem_of_getElem? (i := 19) rfl))) dX3_isColour_2 ?_
  refine td_csi (va_runS (As := [.int v, .int 0, .int 16777215]) (rest := []) ⟨hx, hb, hml, hown, hts⟩ (td_isWithin l dC dI cI cJ cZ v 0 16777215) (va_cwS 3 hts (td_gS (td_i4 (List.mem_of_getElem? (i := 3) rfl)) (td_i4 (List.mem_of_getElem? (i := 4) rfl)) (td_i1 (List.mem_of_getElem? (i := 1) rfl)) (td_i4 (List.mem_of_getElem? (i := 5) rfl))) rfl rfl rfl (by decide +kernel) ⟨(Nat.le_of_ble_eq_true rfl), (Nat.le_of_ble_eq_true rfl)⟩) (td_pRS hK hZ hP [] rfl) rfl rfl hl.1 rfl (lv_room (Nat.le_of_ble_eq_true rfl)) dX3_isColour_4 ⟨Nat.zero_le _, Nat.zero_le _⟩) ?_
  exact td_rri hx hb hr td_bz_nar hlocks (rfl) dX3_isColour_7
set_option maxHeartbeats 4000000 in
set_option maxRecDepth 100000 in
/-- nearestSide -/
theorem td_nearestSide (l : Launch) (dC : Nat → ClassId) (dI : Nat → Nat → Nat) (cI cJ cZ : ClassId) (v : Int32) : Met l yX3_nearestSide wsX3_nearestSide ({ frames := 1, cells := 0, slots := 0, locals := 14 }) (td_RP (dC, dI) vwCl (td_T cI cJ cZ) td_nl [] [.int v]) (vp_Si (fun r => r = if 8 < (if v < 48 then v else 48) then (if v < 48 then v else 48) else 8)) 0 0 (fun _ => False) := by
  refine Met.ofW (cc := cX3_nearestSide) (maxL := 1) (ret := (some .int)) (by decide) rfl ?_
  intro p e s m args below meth c s₁ B hml hv
  obtain ⟨rfl, hP, hK, hZ⟩ := hv
  have hx := B.exec
  have hb := B.bytes
  have hr := B.returns
  have hts := atoms_spec (ws := wsX3_nearestSide) B.pre
  have hown : s.vm.findClass RX3 = some m.cls := findClass_of_methodNamed B.named
  have hlocks := B.notSynchronized
  have hP : va_P (dC, dI) vwCl [] s.heap := hP
  have hl := lv_entry ([.int v]) (n := 1) (Nat.le_of_ble_eq_true rfl)
  rw [lg_entry_eq]
  generalize (lg_sl ([.int v]) ++ List.replicate (1 - (lg_sl ([.int v])).length) Slot.unset).toArray = ls at hl ⊢
  have hl : lv_has ls 1 [(0, .int v)] := hl
  refine lv_bipush (v := 8) hx hb dX3_nearestSide_0 (by decide) ?_
  refine lv_bipush (v := 48) hx hb dX3_nearestSide_2 (by decide) ?_
  refine lv_iload_n hx hb dX3_nearestSide_4 rfl (lv_at hl 0 rfl) ?_
  refine va_mmin hx hb (by rw [hml]; exact hl.1.symm) hown (hts _ (td_i2 (List.mem_of_getElem? (i := 16) rfl))) (hts _ (td_i2 (List.mem_of_getElem? (i := 17) rfl))) (hts _ (td_i1 (List.mem_of_getElem? (i := 5) rfl))) (hts _ (td_i2 (List.mem_of_getElem? (i := 18) rfl))) (Nat.le_of_ble_eq_true rfl) (Nat.le_of_ble_eq_true rfl) (Nat.zero_le _) (Nat.zero_le _) dX3_nearestSide_5 ?_
  refine va_mmax hx hb (by rw [hml]; exact hl.1.symm) hown (hts _ (td_i2 (List.mem_of_getElem? (i := 19) rfl))) (hts _ (td_i2 (List.mem_of_getElem? (i := 20) rfl))) (hts _ (td_i1 (List.mem_of_getElem? (i := 5) rfl))) (hts _ (td_i2 (List.mem_of_getElem? (i := 21) rfl))) (Nat.le_of_ble_eq_true rfl) (Nat.le_of_ble_eq_true rfl) (Nat.zero_le _) (Nat.zero_le _) dX3_nearestSide_8 ?_
  exact td_rri hx hb hr rfl hlocks (rfl) dX3_nearestSide_11
set_option maxHeartbeats 4000000 in
set_option maxRecDepth 100000 in
/-- Math.floorDiv -/
theorem td_floorDiv (l : Launch) (dC : Nat → ClassId) (dI : Nat → Nat → Nat) (cI cJ cZ : ClassId) (a : Int64) (b : Int64) (hb0 : ¬ b = 0) : Met l yJ_floorDiv wsJ_floorDiv ({ frames := 0, cells := 0, slots := 0, locals := 0 }) (td_RP (dC, dI) vwCl (td_T cI cJ cZ) td_nl [] [.long a, .long b]) (vp_Sl (fun r => r = td_fd a b)) 0 0 (fun _ => False) := by
  refine va_MetF (cc := cJ_floorDiv) (maxL := 6) (ret := (some .long)) (by decide +kernel) rfl ?_
  intro p e s m args below meth c s₁ B hml hv
  obtain ⟨rfl, hP, hK, hZ⟩ := hv
  have hx := B.exec
  have hb := B.bytes
  have hr := B.returns
  have hts := atoms_spec (ws := wsJ_floorDiv) B.pre
  have hown : s.vm.findClass RJ = some m.cls := findClass_of_methodNamed B.named
  have hlocks := B.notSynchronized
  have hP : va_P (dC, dI) vwCl [] s.heap := hP
  have hl := lv_entry ([.long a, .long b]) (n := 6) (Nat.le_of_ble_eq_true rfl)
  rw [lg_entry_eq]
  generalize (lg_sl ([.long a, .long b]) ++ List.replicate (6 - (lg_sl ([.long a, .long b])).length) Slot.unset).toArray = ls at hl ⊢
  have hl : lv_has ls 6 [(0, .long a), (2, .long b)] := hl
  refine lv_lload_n hx hb dJ_floorDiv_0 rfl (lv_at hl 0 rfl) ?_
  refine lv_lload_n hx hb dJ_floorDiv_1 rfl (lv_at hl 1 rfl) ?_
  refine lv_ldiv hx hb dJ_floorDiv_2 (hb0) ?_
  refine lv_lstore (lv' := [(4, .long (a / b)), (0, .long a), (2, .long b)]) hx hb dJ_floorDiv_3 hl (by decide) rfl (fun ls hl => ?_)
  refine lv_lload_n hx hb dJ_floorDiv_5 rfl (lv_at hl 1 rfl) ?_
  refine lv_lload_n hx hb dJ_floorDiv_6 rfl (lv_at hl 2 rfl) ?_
  refine lv_lxor hx hb dJ_floorDiv_7 ?_
  refine lv_lconst (v := 0) hx hb dJ_floorDiv_8 (by decide) ?_
  refine W.lcmp hx hb dJ_floorDiv_9 ?_
  refine td_lge (tgt := 27) hx hb dJ_floorDiv_10 (by decide) (fun c10 => ?_) (fun c10 => ?_)
  · refine lv_lload hx hb dJ_floorDiv_27 (lv_at hl 0 rfl) ?_
    exact td_rrl hx hb hr hlocks (by unfold td_fd; rw [if_neg (fun z => absurd z.1 (Int64.not_lt.mpr c10))]) dJ_floorDiv_29
  · refine lv_lload hx hb dJ_floorDiv_13 (lv_at hl 0 rfl) ?_
    refine lv_lload_n hx hb dJ_floorDiv_15 rfl (lv_at hl 2 rfl) ?_
    refine lv_lmul hx hb dJ_floorDiv_16 ?_
    refine lv_lload_n hx hb dJ_floorDiv_17 rfl (lv_at hl 1 rfl) ?_
    refine W.lcmp hx hb dJ_floorDiv_18 ?_
    refine td_leq (tgt := 27) hx hb dJ_floorDiv_19 (by decide) (fun c19 => ?_) (fun c19 => ?_)
    · refine lv_lload hx hb dJ_floorDiv_27 (lv_at hl 0 rfl) ?_
      exact td_rrl hx hb hr hlocks (by unfold td_fd; rw [if_neg (fun z => z.2 c19)]) dJ_floorDiv_29
    · refine lv_lload hx hb dJ_floorDiv_22 (lv_at hl 0 rfl) ?_
      refine lv_lconst (v := 1) hx hb dJ_floorDiv_24 (by decide) ?_
      refine lv_lsub hx hb dJ_floorDiv_25 ?_
      exact td_rrl hx hb hr hlocks (by unfold td_fd; rw [if_pos ⟨Int64.not_le.mp c10, c19⟩]) dJ_floorDiv_26
set_option maxHeartbeats 4000000 in
set_option maxRecDepth 100000 in
/-- quotient -/
theorem td_quotient (l : Launch) (dC : Nat → ClassId) (dI : Nat → Nat → Nat) (cI cJ cZ : ClassId) (a : Int64) (b : Int64) : Met l yX3_quotient wsX3_quotient ({ frames := 1, cells := 0, slots := 0, locals := 25 }) (td_RP (dC, dI) vwCl (td_T cI cJ cZ) td_nl [] [.long a, .long b]) (vp_Sl (fun r => r = td_q a b)) 0 0 (fun _ => False) := by
  refine Met.ofW (cc := cX3_quotient) (maxL := 4) (ret := (some .long)) (by decide) rfl ?_
  intro p e s m args below meth c s₁ B hml hv
  obtain ⟨rfl, hP, hK, hZ⟩ := hv
  have hx := B.exec
  have hb := B.bytes
  have hr := B.returns
  have hts := atoms_spec (ws := wsX3_quotient) B.pre
  have hown : s.vm.findClass RX3 = some m.cls := findClass_of_methodNamed B.named
  have hlocks := B.notSynchronized
  have hP : va_P (dC, dI) vwCl [] s.heap := hP
  have hl := lv_entry ([.long a, .long b]) (n := 4) (Nat.le_of_ble_eq_true rfl)
  rw [lg_entry_eq]
  generalize (lg_sl ([.long a, .long b]) ++ List.replicate (4 - (lg_sl ([.long a, .long b])).length) Slot.unset).toArray = ls at hl ⊢
  have hl : lv_has ls 4 [(0, .long a), (2, .long b)] := hl
  refine lv_lload_n hx hb dX3_quotient_0 rfl (lv_at hl 1 rfl) ?_
  refine lv_lconst (v := 0) hx hb dX3_quotient_1 (by decide) ?_
  refine W.lcmp hx hb dX3_quotient_2 ?_
  refine td_lle (tgt := 14) hx hb dX3_quotient_3 (by decide) (fun c3 => ?_) (fun c3 => ?_)
  · refine lv_lconst (v := 0) hx hb dX3_quotient_14 (by decide) ?_
    exact td_rrl hx hb hr hlocks (by unfold td_q; rw [if_neg (fun z => absurd c3 (Int64.not_le.mpr z))]) dX3_quotient_15
  · refine lv_lload_n hx hb dX3_quotient_6 rfl (lv_at hl 0 rfl) ?_
    refine lv_lload_n hx hb dX3_quotient_7 rfl (lv_at hl 1 rfl) ?_
    refine td_csl (va_runS (As := [.long a, .long b]) (rest := []) ⟨hx, hb, hml, hown, hts⟩ (td_floorDiv l dC dI cI cJ cZ a b (fun z => c3 (by rw [z]; exact Int64.le_refl 0))) (va_cwS 2 hts (td_gS (td_i7 (List.mem_of_getElem? (i := 4) rfl)) (td_i7 (List.mem_of_getElem? (i := 5) rfl)) (td_i1 (List.mem_of_getElem? (i := 5) rfl)) (td_i7 (List.mem_of_getElem? (i := 6) rfl))) rfl rfl rfl (by decide +kernel) ⟨(Nat.le_of_ble_eq_true rfl), (Nat.le_of_ble_eq_true rfl)⟩) (td_pRS hK hZ hP [] rfl) rfl rfl hl.1 rfl (lv_room (Nat.le_of_ble_eq_true rfl)) dX3_quotient_8 ⟨Nat.zero_le _, Nat.zero_le _⟩) ?_
    refine lv_goto (tgt := 15) hx hb dX3_quotient_11 (by decide) ?_
    exact td_rrl hx hb hr hlocks (by unfold td_q; rw [if_pos (Int64.not_le.mp c3)]) dX3_quotient_15
set_option maxHeartbeats 4000000 in
set_option maxRecDepth 100000 in
/-- litColour -/
theorem td_litColour (l : Launch) (dC : Nat → ClassId) (dI : Nat → Nat → Nat) (cI cJ cZ : ClassId) (T : Nat) (Lt : Nat) (hT : T < 16777216) (hL : Lt ≤ 65536) : Met l yX3_litColour wsX3_litColour ({ frames := 2, cells := 0, slots := 0, locals := 48 }) (td_RP (dC, dI) vwCl (td_T cI cJ cZ) td_nl [] [.int (nI T), .long (lN Lt)]) (vp_Si (fun r => r = nI (td_lit T Lt))) 0 0 (fun _ => False) := by
  refine Met.ofW (cc := cX3_litColour) (maxL := 7) (ret := (some .int)) (by decide) rfl ?_
  intro p e s m args below meth c s₁ B hml hv
  obtain ⟨rfl, hP, hK, hZ⟩ := hv
  have hx := B.exec
  have hb := B.bytes
  have hr := B.returns
  have hts := atoms_spec (ws := wsX3_litColour) B.pre
  have hown : s.vm.findClass RX3 = some m.cls := findClass_of_methodNamed B.named
  have hlocks := B.notSynchronized
  have hP : va_P (dC, dI) vwCl [] s.heap := hP
  have hl := lv_entry ([.int (nI T), .long (lN Lt)]) (n := 7) (Nat.le_of_ble_eq_true rfl)
  rw [lg_entry_eq]
  generalize (lg_sl ([.int (nI T), .long (lN Lt)]) ++ List.replicate (7 - (lg_sl ([.int (nI T), .long (lN Lt)])).length) Slot.unset).toArray = ls at hl ⊢
  have hl : lv_has ls 7 [(0, .int (nI T)), (1, .long (lN Lt))] := hl
  have h0 := td_v_le (n := T % 256) (l := Lt) (by omega) hL
  have h1 := td_v_le (n := T / 256 % 256) (l := Lt) (by omega) hL
  have h2 := td_v_le (n := T / 65536) (l := Lt) (by omega) hL
  refine lv_iconst (v := 0) hx hb dX3_litColour_0 (by decide) ?_
  refine lv_istore_n (lv' := [(3, .int 0), (0, .int (nI T)), (1, .long (lN Lt))]) hx hb dX3_litColour_1 rfl hl (by decide) rfl (fun ls hl => ?_)
  refine lv_iconst (v := 0) hx hb dX3_litColour_2 (by decide) ?_
  refine lv_istore (lv' := [(4, .int 0), (3, .int 0), (0, .int (nI T)), (1, .long (lN Lt))]) hx hb dX3_litColour_3 hl (by decide) rfl (fun ls hl => ?_)
  refine lv_iload hx hb dX3_litColour_5 (lv_at hl 0 rfl) ?_
  refine lv_bipush (v := 16) hx hb dX3_litColour_7 (by decide) ?_
  refine lv_icmp_gt (tgt := 46) hx hb dX3_litColour_9 (by decide) (fun c9_1 => ?_) (fun c9_1 => ?_)
  · exact absurd c9_1 (by decide)
  · refine lv_iload_n hx hb dX3_litColour_12 rfl (lv_at hl 2 rfl) ?_
    refine lv_iload hx hb dX3_litColour_13 (lv_at hl 0 rfl) ?_
    refine lv_ishr hx hb dX3_litColour_15 ?_
    refine td_ti (nI (T / 2 ^ 0)) (pk_shrN (by omega) _ 0 (by decide)) ?_
    refine lv_sipush (v := 255) hx hb dX3_litColour_16 (by decide) ?_
    refine lv_iand hx hb dX3_litColour_19 ?_
    refine td_ti (nI (T % 256)) ((pk_andN (m := 255) (by omega) 8 (by decide)).trans (congrArg nI (by omega))) ?_
    refine lv_i2l (v := (nI (T % 256)).toInt64) hx hb dX3_litColour_20 rfl ?_
    refine td_tl (lN (T % 256)) (nI_l (by omega)) ?_
    refine lv_lstore (lv' := [(5, .long (lN (T % 256))), (4, .int 0), (3, .int 0), (0, .int (nI T)), (1, .long (lN Lt))]) hx hb dX3_litColour_21 hl (by decide) rfl (fun ls hl => ?_)
    refine lv_iload_n hx hb dX3_litColour_23 rfl (lv_at hl 2 rfl) ?_
    refine lv_lload hx hb dX3_litColour_24 (lv_at hl 0 rfl) ?_
    refine lv_lload_n hx hb dX3_litColour_26 rfl (lv_at hl 4 rfl) ?_
    refine lv_lmul hx hb dX3_litColour_27 ?_
    refine td_tl (lN ((T % 256) * Lt)) (lN_mul _ _) ?_
    refine lv_ldc2 (own := RX3) (v := 65536) hx hb hown (hts (.constantLong RX3 115 65536) (td_i10 (List.mem_of_getElem? (i := 16) rfl))) dX3_litColour_28 ?_
    refine td_csl (va_runS (As := [.long (lN ((T % 256) * Lt)), .long 65536]) (rest := [.int 0]) ⟨hx, hb, hml, hown, hts⟩ (td_quotient l dC dI cI cJ cZ (lN ((T % 256) * Lt)) 65536) (va_cwS 2 hts (td_gS (td_i10 (List.mem_of_getElem? (i := 17) rfl)) (td_i7 (List.mem_of_getElem? (i := 2) rfl)) (td_i1 (List.mem_of_getElem? (i := 1) rfl)) (td_i7 (List.mem_of_getElem? (i := 3) rfl))) rfl rfl rfl (by decide +kernel) ⟨(Nat.le_of_ble_eq_true rfl), (Nat.le_of_ble_eq_true rfl)⟩) (td_pRS hK hZ hP [] rfl) rfl rfl hl.1 rfl (lv_room (Nat.le_of_ble_eq_true rfl)) dX3_litColour_31 ⟨Nat.zero_le _, Nat.zero_le _⟩) ?_
    refine td_tl (lN (td_v (T % 256) Lt)) (td_q_nat (b := 65536) (td_nb (by omega) hL) (by decide) (by decide)) ?_
    refine lv_l2i (v := (lN (td_v (T % 256) Lt)).toInt32) hx hb dX3_litColour_34 rfl ?_
    refine td_ti (nI (td_v (T % 256) Lt)) (lN_i _) ?_
    refine lv_iload hx hb dX3_litColour_35 (lv_at hl 1 rfl) ?_
    refine lv_ishl hx hb dX3_litColour_37 ?_
    refine td_ti (nI (td_v (T % 256) Lt * 2 ^ 0)) (pk_shlN _ 0 (by decide) (by omega)) ?_
    refine lv_ior hx hb dX3_litColour_38 ?_
    refine td_ti (nI (td_v (T % 256) Lt)) ((td_or 0 _).trans (by rw [Nat.zero_or, Nat.pow_zero, Nat.mul_one])) ?_
    refine lv_istore_n (lv' := [(3, .int (nI (td_v (T % 256) Lt))), (5, .long (lN (T % 256))), (4, .int 0), (0, .int (nI T)), (1, .long (lN Lt))]) hx hb dX3_litColour_39 rfl hl (by decide) rfl (fun ls hl => ?_)
    refine lv_iinc (v := nI 8) (lv' := [(4, .int (nI 8)), (3, .int (nI (td_v (T % 256) Lt))), (5, .long (lN (T % 256))), (0, .int (nI T)), (1, .long (lN Lt))]) hx hb dX3_litColour_40 hl (k := 2) rfl (nI_add 0 8) (by decide) rfl (fun ls hl => ?_)
    refine lv_goto (tgt := 5) hx hb dX3_litColour_43 (by decide) ?_
    refine lv_iload hx hb dX3_litColour_5 (lv_at hl 0 rfl) ?_
    refine lv_bipush (v := 16) hx hb dX3_litColour_7 (by decide) ?_
    refine lv_icmp_gt (tgt := 46) hx hb dX3_litColour_9 (by decide) (fun c9_2 => ?_) (fun c9_2 => ?_)
    · exact absurd c9_2 (by decide)
    · refine lv_iload_n hx hb dX3_litColour_12 rfl (lv_at hl 3 rfl) ?_
      refine lv_iload hx hb dX3_litColour_13 (lv_at hl 0 rfl) ?_
      refine lv_ishr hx hb dX3_litColour_15 ?_
      refine td_ti (nI (T / 2 ^ 8)) (pk_shrN (by omega) _ 8 (by decide)) ?_
      refine lv_sipush (v := 255) hx hb dX3_litColour_16 (by decide) ?_
      refine lv_iand hx hb dX3_litColour_19 ?_
      refine td_ti (nI (T / 256 % 256)) ((pk_andN (m := 255) (by omega) 8 (by decide)).trans (congrArg nI (by omega))) ?_
      refine lv_i2l (v := (nI (T / 256 % 256)).toInt64) hx hb dX3_litColour_20 rfl ?_
      refine td_tl (lN (T / 256 % 256)) (nI_l (by omega)) ?_
      refine lv_lstore (lv' := [(5, .long (lN (T / 256 % 256))), (4, .int (nI 8)), (3, .int (nI (td_v (T % 256) Lt))), (0, .int (nI T)), (1, .long (lN Lt))]) hx hb dX3_litColour_21 hl (by decide) rfl (fun ls hl => ?_)
      refine lv_iload_n hx hb dX3_litColour_23 rfl (lv_at hl 2 rfl) ?_
      refine lv_lload hx hb dX3_litColour_24 (lv_at hl 0 rfl) ?_
      refine lv_lload_n hx hb dX3_litColour_26 rfl (lv_at hl 4 rfl) ?_
      refine lv_lmul hx hb dX3_litColour_27 ?_
      refine td_tl (lN ((T / 256 % 256) * Lt)) (lN_mul _ _) ?_
      refine lv_ldc2 (own := RX3) (v := 65536) hx hb hown (hts (.constantLong RX3 115 65536) (td_i10 (List.mem_of_getElem? (i := 16) rfl))) dX3_litColour_28 ?_
      refine td_csl (va_runS (As := [.long (lN ((T / 256 % 256) * Lt)), .long 65536]) (rest := [.int (nI (td_v (T % 256) Lt))]) ⟨hx, hb, hml, hown, hts⟩ (td_quotient l dC dI cI cJ cZ (lN ((T / 256 % 256) * Lt)) 65536) (va_cwS 2 hts (td_gS (td_i10 (List.mem_of_getElem? (i := 17) rfl)) (td_i7 (List.mem_of_getElem? (i := 2) rfl)) (td_i1 (List.mem_of_getElem? (i := 1) rfl)) (td_i7 (List.mem_of_getElem? (i := 3) rfl))) rfl rfl rfl (by decide +kernel) ⟨(Nat.le_of_ble_eq_true rfl), (Nat.le_of_ble_eq_true rfl)⟩) (td_pRS hK hZ hP [] rfl) rfl rfl hl.1 rfl (lv_room (Nat.le_of_ble_eq_true rfl)) dX3_litColour_31 ⟨Nat.zero_le _, Nat.zero_le _⟩) ?_
      refine td_tl (lN (td_v (T / 256 % 256) Lt)) (td_q_nat (b := 65536) (td_nb (by omega) hL) (by decide) (by decide)) ?_
      refine lv_l2i (v := (lN (td_v (T / 256 % 256) Lt)).toInt32) hx hb dX3_litColour_34 rfl ?_
      refine td_ti (nI (td_v (T / 256 % 256) Lt)) (lN_i _) ?_
      refine lv_iload hx hb dX3_litColour_35 (lv_at hl 1 rfl) ?_
      refine lv_ishl hx hb dX3_litColour_37 ?_
      refine td_ti (nI (td_v (T / 256 % 256) Lt * 2 ^ 8)) (pk_shlN _ 8 (by decide) (by omega)) ?_
      refine lv_ior hx hb dX3_litColour_38 ?_
      refine td_ti (nI (td_v (T / 256 % 256) Lt * 2 ^ 8 + td_v (T % 256) Lt)) (td_or8 8 (by omega)) ?_
      refine lv_istore_n (lv' := [(3, .int (nI (td_v (T / 256 % 256) Lt * 2 ^ 8 + td_v (T % 256) Lt))), (5, .long (lN (T / 256 % 256))), (4, .int (nI 8)), (0, .int (nI T)), (1, .long (lN Lt))]) hx hb dX3_litColour_39 rfl hl (by decide) rfl (fun ls hl => ?_)
      refine lv_iinc (v := nI 16) (lv' := [(4, .int (nI 16)), (3, .int (nI (td_v (T / 256 % 256) Lt * 2 ^ 8 + td_v (T % 256) Lt))), (5, .long (lN (T / 256 % 256))), (0, .int (nI T)), (1, .long (lN Lt))]) hx hb dX3_litColour_40 hl (k := 2) rfl (nI_add 8 8) (by decide) rfl (fun ls hl => ?_)
      refine lv_goto (tgt := 5) hx hb dX3_litColour_43 (by decide) ?_
      refine lv_iload hx hb dX3_litColour_5 (lv_at hl 0 rfl) ?_
      refine lv_bipush (v := 16) hx hb dX3_litColour_7 (by decide) ?_
      refine lv_icmp_gt (tgt := 46) hx hb dX3_litColour_9 (by decide) (fun c9_3 => ?_) (fun c9_3 => ?_)
      · exact absurd c9_3 (by decide)
      · refine lv_iload_n hx hb dX3_litColour_12 rfl (lv_at hl 3 rfl) ?_
        refine lv_iload hx hb dX3_litColour_13 (lv_at hl 0 rfl) ?_
        refine lv_ishr hx hb dX3_litColour_15 ?_
        refine td_ti (nI (T / 2 ^ 16)) (pk_shrN (by omega) _ 16 (by decide)) ?_
        refine lv_sipush (v := 255) hx hb dX3_litColour_16 (by decide) ?_
        refine lv_iand hx hb dX3_litColour_19 ?_
        refine td_ti (nI (T / 65536)) ((pk_andN (m := 255) (by omega) 8 (by decide)).trans (congrArg nI (by omega))) ?_
        refine lv_i2l (v := (nI (T / 65536)).toInt64) hx hb dX3_litColour_20 rfl ?_
        refine td_tl (lN (T / 65536)) (nI_l (by omega)) ?_
        refine lv_lstore (lv' := [(5, .long (lN (T / 65536))), (4, .int (nI 16)), (3, .int (nI (td_v (T / 256 % 256) Lt * 2 ^ 8 + td_v (T % 256) Lt))), (0, .int (nI T)), (1, .long (lN Lt))]) hx hb dX3_litColour_21 hl (by decide) rfl (fun ls hl => ?_)
        refine lv_iload_n hx hb dX3_litColour_23 rfl (lv_at hl 2 rfl) ?_
        refine lv_lload hx hb dX3_litColour_24 (lv_at hl 0 rfl) ?_
        refine lv_lload_n hx hb dX3_litColour_26 rfl (lv_at hl 4 rfl) ?_
        refine lv_lmul hx hb dX3_litColour_27 ?_
        refine td_tl (lN ((T / 65536) * Lt)) (lN_mul _ _) ?_
        refine lv_ldc2 (own := RX3) (v := 65536) hx hb hown (hts (.constantLong RX3 115 65536) (td_i10 (List.mem_of_getElem? (i := 16) rfl))) dX3_litColour_28 ?_
        refine td_csl (va_runS (As := [.long (lN ((T / 65536) * Lt)), .long 65536]) (rest := [.int (nI (td_v (T / 256 % 256) Lt * 2 ^ 8 + td_v (T % 256) Lt))]) ⟨hx, hb, hml, hown, hts⟩ (td_quotient l dC dI cI cJ cZ (lN ((T / 65536) * Lt)) 65536) (va_cwS 2 hts (td_gS (td_i10 (List.mem_of_getElem? (i := 17) rfl)) (td_i7 (List.mem_of_getElem? (i := 2) rfl)) (td_i1 (List.mem_of_getElem? (i := 1) rfl)) (td_i7 (List.mem_of_getElem? (i := 3) rfl))) rfl rfl rfl (by decide +kernel) ⟨(Nat.le_of_ble_eq_true rfl), (Nat.le_of_ble_eq_true rfl)⟩) (td_pRS hK hZ hP [] rfl) rfl rfl hl.1 rfl (lv_room (Nat.le_of_ble_eq_true rfl)) dX3_litColour_31 ⟨Nat.zero_le _, Nat.zero_le _⟩) ?_
        refine td_tl (lN (td_v (T / 65536) Lt)) (td_q_nat (b := 65536) (td_nb (by omega) hL) (by decide) (by decide)) ?_
        refine lv_l2i (v := (lN (td_v (T / 65536) Lt)).toInt32) hx hb dX3_litColour_34 rfl ?_
        refine td_ti (nI (td_v (T / 65536) Lt)) (lN_i _) ?_
        refine lv_iload hx hb dX3_litColour_35 (lv_at hl 1 rfl) ?_
        refine lv_ishl hx hb dX3_litColour_37 ?_
        refine td_ti (nI (td_v (T / 65536) Lt * 2 ^ 16)) (pk_shlN _ 16 (by decide) (by omega)) ?_
        refine lv_ior hx hb dX3_litColour_38 ?_
        refine td_ti (nI (td_v (T / 65536) Lt * 2 ^ 16 + (td_v (T / 256 % 256) Lt * 2 ^ 8 + td_v (T % 256) Lt))) (td_or8 16 (by omega)) ?_
        refine lv_istore_n (lv' := [(3, .int (nI (td_v (T / 65536) Lt * 2 ^ 16 + (td_v (T / 256 % 256) Lt * 2 ^ 8 + td_v (T % 256) Lt)))), (5, .long (lN (T / 65536))), (4, .int (nI 16)), (0, .int (nI T)), (1, .long (lN Lt))]) hx hb dX3_litColour_39 rfl hl (by decide) rfl (fun ls hl => ?_)
        refine lv_iinc (v := nI 24) (lv' := [(4, .int (nI 24)), (3, .int (nI (td_v (T / 65536) Lt * 2 ^ 16 + (td_v (T / 256 % 256) Lt * 2 ^ 8 + td_v (T % 256) Lt)))), (5, .long (lN (T / 65536))), (0, .int (nI T)), (1, .long (lN Lt))]) hx hb dX3_litColour_40 hl (k := 2) rfl (nI_add 16 8) (by decide) rfl (fun ls hl => ?_)
        refine lv_goto (tgt := 5) hx hb dX3_litColour_43 (by decide) ?_
        refine lv_iload hx hb dX3_litColour_5 (lv_at hl 0 rfl) ?_
        refine lv_bipush (v := 16) hx hb dX3_litColour_7 (by decide) ?_
        refine lv_icmp_gt (tgt := 46) hx hb dX3_litColour_9 (by decide) (fun c9_4 => ?_) (fun c9_4 => ?_)
        · refine lv_iload_n hx hb dX3_litColour_46 rfl (lv_at hl 1 rfl) ?_
          exact td_rri hx hb hr rfl hlocks (by unfold td_lit; congr 1; omega) dX3_litColour_47
        · exact absurd c9_4 (by decide)
set_option maxHeartbeats 4000000 in
set_option maxRecDepth 100000 in
/-- mixedColour -/
theorem td_mixedColour (l : Launch) (dC : Nat → ClassId) (dI : Nat → Nat → Nat) (cI cJ cZ : ClassId) (Fr : Nat) (Od : Nat) (Cv : Nat) (hF : Fr < 16777216) (hO : Od < 16777216) (hC : Cv ≤ 255) : Met l yX3_mixedColour wsX3_mixedColour ({ frames := 2, cells := 0, slots := 0, locals := 48 }) (td_RP (dC, dI) vwCl (td_T cI cJ cZ) td_nl [] [.int (nI Fr), .int (nI Od), .int (nI Cv)]) (vp_Si (fun r => r = nI (td_mix Fr Od Cv))) 0 0 (fun _ => False) := by
  refine Met.ofW (cc := cX3_mixedColour) (maxL := 11) (ret := (some .int)) (by decide) rfl ?_
  intro p e s m args below meth c s₁ B hml hv
  obtain ⟨rfl, hP, hK, hZ⟩ := hv
  have hx := B.exec
  have hb := B.bytes
  have hr := B.returns
  have hts := atoms_spec (ws := wsX3_mixedColour) B.pre
  have hown : s.vm.findClass RX3 = some m.cls := findClass_of_methodNamed B.named
  have hlocks := B.notSynchronized
  have hP : va_P (dC, dI) vwCl [] s.heap := hP
  have hl := lv_entry ([.int (nI Fr), .int (nI Od), .int (nI Cv)]) (n := 11) (Nat.le_of_ble_eq_true rfl)
  rw [lg_entry_eq]
  generalize (lg_sl ([.int (nI Fr), .int (nI Od), .int (nI Cv)]) ++ List.replicate (11 - (lg_sl ([.int (nI Fr), .int (nI Od), .int (nI Cv)])).length) Slot.unset).toArray = ls at hl ⊢
  have hl : lv_has ls 11 [(0, .int (nI Fr)), (1, .int (nI Od)), (2, .int (nI Cv))] := hl
  have h0 := td_mx_le (f := Fr % 256) (o := Od % 256) (c := Cv) (by omega) (by omega) hC
  have h1 := td_mx_le (f := Fr / 256 % 256) (o := Od / 256 % 256) (c := Cv) (by omega) (by omega) hC
  have h2 := td_mx_le (f := Fr / 65536) (o := Od / 65536) (c := Cv) (by omega) (by omega) hC
  refine lv_iconst (v := 0) hx hb dX3_mixedColour_0 (by decide) ?_
  refine lv_istore_n (lv' := [(3, .int 0), (0, .int (nI Fr)), (1, .int (nI Od)), (2, .int (nI Cv))]) hx hb dX3_mixedColour_1 rfl hl (by decide) rfl (fun ls hl => ?_)
  refine lv_iconst (v := 0) hx hb dX3_mixedColour_2 (by decide) ?_
  refine lv_istore (lv' := [(4, .int 0), (3, .int 0), (0, .int (nI Fr)), (1, .int (nI Od)), (2, .int (nI Cv))]) hx hb dX3_mixedColour_3 hl (by decide) rfl (fun ls hl => ?_)
  refine lv_iload hx hb dX3_mixedColour_5 (lv_at hl 0 rfl) ?_
  refine lv_bipush (v := 16) hx hb dX3_mixedColour_7 (by decide) ?_
  refine lv_icmp_gt (tgt := 72) hx hb dX3_mixedColour_9 (by decide) (fun c9_1 => ?_) (fun c9_1 => ?_)
  · exact absurd c9_1 (by decide)
  · refine lv_iload_n hx hb dX3_mixedColour_12 rfl (lv_at hl 2 rfl) ?_
    refine lv_iload hx hb dX3_mixedColour_13 (lv_at hl 0 rfl) ?_
    refine lv_ishr hx hb dX3_mixedColour_15 ?_
    refine td_ti (nI (Fr / 2 ^ 0)) (pk_shrN (by omega) _ 0 (by decide)) ?_
    refine lv_sipush (v := 255) hx hb dX3_mixedColour_16 (by decide) ?_
    refine lv_iand hx hb dX3_mixedColour_19 ?_
    refine td_ti (nI (Fr % 256)) ((pk_andN (m := 255) (by omega) 8 (by decide)).trans (congrArg nI (by omega))) ?_
    refine lv_i2l (v := (nI (Fr % 256)).toInt64) hx hb dX3_mixedColour_20 rfl ?_
    refine td_tl (lN (Fr % 256)) (nI_l (by omega)) ?_
    refine lv_lstore (lv' := [(5, .long (lN (Fr % 256))), (4, .int 0), (3, .int 0), (0, .int (nI Fr)), (1, .int (nI Od)), (2, .int (nI Cv))]) hx hb dX3_mixedColour_21 hl (by decide) rfl (fun ls hl => ?_)
    refine lv_iload_n hx hb dX3_mixedColour_23 rfl (lv_at hl 4 rfl) ?_
    refine lv_iload hx hb dX3_mixedColour_24 (lv_at hl 1 rfl) ?_
    refine lv_ishr hx hb dX3_mixedColour_26 ?_
    refine td_ti (nI (Od / 2 ^ 0)) (pk_shrN (by omega) _ 0 (by decide)) ?_
    refine lv_sipush (v := 255) hx hb dX3_mixedColour_27 (by decide) ?_
    refine lv_iand hx hb dX3_mixedColour_30 ?_
    refine td_ti (nI (Od % 256)) ((pk_andN (m := 255) (by omega) 8 (by decide)).trans (congrArg nI (by omega))) ?_
    refine lv_i2l (v := (nI (Od % 256)).toInt64) hx hb dX3_mixedColour_31 rfl ?_
    refine td_tl (lN (Od % 256)) (nI_l (by omega)) ?_
    refine lv_lstore (lv' := [(7, .long (lN (Od % 256))), (5, .long (lN (Fr % 256))), (4, .int 0), (3, .int 0), (0, .int (nI Fr)), (1, .int (nI Od)), (2, .int (nI Cv))]) hx hb dX3_mixedColour_32 hl (by decide) rfl (fun ls hl => ?_)
    refine lv_lload hx hb dX3_mixedColour_34 (lv_at hl 1 rfl) ?_
    refine lv_iload_n hx hb dX3_mixedColour_36 rfl (lv_at hl 6 rfl) ?_
    refine lv_i2l (v := (nI Cv).toInt64) hx hb dX3_mixedColour_37 rfl ?_
    refine td_tl (lN Cv) (nI_l (by omega)) ?_
    refine lv_lmul hx hb dX3_mixedColour_38 ?_
    refine td_tl (lN ((Fr % 256) * Cv)) (lN_mul _ _) ?_
    refine lv_lload hx hb dX3_mixedColour_39 (lv_at hl 0 rfl) ?_
    refine lv_sipush (v := 255) hx hb dX3_mixedColour_41 (by decide) ?_
    refine lv_iload_n hx hb dX3_mixedColour_44 rfl (lv_at hl 6 rfl) ?_
    refine lv_isub hx hb dX3_mixedColour_45 ?_
    refine td_ti (nI (255 - Cv)) (pk_sub (a := 255) (by omega)) ?_
    refine lv_i2l (v := (nI (255 - Cv)).toInt64) hx hb dX3_mixedColour_46 rfl ?_
    refine td_tl (lN (255 - Cv)) (nI_l (by omega)) ?_
    refine lv_lmul hx hb dX3_mixedColour_47 ?_
    refine td_tl (lN ((Od % 256) * (255 - Cv))) (lN_mul _ _) ?_
    refine lv_ladd hx hb dX3_mixedColour_48 ?_
    refine td_tl (lN ((Fr % 256) * Cv + (Od % 256) * (255 - Cv))) (lN_add _ _) ?_
    refine lv_lstore (lv' := [(9, .long (lN ((Fr % 256) * Cv + (Od % 256) * (255 - Cv)))), (7, .long (lN (Od % 256))), (5, .long (lN (Fr % 256))), (4, .int 0), (3, .int 0), (0, .int (nI Fr)), (1, .int (nI Od)), (2, .int (nI Cv))]) hx hb dX3_mixedColour_49 hl (by decide) rfl (fun ls hl => ?_)
    refine lv_iload_n hx hb dX3_mixedColour_51 rfl (lv_at hl 4 rfl) ?_
    refine lv_lload hx hb dX3_mixedColour_52 (lv_at hl 0 rfl) ?_
    refine lv_ldc2 (own := RX3) (v := 255) hx hb hown (hts (.constantLong RX3 120 255) (td_i10 (List.mem_of_getElem? (i := 20) rfl))) dX3_mixedColour_54 ?_
    refine td_csl (va_runS (As := [.long (lN ((Fr % 256) * Cv + (Od % 256) * (255 - Cv))), .long 255]) (rest := [.int 0]) ⟨hx, hb, hml, hown, hts⟩ (td_quotient l dC dI cI cJ cZ (lN ((Fr % 256) * Cv + (Od % 256) * (255 - Cv))) 255) (va_cwS 2 hts (td_gS (td_i10 (List.mem_of_getElem? (i := 17) rfl)) (td_i7 (List.mem_of_getElem? (i := 2) rfl)) (td_i1 (List.mem_of_getElem? (i := 1) rfl)) (td_i7 (List.mem_of_getElem? (i := 3) rfl))) rfl rfl rfl (by decide +kernel) ⟨(Nat.le_of_ble_eq_true rfl), (Nat.le_of_ble_eq_true rfl)⟩) (td_pRS hK hZ hP [] rfl) rfl rfl hl.1 rfl (lv_room (Nat.le_of_ble_eq_true rfl)) dX3_mixedColour_57 ⟨Nat.zero_le _, Nat.zero_le _⟩) ?_
    refine td_tl (lN (td_mx (Fr % 256) (Od % 256) Cv)) (td_q_nat (b := 255) (td_nb2 (by omega) (by omega) hC) (by decide) (by decide)) ?_
    refine lv_l2i (v := (lN (td_mx (Fr % 256) (Od % 256) Cv)).toInt32) hx hb dX3_mixedColour_60 rfl ?_
    refine td_ti (nI (td_mx (Fr % 256) (Od % 256) Cv)) (lN_i _) ?_
    refine lv_iload hx hb dX3_mixedColour_61 (lv_at hl 3 rfl) ?_
    refine lv_ishl hx hb dX3_mixedColour_63 ?_
    refine td_ti (nI (td_mx (Fr % 256) (Od % 256) Cv * 2 ^ 0)) (pk_shlN _ 0 (by decide) (by omega)) ?_
    refine lv_ior hx hb dX3_mixedColour_64 ?_
    refine td_ti (nI (td_mx (Fr % 256) (Od % 256) Cv)) ((td_or 0 _).trans (by rw [Nat.zero_or, Nat.pow_zero, Nat.mul_one])) ?_
    refine lv_istore_n (lv' := [(3, .int (nI (td_mx (Fr % 256) (Od % 256) Cv))), (9, .long (lN ((Fr % 256) * Cv + (Od % 256) * (255 - Cv)))), (7, .long (lN (Od % 256))), (5, .long (lN (Fr % 256))), (4, .int 0), (0, .int (nI Fr)), (1, .int (nI Od)), (2, .int (nI Cv))]) hx hb dX3_mixedColour_65 rfl hl (by decide) rfl (fun ls hl => ?_)
    refine lv_iinc (v := nI 8) (lv' := [(4, .int (nI 8)), (3, .int (nI (td_mx (Fr % 256) (Od % 256) Cv))), (9, .long (lN ((Fr % 256) * Cv + (Od % 256) * (255 - Cv)))), (7, .long (lN (Od % 256))), (5, .long (lN (Fr % 256))), (0, .int (nI Fr)), (1, .int (nI Od)), (2, .int (nI Cv))]) hx hb dX3_mixedColour_66 hl (k := 4) rfl (nI_add 0 8) (by decide) rfl (fun ls hl => ?_)
    refine lv_goto (tgt := 5) hx hb dX3_mixedColour_69 (by decide) ?_
    refine lv_iload hx hb dX3_mixedColour_5 (lv_at hl 0 rfl) ?_
    refine lv_bipush (v := 16) hx hb dX3_mixedColour_7 (by decide) ?_
    refine lv_icmp_gt (tgt := 72) hx hb dX3_mixedColour_9 (by decide) (fun c9_2 => ?_) (fun c9_2 => ?_)
    · exact absurd c9_2 (by decide)
    · refine lv_iload_n hx hb dX3_mixedColour_12 rfl (lv_at hl 5 rfl) ?_
      refine lv_iload hx hb dX3_mixedColour_13 (lv_at hl 0 rfl) ?_
      refine lv_ishr hx hb dX3_mixedColour_15 ?_
      refine td_ti (nI (Fr / 2 ^ 8)) (pk_shrN (by omega) _ 8 (by decide)) ?_
      refine lv_sipush (v := 255) hx hb dX3_mixedColour_16 (by decide) ?_
      refine lv_iand hx hb dX3_mixedColour_19 ?_
      refine td_ti (nI (Fr / 256 % 256)) ((pk_andN (m := 255) (by omega) 8 (by decide)).trans (congrArg nI (by omega))) ?_
      refine lv_i2l (v := (nI (Fr / 256 % 256)).toInt64) hx hb dX3_mixedColour_20 rfl ?_
      refine td_tl (lN (Fr / 256 % 256)) (nI_l (by omega)) ?_
      refine lv_lstore (lv' := [(5, .long (lN (Fr / 256 % 256))), (4, .int (nI 8)), (3, .int (nI (td_mx (Fr % 256) (Od % 256) Cv))), (9, .long (lN ((Fr % 256) * Cv + (Od % 256) * (255 - Cv)))), (7, .long (lN (Od % 256))), (0, .int (nI Fr)), (1, .int (nI Od)), (2, .int (nI Cv))]) hx hb dX3_mixedColour_21 hl (by decide) rfl (fun ls hl => ?_)
      refine lv_iload_n hx hb dX3_mixedColour_23 rfl (lv_at hl 6 rfl) ?_
      refine lv_iload hx hb dX3_mixedColour_24 (lv_at hl 1 rfl) ?_
      refine lv_ishr hx hb dX3_mixedColour_26 ?_
      refine td_ti (nI (Od / 2 ^ 8)) (pk_shrN (by omega) _ 8 (by decide)) ?_
      refine lv_sipush (v := 255) hx hb dX3_mixedColour_27 (by decide) ?_
      refine lv_iand hx hb dX3_mixedColour_30 ?_
      refine td_ti (nI (Od / 256 % 256)) ((pk_andN (m := 255) (by omega) 8 (by decide)).trans (congrArg nI (by omega))) ?_
      refine lv_i2l (v := (nI (Od / 256 % 256)).toInt64) hx hb dX3_mixedColour_31 rfl ?_
      refine td_tl (lN (Od / 256 % 256)) (nI_l (by omega)) ?_
      refine lv_lstore (lv' := [(7, .long (lN (Od / 256 % 256))), (5, .long (lN (Fr / 256 % 256))), (4, .int (nI 8)), (3, .int (nI (td_mx (Fr % 256) (Od % 256) Cv))), (9, .long (lN ((Fr % 256) * Cv + (Od % 256) * (255 - Cv)))), (0, .int (nI Fr)), (1, .int (nI Od)), (2, .int (nI Cv))]) hx hb dX3_mixedColour_32 hl (by decide) rfl (fun ls hl => ?_)
      refine lv_lload hx hb dX3_mixedColour_34 (lv_at hl 1 rfl) ?_
      refine lv_iload_n hx hb dX3_mixedColour_36 rfl (lv_at hl 7 rfl) ?_
      refine lv_i2l (v := (nI Cv).toInt64) hx hb dX3_mixedColour_37 rfl ?_
      refine td_tl (lN Cv) (nI_l (by omega)) ?_
      refine lv_lmul hx hb dX3_mixedColour_38 ?_
      refine td_tl (lN ((Fr / 256 % 256) * Cv)) (lN_mul _ _) ?_
      refine lv_lload hx hb dX3_mixedColour_39 (lv_at hl 0 rfl) ?_
      refine lv_sipush (v := 255) hx hb dX3_mixedColour_41 (by decide) ?_
      refine lv_iload_n hx hb dX3_mixedColour_44 rfl (lv_at hl 7 rfl) ?_
      refine lv_isub hx hb dX3_mixedColour_45 ?_
      refine td_ti (nI (255 - Cv)) (pk_sub (a := 255) (by omega)) ?_
      refine lv_i2l (v := (nI (255 - Cv)).toInt64) hx hb dX3_mixedColour_46 rfl ?_
      refine td_tl (lN (255 - Cv)) (nI_l (by omega)) ?_
      refine lv_lmul hx hb dX3_mixedColour_47 ?_
      refine td_tl (lN ((Od / 256 % 256) * (255 - Cv))) (lN_mul _ _) ?_
      refine lv_ladd hx hb dX3_mixedColour_48 ?_
      refine td_tl (lN ((Fr / 256 % 256) * Cv + (Od / 256 % 256) * (255 - Cv))) (lN_add _ _) ?_
      refine lv_lstore (lv' := [(9, .long (lN ((Fr / 256 % 256) * Cv + (Od / 256 % 256) * (255 - Cv)))), (7, .long (lN (Od / 256 % 256))), (5, .long (lN (Fr / 256 % 256))), (4, .int (nI 8)), (3, .int (nI (td_mx (Fr % 256) (Od % 256) Cv))), (0, .int (nI Fr)), (1, .int (nI Od)), (2, .int (nI Cv))]) hx hb dX3_mixedColour_49 hl (by decide) rfl (fun ls hl => ?_)
      refine lv_iload_n hx hb dX3_mixedColour_51 rfl (lv_at hl 4 rfl) ?_
      refine lv_lload hx hb dX3_mixedColour_52 (lv_at hl 0 rfl) ?_
      refine lv_ldc2 (own := RX3) (v := 255) hx hb hown (hts (.constantLong RX3 120 255) (td_i10 (List.mem_of_getElem? (i := 20) rfl))) dX3_mixedColour_54 ?_
      refine td_csl (va_runS (As := [.long (lN ((Fr / 256 % 256) * Cv + (Od / 256 % 256) * (255 - Cv))), .long 255]) (rest := [.int (nI (td_mx (Fr % 256) (Od % 256) Cv))]) ⟨hx, hb, hml, hown, hts⟩ (td_quotient l dC dI cI cJ cZ (lN ((Fr / 256 % 256) * Cv + (Od / 256 % 256) * (255 - Cv))) 255) (va_cwS 2 hts (td_gS (td_i10 (List.mem_of_getElem? (i := 17) rfl)) (td_i7 (List.mem_of_getElem? (i := 2) rfl)) (td_i1 (List.mem_of_getElem? (i := 1) rfl)) (td_i7 (List.mem_of_getElem? (i := 3) rfl))) rfl rfl rfl (by decide +kernel) ⟨(Nat.le_of_ble_eq_true rfl), (Nat.le_of_ble_eq_true rfl)⟩) (td_pRS hK hZ hP [] rfl) rfl rfl hl.1 rfl (lv_room (Nat.le_of_ble_eq_true rfl)) dX3_mixedColour_57 ⟨Nat.zero_le _, Nat.zero_le _⟩) ?_
      refine td_tl (lN (td_mx (Fr / 256 % 256) (Od / 256 % 256) Cv)) (td_q_nat (b := 255) (td_nb2 (by omega) (by omega) hC) (by decide) (by decide)) ?_
      refine lv_l2i (v := (lN (td_mx (Fr / 256 % 256) (Od / 256 % 256) Cv)).toInt32) hx hb dX3_mixedColour_60 rfl ?_
      refine td_ti (nI (td_mx (Fr / 256 % 256) (Od / 256 % 256) Cv)) (lN_i _) ?_
      refine lv_iload hx hb dX3_mixedColour_61 (lv_at hl 3 rfl) ?_
      refine lv_ishl hx hb dX3_mixedColour_63 ?_
      refine td_ti (nI (td_mx (Fr / 256 % 256) (Od / 256 % 256) Cv * 2 ^ 8)) (pk_shlN _ 8 (by decide) (by omega)) ?_
      refine lv_ior hx hb dX3_mixedColour_64 ?_
      refine td_ti (nI (td_mx (Fr / 256 % 256) (Od / 256 % 256) Cv * 2 ^ 8 + td_mx (Fr % 256) (Od % 256) Cv)) (td_or8 8 (by omega)) ?_
      refine lv_istore_n (lv' := [(3, .int (nI (td_mx (Fr / 256 % 256) (Od / 256 % 256) Cv * 2 ^ 8 + td_mx (Fr % 256) (Od % 256) Cv))), (9, .long (lN ((Fr / 256 % 256) * Cv + (Od / 256 % 256) * (255 - Cv)))), (7, .long (lN (Od / 256 % 256))), (5, .long (lN (Fr / 256 % 256))), (4, .int (nI 8)), (0, .int (nI Fr)), (1, .int (nI Od)), (2, .int (nI Cv))]) hx hb dX3_mixedColour_65 rfl hl (by decide) rfl (fun ls hl => ?_)
      refine lv_iinc (v := nI 16) (lv' := [(4, .int (nI 16)), (3, .int (nI (td_mx (Fr / 256 % 256) (Od / 256 % 256) Cv * 2 ^ 8 + td_mx (Fr % 256) (Od % 256) Cv))), (9, .long (lN ((Fr / 256 % 256) * Cv + (Od / 256 % 256) * (255 - Cv)))), (7, .long (lN (Od / 256 % 256))), (5, .long (lN (Fr / 256 % 256))), (0, .int (nI Fr)), (1, .int (nI Od)), (2, .int (nI Cv))]) hx hb dX3_mixedColour_66 hl (k := 4) rfl (nI_add 8 8) (by decide) rfl (fun ls hl => ?_)
      refine lv_goto (tgt := 5) hx hb dX3_mixedColour_69 (by decide) ?_
      refine lv_iload hx hb dX3_mixedColour_5 (lv_at hl 0 rfl) ?_
      refine lv_bipush (v := 16) hx hb dX3_mixedColour_7 (by decide) ?_
      refine lv_icmp_gt (tgt := 72) hx hb dX3_mixedColour_9 (by decide) (fun c9_3 => ?_) (fun c9_3 => ?_)
      · exact absurd c9_3 (by decide)
      · refine lv_iload_n hx hb dX3_mixedColour_12 rfl (lv_at hl 5 rfl) ?_
        refine lv_iload hx hb dX3_mixedColour_13 (lv_at hl 0 rfl) ?_
        refine lv_ishr hx hb dX3_mixedColour_15 ?_
        refine td_ti (nI (Fr / 2 ^ 16)) (pk_shrN (by omega) _ 16 (by decide)) ?_
        refine lv_sipush (v := 255) hx hb dX3_mixedColour_16 (by decide) ?_
        refine lv_iand hx hb dX3_mixedColour_19 ?_
        refine td_ti (nI (Fr / 65536)) ((pk_andN (m := 255) (by omega) 8 (by decide)).trans (congrArg nI (by omega))) ?_
        refine lv_i2l (v := (nI (Fr / 65536)).toInt64) hx hb dX3_mixedColour_20 rfl ?_
        refine td_tl (lN (Fr / 65536)) (nI_l (by omega)) ?_
        refine lv_lstore (lv' := [(5, .long (lN (Fr / 65536))), (4, .int (nI 16)), (3, .int (nI (td_mx (Fr / 256 % 256) (Od / 256 % 256) Cv * 2 ^ 8 + td_mx (Fr % 256) (Od % 256) Cv))), (9, .long (lN ((Fr / 256 % 256) * Cv + (Od / 256 % 256) * (255 - Cv)))), (7, .long (lN (Od / 256 % 256))), (0, .int (nI Fr)), (1, .int (nI Od)), (2, .int (nI Cv))]) hx hb dX3_mixedColour_21 hl (by decide) rfl (fun ls hl => ?_)
        refine lv_iload_n hx hb dX3_mixedColour_23 rfl (lv_at hl 6 rfl) ?_
        refine lv_iload hx hb dX3_mixedColour_24 (lv_at hl 1 rfl) ?_
        refine lv_ishr hx hb dX3_mixedColour_26 ?_
        refine td_ti (nI (Od / 2 ^ 16)) (pk_shrN (by omega) _ 16 (by decide)) ?_
        refine lv_sipush (v := 255) hx hb dX3_mixedColour_27 (by decide) ?_
        refine lv_iand hx hb dX3_mixedColour_30 ?_
        refine td_ti (nI (Od / 65536)) ((pk_andN (m := 255) (by omega) 8 (by decide)).trans (congrArg nI (by omega))) ?_
        refine lv_i2l (v := (nI (Od / 65536)).toInt64) hx hb dX3_mixedColour_31 rfl ?_
        refine td_tl (lN (Od / 65536)) (nI_l (by omega)) ?_
        refine lv_lstore (lv' := [(7, .long (lN (Od / 65536))), (5, .long (lN (Fr / 65536))), (4, .int (nI 16)), (3, .int (nI (td_mx (Fr / 256 % 256) (Od / 256 % 256) Cv * 2 ^ 8 + td_mx (Fr % 256) (Od % 256) Cv))), (9, .long (lN ((Fr / 256 % 256) * Cv + (Od / 256 % 256) * (255 - Cv)))), (0, .int (nI Fr)), (1, .int (nI Od)), (2, .int (nI Cv))]) hx hb dX3_mixedColour_32 hl (by decide) rfl (fun ls hl => ?_)
        refine lv_lload hx hb dX3_mixedColour_34 (lv_at hl 1 rfl) ?_
        refine lv_iload_n hx hb dX3_mixedColour_36 rfl (lv_at hl 7 rfl) ?_
        refine lv_i2l (v := (nI Cv).toInt64) hx hb dX3_mixedColour_37 rfl ?_
        refine td_tl (lN Cv) (nI_l (by omega)) ?_
        refine lv_lmul hx hb dX3_mixedColour_38 ?_
        refine td_tl (lN ((Fr / 65536) * Cv)) (lN_mul _ _) ?_
        refine lv_lload hx hb dX3_mixedColour_39 (lv_at hl 0 rfl) ?_
        refine lv_sipush (v := 255) hx hb dX3_mixedColour_41 (by decide) ?_
        refine lv_iload_n hx hb dX3_mixedColour_44 rfl (lv_at hl 7 rfl) ?_
        refine lv_isub hx hb dX3_mixedColour_45 ?_
        refine td_ti (nI (255 - Cv)) (pk_sub (a := 255) (by omega)) ?_
        refine lv_i2l (v := (nI (255 - Cv)).toInt64) hx hb dX3_mixedColour_46 rfl ?_
        refine td_tl (lN (255 - Cv)) (nI_l (by omega)) ?_
        refine lv_lmul hx hb dX3_mixedColour_47 ?_
        refine td_tl (lN ((Od / 65536) * (255 - Cv))) (lN_mul _ _) ?_
        refine lv_ladd hx hb dX3_mixedColour_48 ?_
        refine td_tl (lN ((Fr / 65536) * Cv + (Od / 65536) * (255 - Cv))) (lN_add _ _) ?_
        refine lv_lstore (lv' := [(9, .long (lN ((Fr / 65536) * Cv + (Od / 65536) * (255 - Cv)))), (7, .long (lN (Od / 65536))), (5, .long (lN (Fr / 65536))), (4, .int (nI 16)), (3, .int (nI (td_mx (Fr / 256 % 256) (Od / 256 % 256) Cv * 2 ^ 8 + td_mx (Fr % 256) (Od % 256) Cv))), (0, .int (nI Fr)), (1, .int (nI Od)), (2, .int (nI Cv))]) hx hb dX3_mixedColour_49 hl (by decide) rfl (fun ls hl => ?_)
        refine lv_iload_n hx hb dX3_mixedColour_51 rfl (lv_at hl 4 rfl) ?_
        refine lv_lload hx hb dX3_mixedColour_52 (lv_at hl 0 rfl) ?_
        refine lv_ldc2 (own := RX3) (v := 255) hx hb hown (hts (.constantLong RX3 120 255) (td_i10 (List.mem_of_getElem? (i := 20) rfl))) dX3_mixedColour_54 ?_
        refine td_csl (va_runS (As := [.long (lN ((Fr / 65536) * Cv + (Od / 65536) * (255 - Cv))), .long 255]) (rest := [.int (nI (td_mx (Fr / 256 % 256) (Od / 256 % 256) Cv * 2 ^ 8 + td_mx (Fr % 256) (Od % 256) Cv))]) ⟨hx, hb, hml, hown, hts⟩ (td_quotient l dC dI cI cJ cZ (lN ((Fr / 65536) * Cv + (Od / 65536) * (255 - Cv))) 255) (va_cwS 2 hts (td_gS (td_i10 (List.mem_of_getElem? (i := 17) rfl)) (td_i7 (List.mem_of_getElem? (i := 2) rfl)) (td_i1 (List.mem_of_getElem? (i := 1) rfl)) (td_i7 (List.mem_of_getElem? (i := 3) rfl))) rfl rfl rfl (by decide +kernel) ⟨(Nat.le_of_ble_eq_true rfl), (Nat.le_of_ble_eq_true rfl)⟩) (td_pRS hK hZ hP [] rfl) rfl rfl hl.1 rfl (lv_room (Nat.le_of_ble_eq_true rfl)) dX3_mixedColour_57 ⟨Nat.zero_le _, Nat.zero_le _⟩) ?_
        refine td_tl (lN (td_mx (Fr / 65536) (Od / 65536) Cv)) (td_q_nat (b := 255) (td_nb2 (by omega) (by omega) hC) (by decide) (by decide)) ?_
        refine lv_l2i (v := (lN (td_mx (Fr / 65536) (Od / 65536) Cv)).toInt32) hx hb dX3_mixedColour_60 rfl ?_
        refine td_ti (nI (td_mx (Fr / 65536) (Od / 65536) Cv)) (lN_i _) ?_
        refine lv_iload hx hb dX3_mixedColour_61 (lv_at hl 3 rfl) ?_
        refine lv_ishl hx hb dX3_mixedColour_63 ?_
        refine td_ti (nI (td_mx (Fr / 65536) (Od / 65536) Cv * 2 ^ 16)) (pk_shlN _ 16 (by decide) (by omega)) ?_
        refine lv_ior hx hb dX3_mixedColour_64 ?_
        refine td_ti (nI (td_mx (Fr / 65536) (Od / 65536) Cv * 2 ^ 16 + (td_mx (Fr / 256 % 256) (Od / 256 % 256) Cv * 2 ^ 8 + td_mx (Fr % 256) (Od % 256) Cv))) (td_or8 16 (by omega)) ?_
        refine lv_istore_n (lv' := [(3, .int (nI (td_mx (Fr / 65536) (Od / 65536) Cv * 2 ^ 16 + (td_mx (Fr / 256 % 256) (Od / 256 % 256) Cv * 2 ^ 8 + td_mx (Fr % 256) (Od % 256) Cv)))), (9, .long (lN ((Fr / 65536) * Cv + (Od / 65536) * (255 - Cv)))), (7, .long (lN (Od / 65536))), (5, .long (lN (Fr / 65536))), (4, .int (nI 16)), (0, .int (nI Fr)), (1, .int (nI Od)), (2, .int (nI Cv))]) hx hb dX3_mixedColour_65 rfl hl (by decide) rfl (fun ls hl => ?_)
        refine lv_iinc (v := nI 24) (lv' := [(4, .int (nI 24)), (3, .int (nI (td_mx (Fr / 65536) (Od / 65536) Cv * 2 ^ 16 + (td_mx (Fr / 256 % 256) (Od / 256 % 256) Cv * 2 ^ 8 + td_mx (Fr % 256) (Od % 256) Cv)))), (9, .long (lN ((Fr / 65536) * Cv + (Od / 65536) * (255 - Cv)))), (7, .long (lN (Od / 65536))), (5, .long (lN (Fr / 65536))), (0, .int (nI Fr)), (1, .int (nI Od)), (2, .int (nI Cv))]) hx hb dX3_mixedColour_66 hl (k := 4) rfl (nI_add 16 8) (by decide) rfl (fun ls hl => ?_)
        refine lv_goto (tgt := 5) hx hb dX3_mixedColour_69 (by decide) ?_
        refine lv_iload hx hb dX3_mixedColour_5 (lv_at hl 0 rfl) ?_
        refine lv_bipush (v := 16) hx hb dX3_mixedColour_7 (by decide) ?_
        refine lv_icmp_gt (tgt := 72) hx hb dX3_mixedColour_9 (by decide) (fun c9_4 => ?_) (fun c9_4 => ?_)
        · refine lv_iload_n hx hb dX3_mixedColour_72 rfl (lv_at hl 1 rfl) ?_
          exact td_rri hx hb hr rfl hlocks (by unfold td_mix; congr 1; omega) dX3_mixedColour_73
        · exact absurd c9_4 (by decide)
end
section
set_option maxHeartbeats 4000000 in
set_option maxRecDepth 100000 in
/-- Shape() -/
theorem td_Shape_init (l : Launch) (dC : Nat → ClassId) (dI : Nat → Nat → Nat) (cI cJ cZ : ClassId) (sz : Nat) (qS : Nat) : Met l yX0_init wsX0_init ({ frames := 1, cells := 5, slots := 15, locals := 12 }) (td_WP (dC, dI) vwCl (td_T cI cJ cZ) td_nl [(qS, .inr (0, [.null, .null, .null, .null, .null]))] sz [.ref qS]) (va_Qv (S := Nat × Nat × Nat × Nat × Nat) (fun u => True) (td_B (dC, dI) vwCl (td_T cI cJ cZ) (va_A [(qS, .inr (0, [.null, .null, .null, .null, .null]))] sz) (fun (u : Nat × Nat × Nat × Nat × Nat) => [(qS, .inr (0, [.ref u.1, .ref u.2.1, .ref u.2.2.1, .ref u.2.2.2.1, .ref u.2.2.2.2])), (u.1, .inl (cJ, 3, .inr (.inl (fun _ => 0)))), (u.2.1, .inl (cJ, 3, .inr (.inl (fun _ => 0)))), (u.2.2.1, .inl (cJ, 3, .inr (.inl (vp_updL (vp_updL (vp_updL (fun _ => 0) 0 1) 1 1) 2 1)))), (u.2.2.2.1, .inl (cJ, 3, .inr (.inl (fun _ => 0)))), (u.2.2.2.2, .inl (cJ, 3, .inr (.inl (fun _ => 0))))])) (va_A [(qS, .inr (0, [.null, .null, .null, .null, .null]))] sz)) 5 15 (va_A [(qS, .inr (0, [.null, .null, .null, .null, .null]))] sz) := by
  refine Met.ofW (cc := cX0_init) (maxL := 1) (ret := none) (by decide) rfl ?_
  intro p e s m args below meth c s₁ B hml hv
  obtain ⟨rfl, hsz, hP, hK, hZ, hD0⟩ := hv
  have hx := B.exec
  have hb := B.bytes
  have hr := B.returns
  have hts := atoms_spec (ws := wsX0_init) B.pre
  have hown : s.vm.findClass RX0 = some m.cls := findClass_of_methodNamed B.named
  have hlocks := B.notSynchronized
  have hin : meth.name = "<init>" := (name_of_methodNamed B.named B.method).1
  subst hsz
  have hD := hD0.self (sz := s.heap.size)
  generalize hAe : va_A [(qS, .inr (0, [.null, .null, .null, .null, .null]))] s.heap.size = A at hD ⊢
  have hA : ∀ q : Nat, s.heap.size ≤ q → A q := fun q h => by rw [← hAe]; exact Or.inr h
  have hS : va_S A s.heap s.heap [] := va_S.rf
  have hP : va_P (dC, dI) vwCl [(qS, .inr (0, [.null, .null, .null, .null, .null]))] s.heap := hP
  have hl := lv_entry ([.ref qS]) (n := 1) (Nat.le_of_ble_eq_true rfl)
  rw [lg_entry_eq]
  generalize (lg_sl ([.ref qS]) ++ List.replicate (1 - (lg_sl ([.ref qS])).length) Slot.unset).toArray = ls at hl ⊢
  have hl : lv_has ls 1 [(0, .ref qS)] := hl
  refine lv_aload_n hx hb dX0_init_0 rfl (lv_at hl 0 rfl) ?_
  refine W.objInit hx hb hown (hts (.methodLink RX0 3 objectInit) (td_i1 (List.mem_of_getElem? (i := 20) rfl))) (hts (.instanceMethod objectInit) (td_i1 (List.mem_of_getElem? (i := 14) rfl))) (hts _ (td_i1 (List.mem_of_getElem? (i := 15) rfl))) rfl (by rw [hml]; exact hl.1) rfl dX0_init_1 (Nat.le_of_ble_eq_true rfl) (Nat.le_of_ble_eq_true rfl) ?_
  refine W.eq (g2 := F0 m 4 ls []) rfl ?_
  refine lv_aload_n hx hb dX0_init_4 rfl (lv_at hl 0 rfl) ?_
  refine lv_iconst (v := 3) hx hb dX0_init_5 (by decide) ?_
  refine td_newa (a0 := (3, .inr (.inl (fun _ => 0)))) (atype := .long) 1 hx hb (hts (.arrayClass .long) (td_i0 (List.mem_of_getElem? (i := 0) rfl))) rfl hK hP hD hS hA rfl (td_raJ s) (fun _ => rfl) rfl (by decide) (by decide) (Nat.le_of_ble_eq_true rfl) (Nat.le_of_ble_eq_true rfl) dX0_init_6 (fun bX H hP hD hS => ?_)
  have hP : va_P (dC, dI) vwCl [(qS, .inr (0, [.null, .null, .null, .null, .null])), (bX, .inl (cJ, 3, .inr (.inl (fun _ => 0))))] H := hP
  have hD : va_D A [(qS, .inr (0, [.null, .null, .null, .null, .null])), (bX, .inl (cJ, 3, .inr (.inl (fun _ => 0))))] := hD
  refine W.widen (k := 1) (n := 3) (by omega) (by omega) ?_
  refine va_putF (D := (dC, dI)) (ci := 0) (v := .ref bX) (ty := .array .long) (C := RX0) (T := TX0) (N := 5) hx hb hts td_fX0 tyX0 tyX0_ok nmX0 hown hK hP hD hS 0 rfl rfl 0 (by decide) (hts (.fieldLink RX0 9 "TileDesk$Shape" "xs" "[J") (td_i1 (List.mem_of_getElem? (i := 21) rfl))) (fun _ h9 => h9) rfl hin rfl (by decide +kernel) rfl rfl (Nat.le_of_ble_eq_true rfl) dX0_init_8 (fun H locs hP hD hS => ?_)
  have hP : va_P (dC, dI) vwCl [(qS, .inr (0, [.ref bX, .null, .null, .null, .null])), (bX, .inl (cJ, 3, .inr (.inl (fun _ => 0))))] H := hP
  have hD : va_D A [(qS, .inr (0, [.ref bX, .null, .null, .null, .null])), (bX, .inl (cJ, 3, .inr (.inl (fun _ => 0))))] := hD
  refine lv_aload_n hx hb dX0_init_11 rfl (lv_at hl 0 rfl) ?_
  refine lv_iconst (v := 3) hx hb dX0_init_12 (by decide) ?_
  refine td_newa (a0 := (3, .inr (.inl (fun _ => 0)))) (atype := .long) 1 hx hb (hts (.arrayClass .long) (td_i0 (List.mem_of_getElem? (i := 0) rfl))) rfl hK hP hD hS hA rfl (td_raJ s) (fun _ => rfl) rfl (by decide) (by decide) (Nat.le_of_ble_eq_true rfl) (Nat.le_of_ble_eq_true rfl) dX0_init_13 (fun bY H hP hD hS => ?_)
  have hP : va_P (dC, dI) vwCl [(qS, .inr (0, [.ref bX, .null, .null, .null, .null])), (bX, .inl (cJ, 3, .inr (.inl (fun _ => 0)))), (bY, .inl (cJ, 3, .inr (.inl (fun _ => 0))))] H := hP
  have hD : va_D A [(qS, .inr (0, [.ref bX, .null, .null, .null, .null])), (bX, .inl (cJ, 3, .inr (.inl (fun _ => 0)))), (bY, .inl (cJ, 3, .inr (.inl (fun _ => 0))))] := hD
  refine W.widen (k := 2) (n := 6) (by omega) (by omega) ?_
  refine va_putF (D := (dC, dI)) (ci := 0) (v := .ref bY) (ty := .array .long) (C := RX0) (T := TX0) (N := 5) hx hb hts td_fX0 tyX0 tyX0_ok nmX0 hown hK hP hD hS 0 rfl rfl 1 (by decide) (hts (.fieldLink RX0 15 "TileDesk$Shape" "ys" "[J") (td_i1 (List.mem_of_getElem? (i := 22) rfl))) (fun _ h9 => h9) rfl hin rfl (by decide +kernel) rfl rfl (Nat.le_of_ble_eq_true rfl) dX0_init_15 (fun H locs hP hD hS => ?_)
  have hP : va_P (dC, dI) vwCl [(qS, .inr (0, [.ref bX, .ref bY, .null, .null, .null])), (bX, .inl (cJ, 3, .inr (.inl (fun _ => 0)))), (bY, .inl (cJ, 3, .inr (.inl (fun _ => 0))))] H := hP
  have hD : va_D A [(qS, .inr (0, [.ref bX, .ref bY, .null, .null, .null])), (bX, .inl (cJ, 3, .inr (.inl (fun _ => 0)))), (bY, .inl (cJ, 3, .inr (.inl (fun _ => 0))))] := hD
  refine lv_aload_n hx hb dX0_init_18 rfl (lv_at hl 0 rfl) ?_
  refine lv_iconst (v := 3) hx hb dX0_init_19 (by decide) ?_
  refine td_newa (a0 := (3, .inr (.inl (fun _ => 0)))) (atype := .long) 1 hx hb (hts (.arrayClass .long) (td_i0 (List.mem_of_getElem? (i := 0) rfl))) rfl hK hP hD hS hA rfl (td_raJ s) (fun _ => rfl) rfl (by decide) (by decide) (Nat.le_of_ble_eq_true rfl) (Nat.le_of_ble_eq_true rfl) dX0_init_20 (fun bR H hP hD hS => ?_)
  have hP : va_P (dC, dI) vwCl [(qS, .inr (0, [.ref bX, .ref bY, .null, .null, .null])), (bX, .inl (cJ, 3, .inr (.inl (fun _ => 0)))), (bY, .inl (cJ, 3, .inr (.inl (fun _ => 0)))), (bR, .inl (cJ, 3, .inr (.inl (fun _ => 0))))] H := hP
  have hD : va_D A [(qS, .inr (0, [.ref bX, .ref bY, .null, .null, .null])), (bX, .inl (cJ, 3, .inr (.inl (fun _ => 0)))), (bY, .inl (cJ, 3, .inr (.inl (fun _ => 0)))), (bR, .inl (cJ, 3, .inr (.inl (fun _ => 0))))] := hD
  refine W.widen (k := 3) (n := 9) (by omega) (by omega) ?_
  refine lv_dup hx hb dX0_init_22 rfl ?_
  refine lv_iconst (v := 0) hx hb dX0_init_23 (by decide) ?_
  refine lv_lconst (v := 1) hx hb dX0_init_24 (by decide) ?_
  refine td_last hx hb hK hP hD hS 3 1 0 rfl rfl rfl (by decide) (by decide) dX0_init_25 (fun H locs hP hD hS => ?_)
  have hP : va_P (dC, dI) vwCl [(qS, .inr (0, [.ref bX, .ref bY, .null, .null, .null])), (bX, .inl (cJ, 3, .inr (.inl (fun _ => 0)))), (bY, .inl (cJ, 3, .inr (.inl (fun _ => 0)))), (bR, .inl (cJ, 3, .inr (.inl (vp_updL (fun _ => 0) 0 1))))] H := hP
  have hD : va_D A [(qS, .inr (0, [.ref bX, .ref bY, .null, .null, .null])), (bX, .inl (cJ, 3, .inr (.inl (fun _ => 0)))), (bY, .inl (cJ, 3, .inr (.inl (fun _ => 0)))), (bR, .inl (cJ, 3, .inr (.inl (vp_updL (fun _ => 0) 0 1))))] := hD
  refine lv_dup hx hb dX0_init_26 rfl ?_
  refine lv_iconst (v := 1) hx hb dX0_init_27 (by decide) ?_
  refine lv_lconst (v := 1) hx hb dX0_init_28 (by decide) ?_
  refine td_last hx hb hK hP hD hS 3 1 1 rfl rfl rfl (by decide) (by decide) dX0_init_29 (fun H locs hP hD hS => ?_)
  have hP : va_P (dC, dI) vwCl [(qS, .inr (0, [.ref bX, .ref bY, .null, .null, .null])), (bX, .inl (cJ, 3, .inr (.inl (fun _ => 0)))), (bY, .inl (cJ, 3, .inr (.inl (fun _ => 0)))), (bR, .inl (cJ, 3, .inr (.inl (vp_updL (vp_updL (fun _ => 0) 0 1) 1 1))))] H := hP
  have hD : va_D A [(qS, .inr (0, [.ref bX, .ref bY, .null, .null, .null])), (bX, .inl (cJ, 3, .inr (.inl (fun _ => 0)))), (bY, .inl (cJ, 3, .inr (.inl (fun _ => 0)))), (bR, .inl (cJ, 3, .inr (.inl (vp_updL (vp_updL (fun _ => 0) 0 1) 1 1))))] := hD
  refine lv_dup hx hb dX0_init_30 rfl ?_
  refine lv_iconst (v := 2) hx hb dX0_init_31 (by decide) ?_
  refine lv_lconst (v := 1) hx hb dX0_init_32 (by decide) ?_
  refine td_last hx hb hK hP hD hS 3 1 2 rfl rfl rfl (by decide) (by decide) dX0_init_33 (fun H locs hP hD hS => ?_)
  have hP : va_P (dC, dI) vwCl [(qS, .inr (0, [.ref bX, .ref bY, .null, .null, .null])), (bX, .inl (cJ, 3, .inr (.inl (fun _ => 0)))), (bY, .inl (cJ, 3, .inr (.inl (fun _ => 0)))), (bR, .inl (cJ, 3, .inr (.inl (vp_updL (vp_updL (vp_updL (fun _ => 0) 0 1) 1 1) 2 1))))] H := hP
  have hD : va_D A [(qS, .inr (0, [.ref bX, .ref bY, .null, .null, .null])), (bX, .inl (cJ, 3, .inr (.inl (fun _ => 0)))), (bY, .inl (cJ, 3, .inr (.inl (fun _ => 0)))), (bR, .inl (cJ, 3, .inr (.inl (vp_updL (vp_updL (vp_updL (fun _ => 0) 0 1) 1 1) 2 1))))] := hD
  refine va_putF (D := (dC, dI)) (ci := 0) (v := .ref bR) (ty := .array .long) (C := RX0) (T := TX0) (N := 5) hx hb hts td_fX0 tyX0 tyX0_ok nmX0 hown hK hP hD hS 0 rfl rfl 2 (by decide) (hts (.fieldLink RX0 18 "TileDesk$Shape" "rs" "[J") (td_i1 (List.mem_of_getElem? (i := 23) rfl))) (fun _ h9 => h9) rfl hin rfl (by decide +kernel) rfl rfl (Nat.le_of_ble_eq_true rfl) dX0_init_34 (fun H locs hP hD hS => ?_)
  have hP : va_P (dC, dI) vwCl [(qS, .inr (0, [.ref bX, .ref bY, .ref bR, .null, .null])), (bX, .inl (cJ, 3, .inr (.inl (fun _ => 0)))), (bY, .inl (cJ, 3, .inr (.inl (fun _ => 0)))), (bR, .inl (cJ, 3, .inr (.inl (vp_updL (vp_updL (vp_updL (fun _ => 0) 0 1) 1 1) 2 1))))] H := hP
  have hD : va_D A [(qS, .inr (0, [.ref bX, .ref bY, .ref bR, .null, .null])), (bX, .inl (cJ, 3, .inr (.inl (fun _ => 0)))), (bY, .inl (cJ, 3, .inr (.inl (fun _ => 0)))), (bR, .inl (cJ, 3, .inr (.inl (vp_updL (vp_updL (vp_updL (fun _ => 0) 0 1) 1 1) 2 1))))] := hD
  refine lv_aload_n hx hb dX0_init_37 rfl (lv_at hl 0 rfl) ?_
  refine lv_iconst (v := 3) hx hb dX0_init_38 (by decide) ?_
  refine td_newa (a0 := (3, .inr (.inl (fun _ => 0)))) (atype := .long) 1 hx hb (hts (.arrayClass .long) (td_i0 (List.mem_of_getElem? (i := 0) rfl))) rfl hK hP hD hS hA rfl (td_raJ s) (fun _ => rfl) rfl (by decide) (by decide) (Nat.le_of_ble_eq_true rfl) (Nat.le_of_ble_eq_true rfl) dX0_init_39 (fun bL H hP hD hS => ?_)
  have hP : va_P (dC, dI) vwCl [(qS, .inr (0, [.ref bX, .ref bY, .ref bR, .null, .null])), (bX, .inl (cJ, 3, .inr (.inl (fun _ => 0)))), (bY, .inl (cJ, 3, .inr (.inl (fun _ => 0)))), (bR, .inl (cJ, 3, .inr (.inl (vp_updL (vp_updL (vp_updL (fun _ => 0) 0 1) 1 1) 2 1)))), (bL, .inl (cJ, 3, .inr (.inl (fun _ => 0))))] H := hP
  have hD : va_D A [(qS, .inr (0, [.ref bX, .ref bY, .ref bR, .null, .null])), (bX, .inl (cJ, 3, .inr (.inl (fun _ => 0)))), (bY, .inl (cJ, 3, .inr (.inl (fun _ => 0)))), (bR, .inl (cJ, 3, .inr (.inl (vp_updL (vp_updL (vp_updL (fun _ => 0) 0 1) 1 1) 2 1)))), (bL, .inl (cJ, 3, .inr (.inl (fun _ => 0))))] := hD
  refine W.widen (k := 4) (n := 12) (by omega) (by omega) ?_
  refine va_putF (D := (dC, dI)) (ci := 0) (v := .ref bL) (ty := .array .long) (C := RX0) (T := TX0) (N := 5) hx hb hts td_fX0 tyX0 tyX0_ok nmX0 hown hK hP hD hS 0 rfl rfl 3 (by decide) (hts (.fieldLink RX0 21 "TileDesk$Shape" "lights" "[J") (td_i2 (List.mem_of_getElem? (i := 0) rfl))) (fun _ h9 => h9) rfl hin rfl (by decide +kernel) rfl rfl (Nat.le_of_ble_eq_true rfl) dX0_init_41 (fun H locs hP hD hS => ?_)
  have hP : va_P (dC, dI) vwCl [(qS, .inr (0, [.ref bX, .ref bY, .ref bR, .ref bL, .null])), (bX, .inl (cJ, 3, .inr (.inl (fun _ => 0)))), (bY, .inl (cJ, 3, .inr (.inl (fun _ => 0)))), (bR, .inl (cJ, 3, .inr (.inl (vp_updL (vp_updL (vp_updL (fun _ => 0) 0 1) 1 1) 2 1)))), (bL, .inl (cJ, 3, .inr (.inl (fun _ => 0))))] H := hP
  have hD : va_D A [(qS, .inr (0, [.ref bX, .ref bY, .ref bR, .ref bL, .null])), (bX, .inl (cJ, 3, .inr (.inl (fun _ => 0)))), (bY, .inl (cJ, 3, .inr (.inl (fun _ => 0)))), (bR, .inl (cJ, 3, .inr (.inl (vp_updL (vp_updL (vp_updL (fun _ => 0) 0 1) 1 1) 2 1)))), (bL, .inl (cJ, 3, .inr (.inl (fun _ => 0))))] := hD
  refine lv_aload_n hx hb dX0_init_44 rfl (lv_at hl 0 rfl) ?_
  refine lv_iconst (v := 3) hx hb dX0_init_45 (by decide) ?_
  refine td_newa (a0 := (3, .inr (.inl (fun _ => 0)))) (atype := .long) 1 hx hb (hts (.arrayClass .long) (td_i0 (List.mem_of_getElem? (i := 0) rfl))) rfl hK hP hD hS hA rfl (td_raJ s) (fun _ => rfl) rfl (by decide) (by decide) (Nat.le_of_ble_eq_true rfl) (Nat.le_of_ble_eq_true rfl) dX0_init_46 (fun bW H hP hD hS => ?_)
  have hP : va_P (dC, dI) vwCl [(qS, .inr (0, [.ref bX, .ref bY, .ref bR, .ref bL, .null])), (bX, .inl (cJ, 3, .inr (.inl (fun _ => 0)))), (bY, .inl (cJ, 3, .inr (.inl (fun _ => 0)))), (bR, .inl (cJ, 3, .inr (.inl (vp_updL (vp_updL (vp_updL (fun _ => 0) 0 1) 1 1) 2 1)))), (bL, .inl (cJ, 3, .inr (.inl (fun _ => 0)))), (bW, .inl (cJ, 3, .inr (.inl (fun _ => 0))))] H := hP
  have hD : va_D A [(qS, .inr (0, [.ref bX, .ref bY, .ref bR, .ref bL, .null])), (bX, .inl (cJ, 3, .inr (.inl (fun _ => 0)))), (bY, .inl (cJ, 3, .inr (.inl (fun _ => 0)))), (bR, .inl (cJ, 3, .inr (.inl (vp_updL (vp_updL (vp_updL (fun _ => 0) 0 1) 1 1) 2 1)))), (bL, .inl (cJ, 3, .inr (.inl (fun _ => 0)))), (bW, .inl (cJ, 3, .inr (.inl (fun _ => 0))))] := hD
  refine W.widen (k := 5) (n := 15) (by omega) (by omega) ?_
  refine va_putF (D := (dC, dI)) (ci := 0) (v := .ref bW) (ty := .array .long) (C := RX0) (T := TX0) (N := 5) hx hb hts td_fX0 tyX0 tyX0_ok nmX0 hown hK hP hD hS 0 rfl rfl 4 (by decide) (hts (.fieldLink RX0 24 "TileDesk$Shape" "weights" "[J") (td_i2 (List.mem_of_getElem? (i := 1) rfl))) (fun _ h9 => h9) rfl hin rfl (by decide +kernel) rfl rfl (Nat.le_of_ble_eq_true rfl) dX0_init_48 (fun H locs hP hD hS => ?_)
  have hP : va_P (dC, dI) vwCl [(qS, .inr (0, [.ref bX, .ref bY, .ref bR, .ref bL, .ref bW])), (bX, .inl (cJ, 3, .inr (.inl (fun _ => 0)))), (bY, .inl (cJ, 3, .inr (.inl (fun _ => 0)))), (bR, .inl (cJ, 3, .inr (.inl (vp_updL (vp_updL (vp_updL (fun _ => 0) 0 1) 1 1) 2 1)))), (bL, .inl (cJ, 3, .inr (.inl (fun _ => 0)))), (bW, .inl (cJ, 3, .inr (.inl (fun _ => 0))))] H := hP
  have hD : va_D A [(qS, .inr (0, [.ref bX, .ref bY, .ref bR, .ref bL, .ref bW])), (bX, .inl (cJ, 3, .inr (.inl (fun _ => 0)))), (bY, .inl (cJ, 3, .inr (.inl (fun _ => 0)))), (bR, .inl (cJ, 3, .inr (.inl (vp_updL (vp_updL (vp_updL (fun _ => 0) 0 1) 1 1) 2 1)))), (bL, .inl (cJ, 3, .inr (.inl (fun _ => 0)))), (bW, .inl (cJ, 3, .inr (.inl (fun _ => 0))))] := hD
  have hP9 := hP.sub (ws' := [(qS, .inr (0, [.ref bX, .ref bY, .ref bR, .ref bL, .ref bW])), (bX, .inl (cJ, 3, .inr (.inl (fun _ => 0)))), (bY, .inl (cJ, 3, .inr (.inl (fun _ => 0)))), (bR, .inl (cJ, 3, .inr (.inl (vp_updL (vp_updL (vp_updL (fun _ => 0) 0 1) 1 1) 2 1)))), (bL, .inl (cJ, 3, .inr (.inl (fun _ => 0)))), (bW, .inl (cJ, 3, .inr (.inl (fun _ => 0))))]) [0, 1, 2, 3, 4, 5] rfl
  have hD9 := hD.sub (ws' := [(qS, .inr (0, [.ref bX, .ref bY, .ref bR, .ref bL, .ref bW])), (bX, .inl (cJ, 3, .inr (.inl (fun _ => 0)))), (bY, .inl (cJ, 3, .inr (.inl (fun _ => 0)))), (bR, .inl (cJ, 3, .inr (.inl (vp_updL (vp_updL (vp_updL (fun _ => 0) 0 1) 1 1) 2 1)))), (bL, .inl (cJ, 3, .inr (.inl (fun _ => 0)))), (bW, .inl (cJ, 3, .inr (.inl (fun _ => 0))))]) [0, 1, 2, 3, 4, 5] (by decide) rfl
  exact td_rwv (bX, bY, bR, bL, bW) hx hb hr hlocks hK (trivial) hP9 hD9 hS dX0_init_51
set_option maxHeartbeats 4000000 in
set_option maxRecDepth 100000 in
/-- Shape.setCorner -/
theorem td_setCorner (l : Launch) (dC : Nat → ClassId) (dI : Nat → Nat → Nat) (cI cJ cZ : ClassId) (sz : Nat) (qS : Nat) (aX : Nat) (aY : Nat) (aR : Nat) (aL : Nat) (aW : Nat) (vX : Nat → Int64) (vY : Nat → Int64) (vR : Nat → Int64) (vL : Nat → Int64) (vW : Nat → Int64) (k : Nat) (x : Int64) (y : Int64) (r : Int64) (lt : Int64) (hk : k < 3) : Met l yX0_setCorner wsX0_setCorner ({ frames := 0, cells := 0, slots := 0, locals := 0 }) (td_WP (dC, dI) vwCl (td_T cI cJ cZ) td_nl [(qS, .inr (0, [.ref aX, .ref aY, .ref aR, .ref aL, .ref aW])), (aX, .inl (cJ, 3, .inr (.inl vX))), (aY, .inl (cJ, 3, .inr (.inl vY))), (aR, .inl (cJ, 3, .inr (.inl vR))), (aL, .inl (cJ, 3, .inr (.inl vL))), (aW, .inl (cJ, 3, .inr (.inl vW)))] sz [.ref qS, .int (nI k), .long x, .long y, .long r, .long lt]) (va_Qv (S := Unit) (fun u => True) (td_B (dC, dI) vwCl (td_T cI cJ cZ) (va_A [(qS, .inr (0, [.ref aX, .ref aY, .ref aR, .ref aL, .ref aW])), (aX, .inl (cJ, 3, .inr (.inl vX))), (aY, .inl (cJ, 3, .inr (.inl vY))), (aR, .inl (cJ, 3, .inr (.inl vR))), (aL, .inl (cJ, 3, .inr (.inl vL))), (aW, .inl (cJ, 3, .inr (.inl vW)))] sz) (fun (u : Unit) => [(qS, .inr (0, [.ref aX, .ref aY, .ref aR, .ref aL, .ref aW])), (aX, .inl (cJ, 3, .inr (.inl (vp_updL vX k x)))), (aY, .inl (cJ, 3, .inr (.inl (vp_updL vY k y)))), (aR, .inl (cJ, 3, .inr (.inl (vp_updL vR k r)))), (aL, .inl (cJ, 3, .inr (.inl (vp_updL vL k lt)))), (aW, .inl (cJ, 3, .inr (.inl vW)))])) (va_A [(qS, .inr (0, [.ref aX, .ref aY, .ref aR, .ref aL, .ref aW])), (aX, .inl (cJ, 3, .inr (.inl vX))), (aY, .inl (cJ, 3, .inr (.inl vY))), (aR, .inl (cJ, 3, .inr (.inl vR))), (aL, .inl (cJ, 3, .inr (.inl vL))), (aW, .inl (cJ, 3, .inr (.inl vW)))] sz)) 0 0 (va_A [(qS, .inr (0, [.ref aX, .ref aY, .ref aR, .ref aL, .ref aW])), (aX, .inl (cJ, 3, .inr (.inl vX))), (aY, .inl (cJ, 3, .inr (.inl vY))), (aR, .inl (cJ, 3, .inr (.inl vR))), (aL, .inl (cJ, 3, .inr (.inl vL))), (aW, .inl (cJ, 3, .inr (.inl vW)))] sz) := by
  refine Met.ofW (cc := cX0_setCorner) (maxL := 10) (ret := none) (by decide) rfl ?_
  intro p e s m args below meth c s₁ B hml hv
  obtain ⟨rfl, hsz, hP, hK, hZ, hD0⟩ := hv
  have hx := B.exec
  have hb := B.bytes
  have hr := B.returns
  have hts := atoms_spec (ws := wsX0_setCorner) B.pre
  have hown : s.vm.findClass RX0 = some m.cls := findClass_of_methodNamed B.named
  have hlocks := B.notSynchronized
  subst hsz
  have hD := hD0.self (sz := s.heap.size)
  generalize hAe : va_A [(qS, .inr (0, [.ref aX, .ref aY, .ref aR, .ref aL, .ref aW])), (aX, .inl (cJ, 3, .inr (.inl vX))), (aY, .inl (cJ, 3, .inr (.inl vY))), (aR, .inl (cJ, 3, .inr (.inl vR))), (aL, .inl (cJ, 3, .inr (.inl vL))), (aW, .inl (cJ, 3, .inr (.inl vW)))] s.heap.size = A at hD ⊢
  have hA : ∀ q : Nat, s.heap.size ≤ q → A q := fun q h => by rw [← hAe]; exact Or.inr h
  have hS : va_S A s.heap s.heap [] := va_S.rf
  have hP : va_P (dC, dI) vwCl [(qS, .inr (0, [.ref aX, .ref aY, .ref aR, .ref aL, .ref aW])), (aX, .inl (cJ, 3, .inr (.inl vX))), (aY, .inl (cJ, 3, .inr (.inl vY))), (aR, .inl (cJ, 3, .inr (.inl vR))), (aL, .inl (cJ, 3, .inr (.inl vL))), (aW, .inl (cJ, 3, .inr (.inl vW)))] s.heap := hP
  have hl := lv_entry ([.ref qS, .int (nI k), .long x, .long y, .long r, .long lt]) (n := 10) (Nat.le_of_ble_eq_true rfl)
  rw [lg_entry_eq]
  generalize (lg_sl ([.ref qS, .int (nI k), .long x, .long y, .long r, .long lt]) ++ List.replicate (10 - (lg_sl ([.ref qS, .int (nI k), .long x, .long y, .long r, .long lt])).length) Slot.unset).toArray = ls at hl ⊢
  have hl : lv_has ls 10 [(0, .ref qS), (1, .int (nI k)), (2, .long x), (4, .long y), (6, .long r), (8, .long lt)] := hl
  refine lv_aload_n hx hb dX0_setCorner_0 rfl (lv_at hl 0 rfl) ?_
  refine va_get (D := (dC, dI)) (ci := 0) (v := .ref aX) (C := RX0) (T := TX0) (N := 5) hx hb hts td_fX0 hown hK hP 0 rfl rfl 0 (by decide) (hts (.fieldLink RX0 9 "TileDesk$Shape" "xs" "[J") (td_i1 (List.mem_of_getElem? (i := 21) rfl))) (fun _ h9 => h9) rfl dX0_setCorner_1 ?_
  refine lv_iload_n hx hb dX0_setCorner_4 rfl (lv_at hl 1 rfl) ?_
  refine lv_lload_n hx hb dX0_setCorner_5 rfl (lv_at hl 2 rfl) ?_
  refine td_last hx hb hK hP hD hS 1 1 k rfl rfl rfl (by omega) (by decide) dX0_setCorner_6 (fun H locs hP hD hS => ?_)
  have hP : va_P (dC, dI) vwCl [(qS, .inr (0, [.ref aX, .ref aY, .ref aR, .ref aL, .ref aW])), (aX, .inl (cJ, 3, .inr (.inl (vp_updL vX k x)))), (aY, .inl (cJ, 3, .inr (.inl vY))), (aR, .inl (cJ, 3, .inr (.inl vR))), (aL, .inl (cJ, 3, .inr (.inl vL))), (aW, .inl (cJ, 3, .inr (.inl vW)))] H := hP
  have hD : va_D A [(qS, .inr (0, [.ref aX, .ref aY, .ref aR, .ref aL, .ref aW])), (aX, .inl (cJ, 3, .inr (.inl (vp_updL vX k x)))), (aY, .inl (cJ, 3, .inr (.inl vY))), (aR, .inl (cJ, 3, .inr (.inl vR))), (aL, .inl (cJ, 3, .inr (.inl vL))), (aW, .inl (cJ, 3, .inr (.inl vW)))] := hD
  refine lv_aload_n hx hb dX0_setCorner_7 rfl (lv_at hl 0 rfl) ?_
  refine va_get (D := (dC, dI)) (ci := 0) (v := .ref aY) (C := RX0) (T := TX0) (N := 5) hx hb hts td_fX0 hown hK hP 0 rfl rfl 1 (by decide) (hts (.fieldLink RX0 15 "TileDesk$Shape" "ys" "[J") (td_i1 (List.mem_of_getElem? (i := 22) rfl))) (fun _ h9 => h9) rfl dX0_setCorner_8 ?_
  refine lv_iload_n hx hb dX0_setCorner_11 rfl (lv_at hl 1 rfl) ?_
  refine lv_lload hx hb dX0_setCorner_12 (lv_at hl 3 rfl) ?_
  refine td_last hx hb hK hP hD hS 2 1 k rfl rfl rfl (by omega) (by decide) dX0_setCorner_14 (fun H locs hP hD hS => ?_)
  have hP : va_P (dC, dI) vwCl [(qS, .inr (0, [.ref aX, .ref aY, .ref aR, .ref aL, .ref aW])), (aX, .inl (cJ, 3, .inr (.inl (vp_updL vX k x)))), (aY, .inl (cJ, 3, .inr (.inl (vp_updL vY k y)))), (aR, .inl (cJ, 3, .inr (.inl vR))), (aL, .inl (cJ, 3, .inr (.inl vL))), (aW, .inl (cJ, 3, .inr (.inl vW)))] H := hP
  have hD : va_D A [(qS, .inr (0, [.ref aX, .ref aY, .ref aR, .ref aL, .ref aW])), (aX, .inl (cJ, 3, .inr (.inl (vp_updL vX k x)))), (aY, .inl (cJ, 3, .inr (.inl (vp_updL vY k y)))), (aR, .inl (cJ, 3, .inr (.inl vR))), (aL, .inl (cJ, 3, .inr (.inl vL))), (aW, .inl (cJ, 3, .inr (.inl vW)))] := hD
  refine lv_aload_n hx hb dX0_setCorner_15 rfl (lv_at hl 0 rfl) ?_
  refine va_get (D := (dC, dI)) (ci := 0) (v := .ref aR) (C := RX0) (T := TX0) (N := 5) hx hb hts td_fX0 hown hK hP 0 rfl rfl 2 (by decide) (hts (.fieldLink RX0 18 "TileDesk$Shape" "rs" "[J") (td_i1 (List.mem_of_getElem? (i := 23) rfl))) (fun _ h9 => h9) rfl dX0_setCorner_16 ?_
  refine lv_iload_n hx hb dX0_setCorner_19 rfl (lv_at hl 1 rfl) ?_
  refine lv_lload hx hb dX0_setCorner_20 (lv_at hl 4 rfl) ?_
  refine td_last hx hb hK hP hD hS 3 1 k rfl rfl rfl (by omega) (by decide) dX0_setCorner_22 (fun H locs hP hD hS => ?_)
  have hP : va_P (dC, dI) vwCl [(qS, .inr (0, [.ref aX, .ref aY, .ref aR, .ref aL, .ref aW])), (aX, .inl (cJ, 3, .inr (.inl (vp_updL vX k x)))), (aY, .inl (cJ, 3, .inr (.inl (vp_updL vY k y)))), (aR, .inl (cJ, 3, .inr (.inl (vp_updL vR k r)))), (aL, .inl (cJ, 3, .inr (.inl vL))), (aW, .inl (cJ, 3, .inr (.inl vW)))] H := hP
  have hD : va_D A [(qS, .inr (0, [.ref aX, .ref aY, .ref aR, .ref aL, .ref aW])), (aX, .inl (cJ, 3, .inr (.inl (vp_updL vX k x)))), (aY, .inl (cJ, 3, .inr (.inl (vp_updL vY k y)))), (aR, .inl (cJ, 3, .inr (.inl (vp_updL vR k r)))), (aL, .inl (cJ, 3, .inr (.inl vL))), (aW, .inl (cJ, 3, .inr (.inl vW)))] := hD
  refine lv_aload_n hx hb dX0_setCorner_23 rfl (lv_at hl 0 rfl) ?_
  refine va_get (D := (dC, dI)) (ci := 0) (v := .ref aL) (C := RX0) (T := TX0) (N := 5) hx hb hts td_fX0 hown hK hP 0 rfl rfl 3 (by decide) (hts (.fieldLink RX0 21 "TileDesk$Shape" "lights" "[J") (td_i2 (List.mem_of_getElem? (i := 0) rfl))) (fun _ h9 => h9) rfl dX0_setCorner_24 ?_
  refine lv_iload_n hx hb dX0_setCorner_27 rfl (lv_at hl 1 rfl) ?_
  refine lv_lload hx hb dX0_setCorner_28 (lv_at hl 5 rfl) ?_
  refine td_last hx hb hK hP hD hS 4 1 k rfl rfl rfl (by omega) (by decide) dX0_setCorner_30 (fun H locs hP hD hS => ?_)
  have hP : va_P (dC, dI) vwCl [(qS, .inr (0, [.ref aX, .ref aY, .ref aR, .ref aL, .ref aW])), (aX, .inl (cJ, 3, .inr (.inl (vp_updL vX k x)))), (aY, .inl (cJ, 3, .inr (.inl (vp_updL vY k y)))), (aR, .inl (cJ, 3, .inr (.inl (vp_updL vR k r)))), (aL, .inl (cJ, 3, .inr (.inl (vp_updL vL k lt)))), (aW, .inl (cJ, 3, .inr (.inl vW)))] H := hP
  have hD : va_D A [(qS, .inr (0, [.ref aX, .ref aY, .ref aR, .ref aL, .ref aW])), (aX, .inl (cJ, 3, .inr (.inl (vp_updL vX k x)))), (aY, .inl (cJ, 3, .inr (.inl (vp_updL vY k y)))), (aR, .inl (cJ, 3, .inr (.inl (vp_updL vR k r)))), (aL, .inl (cJ, 3, .inr (.inl (vp_updL vL k lt)))), (aW, .inl (cJ, 3, .inr (.inl vW)))] := hD
  have hP9 := hP.sub (ws' := [(qS, .inr (0, [.ref aX, .ref aY, .ref aR, .ref aL, .ref aW])), (aX, .inl (cJ, 3, .inr (.inl (vp_updL vX k x)))), (aY, .inl (cJ, 3, .inr (.inl (vp_updL vY k y)))), (aR, .inl (cJ, 3, .inr (.inl (vp_updL vR k r)))), (aL, .inl (cJ, 3, .inr (.inl (vp_updL vL k lt)))), (aW, .inl (cJ, 3, .inr (.inl vW)))]) [0, 1, 2, 3, 4, 5] rfl
  have hD9 := hD.sub (ws' := [(qS, .inr (0, [.ref aX, .ref aY, .ref aR, .ref aL, .ref aW])), (aX, .inl (cJ, 3, .inr (.inl (vp_updL vX k x)))), (aY, .inl (cJ, 3, .inr (.inl (vp_updL vY k y)))), (aR, .inl (cJ, 3, .inr (.inl (vp_updL vR k r)))), (aL, .inl (cJ, 3, .inr (.inl (vp_updL vL k lt)))), (aW, .inl (cJ, 3, .inr (.inl vW)))]) [0, 1, 2, 3, 4, 5] (by decide) rfl
  exact td_rwv () hx hb hr hlocks hK (trivial) hP9 hD9 hS dX0_setCorner_31
set_option maxHeartbeats 4000000 in
set_option maxRecDepth 100000 in
/-- Shape.packedCorner -/
theorem td_packedCorner (l : Launch) (dC : Nat → ClassId) (dI : Nat → Nat → Nat) (cI cJ cZ : ClassId) (qS : Nat) (aX : Nat) (aY : Nat) (aR : Nat) (aL : Nat) (aW : Nat) (vX : Nat → Int64) (vY : Nat → Int64) (vR : Nat → Int64) (vL : Nat → Int64) (vW : Nat → Int64) (k : Nat) (hk : k < 3) : Met l yX0_packedCorner wsX0_packedCorner ({ frames := 0, cells := 0, slots := 0, locals := 0 }) (td_RP (dC, dI) vwCl (td_T cI cJ cZ) td_nl [(qS, .inr (0, [.ref aX, .ref aY, .ref aR, .ref aL, .ref aW])), (aX, .inl (cJ, 3, .inr (.inl vX))), (aY, .inl (cJ, 3, .inr (.inl vY))), (aR, .inl (cJ, 3, .inr (.inl vR))), (aL, .inl (cJ, 3, .inr (.inl vL))), (aW, .inl (cJ, 3, .inr (.inl vW)))] [.ref qS, .int (nI k)]) (vp_Sl (fun r => r = td_pk (vX k) (vY k) (vR k) (vL k))) 0 0 (fun _ => False) := by
  refine Met.ofW (cc := cX0_packedCorner) (maxL := 4) (ret := (some .long)) (by decide) rfl ?_
  intro p e s m args below meth c s₁ B hml hv
  obtain ⟨rfl, hP, hK, hZ⟩ := hv
  have hx := B.exec
  have hb := B.bytes
  have hr := B.returns
  have hts := atoms_spec (ws := wsX0_packedCorner) B.pre
  have hown : s.vm.findClass RX0 = some m.cls := findClass_of_methodNamed B.named
  have hlocks := B.notSynchronized
  have hP : va_P (dC, dI) vwCl [(qS, .inr (0, [.ref aX, .ref aY, .ref aR, .ref aL, .ref aW])), (aX, .inl (cJ, 3, .inr (.inl vX))), (aY, .inl (cJ, 3, .inr (.inl vY))), (aR, .inl (cJ, 3, .inr (.inl vR))), (aL, .inl (cJ, 3, .inr (.inl vL))), (aW, .inl (cJ, 3, .inr (.inl vW)))] s.heap := hP
  have hl := lv_entry ([.ref qS, .int (nI k)]) (n := 4) (Nat.le_of_ble_eq_true rfl)
  rw [lg_entry_eq]
  generalize (lg_sl ([.ref qS, .int (nI k)]) ++ List.replicate (4 - (lg_sl ([.ref qS, .int (nI k)])).length) Slot.unset).toArray = ls at hl ⊢
  have hl : lv_has ls 4 [(0, .ref qS), (1, .int (nI k))] := hl
  refine lv_aload_n hx hb dX0_packedCorner_0 rfl (lv_at hl 0 rfl) ?_
  refine va_get (D := (dC, dI)) (ci := 0) (v := .ref aX) (C := RX0) (T := TX0) (N := 5) hx hb hts td_fX0 hown hK hP 0 rfl rfl 0 (by decide) (hts (.fieldLink RX0 9 "TileDesk$Shape" "xs" "[J") (td_i1 (List.mem_of_getElem? (i := 21) rfl))) (fun _ h9 => h9) rfl dX0_packedCorner_1 ?_
  refine lv_iload_n hx hb dX0_packedCorner_4 rfl (lv_at hl 1 rfl) ?_
  refine td_lald hx hb hK hP 1 1 k rfl rfl rfl (by omega) (by decide) dX0_packedCorner_5 ?_
  refine lv_ldc2 (own := RX0) (v := 4096) hx hb hown (hts (.constantLong RX0 27 4096) (td_i5 (List.mem_of_getElem? (i := 8) rfl))) dX0_packedCorner_6 ?_
  refine lv_ladd hx hb dX0_packedCorner_9 ?_
  refine lv_ldc2 (own := RX0) (v := 8193) hx hb hown (hts (.constantLong RX0 29 8193) (td_i5 (List.mem_of_getElem? (i := 9) rfl))) dX0_packedCorner_10 ?_
  refine lv_lmul hx hb dX0_packedCorner_13 ?_
  refine lv_aload_n hx hb dX0_packedCorner_14 rfl (lv_at hl 0 rfl) ?_
  refine va_get (D := (dC, dI)) (ci := 0) (v := .ref aY) (C := RX0) (T := TX0) (N := 5) hx hb hts td_fX0 hown hK hP 0 rfl rfl 1 (by decide) (hts (.fieldLink RX0 15 "TileDesk$Shape" "ys" "[J") (td_i1 (List.mem_of_getElem? (i := 22) rfl))) (fun _ h9 => h9) rfl dX0_packedCorner_15 ?_
  refine lv_iload_n hx hb dX0_packedCorner_18 rfl (lv_at hl 1 rfl) ?_
  refine td_lald hx hb hK hP 2 1 k rfl rfl rfl (by omega) (by decide) dX0_packedCorner_19 ?_
  refine lv_ladd hx hb dX0_packedCorner_20 ?_
  refine lv_ldc2 (own := RX0) (v := 4096) hx hb hown (hts (.constantLong RX0 27 4096) (td_i5 (List.mem_of_getElem? (i := 8) rfl))) dX0_packedCorner_21 ?_
  refine lv_ladd hx hb dX0_packedCorner_24 ?_
  refine lv_lstore_n (lv' := [(2, .long (((((vX k) + 4096) * 8193) + (vY k)) + 4096)), (0, .ref qS), (1, .int (nI k))]) hx hb dX0_packedCorner_25 rfl hl (by decide) rfl (fun ls hl => ?_)
  refine lv_lload_n hx hb dX0_packedCorner_26 rfl (lv_at hl 0 rfl) ?_
  refine lv_ldc2 (own := RX0) (v := 1048576) hx hb hown (hts (.constantLong RX0 31 1048576) (td_i5 (List.mem_of_getElem? (i := 10) rfl))) dX0_packedCorner_27 ?_
  refine lv_lmul hx hb dX0_packedCorner_30 ?_
  refine lv_aload_n hx hb dX0_packedCorner_31 rfl (lv_at hl 1 rfl) ?_
  refine va_get (D := (dC, dI)) (ci := 0) (v := .ref aR) (C := RX0) (T := TX0) (N := 5) hx hb hts td_fX0 hown hK hP 0 rfl rfl 2 (by decide) (hts (.fieldLink RX0 18 "TileDesk$Shape" "rs" "[J") (td_i1 (List.mem_of_getElem? (i := 23) rfl))) (fun _ h9 => h9) rfl dX0_packedCorner_32 ?_
  refine lv_iload_n hx hb dX0_packedCorner_35 rfl (lv_at hl 2 rfl) ?_
  refine td_lald hx hb hK hP 3 1 k rfl rfl rfl (by omega) (by decide) dX0_packedCorner_36 ?_
  refine lv_ladd hx hb dX0_packedCorner_37 ?_
  refine lv_lconst (v := 1) hx hb dX0_packedCorner_38 (by decide) ?_
  refine lv_lsub hx hb dX0_packedCorner_39 ?_
  refine lv_ldc2 (own := RX0) (v := 65537) hx hb hown (hts (.constantLong RX0 33 65537) (td_i5 (List.mem_of_getElem? (i := 11) rfl))) dX0_packedCorner_40 ?_
  refine lv_lmul hx hb dX0_packedCorner_43 ?_
  refine lv_aload_n hx hb dX0_packedCorner_44 rfl (lv_at hl 1 rfl) ?_
  refine va_get (D := (dC, dI)) (ci := 0) (v := .ref aL) (C := RX0) (T := TX0) (N := 5) hx hb hts td_fX0 hown hK hP 0 rfl rfl 3 (by decide) (hts (.fieldLink RX0 21 "TileDesk$Shape" "lights" "[J") (td_i2 (List.mem_of_getElem? (i := 0) rfl))) (fun _ h9 => h9) rfl dX0_packedCorner_45 ?_
  refine lv_iload_n hx hb dX0_packedCorner_48 rfl (lv_at hl 2 rfl) ?_
  refine td_lald hx hb hK hP 4 1 k rfl rfl rfl (by omega) (by decide) dX0_packedCorner_49 ?_
  refine lv_ladd hx hb dX0_packedCorner_50 ?_
  exact td_rrl hx hb hr hlocks (rfl) dX0_packedCorner_51
set_option maxHeartbeats 4000000 in
set_option maxRecDepth 100000 in
/-- Shape.unpackCorner -/
theorem td_unpackCorner (l : Launch) (dC : Nat → ClassId) (dI : Nat → Nat → Nat) (cI cJ cZ : ClassId) (sz : Nat) (qS : Nat) (aX : Nat) (aY : Nat) (aR : Nat) (aL : Nat) (aW : Nat) (vX : Nat → Int64) (vY : Nat → Int64) (vR : Nat → Int64) (vL : Nat → Int64) (vW : Nat → Int64) (k : Nat) (pk : Int64) (hk : k < 3) : Met l yX0_unpackCorner wsX0_unpackCorner ({ frames := 1, cells := 0, slots := 0, locals := 29 }) (td_WP (dC, dI) vwCl (td_T cI cJ cZ) td_nl [(qS, .inr (0, [.ref aX, .ref aY, .ref aR, .ref aL, .ref aW])), (aX, .inl (cJ, 3, .inr (.inl vX))), (aY, .inl (cJ, 3, .inr (.inl vY))), (aR, .inl (cJ, 3, .inr (.inl vR))), (aL, .inl (cJ, 3, .inr (.inl vL))), (aW, .inl (cJ, 3, .inr (.inl vW)))] sz [.ref qS, .int (nI k), .long pk]) (va_Qv (S := Unit) (fun u => True) (td_B (dC, dI) vwCl (td_T cI cJ cZ) (va_A [(qS, .inr (0, [.ref aX, .ref aY, .ref aR, .ref aL, .ref aW])), (aX, .inl (cJ, 3, .inr (.inl vX))), (aY, .inl (cJ, 3, .inr (.inl vY))), (aR, .inl (cJ, 3, .inr (.inl vR))), (aL, .inl (cJ, 3, .inr (.inl vL))), (aW, .inl (cJ, 3, .inr (.inl vW)))] sz) (fun (u : Unit) => [(qS, .inr (0, [.ref aX, .ref aY, .ref aR, .ref aL, .ref aW])), (aX, .inl (cJ, 3, .inr (.inl (vp_updL vX k (td_ux pk))))), (aY, .inl (cJ, 3, .inr (.inl (vp_updL vY k (td_uy pk))))), (aR, .inl (cJ, 3, .inr (.inl (vp_updL vR k (td_ur pk))))), (aL, .inl (cJ, 3, .inr (.inl (vp_updL vL k (td_ul pk))))), (aW, .inl (cJ, 3, .inr (.inl vW)))])) (va_A [(qS, .inr (0, [.ref aX, .ref aY, .ref aR, .ref aL, .ref aW])), (aX, .inl (cJ, 3, .inr (.inl vX))), (aY, .inl (cJ, 3, .inr (.inl vY))), (aR, .inl (cJ, 3, .inr (.inl vR))), (aL, .inl (cJ, 3, .inr (.inl vL))), (aW, .inl (cJ, 3, .inr (.inl vW)))] sz)) 0 0 (va_A [(qS, .inr (0, [.ref aX, .ref aY, .ref aR, .ref aL, .ref aW])), (aX, .inl (cJ, 3, .inr (.inl vX))), (aY, .inl (cJ, 3, .inr (.inl vY))), (aR, .inl (cJ, 3, .inr (.inl vR))), (aL, .inl (cJ, 3, .inr (.inl vL))), (aW, .inl (cJ, 3, .inr (.inl vW)))] sz) := by
  refine Met.ofW (cc := cX0_unpackCorner) (maxL := 8) (ret := none) (by decide) rfl ?_
  intro p e s m args below meth c s₁ B hml hv
  obtain ⟨rfl, hsz, hP, hK, hZ, hD0⟩ := hv
  have hx := B.exec
  have hb := B.bytes
  have hr := B.returns
  have hts := atoms_spec (ws := wsX0_unpackCorner) B.pre
  have hown : s.vm.findClass RX0 = some m.cls := findClass_of_methodNamed B.named
  have hlocks := B.notSynchronized
  subst hsz
  have hD := hD0.self (sz := s.heap.size)
  generalize hAe : va_A [(qS, .inr (0, [.ref aX, .ref aY, .ref aR, .ref aL, .ref aW])), (aX, .inl (cJ, 3, .inr (.inl vX))), (aY, .inl (cJ, 3, .inr (.inl vY))), (aR, .inl (cJ, 3, .inr (.inl vR))), (aL, .inl (cJ, 3, .inr (.inl vL))), (aW, .inl (cJ, 3, .inr (.inl vW)))] s.heap.size = A at hD ⊢
  have hA : ∀ q : Nat, s.heap.size ≤ q → A q := fun q h => by rw [← hAe]; exact Or.inr h
  have hS : va_S A s.heap s.heap [] := va_S.rf
  have hP : va_P (dC, dI) vwCl [(qS, .inr (0, [.ref aX, .ref aY, .ref aR, .ref aL, .ref aW])), (aX, .inl (cJ, 3, .inr (.inl vX))), (aY, .inl (cJ, 3, .inr (.inl vY))), (aR, .inl (cJ, 3, .inr (.inl vR))), (aL, .inl (cJ, 3, .inr (.inl vL))), (aW, .inl (cJ, 3, .inr (.inl vW)))] s.heap := hP
  have hl := lv_entry ([.ref qS, .int (nI k), .long pk]) (n := 8) (Nat.le_of_ble_eq_true rfl)
  rw [lg_entry_eq]
  generalize (lg_sl ([.ref qS, .int (nI k), .long pk]) ++ List.replicate (8 - (lg_sl ([.ref qS, .int (nI k), .long pk])).length) Slot.unset).toArray = ls at hl ⊢
  have hl : lv_has ls 8 [(0, .ref qS), (1, .int (nI k)), (2, .long pk)] := hl
  refine lv_lload_n hx hb dX0_unpackCorner_0 rfl (lv_at hl 2 rfl) ?_
  refine lv_ldc2 (own := RX0) (v := 65537) hx hb hown (hts (.constantLong RX0 33 65537) (td_i5 (List.mem_of_getElem? (i := 11) rfl))) dX0_unpackCorner_1 ?_
  refine lv_ldiv hx hb dX0_unpackCorner_4 (by decide) ?_
  refine lv_lstore (lv' := [(4, .long (pk / 65537)), (0, .ref qS), (1, .int (nI k)), (2, .long pk)]) hx hb dX0_unpackCorner_5 hl (by decide) rfl (fun ls hl => ?_)
  refine lv_lload hx hb dX0_unpackCorner_7 (lv_at hl 0 rfl) ?_
  refine lv_ldc2 (own := RX0) (v := 1048576) hx hb hown (hts (.constantLong RX0 31 1048576) (td_i5 (List.mem_of_getElem? (i := 10) rfl))) dX0_unpackCorner_9 ?_
  refine lv_ldiv hx hb dX0_unpackCorner_12 (by decide) ?_
  refine lv_lstore (lv' := [(6, .long ((pk / 65537) / 1048576)), (4, .long (pk / 65537)), (0, .ref qS), (1, .int (nI k)), (2, .long pk)]) hx hb dX0_unpackCorner_13 hl (by decide) rfl (fun ls hl => ?_)
  refine lv_aload_n hx hb dX0_unpackCorner_15 rfl (lv_at hl 2 rfl) ?_
  refine lv_iload_n hx hb dX0_unpackCorner_16 rfl (lv_at hl 3 rfl) ?_
  refine lv_lload hx hb dX0_unpackCorner_17 (lv_at hl 0 rfl) ?_
  refine lv_ldc2 (own := RX0) (v := 8193) hx hb hown (hts (.constantLong RX0 29 8193) (td_i5 (List.mem_of_getElem? (i := 9) rfl))) dX0_unpackCorner_19 ?_
  refine lv_ldiv hx hb dX0_unpackCorner_22 (by decide) ?_
  refine lv_ldc2 (own := RX0) (v := 4096) hx hb hown (hts (.constantLong RX0 27 4096) (td_i5 (List.mem_of_getElem? (i := 8) rfl))) dX0_unpackCorner_23 ?_
  refine lv_lsub hx hb dX0_unpackCorner_26 ?_
  refine lv_lload hx hb dX0_unpackCorner_27 (lv_at hl 0 rfl) ?_
  refine lv_ldc2 (own := RX0) (v := 8193) hx hb hown (hts (.constantLong RX0 29 8193) (td_i5 (List.mem_of_getElem? (i := 9) rfl))) dX0_unpackCorner_29 ?_
  refine lv_lrem hx hb dX0_unpackCorner_32 (by decide) ?_
  refine lv_ldc2 (own := RX0) (v := 4096) hx hb hown (hts (.constantLong RX0 27 4096) (td_i5 (List.mem_of_getElem? (i := 8) rfl))) dX0_unpackCorner_33 ?_
  refine lv_lsub hx hb dX0_unpackCorner_36 ?_
  refine lv_lload hx hb dX0_unpackCorner_37 (lv_at hl 1 rfl) ?_
  refine lv_ldc2 (own := RX0) (v := 1048576) hx hb hown (hts (.constantLong RX0 31 1048576) (td_i5 (List.mem_of_getElem? (i := 10) rfl))) dX0_unpackCorner_39 ?_
  refine lv_lrem hx hb dX0_unpackCorner_42 (by decide) ?_
  refine lv_lconst (v := 1) hx hb dX0_unpackCorner_43 (by decide) ?_
  refine lv_ladd hx hb dX0_unpackCorner_44 ?_
  refine lv_lload_n hx hb dX0_unpackCorner_45 rfl (lv_at hl 4 rfl) ?_
  refine lv_ldc2 (own := RX0) (v := 65537) hx hb hown (hts (.constantLong RX0 33 65537) (td_i5 (List.mem_of_getElem? (i := 11) rfl))) dX0_unpackCorner_46 ?_
  refine lv_lrem hx hb dX0_unpackCorner_49 (by decide) ?_
  refine td_cwv (wr := []) (va_runV (As := [.int (nI k), .long ((((pk / 65537) / 1048576) / 8193) - 4096), .long ((((pk / 65537) / 1048576) - ((pk / 65537) / 1048576) / 8193 * 8193) - 4096), .long (((pk / 65537) - (pk / 65537) / 1048576 * 1048576) + 1), .long (pk - pk / 65537 * 65537)]) (rest := []) ⟨hx, hb, hml, hown, hts⟩ (td_setCorner l dC dI cI cJ cZ s.heap.size qS aX aY aR aL aW vX vY vR vL vW k ((((pk / 65537) / 1048576) / 8193) - 4096) ((((pk / 65537) / 1048576) - ((pk / 65537) / 1048576) / 8193 * 8193) - 4096) (((pk / 65537) - (pk / 65537) / 1048576 * 1048576) + 1) (pk - pk / 65537 * 65537) (by omega)) (cwV 5 hts (td_gV (td_i8 (List.mem_of_getElem? (i := 2) rfl)) (td_i4 (List.mem_of_getElem? (i := 9) rfl)) (td_i4 (List.mem_of_getElem? (i := 10) rfl)) (td_i1 (List.mem_of_getElem? (i := 2) rfl)) (td_i4 (List.mem_of_getElem? (i := 11) rfl))) rfl rfl rfl (by decide +kernel) ⟨(Nat.le_of_ble_eq_true rfl), (Nat.le_of_ble_eq_true rfl)⟩) (td_pWV hK hZ hP hD [0, 1, 2, 3, 4, 5] (by decide) rfl (va_recv hK hP (ci := 0) (q0 := 0) rfl rfl)) rfl rfl hl.1 rfl (lv_room (Nat.le_of_ble_eq_true rfl)) dX0_unpackCorner_50 ⟨Nat.zero_le _, Nat.zero_le _⟩) hP hD hS hA [0, 1, 2, 3, 4, 5] [] rfl rfl (by decide) (by decide) (fun u H locs w50_1 hP hD hS => ?_)
  try dsimp only at w50_1
  have hP : va_P (dC, dI) vwCl [(qS, .inr (0, [.ref aX, .ref aY, .ref aR, .ref aL, .ref aW])), (aX, .inl (cJ, 3, .inr (.inl (vp_updL vX k ((((pk / 65537) / 1048576) / 8193) - 4096))))), (aY, .inl (cJ, 3, .inr (.inl (vp_updL vY k ((((pk / 65537) / 1048576) - ((pk / 65537) / 1048576) / 8193 * 8193) - 4096))))), (aR, .inl (cJ, 3, .inr (.inl (vp_updL vR k (((pk / 65537) - (pk / 65537) / 1048576 * 1048576) + 1))))), (aL, .inl (cJ, 3, .inr (.inl (vp_updL vL k (pk - pk / 65537 * 65537))))), (aW, .inl (cJ, 3, .inr (.inl vW)))] H := hP
  have hD : va_D A [(qS, .inr (0, [.ref aX, .ref aY, .ref aR, .ref aL, .ref aW])), (aX, .inl (cJ, 3, .inr (.inl (vp_updL vX k ((((pk / 65537) / 1048576) / 8193) - 4096))))), (aY, .inl (cJ, 3, .inr (.inl (vp_updL vY k ((((pk / 65537) / 1048576) - ((pk / 65537) / 1048576) / 8193 * 8193) - 4096))))), (aR, .inl (cJ, 3, .inr (.inl (vp_updL vR k (((pk / 65537) - (pk / 65537) / 1048576 * 1048576) + 1))))), (aL, .inl (cJ, 3, .inr (.inl (vp_updL vL k (pk - pk / 65537 * 65537))))), (aW, .inl (cJ, 3, .inr (.inl vW)))] := hD
  have hP9 := hP.sub (ws' := [(qS, .inr (0, [.ref aX, .ref aY, .ref aR, .ref aL, .ref aW])), (aX, .inl (cJ, 3, .inr (.inl (vp_updL vX k (td_ux pk))))), (aY, .inl (cJ, 3, .inr (.inl (vp_updL vY k (td_uy pk))))), (aR, .inl (cJ, 3, .inr (.inl (vp_updL vR k (td_ur pk))))), (aL, .inl (cJ, 3, .inr (.inl (vp_updL vL k (td_ul pk))))), (aW, .inl (cJ, 3, .inr (.inl vW)))]) [0, 1, 2, 3, 4, 5] rfl
  have hD9 := hD.sub (ws' := [(qS, .inr (0, [.ref aX, .ref aY, .ref aR, .ref aL, .ref aW])), (aX, .inl (cJ, 3, .inr (.inl (vp_updL vX k (td_ux pk))))), (aY, .inl (cJ, 3, .inr (.inl (vp_updL vY k (td_uy pk))))), (aR, .inl (cJ, 3, .inr (.inl (vp_updL vR k (td_ur pk))))), (aL, .inl (cJ, 3, .inr (.inl (vp_updL vL k (td_ul pk))))), (aW, .inl (cJ, 3, .inr (.inl vW)))]) [0, 1, 2, 3, 4, 5] (by decide) rfl
  exact td_rwv () hx hb hr hlocks hK (trivial) hP9 hD9 hS dX0_unpackCorner_53
set_option maxHeartbeats 4000000 in
set_option maxRecDepth 100000 in
/-- Shape.area -/
theorem td_areaC (l : Launch) (dC : Nat → ClassId) (dI : Nat → Nat → Nat) (cI cJ cZ : ClassId) (qS : Nat) (aX : Nat) (aY : Nat) (aR : Nat) (aL : Nat) (aW : Nat) (vX : Nat → Int64) (vY : Nat → Int64) (vR : Nat → Int64) (vL : Nat → Int64) (vW : Nat → Int64) : Met l yX0_area wsX0_area ({ frames := 0, cells := 0, slots := 0, locals := 0 }) (td_RP (dC, dI) vwCl (td_T cI cJ cZ) td_nl [(qS, .inr (0, [.ref aX, .ref aY, .ref aR, .ref aL, .ref aW])), (aX, .inl (cJ, 3, .inr (.inl vX))), (aY, .inl (cJ, 3, .inr (.inl vY))), (aR, .inl (cJ, 3, .inr (.inl vR))), (aL, .inl (cJ, 3, .inr (.inl vL))), (aW, .inl (cJ, 3, .inr (.inl vW)))] [.ref qS]) (vp_Sl (fun r => r = td_ca vX vY)) 0 0 (fun _ => False) := by
  refine Met.ofW (cc := cX0_area) (maxL := 1) (ret := (some .long)) (by decide) rfl ?_
  intro p e s m args below meth c s₁ B hml hv
  obtain ⟨rfl, hP, hK, hZ⟩ := hv
  have hx := B.exec
  have hb := B.bytes
  have hr := B.returns
  have hts := atoms_spec (ws := wsX0_area) B.pre
  have hown : s.vm.findClass RX0 = some m.cls := findClass_of_methodNamed B.named
  have hlocks := B.notSynchronized
  have hP : va_P (dC, dI) vwCl [(qS, .inr (0, [.ref aX, .ref aY, .ref aR, .ref aL, .ref aW])), (aX, .inl (cJ, 3, .inr (.inl vX))), (aY, .inl (cJ, 3, .inr (.inl vY))), (aR, .inl (cJ, 3, .inr (.inl vR))), (aL, .inl (cJ, 3, .inr (.inl vL))), (aW, .inl (cJ, 3, .inr (.inl vW)))] s.heap := hP
  have hl := lv_entry ([.ref qS]) (n := 1) (Nat.le_of_ble_eq_true rfl)
  rw [lg_entry_eq]
  generalize (lg_sl ([.ref qS]) ++ List.replicate (1 - (lg_sl ([.ref qS])).length) Slot.unset).toArray = ls at hl ⊢
  have hl : lv_has ls 1 [(0, .ref qS)] := hl
  refine lv_aload_n hx hb dX0_area_0 rfl (lv_at hl 0 rfl) ?_
  refine va_get (D := (dC, dI)) (ci := 0) (v := .ref aX) (C := RX0) (T := TX0) (N := 5) hx hb hts td_fX0 hown hK hP 0 rfl rfl 0 (by decide) (hts (.fieldLink RX0 9 "TileDesk$Shape" "xs" "[J") (td_i1 (List.mem_of_getElem? (i := 21) rfl))) (fun _ h9 => h9) rfl dX0_area_1 ?_
  refine lv_iconst (v := 1) hx hb dX0_area_4 (by decide) ?_
  refine td_lald hx hb hK hP 1 1 1 rfl rfl rfl (by decide) (by decide) dX0_area_5 ?_
  refine lv_aload_n hx hb dX0_area_6 rfl (lv_at hl 0 rfl) ?_
  refine va_get (D := (dC, dI)) (ci := 0) (v := .ref aX) (C := RX0) (T := TX0) (N := 5) hx hb hts td_fX0 hown hK hP 0 rfl rfl 0 (by decide) (hts (.fieldLink RX0 9 "TileDesk$Shape" "xs" "[J") (td_i1 (List.mem_of_getElem? (i := 21) rfl))) (fun _ h9 => h9) rfl dX0_area_7 ?_
  refine lv_iconst (v := 0) hx hb dX0_area_10 (by decide) ?_
  refine td_lald hx hb hK hP 1 1 0 rfl rfl rfl (by decide) (by decide) dX0_area_11 ?_
  refine lv_lsub hx hb dX0_area_12 ?_
  refine lv_aload_n hx hb dX0_area_13 rfl (lv_at hl 0 rfl) ?_
  refine va_get (D := (dC, dI)) (ci := 0) (v := .ref aY) (C := RX0) (T := TX0) (N := 5) hx hb hts td_fX0 hown hK hP 0 rfl rfl 1 (by decide) (hts (.fieldLink RX0 15 "TileDesk$Shape" "ys" "[J") (td_i1 (List.mem_of_getElem? (i := 22) rfl))) (fun _ h9 => h9) rfl dX0_area_14 ?_
  refine lv_iconst (v := 2) hx hb dX0_area_17 (by decide) ?_
  refine td_lald hx hb hK hP 2 1 2 rfl rfl rfl (by decide) (by decide) dX0_area_18 ?_
  refine lv_aload_n hx hb dX0_area_19 rfl (lv_at hl 0 rfl) ?_
  refine va_get (D := (dC, dI)) (ci := 0) (v := .ref aY) (C := RX0) (T := TX0) (N := 5) hx hb hts td_fX0 hown hK hP 0 rfl rfl 1 (by decide) (hts (.fieldLink RX0 15 "TileDesk$Shape" "ys" "[J") (td_i1 (List.mem_of_getElem? (i := 22) rfl))) (fun _ h9 => h9) rfl dX0_area_20 ?_
  refine lv_iconst (v := 0) hx hb dX0_area_23 (by decide) ?_
  refine td_lald hx hb hK hP 2 1 0 rfl rfl rfl (by decide) (by decide) dX0_area_24 ?_
  refine lv_lsub hx hb dX0_area_25 ?_
  refine lv_lmul hx hb dX0_area_26 ?_
  refine lv_aload_n hx hb dX0_area_27 rfl (lv_at hl 0 rfl) ?_
  refine va_get (D := (dC, dI)) (ci := 0) (v := .ref aX) (C := RX0) (T := TX0) (N := 5) hx hb hts td_fX0 hown hK hP 0 rfl rfl 0 (by decide) (hts (.fieldLink RX0 9 "TileDesk$Shape" "xs" "[J") (td_i1 (List.mem_of_getElem? (i := 21) rfl))) (fun _ h9 => h9) rfl dX0_area_28 ?_
  refine lv_iconst (v := 2) hx hb dX0_area_31 (by decide) ?_
  refine td_lald hx hb hK hP 1 1 2 rfl rfl rfl (by decide) (by decide) dX0_area_32 ?_
  refine lv_aload_n hx hb dX0_area_33 rfl (lv_at hl 0 rfl) ?_
  refine va_get (D := (dC, dI)) (ci := 0) (v := .ref aX) (C := RX0) (T := TX0) (N := 5) hx hb hts td_fX0 hown hK hP 0 rfl rfl 0 (by decide) (hts (.fieldLink RX0 9 "TileDesk$Shape" "xs" "[J") (td_i1 (List.mem_of_getElem? (i := 21) rfl))) (fun _ h9 => h9) rfl dX0_area_34 ?_
  refine lv_iconst (v := 0) hx hb dX0_area_37 (by decide) ?_
  refine td_lald hx hb hK hP 1 1 0 rfl rfl rfl (by decide) (by decide) dX0_area_38 ?_
  refine lv_lsub hx hb dX0_area_39 ?_
  refine lv_aload_n hx hb dX0_area_40 rfl (lv_at hl 0 rfl) ?_
  refine va_get (D := (dC, dI)) (ci := 0) (v := .ref aY) (C := RX0) (T := TX0) (N := 5) hx hb hts td_fX0 hown hK hP 0 rfl rfl 1 (by decide) (hts (.fieldLink RX0 15 "TileDesk$Shape" "ys" "[J") (td_i1 (List.mem_of_getElem? (i := 22) rfl))) (fun _ h9 => h9) rfl dX0_area_41 ?_
  refine lv_iconst (v := 1) hx hb dX0_area_44 (by decide) ?_
  refine td_lald hx hb hK hP 2 1 1 rfl rfl rfl (by decide) (by decide) dX0_area_45 ?_
  refine lv_aload_n hx hb dX0_area_46 rfl (lv_at hl 0 rfl) ?_
  refine va_get (D := (dC, dI)) (ci := 0) (v := .ref aY) (C := RX0) (T := TX0) (N := 5) hx hb hts td_fX0 hown hK hP 0 rfl rfl 1 (by decide) (hts (.fieldLink RX0 15 "TileDesk$Shape" "ys" "[J") (td_i1 (List.mem_of_getElem? (i := 22) rfl))) (fun _ h9 => h9) rfl dX0_area_47 ?_
  refine lv_iconst (v := 0) hx hb dX0_area_50 (by decide) ?_
  refine td_lald hx hb hK hP 2 1 0 rfl rfl rfl (by decide) (by decide) dX0_area_51 ?_
  refine lv_lsub hx hb dX0_area_52 ?_
  refine lv_lmul hx hb dX0_area_53 ?_
  refine lv_lsub hx hb dX0_area_54 ?_
  exact td_rrl hx hb hr hlocks (rfl) dX0_area_55
set_option maxHeartbeats 4000000 in
set_option maxRecDepth 100000 in
/-- Shape.ownsItsEdge -/
theorem td_owns (l : Launch) (dC : Nat → ClassId) (dI : Nat → Nat → Nat) (cI cJ cZ : ClassId) (qS : Nat) (aX : Nat) (aY : Nat) (aR : Nat) (aL : Nat) (aW : Nat) (vX : Nat → Int64) (vY : Nat → Int64) (vR : Nat → Int64) (vL : Nat → Int64) (vW : Nat → Int64) (ka : Nat) (kb : Nat) (ha : ka < 3) (hb3 : kb < 3) : Met l yX0_ownsItsEdge wsX0_ownsItsEdge ({ frames := 0, cells := 0, slots := 0, locals := 0 }) (td_RP (dC, dI) vwCl (td_T cI cJ cZ) td_nl [(qS, .inr (0, [.ref aX, .ref aY, .ref aR, .ref aL, .ref aW])), (aX, .inl (cJ, 3, .inr (.inl vX))), (aY, .inl (cJ, 3, .inr (.inl vY))), (aR, .inl (cJ, 3, .inr (.inl vR))), (aL, .inl (cJ, 3, .inr (.inl vL))), (aW, .inl (cJ, 3, .inr (.inl vW)))] [.ref qS, .int (nI ka), .int (nI kb)]) (vp_Si (fun r => r = td_bz (vY kb < vY ka ∨ vY kb = vY ka ∧ vX ka < vX kb))) 0 0 (fun _ => False) := by
  refine Met.ofW (cc := cX0_ownsItsEdge) (maxL := 3) (ret := (some .boolean)) (by decide) rfl ?_
  intro p e s m args below meth c s₁ B hml hv
  obtain ⟨rfl, hP, hK, hZ⟩ := hv
  have hx := B.exec
  have hb := B.bytes
  have hr := B.returns
  have hts := atoms_spec (ws := wsX0_ownsItsEdge) B.pre
  have hown : s.vm.findClass RX0 = some m.cls := findClass_of_methodNamed B.named
  have hlocks := B.notSynchronized
  have hP : va_P (dC, dI) vwCl [(qS, .inr (0, [.ref aX, .ref aY, .ref aR, .ref aL, .ref aW])), (aX, .inl (cJ, 3, .inr (.inl vX))), (aY, .inl (cJ, 3, .inr (.inl vY))), (aR, .inl (cJ, 3, .inr (.inl vR))), (aL, .inl (cJ, 3, .inr (.inl vL))), (aW, .inl (cJ, 3, .inr (.inl vW)))] s.heap := hP
  have hl := lv_entry ([.ref qS, .int (nI ka), .int (nI kb)]) (n := 3) (Nat.le_of_ble_eq_true rfl)
  rw [lg_entry_eq]
  generalize (lg_sl ([.ref qS, .int (nI ka), .int (nI kb)]) ++ List.replicate (3 - (lg_sl ([.ref qS, .int (nI ka), .int (nI kb)])).length) Slot.unset).toArray = ls at hl ⊢
  have hl : lv_has ls 3 [(0, .ref qS), (1, .int (nI ka)), (2, .int (nI kb))] := hl
  refine lv_aload_n hx hb dX0_ownsItsEdge_0 rfl (lv_at hl 0 rfl) ?_
  refine va_get (D := (dC, dI)) (ci := 0) (v := .ref aY) (C := RX0) (T := TX0) (N := 5) hx hb hts td_fX0 hown hK hP 0 rfl rfl 1 (by decide) (hts (.fieldLink RX0 15 "TileDesk$Shape" "ys" "[J") (td_i1 (List.mem_of_getElem? (i := 22) rfl))) (fun _ h9 => h9) rfl dX0_ownsItsEdge_1 ?_
  refine lv_iload_n hx hb dX0_ownsItsEdge_4 rfl (lv_at hl 2 rfl) ?_
  refine td_lald hx hb hK hP 2 1 kb rfl rfl rfl (by omega) (by decide) dX0_ownsItsEdge_5 ?_
  refine lv_aload_n hx hb dX0_ownsItsEdge_6 rfl (lv_at hl 0 rfl) ?_
  refine va_get (D := (dC, dI)) (ci := 0) (v := .ref aY) (C := RX0) (T := TX0) (N := 5) hx hb hts td_fX0 hown hK hP 0 rfl rfl 1 (by decide) (hts (.fieldLink RX0 15 "TileDesk$Shape" "ys" "[J") (td_i1 (List.mem_of_getElem? (i := 22) rfl))) (fun _ h9 => h9) rfl dX0_ownsItsEdge_7 ?_
  refine lv_iload_n hx hb dX0_ownsItsEdge_10 rfl (lv_at hl 1 rfl) ?_
  refine td_lald hx hb hK hP 2 1 ka rfl rfl rfl (by omega) (by decide) dX0_ownsItsEdge_11 ?_
  refine W.lcmp hx hb dX0_ownsItsEdge_12 ?_
  refine td_llt (tgt := 48) hx hb dX0_ownsItsEdge_13 (by decide) (fun c13_1 => ?_) (fun c13_1 => ?_)
  · refine lv_iconst (v := 1) hx hb dX0_ownsItsEdge_48 (by decide) ?_
    refine lv_goto (tgt := 53) hx hb dX0_ownsItsEdge_49 (by decide) ?_
    exact td_rri hx hb hr rfl hlocks (by rw [td_bz1 (by first | exact Or.inl (by assumption) | exact Or.inr ⟨by assumption, Int64.not_le.mp (by assumption)⟩)]) dX0_ownsItsEdge_53
  · refine lv_aload_n hx hb dX0_ownsItsEdge_16 rfl (lv_at hl 0 rfl) ?_
    refine va_get (D := (dC, dI)) (ci := 0) (v := .ref aY) (C := RX0) (T := TX0) (N := 5) hx hb hts td_fX0 hown hK hP 0 rfl rfl 1 (by decide) (hts (.fieldLink RX0 15 "TileDesk$Shape" "ys" "[J") (td_i1 (List.mem_of_getElem? (i := 22) rfl))) (fun _ h9 => h9) rfl dX0_ownsItsEdge_17 ?_
    refine lv_iload_n hx hb dX0_ownsItsEdge_20 rfl (lv_at hl 2 rfl) ?_
    refine td_lald hx hb hK hP 2 1 kb rfl rfl rfl (by omega) (by decide) dX0_ownsItsEdge_21 ?_
    refine lv_aload_n hx hb dX0_ownsItsEdge_22 rfl (lv_at hl 0 rfl) ?_
    refine va_get (D := (dC, dI)) (ci := 0) (v := .ref aY) (C := RX0) (T := TX0) (N := 5) hx hb hts td_fX0 hown hK hP 0 rfl rfl 1 (by decide) (hts (.fieldLink RX0 15 "TileDesk$Shape" "ys" "[J") (td_i1 (List.mem_of_getElem? (i := 22) rfl))) (fun _ h9 => h9) rfl dX0_ownsItsEdge_23 ?_
    refine lv_iload_n hx hb dX0_ownsItsEdge_26 rfl (lv_at hl 1 rfl) ?_
    refine td_lald hx hb hK hP 2 1 ka rfl rfl rfl (by omega) (by decide) dX0_ownsItsEdge_27 ?_
    refine W.lcmp hx hb dX0_ownsItsEdge_28 ?_
    refine td_lne (tgt := 52) hx hb dX0_ownsItsEdge_29 (by decide) (fun c29_2 => ?_) (fun c29_2 => ?_)
    · refine lv_iconst (v := 0) hx hb dX0_ownsItsEdge_52 (by decide) ?_
      exact td_rri hx hb hr rfl hlocks (by rw [td_bz0 (by rintro (h | ⟨h, h2⟩) <;> first | contradiction | exact absurd h2 (Int64.not_lt.mpr (by assumption)))]) dX0_ownsItsEdge_53
    · refine lv_aload_n hx hb dX0_ownsItsEdge_32 rfl (lv_at hl 0 rfl) ?_
      refine va_get (D := (dC, dI)) (ci := 0) (v := .ref aX) (C := RX0) (T := TX0) (N := 5) hx hb hts td_fX0 hown hK hP 0 rfl rfl 0 (by decide) (hts (.fieldLink RX0 9 "TileDesk$Shape" "xs" "[J") (td_i1 (List.mem_of_getElem? (i := 21) rfl))) (fun _ h9 => h9) rfl dX0_ownsItsEdge_33 ?_
      refine lv_iload_n hx hb dX0_ownsItsEdge_36 rfl (lv_at hl 2 rfl) ?_
      refine td_lald hx hb hK hP 1 1 kb rfl rfl rfl (by omega) (by decide) dX0_ownsItsEdge_37 ?_
      refine lv_aload_n hx hb dX0_ownsItsEdge_38 rfl (lv_at hl 0 rfl) ?_
      refine va_get (D := (dC, dI)) (ci := 0) (v := .ref aX) (C := RX0) (T := TX0) (N := 5) hx hb hts td_fX0 hown hK hP 0 rfl rfl 0 (by decide) (hts (.fieldLink RX0 9 "TileDesk$Shape" "xs" "[J") (td_i1 (List.mem_of_getElem? (i := 21) rfl))) (fun _ h9 => h9) rfl dX0_ownsItsEdge_39 ?_
      refine lv_iload_n hx hb dX0_ownsItsEdge_42 rfl (lv_at hl 1 rfl) ?_
      refine td_lald hx hb hK hP 1 1 ka rfl rfl rfl (by omega) (by decide) dX0_ownsItsEdge_43 ?_
      refine W.lcmp hx hb dX0_ownsItsEdge_44 ?_
      refine td_lle (tgt := 52) hx hb dX0_ownsItsEdge_45 (by decide) (fun c45_3 => ?_) (fun c45_3 => ?_)
      · refine lv_iconst (v := 0) hx hb dX0_ownsItsEdge_52 (by decide) ?_
        exact td_rri hx hb hr rfl hlocks (by rw [td_bz0 (by rintro (h | ⟨h, h2⟩) <;> first | contradiction | exact absurd h2 (Int64.not_lt.mpr (by assumption)))]) dX0_ownsItsEdge_53
      · refine lv_iconst (v := 1) hx hb dX0_ownsItsEdge_48 (by decide) ?_
        refine lv_goto (tgt := 53) hx hb dX0_ownsItsEdge_49 (by decide) ?_
        exact td_rri hx hb hr rfl hlocks (by rw [td_bz1 (by first | exact Or.inl (by assumption) | exact Or.inr ⟨by assumption, Int64.not_le.mp (by assumption)⟩)]) dX0_ownsItsEdge_53
set_option maxHeartbeats 4000000 in
set_option maxRecDepth 100000 in
/-- Shape.weighedR -/
theorem td_weighedR (l : Launch) (dC : Nat → ClassId) (dI : Nat → Nat → Nat) (cI cJ cZ : ClassId) (qS : Nat) (aX : Nat) (aY : Nat) (aR : Nat) (aL : Nat) (aW : Nat) (vX : Nat → Int64) (vY : Nat → Int64) (vR : Nat → Int64) (vL : Nat → Int64) (vW : Nat → Int64) : Met l yX0_weighedR wsX0_weighedR ({ frames := 0, cells := 0, slots := 0, locals := 0 }) (td_RP (dC, dI) vwCl (td_T cI cJ cZ) td_nl [(qS, .inr (0, [.ref aX, .ref aY, .ref aR, .ref aL, .ref aW])), (aX, .inl (cJ, 3, .inr (.inl vX))), (aY, .inl (cJ, 3, .inr (.inl vY))), (aR, .inl (cJ, 3, .inr (.inl vR))), (aL, .inl (cJ, 3, .inr (.inl vL))), (aW, .inl (cJ, 3, .inr (.inl vW)))] [.ref qS]) (vp_Sl (fun r => r = td_wr vW vR)) 0 0 (fun _ => False) := by
  refine Met.ofW (cc := cX0_weighedR) (maxL := 1) (ret := (some .long)) (by decide) rfl ?_
  intro p e s m args below meth c s₁ B hml hv
  obtain ⟨rfl, hP, hK, hZ⟩ := hv
  have hx := B.exec
  have hb := B.bytes
  have hr := B.returns
  have hts := atoms_spec (ws := wsX0_weighedR) B.pre
  have hown : s.vm.findClass RX0 = some m.cls := findClass_of_methodNamed B.named
  have hlocks := B.notSynchronized
  have hP : va_P (dC, dI) vwCl [(qS, .inr (0, [.ref aX, .ref aY, .ref aR, .ref aL, .ref aW])), (aX, .inl (cJ, 3, .inr (.inl vX))), (aY, .inl (cJ, 3, .inr (.inl vY))), (aR, .inl (cJ, 3, .inr (.inl vR))), (aL, .inl (cJ, 3, .inr (.inl vL))), (aW, .inl (cJ, 3, .inr (.inl vW)))] s.heap := hP
  have hl := lv_entry ([.ref qS]) (n := 1) (Nat.le_of_ble_eq_true rfl)
  rw [lg_entry_eq]
  generalize (lg_sl ([.ref qS]) ++ List.replicate (1 - (lg_sl ([.ref qS])).length) Slot.unset).toArray = ls at hl ⊢
  have hl : lv_has ls 1 [(0, .ref qS)] := hl
  refine lv_aload_n hx hb dX0_weighedR_0 rfl (lv_at hl 0 rfl) ?_
  refine va_get (D := (dC, dI)) (ci := 0) (v := .ref aW) (C := RX0) (T := TX0) (N := 5) hx hb hts td_fX0 hown hK hP 0 rfl rfl 4 (by decide) (hts (.fieldLink RX0 24 "TileDesk$Shape" "weights" "[J") (td_i2 (List.mem_of_getElem? (i := 1) rfl))) (fun _ h9 => h9) rfl dX0_weighedR_1 ?_
  refine lv_iconst (v := 0) hx hb dX0_weighedR_4 (by decide) ?_
  refine td_lald hx hb hK hP 5 1 0 rfl rfl rfl (by decide) (by decide) dX0_weighedR_5 ?_
  refine lv_aload_n hx hb dX0_weighedR_6 rfl (lv_at hl 0 rfl) ?_
  refine va_get (D := (dC, dI)) (ci := 0) (v := .ref aR) (C := RX0) (T := TX0) (N := 5) hx hb hts td_fX0 hown hK hP 0 rfl rfl 2 (by decide) (hts (.fieldLink RX0 18 "TileDesk$Shape" "rs" "[J") (td_i1 (List.mem_of_getElem? (i := 23) rfl))) (fun _ h9 => h9) rfl dX0_weighedR_7 ?_
  refine lv_iconst (v := 0) hx hb dX0_weighedR_10 (by decide) ?_
  refine td_lald hx hb hK hP 3 1 0 rfl rfl rfl (by decide) (by decide) dX0_weighedR_11 ?_
  refine lv_lmul hx hb dX0_weighedR_12 ?_
  refine lv_aload_n hx hb dX0_weighedR_13 rfl (lv_at hl 0 rfl) ?_
  refine va_get (D := (dC, dI)) (ci := 0) (v := .ref aW) (C := RX0) (T := TX0) (N := 5) hx hb hts td_fX0 hown hK hP 0 rfl rfl 4 (by decide) (hts (.fieldLink RX0 24 "TileDesk$Shape" "weights" "[J") (td_i2 (List.mem_of_getElem? (i := 1) rfl))) (fun _ h9 => h9) rfl dX0_weighedR_14 ?_
  refine lv_iconst (v := 1) hx hb dX0_weighedR_17 (by decide) ?_
  refine td_lald hx hb hK hP 5 1 1 rfl rfl rfl (by decide) (by decide) dX0_weighedR_18 ?_
  refine lv_aload_n hx hb dX0_weighedR_19 rfl (lv_at hl 0 rfl) ?_
  refine va_get (D := (dC, dI)) (ci := 0) (v := .ref aR) (C := RX0) (T := TX0) (N := 5) hx hb hts td_fX0 hown hK hP 0 rfl rfl 2 (by decide) (hts (.fieldLink RX0 18 "TileDesk$Shape" "rs" "[J") (td_i1 (List.mem_of_getElem? (i := 23) rfl))) (fun _ h9 => h9) rfl dX0_weighedR_20 ?_
  refine lv_iconst (v := 1) hx hb dX0_weighedR_23 (by decide) ?_
  refine td_lald hx hb hK hP 3 1 1 rfl rfl rfl (by decide) (by decide) dX0_weighedR_24 ?_
  refine lv_lmul hx hb dX0_weighedR_25 ?_
  refine lv_ladd hx hb dX0_weighedR_26 ?_
  refine lv_aload_n hx hb dX0_weighedR_27 rfl (lv_at hl 0 rfl) ?_
  refine va_get (D := (dC, dI)) (ci := 0) (v := .ref aW) (C := RX0) (T := TX0) (N := 5) hx hb hts td_fX0 hown hK hP 0 rfl rfl 4 (by decide) (hts (.fieldLink RX0 24 "TileDesk$Shape" "weights" "[J") (td_i2 (List.mem_of_getElem? (i := 1) rfl))) (fun _ h9 => h9) rfl dX0_weighedR_28 ?_
  refine lv_iconst (v := 2) hx hb dX0_weighedR_31 (by decide) ?_
  refine td_lald hx hb hK hP 5 1 2 rfl rfl rfl (by decide) (by decide) dX0_weighedR_32 ?_
  refine lv_aload_n hx hb dX0_weighedR_33 rfl (lv_at hl 0 rfl) ?_
  refine va_get (D := (dC, dI)) (ci := 0) (v := .ref aR) (C := RX0) (T := TX0) (N := 5) hx hb hts td_fX0 hown hK hP 0 rfl rfl 2 (by decide) (hts (.fieldLink RX0 18 "TileDesk$Shape" "rs" "[J") (td_i1 (List.mem_of_getElem? (i := 23) rfl))) (fun _ h9 => h9) rfl dX0_weighedR_34 ?_
  refine lv_iconst (v := 2) hx hb dX0_weighedR_37 (by decide) ?_
  refine td_lald hx hb hK hP 3 1 2 rfl rfl rfl (by decide) (by decide) dX0_weighedR_38 ?_
  refine lv_lmul hx hb dX0_weighedR_39 ?_
  refine lv_ladd hx hb dX0_weighedR_40 ?_
  exact td_rrl hx hb hr hlocks (rfl) dX0_weighedR_41
set_option maxHeartbeats 4000000 in
set_option maxRecDepth 100000 in
/-- Shape.nearnessHere -/
theorem td_nearnessHere (l : Launch) (dC : Nat → ClassId) (dI : Nat → Nat → Nat) (cI cJ cZ : ClassId) (qS : Nat) (aX : Nat) (aY : Nat) (aR : Nat) (aL : Nat) (aW : Nat) (vX : Nat → Int64) (vY : Nat → Int64) (vR : Nat → Int64) (vL : Nat → Int64) (vW : Nat → Int64) : Met l yX0_nearnessHere wsX0_nearnessHere ({ frames := 2, cells := 0, slots := 0, locals := 48 }) (td_RP (dC, dI) vwCl (td_T cI cJ cZ) td_nl [(qS, .inr (0, [.ref aX, .ref aY, .ref aR, .ref aL, .ref aW])), (aX, .inl (cJ, 3, .inr (.inl vX))), (aY, .inl (cJ, 3, .inr (.inl vY))), (aR, .inl (cJ, 3, .inr (.inl vR))), (aL, .inl (cJ, 3, .inr (.inl vL))), (aW, .inl (cJ, 3, .inr (.inl vW)))] [.ref qS]) (vp_Sl (fun r => r = td_q (td_wr vW vR) (td_ca vX vY))) 0 0 (fun _ => False) := by
  refine Met.ofW (cc := cX0_nearnessHere) (maxL := 1) (ret := (some .long)) (by decide) rfl ?_
  intro p e s m args below meth c s₁ B hml hv
  obtain ⟨rfl, hP, hK, hZ⟩ := hv
  have hx := B.exec
  have hb := B.bytes
  have hr := B.returns
  have hts := atoms_spec (ws := wsX0_nearnessHere) B.pre
  have hown : s.vm.findClass RX0 = some m.cls := findClass_of_methodNamed B.named
  have hlocks := B.notSynchronized
  have hP : va_P (dC, dI) vwCl [(qS, .inr (0, [.ref aX, .ref aY, .ref aR, .ref aL, .ref aW])), (aX, .inl (cJ, 3, .inr (.inl vX))), (aY, .inl (cJ, 3, .inr (.inl vY))), (aR, .inl (cJ, 3, .inr (.inl vR))), (aL, .inl (cJ, 3, .inr (.inl vL))), (aW, .inl (cJ, 3, .inr (.inl vW)))] s.heap := hP
  have hl := lv_entry ([.ref qS]) (n := 1) (Nat.le_of_ble_eq_true rfl)
  rw [lg_entry_eq]
  generalize (lg_sl ([.ref qS]) ++ List.replicate (1 - (lg_sl ([.ref qS])).length) Slot.unset).toArray = ls at hl ⊢
  have hl : lv_has ls 1 [(0, .ref qS)] := hl
  refine lv_aload_n hx hb dX0_nearnessHere_0 rfl (lv_at hl 0 rfl) ?_
  refine td_csl (va_runV (As := []) (rest := []) ⟨hx, hb, hml, hown, hts⟩ (td_weighedR l dC dI cI cJ cZ qS aX aY aR aL aW vX vY vR vL vW) (cwV 0 hts (td_gV (td_i10 (List.mem_of_getElem? (i := 6) rfl)) (td_i10 (List.mem_of_getElem? (i := 7) rfl)) (td_i15 (List.mem_of_getElem? (i := 15) rfl)) (td_i1 (List.mem_of_getElem? (i := 2) rfl)) (td_i10 (List.mem_of_getElem? (i := 8) rfl))) rfl rfl rfl (by decide +kernel) ⟨(Nat.le_of_ble_eq_true rfl), (Nat.le_of_ble_eq_true rfl)⟩) (td_pRV hK hZ hP [0, 1, 2, 3, 4, 5] rfl (va_recv hK hP (ci := 0) (q0 := 0) rfl rfl)) rfl rfl hl.1 rfl (lv_room (Nat.le_of_ble_eq_true rfl)) dX0_nearnessHere_1 ⟨Nat.zero_le _, Nat.zero_le _⟩) ?_
  refine lv_aload_n hx hb dX0_nearnessHere_4 rfl (lv_at hl 0 rfl) ?_
  refine td_csl (va_runV (As := []) (rest := [.long (td_wr vW vR)]) ⟨hx, hb, hml, hown, hts⟩ (td_areaC l dC dI cI cJ cZ qS aX aY aR aL aW vX vY vR vL vW) (cwV 0 hts (td_gV (td_i10 (List.mem_of_getElem? (i := 9) rfl)) (td_i4 (List.mem_of_getElem? (i := 21) rfl)) (td_i4 (List.mem_of_getElem? (i := 22) rfl)) (td_i1 (List.mem_of_getElem? (i := 2) rfl)) (td_i4 (List.mem_of_getElem? (i := 23) rfl))) rfl rfl rfl (by decide +kernel) ⟨(Nat.le_of_ble_eq_true rfl), (Nat.le_of_ble_eq_true rfl)⟩) (td_pRV hK hZ hP [0, 1, 2, 3, 4, 5] rfl (va_recv hK hP (ci := 0) (q0 := 0) rfl rfl)) rfl rfl hl.1 rfl (lv_room (Nat.le_of_ble_eq_true rfl)) dX0_nearnessHere_5 ⟨Nat.zero_le _, Nat.zero_le _⟩) ?_
  refine td_csl (va_runSN (As := [.long (td_wr vW vR), .long (td_ca vX vY)]) (rest := []) ⟨hx, hb, hml, hown, hts⟩ (td_quotient l dC dI cI cJ cZ (td_wr vW vR) (td_ca vX vY)) (⟨va_cnB 2 hts (td_gC (td_i7 (List.mem_of_getElem? (i := 3) rfl))) rfl rfl rfl (hZ.2 _ (List.mem_of_getElem? (i := 15) rfl)) (hts (.initialized RX3) (td_i1 (List.mem_of_getElem? (i := 1) rfl))) (by decide +kernel) ⟨(Nat.le_of_ble_eq_true rfl), (Nat.le_of_ble_eq_true rfl)⟩, (hts (.static yX3_quotient) (td_i7 (List.mem_of_getElem? (i := 2) rfl))), trivial⟩) (td_pRS hK hZ hP [] rfl) rfl rfl hl.1 rfl (lv_room (Nat.le_of_ble_eq_true rfl)) dX0_nearnessHere_8 ⟨Nat.zero_le _, Nat.zero_le _⟩) ?_
  exact td_rrl hx hb hr hlocks (rfl) dX0_nearnessHere_11
set_option maxHeartbeats 4000000 in
set_option maxRecDepth 100000 in
/-- Shape.lightHere -/
theorem td_lightHere (l : Launch) (dC : Nat → ClassId) (dI : Nat → Nat → Nat) (cI cJ cZ : ClassId) (qS : Nat) (aX : Nat) (aY : Nat) (aR : Nat) (aL : Nat) (aW : Nat) (vX : Nat → Int64) (vY : Nat → Int64) (vR : Nat → Int64) (vL : Nat → Int64) (vW : Nat → Int64) : Met l yX0_lightHere wsX0_lightHere ({ frames := 2, cells := 0, slots := 0, locals := 48 }) (td_RP (dC, dI) vwCl (td_T cI cJ cZ) td_nl [(qS, .inr (0, [.ref aX, .ref aY, .ref aR, .ref aL, .ref aW])), (aX, .inl (cJ, 3, .inr (.inl vX))), (aY, .inl (cJ, 3, .inr (.inl vY))), (aR, .inl (cJ, 3, .inr (.inl vR))), (aL, .inl (cJ, 3, .inr (.inl vL))), (aW, .inl (cJ, 3, .inr (.inl vW)))] [.ref qS]) (vp_Sl (fun r => r = td_q (td_wl vW vR vL) (td_wr vW vR))) 0 0 (fun _ => False) := by
  refine Met.ofW (cc := cX0_lightHere) (maxL := 3) (ret := (some .long)) (by decide) rfl ?_
  intro p e s m args below meth c s₁ B hml hv
  obtain ⟨rfl, hP, hK, hZ⟩ := hv
  have hx := B.exec
  have hb := B.bytes
  have hr := B.returns
  have hts := atoms_spec (ws := wsX0_lightHere) B.pre
  have hown : s.vm.findClass RX0 = some m.cls := findClass_of_methodNamed B.named
  have hlocks := B.notSynchronized
  have hP : va_P (dC, dI) vwCl [(qS, .inr (0, [.ref aX, .ref aY, .ref aR, .ref aL, .ref aW])), (aX, .inl (cJ, 3, .inr (.inl vX))), (aY, .inl (cJ, 3, .inr (.inl vY))), (aR, .inl (cJ, 3, .inr (.inl vR))), (aL, .inl (cJ, 3, .inr (.inl vL))), (aW, .inl (cJ, 3, .inr (.inl vW)))] s.heap := hP
  have hl := lv_entry ([.ref qS]) (n := 3) (Nat.le_of_ble_eq_true rfl)
  rw [lg_entry_eq]
  generalize (lg_sl ([.ref qS]) ++ List.replicate (3 - (lg_sl ([.ref qS])).length) Slot.unset).toArray = ls at hl ⊢
  have hl : lv_has ls 3 [(0, .ref qS)] := hl
  refine lv_aload_n hx hb dX0_lightHere_0 rfl (lv_at hl 0 rfl) ?_
  refine va_get (D := (dC, dI)) (ci := 0) (v := .ref aW) (C := RX0) (T := TX0) (N := 5) hx hb hts td_fX0 hown hK hP 0 rfl rfl 4 (by decide) (hts (.fieldLink RX0 24 "TileDesk$Shape" "weights" "[J") (td_i2 (List.mem_of_getElem? (i := 1) rfl))) (fun _ h9 => h9) rfl dX0_lightHere_1 ?_
  refine lv_iconst (v := 0) hx hb dX0_lightHere_4 (by decide) ?_
  refine td_lald hx hb hK hP 5 1 0 rfl rfl rfl (by decide) (by decide) dX0_lightHere_5 ?_
  refine lv_aload_n hx hb dX0_lightHere_6 rfl (lv_at hl 0 rfl) ?_
  refine va_get (D := (dC, dI)) (ci := 0) (v := .ref aR) (C := RX0) (T := TX0) (N := 5) hx hb hts td_fX0 hown hK hP 0 rfl rfl 2 (by decide) (hts (.fieldLink RX0 18 "TileDesk$Shape" "rs" "[J") (td_i1 (List.mem_of_getElem? (i := 23) rfl))) (fun _ h9 => h9) rfl dX0_lightHere_7 ?_
  refine lv_iconst (v := 0) hx hb dX0_lightHere_10 (by decide) ?_
  refine td_lald hx hb hK hP 3 1 0 rfl rfl rfl (by decide) (by decide) dX0_lightHere_11 ?_
  refine lv_lmul hx hb dX0_lightHere_12 ?_
  refine lv_aload_n hx hb dX0_lightHere_13 rfl (lv_at hl 0 rfl) ?_
  refine va_get (D := (dC, dI)) (ci := 0) (v := .ref aL) (C := RX0) (T := TX0) (N := 5) hx hb hts td_fX0 hown hK hP 0 rfl rfl 3 (by decide) (hts (.fieldLink RX0 21 "TileDesk$Shape" "lights" "[J") (td_i2 (List.mem_of_getElem? (i := 0) rfl))) (fun _ h9 => h9) rfl dX0_lightHere_14 ?_
  refine lv_iconst (v := 0) hx hb dX0_lightHere_17 (by decide) ?_
  refine td_lald hx hb hK hP 4 1 0 rfl rfl rfl (by decide) (by decide) dX0_lightHere_18 ?_
  refine lv_lmul hx hb dX0_lightHere_19 ?_
  refine lv_aload_n hx hb dX0_lightHere_20 rfl (lv_at hl 0 rfl) ?_
  refine va_get (D := (dC, dI)) (ci := 0) (v := .ref aW) (C := RX0) (T := TX0) (N := 5) hx hb hts td_fX0 hown hK hP 0 rfl rfl 4 (by decide) (hts (.fieldLink RX0 24 "TileDesk$Shape" "weights" "[J") (td_i2 (List.mem_of_getElem? (i := 1) rfl))) (fun _ h9 => h9) rfl dX0_lightHere_21 ?_
  refine lv_iconst (v := 1) hx hb dX0_lightHere_24 (by decide) ?_
  refine td_lald hx hb hK hP 5 1 1 rfl rfl rfl (by decide) (by decide) dX0_lightHere_25 ?_
  refine lv_aload_n hx hb dX0_lightHere_26 rfl (lv_at hl 0 rfl) ?_
  refine va_get (D := (dC, dI)) (ci := 0) (v := .ref aR) (C := RX0) (T := TX0) (N := 5) hx hb hts td_fX0 hown hK hP 0 rfl rfl 2 (by decide) (hts (.fieldLink RX0 18 "TileDesk$Shape" "rs" "[J") (td_i1 (List.mem_of_getElem? (i := 23) rfl))) (fun _ h9 => h9) rfl dX0_lightHere_27 ?_
  refine lv_iconst (v := 1) hx hb dX0_lightHere_30 (by decide) ?_
  refine td_lald hx hb hK hP 3 1 1 rfl rfl rfl (by decide) (by decide) dX0_lightHere_31 ?_
  refine lv_lmul hx hb dX0_lightHere_32 ?_
  refine lv_aload_n hx hb dX0_lightHere_33 rfl (lv_at hl 0 rfl) ?_
  refine va_get (D := (dC, dI)) (ci := 0) (v := .ref aL) (C := RX0) (T := TX0) (N := 5) hx hb hts td_fX0 hown hK hP 0 rfl rfl 3 (by decide) (hts (.fieldLink RX0 21 "TileDesk$Shape" "lights" "[J") (td_i2 (List.mem_of_getElem? (i := 0) rfl))) (fun _ h9 => h9) rfl dX0_lightHere_34 ?_
  refine lv_iconst (v := 1) hx hb dX0_lightHere_37 (by decide) ?_
  refine td_lald hx hb hK hP 4 1 1 rfl rfl rfl (by decide) (by decide) dX0_lightHere_38 ?_
  refine lv_lmul hx hb dX0_lightHere_39 ?_
  refine lv_ladd hx hb dX0_lightHere_40 ?_
  refine lv_aload_n hx hb dX0_lightHere_41 rfl (lv_at hl 0 rfl) ?_
  refine va_get (D := (dC, dI)) (ci := 0) (v := .ref aW) (C := RX0) (T := TX0) (N := 5) hx hb hts td_fX0 hown hK hP 0 rfl rfl 4 (by decide) (hts (.fieldLink RX0 24 "TileDesk$Shape" "weights" "[J") (td_i2 (List.mem_of_getElem? (i := 1) rfl))) (fun _ h9 => h9) rfl dX0_lightHere_42 ?_
  refine lv_iconst (v := 2) hx hb dX0_lightHere_45 (by decide) ?_
  refine td_lald hx hb hK hP 5 1 2 rfl rfl rfl (by decide) (by decide) dX0_lightHere_46 ?_
  refine lv_aload_n hx hb dX0_lightHere_47 rfl (lv_at hl 0 rfl) ?_
  refine va_get (D := (dC, dI)) (ci := 0) (v := .ref aR) (C := RX0) (T := TX0) (N := 5) hx hb hts td_fX0 hown hK hP 0 rfl rfl 2 (by decide) (hts (.fieldLink RX0 18 "TileDesk$Shape" "rs" "[J") (td_i1 (List.mem_of_getElem? (i := 23) rfl))) (fun _ h9 => h9) rfl dX0_lightHere_48 ?_
  refine lv_iconst (v := 2) hx hb dX0_lightHere_51 (by decide) ?_
  refine td_lald hx hb hK hP 3 1 2 rfl rfl rfl (by decide) (by decide) dX0_lightHere_52 ?_
  refine lv_lmul hx hb dX0_lightHere_53 ?_
  refine lv_aload_n hx hb dX0_lightHere_54 rfl (lv_at hl 0 rfl) ?_
  refine va_get (D := (dC, dI)) (ci := 0) (v := .ref aL) (C := RX0) (T := TX0) (N := 5) hx hb hts td_fX0 hown hK hP 0 rfl rfl 3 (by decide) (hts (.fieldLink RX0 21 "TileDesk$Shape" "lights" "[J") (td_i2 (List.mem_of_getElem? (i := 0) rfl))) (fun _ h9 => h9) rfl dX0_lightHere_55 ?_
  refine lv_iconst (v := 2) hx hb dX0_lightHere_58 (by decide) ?_
  refine td_lald hx hb hK hP 4 1 2 rfl rfl rfl (by decide) (by decide) dX0_lightHere_59 ?_
  refine lv_lmul hx hb dX0_lightHere_60 ?_
  refine lv_ladd hx hb dX0_lightHere_61 ?_
  refine lv_lstore_n (lv' := [(1, .long (((((vW 0) * (vR 0)) * (vL 0)) + (((vW 1) * (vR 1)) * (vL 1))) + (((vW 2) * (vR 2)) * (vL 2)))), (0, .ref qS)]) hx hb dX0_lightHere_62 rfl hl (by decide) rfl (fun ls hl => ?_)
  refine lv_lload_n hx hb dX0_lightHere_63 rfl (lv_at hl 0 rfl) ?_
  refine lv_aload_n hx hb dX0_lightHere_64 rfl (lv_at hl 1 rfl) ?_
  refine td_csl (va_runV (As := []) (rest := [.long (((((vW 0) * (vR 0)) * (vL 0)) + (((vW 1) * (vR 1)) * (vL 1))) + (((vW 2) * (vR 2)) * (vL 2)))]) ⟨hx, hb, hml, hown, hts⟩ (td_weighedR l dC dI cI cJ cZ qS aX aY aR aL aW vX vY vR vL vW) (cwV 0 hts (td_gV (td_i10 (List.mem_of_getElem? (i := 6) rfl)) (td_i10 (List.mem_of_getElem? (i := 7) rfl)) (td_i15 (List.mem_of_getElem? (i := 15) rfl)) (td_i1 (List.mem_of_getElem? (i := 2) rfl)) (td_i10 (List.mem_of_getElem? (i := 8) rfl))) rfl rfl rfl (by decide +kernel) ⟨(Nat.le_of_ble_eq_true rfl), (Nat.le_of_ble_eq_true rfl)⟩) (td_pRV hK hZ hP [0, 1, 2, 3, 4, 5] rfl (va_recv hK hP (ci := 0) (q0 := 0) rfl rfl)) rfl rfl hl.1 rfl (lv_room (Nat.le_of_ble_eq_true rfl)) dX0_lightHere_65 ⟨Nat.zero_le _, Nat.zero_le _⟩) ?_
  refine td_csl (va_runSN (As := [.long (((((vW 0) * (vR 0)) * (vL 0)) + (((vW 1) * (vR 1)) * (vL 1))) + (((vW 2) * (vR 2)) * (vL 2))), .long (td_wr vW vR)]) (rest := []) ⟨hx, hb, hml, hown, hts⟩ (td_quotient l dC dI cI cJ cZ (((((vW 0) * (vR 0)) * (vL 0)) + (((vW 1) * (vR 1)) * (vL 1))) + (((vW 2) * (vR 2)) * (vL 2))) (td_wr vW vR)) (⟨va_cnB 2 hts (td_gC (td_i7 (List.mem_of_getElem? (i := 3) rfl))) rfl rfl rfl (hZ.2 _ (List.mem_of_getElem? (i := 15) rfl)) (hts (.initialized RX3) (td_i1 (List.mem_of_getElem? (i := 1) rfl))) (by decide +kernel) ⟨(Nat.le_of_ble_eq_true rfl), (Nat.le_of_ble_eq_true rfl)⟩, (hts (.static yX3_quotient) (td_i7 (List.mem_of_getElem? (i := 2) rfl))), trivial⟩) (td_pRS hK hZ hP [] rfl) rfl rfl hl.1 rfl (lv_room (Nat.le_of_ble_eq_true rfl)) dX0_lightHere_68 ⟨Nat.zero_le _, Nat.zero_le _⟩) ?_
  exact td_rrl hx hb hr hlocks (rfl) dX0_lightHere_71
set_option maxHeartbeats 4000000 in
set_option maxRecDepth 100000 in
/-- Shape.least -/
theorem td_least (l : Launch) (dC : Nat → ClassId) (dI : Nat → Nat → Nat) (cI cJ cZ : ClassId) (aX : Nat) (vX : Nat → Int64) : Met l yX0_least wsX0_least ({ frames := 1, cells := 0, slots := 0, locals := 17 }) (td_RP (dC, dI) vwCl (td_T cI cJ cZ) td_nl [(aX, .inl (cJ, 3, .inr (.inl vX)))] [.ref aX]) (vp_Sl (fun r => r = td_mn vX)) 0 0 (fun _ => False) := by
  refine Met.ofW (cc := cX0_least) (maxL := 1) (ret := (some .long)) (by decide) rfl ?_
  intro p e s m args below meth c s₁ B hml hv
  obtain ⟨rfl, hP, hK, hZ⟩ := hv
  have hx := B.exec
  have hb := B.bytes
  have hr := B.returns
  have hts := atoms_spec (ws := wsX0_least) B.pre
  have hown : s.vm.findClass RX0 = some m.cls := findClass_of_methodNamed B.named
  have hlocks := B.notSynchronized
  have hP : va_P (dC, dI) vwCl [(aX, .inl (cJ, 3, .inr (.inl vX)))] s.heap := hP
  have hl := lv_entry ([.ref aX]) (n := 1) (Nat.le_of_ble_eq_true rfl)
  rw [lg_entry_eq]
  generalize (lg_sl ([.ref aX]) ++ List.replicate (1 - (lg_sl ([.ref aX])).length) Slot.unset).toArray = ls at hl ⊢
  have hl : lv_has ls 1 [(0, .ref aX)] := hl
  refine lv_aload_n hx hb dX0_least_0 rfl (lv_at hl 0 rfl) ?_
  refine lv_iconst (v := 0) hx hb dX0_least_1 (by decide) ?_
  refine td_lald hx hb hK hP 0 1 0 rfl rfl rfl (by decide) (by decide) dX0_least_2 ?_
  refine lv_aload_n hx hb dX0_least_3 rfl (lv_at hl 0 rfl) ?_
  refine lv_iconst (v := 1) hx hb dX0_least_4 (by decide) ?_
  refine td_lald hx hb hK hP 0 1 1 rfl rfl rfl (by decide) (by decide) dX0_least_5 ?_
  refine lv_aload_n hx hb dX0_least_6 rfl (lv_at hl 0 rfl) ?_
  refine lv_iconst (v := 2) hx hb dX0_least_7 (by decide) ?_
  refine td_lald hx hb hK hP 0 1 2 rfl rfl rfl (by decide) (by decide) dX0_least_8 ?_
  refine va_mmin_long hx hb (by rw [hml]; exact hl.1.symm) hown (hts _ (td_i8 (List.mem_of_getElem? (i := 10) rfl))) (hts _ (td_i8 (List.mem_of_getElem? (i := 11) rfl))) (hts _ (td_i1 (List.mem_of_getElem? (i := 5) rfl))) (hts _ (td_i8 (List.mem_of_getElem? (i := 12) rfl))) (Nat.le_of_ble_eq_true rfl) (Nat.le_of_ble_eq_true rfl) (Nat.zero_le _) (Nat.zero_le _) dX0_least_9 ?_
  refine va_mmin_long hx hb (by rw [hml]; exact hl.1.symm) hown (hts _ (td_i8 (List.mem_of_getElem? (i := 10) rfl))) (hts _ (td_i8 (List.mem_of_getElem? (i := 11) rfl))) (hts _ (td_i1 (List.mem_of_getElem? (i := 5) rfl))) (hts _ (td_i8 (List.mem_of_getElem? (i := 12) rfl))) (Nat.le_of_ble_eq_true rfl) (Nat.le_of_ble_eq_true rfl) (Nat.zero_le _) (Nat.zero_le _) dX0_least_12 ?_
  exact td_rrl hx hb hr hlocks (rfl) dX0_least_15
set_option maxHeartbeats 4000000 in
set_option maxRecDepth 100000 in
/-- Shape.most -/
theorem td_most (l : Launch) (dC : Nat → ClassId) (dI : Nat → Nat → Nat) (cI cJ cZ : ClassId) (aX : Nat) (vX : Nat → Int64) : Met l yX0_most wsX0_most ({ frames := 1, cells := 0, slots := 0, locals := 17 }) (td_RP (dC, dI) vwCl (td_T cI cJ cZ) td_nl [(aX, .inl (cJ, 3, .inr (.inl vX)))] [.ref aX]) (vp_Sl (fun r => r = td_mxx vX)) 0 0 (fun _ => False) := by
  refine Met.ofW (cc := cX0_most) (maxL := 1) (ret := (some .long)) (by decide) rfl ?_
  intro p e s m args below meth c s₁ B hml hv
  obtain ⟨rfl, hP, hK, hZ⟩ := hv
  have hx := B.exec
  have hb := B.bytes
  have hr := B.returns
  have hts := atoms_spec (ws := wsX0_most) B.pre
  have hown : s.vm.findClass RX0 = some m.cls := findClass_of_methodNamed B.named
  have hlocks := B.notSynchronized
  have hP : va_P (dC, dI) vwCl [(aX, .inl (cJ, 3, .inr (.inl vX)))] s.heap := hP
  have hl := lv_entry ([.ref aX]) (n := 1) (Nat.le_of_ble_eq_true rfl)
  rw [lg_entry_eq]
  generalize (lg_sl ([.ref aX]) ++ List.replicate (1 - (lg_sl ([.ref aX])).length) Slot.unset).toArray = ls at hl ⊢
  have hl : lv_has ls 1 [(0, .ref aX)] := hl
  refine lv_aload_n hx hb dX0_most_0 rfl (lv_at hl 0 rfl) ?_
  refine lv_iconst (v := 0) hx hb dX0_most_1 (by decide) ?_
  refine td_lald hx hb hK hP 0 1 0 rfl rfl rfl (by decide) (by decide) dX0_most_2 ?_
  refine lv_aload_n hx hb dX0_most_3 rfl (lv_at hl 0 rfl) ?_
  refine lv_iconst (v := 1) hx hb dX0_most_4 (by decide) ?_
  refine td_lald hx hb hK hP 0 1 1 rfl rfl rfl (by decide) (by decide) dX0_most_5 ?_
  refine lv_aload_n hx hb dX0_most_6 rfl (lv_at hl 0 rfl) ?_
  refine lv_iconst (v := 2) hx hb dX0_most_7 (by decide) ?_
  refine td_lald hx hb hK hP 0 1 2 rfl rfl rfl (by decide) (by decide) dX0_most_8 ?_
  refine va_mmax_long hx hb (by rw [hml]; exact hl.1.symm) hown (hts _ (td_i9 (List.mem_of_getElem? (i := 2) rfl))) (hts _ (td_i9 (List.mem_of_getElem? (i := 3) rfl))) (hts _ (td_i1 (List.mem_of_getElem? (i := 5) rfl))) (hts _ (td_i9 (List.mem_of_getElem? (i := 4) rfl))) (Nat.le_of_ble_eq_true rfl) (Nat.le_of_ble_eq_true rfl) (Nat.zero_le _) (Nat.zero_le _) dX0_most_9 ?_
  refine va_mmax_long hx hb (by rw [hml]; exact hl.1.symm) hown (hts _ (td_i9 (List.mem_of_getElem? (i := 2) rfl))) (hts _ (td_i9 (List.mem_of_getElem? (i := 3) rfl))) (hts _ (td_i1 (List.mem_of_getElem? (i := 5) rfl))) (hts _ (td_i9 (List.mem_of_getElem? (i := 4) rfl))) (Nat.le_of_ble_eq_true rfl) (Nat.le_of_ble_eq_true rfl) (Nat.zero_le _) (Nat.zero_le _) dX0_most_12 ?_
  exact td_rrl hx hb hr hlocks (rfl) dX0_most_15
set_option maxHeartbeats 4000000 in
set_option maxRecDepth 100000 in
/-- Shape.firstMiddle -/
theorem td_firstMiddle (l : Launch) (dC : Nat → ClassId) (dI : Nat → Nat → Nat) (cI cJ cZ : ClassId) (pl : Int64) : Met l yX0_firstMiddle wsX0_firstMiddle ({ frames := 2, cells := 0, slots := 0, locals := 48 }) (td_RP (dC, dI) vwCl (td_T cI cJ cZ) td_nl [] [.long pl]) (vp_Si (fun r => r = td_fm pl)) 0 0 (fun _ => False) := by
  refine Met.ofW (cc := cX0_firstMiddle) (maxL := 2) (ret := (some .int)) (by decide) rfl ?_
  intro p e s m args below meth c s₁ B hml hv
  obtain ⟨rfl, hP, hK, hZ⟩ := hv
  have hx := B.exec
  have hb := B.bytes
  have hr := B.returns
  have hts := atoms_spec (ws := wsX0_firstMiddle) B.pre
  have hown : s.vm.findClass RX0 = some m.cls := findClass_of_methodNamed B.named
  have hlocks := B.notSynchronized
  have hP : va_P (dC, dI) vwCl [] s.heap := hP
  have hl := lv_entry ([.long pl]) (n := 2) (Nat.le_of_ble_eq_true rfl)
  rw [lg_entry_eq]
  generalize (lg_sl ([.long pl]) ++ List.replicate (2 - (lg_sl ([.long pl])).length) Slot.unset).toArray = ls at hl ⊢
  have hl : lv_has ls 2 [(0, .long pl)] := hl
  refine lv_lload_n hx hb dX0_firstMiddle_0 rfl (lv_at hl 0 rfl) ?_
  refine lv_ldc2 (own := RX0) (v := 8) hx hb hown (hts (.constantLong RX0 76 8) (td_i8 (List.mem_of_getElem? (i := 16) rfl))) dX0_firstMiddle_1 ?_
  refine lv_lsub hx hb dX0_firstMiddle_4 ?_
  refine lv_ldc2 (own := RX0) (v := 16) hx hb hown (hts (.constantLong RX0 78 16) (td_i8 (List.mem_of_getElem? (i := 17) rfl))) dX0_firstMiddle_5 ?_
  refine lv_ladd hx hb dX0_firstMiddle_8 ?_
  refine lv_lconst (v := 1) hx hb dX0_firstMiddle_9 (by decide) ?_
  refine lv_lsub hx hb dX0_firstMiddle_10 ?_
  refine lv_ldc2 (own := RX0) (v := 16) hx hb hown (hts (.constantLong RX0 78 16) (td_i8 (List.mem_of_getElem? (i := 17) rfl))) dX0_firstMiddle_11 ?_
  refine td_csl (va_runSN (As := [.long (((pl - 8) + 16) - 1), .long 16]) (rest := []) ⟨hx, hb, hml, hown, hts⟩ (td_quotient l dC dI cI cJ cZ (((pl - 8) + 16) - 1) 16) (⟨va_cnB 2 hts (td_gC (td_i7 (List.mem_of_getElem? (i := 3) rfl))) rfl rfl rfl (hZ.2 _ (List.mem_of_getElem? (i := 15) rfl)) (hts (.initialized RX3) (td_i1 (List.mem_of_getElem? (i := 1) rfl))) (by decide +kernel) ⟨(Nat.le_of_ble_eq_true rfl), (Nat.le_of_ble_eq_true rfl)⟩, (hts (.static yX3_quotient) (td_i7 (List.mem_of_getElem? (i := 2) rfl))), trivial⟩) (td_pRS hK hZ hP [] rfl) rfl rfl hl.1 rfl (lv_room (Nat.le_of_ble_eq_true rfl)) dX0_firstMiddle_14 ⟨Nat.zero_le _, Nat.zero_le _⟩) ?_
  refine lv_l2i (v := (td_q (((pl - 8) + 16) - 1) 16).toInt32) hx hb dX0_firstMiddle_17 rfl ?_
  exact td_rri hx hb hr rfl hlocks (rfl) dX0_firstMiddle_18
set_option maxHeartbeats 4000000 in
set_option maxRecDepth 100000 in
/-- Shape.lastMiddle -/
theorem td_lastMiddle (l : Launch) (dC : Nat → ClassId) (dI : Nat → Nat → Nat) (cI cJ cZ : ClassId) (pl : Int64) : Met l yX0_lastMiddle wsX0_lastMiddle ({ frames := 2, cells := 0, slots := 0, locals := 48 }) (td_RP (dC, dI) vwCl (td_T cI cJ cZ) td_nl [] [.long pl]) (vp_Si (fun r => r = td_lm pl)) 0 0 (fun _ => False) := by
  refine Met.ofW (cc := cX0_lastMiddle) (maxL := 2) (ret := (some .int)) (by decide) rfl ?_
  intro p e s m args below meth c s₁ B hml hv
  obtain ⟨rfl, hP, hK, hZ⟩ := hv
  have hx := B.exec
  have hb := B.bytes
  have hr := B.returns
  have hts := atoms_spec (ws := wsX0_lastMiddle) B.pre
  have hown : s.vm.findClass RX0 = some m.cls := findClass_of_methodNamed B.named
  have hlocks := B.notSynchronized
  have hP : va_P (dC, dI) vwCl [] s.heap := hP
  have hl := lv_entry ([.long pl]) (n := 2) (Nat.le_of_ble_eq_true rfl)
  rw [lg_entry_eq]
  generalize (lg_sl ([.long pl]) ++ List.replicate (2 - (lg_sl ([.long pl])).length) Slot.unset).toArray = ls at hl ⊢
  have hl : lv_has ls 2 [(0, .long pl)] := hl
  refine lv_lload_n hx hb dX0_lastMiddle_0 rfl (lv_at hl 0 rfl) ?_
  refine lv_ldc2 (own := RX0) (v := 8) hx hb hown (hts (.constantLong RX0 76 8) (td_i8 (List.mem_of_getElem? (i := 16) rfl))) dX0_lastMiddle_1 ?_
  refine lv_lsub hx hb dX0_lastMiddle_4 ?_
  refine lv_ldc2 (own := RX0) (v := 16) hx hb hown (hts (.constantLong RX0 78 16) (td_i8 (List.mem_of_getElem? (i := 17) rfl))) dX0_lastMiddle_5 ?_
  refine td_csl (va_runSN (As := [.long (pl - 8), .long 16]) (rest := []) ⟨hx, hb, hml, hown, hts⟩ (td_quotient l dC dI cI cJ cZ (pl - 8) 16) (⟨va_cnB 2 hts (td_gC (td_i7 (List.mem_of_getElem? (i := 3) rfl))) rfl rfl rfl (hZ.2 _ (List.mem_of_getElem? (i := 15) rfl)) (hts (.initialized RX3) (td_i1 (List.mem_of_getElem? (i := 1) rfl))) (by decide +kernel) ⟨(Nat.le_of_ble_eq_true rfl), (Nat.le_of_ble_eq_true rfl)⟩, (hts (.static yX3_quotient) (td_i7 (List.mem_of_getElem? (i := 2) rfl))), trivial⟩) (td_pRS hK hZ hP [] rfl) rfl rfl hl.1 rfl (lv_room (Nat.le_of_ble_eq_true rfl)) dX0_lastMiddle_8 ⟨Nat.zero_le _, Nat.zero_le _⟩) ?_
  refine lv_l2i (v := (td_q (pl - 8) 16).toInt32) hx hb dX0_lastMiddle_11 rfl ?_
  exact td_rri hx hb hr rfl hlocks (rfl) dX0_lastMiddle_12
set_option maxHeartbeats 4000000 in
set_option maxRecDepth 100000 in
/-- Shape.firstColumn -/
theorem td_firstColumn (l : Launch) (dC : Nat → ClassId) (dI : Nat → Nat → Nat) (cI cJ cZ : ClassId) (qS : Nat) (aX : Nat) (aY : Nat) (aR : Nat) (aL : Nat) (aW : Nat) (vX : Nat → Int64) (vY : Nat → Int64) (vR : Nat → Int64) (vL : Nat → Int64) (vW : Nat → Int64) : Met l yX0_firstColumn wsX0_firstColumn ({ frames := 3, cells := 0, slots := 0, locals := 69 }) (td_RP (dC, dI) vwCl (td_T cI cJ cZ) td_nl [(qS, .inr (0, [.ref aX, .ref aY, .ref aR, .ref aL, .ref aW])), (aX, .inl (cJ, 3, .inr (.inl vX))), (aY, .inl (cJ, 3, .inr (.inl vY))), (aR, .inl (cJ, 3, .inr (.inl vR))), (aL, .inl (cJ, 3, .inr (.inl vL))), (aW, .inl (cJ, 3, .inr (.inl vW)))] [.ref qS]) (vp_Si (fun r => r = td_fm (td_mn vX))) 0 0 (fun _ => False) := by
  refine Met.ofW (cc := cX0_firstColumn) (maxL := 1) (ret := (some .int)) (by decide) rfl ?_
  intro p e s m args below meth c s₁ B hml hv
  obtain ⟨rfl, hP, hK, hZ⟩ := hv
  have hx := B.exec
  have hb := B.bytes
  have hr := B.returns
  have hts := atoms_spec (ws := wsX0_firstColumn) B.pre
  have hown : s.vm.findClass RX0 = some m.cls := findClass_of_methodNamed B.named
  have hlocks := B.notSynchronized
  have hP : va_P (dC, dI) vwCl [(qS, .inr (0, [.ref aX, .ref aY, .ref aR, .ref aL, .ref aW])), (aX, .inl (cJ, 3, .inr (.inl vX))), (aY, .inl (cJ, 3, .inr (.inl vY))), (aR, .inl (cJ, 3, .inr (.inl vR))), (aL, .inl (cJ, 3, .inr (.inl vL))), (aW, .inl (cJ, 3, .inr (.inl vW)))] s.heap := hP
  have hl := lv_entry ([.ref qS]) (n := 1) (Nat.le_of_ble_eq_true rfl)
  rw [lg_entry_eq]
  generalize (lg_sl ([.ref qS]) ++ List.replicate (1 - (lg_sl ([.ref qS])).length) Slot.unset).toArray = ls at hl ⊢
  have hl : lv_has ls 1 [(0, .ref qS)] := hl
  refine lv_aload_n hx hb dX0_firstColumn_0 rfl (lv_at hl 0 rfl) ?_
  refine va_get (D := (dC, dI)) (ci := 0) (v := .ref aX) (C := RX0) (T := TX0) (N := 5) hx hb hts td_fX0 hown hK hP 0 rfl rfl 0 (by decide) (hts (.fieldLink RX0 9 "TileDesk$Shape" "xs" "[J") (td_i1 (List.mem_of_getElem? (i := 21) rfl))) (fun _ h9 => h9) rfl dX0_firstColumn_1 ?_
  refine td_csl (va_runS (As := [.ref aX]) (rest := []) ⟨hx, hb, hml, hown, hts⟩ (td_least l dC dI cI cJ cZ aX vX) (va_cwS 1 hts (td_gS (td_i8 (List.mem_of_getElem? (i := 7) rfl)) (td_i8 (List.mem_of_getElem? (i := 8) rfl)) (td_i1 (List.mem_of_getElem? (i := 2) rfl)) (td_i8 (List.mem_of_getElem? (i := 9) rfl))) rfl rfl rfl (by decide +kernel) ⟨(Nat.le_of_ble_eq_true rfl), (Nat.le_of_ble_eq_true rfl)⟩) (td_pRS hK hZ hP [1] rfl) rfl rfl hl.1 rfl (lv_room (Nat.le_of_ble_eq_true rfl)) dX0_firstColumn_4 ⟨Nat.zero_le _, Nat.zero_le _⟩) ?_
  refine td_csi (va_runS (As := [.long (td_mn vX)]) (rest := []) ⟨hx, hb, hml, hown, hts⟩ (td_firstMiddle l dC dI cI cJ cZ (td_mn vX)) (va_cwS 1 hts (td_gS (td_i8 (List.mem_of_getElem? (i := 13) rfl)) (td_i8 (List.mem_of_getElem? (i := 14) rfl)) (td_i1 (List.mem_of_getElem? (i := 2) rfl)) (td_i8 (List.mem_of_getElem? (i := 15) rfl))) rfl rfl rfl (by decide +kernel) ⟨(Nat.le_of_ble_eq_true rfl), (Nat.le_of_ble_eq_true rfl)⟩) (td_pRS hK hZ hP [] rfl) rfl rfl hl.1 rfl (lv_room (Nat.le_of_ble_eq_true rfl)) dX0_firstColumn_7 ⟨Nat.zero_le _, Nat.zero_le _⟩) ?_
  exact td_rri hx hb hr rfl hlocks (rfl) dX0_firstColumn_10
set_option maxHeartbeats 4000000 in
set_option maxRecDepth 100000 in
/-- Shape.lastColumn -/
theorem td_lastColumn (l : Launch) (dC : Nat → ClassId) (dI : Nat → Nat → Nat) (cI cJ cZ : ClassId) (qS : Nat) (aX : Nat) (aY : Nat) (aR : Nat) (aL : Nat) (aW : Nat) (vX : Nat → Int64) (vY : Nat → Int64) (vR : Nat → Int64) (vL : Nat → Int64) (vW : Nat → Int64) : Met l yX0_lastColumn wsX0_lastColumn ({ frames := 3, cells := 0, slots := 0, locals := 69 }) (td_RP (dC, dI) vwCl (td_T cI cJ cZ) td_nl [(qS, .inr (0, [.ref aX, .ref aY, .ref aR, .ref aL, .ref aW])), (aX, .inl (cJ, 3, .inr (.inl vX))), (aY, .inl (cJ, 3, .inr (.inl vY))), (aR, .inl (cJ, 3, .inr (.inl vR))), (aL, .inl (cJ, 3, .inr (.inl vL))), (aW, .inl (cJ, 3, .inr (.inl vW)))] [.ref qS]) (vp_Si (fun r => r = td_lm (td_mxx vX))) 0 0 (fun _ => False) := by
  refine Met.ofW (cc := cX0_lastColumn) (maxL := 1) (ret := (some .int)) (by decide) rfl ?_
  intro p e s m args below meth c s₁ B hml hv
  obtain ⟨rfl, hP, hK, hZ⟩ := hv
  have hx := B.exec
  have hb := B.bytes
  have hr := B.returns
  have hts := atoms_spec (ws := wsX0_lastColumn) B.pre
  have hown : s.vm.findClass RX0 = some m.cls := findClass_of_methodNamed B.named
  have hlocks := B.notSynchronized
  have hP : va_P (dC, dI) vwCl [(qS, .inr (0, [.ref aX, .ref aY, .ref aR, .ref aL, .ref aW])), (aX, .inl (cJ, 3, .inr (.inl vX))), (aY, .inl (cJ, 3, .inr (.inl vY))), (aR, .inl (cJ, 3, .inr (.inl vR))), (aL, .inl (cJ, 3, .inr (.inl vL))), (aW, .inl (cJ, 3, .inr (.inl vW)))] s.heap := hP
  have hl := lv_entry ([.ref qS]) (n := 1) (Nat.le_of_ble_eq_true rfl)
  rw [lg_entry_eq]
  generalize (lg_sl ([.ref qS]) ++ List.replicate (1 - (lg_sl ([.ref qS])).length) Slot.unset).toArray = ls at hl ⊢
  have hl : lv_has ls 1 [(0, .ref qS)] := hl
  refine lv_aload_n hx hb dX0_lastColumn_0 rfl (lv_at hl 0 rfl) ?_
  refine va_get (D := (dC, dI)) (ci := 0) (v := .ref aX) (C := RX0) (T := TX0) (N := 5) hx hb hts td_fX0 hown hK hP 0 rfl rfl 0 (by decide) (hts (.fieldLink RX0 9 "TileDesk$Shape" "xs" "[J") (td_i1 (List.mem_of_getElem? (i := 21) rfl))) (fun _ h9 => h9) rfl dX0_lastColumn_1 ?_
  refine td_csl (va_runS (As := [.ref aX]) (rest := []) ⟨hx, hb, hml, hown, hts⟩ (td_most l dC dI cI cJ cZ aX vX) (va_cwS 1 hts (td_gS (td_i8 (List.mem_of_getElem? (i := 23) rfl)) (td_i9 (List.mem_of_getElem? (i := 0) rfl)) (td_i1 (List.mem_of_getElem? (i := 2) rfl)) (td_i9 (List.mem_of_getElem? (i := 1) rfl))) rfl rfl rfl (by decide +kernel) ⟨(Nat.le_of_ble_eq_true rfl), (Nat.le_of_ble_eq_true rfl)⟩) (td_pRS hK hZ hP [1] rfl) rfl rfl hl.1 rfl (lv_room (Nat.le_of_ble_eq_true rfl)) dX0_lastColumn_4 ⟨Nat.zero_le _, Nat.zero_le _⟩) ?_
  refine td_csi (va_runS (As := [.long (td_mxx vX)]) (rest := []) ⟨hx, hb, hml, hown, hts⟩ (td_lastMiddle l dC dI cI cJ cZ (td_mxx vX)) (va_cwS 1 hts (td_gS (td_i9 (List.mem_of_getElem? (i := 5) rfl)) (td_i9 (List.mem_of_getElem? (i := 6) rfl)) (td_i1 (List.mem_of_getElem? (i := 2) rfl)) (td_i9 (List.mem_of_getElem? (i := 7) rfl))) rfl rfl rfl (by decide +kernel) ⟨(Nat.le_of_ble_eq_true rfl), (Nat.le_of_ble_eq_true rfl)⟩) (td_pRS hK hZ hP [] rfl) rfl rfl hl.1 rfl (lv_room (Nat.le_of_ble_eq_true rfl)) dX0_lastColumn_7 ⟨Nat.zero_le _, Nat.zero_le _⟩) ?_
  exact td_rri hx hb hr rfl hlocks (rfl) dX0_lastColumn_10
set_option maxHeartbeats 4000000 in
set_option maxRecDepth 100000 in
/-- Shape.firstRow -/
theorem td_firstRow (l : Launch) (dC : Nat → ClassId) (dI : Nat → Nat → Nat) (cI cJ cZ : ClassId) (qS : Nat) (aX : Nat) (aY : Nat) (aR : Nat) (aL : Nat) (aW : Nat) (vX : Nat → Int64) (vY : Nat → Int64) (vR : Nat → Int64) (vL : Nat → Int64) (vW : Nat → Int64) : Met l yX0_firstRow wsX0_firstRow ({ frames := 3, cells := 0, slots := 0, locals := 69 }) (td_RP (dC, dI) vwCl (td_T cI cJ cZ) td_nl [(qS, .inr (0, [.ref aX, .ref aY, .ref aR, .ref aL, .ref aW])), (aX, .inl (cJ, 3, .inr (.inl vX))), (aY, .inl (cJ, 3, .inr (.inl vY))), (aR, .inl (cJ, 3, .inr (.inl vR))), (aL, .inl (cJ, 3, .inr (.inl vL))), (aW, .inl (cJ, 3, .inr (.inl vW)))] [.ref qS]) (vp_Si (fun r => r = td_fm (td_mn vY))) 0 0 (fun _ => False) := by
  refine Met.ofW (cc := cX0_firstRow) (maxL := 1) (ret := (some .int)) (by decide) rfl ?_
  intro p e s m args below meth c s₁ B hml hv
  obtain ⟨rfl, hP, hK, hZ⟩ := hv
  have hx := B.exec
  have hb := B.bytes
  have hr := B.returns
  have hts := atoms_spec (ws := wsX0_firstRow) B.pre
  have hown : s.vm.findClass RX0 = some m.cls := findClass_of_methodNamed B.named
  have hlocks := B.notSynchronized
  have hP : va_P (dC, dI) vwCl [(qS, .inr (0, [.ref aX, .ref aY, .ref aR, .ref aL, .ref aW])), (aX, .inl (cJ, 3, .inr (.inl vX))), (aY, .inl (cJ, 3, .inr (.inl vY))), (aR, .inl (cJ, 3, .inr (.inl vR))), (aL, .inl (cJ, 3, .inr (.inl vL))), (aW, .inl (cJ, 3, .inr (.inl vW)))] s.heap := hP
  have hl := lv_entry ([.ref qS]) (n := 1) (Nat.le_of_ble_eq_true rfl)
  rw [lg_entry_eq]
  generalize (lg_sl ([.ref qS]) ++ List.replicate (1 - (lg_sl ([.ref qS])).length) Slot.unset).toArray = ls at hl ⊢
  have hl : lv_has ls 1 [(0, .ref qS)] := hl
  refine lv_aload_n hx hb dX0_firstRow_0 rfl (lv_at hl 0 rfl) ?_
  refine va_get (D := (dC, dI)) (ci := 0) (v := .ref aY) (C := RX0) (T := TX0) (N := 5) hx hb hts td_fX0 hown hK hP 0 rfl rfl 1 (by decide) (hts (.fieldLink RX0 15 "TileDesk$Shape" "ys" "[J") (td_i1 (List.mem_of_getElem? (i := 22) rfl))) (fun _ h9 => h9) rfl dX0_firstRow_1 ?_
  refine td_csl (va_runS (As := [.ref aY]) (rest := []) ⟨hx, hb, hml, hown, hts⟩ (td_least l dC dI cI cJ cZ aY vY) (va_cwS 1 hts (td_gS (td_i8 (List.mem_of_getElem? (i := 7) rfl)) (td_i8 (List.mem_of_getElem? (i := 8) rfl)) (td_i1 (List.mem_of_getElem? (i := 2) rfl)) (td_i8 (List.mem_of_getElem? (i := 9) rfl))) rfl rfl rfl (by decide +kernel) ⟨(Nat.le_of_ble_eq_true rfl), (Nat.le_of_ble_eq_true rfl)⟩) (td_pRS hK hZ hP [2] rfl) rfl rfl hl.1 rfl (lv_room (Nat.le_of_ble_eq_true rfl)) dX0_firstRow_4 ⟨Nat.zero_le _, Nat.zero_le _⟩) ?_
  refine td_csi (va_runS (As := [.long (td_mn vY)]) (rest := []) ⟨hx, hb, hml, hown, hts⟩ (td_firstMiddle l dC dI cI cJ cZ (td_mn vY)) (va_cwS 1 hts (td_gS (td_i8 (List.mem_of_getElem? (i := 13) rfl)) (td_i8 (List.mem_of_getElem? (i := 14) rfl)) (td_i1 (List.mem_of_getElem? (i := 2) rfl)) (td_i8 (List.mem_of_getElem? (i := 15) rfl))) rfl rfl rfl (by decide +kernel) ⟨(Nat.le_of_ble_eq_true rfl), (Nat.le_of_ble_eq_true rfl)⟩) (td_pRS hK hZ hP [] rfl) rfl rfl hl.1 rfl (lv_room (Nat.le_of_ble_eq_true rfl)) dX0_firstRow_7 ⟨Nat.zero_le _, Nat.zero_le _⟩) ?_
  exact td_rri hx hb hr rfl hlocks (rfl) dX0_firstRow_10
set_option maxHeartbeats 4000000 in
set_option maxRecDepth 100000 in
/-- Shape.lastRow -/
theorem td_lastRow (l : Launch) (dC : Nat → ClassId) (dI : Nat → Nat → Nat) (cI cJ cZ : ClassId) (qS : Nat) (aX : Nat) (aY : Nat) (aR : Nat) (aL : Nat) (aW : Nat) (vX : Nat → Int64) (vY : Nat → Int64) (vR : Nat → Int64) (vL : Nat → Int64) (vW : Nat → Int64) : Met l yX0_lastRow wsX0_lastRow ({ frames := 3, cells := 0, slots := 0, locals := 69 }) (td_RP (dC, dI) vwCl (td_T cI cJ cZ) td_nl [(qS, .inr (0, [.ref aX, .ref aY, .ref aR, .ref aL, .ref aW])), (aX, .inl (cJ, 3, .inr (.inl vX))), (aY, .inl (cJ, 3, .inr (.inl vY))), (aR, .inl (cJ, 3, .inr (.inl vR))), (aL, .inl (cJ, 3, .inr (.inl vL))), (aW, .inl (cJ, 3, .inr (.inl vW)))] [.ref qS]) (vp_Si (fun r => r = td_lm (td_mxx vY))) 0 0 (fun _ => False) := by
  refine Met.ofW (cc := cX0_lastRow) (maxL := 1) (ret := (some .int)) (by decide) rfl ?_
  intro p e s m args below meth c s₁ B hml hv
  obtain ⟨rfl, hP, hK, hZ⟩ := hv
  have hx := B.exec
  have hb := B.bytes
  have hr := B.returns
  have hts := atoms_spec (ws := wsX0_lastRow) B.pre
  have hown : s.vm.findClass RX0 = some m.cls := findClass_of_methodNamed B.named
  have hlocks := B.notSynchronized
  have hP : va_P (dC, dI) vwCl [(qS, .inr (0, [.ref aX, .ref aY, .ref aR, .ref aL, .ref aW])), (aX, .inl (cJ, 3, .inr (.inl vX))), (aY, .inl (cJ, 3, .inr (.inl vY))), (aR, .inl (cJ, 3, .inr (.inl vR))), (aL, .inl (cJ, 3, .inr (.inl vL))), (aW, .inl (cJ, 3, .inr (.inl vW)))] s.heap := hP
  have hl := lv_entry ([.ref qS]) (n := 1) (Nat.le_of_ble_eq_true rfl)
  rw [lg_entry_eq]
  generalize (lg_sl ([.ref qS]) ++ List.replicate (1 - (lg_sl ([.ref qS])).length) Slot.unset).toArray = ls at hl ⊢
  have hl : lv_has ls 1 [(0, .ref qS)] := hl
  refine lv_aload_n hx hb dX0_lastRow_0 rfl (lv_at hl 0 rfl) ?_
  refine va_get (D := (dC, dI)) (ci := 0) (v := .ref aY) (C := RX0) (T := TX0) (N := 5) hx hb hts td_fX0 hown hK hP 0 rfl rfl 1 (by decide) (hts (.fieldLink RX0 15 "TileDesk$Shape" "ys" "[J") (td_i1 (List.mem_of_getElem? (i := 22) rfl))) (fun _ h9 => h9) rfl dX0_lastRow_1 ?_
  refine td_csl (va_runS (As := [.ref aY]) (rest := []) ⟨hx, hb, hml, hown, hts⟩ (td_most l dC dI cI cJ cZ aY vY) (va_cwS 1 hts (td_gS (td_i8 (List.mem_of_getElem? (i := 23) rfl)) (td_i9 (List.mem_of_getElem? (i := 0) rfl)) (td_i1 (List.mem_of_getElem? (i := 2) rfl)) (td_i9 (List.mem_of_getElem? (i := 1) rfl))) rfl rfl rfl (by decide +kernel) ⟨(Nat.le_of_ble_eq_true rfl), (Nat.le_of_ble_eq_true rfl)⟩) (td_pRS hK hZ hP [2] rfl) rfl rfl hl.1 rfl (lv_room (Nat.le_of_ble_eq_true rfl)) dX0_lastRow_4 ⟨Nat.zero_le _, Nat.zero_le _⟩) ?_
  refine td_csi (va_runS (As := [.long (td_mxx vY)]) (rest := []) ⟨hx, hb, hml, hown, hts⟩ (td_lastMiddle l dC dI cI cJ cZ (td_mxx vY)) (va_cwS 1 hts (td_gS (td_i9 (List.mem_of_getElem? (i := 5) rfl)) (td_i9 (List.mem_of_getElem? (i := 6) rfl)) (td_i1 (List.mem_of_getElem? (i := 2) rfl)) (td_i9 (List.mem_of_getElem? (i := 7) rfl))) rfl rfl rfl (by decide +kernel) ⟨(Nat.le_of_ble_eq_true rfl), (Nat.le_of_ble_eq_true rfl)⟩) (td_pRS hK hZ hP [] rfl) rfl rfl hl.1 rfl (lv_room (Nat.le_of_ble_eq_true rfl)) dX0_lastRow_7 ⟨Nat.zero_le _, Nat.zero_le _⟩) ?_
  exact td_rri hx hb hr rfl hlocks (rfl) dX0_lastRow_10
end
section
set_option maxHeartbeats 4000000 in
set_option maxRecDepth 100000 in
/-- Shape.coversPixel -/
theorem td_coversPixel (l : Launch) (dC : Nat → ClassId) (dI : Nat → Nat → Nat) (cI cJ cZ : ClassId) (sz : Nat) (qS : Nat) (aX : Nat) (aY : Nat) (aR : Nat) (aL : Nat) (aW : Nat) (vX : Nat → Int64) (vY : Nat → Int64) (vR : Nat → Int64) (vL : Nat → Int64) (vW : Nat → Int64) (i : Nat) (j : Nat) (hi : i < 48) (hj : j < 48) : Met l yX0_coversPixel wsX0_coversPixel ({ frames := 1, cells := 0, slots := 0, locals := 22 }) (td_WP (dC, dI) vwCl (td_T cI cJ cZ) td_nl [(qS, .inr (0, [.ref aX, .ref aY, .ref aR, .ref aL, .ref aW])), (aX, .inl (cJ, 3, .inr (.inl vX))), (aY, .inl (cJ, 3, .inr (.inl vY))), (aR, .inl (cJ, 3, .inr (.inl vR))), (aL, .inl (cJ, 3, .inr (.inl vL))), (aW, .inl (cJ, 3, .inr (.inl vW)))] sz [.ref qS, .int (nI i), .int (nI j)]) (va_Qi (S := (Nat → Int64)) (fun r u => (r = 1 ∧ td_cc3 vX vY (lN (16 * i + 8)) (lN (16 * j + 8)) ∧ ∀ t, t < 3 → u t = td_ce vX vY t (lN (16 * i + 8)) (lN (16 * j + 8))) ∨ (r = 0 ∧ ¬ td_cc3 vX vY (lN (16 * i + 8)) (lN (16 * j + 8)))) (td_B (dC, dI) vwCl (td_T cI cJ cZ) (va_A [(qS, .inr (0, [.ref aX, .ref aY, .ref aR, .ref aL, .ref aW])), (aX, .inl (cJ, 3, .inr (.inl vX))), (aY, .inl (cJ, 3, .inr (.inl vY))), (aR, .inl (cJ, 3, .inr (.inl vR))), (aL, .inl (cJ, 3, .inr (.inl vL))), (aW, .inl (cJ, 3, .inr (.inl vW)))] sz) (fun (u : (Nat → Int64)) => [(qS, .inr (0, [.ref aX, .ref aY, .ref aR, .ref aL, .ref aW])), (aX, .inl (cJ, 3, .inr (.inl vX))), (aY, .inl (cJ, 3, .inr (.inl vY))), (aR, .inl (cJ, 3, .inr (.inl vR))), (aL, .inl (cJ, 3, .inr (.inl vL))), (aW, .inl (cJ, 3, .inr (.inl u)))])) (va_A [(qS, .inr (0, [.ref aX, .ref aY, .ref aR, .ref aL, .ref aW])), (aX, .inl (cJ, 3, .inr (.inl vX))), (aY, .inl (cJ, 3, .inr (.inl vY))), (aR, .inl (cJ, 3, .inr (.inl vR))), (aL, .inl (cJ, 3, .inr (.inl vL))), (aW, .inl (cJ, 3, .inr (.inl vW)))] sz)) 0 0 (va_A [(qS, .inr (0, [.ref aX, .ref aY, .ref aR, .ref aL, .ref aW])), (aX, .inl (cJ, 3, .inr (.inl vX))), (aY, .inl (cJ, 3, .inr (.inl vY))), (aR, .inl (cJ, 3, .inr (.inl vR))), (aL, .inl (cJ, 3, .inr (.inl vL))), (aW, .inl (cJ, 3, .inr (.inl vW)))] sz) := by
  refine Met.ofW (cc := cX0_coversPixel) (maxL := 12) (ret := (some .boolean)) (by decide) rfl ?_
  intro p e s m args below meth c s₁ B hml hv
  obtain ⟨rfl, hsz, hP, hK, hZ, hD0⟩ := hv
  have hx := B.exec
  have hb := B.bytes
  have hr := B.returns
  have hts := atoms_spec (ws := wsX0_coversPixel) B.pre
  have hown : s.vm.findClass RX0 = some m.cls := findClass_of_methodNamed B.named
  have hlocks := B.notSynchronized
  subst hsz
  have hD := hD0.self (sz := s.heap.size)
  generalize hAe : va_A [(qS, .inr (0, [.ref aX, .ref aY, .ref aR, .ref aL, .ref aW])), (aX, .inl (cJ, 3, .inr (.inl vX))), (aY, .inl (cJ, 3, .inr (.inl vY))), (aR, .inl (cJ, 3, .inr (.inl vR))), (aL, .inl (cJ, 3, .inr (.inl vL))), (aW, .inl (cJ, 3, .inr (.inl vW)))] s.heap.size = A at hD ⊢
  have hA : ∀ q : Nat, s.heap.size ≤ q → A q := fun q h => by rw [← hAe]; exact Or.inr h
  have hS : va_S A s.heap s.heap [] := va_S.rf
  have hP : va_P (dC, dI) vwCl [(qS, .inr (0, [.ref aX, .ref aY, .ref aR, .ref aL, .ref aW])), (aX, .inl (cJ, 3, .inr (.inl vX))), (aY, .inl (cJ, 3, .inr (.inl vY))), (aR, .inl (cJ, 3, .inr (.inl vR))), (aL, .inl (cJ, 3, .inr (.inl vL))), (aW, .inl (cJ, 3, .inr (.inl vW)))] s.heap := hP
  have hl := lv_entry ([.ref qS, .int (nI i), .int (nI j)]) (n := 12) (Nat.le_of_ble_eq_true rfl)
  rw [lg_entry_eq]
  generalize (lg_sl ([.ref qS, .int (nI i), .int (nI j)]) ++ List.replicate (12 - (lg_sl ([.ref qS, .int (nI i), .int (nI j)])).length) Slot.unset).toArray = ls at hl ⊢
  have hl : lv_has ls 12 [(0, .ref qS), (1, .int (nI i)), (2, .int (nI j))] := hl
  refine lv_bipush (v := 16) hx hb dX0_coversPixel_0 (by decide) ?_
  refine lv_iload_n hx hb dX0_coversPixel_2 rfl (lv_at hl 1 rfl) ?_
  refine lv_imul hx hb dX0_coversPixel_3 ?_
  refine td_ti (nI (16 * i)) (pk_mul 16 i) ?_
  refine lv_bipush (v := 8) hx hb dX0_coversPixel_4 (by decide) ?_
  refine lv_iadd hx hb dX0_coversPixel_6 ?_
  refine td_ti (nI (16 * i + 8)) (nI_add (16 * i) 8) ?_
  refine lv_i2l (v := (nI (16 * i + 8)).toInt64) hx hb dX0_coversPixel_7 rfl ?_
  refine td_tl (lN (16 * i + 8)) (nI_l (by omega)) ?_
  refine lv_lstore_n (lv' := [(3, .long (lN (16 * i + 8))), (0, .ref qS), (1, .int (nI i)), (2, .int (nI j))]) hx hb dX0_coversPixel_8 rfl hl (by decide) rfl (fun ls hl => ?_)
  refine lv_bipush (v := 16) hx hb dX0_coversPixel_9 (by decide) ?_
  refine lv_iload_n hx hb dX0_coversPixel_11 rfl (lv_at hl 3 rfl) ?_
  refine lv_imul hx hb dX0_coversPixel_12 ?_
  refine td_ti (nI (16 * j)) (pk_mul 16 j) ?_
  refine lv_bipush (v := 8) hx hb dX0_coversPixel_13 (by decide) ?_
  refine lv_iadd hx hb dX0_coversPixel_15 ?_
  refine td_ti (nI (16 * j + 8)) (nI_add (16 * j) 8) ?_
  refine lv_i2l (v := (nI (16 * j + 8)).toInt64) hx hb dX0_coversPixel_16 rfl ?_
  refine td_tl (lN (16 * j + 8)) (nI_l (by omega)) ?_
  refine lv_lstore (lv' := [(5, .long (lN (16 * j + 8))), (3, .long (lN (16 * i + 8))), (0, .ref qS), (1, .int (nI i)), (2, .int (nI j))]) hx hb dX0_coversPixel_17 hl (by decide) rfl (fun ls hl => ?_)
  refine lv_iconst (v := 0) hx hb dX0_coversPixel_19 (by decide) ?_
  refine lv_istore (lv' := [(7, .int 0), (5, .long (lN (16 * j + 8))), (3, .long (lN (16 * i + 8))), (0, .ref qS), (1, .int (nI i)), (2, .int (nI j))]) hx hb dX0_coversPixel_20 hl (by decide) rfl (fun ls hl => ?_)
  have lp22 : ∀ (n22 : Nat) (k : Nat) (nW : Nat → Int64), (k ≤ 3) → (∀ t, t < k → td_cc vX vY t (lN (16 * i + 8)) (lN (16 * j + 8))) → (∀ t, t < k → nW t = td_ce vX vY t (lN (16 * i + 8)) (lN (16 * j + 8))) → 3 - k < n22 → ∀ (H : Heap) (locs : List Loc), va_P (dC, dI) vwCl [(qS, .inr (0, [.ref aX, .ref aY, .ref aR, .ref aL, .ref aW])), (aX, .inl (cJ, 3, .inr (.inl vX))), (aY, .inl (cJ, 3, .inr (.inl vY))), (aR, .inl (cJ, 3, .inr (.inl vR))), (aL, .inl (cJ, 3, .inr (.inl vL))), (aW, .inl (cJ, 3, .inr (.inl nW)))] H → va_D A [(qS, .inr (0, [.ref aX, .ref aY, .ref aR, .ref aL, .ref aW])), (aX, .inl (cJ, 3, .inr (.inl vX))), (aY, .inl (cJ, 3, .inr (.inl vY))), (aR, .inl (cJ, 3, .inr (.inl vR))), (aL, .inl (cJ, 3, .inr (.inl vL))), (aW, .inl (cJ, 3, .inr (.inl nW)))] → va_S A s.heap H locs → ∀ ls : Array Slot, lv_has ls 12 [(0, .ref qS), (3, .long (lN (16 * i + 8))), (5, .long (lN (16 * j + 8))), (7, .int (nI k))] → W p l e (headSpec wsX0_coversPixel ({ frames := 1, cells := 0, slots := 0, locals := 22 })).room s m (([.ref qS, .int (nI i), .int (nI j)] : List Value).toArray) below meth c H locs 0 0 (MQ below (va_Qi (S := (Nat → Int64)) (fun r u => (r = 1 ∧ td_cc3 vX vY (lN (16 * i + 8)) (lN (16 * j + 8)) ∧ ∀ t, t < 3 → u t = td_ce vX vY t (lN (16 * i + 8)) (lN (16 * j + 8))) ∨ (r = 0 ∧ ¬ td_cc3 vX vY (lN (16 * i + 8)) (lN (16 * j + 8)))) (td_B (dC, dI) vwCl (td_T cI cJ cZ) A (fun (u : (Nat → Int64)) => [(qS, .inr (0, [.ref aX, .ref aY, .ref aR, .ref aL, .ref aW])), (aX, .inl (cJ, 3, .inr (.inl vX))), (aY, .inl (cJ, 3, .inr (.inl vY))), (aR, .inl (cJ, 3, .inr (.inl vR))), (aL, .inl (cJ, 3, .inr (.inl vL))), (aW, .inl (cJ, 3, .inr (.inl u)))])) A) (([.ref qS, .int (nI i), .int (nI j)] : List Value).toArray) s 0 0 A) (F0 m 22 ls []) := by
    intro n22
    induction n22 with
    | zero => intro k nW hk hcv hnw hm; exact absurd hm (Nat.not_lt_zero _)
    | succ n22 ih22 =>
      intro k nW hk hcv hnw hm22 H locs hP hD hS ls hl
      refine lv_iload hx hb dX0_coversPixel_22 (lv_at hl 3 rfl) ?_
      refine lv_iconst (v := 3) hx hb dX0_coversPixel_24 (by decide) ?_
      refine lv_icmp_ge (tgt := 140) hx hb dX0_coversPixel_25 (by decide) (fun c25 => ?_) (fun c25 => ?_)
      · have hk3 : k = 3 := by have := (nI_leI (a := 3) (b := k) (by omega) (by omega)).mp c25; omega
        subst hk3
        refine lv_iconst (v := 1) hx hb dX0_coversPixel_140 (by decide) ?_
        have hP9 := hP.sub (ws' := [(qS, .inr (0, [.ref aX, .ref aY, .ref aR, .ref aL, .ref aW])), (aX, .inl (cJ, 3, .inr (.inl vX))), (aY, .inl (cJ, 3, .inr (.inl vY))), (aR, .inl (cJ, 3, .inr (.inl vR))), (aL, .inl (cJ, 3, .inr (.inl vL))), (aW, .inl (cJ, 3, .inr (.inl nW)))]) [0, 1, 2, 3, 4, 5] rfl
        have hD9 := hD.sub (ws' := [(qS, .inr (0, [.ref aX, .ref aY, .ref aR, .ref aL, .ref aW])), (aX, .inl (cJ, 3, .inr (.inl vX))), (aY, .inl (cJ, 3, .inr (.inl vY))), (aR, .inl (cJ, 3, .inr (.inl vR))), (aL, .inl (cJ, 3, .inr (.inl vL))), (aW, .inl (cJ, 3, .inr (.inl nW)))]) [0, 1, 2, 3, 4, 5] (by decide) rfl
        exact td_rwi nW hx hb hr rfl hlocks hK (Or.inl ⟨rfl, ⟨hcv 0 (by decide), hcv 1 (by decide), hcv 2 (by decide)⟩, hnw⟩) hP9 hD9 hS dX0_coversPixel_141
      · have hk2 : k < 3 := by rcases Nat.lt_or_ge k 3 with h | h; exact h; exact absurd (nI_le h (by omega)) c25
        refine lv_iload hx hb dX0_coversPixel_28 (lv_at hl 3 rfl) ?_
        refine lv_iconst (v := 1) hx hb dX0_coversPixel_30 (by decide) ?_
        refine lv_iadd hx hb dX0_coversPixel_31 ?_
        refine td_ti (nI (k + 1)) (nI_add k 1) ?_
        refine lv_iconst (v := 3) hx hb dX0_coversPixel_32 (by decide) ?_
        refine lv_irem hx hb dX0_coversPixel_33 (by decide) ?_
        refine td_ti (nI ((k + 1) % 3)) (pk_rem (a := k + 1) (d := 3) (by omega) (by omega) (by omega)) ?_
        refine lv_istore (lv' := [(8, .int (nI ((k + 1) % 3))), (0, .ref qS), (3, .long (lN (16 * i + 8))), (5, .long (lN (16 * j + 8))), (7, .int (nI k))]) hx hb dX0_coversPixel_34 hl (by decide) rfl (fun ls hl => ?_)
        refine lv_iload hx hb dX0_coversPixel_36 (lv_at hl 4 rfl) ?_
        refine lv_iconst (v := 2) hx hb dX0_coversPixel_38 (by decide) ?_
        refine lv_iadd hx hb dX0_coversPixel_39 ?_
        refine td_ti (nI (k + 2)) (nI_add k 2) ?_
        refine lv_iconst (v := 3) hx hb dX0_coversPixel_40 (by decide) ?_
        refine lv_irem hx hb dX0_coversPixel_41 (by decide) ?_
        refine td_ti (nI ((k + 2) % 3)) (pk_rem (a := k + 2) (d := 3) (by omega) (by omega) (by omega)) ?_
        refine lv_istore (lv' := [(9, .int (nI ((k + 2) % 3))), (8, .int (nI ((k + 1) % 3))), (0, .ref qS), (3, .long (lN (16 * i + 8))), (5, .long (lN (16 * j + 8))), (7, .int (nI k))]) hx hb dX0_coversPixel_42 hl (by decide) rfl (fun ls hl => ?_)
        refine lv_aload_n hx hb dX0_coversPixel_44 rfl (lv_at hl 2 rfl) ?_
        refine va_get (D := (dC, dI)) (ci := 0) (v := .ref aX) (C := RX0) (T := TX0) (N := 5) hx hb hts td_fX0 hown hK hP 0 rfl rfl 0 (by decide) (hts (.fieldLink RX0 9 "TileDesk$Shape" "xs" "[J") (td_i1 (List.mem_of_getElem? (i := 21) rfl))) (fun _ h9 => h9) rfl dX0_coversPixel_45 ?_
        refine lv_iload hx hb dX0_coversPixel_48 (lv_at hl 0 rfl) ?_
        refine td_lald hx hb hK hP 1 1 ((k + 2) % 3) rfl rfl rfl (by omega) (by decide) dX0_coversPixel_50 ?_
        refine lv_aload_n hx hb dX0_coversPixel_51 rfl (lv_at hl 2 rfl) ?_
        refine va_get (D := (dC, dI)) (ci := 0) (v := .ref aX) (C := RX0) (T := TX0) (N := 5) hx hb hts td_fX0 hown hK hP 0 rfl rfl 0 (by decide) (hts (.fieldLink RX0 9 "TileDesk$Shape" "xs" "[J") (td_i1 (List.mem_of_getElem? (i := 21) rfl))) (fun _ h9 => h9) rfl dX0_coversPixel_52 ?_
        refine lv_iload hx hb dX0_coversPixel_55 (lv_at hl 1 rfl) ?_
        refine td_lald hx hb hK hP 1 1 ((k + 1) % 3) rfl rfl rfl (by omega) (by decide) dX0_coversPixel_57 ?_
        refine lv_lsub hx hb dX0_coversPixel_58 ?_
        refine lv_lload hx hb dX0_coversPixel_59 (lv_at hl 4 rfl) ?_
        refine lv_aload_n hx hb dX0_coversPixel_61 rfl (lv_at hl 2 rfl) ?_
        refine va_get (D := (dC, dI)) (ci := 0) (v := .ref aY) (C := RX0) (T := TX0) (N := 5) hx hb hts td_fX0 hown hK hP 0 rfl rfl 1 (by decide) (hts (.fieldLink RX0 15 "TileDesk$Shape" "ys" "[J") (td_i1 (List.mem_of_getElem? (i := 22) rfl))) (fun _ h9 => h9) rfl dX0_coversPixel_62 ?_
        refine lv_iload hx hb dX0_coversPixel_65 (lv_at hl 1 rfl) ?_
        refine td_lald hx hb hK hP 2 1 ((k + 1) % 3) rfl rfl rfl (by omega) (by decide) dX0_coversPixel_67 ?_
        refine lv_lsub hx hb dX0_coversPixel_68 ?_
        refine lv_lmul hx hb dX0_coversPixel_69 ?_
        refine lv_aload_n hx hb dX0_coversPixel_70 rfl (lv_at hl 2 rfl) ?_
        refine va_get (D := (dC, dI)) (ci := 0) (v := .ref aY) (C := RX0) (T := TX0) (N := 5) hx hb hts td_fX0 hown hK hP 0 rfl rfl 1 (by decide) (hts (.fieldLink RX0 15 "TileDesk$Shape" "ys" "[J") (td_i1 (List.mem_of_getElem? (i := 22) rfl))) (fun _ h9 => h9) rfl dX0_coversPixel_71 ?_
        refine lv_iload hx hb dX0_coversPixel_74 (lv_at hl 0 rfl) ?_
        refine td_lald hx hb hK hP 2 1 ((k + 2) % 3) rfl rfl rfl (by omega) (by decide) dX0_coversPixel_76 ?_
        refine lv_aload_n hx hb dX0_coversPixel_77 rfl (lv_at hl 2 rfl) ?_
        refine va_get (D := (dC, dI)) (ci := 0) (v := .ref aY) (C := RX0) (T := TX0) (N := 5) hx hb hts td_fX0 hown hK hP 0 rfl rfl 1 (by decide) (hts (.fieldLink RX0 15 "TileDesk$Shape" "ys" "[J") (td_i1 (List.mem_of_getElem? (i := 22) rfl))) (fun _ h9 => h9) rfl dX0_coversPixel_78 ?_
        refine lv_iload hx hb dX0_coversPixel_81 (lv_at hl 1 rfl) ?_
        refine td_lald hx hb hK hP 2 1 ((k + 1) % 3) rfl rfl rfl (by omega) (by decide) dX0_coversPixel_83 ?_
        refine lv_lsub hx hb dX0_coversPixel_84 ?_
        refine lv_lload_n hx hb dX0_coversPixel_85 rfl (lv_at hl 3 rfl) ?_
        refine lv_aload_n hx hb dX0_coversPixel_86 rfl (lv_at hl 2 rfl) ?_
        refine va_get (D := (dC, dI)) (ci := 0) (v := .ref aX) (C := RX0) (T := TX0) (N := 5) hx hb hts td_fX0 hown hK hP 0 rfl rfl 0 (by decide) (hts (.fieldLink RX0 9 "TileDesk$Shape" "xs" "[J") (td_i1 (List.mem_of_getElem? (i := 21) rfl))) (fun _ h9 => h9) rfl dX0_coversPixel_87 ?_
        refine lv_iload hx hb dX0_coversPixel_90 (lv_at hl 1 rfl) ?_
        refine td_lald hx hb hK hP 1 1 ((k + 1) % 3) rfl rfl rfl (by omega) (by decide) dX0_coversPixel_92 ?_
        refine lv_lsub hx hb dX0_coversPixel_93 ?_
        refine lv_lmul hx hb dX0_coversPixel_94 ?_
        refine lv_lsub hx hb dX0_coversPixel_95 ?_
        refine td_tl (td_ce vX vY k (lN (16 * i + 8)) (lN (16 * j + 8))) (rfl) ?_
        refine lv_lstore (lv' := [(10, .long (td_ce vX vY k (lN (16 * i + 8)) (lN (16 * j + 8)))), (9, .int (nI ((k + 2) % 3))), (8, .int (nI ((k + 1) % 3))), (0, .ref qS), (3, .long (lN (16 * i + 8))), (5, .long (lN (16 * j + 8))), (7, .int (nI k))]) hx hb dX0_coversPixel_96 hl (by decide) rfl (fun ls hl => ?_)
        refine lv_lload hx hb dX0_coversPixel_98 (lv_at hl 0 rfl) ?_
        refine lv_lconst (v := 0) hx hb dX0_coversPixel_100 (by decide) ?_
        refine W.lcmp hx hb dX0_coversPixel_101 ?_
        refine td_llt (tgt := 123) hx hb dX0_coversPixel_102 (by decide) (fun c102 => ?_) (fun c102 => ?_)
        · refine lv_iconst (v := 0) hx hb dX0_coversPixel_123 (by decide) ?_
          have hP9 := hP.sub (ws' := [(qS, .inr (0, [.ref aX, .ref aY, .ref aR, .ref aL, .ref aW])), (aX, .inl (cJ, 3, .inr (.inl vX))), (aY, .inl (cJ, 3, .inr (.inl vY))), (aR, .inl (cJ, 3, .inr (.inl vR))), (aL, .inl (cJ, 3, .inr (.inl vL))), (aW, .inl (cJ, 3, .inr (.inl nW)))]) [0, 1, 2, 3, 4, 5] rfl
          have hD9 := hD.sub (ws' := [(qS, .inr (0, [.ref aX, .ref aY, .ref aR, .ref aL, .ref aW])), (aX, .inl (cJ, 3, .inr (.inl vX))), (aY, .inl (cJ, 3, .inr (.inl vY))), (aR, .inl (cJ, 3, .inr (.inl vR))), (aL, .inl (cJ, 3, .inr (.inl vL))), (aW, .inl (cJ, 3, .inr (.inl nW)))]) [0, 1, 2, 3, 4, 5] (by decide) rfl
          exact td_rwi nW hx hb hr rfl hlocks hK (Or.inr ⟨rfl, fun z => td_ncc (k := k) hk2 z (fun z => td_n1 c102 z)⟩) hP9 hD9 hS dX0_coversPixel_124
        · refine lv_lload hx hb dX0_coversPixel_105 (lv_at hl 0 rfl) ?_
          refine lv_lconst (v := 0) hx hb dX0_coversPixel_107 (by decide) ?_
          refine W.lcmp hx hb dX0_coversPixel_108 ?_
          refine td_lne (tgt := 125) hx hb dX0_coversPixel_109 (by decide) (fun c109 => ?_) (fun c109 => ?_)
          · refine lv_aload_n hx hb dX0_coversPixel_125 rfl (lv_at hl 3 rfl) ?_
            refine va_get (D := (dC, dI)) (ci := 0) (v := .ref aW) (C := RX0) (T := TX0) (N := 5) hx hb hts td_fX0 hown hK hP 0 rfl rfl 4 (by decide) (hts (.fieldLink RX0 24 "TileDesk$Shape" "weights" "[J") (td_i2 (List.mem_of_getElem? (i := 1) rfl))) (fun _ h9 => h9) rfl dX0_coversPixel_126 ?_
            refine lv_iload hx hb dX0_coversPixel_129 (lv_at hl 6 rfl) ?_
            refine lv_lload hx hb dX0_coversPixel_131 (lv_at hl 0 rfl) ?_
            refine td_last hx hb hK hP hD hS 5 1 k rfl rfl rfl (by omega) (by decide) dX0_coversPixel_133 (fun H locs hP hD hS => ?_)
            have hP : va_P (dC, dI) vwCl [(qS, .inr (0, [.ref aX, .ref aY, .ref aR, .ref aL, .ref aW])), (aX, .inl (cJ, 3, .inr (.inl vX))), (aY, .inl (cJ, 3, .inr (.inl vY))), (aR, .inl (cJ, 3, .inr (.inl vR))), (aL, .inl (cJ, 3, .inr (.inl vL))), (aW, .inl (cJ, 3, .inr (.inl (vp_updL nW k (td_ce vX vY k (lN (16 * i + 8)) (lN (16 * j + 8)))))))] H := hP
            have hD : va_D A [(qS, .inr (0, [.ref aX, .ref aY, .ref aR, .ref aL, .ref aW])), (aX, .inl (cJ, 3, .inr (.inl vX))), (aY, .inl (cJ, 3, .inr (.inl vY))), (aR, .inl (cJ, 3, .inr (.inl vR))), (aL, .inl (cJ, 3, .inr (.inl vL))), (aW, .inl (cJ, 3, .inr (.inl (vp_updL nW k (td_ce vX vY k (lN (16 * i + 8)) (lN (16 * j + 8)))))))] := hD
            refine lv_iinc (v := nI (k + 1)) (lv' := [(7, .int (nI (k + 1))), (10, .long (td_ce vX vY k (lN (16 * i + 8)) (lN (16 * j + 8)))), (9, .int (nI ((k + 2) % 3))), (8, .int (nI ((k + 1) % 3))), (0, .ref qS), (3, .long (lN (16 * i + 8))), (5, .long (lN (16 * j + 8)))]) hx hb dX0_coversPixel_134 hl (k := 6) rfl (nI_add k 1) (by decide) rfl (fun ls hl => ?_)
            refine lv_goto (tgt := 22) hx hb dX0_coversPixel_137 (by decide) ?_
            exact ih22 (k + 1) (vp_updL nW k (td_ce vX vY k (lN (16 * i + 8)) (lN (16 * j + 8)))) (by omega) (lt_s hcv (Or.inl (td_pos64 c102 c109))) (td_wst hnw rfl) (by omega) _ _ (hP.sub [0, 1, 2, 3, 4, 5] rfl) (hD.sub [0, 1, 2, 3, 4, 5] (by decide) rfl) hS ls (lv_sub hl [4, 5, 6, 0] rfl)
          · refine lv_aload_n hx hb dX0_coversPixel_112 rfl (lv_at hl 3 rfl) ?_
            refine lv_iload hx hb dX0_coversPixel_113 (lv_at hl 2 rfl) ?_
            refine lv_iload hx hb dX0_coversPixel_115 (lv_at hl 1 rfl) ?_
            refine td_csi (va_runV (As := [.int (nI ((k + 1) % 3)), .int (nI ((k + 2) % 3))]) (rest := []) ⟨hx, hb, hml, hown, hts⟩ (td_owns l dC dI cI cJ cZ qS aX aY aR aL aW vX vY vR vL nW ((k + 1) % 3) ((k + 2) % 3) (by omega) (by omega)) (cwV 2 hts (td_gV (td_i9 (List.mem_of_getElem? (i := 20) rfl)) (td_i9 (List.mem_of_getElem? (i := 21) rfl)) (td_i15 (List.mem_of_getElem? (i := 13) rfl)) (td_i1 (List.mem_of_getElem? (i := 2) rfl)) (td_i9 (List.mem_of_getElem? (i := 22) rfl))) rfl rfl rfl (by decide +kernel) ⟨(Nat.le_of_ble_eq_true rfl), (Nat.le_of_ble_eq_true rfl)⟩) (td_pRV hK hZ hP [0, 1, 2, 3, 4, 5] rfl (va_recv hK hP (ci := 0) (q0 := 0) rfl rfl)) rfl rfl hl.1 rfl (lv_room (Nat.le_of_ble_eq_true rfl)) dX0_coversPixel_117 ⟨Nat.zero_le _, Nat.zero_le _⟩) ?_
            refine td_ifne (tgt := 125) hx hb dX0_coversPixel_120 (by decide) (fun c120 => ?_) (fun c120 => ?_)
            · refine lv_aload_n hx hb dX0_coversPixel_125 rfl (lv_at hl 3 rfl) ?_
              refine va_get (D := (dC, dI)) (ci := 0) (v := .ref aW) (C := RX0) (T := TX0) (N := 5) hx hb hts td_fX0 hown hK hP 0 rfl rfl 4 (by decide) (hts (.fieldLink RX0 24 "TileDesk$Shape" "weights" "[J") (td_i2 (List.mem_of_getElem? (i := 1) rfl))) (fun _ h9 => h9) rfl dX0_coversPixel_126 ?_
              refine lv_iload hx hb dX0_coversPixel_129 (lv_at hl 6 rfl) ?_
              refine lv_lload hx hb dX0_coversPixel_131 (lv_at hl 0 rfl) ?_
              refine td_last hx hb hK hP hD hS 5 1 k rfl rfl rfl (by omega) (by decide) dX0_coversPixel_133 (fun H locs hP hD hS => ?_)
              have hP : va_P (dC, dI) vwCl [(qS, .inr (0, [.ref aX, .ref aY, .ref aR, .ref aL, .ref aW])), (aX, .inl (cJ, 3, .inr (.inl vX))), (aY, .inl (cJ, 3, .inr (.inl vY))), (aR, .inl (cJ, 3, .inr (.inl vR))), (aL, .inl (cJ, 3, .inr (.inl vL))), (aW, .inl (cJ, 3, .inr (.inl (vp_updL nW k (td_ce vX vY k (lN (16 * i + 8)) (lN (16 * j + 8)))))))] H := hP
              have hD : va_D A [(qS, .inr (0, [.ref aX, .ref aY, .ref aR, .ref aL, .ref aW])), (aX, .inl (cJ, 3, .inr (.inl vX))), (aY, .inl (cJ, 3, .inr (.inl vY))), (aR, .inl (cJ, 3, .inr (.inl vR))), (aL, .inl (cJ, 3, .inr (.inl vL))), (aW, .inl (cJ, 3, .inr (.inl (vp_updL nW k (td_ce vX vY k (lN (16 * i + 8)) (lN (16 * j + 8)))))))] := hD
              refine lv_iinc (v := nI (k + 1)) (lv' := [(7, .int (nI (k + 1))), (10, .long (td_ce vX vY k (lN (16 * i + 8)) (lN (16 * j + 8)))), (9, .int (nI ((k + 2) % 3))), (8, .int (nI ((k + 1) % 3))), (0, .ref qS), (3, .long (lN (16 * i + 8))), (5, .long (lN (16 * j + 8)))]) hx hb dX0_coversPixel_134 hl (k := 6) rfl (nI_add k 1) (by decide) rfl (fun ls hl => ?_)
              refine lv_goto (tgt := 22) hx hb dX0_coversPixel_137 (by decide) ?_
              exact ih22 (k + 1) (vp_updL nW k (td_ce vX vY k (lN (16 * i + 8)) (lN (16 * j + 8)))) (by omega) (lt_s hcv (Or.inr ⟨c109, c120⟩)) (td_wst hnw rfl) (by omega) _ _ (hP.sub [0, 1, 2, 3, 4, 5] rfl) (hD.sub [0, 1, 2, 3, 4, 5] (by decide) rfl) hS ls (lv_sub hl [4, 5, 6, 0] rfl)
            · refine lv_iconst (v := 0) hx hb dX0_coversPixel_123 (by decide) ?_
              have hP9 := hP.sub (ws' := [(qS, .inr (0, [.ref aX, .ref aY, .ref aR, .ref aL, .ref aW])), (aX, .inl (cJ, 3, .inr (.inl vX))), (aY, .inl (cJ, 3, .inr (.inl vY))), (aR, .inl (cJ, 3, .inr (.inl vR))), (aL, .inl (cJ, 3, .inr (.inl vL))), (aW, .inl (cJ, 3, .inr (.inl nW)))]) [0, 1, 2, 3, 4, 5] rfl
              have hD9 := hD.sub (ws' := [(qS, .inr (0, [.ref aX, .ref aY, .ref aR, .ref aL, .ref aW])), (aX, .inl (cJ, 3, .inr (.inl vX))), (aY, .inl (cJ, 3, .inr (.inl vY))), (aR, .inl (cJ, 3, .inr (.inl vR))), (aL, .inl (cJ, 3, .inr (.inl vL))), (aW, .inl (cJ, 3, .inr (.inl nW)))]) [0, 1, 2, 3, 4, 5] (by decide) rfl
              exact td_rwi nW hx hb hr rfl hlocks hK (Or.inr ⟨rfl, fun z => td_ncc (k := k) hk2 z (fun z => td_n2 c109 c120 z)⟩) hP9 hD9 hS dX0_coversPixel_124
  exact lp22 ((3 - 0) + 1) 0 vW (Nat.zero_le _) (fun t h => absurd h (Nat.not_lt_zero _)) (fun t h => absurd h (Nat.not_lt_zero _)) (Nat.lt_succ_self _) _ _ (hP.sub [0, 1, 2, 3, 4, 5] rfl) (hD.sub [0, 1, 2, 3, 4, 5] (by decide) rfl) hS ls (lv_sub hl [3, 2, 1, 0] rfl)
end
section
set_option maxHeartbeats 4000000 in
set_option maxRecDepth 100000 in
/-- Pieces() -/
theorem td_Pieces_init (l : Launch) (dC : Nat → ClassId) (dI : Nat → Nat → Nat) (cI cJ cZ : ClassId) (sz : Nat) (qP : Nat) : Met l yX1_init wsX1_init ({ frames := 1, cells := 3, slots := 2560, locals := 12 }) (td_WP (dC, dI) vwCl (td_T cI cJ cZ) td_nl [(qP, .inr (1, [.null, .null, .null, .int 0]))] sz [.ref qP]) (va_Qv (S := Nat × Nat × Nat) (fun u => True) (td_B (dC, dI) vwCl (td_T cI cJ cZ) (va_A [(qP, .inr (1, [.null, .null, .null, .int 0]))] sz) (fun (u : Nat × Nat × Nat) => [(qP, .inr (1, [.ref u.1, .ref u.2.1, .ref u.2.2, .int 0])), (u.1, .inl (cJ, 1536, .inr (.inl (fun _ => 0)))), (u.2.1, .inl (cI, 512, .inl (fun _ => 0))), (u.2.2, .inl (cI, 512, .inl (fun _ => 0)))])) (va_A [(qP, .inr (1, [.null, .null, .null, .int 0]))] sz)) 3 2560 (va_A [(qP, .inr (1, [.null, .null, .null, .int 0]))] sz) := by
  refine Met.ofW (cc := cX1_init) (maxL := 1) (ret := none) (by decide) rfl ?_
  intro p e s m args below meth c s₁ B hml hv
  obtain ⟨rfl, hsz, hP, hK, hZ, hD0⟩ := hv
  have hx := B.exec
  have hb := B.bytes
  have hr := B.returns
  have hts := atoms_spec (ws := wsX1_init) B.pre
  have hown : s.vm.findClass RX1 = some m.cls := findClass_of_methodNamed B.named
  have hlocks := B.notSynchronized
  have hin : meth.name = "<init>" := (name_of_methodNamed B.named B.method).1
  subst hsz
  have hD := hD0.self (sz := s.heap.size)
  generalize hAe : va_A [(qP, .inr (1, [.null, .null, .null, .int 0]))] s.heap.size = A at hD ⊢
  have hA : ∀ q : Nat, s.heap.size ≤ q → A q := fun q h => by rw [← hAe]; exact Or.inr h
  have hS : va_S A s.heap s.heap [] := va_S.rf
  have hP : va_P (dC, dI) vwCl [(qP, .inr (1, [.null, .null, .null, .int 0]))] s.heap := hP
  have hl := lv_entry ([.ref qP]) (n := 1) (Nat.le_of_ble_eq_true rfl)
  rw [lg_entry_eq]
  generalize (lg_sl ([.ref qP]) ++ List.replicate (1 - (lg_sl ([.ref qP])).length) Slot.unset).toArray = ls at hl ⊢
  have hl : lv_has ls 1 [(0, .ref qP)] := hl
  refine lv_aload_n hx hb dX1_init_0 rfl (lv_at hl 0 rfl) ?_
  refine W.objInit hx hb hown (hts (.methodLink RX1 3 objectInit) (td_i2 (List.mem_of_getElem? (i := 6) rfl))) (hts (.instanceMethod objectInit) (td_i1 (List.mem_of_getElem? (i := 14) rfl))) (hts _ (td_i1 (List.mem_of_getElem? (i := 15) rfl))) rfl (by rw [hml]; exact hl.1) rfl dX1_init_1 (Nat.le_of_ble_eq_true rfl) (Nat.le_of_ble_eq_true rfl) ?_
  refine W.eq (g2 := F0 m 4 ls []) rfl ?_
  refine lv_aload_n hx hb dX1_init_4 rfl (lv_at hl 0 rfl) ?_
  refine lv_sipush (v := 1536) hx hb dX1_init_5 (by decide) ?_
  refine td_newa (a0 := (1536, .inr (.inl (fun _ => 0)))) (atype := .long) 1 hx hb (hts (.arrayClass .long) (td_i0 (List.mem_of_getElem? (i := 0) rfl))) rfl hK hP hD hS hA rfl (td_raJ s) (fun _ => rfl) rfl (by decide) (by decide) (Nat.le_of_ble_eq_true rfl) (Nat.le_of_ble_eq_true rfl) dX1_init_8 (fun bC H hP hD hS => ?_)
  have hP : va_P (dC, dI) vwCl [(qP, .inr (1, [.null, .null, .null, .int 0])), (bC, .inl (cJ, 1536, .inr (.inl (fun _ => 0))))] H := hP
  have hD : va_D A [(qP, .inr (1, [.null, .null, .null, .int 0])), (bC, .inl (cJ, 1536, .inr (.inl (fun _ => 0))))] := hD
  refine W.widen (k := 1) (n := 1536) (by omega) (by omega) ?_
  refine va_putF (D := (dC, dI)) (ci := 1) (v := .ref bC) (ty := .array .long) (C := RX1) (T := TX1) (N := 4) hx hb hts td_fX1 tyX1 tyX1_ok nmX1 hown hK hP hD hS 0 rfl rfl 0 (by decide) (hts (.fieldLink RX1 9 "TileDesk$Pieces" "corners" "[J") (td_i2 (List.mem_of_getElem? (i := 7) rfl))) (fun _ h9 => h9) rfl hin rfl (by decide +kernel) rfl rfl (Nat.le_of_ble_eq_true rfl) dX1_init_10 (fun H locs hP hD hS => ?_)
  have hP : va_P (dC, dI) vwCl [(qP, .inr (1, [.ref bC, .null, .null, .int 0])), (bC, .inl (cJ, 1536, .inr (.inl (fun _ => 0))))] H := hP
  have hD : va_D A [(qP, .inr (1, [.ref bC, .null, .null, .int 0])), (bC, .inl (cJ, 1536, .inr (.inl (fun _ => 0))))] := hD
  refine lv_aload_n hx hb dX1_init_13 rfl (lv_at hl 0 rfl) ?_
  refine lv_sipush (v := 512) hx hb dX1_init_14 (by decide) ?_
  refine td_newa (a0 := (512, .inl (fun _ => 0))) (atype := .int) 0 hx hb (hts (.arrayClass .int) (td_i0 (List.mem_of_getElem? (i := 1) rfl))) rfl hK hP hD hS hA rfl (td_raI s) (fun _ => rfl) rfl (by decide) (by decide) (Nat.le_of_ble_eq_true rfl) (Nat.le_of_ble_eq_true rfl) dX1_init_17 (fun bT H hP hD hS => ?_)
  have hP : va_P (dC, dI) vwCl [(qP, .inr (1, [.ref bC, .null, .null, .int 0])), (bC, .inl (cJ, 1536, .inr (.inl (fun _ => 0)))), (bT, .inl (cI, 512, .inl (fun _ => 0)))] H := hP
  have hD : va_D A [(qP, .inr (1, [.ref bC, .null, .null, .int 0])), (bC, .inl (cJ, 1536, .inr (.inl (fun _ => 0)))), (bT, .inl (cI, 512, .inl (fun _ => 0)))] := hD
  refine W.widen (k := 2) (n := 2048) (by omega) (by omega) ?_
  refine va_putF (D := (dC, dI)) (ci := 1) (v := .ref bT) (ty := .array .int) (C := RX1) (T := TX1) (N := 4) hx hb hts td_fX1 tyX1 tyX1_ok nmX1 hown hK hP hD hS 0 rfl rfl 1 (by decide) (hts (.fieldLink RX1 15 "TileDesk$Pieces" "tints" "[I") (td_i2 (List.mem_of_getElem? (i := 8) rfl))) (fun _ h9 => h9) rfl hin rfl (by decide +kernel) rfl rfl (Nat.le_of_ble_eq_true rfl) dX1_init_19 (fun H locs hP hD hS => ?_)
  have hP : va_P (dC, dI) vwCl [(qP, .inr (1, [.ref bC, .ref bT, .null, .int 0])), (bC, .inl (cJ, 1536, .inr (.inl (fun _ => 0)))), (bT, .inl (cI, 512, .inl (fun _ => 0)))] H := hP
  have hD : va_D A [(qP, .inr (1, [.ref bC, .ref bT, .null, .int 0])), (bC, .inl (cJ, 1536, .inr (.inl (fun _ => 0)))), (bT, .inl (cI, 512, .inl (fun _ => 0)))] := hD
  refine lv_aload_n hx hb dX1_init_22 rfl (lv_at hl 0 rfl) ?_
  refine lv_sipush (v := 512) hx hb dX1_init_23 (by decide) ?_
  refine td_newa (a0 := (512, .inl (fun _ => 0))) (atype := .int) 0 hx hb (hts (.arrayClass .int) (td_i0 (List.mem_of_getElem? (i := 1) rfl))) rfl hK hP hD hS hA rfl (td_raI s) (fun _ => rfl) rfl (by decide) (by decide) (Nat.le_of_ble_eq_true rfl) (Nat.le_of_ble_eq_true rfl) dX1_init_26 (fun bV H hP hD hS => ?_)
  have hP : va_P (dC, dI) vwCl [(qP, .inr (1, [.ref bC, .ref bT, .null, .int 0])), (bC, .inl (cJ, 1536, .inr (.inl (fun _ => 0)))), (bT, .inl (cI, 512, .inl (fun _ => 0))), (bV, .inl (cI, 512, .inl (fun _ => 0)))] H := hP
  have hD : va_D A [(qP, .inr (1, [.ref bC, .ref bT, .null, .int 0])), (bC, .inl (cJ, 1536, .inr (.inl (fun _ => 0)))), (bT, .inl (cI, 512, .inl (fun _ => 0))), (bV, .inl (cI, 512, .inl (fun _ => 0)))] := hD
  refine W.widen (k := 3) (n := 2560) (by omega) (by omega) ?_
  refine va_putF (D := (dC, dI)) (ci := 1) (v := .ref bV) (ty := .array .int) (C := RX1) (T := TX1) (N := 4) hx hb hts td_fX1 tyX1 tyX1_ok nmX1 hown hK hP hD hS 0 rfl rfl 2 (by decide) (hts (.fieldLink RX1 19 "TileDesk$Pieces" "covers" "[I") (td_i2 (List.mem_of_getElem? (i := 9) rfl))) (fun _ h9 => h9) rfl hin rfl (by decide +kernel) rfl rfl (Nat.le_of_ble_eq_true rfl) dX1_init_28 (fun H locs hP hD hS => ?_)
  have hP : va_P (dC, dI) vwCl [(qP, .inr (1, [.ref bC, .ref bT, .ref bV, .int 0])), (bC, .inl (cJ, 1536, .inr (.inl (fun _ => 0)))), (bT, .inl (cI, 512, .inl (fun _ => 0))), (bV, .inl (cI, 512, .inl (fun _ => 0)))] H := hP
  have hD : va_D A [(qP, .inr (1, [.ref bC, .ref bT, .ref bV, .int 0])), (bC, .inl (cJ, 1536, .inr (.inl (fun _ => 0)))), (bT, .inl (cI, 512, .inl (fun _ => 0))), (bV, .inl (cI, 512, .inl (fun _ => 0)))] := hD
  refine lv_aload_n hx hb dX1_init_31 rfl (lv_at hl 0 rfl) ?_
  refine lv_iconst (v := 0) hx hb dX1_init_32 (by decide) ?_
  refine va_put (D := (dC, dI)) (ci := 1) (v := .int 0) (ty := .int) (C := RX1) (T := TX1) (N := 4) hx hb hts td_fX1 tyX1 tyX1_ok nmX1 hown hK hP hD hS 0 rfl rfl 3 (by decide) (hts (.fieldLink RX1 22 "TileDesk$Pieces" "size" "I") (td_i2 (List.mem_of_getElem? (i := 10) rfl))) (fun _ h9 => h9) rfl (by decide +kernel) rfl rfl (Nat.le_of_ble_eq_true rfl) dX1_init_33 (fun H locs hP hD hS => ?_)
  have hP : va_P (dC, dI) vwCl [(qP, .inr (1, [.ref bC, .ref bT, .ref bV, .int 0])), (bC, .inl (cJ, 1536, .inr (.inl (fun _ => 0)))), (bT, .inl (cI, 512, .inl (fun _ => 0))), (bV, .inl (cI, 512, .inl (fun _ => 0)))] H := hP
  have hD : va_D A [(qP, .inr (1, [.ref bC, .ref bT, .ref bV, .int 0])), (bC, .inl (cJ, 1536, .inr (.inl (fun _ => 0)))), (bT, .inl (cI, 512, .inl (fun _ => 0))), (bV, .inl (cI, 512, .inl (fun _ => 0)))] := hD
  have hP9 := hP.sub (ws' := [(qP, .inr (1, [.ref bC, .ref bT, .ref bV, .int 0])), (bC, .inl (cJ, 1536, .inr (.inl (fun _ => 0)))), (bT, .inl (cI, 512, .inl (fun _ => 0))), (bV, .inl (cI, 512, .inl (fun _ => 0)))]) [0, 1, 2, 3] rfl
  have hD9 := hD.sub (ws' := [(qP, .inr (1, [.ref bC, .ref bT, .ref bV, .int 0])), (bC, .inl (cJ, 1536, .inr (.inl (fun _ => 0)))), (bT, .inl (cI, 512, .inl (fun _ => 0))), (bV, .inl (cI, 512, .inl (fun _ => 0)))]) [0, 1, 2, 3] (by decide) rfl
  exact td_rwv (bC, bT, bV) hx hb hr hlocks hK (trivial) hP9 hD9 hS dX1_init_36
set_option maxHeartbeats 4000000 in
set_option maxRecDepth 100000 in
/-- Pieces.removeAll -/
theorem td_removeAll (l : Launch) (dC : Nat → ClassId) (dI : Nat → Nat → Nat) (cI cJ cZ : ClassId) (sz : Nat) (qP : Nat) (pC : Nat) (pT : Nat) (pV : Nat) (fC : Nat → Int64) (fT : Nat → Int32) (fV : Nat → Int32) (n : Nat) : Met l yX1_removeAll wsX1_removeAll ({ frames := 0, cells := 0, slots := 0, locals := 0 }) (td_WP (dC, dI) vwCl (td_T cI cJ cZ) td_nl [(qP, .inr (1, [.ref pC, .ref pT, .ref pV, .int (nI n)])), (pC, .inl (cJ, 1536, .inr (.inl fC))), (pT, .inl (cI, 512, .inl fT)), (pV, .inl (cI, 512, .inl fV))] sz [.ref qP]) (va_Qv (S := Unit) (fun u => True) (td_B (dC, dI) vwCl (td_T cI cJ cZ) (va_A [(qP, .inr (1, [.ref pC, .ref pT, .ref pV, .int (nI n)])), (pC, .inl (cJ, 1536, .inr (.inl fC))), (pT, .inl (cI, 512, .inl fT)), (pV, .inl (cI, 512, .inl fV))] sz) (fun (u : Unit) => [(qP, .inr (1, [.ref pC, .ref pT, .ref pV, .int 0])), (pC, .inl (cJ, 1536, .inr (.inl fC))), (pT, .inl (cI, 512, .inl fT)), (pV, .inl (cI, 512, .inl fV))])) (va_A [(qP, .inr (1, [.ref pC, .ref pT, .ref pV, .int (nI n)])), (pC, .inl (cJ, 1536, .inr (.inl fC))), (pT, .inl (cI, 512, .inl fT)), (pV, .inl (cI, 512, .inl fV))] sz)) 0 0 (va_A [(qP, .inr (1, [.ref pC, .ref pT, .ref pV, .int (nI n)])), (pC, .inl (cJ, 1536, .inr (.inl fC))), (pT, .inl (cI, 512, .inl fT)), (pV, .inl (cI, 512, .inl fV))] sz) := by
  refine Met.ofW (cc := cX1_removeAll) (maxL := 1) (ret := none) (by decide) rfl ?_
  intro p e s m args below meth c s₁ B hml hv
  obtain ⟨rfl, hsz, hP, hK, hZ, hD0⟩ := hv
  have hx := B.exec
  have hb := B.bytes
  have hr := B.returns
  have hts := atoms_spec (ws := wsX1_removeAll) B.pre
  have hown : s.vm.findClass RX1 = some m.cls := findClass_of_methodNamed B.named
  have hlocks := B.notSynchronized
  subst hsz
  have hD := hD0.self (sz := s.heap.size)
  generalize hAe : va_A [(qP, .inr (1, [.ref pC, .ref pT, .ref pV, .int (nI n)])), (pC, .inl (cJ, 1536, .inr (.inl fC))), (pT, .inl (cI, 512, .inl fT)), (pV, .inl (cI, 512, .inl fV))] s.heap.size = A at hD ⊢
  have hA : ∀ q : Nat, s.heap.size ≤ q → A q := fun q h => by rw [← hAe]; exact Or.inr h
  have hS : va_S A s.heap s.heap [] := va_S.rf
  have hP : va_P (dC, dI) vwCl [(qP, .inr (1, [.ref pC, .ref pT, .ref pV, .int (nI n)])), (pC, .inl (cJ, 1536, .inr (.inl fC))), (pT, .inl (cI, 512, .inl fT)), (pV, .inl (cI, 512, .inl fV))] s.heap := hP
  have hl := lv_entry ([.ref qP]) (n := 1) (Nat.le_of_ble_eq_true rfl)
  rw [lg_entry_eq]
  generalize (lg_sl ([.ref qP]) ++ List.replicate (1 - (lg_sl ([.ref qP])).length) Slot.unset).toArray = ls at hl ⊢
  have hl : lv_has ls 1 [(0, .ref qP)] := hl
  refine lv_aload_n hx hb dX1_removeAll_0 rfl (lv_at hl 0 rfl) ?_
  refine lv_iconst (v := 0) hx hb dX1_removeAll_1 (by decide) ?_
  refine va_put (D := (dC, dI)) (ci := 1) (v := .int 0) (ty := .int) (C := RX1) (T := TX1) (N := 4) hx hb hts td_fX1 tyX1 tyX1_ok nmX1 hown hK hP hD hS 0 rfl rfl 3 (by decide) (hts (.fieldLink RX1 22 "TileDesk$Pieces" "size" "I") (td_i2 (List.mem_of_getElem? (i := 10) rfl))) (fun _ h9 => h9) rfl (by decide +kernel) rfl rfl (Nat.le_of_ble_eq_true rfl) dX1_removeAll_2 (fun H locs hP hD hS => ?_)
  have hP : va_P (dC, dI) vwCl [(qP, .inr (1, [.ref pC, .ref pT, .ref pV, .int 0])), (pC, .inl (cJ, 1536, .inr (.inl fC))), (pT, .inl (cI, 512, .inl fT)), (pV, .inl (cI, 512, .inl fV))] H := hP
  have hD : va_D A [(qP, .inr (1, [.ref pC, .ref pT, .ref pV, .int 0])), (pC, .inl (cJ, 1536, .inr (.inl fC))), (pT, .inl (cI, 512, .inl fT)), (pV, .inl (cI, 512, .inl fV))] := hD
  have hP9 := hP.sub (ws' := [(qP, .inr (1, [.ref pC, .ref pT, .ref pV, .int 0])), (pC, .inl (cJ, 1536, .inr (.inl fC))), (pT, .inl (cI, 512, .inl fT)), (pV, .inl (cI, 512, .inl fV))]) [0, 1, 2, 3] rfl
  have hD9 := hD.sub (ws' := [(qP, .inr (1, [.ref pC, .ref pT, .ref pV, .int 0])), (pC, .inl (cJ, 1536, .inr (.inl fC))), (pT, .inl (cI, 512, .inl fT)), (pV, .inl (cI, 512, .inl fV))]) [0, 1, 2, 3] (by decide) rfl
  exact td_rwv () hx hb hr hlocks hK (trivial) hP9 hD9 hS dX1_removeAll_5
set_option maxHeartbeats 4000000 in
set_option maxRecDepth 100000 in
/-- Pieces.append -/
theorem td_append (l : Launch) (dC : Nat → ClassId) (dI : Nat → Nat → Nat) (cI cJ cZ : ClassId) (sz : Nat) (qP : Nat) (pC : Nat) (pT : Nat) (pV : Nat) (fC : Nat → Int64) (fT : Nat → Int32) (fV : Nat → Int32) (n : Nat) (qS : Nat) (aX : Nat) (aY : Nat) (aR : Nat) (aL : Nat) (aW : Nat) (vX : Nat → Int64) (vY : Nat → Int64) (vR : Nat → Int64) (vL : Nat → Int64) (vW : Nat → Int64) (tn : Int32) (cv : Int32) (hn : n ≤ 512) : Met l yX1_append wsX1_append ({ frames := 1, cells := 0, slots := 0, locals := 23 }) (td_WP (dC, dI) vwCl (td_T cI cJ cZ) td_nl [(qP, .inr (1, [.ref pC, .ref pT, .ref pV, .int (nI n)])), (pC, .inl (cJ, 1536, .inr (.inl fC))), (pT, .inl (cI, 512, .inl fT)), (pV, .inl (cI, 512, .inl fV)), (qS, .inr (0, [.ref aX, .ref aY, .ref aR, .ref aL, .ref aW])), (aX, .inl (cJ, 3, .inr (.inl vX))), (aY, .inl (cJ, 3, .inr (.inl vY))), (aR, .inl (cJ, 3, .inr (.inl vR))), (aL, .inl (cJ, 3, .inr (.inl vL))), (aW, .inl (cJ, 3, .inr (.inl vW)))] sz [.ref qP, .ref qS, .int tn, .int cv]) (va_Qi (S := (Nat → Int64) × (Nat → Int32) × (Nat → Int32) × Nat) (fun r u => (n = 512 ∧ r = -1 ∧ u.1 = fC ∧ u.2.1 = fT ∧ u.2.2.1 = fV ∧ u.2.2.2 = n) ∨ (n < 512 ∧ r = nI n ∧ u.1 = vp_updL (vp_updL (vp_updL fC (3 * n + 0) (td_pk (vX 0) (vY 0) (vR 0) (vL 0))) (3 * n + 1) (td_pk (vX 1) (vY 1) (vR 1) (vL 1))) (3 * n + 2) (td_pk (vX 2) (vY 2) (vR 2) (vL 2)) ∧ u.2.1 = upd fT n tn ∧ u.2.2.1 = upd fV n cv ∧ u.2.2.2 = n + 1)) (td_B (dC, dI) vwCl (td_T cI cJ cZ) (va_A [(qP, .inr (1, [.ref pC, .ref pT, .ref pV, .int (nI n)])), (pC, .inl (cJ, 1536, .inr (.inl fC))), (pT, .inl (cI, 512, .inl fT)), (pV, .inl (cI, 512, .inl fV)), (qS, .inr (0, [.ref aX, .ref aY, .ref aR, .ref aL, .ref aW])), (aX, .inl (cJ, 3, .inr (.inl vX))), (aY, .inl (cJ, 3, .inr (.inl vY))), (aR, .inl (cJ, 3, .inr (.inl vR))), (aL, .inl (cJ, 3, .inr (.inl vL))), (aW, .inl (cJ, 3, .inr (.inl vW)))] sz) (fun (u : (Nat → Int64) × (Nat → Int32) × (Nat → Int32) × Nat) => [(qP, .inr (1, [.ref pC, .ref pT, .ref pV, .int (nI u.2.2.2)])), (pC, .inl (cJ, 1536, .inr (.inl u.1))), (pT, .inl (cI, 512, .inl u.2.1)), (pV, .inl (cI, 512, .inl u.2.2.1)), (qS, .inr (0, [.ref aX, .ref aY, .ref aR, .ref aL, .ref aW])), (aX, .inl (cJ, 3, .inr (.inl vX))), (aY, .inl (cJ, 3, .inr (.inl vY))), (aR, .inl (cJ, 3, .inr (.inl vR))), (aL, .inl (cJ, 3, .inr (.inl vL))), (aW, .inl (cJ, 3, .inr (.inl vW)))])) (va_A [(qP, .inr (1, [.ref pC, .ref pT, .ref pV, .int (nI n)])), (pC, .inl (cJ, 1536, .inr (.inl fC))), (pT, .inl (cI, 512, .inl fT)), (pV, .inl (cI, 512, .inl fV)), (qS, .inr (0, [.ref aX, .ref aY, .ref aR, .ref aL, .ref aW])), (aX, .inl (cJ, 3, .inr (.inl vX))), (aY, .inl (cJ, 3, .inr (.inl vY))), (aR, .inl (cJ, 3, .inr (.inl vR))), (aL, .inl (cJ, 3, .inr (.inl vL))), (aW, .inl (cJ, 3, .inr (.inl vW)))] sz)) 0 0 (va_A [(qP, .inr (1, [.ref pC, .ref pT, .ref pV, .int (nI n)])), (pC, .inl (cJ, 1536, .inr (.inl fC))), (pT, .inl (cI, 512, .inl fT)), (pV, .inl (cI, 512, .inl fV)), (qS, .inr (0, [.ref aX, .ref aY, .ref aR, .ref aL, .ref aW])), (aX, .inl (cJ, 3, .inr (.inl vX))), (aY, .inl (cJ, 3, .inr (.inl vY))), (aR, .inl (cJ, 3, .inr (.inl vR))), (aL, .inl (cJ, 3, .inr (.inl vL))), (aW, .inl (cJ, 3, .inr (.inl vW)))] sz) := by
  refine Met.ofW (cc := cX1_append) (maxL := 5) (ret := (some .int)) (by decide) rfl ?_
  intro p e s m args below meth c s₁ B hml hv
  obtain ⟨rfl, hsz, hP, hK, hZ, hD0⟩ := hv
  have hx := B.exec
  have hb := B.bytes
  have hr := B.returns
  have hts := atoms_spec (ws := wsX1_append) B.pre
  have hown : s.vm.findClass RX1 = some m.cls := findClass_of_methodNamed B.named
  have hlocks := B.notSynchronized
  subst hsz
  have hD := hD0.self (sz := s.heap.size)
  generalize hAe : va_A [(qP, .inr (1, [.ref pC, .ref pT, .ref pV, .int (nI n)])), (pC, .inl (cJ, 1536, .inr (.inl fC))), (pT, .inl (cI, 512, .inl fT)), (pV, .inl (cI, 512, .inl fV)), (qS, .inr (0, [.ref aX, .ref aY, .ref aR, .ref aL, .ref aW])), (aX, .inl (cJ, 3, .inr (.inl vX))), (aY, .inl (cJ, 3, .inr (.inl vY))), (aR, .inl (cJ, 3, .inr (.inl vR))), (aL, .inl (cJ, 3, .inr (.inl vL))), (aW, .inl (cJ, 3, .inr (.inl vW)))] s.heap.size = A at hD ⊢
  have hA : ∀ q : Nat, s.heap.size ≤ q → A q := fun q h => by rw [← hAe]; exact Or.inr h
  have hS : va_S A s.heap s.heap [] := va_S.rf
  have hP : va_P (dC, dI) vwCl [(qP, .inr (1, [.ref pC, .ref pT, .ref pV, .int (nI n)])), (pC, .inl (cJ, 1536, .inr (.inl fC))), (pT, .inl (cI, 512, .inl fT)), (pV, .inl (cI, 512, .inl fV)), (qS, .inr (0, [.ref aX, .ref aY, .ref aR, .ref aL, .ref aW])), (aX, .inl (cJ, 3, .inr (.inl vX))), (aY, .inl (cJ, 3, .inr (.inl vY))), (aR, .inl (cJ, 3, .inr (.inl vR))), (aL, .inl (cJ, 3, .inr (.inl vL))), (aW, .inl (cJ, 3, .inr (.inl vW)))] s.heap := hP
  have hl := lv_entry ([.ref qP, .ref qS, .int tn, .int cv]) (n := 5) (Nat.le_of_ble_eq_true rfl)
  rw [lg_entry_eq]
  generalize (lg_sl ([.ref qP, .ref qS, .int tn, .int cv]) ++ List.replicate (5 - (lg_sl ([.ref qP, .ref qS, .int tn, .int cv])).length) Slot.unset).toArray = ls at hl ⊢
  have hl : lv_has ls 5 [(0, .ref qP), (1, .ref qS), (2, .int tn), (3, .int cv)] := hl
  refine lv_aload_n hx hb dX1_append_0 rfl (lv_at hl 0 rfl) ?_
  refine va_get (D := (dC, dI)) (ci := 1) (v := .int (nI n)) (C := RX1) (T := TX1) (N := 4) hx hb hts td_fX1 hown hK hP 0 rfl rfl 3 (by decide) (hts (.fieldLink RX1 22 "TileDesk$Pieces" "size" "I") (td_i2 (List.mem_of_getElem? (i := 10) rfl))) (fun _ h9 => h9) rfl dX1_append_1 ?_
  refine lv_sipush (v := 512) hx hb dX1_append_4 (by decide) ?_
  refine lv_icmp_lt (tgt := 12) hx hb dX1_append_7 (by decide) (fun c7 => ?_) (fun c7 => ?_)
  · have hn2 : n < 512 := (nI_ltI (a := n) (b := 512) (by omega) (by omega)).mp c7
    refine lv_iconst (v := 0) hx hb dX1_append_12 (by decide) ?_
    refine lv_istore (lv' := [(4, .int 0), (0, .ref qP), (1, .ref qS), (2, .int tn), (3, .int cv)]) hx hb dX1_append_13 hl (by decide) rfl (fun ls hl => ?_)
    refine lv_iload hx hb dX1_append_15 (lv_at hl 0 rfl) ?_
    refine lv_iconst (v := 3) hx hb dX1_append_17 (by decide) ?_
    refine lv_icmp_ge (tgt := 47) hx hb dX1_append_18 (by decide) (fun c18_1 => ?_) (fun c18_1 => ?_)
    · exact absurd c18_1 (by decide)
    · refine lv_aload_n hx hb dX1_append_21 rfl (lv_at hl 1 rfl) ?_
      refine va_get (D := (dC, dI)) (ci := 1) (v := .ref pC) (C := RX1) (T := TX1) (N := 4) hx hb hts td_fX1 hown hK hP 0 rfl rfl 0 (by decide) (hts (.fieldLink RX1 9 "TileDesk$Pieces" "corners" "[J") (td_i2 (List.mem_of_getElem? (i := 7) rfl))) (fun _ h9 => h9) rfl dX1_append_22 ?_
      refine lv_iconst (v := 3) hx hb dX1_append_25 (by decide) ?_
      refine lv_aload_n hx hb dX1_append_26 rfl (lv_at hl 1 rfl) ?_
      refine va_get (D := (dC, dI)) (ci := 1) (v := .int (nI n)) (C := RX1) (T := TX1) (N := 4) hx hb hts td_fX1 hown hK hP 0 rfl rfl 3 (by decide) (hts (.fieldLink RX1 22 "TileDesk$Pieces" "size" "I") (td_i2 (List.mem_of_getElem? (i := 10) rfl))) (fun _ h9 => h9) rfl dX1_append_27 ?_
      refine lv_imul hx hb dX1_append_30 ?_
      refine td_ti (nI (3 * n)) (pk_mul 3 n) ?_
      refine lv_iload hx hb dX1_append_31 (lv_at hl 0 rfl) ?_
      refine lv_iadd hx hb dX1_append_33 ?_
      refine td_ti (nI (3 * n + 0)) (nI_add (3 * n) 0) ?_
      refine lv_aload_n hx hb dX1_append_34 rfl (lv_at hl 2 rfl) ?_
      refine lv_iload hx hb dX1_append_35 (lv_at hl 0 rfl) ?_
      refine td_csl (va_runV (As := [.int 0]) (rest := [.int (nI (3 * n + 0)), .ref pC]) ⟨hx, hb, hml, hown, hts⟩ (td_packedCorner l dC dI cI cJ cZ qS aX aY aR aL aW vX vY vR vL vW 0 (by omega)) (cwV 1 hts (td_gV (td_i5 (List.mem_of_getElem? (i := 4) rfl)) (td_i5 (List.mem_of_getElem? (i := 5) rfl)) (td_i5 (List.mem_of_getElem? (i := 6) rfl)) (td_i1 (List.mem_of_getElem? (i := 2) rfl)) (td_i5 (List.mem_of_getElem? (i := 7) rfl))) rfl rfl rfl (by decide +kernel) ⟨(Nat.le_of_ble_eq_true rfl), (Nat.le_of_ble_eq_true rfl)⟩) (td_pRV hK hZ hP [4, 5, 6, 7, 8, 9] rfl (va_recv hK hP (ci := 0) (q0 := 4) rfl rfl)) rfl rfl hl.1 rfl (lv_room (Nat.le_of_ble_eq_true rfl)) dX1_append_37 ⟨Nat.zero_le _, Nat.zero_le _⟩) ?_
      refine td_last hx hb hK hP hD hS 1 1 (3 * n + 0) rfl rfl rfl (by omega) (by decide) dX1_append_40 (fun H locs hP hD hS => ?_)
      have hP : va_P (dC, dI) vwCl [(qP, .inr (1, [.ref pC, .ref pT, .ref pV, .int (nI n)])), (pC, .inl (cJ, 1536, .inr (.inl (vp_updL fC (3 * n + 0) (td_pk (vX 0) (vY 0) (vR 0) (vL 0)))))), (pT, .inl (cI, 512, .inl fT)), (pV, .inl (cI, 512, .inl fV)), (qS, .inr (0, [.ref aX, .ref aY, .ref aR, .ref aL, .ref aW])), (aX, .inl (cJ, 3, .inr (.inl vX))), (aY, .inl (cJ, 3, .inr (.inl vY))), (aR, .inl (cJ, 3, .inr (.inl vR))), (aL, .inl (cJ, 3, .inr (.inl vL))), (aW, .inl (cJ, 3, .inr (.inl vW)))] H := hP
      have hD : va_D A [(qP, .inr (1, [.ref pC, .ref pT, .ref pV, .int (nI n)])), (pC, .inl (cJ, 1536, .inr (.inl (vp_updL fC (3 * n + 0) (td_pk (vX 0) (vY 0) (vR 0) (vL 0)))))), (pT, .inl (cI, 512, .inl fT)), (pV, .inl (cI, 512, .inl fV)), (qS, .inr (0, [.ref aX, .ref aY, .ref aR, .ref aL, .ref aW])), (aX, .inl (cJ, 3, .inr (.inl vX))), (aY, .inl (cJ, 3, .inr (.inl vY))), (aR, .inl (cJ, 3, .inr (.inl vR))), (aL, .inl (cJ, 3, .inr (.inl vL))), (aW, .inl (cJ, 3, .inr (.inl vW)))] := hD
      refine lv_iinc (v := nI 1) (lv' := [(4, .int (nI 1)), (0, .ref qP), (1, .ref qS), (2, .int tn), (3, .int cv)]) hx hb dX1_append_41 hl (k := 0) rfl (nI_add 0 1) (by decide) rfl (fun ls hl => ?_)
      refine lv_goto (tgt := 15) hx hb dX1_append_44 (by decide) ?_
      refine lv_iload hx hb dX1_append_15 (lv_at hl 0 rfl) ?_
      refine lv_iconst (v := 3) hx hb dX1_append_17 (by decide) ?_
      refine lv_icmp_ge (tgt := 47) hx hb dX1_append_18 (by decide) (fun c18_2 => ?_) (fun c18_2 => ?_)
      · exact absurd c18_2 (by decide)
      · refine lv_aload_n hx hb dX1_append_21 rfl (lv_at hl 1 rfl) ?_
        refine va_get (D := (dC, dI)) (ci := 1) (v := .ref pC) (C := RX1) (T := TX1) (N := 4) hx hb hts td_fX1 hown hK hP 0 rfl rfl 0 (by decide) (hts (.fieldLink RX1 9 "TileDesk$Pieces" "corners" "[J") (td_i2 (List.mem_of_getElem? (i := 7) rfl))) (fun _ h9 => h9) rfl dX1_append_22 ?_
        refine lv_iconst (v := 3) hx hb dX1_append_25 (by decide) ?_
        refine lv_aload_n hx hb dX1_append_26 rfl (lv_at hl 1 rfl) ?_
        refine va_get (D := (dC, dI)) (ci := 1) (v := .int (nI n)) (C := RX1) (T := TX1) (N := 4) hx hb hts td_fX1 hown hK hP 0 rfl rfl 3 (by decide) (hts (.fieldLink RX1 22 "TileDesk$Pieces" "size" "I") (td_i2 (List.mem_of_getElem? (i := 10) rfl))) (fun _ h9 => h9) rfl dX1_append_27 ?_
        refine lv_imul hx hb dX1_append_30 ?_
        refine td_ti (nI (3 * n)) (pk_mul 3 n) ?_
        refine lv_iload hx hb dX1_append_31 (lv_at hl 0 rfl) ?_
        refine lv_iadd hx hb dX1_append_33 ?_
        refine td_ti (nI (3 * n + 1)) (nI_add (3 * n) 1) ?_
        refine lv_aload_n hx hb dX1_append_34 rfl (lv_at hl 2 rfl) ?_
        refine lv_iload hx hb dX1_append_35 (lv_at hl 0 rfl) ?_
        refine td_csl (va_runV (As := [.int (nI 1)]) (rest := [.int (nI (3 * n + 1)), .ref pC]) ⟨hx, hb, hml, hown, hts⟩ (td_packedCorner l dC dI cI cJ cZ qS aX aY aR aL aW vX vY vR vL vW 1 (by omega)) (cwV 1 hts (td_gV (td_i5 (List.mem_of_getElem? (i := 4) rfl)) (td_i5 (List.mem_of_getElem? (i := 5) rfl)) (td_i5 (List.mem_of_getElem? (i := 6) rfl)) (td_i1 (List.mem_of_getElem? (i := 2) rfl)) (td_i5 (List.mem_of_getElem? (i := 7) rfl))) rfl rfl rfl (by decide +kernel) ⟨(Nat.le_of_ble_eq_true rfl), (Nat.le_of_ble_eq_true rfl)⟩) (td_pRV hK hZ hP [4, 5, 6, 7, 8, 9] rfl (va_recv hK hP (ci := 0) (q0 := 4) rfl rfl)) rfl rfl hl.1 rfl (lv_room (Nat.le_of_ble_eq_true rfl)) dX1_append_37 ⟨Nat.zero_le _, Nat.zero_le _⟩) ?_
        refine td_last hx hb hK hP hD hS 1 1 (3 * n + 1) rfl rfl rfl (by omega) (by decide) dX1_append_40 (fun H locs hP hD hS => ?_)
        have hP : va_P (dC, dI) vwCl [(qP, .inr (1, [.ref pC, .ref pT, .ref pV, .int (nI n)])), (pC, .inl (cJ, 1536, .inr (.inl (vp_updL (vp_updL fC (3 * n + 0) (td_pk (vX 0) (vY 0) (vR 0) (vL 0))) (3 * n + 1) (td_pk (vX 1) (vY 1) (vR 1) (vL 1)))))), (pT, .inl (cI, 512, .inl fT)), (pV, .inl (cI, 512, .inl fV)), (qS, .inr (0, [.ref aX, .ref aY, .ref aR, .ref aL, .ref aW])), (aX, .inl (cJ, 3, .inr (.inl vX))), (aY, .inl (cJ, 3, .inr (.inl vY))), (aR, .inl (cJ, 3, .inr (.inl vR))), (aL, .inl (cJ, 3, .inr (.inl vL))), (aW, .inl (cJ, 3, .inr (.inl vW)))] H := hP
        have hD : va_D A [(qP, .inr (1, [.ref pC, .ref pT, .ref pV, .int (nI n)])), (pC, .inl (cJ, 1536, .inr (.inl (vp_updL (vp_updL fC (3 * n + 0) (td_pk (vX 0) (vY 0) (vR 0) (vL 0))) (3 * n + 1) (td_pk (vX 1) (vY 1) (vR 1) (vL 1)))))), (pT, .inl (cI, 512, .inl fT)), (pV, .inl (cI, 512, .inl fV)), (qS, .inr (0, [.ref aX, .ref aY, .ref aR, .ref aL, .ref aW])), (aX, .inl (cJ, 3, .inr (.inl vX))), (aY, .inl (cJ, 3, .inr (.inl vY))), (aR, .inl (cJ, 3, .inr (.inl vR))), (aL, .inl (cJ, 3, .inr (.inl vL))), (aW, .inl (cJ, 3, .inr (.inl vW)))] := hD
        refine lv_iinc (v := nI 2) (lv' := [(4, .int (nI 2)), (0, .ref qP), (1, .ref qS), (2, .int tn), (3, .int cv)]) hx hb dX1_append_41 hl (k := 0) rfl (nI_add 1 1) (by decide) rfl (fun ls hl => ?_)
        refine lv_goto (tgt := 15) hx hb dX1_append_44 (by decide) ?_
        refine lv_iload hx hb dX1_append_15 (lv_at hl 0 rfl) ?_
        refine lv_iconst (v := 3) hx hb dX1_append_17 (by decide) ?_
        refine lv_icmp_ge (tgt := 47) hx hb dX1_append_18 (by decide) (fun c18_3 => ?_) (fun c18_3 => ?_)
        · exact absurd c18_3 (by decide)
        · refine lv_aload_n hx hb dX1_append_21 rfl (lv_at hl 1 rfl) ?_
          refine va_get (D := (dC, dI)) (ci := 1) (v := .ref pC) (C := RX1) (T := TX1) (N := 4) hx hb hts td_fX1 hown hK hP 0 rfl rfl 0 (by decide) (hts (.fieldLink RX1 9 "TileDesk$Pieces" "corners" "[J") (td_i2 (List.mem_of_getElem? (i := 7) rfl))) (fun _ h9 => h9) rfl dX1_append_22 ?_
          refine lv_iconst (v := 3) hx hb dX1_append_25 (by decide) ?_
          refine lv_aload_n hx hb dX1_append_26 rfl (lv_at hl 1 rfl) ?_
          refine va_get (D := (dC, dI)) (ci := 1) (v := .int (nI n)) (C := RX1) (T := TX1) (N := 4) hx hb hts td_fX1 hown hK hP 0 rfl rfl 3 (by decide) (hts (.fieldLink RX1 22 "TileDesk$Pieces" "size" "I") (td_i2 (List.mem_of_getElem? (i := 10) rfl))) (fun _ h9 => h9) rfl dX1_append_27 ?_
          refine lv_imul hx hb dX1_append_30 ?_
          refine td_ti (nI (3 * n)) (pk_mul 3 n) ?_
          refine lv_iload hx hb dX1_append_31 (lv_at hl 0 rfl) ?_
          refine lv_iadd hx hb dX1_append_33 ?_
          refine td_ti (nI (3 * n + 2)) (nI_add (3 * n) 2) ?_
          refine lv_aload_n hx hb dX1_append_34 rfl (lv_at hl 2 rfl) ?_
          refine lv_iload hx hb dX1_append_35 (lv_at hl 0 rfl) ?_
          refine td_csl (va_runV (As := [.int (nI 2)]) (rest := [.int (nI (3 * n + 2)), .ref pC]) ⟨hx, hb, hml, hown, hts⟩ (td_packedCorner l dC dI cI cJ cZ qS aX aY aR aL aW vX vY vR vL vW 2 (by omega)) (cwV 1 hts (td_gV (td_i5 (List.mem_of_getElem? (i := 4) rfl)) (td_i5 (List.mem_of_getElem? (i := 5) rfl)) (td_i5 (List.mem_of_getElem? (i := 6) rfl)) (td_i1 (List.mem_of_getElem? (i := 2) rfl)) (td_i5 (List.mem_of_getElem? (i := 7) rfl))) rfl rfl rfl (by decide +kernel) ⟨(Nat.le_of_ble_eq_true rfl), (Nat.le_of_ble_eq_true rfl)⟩) (td_pRV hK hZ hP [4, 5, 6, 7, 8, 9] rfl (va_recv hK hP (ci := 0) (q0 := 4) rfl rfl)) rfl rfl hl.1 rfl (lv_room (Nat.le_of_ble_eq_true rfl)) dX1_append_37 ⟨Nat.zero_le _, Nat.zero_le _⟩) ?_
          refine td_last hx hb hK hP hD hS 1 1 (3 * n + 2) rfl rfl rfl (by omega) (by decide) dX1_append_40 (fun H locs hP hD hS => ?_)
          have hP : va_P (dC, dI) vwCl [(qP, .inr (1, [.ref pC, .ref pT, .ref pV, .int (nI n)])), (pC, .inl (cJ, 1536, .inr (.inl (vp_updL (vp_updL (vp_updL fC (3 * n + 0) (td_pk (vX 0) (vY 0) (vR 0) (vL 0))) (3 * n + 1) (td_pk (vX 1) (vY 1) (vR 1) (vL 1))) (3 * n + 2) (td_pk (vX 2) (vY 2) (vR 2) (vL 2)))))), (pT, .inl (cI, 512, .inl fT)), (pV, .inl (cI, 512, .inl fV)), (qS, .inr (0, [.ref aX, .ref aY, .ref aR, .ref aL, .ref aW])), (aX, .inl (cJ, 3, .inr (.inl vX))), (aY, .inl (cJ, 3, .inr (.inl vY))), (aR, .inl (cJ, 3, .inr (.inl vR))), (aL, .inl (cJ, 3, .inr (.inl vL))), (aW, .inl (cJ, 3, .inr (.inl vW)))] H := hP
          have hD : va_D A [(qP, .inr (1, [.ref pC, .ref pT, .ref pV, .int (nI n)])), (pC, .inl (cJ, 1536, .inr (.inl (vp_updL (vp_updL (vp_updL fC (3 * n + 0) (td_pk (vX 0) (vY 0) (vR 0) (vL 0))) (3 * n + 1) (td_pk (vX 1) (vY 1) (vR 1) (vL 1))) (3 * n + 2) (td_pk (vX 2) (vY 2) (vR 2) (vL 2)))))), (pT, .inl (cI, 512, .inl fT)), (pV, .inl (cI, 512, .inl fV)), (qS, .inr (0, [.ref aX, .ref aY, .ref aR, .ref aL, .ref aW])), (aX, .inl (cJ, 3, .inr (.inl vX))), (aY, .inl (cJ, 3, .inr (.inl vY))), (aR, .inl (cJ, 3, .inr (.inl vR))), (aL, .inl (cJ, 3, .inr (.inl vL))), (aW, .inl (cJ, 3, .inr (.inl vW)))] := hD
          refine lv_iinc (v := nI 3) (lv' := [(4, .int (nI 3)), (0, .ref qP), (1, .ref qS), (2, .int tn), (3, .int cv)]) hx hb dX1_append_41 hl (k := 0) rfl (nI_add 2 1) (by decide) rfl (fun ls hl => ?_)
          refine lv_goto (tgt := 15) hx hb dX1_append_44 (by decide) ?_
          refine lv_iload hx hb dX1_append_15 (lv_at hl 0 rfl) ?_
          refine lv_iconst (v := 3) hx hb dX1_append_17 (by decide) ?_
          refine lv_icmp_ge (tgt := 47) hx hb dX1_append_18 (by decide) (fun c18_4 => ?_) (fun c18_4 => ?_)
          · refine lv_aload_n hx hb dX1_append_47 rfl (lv_at hl 1 rfl) ?_
            refine va_get (D := (dC, dI)) (ci := 1) (v := .ref pT) (C := RX1) (T := TX1) (N := 4) hx hb hts td_fX1 hown hK hP 0 rfl rfl 1 (by decide) (hts (.fieldLink RX1 15 "TileDesk$Pieces" "tints" "[I") (td_i2 (List.mem_of_getElem? (i := 8) rfl))) (fun _ h9 => h9) rfl dX1_append_48 ?_
            refine lv_aload_n hx hb dX1_append_51 rfl (lv_at hl 1 rfl) ?_
            refine va_get (D := (dC, dI)) (ci := 1) (v := .int (nI n)) (C := RX1) (T := TX1) (N := 4) hx hb hts td_fX1 hown hK hP 0 rfl rfl 3 (by decide) (hts (.fieldLink RX1 22 "TileDesk$Pieces" "size" "I") (td_i2 (List.mem_of_getElem? (i := 10) rfl))) (fun _ h9 => h9) rfl dX1_append_52 ?_
            refine lv_iload_n hx hb dX1_append_55 rfl (lv_at hl 3 rfl) ?_
            refine td_iast hx hb hK hP hD hS 2 0 n rfl rfl rfl (by omega) (by decide) dX1_append_56 (fun H locs hP hD hS => ?_)
            have hP : va_P (dC, dI) vwCl [(qP, .inr (1, [.ref pC, .ref pT, .ref pV, .int (nI n)])), (pC, .inl (cJ, 1536, .inr (.inl (vp_updL (vp_updL (vp_updL fC (3 * n + 0) (td_pk (vX 0) (vY 0) (vR 0) (vL 0))) (3 * n + 1) (td_pk (vX 1) (vY 1) (vR 1) (vL 1))) (3 * n + 2) (td_pk (vX 2) (vY 2) (vR 2) (vL 2)))))), (pT, .inl (cI, 512, .inl (upd fT n tn))), (pV, .inl (cI, 512, .inl fV)), (qS, .inr (0, [.ref aX, .ref aY, .ref aR, .ref aL, .ref aW])), (aX, .inl (cJ, 3, .inr (.inl vX))), (aY, .inl (cJ, 3, .inr (.inl vY))), (aR, .inl (cJ, 3, .inr (.inl vR))), (aL, .inl (cJ, 3, .inr (.inl vL))), (aW, .inl (cJ, 3, .inr (.inl vW)))] H := hP
            have hD : va_D A [(qP, .inr (1, [.ref pC, .ref pT, .ref pV, .int (nI n)])), (pC, .inl (cJ, 1536, .inr (.inl (vp_updL (vp_updL (vp_updL fC (3 * n + 0) (td_pk (vX 0) (vY 0) (vR 0) (vL 0))) (3 * n + 1) (td_pk (vX 1) (vY 1) (vR 1) (vL 1))) (3 * n + 2) (td_pk (vX 2) (vY 2) (vR 2) (vL 2)))))), (pT, .inl (cI, 512, .inl (upd fT n tn))), (pV, .inl (cI, 512, .inl fV)), (qS, .inr (0, [.ref aX, .ref aY, .ref aR, .ref aL, .ref aW])), (aX, .inl (cJ, 3, .inr (.inl vX))), (aY, .inl (cJ, 3, .inr (.inl vY))), (aR, .inl (cJ, 3, .inr (.inl vR))), (aL, .inl (cJ, 3, .inr (.inl vL))), (aW, .inl (cJ, 3, .inr (.inl vW)))] := hD
            refine lv_aload_n hx hb dX1_append_57 rfl (lv_at hl 1 rfl) ?_
            refine va_get (D := (dC, dI)) (ci := 1) (v := .ref pV) (C := RX1) (T := TX1) (N := 4) hx hb hts td_fX1 hown hK hP 0 rfl rfl 2 (by decide) (hts (.fieldLink RX1 19 "TileDesk$Pieces" "covers" "[I") (td_i2 (List.mem_of_getElem? (i := 9) rfl))) (fun _ h9 => h9) rfl dX1_append_58 ?_
            refine lv_aload_n hx hb dX1_append_61 rfl (lv_at hl 1 rfl) ?_
            refine va_get (D := (dC, dI)) (ci := 1) (v := .int (nI n)) (C := RX1) (T := TX1) (N := 4) hx hb hts td_fX1 hown hK hP 0 rfl rfl 3 (by decide) (hts (.fieldLink RX1 22 "TileDesk$Pieces" "size" "I") (td_i2 (List.mem_of_getElem? (i := 10) rfl))) (fun _ h9 => h9) rfl dX1_append_62 ?_
            refine lv_iload_n hx hb dX1_append_65 rfl (lv_at hl 4 rfl) ?_
            refine td_iast hx hb hK hP hD hS 3 0 n rfl rfl rfl (by omega) (by decide) dX1_append_66 (fun H locs hP hD hS => ?_)
            have hP : va_P (dC, dI) vwCl [(qP, .inr (1, [.ref pC, .ref pT, .ref pV, .int (nI n)])), (pC, .inl (cJ, 1536, .inr (.inl (vp_updL (vp_updL (vp_updL fC (3 * n + 0) (td_pk (vX 0) (vY 0) (vR 0) (vL 0))) (3 * n + 1) (td_pk (vX 1) (vY 1) (vR 1) (vL 1))) (3 * n + 2) (td_pk (vX 2) (vY 2) (vR 2) (vL 2)))))), (pT, .inl (cI, 512, .inl (upd fT n tn))), (pV, .inl (cI, 512, .inl (upd fV n cv))), (qS, .inr (0, [.ref aX, .ref aY, .ref aR, .ref aL, .ref aW])), (aX, .inl (cJ, 3, .inr (.inl vX))), (aY, .inl (cJ, 3, .inr (.inl vY))), (aR, .inl (cJ, 3, .inr (.inl vR))), (aL, .inl (cJ, 3, .inr (.inl vL))), (aW, .inl (cJ, 3, .inr (.inl vW)))] H := hP
            have hD : va_D A [(qP, .inr (1, [.ref pC, .ref pT, .ref pV, .int (nI n)])), (pC, .inl (cJ, 1536, .inr (.inl (vp_updL (vp_updL (vp_updL fC (3 * n + 0) (td_pk (vX 0) (vY 0) (vR 0) (vL 0))) (3 * n + 1) (td_pk (vX 1) (vY 1) (vR 1) (vL 1))) (3 * n + 2) (td_pk (vX 2) (vY 2) (vR 2) (vL 2)))))), (pT, .inl (cI, 512, .inl (upd fT n tn))), (pV, .inl (cI, 512, .inl (upd fV n cv))), (qS, .inr (0, [.ref aX, .ref aY, .ref aR, .ref aL, .ref aW])), (aX, .inl (cJ, 3, .inr (.inl vX))), (aY, .inl (cJ, 3, .inr (.inl vY))), (aR, .inl (cJ, 3, .inr (.inl vR))), (aL, .inl (cJ, 3, .inr (.inl vL))), (aW, .inl (cJ, 3, .inr (.inl vW)))] := hD
            refine lv_aload_n hx hb dX1_append_67 rfl (lv_at hl 1 rfl) ?_
            refine lv_dup hx hb dX1_append_68 rfl ?_
            refine va_get (D := (dC, dI)) (ci := 1) (v := .int (nI n)) (C := RX1) (T := TX1) (N := 4) hx hb hts td_fX1 hown hK hP 0 rfl rfl 3 (by decide) (hts (.fieldLink RX1 22 "TileDesk$Pieces" "size" "I") (td_i2 (List.mem_of_getElem? (i := 10) rfl))) (fun _ h9 => h9) rfl dX1_append_69 ?_
            refine lv_dup_x1 hx hb dX1_append_72 rfl rfl ?_
            refine lv_iconst (v := 1) hx hb dX1_append_73 (by decide) ?_
            refine lv_iadd hx hb dX1_append_74 ?_
            refine td_ti (nI (n + 1)) (nI_add n 1) ?_
            refine va_put (D := (dC, dI)) (ci := 1) (v := .int (nI (n + 1))) (ty := .int) (C := RX1) (T := TX1) (N := 4) hx hb hts td_fX1 tyX1 tyX1_ok nmX1 hown hK hP hD hS 0 rfl rfl 3 (by decide) (hts (.fieldLink RX1 22 "TileDesk$Pieces" "size" "I") (td_i2 (List.mem_of_getElem? (i := 10) rfl))) (fun _ h9 => h9) rfl (by decide +kernel) rfl rfl (Nat.le_of_ble_eq_true rfl) dX1_append_75 (fun H locs hP hD hS => ?_)
            have hP : va_P (dC, dI) vwCl [(qP, .inr (1, [.ref pC, .ref pT, .ref pV, .int (nI (n + 1))])), (pC, .inl (cJ, 1536, .inr (.inl (vp_updL (vp_updL (vp_updL fC (3 * n + 0) (td_pk (vX 0) (vY 0) (vR 0) (vL 0))) (3 * n + 1) (td_pk (vX 1) (vY 1) (vR 1) (vL 1))) (3 * n + 2) (td_pk (vX 2) (vY 2) (vR 2) (vL 2)))))), (pT, .inl (cI, 512, .inl (upd fT n tn))), (pV, .inl (cI, 512, .inl (upd fV n cv))), (qS, .inr (0, [.ref aX, .ref aY, .ref aR, .ref aL, .ref aW])), (aX, .inl (cJ, 3, .inr (.inl vX))), (aY, .inl (cJ, 3, .inr (.inl vY))), (aR, .inl (cJ, 3, .inr (.inl vR))), (aL, .inl (cJ, 3, .inr (.inl vL))), (aW, .inl (cJ, 3, .inr (.inl vW)))] H := hP
            have hD : va_D A [(qP, .inr (1, [.ref pC, .ref pT, .ref pV, .int (nI (n + 1))])), (pC, .inl (cJ, 1536, .inr (.inl (vp_updL (vp_updL (vp_updL fC (3 * n + 0) (td_pk (vX 0) (vY 0) (vR 0) (vL 0))) (3 * n + 1) (td_pk (vX 1) (vY 1) (vR 1) (vL 1))) (3 * n + 2) (td_pk (vX 2) (vY 2) (vR 2) (vL 2)))))), (pT, .inl (cI, 512, .inl (upd fT n tn))), (pV, .inl (cI, 512, .inl (upd fV n cv))), (qS, .inr (0, [.ref aX, .ref aY, .ref aR, .ref aL, .ref aW])), (aX, .inl (cJ, 3, .inr (.inl vX))), (aY, .inl (cJ, 3, .inr (.inl vY))), (aR, .inl (cJ, 3, .inr (.inl vR))), (aL, .inl (cJ, 3, .inr (.inl vL))), (aW, .inl (cJ, 3, .inr (.inl vW)))] := hD
            have hP9 := hP.sub (ws' := [(qP, .inr (1, [.ref pC, .ref pT, .ref pV, .int (nI (n + 1))])), (pC, .inl (cJ, 1536, .inr (.inl (vp_updL (vp_updL (vp_updL fC (3 * n + 0) (td_pk (vX 0) (vY 0) (vR 0) (vL 0))) (3 * n + 1) (td_pk (vX 1) (vY 1) (vR 1) (vL 1))) (3 * n + 2) (td_pk (vX 2) (vY 2) (vR 2) (vL 2)))))), (pT, .inl (cI, 512, .inl (upd fT n tn))), (pV, .inl (cI, 512, .inl (upd fV n cv))), (qS, .inr (0, [.ref aX, .ref aY, .ref aR, .ref aL, .ref aW])), (aX, .inl (cJ, 3, .inr (.inl vX))), (aY, .inl (cJ, 3, .inr (.inl vY))), (aR, .inl (cJ, 3, .inr (.inl vR))), (aL, .inl (cJ, 3, .inr (.inl vL))), (aW, .inl (cJ, 3, .inr (.inl vW)))]) [0, 1, 2, 3, 4, 5, 6, 7, 8, 9] rfl
            have hD9 := hD.sub (ws' := [(qP, .inr (1, [.ref pC, .ref pT, .ref pV, .int (nI (n + 1))])), (pC, .inl (cJ, 1536, .inr (.inl (vp_updL (vp_updL (vp_updL fC (3 * n + 0) (td_pk (vX 0) (vY 0) (vR 0) (vL 0))) (3 * n + 1) (td_pk (vX 1) (vY 1) (vR 1) (vL 1))) (3 * n + 2) (td_pk (vX 2) (vY 2) (vR 2) (vL 2)))))), (pT, .inl (cI, 512, .inl (upd fT n tn))), (pV, .inl (cI, 512, .inl (upd fV n cv))), (qS, .inr (0, [.ref aX, .ref aY, .ref aR, .ref aL, .ref aW])), (aX, .inl (cJ, 3, .inr (.inl vX))), (aY, .inl (cJ, 3, .inr (.inl vY))), (aR, .inl (cJ, 3, .inr (.inl vR))), (aL, .inl (cJ, 3, .inr (.inl vL))), (aW, .inl (cJ, 3, .inr (.inl vW)))]) [0, 1, 2, 3, 4, 5, 6, 7, 8, 9] (by decide) rfl
            exact td_rwi (vp_updL (vp_updL (vp_updL fC (3 * n + 0) (td_pk (vX 0) (vY 0) (vR 0) (vL 0))) (3 * n + 1) (td_pk (vX 1) (vY 1) (vR 1) (vL 1))) (3 * n + 2) (td_pk (vX 2) (vY 2) (vR 2) (vL 2)), upd fT n tn, upd fV n cv, n + 1) hx hb hr rfl hlocks hK (Or.inr ⟨hn2, rfl, rfl, rfl, rfl, rfl⟩) hP9 hD9 hS dX1_append_78
          · exact absurd c18_4 (by decide)
  · have hn2 : n = 512 := by rcases Nat.lt_or_ge n 512 with h | h; exact absurd (nI_lt h (by omega)) c7; omega
    refine lv_iconst (v := (-1)) hx hb dX1_append_10 (by decide) ?_
    have hP9 := hP.sub (ws' := [(qP, .inr (1, [.ref pC, .ref pT, .ref pV, .int (nI n)])), (pC, .inl (cJ, 1536, .inr (.inl fC))), (pT, .inl (cI, 512, .inl fT)), (pV, .inl (cI, 512, .inl fV)), (qS, .inr (0, [.ref aX, .ref aY, .ref aR, .ref aL, .ref aW])), (aX, .inl (cJ, 3, .inr (.inl vX))), (aY, .inl (cJ, 3, .inr (.inl vY))), (aR, .inl (cJ, 3, .inr (.inl vR))), (aL, .inl (cJ, 3, .inr (.inl vL))), (aW, .inl (cJ, 3, .inr (.inl vW)))]) [0, 1, 2, 3, 4, 5, 6, 7, 8, 9] rfl
    have hD9 := hD.sub (ws' := [(qP, .inr (1, [.ref pC, .ref pT, .ref pV, .int (nI n)])), (pC, .inl (cJ, 1536, .inr (.inl fC))), (pT, .inl (cI, 512, .inl fT)), (pV, .inl (cI, 512, .inl fV)), (qS, .inr (0, [.ref aX, .ref aY, .ref aR, .ref aL, .ref aW])), (aX, .inl (cJ, 3, .inr (.inl vX))), (aY, .inl (cJ, 3, .inr (.inl vY))), (aR, .inl (cJ, 3, .inr (.inl vR))), (aL, .inl (cJ, 3, .inr (.inl vL))), (aW, .inl (cJ, 3, .inr (.inl vW)))]) [0, 1, 2, 3, 4, 5, 6, 7, 8, 9] (by decide) rfl
    exact td_rwi (fC, fT, fV, n) hx hb hr rfl hlocks hK (Or.inl ⟨hn2, rfl, rfl, rfl, rfl, rfl⟩) hP9 hD9 hS dX1_append_11
set_option maxHeartbeats 4000000 in
set_option maxRecDepth 100000 in
/-- Pieces.copyFrom -/
theorem td_copyFrom (l : Launch) (dC : Nat → ClassId) (dI : Nat → Nat → Nat) (cI cJ cZ : ClassId) (sz : Nat) (qP : Nat) (pC : Nat) (pT : Nat) (pV : Nat) (fC : Nat → Int64) (fT : Nat → Int32) (fV : Nat → Int32) (n : Nat) (qP2 : Nat) (pC2 : Nat) (pT2 : Nat) (pV2 : Nat) (fC2 : Nat → Int64) (fT2 : Nat → Int32) (fV2 : Nat → Int32) (n2 : Nat) (hn : n2 ≤ 512) : Met l yX1_copyFrom wsX1_copyFrom ({ frames := 1, cells := 0, slots := 0, locals := 18 }) (td_WP (dC, dI) vwCl (td_T cI cJ cZ) td_nl [(qP, .inr (1, [.ref pC, .ref pT, .ref pV, .int (nI n)])), (pC, .inl (cJ, 1536, .inr (.inl fC))), (pT, .inl (cI, 512, .inl fT)), (pV, .inl (cI, 512, .inl fV)), (qP2, .inr (1, [.ref pC2, .ref pT2, .ref pV2, .int (nI n2)])), (pC2, .inl (cJ, 1536, .inr (.inl fC2))), (pT2, .inl (cI, 512, .inl fT2)), (pV2, .inl (cI, 512, .inl fV2))] sz [.ref qP, .ref qP2]) (va_Qv (S := Unit) (fun u => True) (td_B (dC, dI) vwCl (td_T cI cJ cZ) (va_A [(qP, .inr (1, [.ref pC, .ref pT, .ref pV, .int (nI n)])), (pC, .inl (cJ, 1536, .inr (.inl fC))), (pT, .inl (cI, 512, .inl fT)), (pV, .inl (cI, 512, .inl fV)), (qP2, .inr (1, [.ref pC2, .ref pT2, .ref pV2, .int (nI n2)])), (pC2, .inl (cJ, 1536, .inr (.inl fC2))), (pT2, .inl (cI, 512, .inl fT2)), (pV2, .inl (cI, 512, .inl fV2))] sz) (fun (u : Unit) => [(qP, .inr (1, [.ref pC, .ref pT, .ref pV, .int (nI n2)])), (pC, .inl (cJ, 1536, .inr (.inl (va_cpy fC2 fC 0 0 (3 * n2))))), (pT, .inl (cI, 512, .inl (va_cpy fT2 fT 0 0 n2))), (pV, .inl (cI, 512, .inl (va_cpy fV2 fV 0 0 n2))), (qP2, .inr (1, [.ref pC2, .ref pT2, .ref pV2, .int (nI n2)])), (pC2, .inl (cJ, 1536, .inr (.inl fC2))), (pT2, .inl (cI, 512, .inl fT2)), (pV2, .inl (cI, 512, .inl fV2))])) (va_A [(qP, .inr (1, [.ref pC, .ref pT, .ref pV, .int (nI n)])), (pC, .inl (cJ, 1536, .inr (.inl fC))), (pT, .inl (cI, 512, .inl fT)), (pV, .inl (cI, 512, .inl fV)), (qP2, .inr (1, [.ref pC2, .ref pT2, .ref pV2, .int (nI n2)])), (pC2, .inl (cJ, 1536, .inr (.inl fC2))), (pT2, .inl (cI, 512, .inl fT2)), (pV2, .inl (cI, 512, .inl fV2))] sz)) 0 0 (va_A [(qP, .inr (1, [.ref pC, .ref pT, .ref pV, .int (nI n)])), (pC, .inl (cJ, 1536, .inr (.inl fC))), (pT, .inl (cI, 512, .inl fT)), (pV, .inl (cI, 512, .inl fV)), (qP2, .inr (1, [.ref pC2, .ref pT2, .ref pV2, .int (nI n2)])), (pC2, .inl (cJ, 1536, .inr (.inl fC2))), (pT2, .inl (cI, 512, .inl fT2)), (pV2, .inl (cI, 512, .inl fV2))] sz) := by
  refine Met.ofW (cc := cX1_copyFrom) (maxL := 2) (ret := none) (by decide) rfl ?_
  intro p e s m args below meth c s₁ B hml hv
  obtain ⟨rfl, hsz, hP, hK, hZ, hD0⟩ := hv
  have hx := B.exec
  have hb := B.bytes
  have hr := B.returns
  have hts := atoms_spec (ws := wsX1_copyFrom) B.pre
  have hown : s.vm.findClass RX1 = some m.cls := findClass_of_methodNamed B.named
  have hlocks := B.notSynchronized
  subst hsz
  have hD := hD0.self (sz := s.heap.size)
  generalize hAe : va_A [(qP, .inr (1, [.ref pC, .ref pT, .ref pV, .int (nI n)])), (pC, .inl (cJ, 1536, .inr (.inl fC))), (pT, .inl (cI, 512, .inl fT)), (pV, .inl (cI, 512, .inl fV)), (qP2, .inr (1, [.ref pC2, .ref pT2, .ref pV2, .int (nI n2)])), (pC2, .inl (cJ, 1536, .inr (.inl fC2))), (pT2, .inl (cI, 512, .inl fT2)), (pV2, .inl (cI, 512, .inl fV2))] s.heap.size = A at hD ⊢
  have hA : ∀ q : Nat, s.heap.size ≤ q → A q := fun q h => by rw [← hAe]; exact Or.inr h
  have hS : va_S A s.heap s.heap [] := va_S.rf
  have hP : va_P (dC, dI) vwCl [(qP, .inr (1, [.ref pC, .ref pT, .ref pV, .int (nI n)])), (pC, .inl (cJ, 1536, .inr (.inl fC))), (pT, .inl (cI, 512, .inl fT)), (pV, .inl (cI, 512, .inl fV)), (qP2, .inr (1, [.ref pC2, .ref pT2, .ref pV2, .int (nI n2)])), (pC2, .inl (cJ, 1536, .inr (.inl fC2))), (pT2, .inl (cI, 512, .inl fT2)), (pV2, .inl (cI, 512, .inl fV2))] s.heap := hP
  have hl := lv_entry ([.ref qP, .ref qP2]) (n := 2) (Nat.le_of_ble_eq_true rfl)
  rw [lg_entry_eq]
  generalize (lg_sl ([.ref qP, .ref qP2]) ++ List.replicate (2 - (lg_sl ([.ref qP, .ref qP2])).length) Slot.unset).toArray = ls at hl ⊢
  have hl : lv_has ls 2 [(0, .ref qP), (1, .ref qP2)] := hl
  refine lv_aload_n hx hb dX1_copyFrom_0 rfl (lv_at hl 0 rfl) ?_
  refine lv_aload_n hx hb dX1_copyFrom_1 rfl (lv_at hl 1 rfl) ?_
  refine va_get (D := (dC, dI)) (ci := 1) (v := .int (nI n2)) (C := RX1) (T := TX1) (N := 4) hx hb hts td_fX1 hown hK hP 4 rfl rfl 3 (by decide) (hts (.fieldLink RX1 22 "TileDesk$Pieces" "size" "I") (td_i2 (List.mem_of_getElem? (i := 10) rfl))) (fun _ h9 => h9) rfl dX1_copyFrom_2 ?_
  refine va_put (D := (dC, dI)) (ci := 1) (v := .int (nI n2)) (ty := .int) (C := RX1) (T := TX1) (N := 4) hx hb hts td_fX1 tyX1 tyX1_ok nmX1 hown hK hP hD hS 0 rfl rfl 3 (by decide) (hts (.fieldLink RX1 22 "TileDesk$Pieces" "size" "I") (td_i2 (List.mem_of_getElem? (i := 10) rfl))) (fun _ h9 => h9) rfl (by decide +kernel) rfl rfl (Nat.le_of_ble_eq_true rfl) dX1_copyFrom_5 (fun H locs hP hD hS => ?_)
  have hP : va_P (dC, dI) vwCl [(qP, .inr (1, [.ref pC, .ref pT, .ref pV, .int (nI n2)])), (pC, .inl (cJ, 1536, .inr (.inl fC))), (pT, .inl (cI, 512, .inl fT)), (pV, .inl (cI, 512, .inl fV)), (qP2, .inr (1, [.ref pC2, .ref pT2, .ref pV2, .int (nI n2)])), (pC2, .inl (cJ, 1536, .inr (.inl fC2))), (pT2, .inl (cI, 512, .inl fT2)), (pV2, .inl (cI, 512, .inl fV2))] H := hP
  have hD : va_D A [(qP, .inr (1, [.ref pC, .ref pT, .ref pV, .int (nI n2)])), (pC, .inl (cJ, 1536, .inr (.inl fC))), (pT, .inl (cI, 512, .inl fT)), (pV, .inl (cI, 512, .inl fV)), (qP2, .inr (1, [.ref pC2, .ref pT2, .ref pV2, .int (nI n2)])), (pC2, .inl (cJ, 1536, .inr (.inl fC2))), (pT2, .inl (cI, 512, .inl fT2)), (pV2, .inl (cI, 512, .inl fV2))] := hD
  refine lv_aload_n hx hb dX1_copyFrom_8 rfl (lv_at hl 1 rfl) ?_
  refine va_get (D := (dC, dI)) (ci := 1) (v := .ref pC2) (C := RX1) (T := TX1) (N := 4) hx hb hts td_fX1 hown hK hP 4 rfl rfl 0 (by decide) (hts (.fieldLink RX1 9 "TileDesk$Pieces" "corners" "[J") (td_i2 (List.mem_of_getElem? (i := 7) rfl))) (fun _ h9 => h9) rfl dX1_copyFrom_9 ?_
  refine lv_iconst (v := 0) hx hb dX1_copyFrom_12 (by decide) ?_
  refine lv_aload_n hx hb dX1_copyFrom_13 rfl (lv_at hl 0 rfl) ?_
  refine va_get (D := (dC, dI)) (ci := 1) (v := .ref pC) (C := RX1) (T := TX1) (N := 4) hx hb hts td_fX1 hown hK hP 0 rfl rfl 0 (by decide) (hts (.fieldLink RX1 9 "TileDesk$Pieces" "corners" "[J") (td_i2 (List.mem_of_getElem? (i := 7) rfl))) (fun _ h9 => h9) rfl dX1_copyFrom_14 ?_
  refine lv_iconst (v := 0) hx hb dX1_copyFrom_17 (by decide) ?_
  refine lv_iconst (v := 3) hx hb dX1_copyFrom_18 (by decide) ?_
  refine lv_aload_n hx hb dX1_copyFrom_19 rfl (lv_at hl 0 rfl) ?_
  refine va_get (D := (dC, dI)) (ci := 1) (v := .int (nI n2)) (C := RX1) (T := TX1) (N := 4) hx hb hts td_fX1 hown hK hP 0 rfl rfl 3 (by decide) (hts (.fieldLink RX1 22 "TileDesk$Pieces" "size" "I") (td_i2 (List.mem_of_getElem? (i := 10) rfl))) (fun _ h9 => h9) rfl dX1_copyFrom_20 ?_
  refine lv_imul hx hb dX1_copyFrom_23 ?_
  refine td_ti (nI (3 * n2)) (pk_mul 3 n2) ?_
  refine va_copyl hx hb (by rw [hml]; exact hl.1.symm) hown (hts _ (td_i6 (List.mem_of_getElem? (i := 12) rfl))) (hts _ (td_i6 (List.mem_of_getElem? (i := 14) rfl))) (hts _ (td_i6 (List.mem_of_getElem? (i := 13) rfl))) (hts _ (td_i1 (List.mem_of_getElem? (i := 7) rfl))) hK hP hD hS 5 1 1 1 rfl rfl rfl rfl rfl (by decide) (by decide) (nI_pos (by omega)) (by rw [nI_clamp (by omega), sb_cl0]; omega) (by rw [nI_clamp (by omega), sb_cl0]; omega) (fun _ _ => rfl) (Nat.le_of_ble_eq_true rfl) (Nat.le_of_ble_eq_true rfl) dX1_copyFrom_24 (fun H locs hP hD hS => ?_)
  rw [nI_clamp (by omega), sb_cl0] at hP hD
  have hP : va_P (dC, dI) vwCl [(qP, .inr (1, [.ref pC, .ref pT, .ref pV, .int (nI n2)])), (pC, .inl (cJ, 1536, .inr (.inl (va_cpy fC2 fC 0 0 (3 * n2))))), (pT, .inl (cI, 512, .inl fT)), (pV, .inl (cI, 512, .inl fV)), (qP2, .inr (1, [.ref pC2, .ref pT2, .ref pV2, .int (nI n2)])), (pC2, .inl (cJ, 1536, .inr (.inl fC2))), (pT2, .inl (cI, 512, .inl fT2)), (pV2, .inl (cI, 512, .inl fV2))] H := hP
  have hD : va_D A [(qP, .inr (1, [.ref pC, .ref pT, .ref pV, .int (nI n2)])), (pC, .inl (cJ, 1536, .inr (.inl (va_cpy fC2 fC 0 0 (3 * n2))))), (pT, .inl (cI, 512, .inl fT)), (pV, .inl (cI, 512, .inl fV)), (qP2, .inr (1, [.ref pC2, .ref pT2, .ref pV2, .int (nI n2)])), (pC2, .inl (cJ, 1536, .inr (.inl fC2))), (pT2, .inl (cI, 512, .inl fT2)), (pV2, .inl (cI, 512, .inl fV2))] := hD
  refine lv_aload_n hx hb dX1_copyFrom_27 rfl (lv_at hl 1 rfl) ?_
  refine va_get (D := (dC, dI)) (ci := 1) (v := .ref pT2) (C := RX1) (T := TX1) (N := 4) hx hb hts td_fX1 hown hK hP 4 rfl rfl 1 (by decide) (hts (.fieldLink RX1 15 "TileDesk$Pieces" "tints" "[I") (td_i2 (List.mem_of_getElem? (i := 8) rfl))) (fun _ h9 => h9) rfl dX1_copyFrom_28 ?_
  refine lv_iconst (v := 0) hx hb dX1_copyFrom_31 (by decide) ?_
  refine lv_aload_n hx hb dX1_copyFrom_32 rfl (lv_at hl 0 rfl) ?_
  refine va_get (D := (dC, dI)) (ci := 1) (v := .ref pT) (C := RX1) (T := TX1) (N := 4) hx hb hts td_fX1 hown hK hP 0 rfl rfl 1 (by decide) (hts (.fieldLink RX1 15 "TileDesk$Pieces" "tints" "[I") (td_i2 (List.mem_of_getElem? (i := 8) rfl))) (fun _ h9 => h9) rfl dX1_copyFrom_33 ?_
  refine lv_iconst (v := 0) hx hb dX1_copyFrom_36 (by decide) ?_
  refine lv_aload_n hx hb dX1_copyFrom_37 rfl (lv_at hl 0 rfl) ?_
  refine va_get (D := (dC, dI)) (ci := 1) (v := .int (nI n2)) (C := RX1) (T := TX1) (N := 4) hx hb hts td_fX1 hown hK hP 0 rfl rfl 3 (by decide) (hts (.fieldLink RX1 22 "TileDesk$Pieces" "size" "I") (td_i2 (List.mem_of_getElem? (i := 10) rfl))) (fun _ h9 => h9) rfl dX1_copyFrom_38 ?_
  refine va_copyi hx hb (by rw [hml]; exact hl.1.symm) hown (hts _ (td_i6 (List.mem_of_getElem? (i := 12) rfl))) (hts _ (td_i6 (List.mem_of_getElem? (i := 14) rfl))) (hts _ (td_i6 (List.mem_of_getElem? (i := 13) rfl))) (hts _ (td_i1 (List.mem_of_getElem? (i := 7) rfl))) hK hP hD hS 6 2 0 0 rfl rfl rfl rfl rfl (by decide) (by decide) (nI_pos (by omega)) (by rw [nI_clamp (by omega), sb_cl0]; omega) (by rw [nI_clamp (by omega), sb_cl0]; omega) (fun _ _ => rfl) (Nat.le_of_ble_eq_true rfl) (Nat.le_of_ble_eq_true rfl) dX1_copyFrom_41 (fun H locs hP hD hS => ?_)
  rw [nI_clamp (by omega), sb_cl0] at hP hD
  have hP : va_P (dC, dI) vwCl [(qP, .inr (1, [.ref pC, .ref pT, .ref pV, .int (nI n2)])), (pC, .inl (cJ, 1536, .inr (.inl (va_cpy fC2 fC 0 0 (3 * n2))))), (pT, .inl (cI, 512, .inl (va_cpy fT2 fT 0 0 n2))), (pV, .inl (cI, 512, .inl fV)), (qP2, .inr (1, [.ref pC2, .ref pT2, .ref pV2, .int (nI n2)])), (pC2, .inl (cJ, 1536, .inr (.inl fC2))), (pT2, .inl (cI, 512, .inl fT2)), (pV2, .inl (cI, 512, .inl fV2))] H := hP
  have hD : va_D A [(qP, .inr (1, [.ref pC, .ref pT, .ref pV, .int (nI n2)])), (pC, .inl (cJ, 1536, .inr (.inl (va_cpy fC2 fC 0 0 (3 * n2))))), (pT, .inl (cI, 512, .inl (va_cpy fT2 fT 0 0 n2))), (pV, .inl (cI, 512, .inl fV)), (qP2, .inr (1, [.ref pC2, .ref pT2, .ref pV2, .int (nI n2)])), (pC2, .inl (cJ, 1536, .inr (.inl fC2))), (pT2, .inl (cI, 512, .inl fT2)), (pV2, .inl (cI, 512, .inl fV2))] := hD
  refine lv_aload_n hx hb dX1_copyFrom_44 rfl (lv_at hl 1 rfl) ?_
  refine va_get (D := (dC, dI)) (ci := 1) (v := .ref pV2) (C := RX1) (T := TX1) (N := 4) hx hb hts td_fX1 hown hK hP 4 rfl rfl 2 (by decide) (hts (.fieldLink RX1 19 "TileDesk$Pieces" "covers" "[I") (td_i2 (List.mem_of_getElem? (i := 9) rfl))) (fun _ h9 => h9) rfl dX1_copyFrom_45 ?_
  refine lv_iconst (v := 0) hx hb dX1_copyFrom_48 (by decide) ?_
  refine lv_aload_n hx hb dX1_copyFrom_49 rfl (lv_at hl 0 rfl) ?_
  refine va_get (D := (dC, dI)) (ci := 1) (v := .ref pV) (C := RX1) (T := TX1) (N := 4) hx hb hts td_fX1 hown hK hP 0 rfl rfl 2 (by decide) (hts (.fieldLink RX1 19 "TileDesk$Pieces" "covers" "[I") (td_i2 (List.mem_of_getElem? (i := 9) rfl))) (fun _ h9 => h9) rfl dX1_copyFrom_50 ?_
  refine lv_iconst (v := 0) hx hb dX1_copyFrom_53 (by decide) ?_
  refine lv_aload_n hx hb dX1_copyFrom_54 rfl (lv_at hl 0 rfl) ?_
  refine va_get (D := (dC, dI)) (ci := 1) (v := .int (nI n2)) (C := RX1) (T := TX1) (N := 4) hx hb hts td_fX1 hown hK hP 0 rfl rfl 3 (by decide) (hts (.fieldLink RX1 22 "TileDesk$Pieces" "size" "I") (td_i2 (List.mem_of_getElem? (i := 10) rfl))) (fun _ h9 => h9) rfl dX1_copyFrom_55 ?_
  refine va_copyi hx hb (by rw [hml]; exact hl.1.symm) hown (hts _ (td_i6 (List.mem_of_getElem? (i := 12) rfl))) (hts _ (td_i6 (List.mem_of_getElem? (i := 14) rfl))) (hts _ (td_i6 (List.mem_of_getElem? (i := 13) rfl))) (hts _ (td_i1 (List.mem_of_getElem? (i := 7) rfl))) hK hP hD hS 7 3 0 0 rfl rfl rfl rfl rfl (by decide) (by decide) (nI_pos (by omega)) (by rw [nI_clamp (by omega), sb_cl0]; omega) (by rw [nI_clamp (by omega), sb_cl0]; omega) (fun _ _ => rfl) (Nat.le_of_ble_eq_true rfl) (Nat.le_of_ble_eq_true rfl) dX1_copyFrom_58 (fun H locs hP hD hS => ?_)
  rw [nI_clamp (by omega), sb_cl0] at hP hD
  have hP : va_P (dC, dI) vwCl [(qP, .inr (1, [.ref pC, .ref pT, .ref pV, .int (nI n2)])), (pC, .inl (cJ, 1536, .inr (.inl (va_cpy fC2 fC 0 0 (3 * n2))))), (pT, .inl (cI, 512, .inl (va_cpy fT2 fT 0 0 n2))), (pV, .inl (cI, 512, .inl (va_cpy fV2 fV 0 0 n2))), (qP2, .inr (1, [.ref pC2, .ref pT2, .ref pV2, .int (nI n2)])), (pC2, .inl (cJ, 1536, .inr (.inl fC2))), (pT2, .inl (cI, 512, .inl fT2)), (pV2, .inl (cI, 512, .inl fV2))] H := hP
  have hD : va_D A [(qP, .inr (1, [.ref pC, .ref pT, .ref pV, .int (nI n2)])), (pC, .inl (cJ, 1536, .inr (.inl (va_cpy fC2 fC 0 0 (3 * n2))))), (pT, .inl (cI, 512, .inl (va_cpy fT2 fT 0 0 n2))), (pV, .inl (cI, 512, .inl (va_cpy fV2 fV 0 0 n2))), (qP2, .inr (1, [.ref pC2, .ref pT2, .ref pV2, .int (nI n2)])), (pC2, .inl (cJ, 1536, .inr (.inl fC2))), (pT2, .inl (cI, 512, .inl fT2)), (pV2, .inl (cI, 512, .inl fV2))] := hD
  have hP9 := hP.sub (ws' := [(qP, .inr (1, [.ref pC, .ref pT, .ref pV, .int (nI n2)])), (pC, .inl (cJ, 1536, .inr (.inl (va_cpy fC2 fC 0 0 (3 * n2))))), (pT, .inl (cI, 512, .inl (va_cpy fT2 fT 0 0 n2))), (pV, .inl (cI, 512, .inl (va_cpy fV2 fV 0 0 n2))), (qP2, .inr (1, [.ref pC2, .ref pT2, .ref pV2, .int (nI n2)])), (pC2, .inl (cJ, 1536, .inr (.inl fC2))), (pT2, .inl (cI, 512, .inl fT2)), (pV2, .inl (cI, 512, .inl fV2))]) [0, 1, 2, 3, 4, 5, 6, 7] rfl
  have hD9 := hD.sub (ws' := [(qP, .inr (1, [.ref pC, .ref pT, .ref pV, .int (nI n2)])), (pC, .inl (cJ, 1536, .inr (.inl (va_cpy fC2 fC 0 0 (3 * n2))))), (pT, .inl (cI, 512, .inl (va_cpy fT2 fT 0 0 n2))), (pV, .inl (cI, 512, .inl (va_cpy fV2 fV 0 0 n2))), (qP2, .inr (1, [.ref pC2, .ref pT2, .ref pV2, .int (nI n2)])), (pC2, .inl (cJ, 1536, .inr (.inl fC2))), (pT2, .inl (cI, 512, .inl fT2)), (pV2, .inl (cI, 512, .inl fV2))]) [0, 1, 2, 3, 4, 5, 6, 7] (by decide) rfl
  exact td_rwv () hx hb hr hlocks hK (trivial) hP9 hD9 hS dX1_copyFrom_61
set_option maxHeartbeats 4000000 in
set_option maxRecDepth 100000 in
/-- Pieces.unpackTo -/
theorem td_unpackTo (l : Launch) (dC : Nat → ClassId) (dI : Nat → Nat → Nat) (cI cJ cZ : ClassId) (sz : Nat) (qP : Nat) (pC : Nat) (pT : Nat) (pV : Nat) (fC : Nat → Int64) (fT : Nat → Int32) (fV : Nat → Int32) (n : Nat) (qS : Nat) (aX : Nat) (aY : Nat) (aR : Nat) (aL : Nat) (aW : Nat) (vX : Nat → Int64) (vY : Nat → Int64) (vR : Nat → Int64) (vL : Nat → Int64) (vW : Nat → Int64) (k : Nat) (hk : k < 512) : Met l yX1_unpackTo wsX1_unpackTo ({ frames := 2, cells := 0, slots := 0, locals := 56 }) (td_WP (dC, dI) vwCl (td_T cI cJ cZ) td_nl [(qP, .inr (1, [.ref pC, .ref pT, .ref pV, .int (nI n)])), (pC, .inl (cJ, 1536, .inr (.inl fC))), (pT, .inl (cI, 512, .inl fT)), (pV, .inl (cI, 512, .inl fV)), (qS, .inr (0, [.ref aX, .ref aY, .ref aR, .ref aL, .ref aW])), (aX, .inl (cJ, 3, .inr (.inl vX))), (aY, .inl (cJ, 3, .inr (.inl vY))), (aR, .inl (cJ, 3, .inr (.inl vR))), (aL, .inl (cJ, 3, .inr (.inl vL))), (aW, .inl (cJ, 3, .inr (.inl vW)))] sz [.ref qP, .ref qS, .int (nI k)]) (va_Qv (S := Unit) (fun u => True) (td_B (dC, dI) vwCl (td_T cI cJ cZ) (va_A [(qP, .inr (1, [.ref pC, .ref pT, .ref pV, .int (nI n)])), (pC, .inl (cJ, 1536, .inr (.inl fC))), (pT, .inl (cI, 512, .inl fT)), (pV, .inl (cI, 512, .inl fV)), (qS, .inr (0, [.ref aX, .ref aY, .ref aR, .ref aL, .ref aW])), (aX, .inl (cJ, 3, .inr (.inl vX))), (aY, .inl (cJ, 3, .inr (.inl vY))), (aR, .inl (cJ, 3, .inr (.inl vR))), (aL, .inl (cJ, 3, .inr (.inl vL))), (aW, .inl (cJ, 3, .inr (.inl vW)))] sz) (fun (u : Unit) => [(qP, .inr (1, [.ref pC, .ref pT, .ref pV, .int (nI n)])), (pC, .inl (cJ, 1536, .inr (.inl fC))), (pT, .inl (cI, 512, .inl fT)), (pV, .inl (cI, 512, .inl fV)), (qS, .inr (0, [.ref aX, .ref aY, .ref aR, .ref aL, .ref aW])), (aX, .inl (cJ, 3, .inr (.inl (vp_updL (vp_updL (vp_updL vX 0 (td_ux (fC (3 * k + 0)))) 1 (td_ux (fC (3 * k + 1)))) 2 (td_ux (fC (3 * k + 2))))))), (aY, .inl (cJ, 3, .inr (.inl (vp_updL (vp_updL (vp_updL vY 0 (td_uy (fC (3 * k + 0)))) 1 (td_uy (fC (3 * k + 1)))) 2 (td_uy (fC (3 * k + 2))))))), (aR, .inl (cJ, 3, .inr (.inl (vp_updL (vp_updL (vp_updL vR 0 (td_ur (fC (3 * k + 0)))) 1 (td_ur (fC (3 * k + 1)))) 2 (td_ur (fC (3 * k + 2))))))), (aL, .inl (cJ, 3, .inr (.inl (vp_updL (vp_updL (vp_updL vL 0 (td_ul (fC (3 * k + 0)))) 1 (td_ul (fC (3 * k + 1)))) 2 (td_ul (fC (3 * k + 2))))))), (aW, .inl (cJ, 3, .inr (.inl vW)))])) (va_A [(qP, .inr (1, [.ref pC, .ref pT, .ref pV, .int (nI n)])), (pC, .inl (cJ, 1536, .inr (.inl fC))), (pT, .inl (cI, 512, .inl fT)), (pV, .inl (cI, 512, .inl fV)), (qS, .inr (0, [.ref aX, .ref aY, .ref aR, .ref aL, .ref aW])), (aX, .inl (cJ, 3, .inr (.inl vX))), (aY, .inl (cJ, 3, .inr (.inl vY))), (aR, .inl (cJ, 3, .inr (.inl vR))), (aL, .inl (cJ, 3, .inr (.inl vL))), (aW, .inl (cJ, 3, .inr (.inl vW)))] sz)) 0 0 (va_A [(qP, .inr (1, [.ref pC, .ref pT, .ref pV, .int (nI n)])), (pC, .inl (cJ, 1536, .inr (.inl fC))), (pT, .inl (cI, 512, .inl fT)), (pV, .inl (cI, 512, .inl fV)), (qS, .inr (0, [.ref aX, .ref aY, .ref aR, .ref aL, .ref aW])), (aX, .inl (cJ, 3, .inr (.inl vX))), (aY, .inl (cJ, 3, .inr (.inl vY))), (aR, .inl (cJ, 3, .inr (.inl vR))), (aL, .inl (cJ, 3, .inr (.inl vL))), (aW, .inl (cJ, 3, .inr (.inl vW)))] sz) := by
  refine Met.ofW (cc := cX1_unpackTo) (maxL := 4) (ret := none) (by decide) rfl ?_
  intro p e s m args below meth c s₁ B hml hv
  obtain ⟨rfl, hsz, hP, hK, hZ, hD0⟩ := hv
  have hx := B.exec
  have hb := B.bytes
  have hr := B.returns
  have hts := atoms_spec (ws := wsX1_unpackTo) B.pre
  have hown : s.vm.findClass RX1 = some m.cls := findClass_of_methodNamed B.named
  have hlocks := B.notSynchronized
  subst hsz
  have hD := hD0.self (sz := s.heap.size)
  generalize hAe : va_A [(qP, .inr (1, [.ref pC, .ref pT, .ref pV, .int (nI n)])), (pC, .inl (cJ, 1536, .inr (.inl fC))), (pT, .inl (cI, 512, .inl fT)), (pV, .inl (cI, 512, .inl fV)), (qS, .inr (0, [.ref aX, .ref aY, .ref aR, .ref aL, .ref aW])), (aX, .inl (cJ, 3, .inr (.inl vX))), (aY, .inl (cJ, 3, .inr (.inl vY))), (aR, .inl (cJ, 3, .inr (.inl vR))), (aL, .inl (cJ, 3, .inr (.inl vL))), (aW, .inl (cJ, 3, .inr (.inl vW)))] s.heap.size = A at hD ⊢
  have hA : ∀ q : Nat, s.heap.size ≤ q → A q := fun q h => by rw [← hAe]; exact Or.inr h
  have hS : va_S A s.heap s.heap [] := va_S.rf
  have hP : va_P (dC, dI) vwCl [(qP, .inr (1, [.ref pC, .ref pT, .ref pV, .int (nI n)])), (pC, .inl (cJ, 1536, .inr (.inl fC))), (pT, .inl (cI, 512, .inl fT)), (pV, .inl (cI, 512, .inl fV)), (qS, .inr (0, [.ref aX, .ref aY, .ref aR, .ref aL, .ref aW])), (aX, .inl (cJ, 3, .inr (.inl vX))), (aY, .inl (cJ, 3, .inr (.inl vY))), (aR, .inl (cJ, 3, .inr (.inl vR))), (aL, .inl (cJ, 3, .inr (.inl vL))), (aW, .inl (cJ, 3, .inr (.inl vW)))] s.heap := hP
  have hl := lv_entry ([.ref qP, .ref qS, .int (nI k)]) (n := 4) (Nat.le_of_ble_eq_true rfl)
  rw [lg_entry_eq]
  generalize (lg_sl ([.ref qP, .ref qS, .int (nI k)]) ++ List.replicate (4 - (lg_sl ([.ref qP, .ref qS, .int (nI k)])).length) Slot.unset).toArray = ls at hl ⊢
  have hl : lv_has ls 4 [(0, .ref qP), (1, .ref qS), (2, .int (nI k))] := hl
  refine lv_iconst (v := 0) hx hb dX1_unpackTo_0 (by decide) ?_
  refine lv_istore_n (lv' := [(3, .int 0), (0, .ref qP), (1, .ref qS), (2, .int (nI k))]) hx hb dX1_unpackTo_1 rfl hl (by decide) rfl (fun ls hl => ?_)
  refine lv_iload_n hx hb dX1_unpackTo_2 rfl (lv_at hl 0 rfl) ?_
  refine lv_iconst (v := 3) hx hb dX1_unpackTo_3 (by decide) ?_
  refine lv_icmp_ge (tgt := 28) hx hb dX1_unpackTo_4 (by decide) (fun c4_1 => ?_) (fun c4_1 => ?_)
  · exact absurd c4_1 (by decide)
  · refine lv_aload_n hx hb dX1_unpackTo_7 rfl (lv_at hl 2 rfl) ?_
    refine lv_iload_n hx hb dX1_unpackTo_8 rfl (lv_at hl 0 rfl) ?_
    refine lv_aload_n hx hb dX1_unpackTo_9 rfl (lv_at hl 1 rfl) ?_
    refine va_get (D := (dC, dI)) (ci := 1) (v := .ref pC) (C := RX1) (T := TX1) (N := 4) hx hb hts td_fX1 hown hK hP 0 rfl rfl 0 (by decide) (hts (.fieldLink RX1 9 "TileDesk$Pieces" "corners" "[J") (td_i2 (List.mem_of_getElem? (i := 7) rfl))) (fun _ h9 => h9) rfl dX1_unpackTo_10 ?_
    refine lv_iconst (v := 3) hx hb dX1_unpackTo_13 (by decide) ?_
    refine lv_iload_n hx hb dX1_unpackTo_14 rfl (lv_at hl 3 rfl) ?_
    refine lv_imul hx hb dX1_unpackTo_15 ?_
    refine td_ti (nI (3 * k)) (pk_mul 3 k) ?_
    refine lv_iload_n hx hb dX1_unpackTo_16 rfl (lv_at hl 0 rfl) ?_
    refine lv_iadd hx hb dX1_unpackTo_17 ?_
    refine td_ti (nI (3 * k + 0)) (nI_add (3 * k) 0) ?_
    refine td_lald hx hb hK hP 1 1 (3 * k + 0) rfl rfl rfl (by omega) (by decide) dX1_unpackTo_18 ?_
    refine td_cwv (wr := [(qP, .inr (1, [.ref pC, .ref pT, .ref pV, .int (nI n)])), (pC, .inl (cJ, 1536, .inr (.inl fC))), (pT, .inl (cI, 512, .inl fT)), (pV, .inl (cI, 512, .inl fV))]) (va_runV (As := [.int 0, .long (fC (3 * k + 0))]) (rest := []) ⟨hx, hb, hml, hown, hts⟩ (td_unpackCorner l dC dI cI cJ cZ s.heap.size qS aX aY aR aL aW vX vY vR vL vW 0 (fC (3 * k + 0)) (by omega)) (cwV 2 hts (td_gV (td_i7 (List.mem_of_getElem? (i := 22) rfl)) (td_i7 (List.mem_of_getElem? (i := 23) rfl)) (td_i8 (List.mem_of_getElem? (i := 0) rfl)) (td_i1 (List.mem_of_getElem? (i := 2) rfl)) (td_i8 (List.mem_of_getElem? (i := 1) rfl))) rfl rfl rfl (by decide +kernel) ⟨(Nat.le_of_ble_eq_true rfl), (Nat.le_of_ble_eq_true rfl)⟩) (td_pWV hK hZ hP hD [4, 5, 6, 7, 8, 9] (by decide) rfl (va_recv hK hP (ci := 0) (q0 := 4) rfl rfl)) rfl rfl hl.1 rfl (lv_room (Nat.le_of_ble_eq_true rfl)) dX1_unpackTo_19 ⟨Nat.zero_le _, Nat.zero_le _⟩) hP hD hS hA [4, 5, 6, 7, 8, 9] [0, 1, 2, 3] rfl rfl (by decide) (by decide) (fun u H locs w19_2 hP hD hS => ?_)
    try dsimp only at w19_2
    have hP : va_P (dC, dI) vwCl [(qP, .inr (1, [.ref pC, .ref pT, .ref pV, .int (nI n)])), (pC, .inl (cJ, 1536, .inr (.inl fC))), (pT, .inl (cI, 512, .inl fT)), (pV, .inl (cI, 512, .inl fV)), (qS, .inr (0, [.ref aX, .ref aY, .ref aR, .ref aL, .ref aW])), (aX, .inl (cJ, 3, .inr (.inl (vp_updL vX 0 (td_ux (fC (3 * k + 0))))))), (aY, .inl (cJ, 3, .inr (.inl (vp_updL vY 0 (td_uy (fC (3 * k + 0))))))), (aR, .inl (cJ, 3, .inr (.inl (vp_updL vR 0 (td_ur (fC (3 * k + 0))))))), (aL, .inl (cJ, 3, .inr (.inl (vp_updL vL 0 (td_ul (fC (3 * k + 0))))))), (aW, .inl (cJ, 3, .inr (.inl vW)))] H := hP
    have hD : va_D A [(qP, .inr (1, [.ref pC, .ref pT, .ref pV, .int (nI n)])), (pC, .inl (cJ, 1536, .inr (.inl fC))), (pT, .inl (cI, 512, .inl fT)), (pV, .inl (cI, 512, .inl fV)), (qS, .inr (0, [.ref aX, .ref aY, .ref aR, .ref aL, .ref aW])), (aX, .inl (cJ, 3, .inr (.inl (vp_updL vX 0 (td_ux (fC (3 * k + 0))))))), (aY, .inl (cJ, 3, .inr (.inl (vp_updL vY 0 (td_uy (fC (3 * k + 0))))))), (aR, .inl (cJ, 3, .inr (.inl (vp_updL vR 0 (td_ur (fC (3 * k + 0))))))), (aL, .inl (cJ, 3, .inr (.inl (vp_updL vL 0 (td_ul (fC (3 * k + 0))))))), (aW, .inl (cJ, 3, .inr (.inl vW)))] := hD
    refine lv_iinc (v := nI 1) (lv' := [(3, .int (nI 1)), (0, .ref qP), (1, .ref qS), (2, .int (nI k))]) hx hb dX1_unpackTo_22 hl (k := 0) rfl (nI_add 0 1) (by decide) rfl (fun ls hl => ?_)
    refine lv_goto (tgt := 2) hx hb dX1_unpackTo_25 (by decide) ?_
    refine lv_iload_n hx hb dX1_unpackTo_2 rfl (lv_at hl 0 rfl) ?_
    refine lv_iconst (v := 3) hx hb dX1_unpackTo_3 (by decide) ?_
    refine lv_icmp_ge (tgt := 28) hx hb dX1_unpackTo_4 (by decide) (fun c4_4 => ?_) (fun c4_4 => ?_)
    · exact absurd c4_4 (by decide)
    · refine lv_aload_n hx hb dX1_unpackTo_7 rfl (lv_at hl 2 rfl) ?_
      refine lv_iload_n hx hb dX1_unpackTo_8 rfl (lv_at hl 0 rfl) ?_
      refine lv_aload_n hx hb dX1_unpackTo_9 rfl (lv_at hl 1 rfl) ?_
      refine va_get (D := (dC, dI)) (ci := 1) (v := .ref pC) (C := RX1) (T := TX1) (N := 4) hx hb hts td_fX1 hown hK hP 0 rfl rfl 0 (by decide) (hts (.fieldLink RX1 9 "TileDesk$Pieces" "corners" "[J") (td_i2 (List.mem_of_getElem? (i := 7) rfl))) (fun _ h9 => h9) rfl dX1_unpackTo_10 ?_
      refine lv_iconst (v := 3) hx hb dX1_unpackTo_13 (by decide) ?_
      refine lv_iload_n hx hb dX1_unpackTo_14 rfl (lv_at hl 3 rfl) ?_
      refine lv_imul hx hb dX1_unpackTo_15 ?_
      refine td_ti (nI (3 * k)) (pk_mul 3 k) ?_
      refine lv_iload_n hx hb dX1_unpackTo_16 rfl (lv_at hl 0 rfl) ?_
      refine lv_iadd hx hb dX1_unpackTo_17 ?_
      refine td_ti (nI (3 * k + 1)) (nI_add (3 * k) 1) ?_
      refine td_lald hx hb hK hP 1 1 (3 * k + 1) rfl rfl rfl (by omega) (by decide) dX1_unpackTo_18 ?_
      refine td_cwv (wr := [(qP, .inr (1, [.ref pC, .ref pT, .ref pV, .int (nI n)])), (pC, .inl (cJ, 1536, .inr (.inl fC))), (pT, .inl (cI, 512, .inl fT)), (pV, .inl (cI, 512, .inl fV))]) (va_runV (As := [.int (nI 1), .long (fC (3 * k + 1))]) (rest := []) ⟨hx, hb, hml, hown, hts⟩ (td_unpackCorner l dC dI cI cJ cZ H.size qS aX aY aR aL aW (vp_updL vX 0 (td_ux (fC (3 * k + 0)))) (vp_updL vY 0 (td_uy (fC (3 * k + 0)))) (vp_updL vR 0 (td_ur (fC (3 * k + 0)))) (vp_updL vL 0 (td_ul (fC (3 * k + 0)))) vW 1 (fC (3 * k + 1)) (by omega)) (cwV 2 hts (td_gV (td_i7 (List.mem_of_getElem? (i := 22) rfl)) (td_i7 (List.mem_of_getElem? (i := 23) rfl)) (td_i8 (List.mem_of_getElem? (i := 0) rfl)) (td_i1 (List.mem_of_getElem? (i := 2) rfl)) (td_i8 (List.mem_of_getElem? (i := 1) rfl))) rfl rfl rfl (by decide +kernel) ⟨(Nat.le_of_ble_eq_true rfl), (Nat.le_of_ble_eq_true rfl)⟩) (td_pWV hK hZ hP hD [4, 5, 6, 7, 8, 9] (by decide) rfl (va_recv hK hP (ci := 0) (q0 := 4) rfl rfl)) rfl rfl hl.1 rfl (lv_room (Nat.le_of_ble_eq_true rfl)) dX1_unpackTo_19 ⟨Nat.zero_le _, Nat.zero_le _⟩) hP hD hS hA [4, 5, 6, 7, 8, 9] [0, 1, 2, 3] rfl rfl (by decide) (by decide) (fun u H locs w19_5 hP hD hS => ?_)
      try dsimp only at w19_5
      have hP : va_P (dC, dI) vwCl [(qP, .inr (1, [.ref pC, .ref pT, .ref pV, .int (nI n)])), (pC, .inl (cJ, 1536, .inr (.inl fC))), (pT, .inl (cI, 512, .inl fT)), (pV, .inl (cI, 512, .inl fV)), (qS, .inr (0, [.ref aX, .ref aY, .ref aR, .ref aL, .ref aW])), (aX, .inl (cJ, 3, .inr (.inl (vp_updL (vp_updL vX 0 (td_ux (fC (3 * k + 0)))) 1 (td_ux (fC (3 * k + 1))))))), (aY, .inl (cJ, 3, .inr (.inl (vp_updL (vp_updL vY 0 (td_uy (fC (3 * k + 0)))) 1 (td_uy (fC (3 * k + 1))))))), (aR, .inl (cJ, 3, .inr (.inl (vp_updL (vp_updL vR 0 (td_ur (fC (3 * k + 0)))) 1 (td_ur (fC (3 * k + 1))))))), (aL, .inl (cJ, 3, .inr (.inl (vp_updL (vp_updL vL 0 (td_ul (fC (3 * k + 0)))) 1 (td_ul (fC (3 * k + 1))))))), (aW, .inl (cJ, 3, .inr (.inl vW)))] H := hP
      have hD : va_D A [(qP, .inr (1, [.ref pC, .ref pT, .ref pV, .int (nI n)])), (pC, .inl (cJ, 1536, .inr (.inl fC))), (pT, .inl (cI, 512, .inl fT)), (pV, .inl (cI, 512, .inl fV)), (qS, .inr (0, [.ref aX, .ref aY, .ref aR, .ref aL, .ref aW])), (aX, .inl (cJ, 3, .inr (.inl (vp_updL (vp_updL vX 0 (td_ux (fC (3 * k + 0)))) 1 (td_ux (fC (3 * k + 1))))))), (aY, .inl (cJ, 3, .inr (.inl (vp_updL (vp_updL vY 0 (td_uy (fC (3 * k + 0)))) 1 (td_uy (fC (3 * k + 1))))))), (aR, .inl (cJ, 3, .inr (.inl (vp_updL (vp_updL vR 0 (td_ur (fC (3 * k + 0)))) 1 (td_ur (fC (3 * k + 1))))))), (aL, .inl (cJ, 3, .inr (.inl (vp_updL (vp_updL vL 0 (td_ul (fC (3 * k + 0)))) 1 (td_ul (fC (3 * k + 1))))))), (aW, .inl (cJ, 3, .inr (.inl vW)))] := hD
      refine lv_iinc (v := nI 2) (lv' := [(3, .int (nI 2)), (0, .ref qP), (1, .ref qS), (2, .int (nI k))]) hx hb dX1_unpackTo_22 hl (k := 0) rfl (nI_add 1 1) (by decide) rfl (fun ls hl => ?_)
      refine lv_goto (tgt := 2) hx hb dX1_unpackTo_25 (by decide) ?_
      refine lv_iload_n hx hb dX1_unpackTo_2 rfl (lv_at hl 0 rfl) ?_
      refine lv_iconst (v := 3) hx hb dX1_unpackTo_3 (by decide) ?_
      refine lv_icmp_ge (tgt := 28) hx hb dX1_unpackTo_4 (by decide) (fun c4_7 => ?_) (fun c4_7 => ?_)
      · exact absurd c4_7 (by decide)
      · refine lv_aload_n hx hb dX1_unpackTo_7 rfl (lv_at hl 2 rfl) ?_
        refine lv_iload_n hx hb dX1_unpackTo_8 rfl (lv_at hl 0 rfl) ?_
        refine lv_aload_n hx hb dX1_unpackTo_9 rfl (lv_at hl 1 rfl) ?_
        refine va_get (D := (dC, dI)) (ci := 1) (v := .ref pC) (C := RX1) (T := TX1) (N := 4) hx hb hts td_fX1 hown hK hP 0 rfl rfl 0 (by decide) (hts (.fieldLink RX1 9 "TileDesk$Pieces" "corners" "[J") (td_i2 (List.mem_of_getElem? (i := 7) rfl))) (fun _ h9 => h9) rfl dX1_unpackTo_10 ?_
        refine lv_iconst (v := 3) hx hb dX1_unpackTo_13 (by decide) ?_
        refine lv_iload_n hx hb dX1_unpackTo_14 rfl (lv_at hl 3 rfl) ?_
        refine lv_imul hx hb dX1_unpackTo_15 ?_
        refine td_ti (nI (3 * k)) (pk_mul 3 k) ?_
        refine lv_iload_n hx hb dX1_unpackTo_16 rfl (lv_at hl 0 rfl) ?_
        refine lv_iadd hx hb dX1_unpackTo_17 ?_
        refine td_ti (nI (3 * k + 2)) (nI_add (3 * k) 2) ?_
        refine td_lald hx hb hK hP 1 1 (3 * k + 2) rfl rfl rfl (by omega) (by decide) dX1_unpackTo_18 ?_
        refine td_cwv (wr := [(qP, .inr (1, [.ref pC, .ref pT, .ref pV, .int (nI n)])), (pC, .inl (cJ, 1536, .inr (.inl fC))), (pT, .inl (cI, 512, .inl fT)), (pV, .inl (cI, 512, .inl fV))]) (va_runV (As := [.int (nI 2), .long (fC (3 * k + 2))]) (rest := []) ⟨hx, hb, hml, hown, hts⟩ (td_unpackCorner l dC dI cI cJ cZ H.size qS aX aY aR aL aW (vp_updL (vp_updL vX 0 (td_ux (fC (3 * k + 0)))) 1 (td_ux (fC (3 * k + 1)))) (vp_updL (vp_updL vY 0 (td_uy (fC (3 * k + 0)))) 1 (td_uy (fC (3 * k + 1)))) (vp_updL (vp_updL vR 0 (td_ur (fC (3 * k + 0)))) 1 (td_ur (fC (3 * k + 1)))) (vp_updL (vp_updL vL 0 (td_ul (fC (3 * k + 0)))) 1 (td_ul (fC (3 * k + 1)))) vW 2 (fC (3 * k + 2)) (by omega)) (cwV 2 hts (td_gV (td_i7 (List.mem_of_getElem? (i := 22) rfl)) (td_i7 (List.mem_of_getElem? (i := 23) rfl)) (td_i8 (List.mem_of_getElem? (i := 0) rfl)) (td_i1 (List.mem_of_getElem? (i := 2) rfl)) (td_i8 (List.mem_of_getElem? (i := 1) rfl))) rfl rfl rfl (by decide +kernel) ⟨(Nat.le_of_ble_eq_true rfl), (Nat.le_of_ble_eq_true rfl)⟩) (td_pWV hK hZ hP hD [4, 5, 6, 7, 8, 9] (by decide) rfl (va_recv hK hP (ci := 0) (q0 := 4) rfl rfl)) rfl rfl hl.1 rfl (lv_room (Nat.le_of_ble_eq_true rfl)) dX1_unpackTo_19 ⟨Nat.zero_le _, Nat.zero_le _⟩) hP hD hS hA [4, 5, 6, 7, 8, 9] [0, 1, 2, 3] rfl rfl (by decide) (by decide) (fun u H locs w19_8 hP hD hS => ?_)
        try dsimp only at w19_8
        have hP : va_P (dC, dI) vwCl [(qP, .inr (1, [.ref pC, .ref pT, .ref pV, .int (nI n)])), (pC, .inl (cJ, 1536, .inr (.inl fC))), (pT, .inl (cI, 512, .inl fT)), (pV, .inl (cI, 512, .inl fV)), (qS, .inr (0, [.ref aX, .ref aY, .ref aR, .ref aL, .ref aW])), (aX, .inl (cJ, 3, .inr (.inl (vp_updL (vp_updL (vp_updL vX 0 (td_ux (fC (3 * k + 0)))) 1 (td_ux (fC (3 * k + 1)))) 2 (td_ux (fC (3 * k + 2))))))), (aY, .inl (cJ, 3, .inr (.inl (vp_updL (vp_updL (vp_updL vY 0 (td_uy (fC (3 * k + 0)))) 1 (td_uy (fC (3 * k + 1)))) 2 (td_uy (fC (3 * k + 2))))))), (aR, .inl (cJ, 3, .inr (.inl (vp_updL (vp_updL (vp_updL vR 0 (td_ur (fC (3 * k + 0)))) 1 (td_ur (fC (3 * k + 1)))) 2 (td_ur (fC (3 * k + 2))))))), (aL, .inl (cJ, 3, .inr (.inl (vp_updL (vp_updL (vp_updL vL 0 (td_ul (fC (3 * k + 0)))) 1 (td_ul (fC (3 * k + 1)))) 2 (td_ul (fC (3 * k + 2))))))), (aW, .inl (cJ, 3, .inr (.inl vW)))] H := hP
        have hD : va_D A [(qP, .inr (1, [.ref pC, .ref pT, .ref pV, .int (nI n)])), (pC, .inl (cJ, 1536, .inr (.inl fC))), (pT, .inl (cI, 512, .inl fT)), (pV, .inl (cI, 512, .inl fV)), (qS, .inr (0, [.ref aX, .ref aY, .ref aR, .ref aL, .ref aW])), (aX, .inl (cJ, 3, .inr (.inl (vp_updL (vp_updL (vp_updL vX 0 (td_ux (fC (3 * k + 0)))) 1 (td_ux (fC (3 * k + 1)))) 2 (td_ux (fC (3 * k + 2))))))), (aY, .inl (cJ, 3, .inr (.inl (vp_updL (vp_updL (vp_updL vY 0 (td_uy (fC (3 * k + 0)))) 1 (td_uy (fC (3 * k + 1)))) 2 (td_uy (fC (3 * k + 2))))))), (aR, .inl (cJ, 3, .inr (.inl (vp_updL (vp_updL (vp_updL vR 0 (td_ur (fC (3 * k + 0)))) 1 (td_ur (fC (3 * k + 1)))) 2 (td_ur (fC (3 * k + 2))))))), (aL, .inl (cJ, 3, .inr (.inl (vp_updL (vp_updL (vp_updL vL 0 (td_ul (fC (3 * k + 0)))) 1 (td_ul (fC (3 * k + 1)))) 2 (td_ul (fC (3 * k + 2))))))), (aW, .inl (cJ, 3, .inr (.inl vW)))] := hD
        refine lv_iinc (v := nI 3) (lv' := [(3, .int (nI 3)), (0, .ref qP), (1, .ref qS), (2, .int (nI k))]) hx hb dX1_unpackTo_22 hl (k := 0) rfl (nI_add 2 1) (by decide) rfl (fun ls hl => ?_)
        refine lv_goto (tgt := 2) hx hb dX1_unpackTo_25 (by decide) ?_
        refine lv_iload_n hx hb dX1_unpackTo_2 rfl (lv_at hl 0 rfl) ?_
        refine lv_iconst (v := 3) hx hb dX1_unpackTo_3 (by decide) ?_
        refine lv_icmp_ge (tgt := 28) hx hb dX1_unpackTo_4 (by decide) (fun c4_10 => ?_) (fun c4_10 => ?_)
        · have hP9 := hP.sub (ws' := [(qP, .inr (1, [.ref pC, .ref pT, .ref pV, .int (nI n)])), (pC, .inl (cJ, 1536, .inr (.inl fC))), (pT, .inl (cI, 512, .inl fT)), (pV, .inl (cI, 512, .inl fV)), (qS, .inr (0, [.ref aX, .ref aY, .ref aR, .ref aL, .ref aW])), (aX, .inl (cJ, 3, .inr (.inl (vp_updL (vp_updL (vp_updL vX 0 (td_ux (fC (3 * k + 0)))) 1 (td_ux (fC (3 * k + 1)))) 2 (td_ux (fC (3 * k + 2))))))), (aY, .inl (cJ, 3, .inr (.inl (vp_updL (vp_updL (vp_updL vY 0 (td_uy (fC (3 * k + 0)))) 1 (td_uy (fC (3 * k + 1)))) 2 (td_uy (fC (3 * k + 2))))))), (aR, .inl (cJ, 3, .inr (.inl (vp_updL (vp_updL (vp_updL vR 0 (td_ur (fC (3 * k + 0)))) 1 (td_ur (fC (3 * k + 1)))) 2 (td_ur (fC (3 * k + 2))))))), (aL, .inl (cJ, 3, .inr (.inl (vp_updL (vp_updL (vp_updL vL 0 (td_ul (fC (3 * k + 0)))) 1 (td_ul (fC (3 * k + 1)))) 2 (td_ul (fC (3 * k + 2))))))), (aW, .inl (cJ, 3, .inr (.inl vW)))]) [0, 1, 2, 3, 4, 5, 6, 7, 8, 9] rfl
          have hD9 := hD.sub (ws' := [(qP, .inr (1, [.ref pC, .ref pT, .ref pV, .int (nI n)])), (pC, .inl (cJ, 1536, .inr (.inl fC))), (pT, .inl (cI, 512, .inl fT)), (pV, .inl (cI, 512, .inl fV)), (qS, .inr (0, [.ref aX, .ref aY, .ref aR, .ref aL, .ref aW])), (aX, .inl (cJ, 3, .inr (.inl (vp_updL (vp_updL (vp_updL vX 0 (td_ux (fC (3 * k + 0)))) 1 (td_ux (fC (3 * k + 1)))) 2 (td_ux (fC (3 * k + 2))))))), (aY, .inl (cJ, 3, .inr (.inl (vp_updL (vp_updL (vp_updL vY 0 (td_uy (fC (3 * k + 0)))) 1 (td_uy (fC (3 * k + 1)))) 2 (td_uy (fC (3 * k + 2))))))), (aR, .inl (cJ, 3, .inr (.inl (vp_updL (vp_updL (vp_updL vR 0 (td_ur (fC (3 * k + 0)))) 1 (td_ur (fC (3 * k + 1)))) 2 (td_ur (fC (3 * k + 2))))))), (aL, .inl (cJ, 3, .inr (.inl (vp_updL (vp_updL (vp_updL vL 0 (td_ul (fC (3 * k + 0)))) 1 (td_ul (fC (3 * k + 1)))) 2 (td_ul (fC (3 * k + 2))))))), (aW, .inl (cJ, 3, .inr (.inl vW)))]) [0, 1, 2, 3, 4, 5, 6, 7, 8, 9] (by decide) rfl
          exact td_rwv () hx hb hr hlocks hK (trivial) hP9 hD9 hS dX1_unpackTo_28
        · exact absurd c4_10 (by decide)
end
section
set_option maxHeartbeats 4000000 in
set_option maxRecDepth 100000 in
/-- Picture.pixelIndex -/
theorem td_pixelIndex (l : Launch) (dC : Nat → ClassId) (dI : Nat → Nat → Nat) (cI cJ cZ : ClassId) (qU : Nat) (cC : Nat) (cN : Nat) (cD : Nat) (qT : Nat) (qH : Nat) (w : Nat) (h : Nat) (ta : Nat) (bg : Int32) (bn : Int32) (dt : Int32) (lf : Int32) (tp : Int32) (rt : Int32) (bm : Int32) (i : Nat) (j : Nat) : Met l yX2_pixelIndex wsX2_pixelIndex ({ frames := 0, cells := 0, slots := 0, locals := 0 }) (td_RP (dC, dI) vwCl (td_T cI cJ cZ) td_nl [(qU, .inr (2, [.int (nI w), .int (nI h), .int (nI ta), .ref cC, .ref cN, .ref cD, .ref qT, .ref qH, .int bg, .int bn, .int dt, .int lf, .int tp, .int rt, .int bm]))] [.ref qU, .int (nI i), .int (nI j)]) (vp_Si (fun r => r = nI (j * w + i))) 0 0 (fun _ => False) := by
  refine Met.ofW (cc := cX2_pixelIndex) (maxL := 3) (ret := (some .int)) (by decide) rfl ?_
  intro p e s m args below meth c s₁ B hml hv
  obtain ⟨rfl, hP, hK, hZ⟩ := hv
  have hx := B.exec
  have hb := B.bytes
  have hr := B.returns
  have hts := atoms_spec (ws := wsX2_pixelIndex) B.pre
  have hown : s.vm.findClass RX2 = some m.cls := findClass_of_methodNamed B.named
  have hlocks := B.notSynchronized
  have hP : va_P (dC, dI) vwCl [(qU, .inr (2, [.int (nI w), .int (nI h), .int (nI ta), .ref cC, .ref cN, .ref cD, .ref qT, .ref qH, .int bg, .int bn, .int dt, .int lf, .int tp, .int rt, .int bm]))] s.heap := hP
  have hl := lv_entry ([.ref qU, .int (nI i), .int (nI j)]) (n := 3) (Nat.le_of_ble_eq_true rfl)
  rw [lg_entry_eq]
  generalize (lg_sl ([.ref qU, .int (nI i), .int (nI j)]) ++ List.replicate (3 - (lg_sl ([.ref qU, .int (nI i), .int (nI j)])).length) Slot.unset).toArray = ls at hl ⊢
  have hl : lv_has ls 3 [(0, .ref qU), (1, .int (nI i)), (2, .int (nI j))] := hl
  refine lv_iload_n hx hb dX2_pixelIndex_0 rfl (lv_at hl 2 rfl) ?_
  refine lv_aload_n hx hb dX2_pixelIndex_1 rfl (lv_at hl 0 rfl) ?_
  refine va_get (D := (dC, dI)) (ci := 2) (v := .int (nI w)) (C := RX2) (T := TX2) (N := 15) hx hb hts td_fX2 hown hK hP 0 rfl rfl 0 (by decide) (hts (.fieldLink RX2 48 "TileDesk$Picture" "width" "I") (td_i3 (List.mem_of_getElem? (i := 4) rfl))) (fun _ h9 => h9) rfl dX2_pixelIndex_2 ?_
  refine lv_imul hx hb dX2_pixelIndex_5 ?_
  refine td_ti (nI (j * w)) (pk_mul j w) ?_
  refine lv_iload_n hx hb dX2_pixelIndex_6 rfl (lv_at hl 1 rfl) ?_
  refine lv_iadd hx hb dX2_pixelIndex_7 ?_
  refine td_ti (nI (j * w + i)) (nI_add (j * w) i) ?_
  exact td_rri hx hb hr rfl hlocks (rfl) dX2_pixelIndex_8
set_option maxHeartbeats 4000000 in
set_option maxRecDepth 100000 in
/-- Picture.isShown -/
theorem td_isShown (l : Launch) (dC : Nat → ClassId) (dI : Nat → Nat → Nat) (cI cJ cZ : ClassId) (qU : Nat) (cC : Nat) (cN : Nat) (cD : Nat) (qT : Nat) (qH : Nat) (w : Nat) (h : Nat) (ta : Nat) (bg : Int32) (bn : Int32) (dt : Int32) (lf : Int32) (tp : Int32) (rt : Int32) (bm : Int32) (nd : Nat) (fD : Nat → Int32) (x : Int32) (y : Int32) (hw1 : 8 ≤ w) (hw2 : w ≤ 48) (hh1 : 8 ≤ h) (hh2 : h ≤ 48) (hta : ta = (w + 7) / 8) (hnd : nd = ta * ((h + 7) / 8)) : Met l yX2_isShown wsX2_isShown ({ frames := 1, cells := 0, slots := 0, locals := 22 }) (td_RP (dC, dI) vwCl (td_T cI cJ cZ) td_nl [(qU, .inr (2, [.int (nI w), .int (nI h), .int (nI ta), .ref cC, .ref cN, .ref cD, .ref qT, .ref qH, .int bg, .int bn, .int dt, .int lf, .int tp, .int rt, .int bm])), (cD, .inl (cZ, nd, .inl fD))] [.ref qU, .int x, .int y]) (vp_Si (fun r => r = td_bz (td_sh x y w h ta fD))) 0 0 (fun _ => False) := by
  refine Met.ofW (cc := cX2_isShown) (maxL := 3) (ret := (some .boolean)) (by decide) rfl ?_
  intro p e s m args below meth c s₁ B hml hv
  obtain ⟨rfl, hP, hK, hZ⟩ := hv
  have hx := B.exec
  have hb := B.bytes
  have hr := B.returns
  have hts := atoms_spec (ws := wsX2_isShown) B.pre
  have hown : s.vm.findClass RX2 = some m.cls := findClass_of_methodNamed B.named
  have hlocks := B.notSynchronized
  have hP : va_P (dC, dI) vwCl [(qU, .inr (2, [.int (nI w), .int (nI h), .int (nI ta), .ref cC, .ref cN, .ref cD, .ref qT, .ref qH, .int bg, .int bn, .int dt, .int lf, .int tp, .int rt, .int bm])), (cD, .inl (cZ, nd, .inl fD))] s.heap := hP
  have hl := lv_entry ([.ref qU, .int x, .int y]) (n := 3) (Nat.le_of_ble_eq_true rfl)
  rw [lg_entry_eq]
  generalize (lg_sl ([.ref qU, .int x, .int y]) ++ List.replicate (3 - (lg_sl ([.ref qU, .int x, .int y])).length) Slot.unset).toArray = ls at hl ⊢
  have hl : lv_has ls 3 [(0, .ref qU), (1, .int x), (2, .int y)] := hl
  have hnd6 : nd ≤ 36 := by rw [hnd]; exact td_tt (by omega) (by omega)
  refine lv_iload_n hx hb dX2_isShown_0 rfl (lv_at hl 1 rfl) ?_
  refine lv_iconst (v := 0) hx hb dX2_isShown_1 (by decide) ?_
  refine lv_aload_n hx hb dX2_isShown_2 rfl (lv_at hl 0 rfl) ?_
  refine va_get (D := (dC, dI)) (ci := 2) (v := .int (nI w)) (C := RX2) (T := TX2) (N := 15) hx hb hts td_fX2 hown hK hP 0 rfl rfl 0 (by decide) (hts (.fieldLink RX2 48 "TileDesk$Picture" "width" "I") (td_i3 (List.mem_of_getElem? (i := 4) rfl))) (fun _ h9 => h9) rfl dX2_isShown_3 ?_
  refine lv_iconst (v := 1) hx hb dX2_isShown_6 (by decide) ?_
  refine lv_isub hx hb dX2_isShown_7 ?_
  refine td_ti (nI (w - 1)) (pk_sub (b := 1) (by omega)) ?_
  refine td_csi (va_runSN (As := [.int x, .int 0, .int (nI (w - 1))]) (rest := []) ⟨hx, hb, hml, hown, hts⟩ (td_isWithin l dC dI cI cJ cZ x 0 (nI (w - 1))) (⟨va_cnB 3 hts (td_gC (td_i4 (List.mem_of_getElem? (i := 5) rfl))) rfl rfl rfl (hZ.2 _ (List.mem_of_getElem? (i := 18) rfl)) (hts (.initialized RX3) (td_i1 (List.mem_of_getElem? (i := 1) rfl))) (by decide +kernel) ⟨(Nat.le_of_ble_eq_true rfl), (Nat.le_of_ble_eq_true rfl)⟩, (hts (.static yX3_isWithin) (td_i4 (List.mem_of_getElem? (i := 4) rfl))), trivial⟩) (td_pRS hK hZ hP [] rfl) rfl rfl hl.1 rfl (lv_room (Nat.le_of_ble_eq_true rfl)) dX2_isShown_8 ⟨Nat.zero_le _, Nat.zero_le _⟩) ?_
  refine td_ifeq (tgt := 54) hx hb dX2_isShown_11 (by decide) (fun c11 => ?_) (fun c11 => ?_)
  · refine lv_iconst (v := 0) hx hb dX2_isShown_54 (by decide) ?_
    exact td_rri hx hb hr rfl hlocks (by rw [td_bz0 (fun z => c11 z.1)]) dX2_isShown_55
  · obtain ⟨X, hX, eX⟩ := td_nat c11 (by omega)
    refine lv_iload_n hx hb dX2_isShown_14 rfl (lv_at hl 2 rfl) ?_
    refine lv_iconst (v := 0) hx hb dX2_isShown_15 (by decide) ?_
    refine lv_aload_n hx hb dX2_isShown_16 rfl (lv_at hl 0 rfl) ?_
    refine va_get (D := (dC, dI)) (ci := 2) (v := .int (nI h)) (C := RX2) (T := TX2) (N := 15) hx hb hts td_fX2 hown hK hP 0 rfl rfl 1 (by decide) (hts (.fieldLink RX2 51 "TileDesk$Picture" "height" "I") (td_i3 (List.mem_of_getElem? (i := 5) rfl))) (fun _ h9 => h9) rfl dX2_isShown_17 ?_
    refine lv_iconst (v := 1) hx hb dX2_isShown_20 (by decide) ?_
    refine lv_isub hx hb dX2_isShown_21 ?_
    refine td_ti (nI (h - 1)) (pk_sub (b := 1) (by omega)) ?_
    refine td_csi (va_runSN (As := [.int y, .int 0, .int (nI (h - 1))]) (rest := []) ⟨hx, hb, hml, hown, hts⟩ (td_isWithin l dC dI cI cJ cZ y 0 (nI (h - 1))) (⟨va_cnB 3 hts (td_gC (td_i4 (List.mem_of_getElem? (i := 5) rfl))) rfl rfl rfl (hZ.2 _ (List.mem_of_getElem? (i := 18) rfl)) (hts (.initialized RX3) (td_i1 (List.mem_of_getElem? (i := 1) rfl))) (by decide +kernel) ⟨(Nat.le_of_ble_eq_true rfl), (Nat.le_of_ble_eq_true rfl)⟩, (hts (.static yX3_isWithin) (td_i4 (List.mem_of_getElem? (i := 4) rfl))), trivial⟩) (td_pRS hK hZ hP [] rfl) rfl rfl hl.1 rfl (lv_room (Nat.le_of_ble_eq_true rfl)) dX2_isShown_22 ⟨Nat.zero_le _, Nat.zero_le _⟩) ?_
    refine td_ifeq (tgt := 54) hx hb dX2_isShown_25 (by decide) (fun c25 => ?_) (fun c25 => ?_)
    · refine lv_iconst (v := 0) hx hb dX2_isShown_54 (by decide) ?_
      exact td_rri hx hb hr rfl hlocks (by rw [td_bz0 (fun z => c25 z.2.1)]) dX2_isShown_55
    · obtain ⟨Y, hY, eY⟩ := td_nat c25 (by omega)
      refine lv_aload_n hx hb dX2_isShown_28 rfl (lv_at hl 0 rfl) ?_
      refine va_get (D := (dC, dI)) (ci := 2) (v := .ref cD) (C := RX2) (T := TX2) (N := 15) hx hb hts td_fX2 hown hK hP 0 rfl rfl 5 (by decide) (hts (.fieldLink RX2 64 "TileDesk$Picture" "done" "[Z") (td_i3 (List.mem_of_getElem? (i := 9) rfl))) (fun _ h9 => h9) rfl dX2_isShown_29 ?_
      refine lv_iload_n hx hb dX2_isShown_32 rfl (lv_at hl 2 rfl) ?_
      refine lv_bipush (v := 8) hx hb dX2_isShown_33 (by decide) ?_
      refine lv_idiv hx hb dX2_isShown_35 (by decide) ?_
      refine td_ti (nI (Y / 8)) (td_div8 eY (by omega)) ?_
      refine lv_aload_n hx hb dX2_isShown_36 rfl (lv_at hl 0 rfl) ?_
      refine va_get (D := (dC, dI)) (ci := 2) (v := .int (nI ta)) (C := RX2) (T := TX2) (N := 15) hx hb hts td_fX2 hown hK hP 0 rfl rfl 2 (by decide) (hts (.fieldLink RX2 54 "TileDesk$Picture" "tilesAcross" "I") (td_i3 (List.mem_of_getElem? (i := 6) rfl))) (fun _ h9 => h9) rfl dX2_isShown_37 ?_
      refine lv_imul hx hb dX2_isShown_40 ?_
      refine td_ti (nI ((Y / 8) * ta)) (pk_mul (Y / 8) ta) ?_
      refine lv_iload_n hx hb dX2_isShown_41 rfl (lv_at hl 1 rfl) ?_
      refine lv_bipush (v := 8) hx hb dX2_isShown_42 (by decide) ?_
      refine lv_idiv hx hb dX2_isShown_44 (by decide) ?_
      refine td_ti (nI (X / 8)) (td_div8 eX (by omega)) ?_
      refine lv_iadd hx hb dX2_isShown_45 ?_
      refine td_ti (nI ((Y / 8) * ta + (X / 8))) (nI_add ((Y / 8) * ta) (X / 8)) ?_
      refine td_zald hx hb hK hP 1 2 ((Y / 8) * ta + (X / 8)) rfl rfl rfl (by rw [hnd]; exact td_tix (by omega) (by omega)) (by omega) dX2_isShown_46 ?_
      refine lv_if_eq (tgt := 54) hx hb dX2_isShown_47 (by decide) (fun c47 => ?_) (fun c47 => ?_)
      · refine lv_iconst (v := 0) hx hb dX2_isShown_54 (by decide) ?_
        exact td_rri hx hb hr rfl hlocks (by rw [td_bz0 (fun z => z.2.2 (by rw [td_tn eX (by omega), td_tn eY (by omega)]; exact c47))]) dX2_isShown_55
      · refine lv_iconst (v := 1) hx hb dX2_isShown_50 (by decide) ?_
        refine lv_goto (tgt := 55) hx hb dX2_isShown_51 (by decide) ?_
        exact td_rri hx hb hr rfl hlocks (by rw [td_bz1 (show td_sh x y w h ta fD from ⟨c11, c25, by rw [td_tn eX (by omega), td_tn eY (by omega)]; exact c47⟩)]) dX2_isShown_55
set_option maxHeartbeats 4000000 in
set_option maxRecDepth 100000 in
/-- Picture.frameTile -/
theorem td_frameTile (l : Launch) (dC : Nat → ClassId) (dI : Nat → Nat → Nat) (cI cJ cZ : ClassId) (sz : Nat) (qU : Nat) (cC : Nat) (cN : Nat) (cD : Nat) (qT : Nat) (qH : Nat) (w : Nat) (h : Nat) (ta : Nat) (bg : Int32) (bn : Int32) (dt : Int32) (lf : Int32) (tp : Int32) (rt : Int32) (bm : Int32) (k : Nat) (hta1 : 0 < ta) (hta2 : ta ≤ 6) (hk : k < 36) (hw1 : 8 ≤ w) (hw2 : w ≤ 48) (hh1 : 8 ≤ h) (hh2 : h ≤ 48) : Met l yX2_frameTile wsX2_frameTile ({ frames := 2, cells := 0, slots := 0, locals := 48 }) (td_WP (dC, dI) vwCl (td_T cI cJ cZ) td_nl [(qU, .inr (2, [.int (nI w), .int (nI h), .int (nI ta), .ref cC, .ref cN, .ref cD, .ref qT, .ref qH, .int bg, .int bn, .int dt, .int lf, .int tp, .int rt, .int bm]))] sz [.ref qU, .int (nI k)]) (va_Qv (S := Unit) (fun u => True) (td_B (dC, dI) vwCl (td_T cI cJ cZ) (va_A [(qU, .inr (2, [.int (nI w), .int (nI h), .int (nI ta), .ref cC, .ref cN, .ref cD, .ref qT, .ref qH, .int bg, .int bn, .int dt, .int lf, .int tp, .int rt, .int bm]))] sz) (fun (u : Unit) => [(qU, .inr (2, [.int (nI w), .int (nI h), .int (nI ta), .ref cC, .ref cN, .ref cD, .ref qT, .ref qH, .int bg, .int bn, .int dt, .int (nI (k % ta * 8)), .int (nI (k / ta * 8)), .int (nI (if k % ta * 8 + 8 < w then k % ta * 8 + 8 else w)), .int (nI (if k / ta * 8 + 8 < h then k / ta * 8 + 8 else h))]))])) (va_A [(qU, .inr (2, [.int (nI w), .int (nI h), .int (nI ta), .ref cC, .ref cN, .ref cD, .ref qT, .ref qH, .int bg, .int bn, .int dt, .int lf, .int tp, .int rt, .int bm]))] sz)) 0 0 (va_A [(qU, .inr (2, [.int (nI w), .int (nI h), .int (nI ta), .ref cC, .ref cN, .ref cD, .ref qT, .ref qH, .int bg, .int bn, .int dt, .int lf, .int tp, .int rt, .int bm]))] sz) := by
  refine Met.ofW (cc := cX2_frameTile) (maxL := 4) (ret := none) (by decide) rfl ?_
  intro p e s m args below meth c s₁ B hml hv
  obtain ⟨rfl, hsz, hP, hK, hZ, hD0⟩ := hv
  have hx := B.exec
  have hb := B.bytes
  have hr := B.returns
  have hts := atoms_spec (ws := wsX2_frameTile) B.pre
  have hown : s.vm.findClass RX2 = some m.cls := findClass_of_methodNamed B.named
  have hlocks := B.notSynchronized
  subst hsz
  have hD := hD0.self (sz := s.heap.size)
  generalize hAe : va_A [(qU, .inr (2, [.int (nI w), .int (nI h), .int (nI ta), .ref cC, .ref cN, .ref cD, .ref qT, .ref qH, .int bg, .int bn, .int dt, .int lf, .int tp, .int rt, .int bm]))] s.heap.size = A at hD ⊢
  have hA : ∀ q : Nat, s.heap.size ≤ q → A q := fun q h => by rw [← hAe]; exact Or.inr h
  have hS : va_S A s.heap s.heap [] := va_S.rf
  have hP : va_P (dC, dI) vwCl [(qU, .inr (2, [.int (nI w), .int (nI h), .int (nI ta), .ref cC, .ref cN, .ref cD, .ref qT, .ref qH, .int bg, .int bn, .int dt, .int lf, .int tp, .int rt, .int bm]))] s.heap := hP
  have hl := lv_entry ([.ref qU, .int (nI k)]) (n := 4) (Nat.le_of_ble_eq_true rfl)
  rw [lg_entry_eq]
  generalize (lg_sl ([.ref qU, .int (nI k)]) ++ List.replicate (4 - (lg_sl ([.ref qU, .int (nI k)])).length) Slot.unset).toArray = ls at hl ⊢
  have hl : lv_has ls 4 [(0, .ref qU), (1, .int (nI k))] := hl
  have hdm := Nat.div_add_mod' k ta
  have hml2 := Nat.mod_lt k hta1
  have hdl : k / ta ≤ k := Nat.div_le_self k ta
  refine lv_iload_n hx hb dX2_frameTile_0 rfl (lv_at hl 1 rfl) ?_
  refine lv_i2l (v := (nI k).toInt64) hx hb dX2_frameTile_1 rfl ?_
  refine td_tl (lN k) (nI_l (by omega)) ?_
  refine lv_aload_n hx hb dX2_frameTile_2 rfl (lv_at hl 0 rfl) ?_
  refine va_get (D := (dC, dI)) (ci := 2) (v := .int (nI ta)) (C := RX2) (T := TX2) (N := 15) hx hb hts td_fX2 hown hK hP 0 rfl rfl 2 (by decide) (hts (.fieldLink RX2 54 "TileDesk$Picture" "tilesAcross" "I") (td_i3 (List.mem_of_getElem? (i := 6) rfl))) (fun _ h9 => h9) rfl dX2_frameTile_3 ?_
  refine lv_i2l (v := (nI ta).toInt64) hx hb dX2_frameTile_6 rfl ?_
  refine td_tl (lN ta) (nI_l (by omega)) ?_
  refine td_csl (va_runSN (As := [.long (lN k), .long (lN ta)]) (rest := []) ⟨hx, hb, hml, hown, hts⟩ (td_quotient l dC dI cI cJ cZ (lN k) (lN ta)) (⟨va_cnB 2 hts (td_gC (td_i7 (List.mem_of_getElem? (i := 3) rfl))) rfl rfl rfl (hZ.2 _ (List.mem_of_getElem? (i := 14) rfl)) (hts (.initialized RX3) (td_i1 (List.mem_of_getElem? (i := 1) rfl))) (by decide +kernel) ⟨(Nat.le_of_ble_eq_true rfl), (Nat.le_of_ble_eq_true rfl)⟩, (hts (.static yX3_quotient) (td_i7 (List.mem_of_getElem? (i := 2) rfl))), trivial⟩) (td_pRS hK hZ hP [] rfl) rfl rfl hl.1 rfl (lv_room (Nat.le_of_ble_eq_true rfl)) dX2_frameTile_7 ⟨Nat.zero_le _, Nat.zero_le _⟩) ?_
  refine td_tl (lN (k / ta)) (td_q_nat (by omega) hta1 (by omega)) ?_
  refine lv_l2i (v := (lN (k / ta)).toInt32) hx hb dX2_frameTile_10 rfl ?_
  refine td_ti (nI (k / ta)) (lN_i _) ?_
  refine lv_istore_n (lv' := [(2, .int (nI (k / ta))), (0, .ref qU), (1, .int (nI k))]) hx hb dX2_frameTile_11 rfl hl (by decide) rfl (fun ls hl => ?_)
  refine lv_iload_n hx hb dX2_frameTile_12 rfl (lv_at hl 2 rfl) ?_
  refine lv_iload_n hx hb dX2_frameTile_13 rfl (lv_at hl 0 rfl) ?_
  refine lv_aload_n hx hb dX2_frameTile_14 rfl (lv_at hl 1 rfl) ?_
  refine va_get (D := (dC, dI)) (ci := 2) (v := .int (nI ta)) (C := RX2) (T := TX2) (N := 15) hx hb hts td_fX2 hown hK hP 0 rfl rfl 2 (by decide) (hts (.fieldLink RX2 54 "TileDesk$Picture" "tilesAcross" "I") (td_i3 (List.mem_of_getElem? (i := 6) rfl))) (fun _ h9 => h9) rfl dX2_frameTile_15 ?_
  refine lv_imul hx hb dX2_frameTile_18 ?_
  refine td_ti (nI ((k / ta) * ta)) (pk_mul (k / ta) ta) ?_
  refine lv_isub hx hb dX2_frameTile_19 ?_
  refine td_ti (nI (k % ta)) ((pk_sub (by omega)).trans (congrArg nI td_modk)) ?_
  refine lv_istore_n (lv' := [(3, .int (nI (k % ta))), (2, .int (nI (k / ta))), (0, .ref qU), (1, .int (nI k))]) hx hb dX2_frameTile_20 rfl hl (by decide) rfl (fun ls hl => ?_)
  refine lv_aload_n hx hb dX2_frameTile_21 rfl (lv_at hl 2 rfl) ?_
  refine lv_iload_n hx hb dX2_frameTile_22 rfl (lv_at hl 0 rfl) ?_
  refine lv_bipush (v := 8) hx hb dX2_frameTile_23 (by decide) ?_
  refine lv_imul hx hb dX2_frameTile_25 ?_
  refine td_ti (nI ((k % ta) * 8)) (pk_mul (k % ta) 8) ?_
  refine va_put (D := (dC, dI)) (ci := 2) (v := .int (nI ((k % ta) * 8))) (ty := .int) (C := RX2) (T := TX2) (N := 15) hx hb hts td_fX2 tyX2 tyX2_ok nmX2 hown hK hP hD hS 0 rfl rfl 11 (by decide) (hts (.fieldLink RX2 36 "TileDesk$Picture" "left" "I") (td_i3 (List.mem_of_getElem? (i := 15) rfl))) (fun _ h9 => h9) rfl (by decide +kernel) rfl rfl (Nat.le_of_ble_eq_true rfl) dX2_frameTile_26 (fun H locs hP hD hS => ?_)
  have hP : va_P (dC, dI) vwCl [(qU, .inr (2, [.int (nI w), .int (nI h), .int (nI ta), .ref cC, .ref cN, .ref cD, .ref qT, .ref qH, .int bg, .int bn, .int dt, .int (nI ((k % ta) * 8)), .int tp, .int rt, .int bm]))] H := hP
  have hD : va_D A [(qU, .inr (2, [.int (nI w), .int (nI h), .int (nI ta), .ref cC, .ref cN, .ref cD, .ref qT, .ref qH, .int bg, .int bn, .int dt, .int (nI ((k % ta) * 8)), .int tp, .int rt, .int bm]))] := hD
  refine lv_aload_n hx hb dX2_frameTile_29 rfl (lv_at hl 2 rfl) ?_
  refine lv_iload_n hx hb dX2_frameTile_30 rfl (lv_at hl 1 rfl) ?_
  refine lv_bipush (v := 8) hx hb dX2_frameTile_31 (by decide) ?_
  refine lv_imul hx hb dX2_frameTile_33 ?_
  refine td_ti (nI ((k / ta) * 8)) (pk_mul (k / ta) 8) ?_
  refine va_put (D := (dC, dI)) (ci := 2) (v := .int (nI ((k / ta) * 8))) (ty := .int) (C := RX2) (T := TX2) (N := 15) hx hb hts td_fX2 tyX2 tyX2_ok nmX2 hown hK hP hD hS 0 rfl rfl 12 (by decide) (hts (.fieldLink RX2 39 "TileDesk$Picture" "top" "I") (td_i3 (List.mem_of_getElem? (i := 16) rfl))) (fun _ h9 => h9) rfl (by decide +kernel) rfl rfl (Nat.le_of_ble_eq_true rfl) dX2_frameTile_34 (fun H locs hP hD hS => ?_)
  have hP : va_P (dC, dI) vwCl [(qU, .inr (2, [.int (nI w), .int (nI h), .int (nI ta), .ref cC, .ref cN, .ref cD, .ref qT, .ref qH, .int bg, .int bn, .int dt, .int (nI ((k % ta) * 8)), .int (nI ((k / ta) * 8)), .int rt, .int bm]))] H := hP
  have hD : va_D A [(qU, .inr (2, [.int (nI w), .int (nI h), .int (nI ta), .ref cC, .ref cN, .ref cD, .ref qT, .ref qH, .int bg, .int bn, .int dt, .int (nI ((k % ta) * 8)), .int (nI ((k / ta) * 8)), .int rt, .int bm]))] := hD
  refine lv_aload_n hx hb dX2_frameTile_37 rfl (lv_at hl 2 rfl) ?_
  refine lv_aload_n hx hb dX2_frameTile_38 rfl (lv_at hl 2 rfl) ?_
  refine va_get (D := (dC, dI)) (ci := 2) (v := .int (nI w)) (C := RX2) (T := TX2) (N := 15) hx hb hts td_fX2 hown hK hP 0 rfl rfl 0 (by decide) (hts (.fieldLink RX2 48 "TileDesk$Picture" "width" "I") (td_i3 (List.mem_of_getElem? (i := 4) rfl))) (fun _ h9 => h9) rfl dX2_frameTile_39 ?_
  refine lv_aload_n hx hb dX2_frameTile_42 rfl (lv_at hl 2 rfl) ?_
  refine va_get (D := (dC, dI)) (ci := 2) (v := .int (nI ((k % ta) * 8))) (C := RX2) (T := TX2) (N := 15) hx hb hts td_fX2 hown hK hP 0 rfl rfl 11 (by decide) (hts (.fieldLink RX2 36 "TileDesk$Picture" "left" "I") (td_i3 (List.mem_of_getElem? (i := 15) rfl))) (fun _ h9 => h9) rfl dX2_frameTile_43 ?_
  refine lv_bipush (v := 8) hx hb dX2_frameTile_46 (by decide) ?_
  refine lv_iadd hx hb dX2_frameTile_48 ?_
  refine td_ti (nI ((k % ta) * 8 + 8)) (nI_add ((k % ta) * 8) 8) ?_
  refine va_mmin hx hb (by rw [hml]; exact hl.1.symm) hown (hts _ (td_i7 (List.mem_of_getElem? (i := 7) rfl))) (hts _ (td_i2 (List.mem_of_getElem? (i := 17) rfl))) (hts _ (td_i1 (List.mem_of_getElem? (i := 5) rfl))) (hts _ (td_i2 (List.mem_of_getElem? (i := 18) rfl))) (Nat.le_of_ble_eq_true rfl) (Nat.le_of_ble_eq_true rfl) (Nat.zero_le _) (Nat.zero_le _) dX2_frameTile_49 ?_
  refine td_ti (nI (if k % ta * 8 + 8 < w then k % ta * 8 + 8 else w)) (td_min32 (by omega) (by omega)) ?_
  refine va_put (D := (dC, dI)) (ci := 2) (v := .int (nI (if k % ta * 8 + 8 < w then k % ta * 8 + 8 else w))) (ty := .int) (C := RX2) (T := TX2) (N := 15) hx hb hts td_fX2 tyX2 tyX2_ok nmX2 hown hK hP hD hS 0 rfl rfl 13 (by decide) (hts (.fieldLink RX2 42 "TileDesk$Picture" "right" "I") (td_i3 (List.mem_of_getElem? (i := 17) rfl))) (fun _ h9 => h9) rfl (by decide +kernel) rfl rfl (Nat.le_of_ble_eq_true rfl) dX2_frameTile_52 (fun H locs hP hD hS => ?_)
  have hP : va_P (dC, dI) vwCl [(qU, .inr (2, [.int (nI w), .int (nI h), .int (nI ta), .ref cC, .ref cN, .ref cD, .ref qT, .ref qH, .int bg, .int bn, .int dt, .int (nI ((k % ta) * 8)), .int (nI ((k / ta) * 8)), .int (nI (if k % ta * 8 + 8 < w then k % ta * 8 + 8 else w)), .int bm]))] H := hP
  have hD : va_D A [(qU, .inr (2, [.int (nI w), .int (nI h), .int (nI ta), .ref cC, .ref cN, .ref cD, .ref qT, .ref qH, .int bg, .int bn, .int dt, .int (nI ((k % ta) * 8)), .int (nI ((k / ta) * 8)), .int (nI (if k % ta * 8 + 8 < w then k % ta * 8 + 8 else w)), .int bm]))] := hD
  refine lv_aload_n hx hb dX2_frameTile_55 rfl (lv_at hl 2 rfl) ?_
  refine lv_aload_n hx hb dX2_frameTile_56 rfl (lv_at hl 2 rfl) ?_
  refine va_get (D := (dC, dI)) (ci := 2) (v := .int (nI h)) (C := RX2) (T := TX2) (N := 15) hx hb hts td_fX2 hown hK hP 0 rfl rfl 1 (by decide) (hts (.fieldLink RX2 51 "TileDesk$Picture" "height" "I") (td_i3 (List.mem_of_getElem? (i := 5) rfl))) (fun _ h9 => h9) rfl dX2_frameTile_57 ?_
  refine lv_aload_n hx hb dX2_frameTile_60 rfl (lv_at hl 2 rfl) ?_
  refine va_get (D := (dC, dI)) (ci := 2) (v := .int (nI ((k / ta) * 8))) (C := RX2) (T := TX2) (N := 15) hx hb hts td_fX2 hown hK hP 0 rfl rfl 12 (by decide) (hts (.fieldLink RX2 39 "TileDesk$Picture" "top" "I") (td_i3 (List.mem_of_getElem? (i := 16) rfl))) (fun _ h9 => h9) rfl dX2_frameTile_61 ?_
  refine lv_bipush (v := 8) hx hb dX2_frameTile_64 (by decide) ?_
  refine lv_iadd hx hb dX2_frameTile_66 ?_
  refine td_ti (nI ((k / ta) * 8 + 8)) (nI_add ((k / ta) * 8) 8) ?_
  refine va_mmin hx hb (by rw [hml]; exact hl.1.symm) hown (hts _ (td_i7 (List.mem_of_getElem? (i := 7) rfl))) (hts _ (td_i2 (List.mem_of_getElem? (i := 17) rfl))) (hts _ (td_i1 (List.mem_of_getElem? (i := 5) rfl))) (hts _ (td_i2 (List.mem_of_getElem? (i := 18) rfl))) (Nat.le_of_ble_eq_true rfl) (Nat.le_of_ble_eq_true rfl) (Nat.zero_le _) (Nat.zero_le _) dX2_frameTile_67 ?_
  refine td_ti (nI (if k / ta * 8 + 8 < h then k / ta * 8 + 8 else h)) (td_min32 (by omega) (by omega)) ?_
  refine va_put (D := (dC, dI)) (ci := 2) (v := .int (nI (if k / ta * 8 + 8 < h then k / ta * 8 + 8 else h))) (ty := .int) (C := RX2) (T := TX2) (N := 15) hx hb hts td_fX2 tyX2 tyX2_ok nmX2 hown hK hP hD hS 0 rfl rfl 14 (by decide) (hts (.fieldLink RX2 45 "TileDesk$Picture" "bottom" "I") (td_i3 (List.mem_of_getElem? (i := 18) rfl))) (fun _ h9 => h9) rfl (by decide +kernel) rfl rfl (Nat.le_of_ble_eq_true rfl) dX2_frameTile_70 (fun H locs hP hD hS => ?_)
  have hP : va_P (dC, dI) vwCl [(qU, .inr (2, [.int (nI w), .int (nI h), .int (nI ta), .ref cC, .ref cN, .ref cD, .ref qT, .ref qH, .int bg, .int bn, .int dt, .int (nI ((k % ta) * 8)), .int (nI ((k / ta) * 8)), .int (nI (if k % ta * 8 + 8 < w then k % ta * 8 + 8 else w)), .int (nI (if k / ta * 8 + 8 < h then k / ta * 8 + 8 else h))]))] H := hP
  have hD : va_D A [(qU, .inr (2, [.int (nI w), .int (nI h), .int (nI ta), .ref cC, .ref cN, .ref cD, .ref qT, .ref qH, .int bg, .int bn, .int dt, .int (nI ((k % ta) * 8)), .int (nI ((k / ta) * 8)), .int (nI (if k % ta * 8 + 8 < w then k % ta * 8 + 8 else w)), .int (nI (if k / ta * 8 + 8 < h then k / ta * 8 + 8 else h))]))] := hD
  have hP9 := hP.sub (ws' := [(qU, .inr (2, [.int (nI w), .int (nI h), .int (nI ta), .ref cC, .ref cN, .ref cD, .ref qT, .ref qH, .int bg, .int bn, .int dt, .int (nI (k % ta * 8)), .int (nI (k / ta * 8)), .int (nI (if k % ta * 8 + 8 < w then k % ta * 8 + 8 else w)), .int (nI (if k / ta * 8 + 8 < h then k / ta * 8 + 8 else h))]))]) [0] rfl
  have hD9 := hD.sub (ws' := [(qU, .inr (2, [.int (nI w), .int (nI h), .int (nI ta), .ref cC, .ref cN, .ref cD, .ref qT, .ref qH, .int bg, .int bn, .int dt, .int (nI (k % ta * 8)), .int (nI (k / ta * 8)), .int (nI (if k % ta * 8 + 8 < w then k % ta * 8 + 8 else w)), .int (nI (if k / ta * 8 + 8 < h then k / ta * 8 + 8 else h))]))]) [0] (by decide) rfl
  exact td_rwv () hx hb hr hlocks hK (trivial) hP9 hD9 hS dX2_frameTile_73
set_option maxHeartbeats 4000000 in
set_option maxRecDepth 100000 in
/-- Picture.fillWithBackground -/
theorem td_fill (l : Launch) (dC : Nat → ClassId) (dI : Nat → Nat → Nat) (cI cJ cZ : ClassId) (sz : Nat) (qU : Nat) (cC : Nat) (cN : Nat) (cD : Nat) (qT : Nat) (qH : Nat) (w : Nat) (h : Nat) (ta : Nat) (bg : Int32) (bn : Int32) (dt : Int32) (lf : Nat) (tp : Nat) (rt : Nat) (bm : Nat) (wh : Nat) (fc : Nat → Int32) (fn : Nat → Int32) (hw1 : 8 ≤ w) (hw2 : w ≤ 48) (hh1 : 8 ≤ h) (hh2 : h ≤ 48) (hlr : lf < rt) (hrw : rt ≤ w) (htb : tp < bm) (hbh : bm ≤ h) (hwh : wh = w * h) : Met l yX2_fillWithBackground wsX2_fillWithBackground ({ frames := 1, cells := 0, slots := 0, locals := 22 }) (td_WP (dC, dI) vwCl (td_T cI cJ cZ) td_nl [(qU, .inr (2, [.int (nI w), .int (nI h), .int (nI ta), .ref cC, .ref cN, .ref cD, .ref qT, .ref qH, .int bg, .int bn, .int dt, .int (nI lf), .int (nI tp), .int (nI rt), .int (nI bm)])), (cC, .inl (cI, wh, .inl fc)), (cN, .inl (cI, wh, .inl fn))] sz [.ref qU]) (va_Qv (S := (Nat → Int32) × (Nat → Int32)) (fun u => td_fI w h lf tp rt bm lf bg fc u.1 ∧ td_fI w h lf tp rt bm lf 0 fn u.2) (td_B (dC, dI) vwCl (td_T cI cJ cZ) (va_A [(qU, .inr (2, [.int (nI w), .int (nI h), .int (nI ta), .ref cC, .ref cN, .ref cD, .ref qT, .ref qH, .int bg, .int bn, .int dt, .int (nI lf), .int (nI tp), .int (nI rt), .int (nI bm)])), (cC, .inl (cI, wh, .inl fc)), (cN, .inl (cI, wh, .inl fn))] sz) (fun (u : (Nat → Int32) × (Nat → Int32)) => [(qU, .inr (2, [.int (nI w), .int (nI h), .int (nI ta), .ref cC, .ref cN, .ref cD, .ref qT, .ref qH, .int bg, .int bn, .int dt, .int (nI lf), .int (nI tp), .int (nI rt), .int (nI bm)])), (cC, .inl (cI, wh, .inl u.1)), (cN, .inl (cI, wh, .inl u.2))])) (va_A [(qU, .inr (2, [.int (nI w), .int (nI h), .int (nI ta), .ref cC, .ref cN, .ref cD, .ref qT, .ref qH, .int bg, .int bn, .int dt, .int (nI lf), .int (nI tp), .int (nI rt), .int (nI bm)])), (cC, .inl (cI, wh, .inl fc)), (cN, .inl (cI, wh, .inl fn))] sz)) 0 0 (va_A [(qU, .inr (2, [.int (nI w), .int (nI h), .int (nI ta), .ref cC, .ref cN, .ref cD, .ref qT, .ref qH, .int bg, .int bn, .int dt, .int (nI lf), .int (nI tp), .int (nI rt), .int (nI bm)])), (cC, .inl (cI, wh, .inl fc)), (cN, .inl (cI, wh, .inl fn))] sz) := by
  refine Met.ofW (cc := cX2_fillWithBackground) (maxL := 3) (ret := none) (by decide) rfl ?_
  intro p e s m args below meth c s₁ B hml hv
  obtain ⟨rfl, hsz, hP, hK, hZ, hD0⟩ := hv
  have hx := B.exec
  have hb := B.bytes
  have hr := B.returns
  have hts := atoms_spec (ws := wsX2_fillWithBackground) B.pre
  have hown : s.vm.findClass RX2 = some m.cls := findClass_of_methodNamed B.named
  have hlocks := B.notSynchronized
  subst hsz
  have hD := hD0.self (sz := s.heap.size)
  generalize hAe : va_A [(qU, .inr (2, [.int (nI w), .int (nI h), .int (nI ta), .ref cC, .ref cN, .ref cD, .ref qT, .ref qH, .int bg, .int bn, .int dt, .int (nI lf), .int (nI tp), .int (nI rt), .int (nI bm)])), (cC, .inl (cI, wh, .inl fc)), (cN, .inl (cI, wh, .inl fn))] s.heap.size = A at hD ⊢
  have hA : ∀ q : Nat, s.heap.size ≤ q → A q := fun q h => by rw [← hAe]; exact Or.inr h
  have hS : va_S A s.heap s.heap [] := va_S.rf
  have hP : va_P (dC, dI) vwCl [(qU, .inr (2, [.int (nI w), .int (nI h), .int (nI ta), .ref cC, .ref cN, .ref cD, .ref qT, .ref qH, .int bg, .int bn, .int dt, .int (nI lf), .int (nI tp), .int (nI rt), .int (nI bm)])), (cC, .inl (cI, wh, .inl fc)), (cN, .inl (cI, wh, .inl fn))] s.heap := hP
  have hl := lv_entry ([.ref qU]) (n := 3) (Nat.le_of_ble_eq_true rfl)
  rw [lg_entry_eq]
  generalize (lg_sl ([.ref qU]) ++ List.replicate (3 - (lg_sl ([.ref qU])).length) Slot.unset).toArray = ls at hl ⊢
  have hl : lv_has ls 3 [(0, .ref qU)] := hl
  have hw48 := td_wh hw2 hh2
  refine lv_aload_n hx hb dX2_fillWithBackground_0 rfl (lv_at hl 0 rfl) ?_
  refine va_get (D := (dC, dI)) (ci := 2) (v := .int (nI tp)) (C := RX2) (T := TX2) (N := 15) hx hb hts td_fX2 hown hK hP 0 rfl rfl 12 (by decide) (hts (.fieldLink RX2 39 "TileDesk$Picture" "top" "I") (td_i3 (List.mem_of_getElem? (i := 16) rfl))) (fun _ h9 => h9) rfl dX2_fillWithBackground_1 ?_
  refine lv_istore_n (lv' := [(1, .int (nI tp)), (0, .ref qU)]) hx hb dX2_fillWithBackground_4 rfl hl (by decide) rfl (fun ls hl => ?_)
  have lp5 : ∀ (n5 : Nat) (y : Nat) (gc : Nat → Int32) (gn : Nat → Int32), (tp ≤ y) → (y ≤ bm) → (td_fI w h lf tp rt y lf bg fc gc) → (td_fI w h lf tp rt y lf 0 fn gn) → bm - y < n5 → ∀ (H : Heap) (locs : List Loc), va_P (dC, dI) vwCl [(qU, .inr (2, [.int (nI w), .int (nI h), .int (nI ta), .ref cC, .ref cN, .ref cD, .ref qT, .ref qH, .int bg, .int bn, .int dt, .int (nI lf), .int (nI tp), .int (nI rt), .int (nI bm)])), (cC, .inl (cI, wh, .inl gc)), (cN, .inl (cI, wh, .inl gn))] H → va_D A [(qU, .inr (2, [.int (nI w), .int (nI h), .int (nI ta), .ref cC, .ref cN, .ref cD, .ref qT, .ref qH, .int bg, .int bn, .int dt, .int (nI lf), .int (nI tp), .int (nI rt), .int (nI bm)])), (cC, .inl (cI, wh, .inl gc)), (cN, .inl (cI, wh, .inl gn))] → va_S A s.heap H locs → ∀ ls : Array Slot, lv_has ls 3 [(0, .ref qU), (1, .int (nI y))] → W p l e (headSpec wsX2_fillWithBackground ({ frames := 1, cells := 0, slots := 0, locals := 22 })).room s m (([.ref qU] : List Value).toArray) below meth c H locs 0 0 (MQ below (va_Qv (S := (Nat → Int32) × (Nat → Int32)) (fun u => td_fI w h lf tp rt bm lf bg fc u.1 ∧ td_fI w h lf tp rt bm lf 0 fn u.2) (td_B (dC, dI) vwCl (td_T cI cJ cZ) A (fun (u : (Nat → Int32) × (Nat → Int32)) => [(qU, .inr (2, [.int (nI w), .int (nI h), .int (nI ta), .ref cC, .ref cN, .ref cD, .ref qT, .ref qH, .int bg, .int bn, .int dt, .int (nI lf), .int (nI tp), .int (nI rt), .int (nI bm)])), (cC, .inl (cI, wh, .inl u.1)), (cN, .inl (cI, wh, .inl u.2))])) A) (([.ref qU] : List Value).toArray) s 0 0 A) (F0 m 5 ls []) := by
    intro n5
    induction n5 with
    | zero => intro y gc gn hy1 hy2 hic hin2 hm; exact absurd hm (Nat.not_lt_zero _)
    | succ n5 ih5 =>
      intro y gc gn hy1 hy2 hic hin2 hm5 H locs hP hD hS ls hl
      refine lv_iload_n hx hb dX2_fillWithBackground_5 rfl (lv_at hl 1 rfl) ?_
      refine lv_aload_n hx hb dX2_fillWithBackground_6 rfl (lv_at hl 0 rfl) ?_
      refine va_get (D := (dC, dI)) (ci := 2) (v := .int (nI bm)) (C := RX2) (T := TX2) (N := 15) hx hb hts td_fX2 hown hK hP 0 rfl rfl 14 (by decide) (hts (.fieldLink RX2 45 "TileDesk$Picture" "bottom" "I") (td_i3 (List.mem_of_getElem? (i := 18) rfl))) (fun _ h9 => h9) rfl dX2_fillWithBackground_7 ?_
      refine lv_icmp_ge (tgt := 65) hx hb dX2_fillWithBackground_10 (by decide) (fun c10 => ?_) (fun c10 => ?_)
      · have hyb : y = bm := by have := (nI_leI (a := bm) (b := y) (by omega) (by omega)).mp c10; omega
        have hP9 := hP.sub (ws' := [(qU, .inr (2, [.int (nI w), .int (nI h), .int (nI ta), .ref cC, .ref cN, .ref cD, .ref qT, .ref qH, .int bg, .int bn, .int dt, .int (nI lf), .int (nI tp), .int (nI rt), .int (nI bm)])), (cC, .inl (cI, wh, .inl gc)), (cN, .inl (cI, wh, .inl gn))]) [0, 1, 2] rfl
        have hD9 := hD.sub (ws' := [(qU, .inr (2, [.int (nI w), .int (nI h), .int (nI ta), .ref cC, .ref cN, .ref cD, .ref qT, .ref qH, .int bg, .int bn, .int dt, .int (nI lf), .int (nI tp), .int (nI rt), .int (nI bm)])), (cC, .inl (cI, wh, .inl gc)), (cN, .inl (cI, wh, .inl gn))]) [0, 1, 2] (by decide) rfl
        exact td_rwv (gc, gn) hx hb hr hlocks hK (⟨by have z := hic; rw [hyb] at z; exact z, by have z := hin2; rw [hyb] at z; exact z⟩) hP9 hD9 hS dX2_fillWithBackground_65
      · have hyl : y < bm := by rcases Nat.lt_or_ge y bm with q | q; exact q; exact absurd (nI_le q (by omega)) c10
        refine lv_aload_n hx hb dX2_fillWithBackground_13 rfl (lv_at hl 0 rfl) ?_
        refine va_get (D := (dC, dI)) (ci := 2) (v := .int (nI lf)) (C := RX2) (T := TX2) (N := 15) hx hb hts td_fX2 hown hK hP 0 rfl rfl 11 (by decide) (hts (.fieldLink RX2 36 "TileDesk$Picture" "left" "I") (td_i3 (List.mem_of_getElem? (i := 15) rfl))) (fun _ h9 => h9) rfl dX2_fillWithBackground_14 ?_
        refine lv_istore_n (lv' := [(2, .int (nI lf)), (0, .ref qU), (1, .int (nI y))]) hx hb dX2_fillWithBackground_17 rfl hl (by decide) rfl (fun ls hl => ?_)
        have lp18 : ∀ (n18 : Nat) (x : Nat) (gc : Nat → Int32) (gn : Nat → Int32), (lf ≤ x) → (x ≤ rt) → (td_fI w h lf tp rt y x bg fc gc) → (td_fI w h lf tp rt y x 0 fn gn) → rt - x < n18 → ∀ (H : Heap) (locs : List Loc), va_P (dC, dI) vwCl [(qU, .inr (2, [.int (nI w), .int (nI h), .int (nI ta), .ref cC, .ref cN, .ref cD, .ref qT, .ref qH, .int bg, .int bn, .int dt, .int (nI lf), .int (nI tp), .int (nI rt), .int (nI bm)])), (cC, .inl (cI, wh, .inl gc)), (cN, .inl (cI, wh, .inl gn))] H → va_D A [(qU, .inr (2, [.int (nI w), .int (nI h), .int (nI ta), .ref cC, .ref cN, .ref cD, .ref qT, .ref qH, .int bg, .int bn, .int dt, .int (nI lf), .int (nI tp), .int (nI rt), .int (nI bm)])), (cC, .inl (cI, wh, .inl gc)), (cN, .inl (cI, wh, .inl gn))] → va_S A s.heap H locs → ∀ ls : Array Slot, lv_has ls 3 [(0, .ref qU), (1, .int (nI y)), (2, .int (nI x))] → W p l e (headSpec wsX2_fillWithBackground ({ frames := 1, cells := 0, slots := 0, locals := 22 })).room s m (([.ref qU] : List Value).toArray) below meth c H locs 0 0 (MQ below (va_Qv (S := (Nat → Int32) × (Nat → Int32)) (fun u => td_fI w h lf tp rt bm lf bg fc u.1 ∧ td_fI w h lf tp rt bm lf 0 fn u.2) (td_B (dC, dI) vwCl (td_T cI cJ cZ) A (fun (u : (Nat → Int32) × (Nat → Int32)) => [(qU, .inr (2, [.int (nI w), .int (nI h), .int (nI ta), .ref cC, .ref cN, .ref cD, .ref qT, .ref qH, .int bg, .int bn, .int dt, .int (nI lf), .int (nI tp), .int (nI rt), .int (nI bm)])), (cC, .inl (cI, wh, .inl u.1)), (cN, .inl (cI, wh, .inl u.2))])) A) (([.ref qU] : List Value).toArray) s 0 0 A) (F0 m 18 ls []) := by
          intro n18
          induction n18 with
          | zero => intro x gc gn hx1 hx2 hic hin2 hm; exact absurd hm (Nat.not_lt_zero _)
          | succ n18 ih18 =>
            intro x gc gn hx1 hx2 hic hin2 hm18 H locs hP hD hS ls hl
            refine lv_iload_n hx hb dX2_fillWithBackground_18 rfl (lv_at hl 2 rfl) ?_
            refine lv_aload_n hx hb dX2_fillWithBackground_19 rfl (lv_at hl 0 rfl) ?_
            refine va_get (D := (dC, dI)) (ci := 2) (v := .int (nI rt)) (C := RX2) (T := TX2) (N := 15) hx hb hts td_fX2 hown hK hP 0 rfl rfl 13 (by decide) (hts (.fieldLink RX2 42 "TileDesk$Picture" "right" "I") (td_i3 (List.mem_of_getElem? (i := 17) rfl))) (fun _ h9 => h9) rfl dX2_fillWithBackground_20 ?_
            refine lv_icmp_ge (tgt := 59) hx hb dX2_fillWithBackground_23 (by decide) (fun c23 => ?_) (fun c23 => ?_)
            · have hxr : x = rt := by have := (nI_leI (a := rt) (b := x) (by omega) (by omega)).mp c23; omega
              refine lv_iinc (v := nI (y + 1)) (lv' := [(1, .int (nI (y + 1))), (0, .ref qU), (2, .int (nI x))]) hx hb dX2_fillWithBackground_59 hl (k := 1) rfl (nI_add y 1) (by decide) rfl (fun ls hl => ?_)
              refine lv_goto (tgt := 5) hx hb dX2_fillWithBackground_62 (by decide) ?_
              exact ih5 (y + 1) gc gn (by omega) (by omega) (td_fI_row hy1 (by have z := hic; rw [hxr] at z; exact z)) (td_fI_row hy1 (by have z := hin2; rw [hxr] at z; exact z)) (by omega) _ _ (hP.sub [0, 1, 2] rfl) (hD.sub [0, 1, 2] (by decide) rfl) hS ls (lv_sub hl [1, 0] rfl)
            · have hxl : x < rt := by rcases Nat.lt_or_ge x rt with q | q; exact q; exact absurd (nI_le q (by omega)) c23
              refine lv_aload_n hx hb dX2_fillWithBackground_26 rfl (lv_at hl 0 rfl) ?_
              refine va_get (D := (dC, dI)) (ci := 2) (v := .ref cC) (C := RX2) (T := TX2) (N := 15) hx hb hts td_fX2 hown hK hP 0 rfl rfl 3 (by decide) (hts (.fieldLink RX2 57 "TileDesk$Picture" "colours" "[I") (td_i3 (List.mem_of_getElem? (i := 7) rfl))) (fun _ h9 => h9) rfl dX2_fillWithBackground_27 ?_
              refine lv_aload_n hx hb dX2_fillWithBackground_30 rfl (lv_at hl 0 rfl) ?_
              refine lv_iload_n hx hb dX2_fillWithBackground_31 rfl (lv_at hl 2 rfl) ?_
              refine lv_iload_n hx hb dX2_fillWithBackground_32 rfl (lv_at hl 1 rfl) ?_
              refine td_csi (va_runV (As := [.int (nI x), .int (nI y)]) (rest := [.ref cC]) ⟨hx, hb, hml, hown, hts⟩ (td_pixelIndex l dC dI cI cJ cZ qU cC cN cD qT qH w h ta bg bn dt (nI lf) (nI tp) (nI rt) (nI bm) x y) (cwV 2 hts (td_gV (td_i7 (List.mem_of_getElem? (i := 11) rfl)) (td_i7 (List.mem_of_getElem? (i := 12) rfl)) (td_i7 (List.mem_of_getElem? (i := 13) rfl)) (td_i1 (List.mem_of_getElem? (i := 4) rfl)) (td_i7 (List.mem_of_getElem? (i := 14) rfl))) rfl rfl rfl (by decide +kernel) ⟨(Nat.le_of_ble_eq_true rfl), (Nat.le_of_ble_eq_true rfl)⟩) (td_pRV hK hZ hP [0] rfl (va_recv hK hP (ci := 2) (q0 := 0) rfl rfl)) rfl rfl hl.1 rfl (lv_room (Nat.le_of_ble_eq_true rfl)) dX2_fillWithBackground_33 ⟨Nat.zero_le _, Nat.zero_le _⟩) ?_
              refine lv_aload_n hx hb dX2_fillWithBackground_36 rfl (lv_at hl 0 rfl) ?_
              refine va_get (D := (dC, dI)) (ci := 2) (v := .int bg) (C := RX2) (T := TX2) (N := 15) hx hb hts td_fX2 hown hK hP 0 rfl rfl 8 (by decide) (hts (.fieldLink RX2 25 "TileDesk$Picture" "background" "I") (td_i3 (List.mem_of_getElem? (i := 12) rfl))) (fun _ h9 => h9) rfl dX2_fillWithBackground_37 ?_
              refine td_iast hx hb hK hP hD hS 1 0 (y * w + x) rfl rfl rfl (by rw [hwh]; exact td_ix (by omega) (by omega)) (by omega) dX2_fillWithBackground_40 (fun H locs hP hD hS => ?_)
              have hP : va_P (dC, dI) vwCl [(qU, .inr (2, [.int (nI w), .int (nI h), .int (nI ta), .ref cC, .ref cN, .ref cD, .ref qT, .ref qH, .int bg, .int bn, .int dt, .int (nI lf), .int (nI tp), .int (nI rt), .int (nI bm)])), (cC, .inl (cI, wh, .inl (upd gc (y * w + x) bg))), (cN, .inl (cI, wh, .inl gn))] H := hP
              have hD : va_D A [(qU, .inr (2, [.int (nI w), .int (nI h), .int (nI ta), .ref cC, .ref cN, .ref cD, .ref qT, .ref qH, .int bg, .int bn, .int dt, .int (nI lf), .int (nI tp), .int (nI rt), .int (nI bm)])), (cC, .inl (cI, wh, .inl (upd gc (y * w + x) bg))), (cN, .inl (cI, wh, .inl gn))] := hD
              refine lv_aload_n hx hb dX2_fillWithBackground_41 rfl (lv_at hl 0 rfl) ?_
              refine va_get (D := (dC, dI)) (ci := 2) (v := .ref cN) (C := RX2) (T := TX2) (N := 15) hx hb hts td_fX2 hown hK hP 0 rfl rfl 4 (by decide) (hts (.fieldLink RX2 61 "TileDesk$Picture" "nearest" "[I") (td_i3 (List.mem_of_getElem? (i := 8) rfl))) (fun _ h9 => h9) rfl dX2_fillWithBackground_42 ?_
              refine lv_aload_n hx hb dX2_fillWithBackground_45 rfl (lv_at hl 0 rfl) ?_
              refine lv_iload_n hx hb dX2_fillWithBackground_46 rfl (lv_at hl 2 rfl) ?_
              refine lv_iload_n hx hb dX2_fillWithBackground_47 rfl (lv_at hl 1 rfl) ?_
              refine td_csi (va_runV (As := [.int (nI x), .int (nI y)]) (rest := [.ref cN]) ⟨hx, hb, hml, hown, hts⟩ (td_pixelIndex l dC dI cI cJ cZ qU cC cN cD qT qH w h ta bg bn dt (nI lf) (nI tp) (nI rt) (nI bm) x y) (cwV 2 hts (td_gV (td_i7 (List.mem_of_getElem? (i := 11) rfl)) (td_i7 (List.mem_of_getElem? (i := 12) rfl)) (td_i7 (List.mem_of_getElem? (i := 13) rfl)) (td_i1 (List.mem_of_getElem? (i := 4) rfl)) (td_i7 (List.mem_of_getElem? (i := 14) rfl))) rfl rfl rfl (by decide +kernel) ⟨(Nat.le_of_ble_eq_true rfl), (Nat.le_of_ble_eq_true rfl)⟩) (td_pRV hK hZ hP [0] rfl (va_recv hK hP (ci := 2) (q0 := 0) rfl rfl)) rfl rfl hl.1 rfl (lv_room (Nat.le_of_ble_eq_true rfl)) dX2_fillWithBackground_48 ⟨Nat.zero_le _, Nat.zero_le _⟩) ?_
              refine lv_iconst (v := 0) hx hb dX2_fillWithBackground_51 (by decide) ?_
              refine td_iast hx hb hK hP hD hS 2 0 (y * w + x) rfl rfl rfl (by rw [hwh]; exact td_ix (by omega) (by omega)) (by omega) dX2_fillWithBackground_52 (fun H locs hP hD hS => ?_)
              have hP : va_P (dC, dI) vwCl [(qU, .inr (2, [.int (nI w), .int (nI h), .int (nI ta), .ref cC, .ref cN, .ref cD, .ref qT, .ref qH, .int bg, .int bn, .int dt, .int (nI lf), .int (nI tp), .int (nI rt), .int (nI bm)])), (cC, .inl (cI, wh, .inl (upd gc (y * w + x) bg))), (cN, .inl (cI, wh, .inl (upd gn (y * w + x) 0)))] H := hP
              have hD : va_D A [(qU, .inr (2, [.int (nI w), .int (nI h), .int (nI ta), .ref cC, .ref cN, .ref cD, .ref qT, .ref qH, .int bg, .int bn, .int dt, .int (nI lf), .int (nI tp), .int (nI rt), .int (nI bm)])), (cC, .inl (cI, wh, .inl (upd gc (y * w + x) bg))), (cN, .inl (cI, wh, .inl (upd gn (y * w + x) 0)))] := hD
              refine lv_iinc (v := nI (x + 1)) (lv' := [(2, .int (nI (x + 1))), (0, .ref qU), (1, .int (nI y))]) hx hb dX2_fillWithBackground_53 hl (k := 2) rfl (nI_add x 1) (by decide) rfl (fun ls hl => ?_)
              refine lv_goto (tgt := 18) hx hb dX2_fillWithBackground_56 (by decide) ?_
              exact ih18 (x + 1) (upd gc (y * w + x) bg) (upd gn (y * w + x) 0) (by omega) (by omega) (td_fI_put (by omega) hx1 hxl hic) (td_fI_put (by omega) hx1 hxl hin2) (by omega) _ _ (hP.sub [0, 1, 2] rfl) (hD.sub [0, 1, 2] (by decide) rfl) hS ls (lv_sub hl [1, 2, 0] rfl)
        exact lp18 ((rt - lf) + 1) lf gc gn (Nat.le_refl _) (Nat.le_of_lt hlr) hic hin2 (Nat.lt_succ_self _) _ _ (hP.sub [0, 1, 2] rfl) (hD.sub [0, 1, 2] (by decide) rfl) hS ls (lv_sub hl [1, 2, 0] rfl)
  exact lp5 ((bm - tp) + 1) tp fc fn (Nat.le_refl _) (Nat.le_of_lt htb) td_fI0 td_fI0 (Nat.lt_succ_self _) _ _ (hP.sub [0, 1, 2] rfl) (hD.sub [0, 1, 2] (by decide) rfl) hS ls (lv_sub hl [1, 0] rfl)
set_option maxHeartbeats 4000000 in
set_option maxRecDepth 100000 in
/-- Picture.paint -/
theorem td_paint (l : Launch) (dC : Nat → ClassId) (dI : Nat → Nat → Nat) (cI cJ cZ : ClassId) (sz : Nat) (qU : Nat) (cC : Nat) (cN : Nat) (cD : Nat) (qT : Nat) (qH : Nat) (w : Nat) (h : Nat) (ta : Nat) (bg : Int32) (bn : Int32) (dt : Int32) (lf : Int32) (tp : Int32) (rt : Int32) (bm : Int32) (wh : Nat) (fc : Nat → Int32) (fn : Nat → Int32) (aX : Nat) (aY : Nat) (aR : Nat) (aL : Nat) (aW : Nat) (vX : Nat → Int64) (vY : Nat → Int64) (vR : Nat → Int64) (vL : Nat → Int64) (vW : Nat → Int64) (t : Nat) (T : Nat) (C : Nat) (nr : Nat) (lt : Nat) (c0 : Nat) (n0 : Nat) (ht : t < wh) (hwh : wh ≤ 2304) (hT : T < 16777216) (hC : C ≤ 255) (hN : td_q (td_wr vW vR) (td_ca vX vY) = lN nr) (hnr : nr ≤ 1048576) (hL : td_q (td_wl vW vR vL) (td_wr vW vR) = lN lt) (hlt : lt ≤ 65536) (hc0 : fc t = nI c0) (hc1 : c0 < 16777216) (hn0 : fn t = nI n0) (hn1 : n0 < 2147483648) : Met l yX2_paint wsX2_paint ({ frames := 3, cells := 0, slots := 0, locals := 78 }) (td_WP (dC, dI) vwCl (td_T cI cJ cZ) td_nl [(qU, .inr (2, [.int (nI w), .int (nI h), .int (nI ta), .ref cC, .ref cN, .ref cD, .ref qT, .ref qH, .int bg, .int bn, .int dt, .int lf, .int tp, .int rt, .int bm])), (cC, .inl (cI, wh, .inl fc)), (cN, .inl (cI, wh, .inl fn)), (qH, .inr (0, [.ref aX, .ref aY, .ref aR, .ref aL, .ref aW])), (aX, .inl (cJ, 3, .inr (.inl vX))), (aY, .inl (cJ, 3, .inr (.inl vY))), (aR, .inl (cJ, 3, .inr (.inl vR))), (aL, .inl (cJ, 3, .inr (.inl vL))), (aW, .inl (cJ, 3, .inr (.inl vW)))] sz [.ref qU, .int (nI t), .int (nI T), .int (nI C)]) (va_Qv (S := (Nat → Int32) × (Nat → Int32)) (fun u => (∀ z, z ≠ t → u.1 z = fc z ∧ u.2 z = fn z) ∧ u.1 t = nI (td_pt T nr lt C c0 n0).1 ∧ u.2 t = nI (td_pt T nr lt C c0 n0).2) (td_B (dC, dI) vwCl (td_T cI cJ cZ) (va_A [(qU, .inr (2, [.int (nI w), .int (nI h), .int (nI ta), .ref cC, .ref cN, .ref cD, .ref qT, .ref qH, .int bg, .int bn, .int dt, .int lf, .int tp, .int rt, .int bm])), (cC, .inl (cI, wh, .inl fc)), (cN, .inl (cI, wh, .inl fn)), (qH, .inr (0, [.ref aX, .ref aY, .ref aR, .ref aL, .ref aW])), (aX, .inl (cJ, 3, .inr (.inl vX))), (aY, .inl (cJ, 3, .inr (.inl vY))), (aR, .inl (cJ, 3, .inr (.inl vR))), (aL, .inl (cJ, 3, .inr (.inl vL))), (aW, .inl (cJ, 3, .inr (.inl vW)))] sz) (fun (u : (Nat → Int32) × (Nat → Int32)) => [(qU, .inr (2, [.int (nI w), .int (nI h), .int (nI ta), .ref cC, .ref cN, .ref cD, .ref qT, .ref qH, .int bg, .int bn, .int dt, .int lf, .int tp, .int rt, .int bm])), (cC, .inl (cI, wh, .inl u.1)), (cN, .inl (cI, wh, .inl u.2)), (qH, .inr (0, [.ref aX, .ref aY, .ref aR, .ref aL, .ref aW])), (aX, .inl (cJ, 3, .inr (.inl vX))), (aY, .inl (cJ, 3, .inr (.inl vY))), (aR, .inl (cJ, 3, .inr (.inl vR))), (aL, .inl (cJ, 3, .inr (.inl vL))), (aW, .inl (cJ, 3, .inr (.inl vW)))])) (va_A [(qU, .inr (2, [.int (nI w), .int (nI h), .int (nI ta), .ref cC, .ref cN, .ref cD, .ref qT, .ref qH, .int bg, .int bn, .int dt, .int lf, .int tp, .int rt, .int bm])), (cC, .inl (cI, wh, .inl fc)), (cN, .inl (cI, wh, .inl fn)), (qH, .inr (0, [.ref aX, .ref aY, .ref aR, .ref aL, .ref aW])), (aX, .inl (cJ, 3, .inr (.inl vX))), (aY, .inl (cJ, 3, .inr (.inl vY))), (aR, .inl (cJ, 3, .inr (.inl vR))), (aL, .inl (cJ, 3, .inr (.inl vL))), (aW, .inl (cJ, 3, .inr (.inl vW)))] sz)) 0 0 (va_A [(qU, .inr (2, [.int (nI w), .int (nI h), .int (nI ta), .ref cC, .ref cN, .ref cD, .ref qT, .ref qH, .int bg, .int bn, .int dt, .int lf, .int tp, .int rt, .int bm])), (cC, .inl (cI, wh, .inl fc)), (cN, .inl (cI, wh, .inl fn)), (qH, .inr (0, [.ref aX, .ref aY, .ref aR, .ref aL, .ref aW])), (aX, .inl (cJ, 3, .inr (.inl vX))), (aY, .inl (cJ, 3, .inr (.inl vY))), (aR, .inl (cJ, 3, .inr (.inl vR))), (aL, .inl (cJ, 3, .inr (.inl vL))), (aW, .inl (cJ, 3, .inr (.inl vW)))] sz) := by
  refine Met.ofW (cc := cX2_paint) (maxL := 6) (ret := none) (by decide) rfl ?_
  intro p e s m args below meth c s₁ B hml hv
  obtain ⟨rfl, hsz, hP, hK, hZ, hD0⟩ := hv
  have hx := B.exec
  have hb := B.bytes
  have hr := B.returns
  have hts := atoms_spec (ws := wsX2_paint) B.pre
  have hown : s.vm.findClass RX2 = some m.cls := findClass_of_methodNamed B.named
  have hlocks := B.notSynchronized
  subst hsz
  have hD := hD0.self (sz := s.heap.size)
  generalize hAe : va_A [(qU, .inr (2, [.int (nI w), .int (nI h), .int (nI ta), .ref cC, .ref cN, .ref cD, .ref qT, .ref qH, .int bg, .int bn, .int dt, .int lf, .int tp, .int rt, .int bm])), (cC, .inl (cI, wh, .inl fc)), (cN, .inl (cI, wh, .inl fn)), (qH, .inr (0, [.ref aX, .ref aY, .ref aR, .ref aL, .ref aW])), (aX, .inl (cJ, 3, .inr (.inl vX))), (aY, .inl (cJ, 3, .inr (.inl vY))), (aR, .inl (cJ, 3, .inr (.inl vR))), (aL, .inl (cJ, 3, .inr (.inl vL))), (aW, .inl (cJ, 3, .inr (.inl vW)))] s.heap.size = A at hD ⊢
  have hA : ∀ q : Nat, s.heap.size ≤ q → A q := fun q h => by rw [← hAe]; exact Or.inr h
  have hS : va_S A s.heap s.heap [] := va_S.rf
  have hP : va_P (dC, dI) vwCl [(qU, .inr (2, [.int (nI w), .int (nI h), .int (nI ta), .ref cC, .ref cN, .ref cD, .ref qT, .ref qH, .int bg, .int bn, .int dt, .int lf, .int tp, .int rt, .int bm])), (cC, .inl (cI, wh, .inl fc)), (cN, .inl (cI, wh, .inl fn)), (qH, .inr (0, [.ref aX, .ref aY, .ref aR, .ref aL, .ref aW])), (aX, .inl (cJ, 3, .inr (.inl vX))), (aY, .inl (cJ, 3, .inr (.inl vY))), (aR, .inl (cJ, 3, .inr (.inl vR))), (aL, .inl (cJ, 3, .inr (.inl vL))), (aW, .inl (cJ, 3, .inr (.inl vW)))] s.heap := hP
  have hl := lv_entry ([.ref qU, .int (nI t), .int (nI T), .int (nI C)]) (n := 6) (Nat.le_of_ble_eq_true rfl)
  rw [lg_entry_eq]
  generalize (lg_sl ([.ref qU, .int (nI t), .int (nI T), .int (nI C)]) ++ List.replicate (6 - (lg_sl ([.ref qU, .int (nI t), .int (nI T), .int (nI C)])).length) Slot.unset).toArray = ls at hl ⊢
  have hl : lv_has ls 6 [(0, .ref qU), (1, .int (nI t)), (2, .int (nI T)), (3, .int (nI C))] := hl
  refine lv_aload_n hx hb dX2_paint_0 rfl (lv_at hl 0 rfl) ?_
  refine va_get (D := (dC, dI)) (ci := 2) (v := .ref qH) (C := RX2) (T := TX2) (N := 15) hx hb hts td_fX2 hown hK hP 0 rfl rfl 7 (by decide) (hts (.fieldLink RX2 21 "TileDesk$Picture" "shape" "LTileDesk$Shape;") (td_i3 (List.mem_of_getElem? (i := 11) rfl))) (fun _ h9 => h9) rfl dX2_paint_1 ?_
  refine td_csl (va_runV (As := []) (rest := []) ⟨hx, hb, hml, hown, hts⟩ (td_nearnessHere l dC dI cI cJ cZ qH aX aY aR aL aW vX vY vR vL vW) (cwV 0 hts (td_gV (td_i10 (List.mem_of_getElem? (i := 2) rfl)) (td_i10 (List.mem_of_getElem? (i := 3) rfl)) (td_i10 (List.mem_of_getElem? (i := 4) rfl)) (td_i1 (List.mem_of_getElem? (i := 2) rfl)) (td_i10 (List.mem_of_getElem? (i := 5) rfl))) rfl rfl rfl (by decide +kernel) ⟨(Nat.le_of_ble_eq_true rfl), (Nat.le_of_ble_eq_true rfl)⟩) (td_pRV hK hZ hP [3, 4, 5, 6, 7, 8] rfl (va_recv hK hP (ci := 0) (q0 := 3) rfl rfl)) rfl rfl hl.1 rfl (lv_room (Nat.le_of_ble_eq_true rfl)) dX2_paint_4 ⟨Nat.zero_le _, Nat.zero_le _⟩) ?_
  refine td_tl (lN nr) (hN) ?_
  refine lv_l2i (v := (lN nr).toInt32) hx hb dX2_paint_7 rfl ?_
  refine td_ti (nI nr) (lN_i _) ?_
  refine lv_istore (lv' := [(4, .int (nI nr)), (0, .ref qU), (1, .int (nI t)), (2, .int (nI T)), (3, .int (nI C))]) hx hb dX2_paint_8 hl (by decide) rfl (fun ls hl => ?_)
  refine lv_iload hx hb dX2_paint_10 (lv_at hl 0 rfl) ?_
  refine lv_aload_n hx hb dX2_paint_12 rfl (lv_at hl 1 rfl) ?_
  refine va_get (D := (dC, dI)) (ci := 2) (v := .ref cN) (C := RX2) (T := TX2) (N := 15) hx hb hts td_fX2 hown hK hP 0 rfl rfl 4 (by decide) (hts (.fieldLink RX2 61 "TileDesk$Picture" "nearest" "[I") (td_i3 (List.mem_of_getElem? (i := 8) rfl))) (fun _ h9 => h9) rfl dX2_paint_13 ?_
  refine lv_iload_n hx hb dX2_paint_16 rfl (lv_at hl 2 rfl) ?_
  refine td_iald hx hb hK hP 2 0 t rfl rfl rfl (by omega) (by omega) dX2_paint_17 ?_
  refine td_ti (nI n0) (hn0) ?_
  refine lv_icmp_gt (tgt := 22) hx hb dX2_paint_18 (by decide) (fun c18 => ?_) (fun c18 => ?_)
  · have hlt2 : n0 < nr := (nI_ltI (a := n0) (b := nr) (by omega) (by omega)).mp c18
    refine lv_iload_n hx hb dX2_paint_22 rfl (lv_at hl 3 rfl) ?_
    refine lv_aload_n hx hb dX2_paint_23 rfl (lv_at hl 1 rfl) ?_
    refine va_get (D := (dC, dI)) (ci := 2) (v := .ref qH) (C := RX2) (T := TX2) (N := 15) hx hb hts td_fX2 hown hK hP 0 rfl rfl 7 (by decide) (hts (.fieldLink RX2 21 "TileDesk$Picture" "shape" "LTileDesk$Shape;") (td_i3 (List.mem_of_getElem? (i := 11) rfl))) (fun _ h9 => h9) rfl dX2_paint_24 ?_
    refine td_csl (va_runV (As := []) (rest := [.int (nI T)]) ⟨hx, hb, hml, hown, hts⟩ (td_lightHere l dC dI cI cJ cZ qH aX aY aR aL aW vX vY vR vL vW) (cwV 0 hts (td_gV (td_i10 (List.mem_of_getElem? (i := 10) rfl)) (td_i10 (List.mem_of_getElem? (i := 11) rfl)) (td_i10 (List.mem_of_getElem? (i := 12) rfl)) (td_i1 (List.mem_of_getElem? (i := 2) rfl)) (td_i10 (List.mem_of_getElem? (i := 13) rfl))) rfl rfl rfl (by decide +kernel) ⟨(Nat.le_of_ble_eq_true rfl), (Nat.le_of_ble_eq_true rfl)⟩) (td_pRV hK hZ hP [3, 4, 5, 6, 7, 8] rfl (va_recv hK hP (ci := 0) (q0 := 3) rfl rfl)) rfl rfl hl.1 rfl (lv_room (Nat.le_of_ble_eq_true rfl)) dX2_paint_27 ⟨Nat.zero_le _, Nat.zero_le _⟩) ?_
    refine td_tl (lN lt) (hL) ?_
    refine td_csi (va_runSN (As := [.int (nI T), .long (lN lt)]) (rest := []) ⟨hx, hb, hml, hown, hts⟩ (td_litColour l dC dI cI cJ cZ T lt (by omega) (by omega)) (⟨va_cnB 2 hts (td_gC (td_i10 (List.mem_of_getElem? (i := 15) rfl))) rfl rfl rfl (hZ.2 _ (List.mem_of_getElem? (i := 16) rfl)) (hts (.initialized RX3) (td_i1 (List.mem_of_getElem? (i := 1) rfl))) (by decide +kernel) ⟨(Nat.le_of_ble_eq_true rfl), (Nat.le_of_ble_eq_true rfl)⟩, (hts (.static yX3_litColour) (td_i10 (List.mem_of_getElem? (i := 14) rfl))), trivial⟩) (td_pRS hK hZ hP [] rfl) rfl rfl hl.1 rfl (lv_room (Nat.le_of_ble_eq_true rfl)) dX2_paint_30 ⟨Nat.zero_le _, Nat.zero_le _⟩) ?_
    refine lv_istore (lv' := [(5, .int (nI (td_lit T lt))), (4, .int (nI nr)), (0, .ref qU), (1, .int (nI t)), (2, .int (nI T)), (3, .int (nI C))]) hx hb dX2_paint_33 hl (by decide) rfl (fun ls hl => ?_)
    refine lv_iload_n hx hb dX2_paint_35 rfl (lv_at hl 5 rfl) ?_
    refine lv_sipush (v := 255) hx hb dX2_paint_36 (by decide) ?_
    refine lv_icmp_ne (tgt := 61) hx hb dX2_paint_39 (by decide) (fun c39 => ?_) (fun c39 => ?_)
    · have hC5 : C ≠ 255 := fun q => c39 (by rw [q]; rfl)
      refine lv_aload_n hx hb dX2_paint_61 rfl (lv_at hl 2 rfl) ?_
      refine va_get (D := (dC, dI)) (ci := 2) (v := .ref cC) (C := RX2) (T := TX2) (N := 15) hx hb hts td_fX2 hown hK hP 0 rfl rfl 3 (by decide) (hts (.fieldLink RX2 57 "TileDesk$Picture" "colours" "[I") (td_i3 (List.mem_of_getElem? (i := 7) rfl))) (fun _ h9 => h9) rfl dX2_paint_62 ?_
      refine lv_iload_n hx hb dX2_paint_65 rfl (lv_at hl 3 rfl) ?_
      refine lv_iload hx hb dX2_paint_66 (lv_at hl 0 rfl) ?_
      refine lv_aload_n hx hb dX2_paint_68 rfl (lv_at hl 2 rfl) ?_
      refine va_get (D := (dC, dI)) (ci := 2) (v := .ref cC) (C := RX2) (T := TX2) (N := 15) hx hb hts td_fX2 hown hK hP 0 rfl rfl 3 (by decide) (hts (.fieldLink RX2 57 "TileDesk$Picture" "colours" "[I") (td_i3 (List.mem_of_getElem? (i := 7) rfl))) (fun _ h9 => h9) rfl dX2_paint_69 ?_
      refine lv_iload_n hx hb dX2_paint_72 rfl (lv_at hl 3 rfl) ?_
      refine td_iald hx hb hK hP 1 0 t rfl rfl rfl (by omega) (by omega) dX2_paint_73 ?_
      refine td_ti (nI c0) (hc0) ?_
      refine lv_iload_n hx hb dX2_paint_74 rfl (lv_at hl 5 rfl) ?_
      refine td_csi (va_runSN (As := [.int (nI (td_lit T lt)), .int (nI c0), .int (nI C)]) (rest := [.int (nI t), .ref cC]) ⟨hx, hb, hml, hown, hts⟩ (td_mixedColour l dC dI cI cJ cZ (td_lit T lt) c0 C (td_lit_le hT hlt) (by omega) (by omega)) (⟨va_cnB 3 hts (td_gC (td_i10 (List.mem_of_getElem? (i := 19) rfl))) rfl rfl rfl (hZ.2 _ (List.mem_of_getElem? (i := 17) rfl)) (hts (.initialized RX3) (td_i1 (List.mem_of_getElem? (i := 1) rfl))) (by decide +kernel) ⟨(Nat.le_of_ble_eq_true rfl), (Nat.le_of_ble_eq_true rfl)⟩, (hts (.static yX3_mixedColour) (td_i10 (List.mem_of_getElem? (i := 18) rfl))), trivial⟩) (td_pRS hK hZ hP [] rfl) rfl rfl hl.1 rfl (lv_room (Nat.le_of_ble_eq_true rfl)) dX2_paint_75 ⟨Nat.zero_le _, Nat.zero_le _⟩) ?_
      refine td_iast hx hb hK hP hD hS 1 0 t rfl rfl rfl (by omega) (by omega) dX2_paint_78 (fun H locs hP hD hS => ?_)
      have hP : va_P (dC, dI) vwCl [(qU, .inr (2, [.int (nI w), .int (nI h), .int (nI ta), .ref cC, .ref cN, .ref cD, .ref qT, .ref qH, .int bg, .int bn, .int dt, .int lf, .int tp, .int rt, .int bm])), (cC, .inl (cI, wh, .inl (upd fc t (nI (td_mix (td_lit T lt) c0 C))))), (cN, .inl (cI, wh, .inl fn)), (qH, .inr (0, [.ref aX, .ref aY, .ref aR, .ref aL, .ref aW])), (aX, .inl (cJ, 3, .inr (.inl vX))), (aY, .inl (cJ, 3, .inr (.inl vY))), (aR, .inl (cJ, 3, .inr (.inl vR))), (aL, .inl (cJ, 3, .inr (.inl vL))), (aW, .inl (cJ, 3, .inr (.inl vW)))] H := hP
      have hD : va_D A [(qU, .inr (2, [.int (nI w), .int (nI h), .int (nI ta), .ref cC, .ref cN, .ref cD, .ref qT, .ref qH, .int bg, .int bn, .int dt, .int lf, .int tp, .int rt, .int bm])), (cC, .inl (cI, wh, .inl (upd fc t (nI (td_mix (td_lit T lt) c0 C))))), (cN, .inl (cI, wh, .inl fn)), (qH, .inr (0, [.ref aX, .ref aY, .ref aR, .ref aL, .ref aW])), (aX, .inl (cJ, 3, .inr (.inl vX))), (aY, .inl (cJ, 3, .inr (.inl vY))), (aR, .inl (cJ, 3, .inr (.inl vR))), (aL, .inl (cJ, 3, .inr (.inl vL))), (aW, .inl (cJ, 3, .inr (.inl vW)))] := hD
      have hP9 := hP.sub (ws' := [(qU, .inr (2, [.int (nI w), .int (nI h), .int (nI ta), .ref cC, .ref cN, .ref cD, .ref qT, .ref qH, .int bg, .int bn, .int dt, .int lf, .int tp, .int rt, .int bm])), (cC, .inl (cI, wh, .inl (upd fc t (nI (td_mix (td_lit T lt) c0 C))))), (cN, .inl (cI, wh, .inl fn)), (qH, .inr (0, [.ref aX, .ref aY, .ref aR, .ref aL, .ref aW])), (aX, .inl (cJ, 3, .inr (.inl vX))), (aY, .inl (cJ, 3, .inr (.inl vY))), (aR, .inl (cJ, 3, .inr (.inl vR))), (aL, .inl (cJ, 3, .inr (.inl vL))), (aW, .inl (cJ, 3, .inr (.inl vW)))]) [0, 1, 2, 3, 4, 5, 6, 7, 8] rfl
      have hD9 := hD.sub (ws' := [(qU, .inr (2, [.int (nI w), .int (nI h), .int (nI ta), .ref cC, .ref cN, .ref cD, .ref qT, .ref qH, .int bg, .int bn, .int dt, .int lf, .int tp, .int rt, .int bm])), (cC, .inl (cI, wh, .inl (upd fc t (nI (td_mix (td_lit T lt) c0 C))))), (cN, .inl (cI, wh, .inl fn)), (qH, .inr (0, [.ref aX, .ref aY, .ref aR, .ref aL, .ref aW])), (aX, .inl (cJ, 3, .inr (.inl vX))), (aY, .inl (cJ, 3, .inr (.inl vY))), (aR, .inl (cJ, 3, .inr (.inl vR))), (aL, .inl (cJ, 3, .inr (.inl vL))), (aW, .inl (cJ, 3, .inr (.inl vW)))]) [0, 1, 2, 3, 4, 5, 6, 7, 8] (by decide) rfl
      exact td_rwv (upd fc t (nI (td_mix (td_lit T lt) c0 C)), fn) hx hb hr hlocks hK (⟨fun z hz => ⟨pk_un hz, rfl⟩, by rw [td_pt2 hlt2 hC5]; exact pk_us, by rw [td_pt2 hlt2 hC5]; exact hn0⟩) hP9 hD9 hS dX2_paint_79
    · have hC5 : C = 255 := (nI_eq (a := C) (b := 255) (by omega) (by omega)).mp c39
      refine lv_aload_n hx hb dX2_paint_42 rfl (lv_at hl 2 rfl) ?_
      refine va_get (D := (dC, dI)) (ci := 2) (v := .ref cC) (C := RX2) (T := TX2) (N := 15) hx hb hts td_fX2 hown hK hP 0 rfl rfl 3 (by decide) (hts (.fieldLink RX2 57 "TileDesk$Picture" "colours" "[I") (td_i3 (List.mem_of_getElem? (i := 7) rfl))) (fun _ h9 => h9) rfl dX2_paint_43 ?_
      refine lv_iload_n hx hb dX2_paint_46 rfl (lv_at hl 3 rfl) ?_
      refine lv_iload hx hb dX2_paint_47 (lv_at hl 0 rfl) ?_
      refine td_iast hx hb hK hP hD hS 1 0 t rfl rfl rfl (by omega) (by omega) dX2_paint_49 (fun H locs hP hD hS => ?_)
      have hP : va_P (dC, dI) vwCl [(qU, .inr (2, [.int (nI w), .int (nI h), .int (nI ta), .ref cC, .ref cN, .ref cD, .ref qT, .ref qH, .int bg, .int bn, .int dt, .int lf, .int tp, .int rt, .int bm])), (cC, .inl (cI, wh, .inl (upd fc t (nI (td_lit T lt))))), (cN, .inl (cI, wh, .inl fn)), (qH, .inr (0, [.ref aX, .ref aY, .ref aR, .ref aL, .ref aW])), (aX, .inl (cJ, 3, .inr (.inl vX))), (aY, .inl (cJ, 3, .inr (.inl vY))), (aR, .inl (cJ, 3, .inr (.inl vR))), (aL, .inl (cJ, 3, .inr (.inl vL))), (aW, .inl (cJ, 3, .inr (.inl vW)))] H := hP
      have hD : va_D A [(qU, .inr (2, [.int (nI w), .int (nI h), .int (nI ta), .ref cC, .ref cN, .ref cD, .ref qT, .ref qH, .int bg, .int bn, .int dt, .int lf, .int tp, .int rt, .int bm])), (cC, .inl (cI, wh, .inl (upd fc t (nI (td_lit T lt))))), (cN, .inl (cI, wh, .inl fn)), (qH, .inr (0, [.ref aX, .ref aY, .ref aR, .ref aL, .ref aW])), (aX, .inl (cJ, 3, .inr (.inl vX))), (aY, .inl (cJ, 3, .inr (.inl vY))), (aR, .inl (cJ, 3, .inr (.inl vR))), (aL, .inl (cJ, 3, .inr (.inl vL))), (aW, .inl (cJ, 3, .inr (.inl vW)))] := hD
      refine lv_aload_n hx hb dX2_paint_50 rfl (lv_at hl 2 rfl) ?_
      refine va_get (D := (dC, dI)) (ci := 2) (v := .ref cN) (C := RX2) (T := TX2) (N := 15) hx hb hts td_fX2 hown hK hP 0 rfl rfl 4 (by decide) (hts (.fieldLink RX2 61 "TileDesk$Picture" "nearest" "[I") (td_i3 (List.mem_of_getElem? (i := 8) rfl))) (fun _ h9 => h9) rfl dX2_paint_51 ?_
      refine lv_iload_n hx hb dX2_paint_54 rfl (lv_at hl 3 rfl) ?_
      refine lv_iload hx hb dX2_paint_55 (lv_at hl 1 rfl) ?_
      refine td_iast hx hb hK hP hD hS 2 0 t rfl rfl rfl (by omega) (by omega) dX2_paint_57 (fun H locs hP hD hS => ?_)
      have hP : va_P (dC, dI) vwCl [(qU, .inr (2, [.int (nI w), .int (nI h), .int (nI ta), .ref cC, .ref cN, .ref cD, .ref qT, .ref qH, .int bg, .int bn, .int dt, .int lf, .int tp, .int rt, .int bm])), (cC, .inl (cI, wh, .inl (upd fc t (nI (td_lit T lt))))), (cN, .inl (cI, wh, .inl (upd fn t (nI nr)))), (qH, .inr (0, [.ref aX, .ref aY, .ref aR, .ref aL, .ref aW])), (aX, .inl (cJ, 3, .inr (.inl vX))), (aY, .inl (cJ, 3, .inr (.inl vY))), (aR, .inl (cJ, 3, .inr (.inl vR))), (aL, .inl (cJ, 3, .inr (.inl vL))), (aW, .inl (cJ, 3, .inr (.inl vW)))] H := hP
      have hD : va_D A [(qU, .inr (2, [.int (nI w), .int (nI h), .int (nI ta), .ref cC, .ref cN, .ref cD, .ref qT, .ref qH, .int bg, .int bn, .int dt, .int lf, .int tp, .int rt, .int bm])), (cC, .inl (cI, wh, .inl (upd fc t (nI (td_lit T lt))))), (cN, .inl (cI, wh, .inl (upd fn t (nI nr)))), (qH, .inr (0, [.ref aX, .ref aY, .ref aR, .ref aL, .ref aW])), (aX, .inl (cJ, 3, .inr (.inl vX))), (aY, .inl (cJ, 3, .inr (.inl vY))), (aR, .inl (cJ, 3, .inr (.inl vR))), (aL, .inl (cJ, 3, .inr (.inl vL))), (aW, .inl (cJ, 3, .inr (.inl vW)))] := hD
      refine lv_goto (tgt := 79) hx hb dX2_paint_58 (by decide) ?_
      have hP9 := hP.sub (ws' := [(qU, .inr (2, [.int (nI w), .int (nI h), .int (nI ta), .ref cC, .ref cN, .ref cD, .ref qT, .ref qH, .int bg, .int bn, .int dt, .int lf, .int tp, .int rt, .int bm])), (cC, .inl (cI, wh, .inl (upd fc t (nI (td_lit T lt))))), (cN, .inl (cI, wh, .inl (upd fn t (nI nr)))), (qH, .inr (0, [.ref aX, .ref aY, .ref aR, .ref aL, .ref aW])), (aX, .inl (cJ, 3, .inr (.inl vX))), (aY, .inl (cJ, 3, .inr (.inl vY))), (aR, .inl (cJ, 3, .inr (.inl vR))), (aL, .inl (cJ, 3, .inr (.inl vL))), (aW, .inl (cJ, 3, .inr (.inl vW)))]) [0, 1, 2, 3, 4, 5, 6, 7, 8] rfl
      have hD9 := hD.sub (ws' := [(qU, .inr (2, [.int (nI w), .int (nI h), .int (nI ta), .ref cC, .ref cN, .ref cD, .ref qT, .ref qH, .int bg, .int bn, .int dt, .int lf, .int tp, .int rt, .int bm])), (cC, .inl (cI, wh, .inl (upd fc t (nI (td_lit T lt))))), (cN, .inl (cI, wh, .inl (upd fn t (nI nr)))), (qH, .inr (0, [.ref aX, .ref aY, .ref aR, .ref aL, .ref aW])), (aX, .inl (cJ, 3, .inr (.inl vX))), (aY, .inl (cJ, 3, .inr (.inl vY))), (aR, .inl (cJ, 3, .inr (.inl vR))), (aL, .inl (cJ, 3, .inr (.inl vL))), (aW, .inl (cJ, 3, .inr (.inl vW)))]) [0, 1, 2, 3, 4, 5, 6, 7, 8] (by decide) rfl
      exact td_rwv (upd fc t (nI (td_lit T lt)), upd fn t (nI nr)) hx hb hr hlocks hK (⟨fun z hz => ⟨pk_un hz, pk_un hz⟩, by rw [td_pt1 hlt2 hC5]; exact pk_us, by rw [td_pt1 hlt2 hC5]; exact pk_us⟩) hP9 hD9 hS dX2_paint_79
  · have hge : nr ≤ n0 := by rcases Nat.lt_or_ge n0 nr with q | q; exact absurd (nI_lt q (by omega)) c18; exact q
    have hP9 := hP.sub (ws' := [(qU, .inr (2, [.int (nI w), .int (nI h), .int (nI ta), .ref cC, .ref cN, .ref cD, .ref qT, .ref qH, .int bg, .int bn, .int dt, .int lf, .int tp, .int rt, .int bm])), (cC, .inl (cI, wh, .inl fc)), (cN, .inl (cI, wh, .inl fn)), (qH, .inr (0, [.ref aX, .ref aY, .ref aR, .ref aL, .ref aW])), (aX, .inl (cJ, 3, .inr (.inl vX))), (aY, .inl (cJ, 3, .inr (.inl vY))), (aR, .inl (cJ, 3, .inr (.inl vR))), (aL, .inl (cJ, 3, .inr (.inl vL))), (aW, .inl (cJ, 3, .inr (.inl vW)))]) [0, 1, 2, 3, 4, 5, 6, 7, 8] rfl
    have hD9 := hD.sub (ws' := [(qU, .inr (2, [.int (nI w), .int (nI h), .int (nI ta), .ref cC, .ref cN, .ref cD, .ref qT, .ref qH, .int bg, .int bn, .int dt, .int lf, .int tp, .int rt, .int bm])), (cC, .inl (cI, wh, .inl fc)), (cN, .inl (cI, wh, .inl fn)), (qH, .inr (0, [.ref aX, .ref aY, .ref aR, .ref aL, .ref aW])), (aX, .inl (cJ, 3, .inr (.inl vX))), (aY, .inl (cJ, 3, .inr (.inl vY))), (aR, .inl (cJ, 3, .inr (.inl vR))), (aL, .inl (cJ, 3, .inr (.inl vL))), (aW, .inl (cJ, 3, .inr (.inl vW)))]) [0, 1, 2, 3, 4, 5, 6, 7, 8] (by decide) rfl
    exact td_rwv (fc, fn) hx hb hr hlocks hK (⟨fun z _ => ⟨rfl, rfl⟩, by rw [td_pt0 hge]; exact hc0, by rw [td_pt0 hge]; exact hn0⟩) hP9 hD9 hS dX2_paint_21
end
section
set_option maxHeartbeats 4000000 in
set_option maxRecDepth 100000 in
/-- Picture.drawPiece -/
theorem td_drawPiece (l : Launch) (dC : Nat → ClassId) (dI : Nat → Nat → Nat) (cI cJ cZ : ClassId) (sz : Nat) (qU : Nat) (cC : Nat) (cN : Nat) (cD : Nat) (qT : Nat) (qH : Nat) (w : Nat) (h : Nat) (ta : Nat) (bg : Int32) (bn : Int32) (dt : Int32) (lf : Nat) (tp : Nat) (rt : Nat) (bm : Nat) (wh : Nat) (fc : Nat → Int32) (fn : Nat → Int32) (pCT : Nat) (pTT : Nat) (pVT : Nat) (fCT : Nat → Int64) (fTT : Nat → Int32) (fVT : Nat → Int32) (mt : Nat) (aX : Nat) (aY : Nat) (aR : Nat) (aL : Nat) (aW : Nat) (vX : Nat → Int64) (vY : Nat → Int64) (vR : Nat → Int64) (vL : Nat → Int64) (vW : Nat → Int64) (k : Nat) (g : Nat → Int32) (q : Nat → Nat → Nat × Nat) (hw1 : 8 ≤ w) (hw2 : w ≤ 48) (hh1 : 8 ≤ h) (hh2 : h ≤ 48) (hlr : lf < rt) (hrw : rt ≤ w) (htb : tp < bm) (hbh : bm ≤ h) (hwh : wh = w * h) (hk : k < 512) (hp : td_pc g (14 * k)) (hcr : td_pkd g (14 * k) (3 * k) fCT) (hti : fTT k = g (14 * k + 12)) (hcv : fVT k = g (14 * k + 13)) (hq : ∀ i j, (lf ≤ i ∧ i < rt) ∧ tp ≤ j ∧ j < bm → fc (j * w + i) = nI (q i j).1 ∧ fn (j * w + i) = nI (q i j).2) (hqb : ∀ i j, (lf ≤ i ∧ i < rt) ∧ tp ≤ j ∧ j < bm → (q i j).1 < 16777216 ∧ (q i j).2 ≤ 1048576) : Met l yX2_drawPiece wsX2_drawPiece ({ frames := 4, cells := 0, slots := 0, locals := 103 }) (td_WP (dC, dI) vwCl (td_T cI cJ cZ) td_nl [(qU, .inr (2, [.int (nI w), .int (nI h), .int (nI ta), .ref cC, .ref cN, .ref cD, .ref qT, .ref qH, .int bg, .int bn, .int dt, .int (nI lf), .int (nI tp), .int (nI rt), .int (nI bm)])), (cC, .inl (cI, wh, .inl fc)), (cN, .inl (cI, wh, .inl fn)), (qT, .inr (1, [.ref pCT, .ref pTT, .ref pVT, .int (nI mt)])), (pCT, .inl (cJ, 1536, .inr (.inl fCT))), (pTT, .inl (cI, 512, .inl fTT)), (pVT, .inl (cI, 512, .inl fVT)), (qH, .inr (0, [.ref aX, .ref aY, .ref aR, .ref aL, .ref aW])), (aX, .inl (cJ, 3, .inr (.inl vX))), (aY, .inl (cJ, 3, .inr (.inl vY))), (aR, .inl (cJ, 3, .inr (.inl vR))), (aL, .inl (cJ, 3, .inr (.inl vL))), (aW, .inl (cJ, 3, .inr (.inl vW)))] sz [.ref qU, .int (nI k)]) (va_Qv (S := (Nat → Int32) × (Nat → Int32) × (Nat → Int64) × (Nat → Int64) × (Nat → Int64) × (Nat → Int64) × (Nat → Int64)) (fun u => td_dI w h lf tp rt bm (fun i j => td_stp g (14 * k) i j (q i j)) q fc fn bm 0 u.1 u.2.1) (td_B (dC, dI) vwCl (td_T cI cJ cZ) (va_A [(qU, .inr (2, [.int (nI w), .int (nI h), .int (nI ta), .ref cC, .ref cN, .ref cD, .ref qT, .ref qH, .int bg, .int bn, .int dt, .int (nI lf), .int (nI tp), .int (nI rt), .int (nI bm)])), (cC, .inl (cI, wh, .inl fc)), (cN, .inl (cI, wh, .inl fn)), (qT, .inr (1, [.ref pCT, .ref pTT, .ref pVT, .int (nI mt)])), (pCT, .inl (cJ, 1536, .inr (.inl fCT))), (pTT, .inl (cI, 512, .inl fTT)), (pVT, .inl (cI, 512, .inl fVT)), (qH, .inr (0, [.ref aX, .ref aY, .ref aR, .ref aL, .ref aW])), (aX, .inl (cJ, 3, .inr (.inl vX))), (aY, .inl (cJ, 3, .inr (.inl vY))), (aR, .inl (cJ, 3, .inr (.inl vR))), (aL, .inl (cJ, 3, .inr (.inl vL))), (aW, .inl (cJ, 3, .inr (.inl vW)))] sz) (fun (u : (Nat → Int32) × (Nat → Int32) × (Nat → Int64) × (Nat → Int64) × (Nat → Int64) × (Nat → Int64) × (Nat → Int64)) => [(qU, .inr (2, [.int (nI w), .int (nI h), .int (nI ta), .ref cC, .ref cN, .ref cD, .ref qT, .ref qH, .int bg, .int bn, .int dt, .int (nI lf), .int (nI tp), .int (nI rt), .int (nI bm)])), (cC, .inl (cI, wh, .inl u.1)), (cN, .inl (cI, wh, .inl u.2.1)), (qT, .inr (1, [.ref pCT, .ref pTT, .ref pVT, .int (nI mt)])), (pCT, .inl (cJ, 1536, .inr (.inl fCT))), (pTT, .inl (cI, 512, .inl fTT)), (pVT, .inl (cI, 512, .inl fVT)), (qH, .inr (0, [.ref aX, .ref aY, .ref aR, .ref aL, .ref aW])), (aX, .inl (cJ, 3, .inr (.inl u.2.2.1))), (aY, .inl (cJ, 3, .inr (.inl u.2.2.2.1))), (aR, .inl (cJ, 3, .inr (.inl u.2.2.2.2.1))), (aL, .inl (cJ, 3, .inr (.inl u.2.2.2.2.2.1))), (aW, .inl (cJ, 3, .inr (.inl u.2.2.2.2.2.2)))])) (va_A [(qU, .inr (2, [.int (nI w), .int (nI h), .int (nI ta), .ref cC, .ref cN, .ref cD, .ref qT, .ref qH, .int bg, .int bn, .int dt, .int (nI lf), .int (nI tp), .int (nI rt), .int (nI bm)])), (cC, .inl (cI, wh, .inl fc)), (cN, .inl (cI, wh, .inl fn)), (qT, .inr (1, [.ref pCT, .ref pTT, .ref pVT, .int (nI mt)])), (pCT, .inl (cJ, 1536, .inr (.inl fCT))), (pTT, .inl (cI, 512, .inl fTT)), (pVT, .inl (cI, 512, .inl fVT)), (qH, .inr (0, [.ref aX, .ref aY, .ref aR, .ref aL, .ref aW])), (aX, .inl (cJ, 3, .inr (.inl vX))), (aY, .inl (cJ, 3, .inr (.inl vY))), (aR, .inl (cJ, 3, .inr (.inl vR))), (aL, .inl (cJ, 3, .inr (.inl vL))), (aW, .inl (cJ, 3, .inr (.inl vW)))] sz)) 0 0 (va_A [(qU, .inr (2, [.int (nI w), .int (nI h), .int (nI ta), .ref cC, .ref cN, .ref cD, .ref qT, .ref qH, .int bg, .int bn, .int dt, .int (nI lf), .int (nI tp), .int (nI rt), .int (nI bm)])), (cC, .inl (cI, wh, .inl fc)), (cN, .inl (cI, wh, .inl fn)), (qT, .inr (1, [.ref pCT, .ref pTT, .ref pVT, .int (nI mt)])), (pCT, .inl (cJ, 1536, .inr (.inl fCT))), (pTT, .inl (cI, 512, .inl fTT)), (pVT, .inl (cI, 512, .inl fVT)), (qH, .inr (0, [.ref aX, .ref aY, .ref aR, .ref aL, .ref aW])), (aX, .inl (cJ, 3, .inr (.inl vX))), (aY, .inl (cJ, 3, .inr (.inl vY))), (aR, .inl (cJ, 3, .inr (.inl vR))), (aL, .inl (cJ, 3, .inr (.inl vL))), (aW, .inl (cJ, 3, .inr (.inl vW)))] sz) := by
  refine Met.ofW (cc := cX2_drawPiece) (maxL := 8) (ret := none) (by decide) rfl ?_
  intro p e s m args below meth c s₁ B hml hv
  obtain ⟨rfl, hsz, hP, hK, hZ, hD0⟩ := hv
  have hx := B.exec
  have hb := B.bytes
  have hr := B.returns
  have hts := atoms_spec (ws := wsX2_drawPiece) B.pre
  have hown : s.vm.findClass RX2 = some m.cls := findClass_of_methodNamed B.named
  have hlocks := B.notSynchronized
  subst hsz
  have hD := hD0.self (sz := s.heap.size)
  generalize hAe : va_A [(qU, .inr (2, [.int (nI w), .int (nI h), .int (nI ta), .ref cC, .ref cN, .ref cD, .ref qT, .ref qH, .int bg, .int bn, .int dt, .int (nI lf), .int (nI tp), .int (nI rt), .int (nI bm)])), (cC, .inl (cI, wh, .inl fc)), (cN, .inl (cI, wh, .inl fn)), (qT, .inr (1, [.ref pCT, .ref pTT, .ref pVT, .int (nI mt)])), (pCT, .inl (cJ, 1536, .inr (.inl fCT))), (pTT, .inl (cI, 512, .inl fTT)), (pVT, .inl (cI, 512, .inl fVT)), (qH, .inr (0, [.ref aX, .ref aY, .ref aR, .ref aL, .ref aW])), (aX, .inl (cJ, 3, .inr (.inl vX))), (aY, .inl (cJ, 3, .inr (.inl vY))), (aR, .inl (cJ, 3, .inr (.inl vR))), (aL, .inl (cJ, 3, .inr (.inl vL))), (aW, .inl (cJ, 3, .inr (.inl vW)))] s.heap.size = A at hD ⊢
  have hA : ∀ q : Nat, s.heap.size ≤ q → A q := fun q h => by rw [← hAe]; exact Or.inr h
  have hS : va_S A s.heap s.heap [] := va_S.rf
  have hP : va_P (dC, dI) vwCl [(qU, .inr (2, [.int (nI w), .int (nI h), .int (nI ta), .ref cC, .ref cN, .ref cD, .ref qT, .ref qH, .int bg, .int bn, .int dt, .int (nI lf), .int (nI tp), .int (nI rt), .int (nI bm)])), (cC, .inl (cI, wh, .inl fc)), (cN, .inl (cI, wh, .inl fn)), (qT, .inr (1, [.ref pCT, .ref pTT, .ref pVT, .int (nI mt)])), (pCT, .inl (cJ, 1536, .inr (.inl fCT))), (pTT, .inl (cI, 512, .inl fTT)), (pVT, .inl (cI, 512, .inl fVT)), (qH, .inr (0, [.ref aX, .ref aY, .ref aR, .ref aL, .ref aW])), (aX, .inl (cJ, 3, .inr (.inl vX))), (aY, .inl (cJ, 3, .inr (.inl vY))), (aR, .inl (cJ, 3, .inr (.inl vR))), (aL, .inl (cJ, 3, .inr (.inl vL))), (aW, .inl (cJ, 3, .inr (.inl vW)))] s.heap := hP
  have hl := lv_entry ([.ref qU, .int (nI k)]) (n := 8) (Nat.le_of_ble_eq_true rfl)
  rw [lg_entry_eq]
  generalize (lg_sl ([.ref qU, .int (nI k)]) ++ List.replicate (8 - (lg_sl ([.ref qU, .int (nI k)])).length) Slot.unset).toArray = ls at hl ⊢
  have hl : lv_has ls 8 [(0, .ref qU), (1, .int (nI k))] := hl
  have hw48 := td_wh hw2 hh2
  refine lv_aload_n hx hb dX2_drawPiece_0 rfl (lv_at hl 0 rfl) ?_
  refine va_get (D := (dC, dI)) (ci := 2) (v := .ref qT) (C := RX2) (T := TX2) (N := 15) hx hb hts td_fX2 hown hK hP 0 rfl rfl 6 (by decide) (hts (.fieldLink RX2 12 "TileDesk$Picture" "taken" "LTileDesk$Pieces;") (td_i3 (List.mem_of_getElem? (i := 10) rfl))) (fun _ h9 => h9) rfl dX2_drawPiece_1 ?_
  refine lv_aload_n hx hb dX2_drawPiece_4 rfl (lv_at hl 0 rfl) ?_
  refine va_get (D := (dC, dI)) (ci := 2) (v := .ref qH) (C := RX2) (T := TX2) (N := 15) hx hb hts td_fX2 hown hK hP 0 rfl rfl 7 (by decide) (hts (.fieldLink RX2 21 "TileDesk$Picture" "shape" "LTileDesk$Shape;") (td_i3 (List.mem_of_getElem? (i := 11) rfl))) (fun _ h9 => h9) rfl dX2_drawPiece_5 ?_
  refine lv_iload_n hx hb dX2_drawPiece_8 rfl (lv_at hl 1 rfl) ?_
  refine td_cwv (wr := [(qU, .inr (2, [.int (nI w), .int (nI h), .int (nI ta), .ref cC, .ref cN, .ref cD, .ref qT, .ref qH, .int bg, .int bn, .int dt, .int (nI lf), .int (nI tp), .int (nI rt), .int (nI bm)])), (cC, .inl (cI, wh, .inl fc)), (cN, .inl (cI, wh, .inl fn))]) (va_runV (As := [.ref qH, .int (nI k)]) (rest := []) ⟨hx, hb, hml, hown, hts⟩ (td_unpackTo l dC dI cI cJ cZ s.heap.size qT pCT pTT pVT fCT fTT fVT mt qH aX aY aR aL aW vX vY vR vL vW k (by omega)) (cwV 2 hts (td_gV (td_i7 (List.mem_of_getElem? (i := 18) rfl)) (td_i7 (List.mem_of_getElem? (i := 19) rfl)) (td_i7 (List.mem_of_getElem? (i := 20) rfl)) (td_i1 (List.mem_of_getElem? (i := 3) rfl)) (td_i7 (List.mem_of_getElem? (i := 21) rfl))) rfl rfl rfl (by decide +kernel) ⟨(Nat.le_of_ble_eq_true rfl), (Nat.le_of_ble_eq_true rfl)⟩) (td_pWV hK hZ hP hD [3, 4, 5, 6, 7, 8, 9, 10, 11, 12] (by decide) rfl (va_recv hK hP (ci := 1) (q0 := 3) rfl rfl)) rfl rfl hl.1 rfl (lv_room (Nat.le_of_ble_eq_true rfl)) dX2_drawPiece_9 ⟨Nat.zero_le _, Nat.zero_le _⟩) hP hD hS hA [3, 4, 5, 6, 7, 8, 9, 10, 11, 12] [0, 1, 2] rfl rfl (by decide) (by decide) (fun u H locs w9_1 hP hD hS => ?_)
  try dsimp only at w9_1
  have hP : va_P (dC, dI) vwCl [(qU, .inr (2, [.int (nI w), .int (nI h), .int (nI ta), .ref cC, .ref cN, .ref cD, .ref qT, .ref qH, .int bg, .int bn, .int dt, .int (nI lf), .int (nI tp), .int (nI rt), .int (nI bm)])), (cC, .inl (cI, wh, .inl fc)), (cN, .inl (cI, wh, .inl fn)), (qT, .inr (1, [.ref pCT, .ref pTT, .ref pVT, .int (nI mt)])), (pCT, .inl (cJ, 1536, .inr (.inl fCT))), (pTT, .inl (cI, 512, .inl fTT)), (pVT, .inl (cI, 512, .inl fVT)), (qH, .inr (0, [.ref aX, .ref aY, .ref aR, .ref aL, .ref aW])), (aX, .inl (cJ, 3, .inr (.inl (vp_updL (vp_updL (vp_updL vX 0 (td_ux (fCT (3 * k + 0)))) 1 (td_ux (fCT (3 * k + 1)))) 2 (td_ux (fCT (3 * k + 2))))))), (aY, .inl (cJ, 3, .inr (.inl (vp_updL (vp_updL (vp_updL vY 0 (td_uy (fCT (3 * k + 0)))) 1 (td_uy (fCT (3 * k + 1)))) 2 (td_uy (fCT (3 * k + 2))))))), (aR, .inl (cJ, 3, .inr (.inl (vp_updL (vp_updL (vp_updL vR 0 (td_ur (fCT (3 * k + 0)))) 1 (td_ur (fCT (3 * k + 1)))) 2 (td_ur (fCT (3 * k + 2))))))), (aL, .inl (cJ, 3, .inr (.inl (vp_updL (vp_updL (vp_updL vL 0 (td_ul (fCT (3 * k + 0)))) 1 (td_ul (fCT (3 * k + 1)))) 2 (td_ul (fCT (3 * k + 2))))))), (aW, .inl (cJ, 3, .inr (.inl vW)))] H := hP
  have hD : va_D A [(qU, .inr (2, [.int (nI w), .int (nI h), .int (nI ta), .ref cC, .ref cN, .ref cD, .ref qT, .ref qH, .int bg, .int bn, .int dt, .int (nI lf), .int (nI tp), .int (nI rt), .int (nI bm)])), (cC, .inl (cI, wh, .inl fc)), (cN, .inl (cI, wh, .inl fn)), (qT, .inr (1, [.ref pCT, .ref pTT, .ref pVT, .int (nI mt)])), (pCT, .inl (cJ, 1536, .inr (.inl fCT))), (pTT, .inl (cI, 512, .inl fTT)), (pVT, .inl (cI, 512, .inl fVT)), (qH, .inr (0, [.ref aX, .ref aY, .ref aR, .ref aL, .ref aW])), (aX, .inl (cJ, 3, .inr (.inl (vp_updL (vp_updL (vp_updL vX 0 (td_ux (fCT (3 * k + 0)))) 1 (td_ux (fCT (3 * k + 1)))) 2 (td_ux (fCT (3 * k + 2))))))), (aY, .inl (cJ, 3, .inr (.inl (vp_updL (vp_updL (vp_updL vY 0 (td_uy (fCT (3 * k + 0)))) 1 (td_uy (fCT (3 * k + 1)))) 2 (td_uy (fCT (3 * k + 2))))))), (aR, .inl (cJ, 3, .inr (.inl (vp_updL (vp_updL (vp_updL vR 0 (td_ur (fCT (3 * k + 0)))) 1 (td_ur (fCT (3 * k + 1)))) 2 (td_ur (fCT (3 * k + 2))))))), (aL, .inl (cJ, 3, .inr (.inl (vp_updL (vp_updL (vp_updL vL 0 (td_ul (fCT (3 * k + 0)))) 1 (td_ul (fCT (3 * k + 1)))) 2 (td_ul (fCT (3 * k + 2))))))), (aW, .inl (cJ, 3, .inr (.inl vW)))] := hD
  obtain ⟨X1, hX1⟩ : ∃ f : Nat → Int64, f = vp_updL (vp_updL (vp_updL vX 0 (td_ux (fCT (3 * k + 0)))) 1 (td_ux (fCT (3 * k + 1)))) 2 (td_ux (fCT (3 * k + 2))) := ⟨_, rfl⟩
  obtain ⟨Y1, hY1⟩ : ∃ f : Nat → Int64, f = vp_updL (vp_updL (vp_updL vY 0 (td_uy (fCT (3 * k + 0)))) 1 (td_uy (fCT (3 * k + 1)))) 2 (td_uy (fCT (3 * k + 2))) := ⟨_, rfl⟩
  obtain ⟨R1, hR1⟩ : ∃ f : Nat → Int64, f = vp_updL (vp_updL (vp_updL vR 0 (td_ur (fCT (3 * k + 0)))) 1 (td_ur (fCT (3 * k + 1)))) 2 (td_ur (fCT (3 * k + 2))) := ⟨_, rfl⟩
  obtain ⟨L1, hL1⟩ : ∃ f : Nat → Int64, f = vp_updL (vp_updL (vp_updL vL 0 (td_ul (fCT (3 * k + 0)))) 1 (td_ul (fCT (3 * k + 1)))) 2 (td_ul (fCT (3 * k + 2))) := ⟨_, rfl⟩
  rw [← hX1, ← hY1, ← hR1, ← hL1] at hP hD
  have hP : va_P (dC, dI) vwCl [(qU, .inr (2, [.int (nI w), .int (nI h), .int (nI ta), .ref cC, .ref cN, .ref cD, .ref qT, .ref qH, .int bg, .int bn, .int dt, .int (nI lf), .int (nI tp), .int (nI rt), .int (nI bm)])), (cC, .inl (cI, wh, .inl fc)), (cN, .inl (cI, wh, .inl fn)), (qT, .inr (1, [.ref pCT, .ref pTT, .ref pVT, .int (nI mt)])), (pCT, .inl (cJ, 1536, .inr (.inl fCT))), (pTT, .inl (cI, 512, .inl fTT)), (pVT, .inl (cI, 512, .inl fVT)), (qH, .inr (0, [.ref aX, .ref aY, .ref aR, .ref aL, .ref aW])), (aX, .inl (cJ, 3, .inr (.inl X1))), (aY, .inl (cJ, 3, .inr (.inl Y1))), (aR, .inl (cJ, 3, .inr (.inl R1))), (aL, .inl (cJ, 3, .inr (.inl L1))), (aW, .inl (cJ, 3, .inr (.inl vW)))] H := hP
  have hD : va_D A [(qU, .inr (2, [.int (nI w), .int (nI h), .int (nI ta), .ref cC, .ref cN, .ref cD, .ref qT, .ref qH, .int bg, .int bn, .int dt, .int (nI lf), .int (nI tp), .int (nI rt), .int (nI bm)])), (cC, .inl (cI, wh, .inl fc)), (cN, .inl (cI, wh, .inl fn)), (qT, .inr (1, [.ref pCT, .ref pTT, .ref pVT, .int (nI mt)])), (pCT, .inl (cJ, 1536, .inr (.inl fCT))), (pTT, .inl (cI, 512, .inl fTT)), (pVT, .inl (cI, 512, .inl fVT)), (qH, .inr (0, [.ref aX, .ref aY, .ref aR, .ref aL, .ref aW])), (aX, .inl (cJ, 3, .inr (.inl X1))), (aY, .inl (cJ, 3, .inr (.inl Y1))), (aR, .inl (cJ, 3, .inr (.inl R1))), (aL, .inl (cJ, 3, .inr (.inl L1))), (aW, .inl (cJ, 3, .inr (.inl vW)))] := hD
  have hsc : td_sc g (14 * k) X1 Y1 R1 L1 := td_scof hp hcr hX1 hY1 hR1 hL1
  obtain ⟨⟨b1, b2⟩, ⟨b3, b4⟩, ⟨b5, b6⟩, ⟨b7, b8⟩⟩ := td_fm_b hp hsc
  refine lv_aload_n hx hb dX2_drawPiece_12 rfl (lv_at hl 0 rfl) ?_
  refine va_get (D := (dC, dI)) (ci := 2) (v := .int (nI lf)) (C := RX2) (T := TX2) (N := 15) hx hb hts td_fX2 hown hK hP 0 rfl rfl 11 (by decide) (hts (.fieldLink RX2 36 "TileDesk$Picture" "left" "I") (td_i3 (List.mem_of_getElem? (i := 15) rfl))) (fun _ h9 => h9) rfl dX2_drawPiece_13 ?_
  refine lv_aload_n hx hb dX2_drawPiece_16 rfl (lv_at hl 0 rfl) ?_
  refine va_get (D := (dC, dI)) (ci := 2) (v := .ref qH) (C := RX2) (T := TX2) (N := 15) hx hb hts td_fX2 hown hK hP 0 rfl rfl 7 (by decide) (hts (.fieldLink RX2 21 "TileDesk$Picture" "shape" "LTileDesk$Shape;") (td_i3 (List.mem_of_getElem? (i := 11) rfl))) (fun _ h9 => h9) rfl dX2_drawPiece_17 ?_
  refine td_csi (va_runV (As := []) (rest := [.int (nI lf)]) ⟨hx, hb, hml, hown, hts⟩ (td_firstColumn l dC dI cI cJ cZ qH aX aY aR aL aW X1 Y1 R1 L1 vW) (cwV 0 hts (td_gV (td_i8 (List.mem_of_getElem? (i := 3) rfl)) (td_i8 (List.mem_of_getElem? (i := 4) rfl)) (td_i8 (List.mem_of_getElem? (i := 5) rfl)) (td_i1 (List.mem_of_getElem? (i := 2) rfl)) (td_i8 (List.mem_of_getElem? (i := 6) rfl))) rfl rfl rfl (by decide +kernel) ⟨(Nat.le_of_ble_eq_true rfl), (Nat.le_of_ble_eq_true rfl)⟩) (td_pRV hK hZ hP [7, 8, 9, 10, 11, 12] rfl (va_recv hK hP (ci := 0) (q0 := 7) rfl rfl)) rfl rfl hl.1 rfl (lv_room (Nat.le_of_ble_eq_true rfl)) dX2_drawPiece_20 ⟨Nat.zero_le _, Nat.zero_le _⟩) ?_
  refine va_mmax hx hb (by rw [hml]; exact hl.1.symm) hown (hts _ (td_i8 (List.mem_of_getElem? (i := 18) rfl))) (hts _ (td_i2 (List.mem_of_getElem? (i := 20) rfl))) (hts _ (td_i1 (List.mem_of_getElem? (i := 5) rfl))) (hts _ (td_i2 (List.mem_of_getElem? (i := 21) rfl))) (Nat.le_of_ble_eq_true rfl) (Nat.le_of_ble_eq_true rfl) (Nat.zero_le _) (Nat.zero_le _) dX2_drawPiece_23 ?_
  obtain ⟨X0, hX0, eX0, kX0⟩ := td_mx0 (lf := lf) (v := td_fm (td_mn X1)) (by omega) b1 b2
  refine td_ti (nI X0) eX0 ?_
  refine lv_istore_n (lv' := [(2, .int (nI X0)), (0, .ref qU), (1, .int (nI k))]) hx hb dX2_drawPiece_26 rfl hl (by decide) rfl (fun ls hl => ?_)
  refine lv_aload_n hx hb dX2_drawPiece_27 rfl (lv_at hl 1 rfl) ?_
  refine va_get (D := (dC, dI)) (ci := 2) (v := .int (nI rt)) (C := RX2) (T := TX2) (N := 15) hx hb hts td_fX2 hown hK hP 0 rfl rfl 13 (by decide) (hts (.fieldLink RX2 42 "TileDesk$Picture" "right" "I") (td_i3 (List.mem_of_getElem? (i := 17) rfl))) (fun _ h9 => h9) rfl dX2_drawPiece_28 ?_
  refine lv_iconst (v := 1) hx hb dX2_drawPiece_31 (by decide) ?_
  refine lv_isub hx hb dX2_drawPiece_32 ?_
  refine td_ti (nI (rt - 1)) (pk_sub (b := 1) (by omega)) ?_
  refine lv_aload_n hx hb dX2_drawPiece_33 rfl (lv_at hl 1 rfl) ?_
  refine va_get (D := (dC, dI)) (ci := 2) (v := .ref qH) (C := RX2) (T := TX2) (N := 15) hx hb hts td_fX2 hown hK hP 0 rfl rfl 7 (by decide) (hts (.fieldLink RX2 21 "TileDesk$Picture" "shape" "LTileDesk$Shape;") (td_i3 (List.mem_of_getElem? (i := 11) rfl))) (fun _ h9 => h9) rfl dX2_drawPiece_34 ?_
  refine td_csi (va_runV (As := []) (rest := [.int (nI (rt - 1))]) ⟨hx, hb, hml, hown, hts⟩ (td_lastColumn l dC dI cI cJ cZ qH aX aY aR aL aW X1 Y1 R1 L1 vW) (cwV 0 hts (td_gV (td_i8 (List.mem_of_getElem? (i := 19) rfl)) (td_i8 (List.mem_of_getElem? (i := 20) rfl)) (td_i8 (List.mem_of_getElem? (i := 21) rfl)) (td_i1 (List.mem_of_getElem? (i := 2) rfl)) (td_i8 (List.mem_of_getElem? (i := 22) rfl))) rfl rfl rfl (by decide +kernel) ⟨(Nat.le_of_ble_eq_true rfl), (Nat.le_of_ble_eq_true rfl)⟩) (td_pRV hK hZ hP [7, 8, 9, 10, 11, 12] rfl (va_recv hK hP (ci := 0) (q0 := 7) rfl rfl)) rfl rfl hl.1 rfl (lv_room (Nat.le_of_ble_eq_true rfl)) dX2_drawPiece_37 ⟨Nat.zero_le _, Nat.zero_le _⟩) ?_
  refine va_mmin hx hb (by rw [hml]; exact hl.1.symm) hown (hts _ (td_i7 (List.mem_of_getElem? (i := 7) rfl))) (hts _ (td_i2 (List.mem_of_getElem? (i := 17) rfl))) (hts _ (td_i1 (List.mem_of_getElem? (i := 5) rfl))) (hts _ (td_i2 (List.mem_of_getElem? (i := 18) rfl))) (Nat.le_of_ble_eq_true rfl) (Nat.le_of_ble_eq_true rfl) (Nat.zero_le _) (Nat.zero_le _) dX2_drawPiece_40 ?_
  obtain ⟨xl, exl, kxl1, kxl2⟩ := td_mn0 (rt := rt) (v := td_lm (td_mxx X1)) (by omega) b3 b4
  refine td_ti xl exl ?_
  refine lv_istore_n (lv' := [(3, .int xl), (2, .int (nI X0)), (0, .ref qU), (1, .int (nI k))]) hx hb dX2_drawPiece_43 rfl hl (by decide) rfl (fun ls hl => ?_)
  refine lv_aload_n hx hb dX2_drawPiece_44 rfl (lv_at hl 2 rfl) ?_
  refine va_get (D := (dC, dI)) (ci := 2) (v := .int (nI tp)) (C := RX2) (T := TX2) (N := 15) hx hb hts td_fX2 hown hK hP 0 rfl rfl 12 (by decide) (hts (.fieldLink RX2 39 "TileDesk$Picture" "top" "I") (td_i3 (List.mem_of_getElem? (i := 16) rfl))) (fun _ h9 => h9) rfl dX2_drawPiece_45 ?_
  refine lv_aload_n hx hb dX2_drawPiece_48 rfl (lv_at hl 2 rfl) ?_
  refine va_get (D := (dC, dI)) (ci := 2) (v := .ref qH) (C := RX2) (T := TX2) (N := 15) hx hb hts td_fX2 hown hK hP 0 rfl rfl 7 (by decide) (hts (.fieldLink RX2 21 "TileDesk$Picture" "shape" "LTileDesk$Shape;") (td_i3 (List.mem_of_getElem? (i := 11) rfl))) (fun _ h9 => h9) rfl dX2_drawPiece_49 ?_
  refine td_csi (va_runV (As := []) (rest := [.int (nI tp)]) ⟨hx, hb, hml, hown, hts⟩ (td_firstRow l dC dI cI cJ cZ qH aX aY aR aL aW X1 Y1 R1 L1 vW) (cwV 0 hts (td_gV (td_i9 (List.mem_of_getElem? (i := 8) rfl)) (td_i9 (List.mem_of_getElem? (i := 9) rfl)) (td_i9 (List.mem_of_getElem? (i := 10) rfl)) (td_i1 (List.mem_of_getElem? (i := 2) rfl)) (td_i9 (List.mem_of_getElem? (i := 11) rfl))) rfl rfl rfl (by decide +kernel) ⟨(Nat.le_of_ble_eq_true rfl), (Nat.le_of_ble_eq_true rfl)⟩) (td_pRV hK hZ hP [7, 8, 9, 10, 11, 12] rfl (va_recv hK hP (ci := 0) (q0 := 7) rfl rfl)) rfl rfl hl.1 rfl (lv_room (Nat.le_of_ble_eq_true rfl)) dX2_drawPiece_52 ⟨Nat.zero_le _, Nat.zero_le _⟩) ?_
  refine va_mmax hx hb (by rw [hml]; exact hl.1.symm) hown (hts _ (td_i8 (List.mem_of_getElem? (i := 18) rfl))) (hts _ (td_i2 (List.mem_of_getElem? (i := 20) rfl))) (hts _ (td_i1 (List.mem_of_getElem? (i := 5) rfl))) (hts _ (td_i2 (List.mem_of_getElem? (i := 21) rfl))) (Nat.le_of_ble_eq_true rfl) (Nat.le_of_ble_eq_true rfl) (Nat.zero_le _) (Nat.zero_le _) dX2_drawPiece_55 ?_
  obtain ⟨Y0, hY0, eY0, kY0⟩ := td_mx0 (lf := tp) (v := td_fm (td_mn Y1)) (by omega) b5 b6
  refine td_ti (nI Y0) eY0 ?_
  refine lv_istore (lv' := [(4, .int (nI Y0)), (3, .int xl), (2, .int (nI X0)), (0, .ref qU), (1, .int (nI k))]) hx hb dX2_drawPiece_58 hl (by decide) rfl (fun ls hl => ?_)
  refine lv_aload_n hx hb dX2_drawPiece_60 rfl (lv_at hl 3 rfl) ?_
  refine va_get (D := (dC, dI)) (ci := 2) (v := .int (nI bm)) (C := RX2) (T := TX2) (N := 15) hx hb hts td_fX2 hown hK hP 0 rfl rfl 14 (by decide) (hts (.fieldLink RX2 45 "TileDesk$Picture" "bottom" "I") (td_i3 (List.mem_of_getElem? (i := 18) rfl))) (fun _ h9 => h9) rfl dX2_drawPiece_61 ?_
  refine lv_iconst (v := 1) hx hb dX2_drawPiece_64 (by decide) ?_
  refine lv_isub hx hb dX2_drawPiece_65 ?_
  refine td_ti (nI (bm - 1)) (pk_sub (b := 1) (by omega)) ?_
  refine lv_aload_n hx hb dX2_drawPiece_66 rfl (lv_at hl 3 rfl) ?_
  refine va_get (D := (dC, dI)) (ci := 2) (v := .ref qH) (C := RX2) (T := TX2) (N := 15) hx hb hts td_fX2 hown hK hP 0 rfl rfl 7 (by decide) (hts (.fieldLink RX2 21 "TileDesk$Picture" "shape" "LTileDesk$Shape;") (td_i3 (List.mem_of_getElem? (i := 11) rfl))) (fun _ h9 => h9) rfl dX2_drawPiece_67 ?_
  refine td_csi (va_runV (As := []) (rest := [.int (nI (bm - 1))]) ⟨hx, hb, hml, hown, hts⟩ (td_lastRow l dC dI cI cJ cZ qH aX aY aR aL aW X1 Y1 R1 L1 vW) (cwV 0 hts (td_gV (td_i9 (List.mem_of_getElem? (i := 12) rfl)) (td_i9 (List.mem_of_getElem? (i := 13) rfl)) (td_i9 (List.mem_of_getElem? (i := 14) rfl)) (td_i1 (List.mem_of_getElem? (i := 2) rfl)) (td_i9 (List.mem_of_getElem? (i := 15) rfl))) rfl rfl rfl (by decide +kernel) ⟨(Nat.le_of_ble_eq_true rfl), (Nat.le_of_ble_eq_true rfl)⟩) (td_pRV hK hZ hP [7, 8, 9, 10, 11, 12] rfl (va_recv hK hP (ci := 0) (q0 := 7) rfl rfl)) rfl rfl hl.1 rfl (lv_room (Nat.le_of_ble_eq_true rfl)) dX2_drawPiece_70 ⟨Nat.zero_le _, Nat.zero_le _⟩) ?_
  refine va_mmin hx hb (by rw [hml]; exact hl.1.symm) hown (hts _ (td_i7 (List.mem_of_getElem? (i := 7) rfl))) (hts _ (td_i2 (List.mem_of_getElem? (i := 17) rfl))) (hts _ (td_i1 (List.mem_of_getElem? (i := 5) rfl))) (hts _ (td_i2 (List.mem_of_getElem? (i := 18) rfl))) (Nat.le_of_ble_eq_true rfl) (Nat.le_of_ble_eq_true rfl) (Nat.zero_le _) (Nat.zero_le _) dX2_drawPiece_73 ?_
  obtain ⟨yl, eyl, kyl1, kyl2⟩ := td_mn0 (rt := bm) (v := td_lm (td_mxx Y1)) (by omega) b7 b8
  refine td_ti yl eyl ?_
  refine lv_istore (lv' := [(5, .int yl), (4, .int (nI Y0)), (3, .int xl), (2, .int (nI X0)), (0, .ref qU), (1, .int (nI k))]) hx hb dX2_drawPiece_76 hl (by decide) rfl (fun ls hl => ?_)
  have hout : ∀ i j, i < w → j < h → ¬ td_cov g (14 * k) (td_x i) (td_x j) → td_stp g (14 * k) i j (q i j) = q i j := fun i j _ _ hn => td_stp0 hn
  have hd0 : td_dI w h lf tp rt bm (fun i j => td_stp g (14 * k) i j (q i j)) q fc fn Y0 0 fc fn := td_dI_start hq (fun i j ht hj => td_stp0 (fun z => by have zz := (td_inbox hp hsc z).2; omega))
  refine lv_iload hx hb dX2_drawPiece_78 (lv_at hl 1 rfl) ?_
  refine lv_istore (lv' := [(6, .int (nI Y0)), (5, .int yl), (4, .int (nI Y0)), (3, .int xl), (2, .int (nI X0)), (0, .ref qU), (1, .int (nI k))]) hx hb dX2_drawPiece_80 hl (by decide) rfl (fun ls hl => ?_)
  have lp82 : ∀ (n82 : Nat) (Y : Nat) (gc : Nat → Int32) (gn : Nat → Int32) (gW : Nat → Int64), (Y0 ≤ Y) → (Y < 1000) → (td_dI w h lf tp rt bm (fun i j => td_stp g (14 * k) i j (q i j)) q fc fn Y 0 gc gn) → bm - Y < n82 → ∀ (H : Heap) (locs : List Loc), va_P (dC, dI) vwCl [(qU, .inr (2, [.int (nI w), .int (nI h), .int (nI ta), .ref cC, .ref cN, .ref cD, .ref qT, .ref qH, .int bg, .int bn, .int dt, .int (nI lf), .int (nI tp), .int (nI rt), .int (nI bm)])), (cC, .inl (cI, wh, .inl gc)), (cN, .inl (cI, wh, .inl gn)), (qT, .inr (1, [.ref pCT, .ref pTT, .ref pVT, .int (nI mt)])), (pCT, .inl (cJ, 1536, .inr (.inl fCT))), (pTT, .inl (cI, 512, .inl fTT)), (pVT, .inl (cI, 512, .inl fVT)), (qH, .inr (0, [.ref aX, .ref aY, .ref aR, .ref aL, .ref aW])), (aX, .inl (cJ, 3, .inr (.inl X1))), (aY, .inl (cJ, 3, .inr (.inl Y1))), (aR, .inl (cJ, 3, .inr (.inl R1))), (aL, .inl (cJ, 3, .inr (.inl L1))), (aW, .inl (cJ, 3, .inr (.inl gW)))] H → va_D A [(qU, .inr (2, [.int (nI w), .int (nI h), .int (nI ta), .ref cC, .ref cN, .ref cD, .ref qT, .ref qH, .int bg, .int bn, .int dt, .int (nI lf), .int (nI tp), .int (nI rt), .int (nI bm)])), (cC, .inl (cI, wh, .inl gc)), (cN, .inl (cI, wh, .inl gn)), (qT, .inr (1, [.ref pCT, .ref pTT, .ref pVT, .int (nI mt)])), (pCT, .inl (cJ, 1536, .inr (.inl fCT))), (pTT, .inl (cI, 512, .inl fTT)), (pVT, .inl (cI, 512, .inl fVT)), (qH, .inr (0, [.ref aX, .ref aY, .ref aR, .ref aL, .ref aW])), (aX, .inl (cJ, 3, .inr (.inl X1))), (aY, .inl (cJ, 3, .inr (.inl Y1))), (aR, .inl (cJ, 3, .inr (.inl R1))), (aL, .inl (cJ, 3, .inr (.inl L1))), (aW, .inl (cJ, 3, .inr (.inl gW)))] → va_S A s.heap H locs → ∀ ls : Array Slot, lv_has ls 8 [(0, .ref qU), (1, .int (nI k)), (2, .int (nI X0)), (3, .int xl), (5, .int yl), (6, .int (nI Y))] → W p l e (headSpec wsX2_drawPiece ({ frames := 4, cells := 0, slots := 0, locals := 103 })).room s m (([.ref qU, .int (nI k)] : List Value).toArray) below meth c H locs 0 0 (MQ below (va_Qv (S := (Nat → Int32) × (Nat → Int32) × (Nat → Int64) × (Nat → Int64) × (Nat → Int64) × (Nat → Int64) × (Nat → Int64)) (fun u => td_dI w h lf tp rt bm (fun i j => td_stp g (14 * k) i j (q i j)) q fc fn bm 0 u.1 u.2.1) (td_B (dC, dI) vwCl (td_T cI cJ cZ) A (fun (u : (Nat → Int32) × (Nat → Int32) × (Nat → Int64) × (Nat → Int64) × (Nat → Int64) × (Nat → Int64) × (Nat → Int64)) => [(qU, .inr (2, [.int (nI w), .int (nI h), .int (nI ta), .ref cC, .ref cN, .ref cD, .ref qT, .ref qH, .int bg, .int bn, .int dt, .int (nI lf), .int (nI tp), .int (nI rt), .int (nI bm)])), (cC, .inl (cI, wh, .inl u.1)), (cN, .inl (cI, wh, .inl u.2.1)), (qT, .inr (1, [.ref pCT, .ref pTT, .ref pVT, .int (nI mt)])), (pCT, .inl (cJ, 1536, .inr (.inl fCT))), (pTT, .inl (cI, 512, .inl fTT)), (pVT, .inl (cI, 512, .inl fVT)), (qH, .inr (0, [.ref aX, .ref aY, .ref aR, .ref aL, .ref aW])), (aX, .inl (cJ, 3, .inr (.inl u.2.2.1))), (aY, .inl (cJ, 3, .inr (.inl u.2.2.2.1))), (aR, .inl (cJ, 3, .inr (.inl u.2.2.2.2.1))), (aL, .inl (cJ, 3, .inr (.inl u.2.2.2.2.2.1))), (aW, .inl (cJ, 3, .inr (.inl u.2.2.2.2.2.2)))])) A) (([.ref qU, .int (nI k)] : List Value).toArray) s 0 0 A) (F0 m 82 ls []) := by
    intro n82
    induction n82 with
    | zero => intro Y gc gn gW hY1 hY2 hd hm; exact absurd hm (Nat.not_lt_zero _)
    | succ n82 ih82 =>
      intro Y gc gn gW hY1 hY2 hd hm82 H locs hP hD hS ls hl
      refine lv_iload hx hb dX2_drawPiece_82 (lv_at hl 5 rfl) ?_
      refine lv_iload hx hb dX2_drawPiece_84 (lv_at hl 4 rfl) ?_
      refine lv_icmp_gt (tgt := 154) hx hb dX2_drawPiece_86 (by decide) (fun c86 => ?_) (fun c86 => ?_)
      · have hyY : yl.toInt < Y := by rw [td_lt32, nI_toInt (by omega)] at c86; exact c86
        have hP9 := hP.sub (ws' := [(qU, .inr (2, [.int (nI w), .int (nI h), .int (nI ta), .ref cC, .ref cN, .ref cD, .ref qT, .ref qH, .int bg, .int bn, .int dt, .int (nI lf), .int (nI tp), .int (nI rt), .int (nI bm)])), (cC, .inl (cI, wh, .inl gc)), (cN, .inl (cI, wh, .inl gn)), (qT, .inr (1, [.ref pCT, .ref pTT, .ref pVT, .int (nI mt)])), (pCT, .inl (cJ, 1536, .inr (.inl fCT))), (pTT, .inl (cI, 512, .inl fTT)), (pVT, .inl (cI, 512, .inl fVT)), (qH, .inr (0, [.ref aX, .ref aY, .ref aR, .ref aL, .ref aW])), (aX, .inl (cJ, 3, .inr (.inl X1))), (aY, .inl (cJ, 3, .inr (.inl Y1))), (aR, .inl (cJ, 3, .inr (.inl R1))), (aL, .inl (cJ, 3, .inr (.inl L1))), (aW, .inl (cJ, 3, .inr (.inl gW)))]) [0, 1, 2, 3, 4, 5, 6, 7, 8, 9, 10, 11, 12] rfl
        have hD9 := hD.sub (ws' := [(qU, .inr (2, [.int (nI w), .int (nI h), .int (nI ta), .ref cC, .ref cN, .ref cD, .ref qT, .ref qH, .int bg, .int bn, .int dt, .int (nI lf), .int (nI tp), .int (nI rt), .int (nI bm)])), (cC, .inl (cI, wh, .inl gc)), (cN, .inl (cI, wh, .inl gn)), (qT, .inr (1, [.ref pCT, .ref pTT, .ref pVT, .int (nI mt)])), (pCT, .inl (cJ, 1536, .inr (.inl fCT))), (pTT, .inl (cI, 512, .inl fTT)), (pVT, .inl (cI, 512, .inl fVT)), (qH, .inr (0, [.ref aX, .ref aY, .ref aR, .ref aL, .ref aW])), (aX, .inl (cJ, 3, .inr (.inl X1))), (aY, .inl (cJ, 3, .inr (.inl Y1))), (aR, .inl (cJ, 3, .inr (.inl R1))), (aL, .inl (cJ, 3, .inr (.inl L1))), (aW, .inl (cJ, 3, .inr (.inl gW)))]) [0, 1, 2, 3, 4, 5, 6, 7, 8, 9, 10, 11, 12] (by decide) rfl
        exact td_rwv (gc, gn, X1, Y1, R1, L1, gW) hx hb hr hlocks hK (td_dI_to hd (fun i j ht a b => td_stp0 (fun z => by have zz := (td_inbox hp hsc z).2; omega)) (fun i j ht a => by omega)) hP9 hD9 hS dX2_drawPiece_154
      · have hyY : (Y : Int) ≤ yl.toInt := by rw [td_lt32, nI_toInt (by omega)] at c86; omega
        have hYb : Y < bm := by omega
        have hd1 : td_dI w h lf tp rt bm (fun i j => td_stp g (14 * k) i j (q i j)) q fc fn Y X0 gc gn := td_dI_to hd (fun i j ht a b => td_stp0 (fun z => by have zz := (td_inbox hp hsc z).1; omega)) (fun i j ht a => by omega)
        refine lv_iload_n hx hb dX2_drawPiece_89 rfl (lv_at hl 2 rfl) ?_
        refine lv_istore (lv' := [(7, .int (nI X0)), (0, .ref qU), (1, .int (nI k)), (2, .int (nI X0)), (3, .int xl), (5, .int yl), (6, .int (nI Y))]) hx hb dX2_drawPiece_90 hl (by decide) rfl (fun ls hl => ?_)
        have lp92 : ∀ (n92 : Nat) (X : Nat) (gc : Nat → Int32) (gn : Nat → Int32) (gW : Nat → Int64), (X0 ≤ X) → (X < 1000) → (td_dI w h lf tp rt bm (fun i j => td_stp g (14 * k) i j (q i j)) q fc fn Y X gc gn) → rt - X < n92 → ∀ (H : Heap) (locs : List Loc), va_P (dC, dI) vwCl [(qU, .inr (2, [.int (nI w), .int (nI h), .int (nI ta), .ref cC, .ref cN, .ref cD, .ref qT, .ref qH, .int bg, .int bn, .int dt, .int (nI lf), .int (nI tp), .int (nI rt), .int (nI bm)])), (cC, .inl (cI, wh, .inl gc)), (cN, .inl (cI, wh, .inl gn)), (qT, .inr (1, [.ref pCT, .ref pTT, .ref pVT, .int (nI mt)])), (pCT, .inl (cJ, 1536, .inr (.inl fCT))), (pTT, .inl (cI, 512, .inl fTT)), (pVT, .inl (cI, 512, .inl fVT)), (qH, .inr (0, [.ref aX, .ref aY, .ref aR, .ref aL, .ref aW])), (aX, .inl (cJ, 3, .inr (.inl X1))), (aY, .inl (cJ, 3, .inr (.inl Y1))), (aR, .inl (cJ, 3, .inr (.inl R1))), (aL, .inl (cJ, 3, .inr (.inl L1))), (aW, .inl (cJ, 3, .inr (.inl gW)))] H → va_D A [(qU, .inr (2, [.int (nI w), .int (nI h), .int (nI ta), .ref cC, .ref cN, .ref cD, .ref qT, .ref qH, .int bg, .int bn, .int dt, .int (nI lf), .int (nI tp), .int (nI rt), .int (nI bm)])), (cC, .inl (cI, wh, .inl gc)), (cN, .inl (cI, wh, .inl gn)), (qT, .inr (1, [.ref pCT, .ref pTT, .ref pVT, .int (nI mt)])), (pCT, .inl (cJ, 1536, .inr (.inl fCT))), (pTT, .inl (cI, 512, .inl fTT)), (pVT, .inl (cI, 512, .inl fVT)), (qH, .inr (0, [.ref aX, .ref aY, .ref aR, .ref aL, .ref aW])), (aX, .inl (cJ, 3, .inr (.inl X1))), (aY, .inl (cJ, 3, .inr (.inl Y1))), (aR, .inl (cJ, 3, .inr (.inl R1))), (aL, .inl (cJ, 3, .inr (.inl L1))), (aW, .inl (cJ, 3, .inr (.inl gW)))] → va_S A s.heap H locs → ∀ ls : Array Slot, lv_has ls 8 [(0, .ref qU), (1, .int (nI k)), (2, .int (nI X0)), (3, .int xl), (5, .int yl), (6, .int (nI Y)), (7, .int (nI X))] → W p l e (headSpec wsX2_drawPiece ({ frames := 4, cells := 0, slots := 0, locals := 103 })).room s m (([.ref qU, .int (nI k)] : List Value).toArray) below meth c H locs 0 0 (MQ below (va_Qv (S := (Nat → Int32) × (Nat → Int32) × (Nat → Int64) × (Nat → Int64) × (Nat → Int64) × (Nat → Int64) × (Nat → Int64)) (fun u => td_dI w h lf tp rt bm (fun i j => td_stp g (14 * k) i j (q i j)) q fc fn bm 0 u.1 u.2.1) (td_B (dC, dI) vwCl (td_T cI cJ cZ) A (fun (u : (Nat → Int32) × (Nat → Int32) × (Nat → Int64) × (Nat → Int64) × (Nat → Int64) × (Nat → Int64) × (Nat → Int64)) => [(qU, .inr (2, [.int (nI w), .int (nI h), .int (nI ta), .ref cC, .ref cN, .ref cD, .ref qT, .ref qH, .int bg, .int bn, .int dt, .int (nI lf), .int (nI tp), .int (nI rt), .int (nI bm)])), (cC, .inl (cI, wh, .inl u.1)), (cN, .inl (cI, wh, .inl u.2.1)), (qT, .inr (1, [.ref pCT, .ref pTT, .ref pVT, .int (nI mt)])), (pCT, .inl (cJ, 1536, .inr (.inl fCT))), (pTT, .inl (cI, 512, .inl fTT)), (pVT, .inl (cI, 512, .inl fVT)), (qH, .inr (0, [.ref aX, .ref aY, .ref aR, .ref aL, .ref aW])), (aX, .inl (cJ, 3, .inr (.inl u.2.2.1))), (aY, .inl (cJ, 3, .inr (.inl u.2.2.2.1))), (aR, .inl (cJ, 3, .inr (.inl u.2.2.2.2.1))), (aL, .inl (cJ, 3, .inr (.inl u.2.2.2.2.2.1))), (aW, .inl (cJ, 3, .inr (.inl u.2.2.2.2.2.2)))])) A) (([.ref qU, .int (nI k)] : List Value).toArray) s 0 0 A) (F0 m 92 ls []) := by
          intro n92
          induction n92 with
          | zero => intro X gc gn gW hX1 hX2 hd hm; exact absurd hm (Nat.not_lt_zero _)
          | succ n92 ih92 =>
            intro X gc gn gW hX1 hX2 hd hm92 H locs hP hD hS ls hl
            refine lv_iload hx hb dX2_drawPiece_92 (lv_at hl 6 rfl) ?_
            refine lv_iload_n hx hb dX2_drawPiece_94 rfl (lv_at hl 3 rfl) ?_
            refine lv_icmp_gt (tgt := 148) hx hb dX2_drawPiece_95 (by decide) (fun c95 => ?_) (fun c95 => ?_)
            · have hxX : xl.toInt < X := by rw [td_lt32, nI_toInt (by omega)] at c95; exact c95
              have hdrow : td_dI w h lf tp rt bm (fun i j => td_stp g (14 * k) i j (q i j)) q fc fn (Y + 1) 0 gc gn := td_dI_to hd (fun i j ht a b => td_stp0 (fun z => by have zz := (td_inbox hp hsc z).1; omega)) (fun i j ht a => by omega)
              refine lv_iinc (v := nI (Y + 1)) (lv' := [(6, .int (nI (Y + 1))), (0, .ref qU), (1, .int (nI k)), (2, .int (nI X0)), (3, .int xl), (5, .int yl), (7, .int (nI X))]) hx hb dX2_drawPiece_148 hl (k := 5) rfl (nI_add Y 1) (by decide) rfl (fun ls hl => ?_)
              refine lv_goto (tgt := 82) hx hb dX2_drawPiece_151 (by decide) ?_
              exact ih82 (Y + 1) gc gn gW (by omega) (by omega) hdrow (by omega) _ _ (hP.sub [0, 1, 2, 3, 4, 5, 6, 7, 8, 9, 10, 11, 12] rfl) (hD.sub [0, 1, 2, 3, 4, 5, 6, 7, 8, 9, 10, 11, 12] (by decide) rfl) hS ls (lv_sub hl [1, 2, 3, 4, 5, 0] rfl)
            · have hxX : (X : Int) ≤ xl.toInt := by rw [td_lt32, nI_toInt (by omega)] at c95; omega
              have hXr : X < rt := by omega
              have htile : (lf ≤ X ∧ X < rt) ∧ tp ≤ Y ∧ Y < bm := by omega
              obtain ⟨hat1, hat2⟩ := td_dI_at (by omega) (by omega) htile hd
              refine lv_aload_n hx hb dX2_drawPiece_98 rfl (lv_at hl 0 rfl) ?_
              refine va_get (D := (dC, dI)) (ci := 2) (v := .ref qH) (C := RX2) (T := TX2) (N := 15) hx hb hts td_fX2 hown hK hP 0 rfl rfl 7 (by decide) (hts (.fieldLink RX2 21 "TileDesk$Picture" "shape" "LTileDesk$Shape;") (td_i3 (List.mem_of_getElem? (i := 11) rfl))) (fun _ h9 => h9) rfl dX2_drawPiece_99 ?_
              refine lv_iload hx hb dX2_drawPiece_102 (lv_at hl 6 rfl) ?_
              refine lv_iload hx hb dX2_drawPiece_104 (lv_at hl 5 rfl) ?_
              refine td_cwi (wr := [(qU, .inr (2, [.int (nI w), .int (nI h), .int (nI ta), .ref cC, .ref cN, .ref cD, .ref qT, .ref qH, .int bg, .int bn, .int dt, .int (nI lf), .int (nI tp), .int (nI rt), .int (nI bm)])), (cC, .inl (cI, wh, .inl gc)), (cN, .inl (cI, wh, .inl gn)), (qT, .inr (1, [.ref pCT, .ref pTT, .ref pVT, .int (nI mt)])), (pCT, .inl (cJ, 1536, .inr (.inl fCT))), (pTT, .inl (cI, 512, .inl fTT)), (pVT, .inl (cI, 512, .inl fVT))]) (va_runV (As := [.int (nI X), .int (nI Y)]) (rest := []) ⟨hx, hb, hml, hown, hts⟩ (td_coversPixel l dC dI cI cJ cZ H.size qH aX aY aR aL aW X1 Y1 R1 L1 gW X Y (by omega) (by omega)) (cwV 2 hts (td_gV (td_i9 (List.mem_of_getElem? (i := 16) rfl)) (td_i9 (List.mem_of_getElem? (i := 17) rfl)) (td_i9 (List.mem_of_getElem? (i := 18) rfl)) (td_i1 (List.mem_of_getElem? (i := 2) rfl)) (td_i9 (List.mem_of_getElem? (i := 19) rfl))) rfl rfl rfl (by decide +kernel) ⟨(Nat.le_of_ble_eq_true rfl), (Nat.le_of_ble_eq_true rfl)⟩) (td_pWV hK hZ hP hD [7, 8, 9, 10, 11, 12] (by decide) rfl (va_recv hK hP (ci := 0) (q0 := 7) rfl rfl)) rfl rfl hl.1 rfl (lv_room (Nat.le_of_ble_eq_true rfl)) dX2_drawPiece_106 ⟨Nat.zero_le _, Nat.zero_le _⟩) hP hD hS hA [7, 8, 9, 10, 11, 12] [0, 1, 2, 3, 4, 5, 6] rfl rfl (by decide) (by decide) (fun rcp u H locs hcp hP hD hS => ?_)
              obtain ⟨nW, rfl⟩ : ∃ z, z = u := ⟨_, rfl⟩
              try dsimp only at hcp
              have hP : va_P (dC, dI) vwCl [(qU, .inr (2, [.int (nI w), .int (nI h), .int (nI ta), .ref cC, .ref cN, .ref cD, .ref qT, .ref qH, .int bg, .int bn, .int dt, .int (nI lf), .int (nI tp), .int (nI rt), .int (nI bm)])), (cC, .inl (cI, wh, .inl gc)), (cN, .inl (cI, wh, .inl gn)), (qT, .inr (1, [.ref pCT, .ref pTT, .ref pVT, .int (nI mt)])), (pCT, .inl (cJ, 1536, .inr (.inl fCT))), (pTT, .inl (cI, 512, .inl fTT)), (pVT, .inl (cI, 512, .inl fVT)), (qH, .inr (0, [.ref aX, .ref aY, .ref aR, .ref aL, .ref aW])), (aX, .inl (cJ, 3, .inr (.inl X1))), (aY, .inl (cJ, 3, .inr (.inl Y1))), (aR, .inl (cJ, 3, .inr (.inl R1))), (aL, .inl (cJ, 3, .inr (.inl L1))), (aW, .inl (cJ, 3, .inr (.inl nW)))] H := hP
              have hD : va_D A [(qU, .inr (2, [.int (nI w), .int (nI h), .int (nI ta), .ref cC, .ref cN, .ref cD, .ref qT, .ref qH, .int bg, .int bn, .int dt, .int (nI lf), .int (nI tp), .int (nI rt), .int (nI bm)])), (cC, .inl (cI, wh, .inl gc)), (cN, .inl (cI, wh, .inl gn)), (qT, .inr (1, [.ref pCT, .ref pTT, .ref pVT, .int (nI mt)])), (pCT, .inl (cJ, 1536, .inr (.inl fCT))), (pTT, .inl (cI, 512, .inl fTT)), (pVT, .inl (cI, 512, .inl fVT)), (qH, .inr (0, [.ref aX, .ref aY, .ref aR, .ref aL, .ref aW])), (aX, .inl (cJ, 3, .inr (.inl X1))), (aY, .inl (cJ, 3, .inr (.inl Y1))), (aR, .inl (cJ, 3, .inr (.inl R1))), (aL, .inl (cJ, 3, .inr (.inl L1))), (aW, .inl (cJ, 3, .inr (.inl nW)))] := hD
              refine lv_if_eq (tgt := 142) hx hb dX2_drawPiece_109 (by decide) (fun c109 => ?_) (fun c109 => ?_)
              · have hnc : ¬ td_cov g (14 * k) (td_x X) (td_x Y) := by rcases hcp with ⟨q1, -⟩ | ⟨-, q2⟩; exact absurd c109 (by rw [q1]; decide); exact fun z => q2 ((td_cc_cov hp hsc (by omega) (by omega)).mpr z)
                have hd2 : td_dI w h lf tp rt bm (fun i j => td_stp g (14 * k) i j (q i j)) q fc fn Y (X + 1) gc gn := td_dI_to hd (fun i j ht a b => by obtain ⟨rfl, rfl⟩ : i = X ∧ j = Y := (by omega); exact td_stp0 hnc) (fun i j ht a => by omega)
                refine lv_iinc (v := nI (X + 1)) (lv' := [(7, .int (nI (X + 1))), (0, .ref qU), (1, .int (nI k)), (2, .int (nI X0)), (3, .int xl), (5, .int yl), (6, .int (nI Y))]) hx hb dX2_drawPiece_142 hl (k := 6) rfl (nI_add X 1) (by decide) rfl (fun ls hl => ?_)
                refine lv_goto (tgt := 92) hx hb dX2_drawPiece_145 (by decide) ?_
                exact ih92 (X + 1) gc gn nW (by omega) (by omega) hd2 (by omega) _ _ (hP.sub [0, 1, 2, 3, 4, 5, 6, 7, 8, 9, 10, 11, 12] rfl) (hD.sub [0, 1, 2, 3, 4, 5, 6, 7, 8, 9, 10, 11, 12] (by decide) rfl) hS ls (lv_sub hl [1, 2, 3, 4, 5, 6, 0] rfl)
              · obtain ⟨hcov, hnW⟩ : td_cov g (14 * k) (td_x X) (td_x Y) ∧ ∀ t, t < 3 → nW t = td_ce X1 Y1 t (lN (16 * X + 8)) (lN (16 * Y + 8)) := by rcases hcp with ⟨-, q1, q2⟩ | ⟨q1, -⟩; exact ⟨(td_cc_cov hp hsc (by omega) (by omega)).mp q1, q2⟩; exact absurd q1 c109
                obtain ⟨m1, m2, m3, m4⟩ := td_clsN hp hsc (by omega) (by omega) hcov hnW
                obtain ⟨-, -, -, -, t1, t2, t3, t4⟩ := id hp
                obtain ⟨qb1, qb2⟩ := hqb X Y htile
                refine lv_aload_n hx hb dX2_drawPiece_112 rfl (lv_at hl 0 rfl) ?_
                refine lv_aload_n hx hb dX2_drawPiece_113 rfl (lv_at hl 0 rfl) ?_
                refine lv_iload hx hb dX2_drawPiece_114 (lv_at hl 6 rfl) ?_
                refine lv_iload hx hb dX2_drawPiece_116 (lv_at hl 5 rfl) ?_
                refine td_csi (va_runV (As := [.int (nI X), .int (nI Y)]) (rest := [.ref qU]) ⟨hx, hb, hml, hown, hts⟩ (td_pixelIndex l dC dI cI cJ cZ qU cC cN cD qT qH w h ta bg bn dt (nI lf) (nI tp) (nI rt) (nI bm) X Y) (cwV 2 hts (td_gV (td_i7 (List.mem_of_getElem? (i := 11) rfl)) (td_i7 (List.mem_of_getElem? (i := 12) rfl)) (td_i7 (List.mem_of_getElem? (i := 13) rfl)) (td_i1 (List.mem_of_getElem? (i := 4) rfl)) (td_i7 (List.mem_of_getElem? (i := 14) rfl))) rfl rfl rfl (by decide +kernel) ⟨(Nat.le_of_ble_eq_true rfl), (Nat.le_of_ble_eq_true rfl)⟩) (td_pRV hK hZ hP [0] rfl (va_recv hK hP (ci := 2) (q0 := 0) rfl rfl)) rfl rfl hl.1 rfl (lv_room (Nat.le_of_ble_eq_true rfl)) dX2_drawPiece_118 ⟨Nat.zero_le _, Nat.zero_le _⟩) ?_
                refine lv_aload_n hx hb dX2_drawPiece_121 rfl (lv_at hl 0 rfl) ?_
                refine va_get (D := (dC, dI)) (ci := 2) (v := .ref qT) (C := RX2) (T := TX2) (N := 15) hx hb hts td_fX2 hown hK hP 0 rfl rfl 6 (by decide) (hts (.fieldLink RX2 12 "TileDesk$Picture" "taken" "LTileDesk$Pieces;") (td_i3 (List.mem_of_getElem? (i := 10) rfl))) (fun _ h9 => h9) rfl dX2_drawPiece_122 ?_
                refine va_getN (D := (dC, dI)) (ci := 1) (v := .ref pTT) (C := RX1) (T := TX1) (N := 4) hx hb hts td_fX1 hown hK hP 3 rfl rfl 1 (by decide) (va_Nw.use rfl (hZ.2 _ (List.mem_of_getElem? (i := 2) rfl))) (fun _ h9 => h9) rfl dX2_drawPiece_125 ?_
                refine lv_iload_n hx hb dX2_drawPiece_128 rfl (lv_at hl 1 rfl) ?_
                refine td_iald hx hb hK hP 5 0 k rfl rfl rfl (by omega) (by decide) dX2_drawPiece_129 ?_
                refine td_ti (nI (g (14 * k + 12)).toInt.toNat) (hti.trans (td_ofI t1)) ?_
                refine lv_aload_n hx hb dX2_drawPiece_130 rfl (lv_at hl 0 rfl) ?_
                refine va_get (D := (dC, dI)) (ci := 2) (v := .ref qT) (C := RX2) (T := TX2) (N := 15) hx hb hts td_fX2 hown hK hP 0 rfl rfl 6 (by decide) (hts (.fieldLink RX2 12 "TileDesk$Picture" "taken" "LTileDesk$Pieces;") (td_i3 (List.mem_of_getElem? (i := 10) rfl))) (fun _ h9 => h9) rfl dX2_drawPiece_131 ?_
                refine va_getN (D := (dC, dI)) (ci := 1) (v := .ref pVT) (C := RX1) (T := TX1) (N := 4) hx hb hts td_fX1 hown hK hP 3 rfl rfl 2 (by decide) (va_Nw.use rfl (hZ.2 _ (List.mem_of_getElem? (i := 3) rfl))) (fun _ h9 => h9) rfl dX2_drawPiece_134 ?_
                refine lv_iload_n hx hb dX2_drawPiece_137 rfl (lv_at hl 1 rfl) ?_
                refine td_iald hx hb hK hP 6 0 k rfl rfl rfl (by omega) (by decide) dX2_drawPiece_138 ?_
                refine td_ti (nI (g (14 * k + 13)).toInt.toNat) (hcv.trans (td_ofI t3)) ?_
                refine td_cwv (wr := [(qT, .inr (1, [.ref pCT, .ref pTT, .ref pVT, .int (nI mt)])), (pCT, .inl (cJ, 1536, .inr (.inl fCT))), (pTT, .inl (cI, 512, .inl fTT)), (pVT, .inl (cI, 512, .inl fVT))]) (va_runV (As := [.int (nI (Y * w + X)), .int (nI (g (14 * k + 12)).toInt.toNat), .int (nI (g (14 * k + 13)).toInt.toNat)]) (rest := []) ⟨hx, hb, hml, hown, hts⟩ (td_paint l dC dI cI cJ cZ H.size qU cC cN cD qT qH w h ta bg bn dt (nI lf) (nI tp) (nI rt) (nI bm) wh gc gn aX aY aR aL aW X1 Y1 R1 L1 nW (Y * w + X) (g (14 * k + 12)).toInt.toNat (g (14 * k + 13)).toInt.toNat (td_near g (14 * k) (td_x X) (td_x Y)) (td_lig g (14 * k) (td_x X) (td_x Y)) (q X Y).1 (q X Y).2 (by rw [hwh]; exact td_ix (by omega) (by omega)) (by omega) (by omega) (by omega) m1 m2 m3 m4 hat1 qb1 hat2 (by omega)) (cwV 3 hts (td_gV (td_i9 (List.mem_of_getElem? (i := 23) rfl)) (td_i10 (List.mem_of_getElem? (i := 0) rfl)) (td_i15 (List.mem_of_getElem? (i := 14) rfl)) (td_i1 (List.mem_of_getElem? (i := 4) rfl)) (td_i10 (List.mem_of_getElem? (i := 1) rfl))) rfl rfl rfl (by decide +kernel) ⟨(Nat.le_of_ble_eq_true rfl), (Nat.le_of_ble_eq_true rfl)⟩) (td_pWV hK hZ hP hD [0, 1, 2, 7, 8, 9, 10, 11, 12] (by decide) rfl (va_recv hK hP (ci := 2) (q0 := 0) rfl rfl)) rfl rfl hl.1 rfl (lv_room (Nat.le_of_ble_eq_true rfl)) dX2_drawPiece_139 ⟨Nat.zero_le _, Nat.zero_le _⟩) hP hD hS hA [0, 1, 2, 7, 8, 9, 10, 11, 12] [3, 4, 5, 6] rfl rfl (by decide) (by decide) (fun u H locs hpt hP hD hS => ?_)
                obtain ⟨pc, pn⟩ := u
                try dsimp only at hpt
                have hP : va_P (dC, dI) vwCl [(qT, .inr (1, [.ref pCT, .ref pTT, .ref pVT, .int (nI mt)])), (pCT, .inl (cJ, 1536, .inr (.inl fCT))), (pTT, .inl (cI, 512, .inl fTT)), (pVT, .inl (cI, 512, .inl fVT)), (qU, .inr (2, [.int (nI w), .int (nI h), .int (nI ta), .ref cC, .ref cN, .ref cD, .ref qT, .ref qH, .int bg, .int bn, .int dt, .int (nI lf), .int (nI tp), .int (nI rt), .int (nI bm)])), (cC, .inl (cI, wh, .inl pc)), (cN, .inl (cI, wh, .inl pn)), (qH, .inr (0, [.ref aX, .ref aY, .ref aR, .ref aL, .ref aW])), (aX, .inl (cJ, 3, .inr (.inl X1))), (aY, .inl (cJ, 3, .inr (.inl Y1))), (aR, .inl (cJ, 3, .inr (.inl R1))), (aL, .inl (cJ, 3, .inr (.inl L1))), (aW, .inl (cJ, 3, .inr (.inl nW)))] H := hP
                have hD : va_D A [(qT, .inr (1, [.ref pCT, .ref pTT, .ref pVT, .int (nI mt)])), (pCT, .inl (cJ, 1536, .inr (.inl fCT))), (pTT, .inl (cI, 512, .inl fTT)), (pVT, .inl (cI, 512, .inl fVT)), (qU, .inr (2, [.int (nI w), .int (nI h), .int (nI ta), .ref cC, .ref cN, .ref cD, .ref qT, .ref qH, .int bg, .int bn, .int dt, .int (nI lf), .int (nI tp), .int (nI rt), .int (nI bm)])), (cC, .inl (cI, wh, .inl pc)), (cN, .inl (cI, wh, .inl pn)), (qH, .inr (0, [.ref aX, .ref aY, .ref aR, .ref aL, .ref aW])), (aX, .inl (cJ, 3, .inr (.inl X1))), (aY, .inl (cJ, 3, .inr (.inl Y1))), (aR, .inl (cJ, 3, .inr (.inl R1))), (aL, .inl (cJ, 3, .inr (.inl L1))), (aW, .inl (cJ, 3, .inr (.inl nW)))] := hD
                have hd2 : td_dI w h lf tp rt bm (fun i j => td_stp g (14 * k) i j (q i j)) q fc fn Y (X + 1) pc pn := td_dI_put (by omega) (by omega) htile hd hpt.1 (by show _ = nI (td_stp g (14 * k) X Y (q X Y)).1; rw [hpt.2.1, td_stp1 hcov]) (by show _ = nI (td_stp g (14 * k) X Y (q X Y)).2; rw [hpt.2.2, td_stp1 hcov])
                refine lv_iinc (v := nI (X + 1)) (lv' := [(7, .int (nI (X + 1))), (0, .ref qU), (1, .int (nI k)), (2, .int (nI X0)), (3, .int xl), (5, .int yl), (6, .int (nI Y))]) hx hb dX2_drawPiece_142 hl (k := 6) rfl (nI_add X 1) (by decide) rfl (fun ls hl => ?_)
                refine lv_goto (tgt := 92) hx hb dX2_drawPiece_145 (by decide) ?_
                exact ih92 (X + 1) pc pn nW (by omega) (by omega) hd2 (by omega) _ _ (hP.sub [4, 5, 6, 0, 1, 2, 3, 7, 8, 9, 10, 11, 12] rfl) (hD.sub [4, 5, 6, 0, 1, 2, 3, 7, 8, 9, 10, 11, 12] (by decide) rfl) hS ls (lv_sub hl [1, 2, 3, 4, 5, 6, 0] rfl)
        exact lp92 ((rt - X0) + 1) X0 gc gn gW (Nat.le_refl _) (by omega) hd1 (Nat.lt_succ_self _) _ _ (hP.sub [0, 1, 2, 3, 4, 5, 6, 7, 8, 9, 10, 11, 12] rfl) (hD.sub [0, 1, 2, 3, 4, 5, 6, 7, 8, 9, 10, 11, 12] (by decide) rfl) hS ls (lv_sub hl [1, 2, 3, 4, 5, 6, 0] rfl)
  exact lp82 ((bm - Y0) + 1) Y0 fc fn vW (Nat.le_refl _) (by omega) hd0 (Nat.lt_succ_self _) _ _ (hP.sub [0, 1, 2, 3, 4, 5, 6, 7, 8, 9, 10, 11, 12] rfl) (hD.sub [0, 1, 2, 3, 4, 5, 6, 7, 8, 9, 10, 11, 12] (by decide) rfl) hS ls (lv_sub hl [5, 6, 4, 3, 1, 0] rfl)
end
section
set_option maxHeartbeats 4000000 in
set_option maxRecDepth 100000 in
/-- Picture.drawTile -/
theorem td_drawTile (l : Launch) (dC : Nat → ClassId) (dI : Nat → Nat → Nat) (cI cJ cZ : ClassId) (sz : Nat) (qU : Nat) (cC : Nat) (cN : Nat) (cD : Nat) (qT : Nat) (qH : Nat) (w : Nat) (h : Nat) (ta : Nat) (bg : Int32) (bn : Int32) (dt : Int32) (lf : Int32) (tp : Int32) (rt : Int32) (bm : Int32) (wh : Nat) (fc : Nat → Int32) (fn : Nat → Int32) (nd : Nat) (fD : Nat → Int32) (pCT : Nat) (pTT : Nat) (pVT : Nat) (fCT : Nat → Int64) (fTT : Nat → Int32) (fVT : Nat → Int32) (mt : Nat) (aX : Nat) (aY : Nat) (aR : Nat) (aL : Nat) (aW : Nat) (vX : Nat → Int64) (vY : Nat → Int64) (vR : Nat → Int64) (vL : Nat → Int64) (vW : Nat → Int64) (k : Int32) (g : Nat → Int32) (bgN : Nat) (hw1 : 8 ≤ w) (hw2 : w ≤ 48) (hh1 : 8 ≤ h) (hh2 : h ≤ 48) (hta : ta = (w + 7) / 8) (hnd : nd = ta * ((h + 7) / 8)) (hwh : wh = w * h) (hm : mt ≤ 512) (hbg : bg = nI bgN) (hbb : bgN < 16777216) (hp : ∀ t, t < mt → td_pc g (14 * t)) (hcr : ∀ t, t < mt → td_pkd g (14 * t) (3 * t) fCT) (hti : ∀ t, t < mt → fTT t = g (14 * t + 12)) (hcv : ∀ t, t < mt → fVT t = g (14 * t + 13)) : Met l yX2_drawTile wsX2_drawTile ({ frames := 5, cells := 0, slots := 0, locals := 130 }) (td_WP (dC, dI) vwCl (td_T cI cJ cZ) td_nl [(qU, .inr (2, [.int (nI w), .int (nI h), .int (nI ta), .ref cC, .ref cN, .ref cD, .ref qT, .ref qH, .int bg, .int bn, .int dt, .int lf, .int tp, .int rt, .int bm])), (cC, .inl (cI, wh, .inl fc)), (cN, .inl (cI, wh, .inl fn)), (cD, .inl (cZ, nd, .inl fD)), (qT, .inr (1, [.ref pCT, .ref pTT, .ref pVT, .int (nI mt)])), (pCT, .inl (cJ, 1536, .inr (.inl fCT))), (pTT, .inl (cI, 512, .inl fTT)), (pVT, .inl (cI, 512, .inl fVT)), (qH, .inr (0, [.ref aX, .ref aY, .ref aR, .ref aL, .ref aW])), (aX, .inl (cJ, 3, .inr (.inl vX))), (aY, .inl (cJ, 3, .inr (.inl vY))), (aR, .inl (cJ, 3, .inr (.inl vR))), (aL, .inl (cJ, 3, .inr (.inl vL))), (aW, .inl (cJ, 3, .inr (.inl vW)))] sz [.ref qU, .int k]) (va_Qi (S := (Nat → Int32) × (Nat → Int32) × (Nat → Int32) × Int32 × Int32 × Int32 × Int32 × Int32 × (Nat → Int64) × (Nat → Int64) × (Nat → Int64) × (Nat → Int64) × (Nat → Int64)) (fun r u => (r = 0 ∧ (u.1 = fc ∧ u.2.1 = fn ∧ u.2.2.1 = fD ∧ u.2.2.2.1 = dt) ∧ (bn = 0 ∨ k < 0 ∨ nI nd ≤ k ∨ ∃ kk, kk < nd ∧ k = nI kk ∧ ¬ fD kk = 0)) ∨ (r = 1 ∧ ¬ bn = 0 ∧ ∃ kk, kk < nd ∧ k = nI kk ∧ fD kk = 0 ∧ u.2.2.1 = upd fD kk 1 ∧ u.2.2.2.1 = dt + 1 ∧ ∀ i j, i < w → j < h → (j / 8 * ta + i / 8 = kk → u.1 (j * w + i) = nI (td_px g bgN i j mt).1 ∧ u.2.1 (j * w + i) = nI (td_px g bgN i j mt).2) ∧ (¬ j / 8 * ta + i / 8 = kk → u.1 (j * w + i) = fc (j * w + i) ∧ u.2.1 (j * w + i) = fn (j * w + i)))) (td_B (dC, dI) vwCl (td_T cI cJ cZ) (va_A [(qU, .inr (2, [.int (nI w), .int (nI h), .int (nI ta), .ref cC, .ref cN, .ref cD, .ref qT, .ref qH, .int bg, .int bn, .int dt, .int lf, .int tp, .int rt, .int bm])), (cC, .inl (cI, wh, .inl fc)), (cN, .inl (cI, wh, .inl fn)), (cD, .inl (cZ, nd, .inl fD)), (qT, .inr (1, [.ref pCT, .ref pTT, .ref pVT, .int (nI mt)])), (pCT, .inl (cJ, 1536, .inr (.inl fCT))), (pTT, .inl (cI, 512, .inl fTT)), (pVT, .inl (cI, 512, .inl fVT)), (qH, .inr (0, [.ref aX, .ref aY, .ref aR, .ref aL, .ref aW])), (aX, .inl (cJ, 3, .inr (.inl vX))), (aY, .inl (cJ, 3, .inr (.inl vY))), (aR, .inl (cJ, 3, .inr (.inl vR))), (aL, .inl (cJ, 3, .inr (.inl vL))), (aW, .inl (cJ, 3, .inr (.inl vW)))] sz) (fun (u : (Nat → Int32) × (Nat → Int32) × (Nat → Int32) × Int32 × Int32 × Int32 × Int32 × Int32 × (Nat → Int64) × (Nat → Int64) × (Nat → Int64) × (Nat → Int64) × (Nat → Int64)) => [(qU, .inr (2, [.int (nI w), .int (nI h), .int (nI ta), .ref cC, .ref cN, .ref cD, .ref qT, .ref qH, .int bg, .int bn, .int u.2.2.2.1, .int u.2.2.2.2.1, .int u.2.2.2.2.2.1, .int u.2.2.2.2.2.2.1, .int u.2.2.2.2.2.2.2.1])), (cC, .inl (cI, wh, .inl u.1)), (cN, .inl (cI, wh, .inl u.2.1)), (cD, .inl (cZ, nd, .inl u.2.2.1)), (qT, .inr (1, [.ref pCT, .ref pTT, .ref pVT, .int (nI mt)])), (pCT, .inl (cJ, 1536, .inr (.inl fCT))), (pTT, .inl (cI, 512, .inl fTT)), (pVT, .inl (cI, 512, .inl fVT)), (qH, .inr (0, [.ref aX, .ref aY, .ref aR, .ref aL, .ref aW])), (aX, .inl (cJ, 3, .inr (.inl u.2.2.2.2.2.2.2.2.1))), (aY, .inl (cJ, 3, .inr (.inl u.2.2.2.2.2.2.2.2.2.1))), (aR, .inl (cJ, 3, .inr (.inl u.2.2.2.2.2.2.2.2.2.2.1))), (aL, .inl (cJ, 3, .inr (.inl u.2.2.2.2.2.2.2.2.2.2.2.1))), (aW, .inl (cJ, 3, .inr (.inl u.2.2.2.2.2.2.2.2.2.2.2.2)))])) (va_A [(qU, .inr (2, [.int (nI w), .int (nI h), .int (nI ta), .ref cC, .ref cN, .ref cD, .ref qT, .ref qH, .int bg, .int bn, .int dt, .int lf, .int tp, .int rt, .int bm])), (cC, .inl (cI, wh, .inl fc)), (cN, .inl (cI, wh, .inl fn)), (cD, .inl (cZ, nd, .inl fD)), (qT, .inr (1, [.ref pCT, .ref pTT, .ref pVT, .int (nI mt)])), (pCT, .inl (cJ, 1536, .inr (.inl fCT))), (pTT, .inl (cI, 512, .inl fTT)), (pVT, .inl (cI, 512, .inl fVT)), (qH, .inr (0, [.ref aX, .ref aY, .ref aR, .ref aL, .ref aW])), (aX, .inl (cJ, 3, .inr (.inl vX))), (aY, .inl (cJ, 3, .inr (.inl vY))), (aR, .inl (cJ, 3, .inr (.inl vR))), (aL, .inl (cJ, 3, .inr (.inl vL))), (aW, .inl (cJ, 3, .inr (.inl vW)))] sz)) 0 0 (va_A [(qU, .inr (2, [.int (nI w), .int (nI h), .int (nI ta), .ref cC, .ref cN, .ref cD, .ref qT, .ref qH, .int bg, .int bn, .int dt, .int lf, .int tp, .int rt, .int bm])), (cC, .inl (cI, wh, .inl fc)), (cN, .inl (cI, wh, .inl fn)), (cD, .inl (cZ, nd, .inl fD)), (qT, .inr (1, [.ref pCT, .ref pTT, .ref pVT, .int (nI mt)])), (pCT, .inl (cJ, 1536, .inr (.inl fCT))), (pTT, .inl (cI, 512, .inl fTT)), (pVT, .inl (cI, 512, .inl fVT)), (qH, .inr (0, [.ref aX, .ref aY, .ref aR, .ref aL, .ref aW])), (aX, .inl (cJ, 3, .inr (.inl vX))), (aY, .inl (cJ, 3, .inr (.inl vY))), (aR, .inl (cJ, 3, .inr (.inl vR))), (aL, .inl (cJ, 3, .inr (.inl vL))), (aW, .inl (cJ, 3, .inr (.inl vW)))] sz) := by
  refine Met.ofW (cc := cX2_drawTile) (maxL := 3) (ret := (some .boolean)) (by decide) rfl ?_
  intro p e s m args below meth c s₁ B hml hv
  obtain ⟨rfl, hsz, hP, hK, hZ, hD0⟩ := hv
  have hx := B.exec
  have hb := B.bytes
  have hr := B.returns
  have hts := atoms_spec (ws := wsX2_drawTile) B.pre
  have hown : s.vm.findClass RX2 = some m.cls := findClass_of_methodNamed B.named
  have hlocks := B.notSynchronized
  subst hsz
  have hD := hD0.self (sz := s.heap.size)
  generalize hAe : va_A [(qU, .inr (2, [.int (nI w), .int (nI h), .int (nI ta), .ref cC, .ref cN, .ref cD, .ref qT, .ref qH, .int bg, .int bn, .int dt, .int lf, .int tp, .int rt, .int bm])), (cC, .inl (cI, wh, .inl fc)), (cN, .inl (cI, wh, .inl fn)), (cD, .inl (cZ, nd, .inl fD)), (qT, .inr (1, [.ref pCT, .ref pTT, .ref pVT, .int (nI mt)])), (pCT, .inl (cJ, 1536, .inr (.inl fCT))), (pTT, .inl (cI, 512, .inl fTT)), (pVT, .inl (cI, 512, .inl fVT)), (qH, .inr (0, [.ref aX, .ref aY, .ref aR, .ref aL, .ref aW])), (aX, .inl (cJ, 3, .inr (.inl vX))), (aY, .inl (cJ, 3, .inr (.inl vY))), (aR, .inl (cJ, 3, .inr (.inl vR))), (aL, .inl (cJ, 3, .inr (.inl vL))), (aW, .inl (cJ, 3, .inr (.inl vW)))] s.heap.size = A at hD ⊢
  have hA : ∀ q : Nat, s.heap.size ≤ q → A q := fun q h => by rw [← hAe]; exact Or.inr h
  have hS : va_S A s.heap s.heap [] := va_S.rf
  have hP : va_P (dC, dI) vwCl [(qU, .inr (2, [.int (nI w), .int (nI h), .int (nI ta), .ref cC, .ref cN, .ref cD, .ref qT, .ref qH, .int bg, .int bn, .int dt, .int lf, .int tp, .int rt, .int bm])), (cC, .inl (cI, wh, .inl fc)), (cN, .inl (cI, wh, .inl fn)), (cD, .inl (cZ, nd, .inl fD)), (qT, .inr (1, [.ref pCT, .ref pTT, .ref pVT, .int (nI mt)])), (pCT, .inl (cJ, 1536, .inr (.inl fCT))), (pTT, .inl (cI, 512, .inl fTT)), (pVT, .inl (cI, 512, .inl fVT)), (qH, .inr (0, [.ref aX, .ref aY, .ref aR, .ref aL, .ref aW])), (aX, .inl (cJ, 3, .inr (.inl vX))), (aY, .inl (cJ, 3, .inr (.inl vY))), (aR, .inl (cJ, 3, .inr (.inl vR))), (aL, .inl (cJ, 3, .inr (.inl vL))), (aW, .inl (cJ, 3, .inr (.inl vW)))] s.heap := hP
  have hl := lv_entry ([.ref qU, .int k]) (n := 3) (Nat.le_of_ble_eq_true rfl)
  rw [lg_entry_eq]
  generalize (lg_sl ([.ref qU, .int k]) ++ List.replicate (3 - (lg_sl ([.ref qU, .int k])).length) Slot.unset).toArray = ls at hl ⊢
  have hl : lv_has ls 3 [(0, .ref qU), (1, .int k)] := hl
  have hw48 := td_wh hw2 hh2
  have hnd6 : nd ≤ 36 := by rw [hnd]; exact td_tt (by omega) (by omega)
  have hta6 : 0 < ta ∧ ta ≤ 6 := by omega
  refine lv_aload_n hx hb dX2_drawTile_0 rfl (lv_at hl 0 rfl) ?_
  refine va_get (D := (dC, dI)) (ci := 2) (v := .int bn) (C := RX2) (T := TX2) (N := 15) hx hb hts td_fX2 hown hK hP 0 rfl rfl 9 (by decide) (hts (.fieldLink RX2 29 "TileDesk$Picture" "begun" "Z") (td_i3 (List.mem_of_getElem? (i := 13) rfl))) (fun _ h9 => h9) rfl dX2_drawTile_1 ?_
  refine lv_if_eq (tgt := 29) hx hb dX2_drawTile_4 (by decide) (fun c4 => ?_) (fun c4 => ?_)
  · refine lv_iconst (v := 0) hx hb dX2_drawTile_29 (by decide) ?_
    have hP9 := hP.sub (ws' := [(qU, .inr (2, [.int (nI w), .int (nI h), .int (nI ta), .ref cC, .ref cN, .ref cD, .ref qT, .ref qH, .int bg, .int bn, .int dt, .int lf, .int tp, .int rt, .int bm])), (cC, .inl (cI, wh, .inl fc)), (cN, .inl (cI, wh, .inl fn)), (cD, .inl (cZ, nd, .inl fD)), (qT, .inr (1, [.ref pCT, .ref pTT, .ref pVT, .int (nI mt)])), (pCT, .inl (cJ, 1536, .inr (.inl fCT))), (pTT, .inl (cI, 512, .inl fTT)), (pVT, .inl (cI, 512, .inl fVT)), (qH, .inr (0, [.ref aX, .ref aY, .ref aR, .ref aL, .ref aW])), (aX, .inl (cJ, 3, .inr (.inl vX))), (aY, .inl (cJ, 3, .inr (.inl vY))), (aR, .inl (cJ, 3, .inr (.inl vR))), (aL, .inl (cJ, 3, .inr (.inl vL))), (aW, .inl (cJ, 3, .inr (.inl vW)))]) [0, 1, 2, 3, 4, 5, 6, 7, 8, 9, 10, 11, 12, 13] rfl
    have hD9 := hD.sub (ws' := [(qU, .inr (2, [.int (nI w), .int (nI h), .int (nI ta), .ref cC, .ref cN, .ref cD, .ref qT, .ref qH, .int bg, .int bn, .int dt, .int lf, .int tp, .int rt, .int bm])), (cC, .inl (cI, wh, .inl fc)), (cN, .inl (cI, wh, .inl fn)), (cD, .inl (cZ, nd, .inl fD)), (qT, .inr (1, [.ref pCT, .ref pTT, .ref pVT, .int (nI mt)])), (pCT, .inl (cJ, 1536, .inr (.inl fCT))), (pTT, .inl (cI, 512, .inl fTT)), (pVT, .inl (cI, 512, .inl fVT)), (qH, .inr (0, [.ref aX, .ref aY, .ref aR, .ref aL, .ref aW])), (aX, .inl (cJ, 3, .inr (.inl vX))), (aY, .inl (cJ, 3, .inr (.inl vY))), (aR, .inl (cJ, 3, .inr (.inl vR))), (aL, .inl (cJ, 3, .inr (.inl vL))), (aW, .inl (cJ, 3, .inr (.inl vW)))]) [0, 1, 2, 3, 4, 5, 6, 7, 8, 9, 10, 11, 12, 13] (by decide) rfl
    exact td_rwi (fc, fn, fD, dt, lf, tp, rt, bm, vX, vY, vR, vL, vW) hx hb hr rfl hlocks hK (Or.inl ⟨rfl, ⟨rfl, rfl, rfl, rfl⟩, Or.inl c4⟩) hP9 hD9 hS dX2_drawTile_30
  · refine lv_iload_n hx hb dX2_drawTile_7 rfl (lv_at hl 1 rfl) ?_
    refine lv_if_lt (tgt := 29) hx hb dX2_drawTile_8 (by decide) (fun c8 => ?_) (fun c8 => ?_)
    · refine lv_iconst (v := 0) hx hb dX2_drawTile_29 (by decide) ?_
      have hP9 := hP.sub (ws' := [(qU, .inr (2, [.int (nI w), .int (nI h), .int (nI ta), .ref cC, .ref cN, .ref cD, .ref qT, .ref qH, .int bg, .int bn, .int dt, .int lf, .int tp, .int rt, .int bm])), (cC, .inl (cI, wh, .inl fc)), (cN, .inl (cI, wh, .inl fn)), (cD, .inl (cZ, nd, .inl fD)), (qT, .inr (1, [.ref pCT, .ref pTT, .ref pVT, .int (nI mt)])), (pCT, .inl (cJ, 1536, .inr (.inl fCT))), (pTT, .inl (cI, 512, .inl fTT)), (pVT, .inl (cI, 512, .inl fVT)), (qH, .inr (0, [.ref aX, .ref aY, .ref aR, .ref aL, .ref aW])), (aX, .inl (cJ, 3, .inr (.inl vX))), (aY, .inl (cJ, 3, .inr (.inl vY))), (aR, .inl (cJ, 3, .inr (.inl vR))), (aL, .inl (cJ, 3, .inr (.inl vL))), (aW, .inl (cJ, 3, .inr (.inl vW)))]) [0, 1, 2, 3, 4, 5, 6, 7, 8, 9, 10, 11, 12, 13] rfl
      have hD9 := hD.sub (ws' := [(qU, .inr (2, [.int (nI w), .int (nI h), .int (nI ta), .ref cC, .ref cN, .ref cD, .ref qT, .ref qH, .int bg, .int bn, .int dt, .int lf, .int tp, .int rt, .int bm])), (cC, .inl (cI, wh, .inl fc)), (cN, .inl (cI, wh, .inl fn)), (cD, .inl (cZ, nd, .inl fD)), (qT, .inr (1, [.ref pCT, .ref pTT, .ref pVT, .int (nI mt)])), (pCT, .inl (cJ, 1536, .inr (.inl fCT))), (pTT, .inl (cI, 512, .inl fTT)), (pVT, .inl (cI, 512, .inl fVT)), (qH, .inr (0, [.ref aX, .ref aY, .ref aR, .ref aL, .ref aW])), (aX, .inl (cJ, 3, .inr (.inl vX))), (aY, .inl (cJ, 3, .inr (.inl vY))), (aR, .inl (cJ, 3, .inr (.inl vR))), (aL, .inl (cJ, 3, .inr (.inl vL))), (aW, .inl (cJ, 3, .inr (.inl vW)))]) [0, 1, 2, 3, 4, 5, 6, 7, 8, 9, 10, 11, 12, 13] (by decide) rfl
      exact td_rwi (fc, fn, fD, dt, lf, tp, rt, bm, vX, vY, vR, vL, vW) hx hb hr rfl hlocks hK (Or.inl ⟨rfl, ⟨rfl, rfl, rfl, rfl⟩, Or.inr (Or.inl c8)⟩) hP9 hD9 hS dX2_drawTile_30
    · refine lv_iload_n hx hb dX2_drawTile_11 rfl (lv_at hl 1 rfl) ?_
      refine lv_aload_n hx hb dX2_drawTile_12 rfl (lv_at hl 0 rfl) ?_
      refine va_get (D := (dC, dI)) (ci := 2) (v := .ref cD) (C := RX2) (T := TX2) (N := 15) hx hb hts td_fX2 hown hK hP 0 rfl rfl 5 (by decide) (hts (.fieldLink RX2 64 "TileDesk$Picture" "done" "[Z") (td_i3 (List.mem_of_getElem? (i := 9) rfl))) (fun _ h9 => h9) rfl dX2_drawTile_13 ?_
      refine va_alen (v := nI nd) hx hb hK hP 3 2 rfl rfl rfl dX2_drawTile_16 ?_
      refine lv_icmp_ge (tgt := 29) hx hb dX2_drawTile_17 (by decide) (fun c17 => ?_) (fun c17 => ?_)
      · refine lv_iconst (v := 0) hx hb dX2_drawTile_29 (by decide) ?_
        have hP9 := hP.sub (ws' := [(qU, .inr (2, [.int (nI w), .int (nI h), .int (nI ta), .ref cC, .ref cN, .ref cD, .ref qT, .ref qH, .int bg, .int bn, .int dt, .int lf, .int tp, .int rt, .int bm])), (cC, .inl (cI, wh, .inl fc)), (cN, .inl (cI, wh, .inl fn)), (cD, .inl (cZ, nd, .inl fD)), (qT, .inr (1, [.ref pCT, .ref pTT, .ref pVT, .int (nI mt)])), (pCT, .inl (cJ, 1536, .inr (.inl fCT))), (pTT, .inl (cI, 512, .inl fTT)), (pVT, .inl (cI, 512, .inl fVT)), (qH, .inr (0, [.ref aX, .ref aY, .ref aR, .ref aL, .ref aW])), (aX, .inl (cJ, 3, .inr (.inl vX))), (aY, .inl (cJ, 3, .inr (.inl vY))), (aR, .inl (cJ, 3, .inr (.inl vR))), (aL, .inl (cJ, 3, .inr (.inl vL))), (aW, .inl (cJ, 3, .inr (.inl vW)))]) [0, 1, 2, 3, 4, 5, 6, 7, 8, 9, 10, 11, 12, 13] rfl
        have hD9 := hD.sub (ws' := [(qU, .inr (2, [.int (nI w), .int (nI h), .int (nI ta), .ref cC, .ref cN, .ref cD, .ref qT, .ref qH, .int bg, .int bn, .int dt, .int lf, .int tp, .int rt, .int bm])), (cC, .inl (cI, wh, .inl fc)), (cN, .inl (cI, wh, .inl fn)), (cD, .inl (cZ, nd, .inl fD)), (qT, .inr (1, [.ref pCT, .ref pTT, .ref pVT, .int (nI mt)])), (pCT, .inl (cJ, 1536, .inr (.inl fCT))), (pTT, .inl (cI, 512, .inl fTT)), (pVT, .inl (cI, 512, .inl fVT)), (qH, .inr (0, [.ref aX, .ref aY, .ref aR, .ref aL, .ref aW])), (aX, .inl (cJ, 3, .inr (.inl vX))), (aY, .inl (cJ, 3, .inr (.inl vY))), (aR, .inl (cJ, 3, .inr (.inl vR))), (aL, .inl (cJ, 3, .inr (.inl vL))), (aW, .inl (cJ, 3, .inr (.inl vW)))]) [0, 1, 2, 3, 4, 5, 6, 7, 8, 9, 10, 11, 12, 13] (by decide) rfl
        exact td_rwi (fc, fn, fD, dt, lf, tp, rt, bm, vX, vY, vR, vL, vW) hx hb hr rfl hlocks hK (Or.inl ⟨rfl, ⟨rfl, rfl, rfl, rfl⟩, Or.inr (Or.inr (Or.inl c17))⟩) hP9 hD9 hS dX2_drawTile_30
      · obtain ⟨kk, hkk, ekk⟩ := td_idx c8 c17 (by omega)
        refine lv_aload_n hx hb dX2_drawTile_20 rfl (lv_at hl 0 rfl) ?_
        refine va_get (D := (dC, dI)) (ci := 2) (v := .ref cD) (C := RX2) (T := TX2) (N := 15) hx hb hts td_fX2 hown hK hP 0 rfl rfl 5 (by decide) (hts (.fieldLink RX2 64 "TileDesk$Picture" "done" "[Z") (td_i3 (List.mem_of_getElem? (i := 9) rfl))) (fun _ h9 => h9) rfl dX2_drawTile_21 ?_
        refine lv_iload_n hx hb dX2_drawTile_24 rfl (lv_at hl 1 rfl) ?_
        refine td_zald hx hb hK hP 3 2 kk rfl rfl ekk hkk (by omega) dX2_drawTile_25 ?_
        refine lv_if_eq (tgt := 31) hx hb dX2_drawTile_26 (by decide) (fun c26 => ?_) (fun c26 => ?_)
        · refine lv_aload_n hx hb dX2_drawTile_31 rfl (lv_at hl 0 rfl) ?_
          refine lv_iload_n hx hb dX2_drawTile_32 rfl (lv_at hl 1 rfl) ?_
          refine td_ti (nI kk) (ekk) ?_
          refine td_cwv (wr := [(cC, .inl (cI, wh, .inl fc)), (cN, .inl (cI, wh, .inl fn)), (cD, .inl (cZ, nd, .inl fD)), (qT, .inr (1, [.ref pCT, .ref pTT, .ref pVT, .int (nI mt)])), (pCT, .inl (cJ, 1536, .inr (.inl fCT))), (pTT, .inl (cI, 512, .inl fTT)), (pVT, .inl (cI, 512, .inl fVT)), (qH, .inr (0, [.ref aX, .ref aY, .ref aR, .ref aL, .ref aW])), (aX, .inl (cJ, 3, .inr (.inl vX))), (aY, .inl (cJ, 3, .inr (.inl vY))), (aR, .inl (cJ, 3, .inr (.inl vR))), (aL, .inl (cJ, 3, .inr (.inl vL))), (aW, .inl (cJ, 3, .inr (.inl vW)))]) (va_runV (As := [.int (nI kk)]) (rest := []) ⟨hx, hb, hml, hown, hts⟩ (td_frameTile l dC dI cI cJ cZ s.heap.size qU cC cN cD qT qH w h ta bg bn dt lf tp rt bm kk hta6.1 hta6.2 (by omega) (by omega) (by omega) (by omega) (by omega)) (cwV 1 hts (td_gV (td_i6 (List.mem_of_getElem? (i := 23) rfl)) (td_i7 (List.mem_of_getElem? (i := 0) rfl)) (td_i15 (List.mem_of_getElem? (i := 10) rfl)) (td_i1 (List.mem_of_getElem? (i := 4) rfl)) (td_i7 (List.mem_of_getElem? (i := 1) rfl))) rfl rfl rfl (by decide +kernel) ⟨(Nat.le_of_ble_eq_true rfl), (Nat.le_of_ble_eq_true rfl)⟩) (td_pWV hK hZ hP hD [0] (by decide) rfl (va_recv hK hP (ci := 2) (q0 := 0) rfl rfl)) rfl rfl hl.1 rfl (lv_room (Nat.le_of_ble_eq_true rfl)) dX2_drawTile_33 ⟨Nat.zero_le _, Nat.zero_le _⟩) hP hD hS hA [0] [1, 2, 3, 4, 5, 6, 7, 8, 9, 10, 11, 12, 13] rfl rfl (by decide) (by decide) (fun u H locs w33_1 hP hD hS => ?_)
          try dsimp only at w33_1
          have hP : va_P (dC, dI) vwCl [(cC, .inl (cI, wh, .inl fc)), (cN, .inl (cI, wh, .inl fn)), (cD, .inl (cZ, nd, .inl fD)), (qT, .inr (1, [.ref pCT, .ref pTT, .ref pVT, .int (nI mt)])), (pCT, .inl (cJ, 1536, .inr (.inl fCT))), (pTT, .inl (cI, 512, .inl fTT)), (pVT, .inl (cI, 512, .inl fVT)), (qH, .inr (0, [.ref aX, .ref aY, .ref aR, .ref aL, .ref aW])), (aX, .inl (cJ, 3, .inr (.inl vX))), (aY, .inl (cJ, 3, .inr (.inl vY))), (aR, .inl (cJ, 3, .inr (.inl vR))), (aL, .inl (cJ, 3, .inr (.inl vL))), (aW, .inl (cJ, 3, .inr (.inl vW))), (qU, .inr (2, [.int (nI w), .int (nI h), .int (nI ta), .ref cC, .ref cN, .ref cD, .ref qT, .ref qH, .int bg, .int bn, .int dt, .int (nI (kk % ta * 8)), .int (nI (kk / ta * 8)), .int (nI (if kk % ta * 8 + 8 < w then kk % ta * 8 + 8 else w)), .int (nI (if kk / ta * 8 + 8 < h then kk / ta * 8 + 8 else h))]))] H := hP
          have hD : va_D A [(cC, .inl (cI, wh, .inl fc)), (cN, .inl (cI, wh, .inl fn)), (cD, .inl (cZ, nd, .inl fD)), (qT, .inr (1, [.ref pCT, .ref pTT, .ref pVT, .int (nI mt)])), (pCT, .inl (cJ, 1536, .inr (.inl fCT))), (pTT, .inl (cI, 512, .inl fTT)), (pVT, .inl (cI, 512, .inl fVT)), (qH, .inr (0, [.ref aX, .ref aY, .ref aR, .ref aL, .ref aW])), (aX, .inl (cJ, 3, .inr (.inl vX))), (aY, .inl (cJ, 3, .inr (.inl vY))), (aR, .inl (cJ, 3, .inr (.inl vR))), (aL, .inl (cJ, 3, .inr (.inl vL))), (aW, .inl (cJ, 3, .inr (.inl vW))), (qU, .inr (2, [.int (nI w), .int (nI h), .int (nI ta), .ref cC, .ref cN, .ref cD, .ref qT, .ref qH, .int bg, .int bn, .int dt, .int (nI (kk % ta * 8)), .int (nI (kk / ta * 8)), .int (nI (if kk % ta * 8 + 8 < w then kk % ta * 8 + 8 else w)), .int (nI (if kk / ta * 8 + 8 < h then kk / ta * 8 + 8 else h))]))] := hD
          obtain ⟨lf1, elf⟩ : ∃ z : Nat, z = kk % ta * 8 := ⟨_, rfl⟩
          obtain ⟨tp1, etp⟩ : ∃ z : Nat, z = kk / ta * 8 := ⟨_, rfl⟩
          obtain ⟨rt1, ert⟩ : ∃ z : Nat, z = (if kk % ta * 8 + 8 < w then kk % ta * 8 + 8 else w) := ⟨_, rfl⟩
          obtain ⟨bm1, ebm⟩ : ∃ z : Nat, z = (if kk / ta * 8 + 8 < h then kk / ta * 8 + 8 else h) := ⟨_, rfl⟩
          rw [← ert, ← ebm, ← elf, ← etp] at hP hD
          have hP : va_P (dC, dI) vwCl [(cC, .inl (cI, wh, .inl fc)), (cN, .inl (cI, wh, .inl fn)), (cD, .inl (cZ, nd, .inl fD)), (qT, .inr (1, [.ref pCT, .ref pTT, .ref pVT, .int (nI mt)])), (pCT, .inl (cJ, 1536, .inr (.inl fCT))), (pTT, .inl (cI, 512, .inl fTT)), (pVT, .inl (cI, 512, .inl fVT)), (qH, .inr (0, [.ref aX, .ref aY, .ref aR, .ref aL, .ref aW])), (aX, .inl (cJ, 3, .inr (.inl vX))), (aY, .inl (cJ, 3, .inr (.inl vY))), (aR, .inl (cJ, 3, .inr (.inl vR))), (aL, .inl (cJ, 3, .inr (.inl vL))), (aW, .inl (cJ, 3, .inr (.inl vW))), (qU, .inr (2, [.int (nI w), .int (nI h), .int (nI ta), .ref cC, .ref cN, .ref cD, .ref qT, .ref qH, .int bg, .int bn, .int dt, .int (nI lf1), .int (nI tp1), .int (nI rt1), .int (nI bm1)]))] H := hP
          have hD : va_D A [(cC, .inl (cI, wh, .inl fc)), (cN, .inl (cI, wh, .inl fn)), (cD, .inl (cZ, nd, .inl fD)), (qT, .inr (1, [.ref pCT, .ref pTT, .ref pVT, .int (nI mt)])), (pCT, .inl (cJ, 1536, .inr (.inl fCT))), (pTT, .inl (cI, 512, .inl fTT)), (pVT, .inl (cI, 512, .inl fVT)), (qH, .inr (0, [.ref aX, .ref aY, .ref aR, .ref aL, .ref aW])), (aX, .inl (cJ, 3, .inr (.inl vX))), (aY, .inl (cJ, 3, .inr (.inl vY))), (aR, .inl (cJ, 3, .inr (.inl vR))), (aL, .inl (cJ, 3, .inr (.inl vL))), (aW, .inl (cJ, 3, .inr (.inl vW))), (qU, .inr (2, [.int (nI w), .int (nI h), .int (nI ta), .ref cC, .ref cN, .ref cD, .ref qT, .ref qH, .int bg, .int bn, .int dt, .int (nI lf1), .int (nI tp1), .int (nI rt1), .int (nI bm1)]))] := hD
          obtain ⟨tl1, tl2, tl3, tl4, tl5⟩ := td_tl1 hw1 hh1 hta rfl (by rw [← hnd]; exact hkk) elf etp ert ebm
          refine lv_aload_n hx hb dX2_drawTile_36 rfl (lv_at hl 0 rfl) ?_
          refine td_cwv (wr := [(cD, .inl (cZ, nd, .inl fD)), (qT, .inr (1, [.ref pCT, .ref pTT, .ref pVT, .int (nI mt)])), (pCT, .inl (cJ, 1536, .inr (.inl fCT))), (pTT, .inl (cI, 512, .inl fTT)), (pVT, .inl (cI, 512, .inl fVT)), (qH, .inr (0, [.ref aX, .ref aY, .ref aR, .ref aL, .ref aW])), (aX, .inl (cJ, 3, .inr (.inl vX))), (aY, .inl (cJ, 3, .inr (.inl vY))), (aR, .inl (cJ, 3, .inr (.inl vR))), (aL, .inl (cJ, 3, .inr (.inl vL))), (aW, .inl (cJ, 3, .inr (.inl vW)))]) (va_runV (As := []) (rest := []) ⟨hx, hb, hml, hown, hts⟩ (td_fill l dC dI cI cJ cZ H.size qU cC cN cD qT qH w h ta bg bn dt lf1 tp1 rt1 bm1 wh fc fn (by omega) (by omega) (by omega) (by omega) tl1 tl2 tl3 tl4 hwh) (cwV 0 hts (td_gV (td_i7 (List.mem_of_getElem? (i := 8) rfl)) (td_i7 (List.mem_of_getElem? (i := 9) rfl)) (td_i15 (List.mem_of_getElem? (i := 11) rfl)) (td_i1 (List.mem_of_getElem? (i := 4) rfl)) (td_i7 (List.mem_of_getElem? (i := 10) rfl))) rfl rfl rfl (by decide +kernel) ⟨(Nat.le_of_ble_eq_true rfl), (Nat.le_of_ble_eq_true rfl)⟩) (td_pWV hK hZ hP hD [13, 0, 1] (by decide) rfl (va_recv hK hP (ci := 2) (q0 := 13) rfl rfl)) rfl rfl hl.1 rfl (lv_room (Nat.le_of_ble_eq_true rfl)) dX2_drawTile_37 ⟨Nat.zero_le _, Nat.zero_le _⟩) hP hD hS hA [13, 0, 1] [2, 3, 4, 5, 6, 7, 8, 9, 10, 11, 12] rfl rfl (by decide) (by decide) (fun u H locs hfl hP hD hS => ?_)
          obtain ⟨gc0, gn0⟩ := u
          try dsimp only at hfl
          have hP : va_P (dC, dI) vwCl [(cD, .inl (cZ, nd, .inl fD)), (qT, .inr (1, [.ref pCT, .ref pTT, .ref pVT, .int (nI mt)])), (pCT, .inl (cJ, 1536, .inr (.inl fCT))), (pTT, .inl (cI, 512, .inl fTT)), (pVT, .inl (cI, 512, .inl fVT)), (qH, .inr (0, [.ref aX, .ref aY, .ref aR, .ref aL, .ref aW])), (aX, .inl (cJ, 3, .inr (.inl vX))), (aY, .inl (cJ, 3, .inr (.inl vY))), (aR, .inl (cJ, 3, .inr (.inl vR))), (aL, .inl (cJ, 3, .inr (.inl vL))), (aW, .inl (cJ, 3, .inr (.inl vW))), (qU, .inr (2, [.int (nI w), .int (nI h), .int (nI ta), .ref cC, .ref cN, .ref cD, .ref qT, .ref qH, .int bg, .int bn, .int dt, .int (nI lf1), .int (nI tp1), .int (nI rt1), .int (nI bm1)])), (cC, .inl (cI, wh, .inl gc0)), (cN, .inl (cI, wh, .inl gn0))] H := hP
          have hD : va_D A [(cD, .inl (cZ, nd, .inl fD)), (qT, .inr (1, [.ref pCT, .ref pTT, .ref pVT, .int (nI mt)])), (pCT, .inl (cJ, 1536, .inr (.inl fCT))), (pTT, .inl (cI, 512, .inl fTT)), (pVT, .inl (cI, 512, .inl fVT)), (qH, .inr (0, [.ref aX, .ref aY, .ref aR, .ref aL, .ref aW])), (aX, .inl (cJ, 3, .inr (.inl vX))), (aY, .inl (cJ, 3, .inr (.inl vY))), (aR, .inl (cJ, 3, .inr (.inl vR))), (aL, .inl (cJ, 3, .inr (.inl vL))), (aW, .inl (cJ, 3, .inr (.inl vW))), (qU, .inr (2, [.int (nI w), .int (nI h), .int (nI ta), .ref cC, .ref cN, .ref cD, .ref qT, .ref qH, .int bg, .int bn, .int dt, .int (nI lf1), .int (nI tp1), .int (nI rt1), .int (nI bm1)])), (cC, .inl (cI, wh, .inl gc0)), (cN, .inl (cI, wh, .inl gn0))] := hD
          refine lv_iconst (v := 0) hx hb dX2_drawTile_40 (by decide) ?_
          refine lv_istore_n (lv' := [(2, .int 0), (0, .ref qU), (1, .int k)]) hx hb dX2_drawTile_41 rfl hl (by decide) rfl (fun ls hl => ?_)
          have lp42 : ∀ (n42 : Nat) (t : Nat) (gc : Nat → Int32) (gn : Nat → Int32) (uX : Nat → Int64) (uY : Nat → Int64) (uR : Nat → Int64) (uL : Nat → Int64) (uW : Nat → Int64), (t ≤ mt) → (td_gI w h lf1 tp1 rt1 bm1 (fun i j => td_px g bgN i j (t)) fc fn gc gn) → mt - t < n42 → ∀ (H : Heap) (locs : List Loc), va_P (dC, dI) vwCl [(qU, .inr (2, [.int (nI w), .int (nI h), .int (nI ta), .ref cC, .ref cN, .ref cD, .ref qT, .ref qH, .int bg, .int bn, .int dt, .int (nI lf1), .int (nI tp1), .int (nI rt1), .int (nI bm1)])), (cC, .inl (cI, wh, .inl gc)), (cN, .inl (cI, wh, .inl gn)), (cD, .inl (cZ, nd, .inl fD)), (qT, .inr (1, [.ref pCT, .ref pTT, .ref pVT, .int (nI mt)])), (pCT, .inl (cJ, 1536, .inr (.inl fCT))), (pTT, .inl (cI, 512, .inl fTT)), (pVT, .inl (cI, 512, .inl fVT)), (qH, .inr (0, [.ref aX, .ref aY, .ref aR, .ref aL, .ref aW])), (aX, .inl (cJ, 3, .inr (.inl uX))), (aY, .inl (cJ, 3, .inr (.inl uY))), (aR, .inl (cJ, 3, .inr (.inl uR))), (aL, .inl (cJ, 3, .inr (.inl uL))), (aW, .inl (cJ, 3, .inr (.inl uW)))] H → va_D A [(qU, .inr (2, [.int (nI w), .int (nI h), .int (nI ta), .ref cC, .ref cN, .ref cD, .ref qT, .ref qH, .int bg, .int bn, .int dt, .int (nI lf1), .int (nI tp1), .int (nI rt1), .int (nI bm1)])), (cC, .inl (cI, wh, .inl gc)), (cN, .inl (cI, wh, .inl gn)), (cD, .inl (cZ, nd, .inl fD)), (qT, .inr (1, [.ref pCT, .ref pTT, .ref pVT, .int (nI mt)])), (pCT, .inl (cJ, 1536, .inr (.inl fCT))), (pTT, .inl (cI, 512, .inl fTT)), (pVT, .inl (cI, 512, .inl fVT)), (qH, .inr (0, [.ref aX, .ref aY, .ref aR, .ref aL, .ref aW])), (aX, .inl (cJ, 3, .inr (.inl uX))), (aY, .inl (cJ, 3, .inr (.inl uY))), (aR, .inl (cJ, 3, .inr (.inl uR))), (aL, .inl (cJ, 3, .inr (.inl uL))), (aW, .inl (cJ, 3, .inr (.inl uW)))] → va_S A s.heap H locs → ∀ ls : Array Slot, lv_has ls 3 [(0, .ref qU), (1, .int k), (2, .int (nI t))] → W p l e (headSpec wsX2_drawTile ({ frames := 5, cells := 0, slots := 0, locals := 130 })).room s m (([.ref qU, .int k] : List Value).toArray) below meth c H locs 0 0 (MQ below (va_Qi (S := (Nat → Int32) × (Nat → Int32) × (Nat → Int32) × Int32 × Int32 × Int32 × Int32 × Int32 × (Nat → Int64) × (Nat → Int64) × (Nat → Int64) × (Nat → Int64) × (Nat → Int64)) (fun r u => (r = 0 ∧ (u.1 = fc ∧ u.2.1 = fn ∧ u.2.2.1 = fD ∧ u.2.2.2.1 = dt) ∧ (bn = 0 ∨ k < 0 ∨ nI nd ≤ k ∨ ∃ kk, kk < nd ∧ k = nI kk ∧ ¬ fD kk = 0)) ∨ (r = 1 ∧ ¬ bn = 0 ∧ ∃ kk, kk < nd ∧ k = nI kk ∧ fD kk = 0 ∧ u.2.2.1 = upd fD kk 1 ∧ u.2.2.2.1 = dt + 1 ∧ ∀ i j, i < w → j < h → (j / 8 * ta + i / 8 = kk → u.1 (j * w + i) = nI (td_px g bgN i j mt).1 ∧ u.2.1 (j * w + i) = nI (td_px g bgN i j mt).2) ∧ (¬ j / 8 * ta + i / 8 = kk → u.1 (j * w + i) = fc (j * w + i) ∧ u.2.1 (j * w + i) = fn (j * w + i)))) (td_B (dC, dI) vwCl (td_T cI cJ cZ) A (fun (u : (Nat → Int32) × (Nat → Int32) × (Nat → Int32) × Int32 × Int32 × Int32 × Int32 × Int32 × (Nat → Int64) × (Nat → Int64) × (Nat → Int64) × (Nat → Int64) × (Nat → Int64)) => [(qU, .inr (2, [.int (nI w), .int (nI h), .int (nI ta), .ref cC, .ref cN, .ref cD, .ref qT, .ref qH, .int bg, .int bn, .int u.2.2.2.1, .int u.2.2.2.2.1, .int u.2.2.2.2.2.1, .int u.2.2.2.2.2.2.1, .int u.2.2.2.2.2.2.2.1])), (cC, .inl (cI, wh, .inl u.1)), (cN, .inl (cI, wh, .inl u.2.1)), (cD, .inl (cZ, nd, .inl u.2.2.1)), (qT, .inr (1, [.ref pCT, .ref pTT, .ref pVT, .int (nI mt)])), (pCT, .inl (cJ, 1536, .inr (.inl fCT))), (pTT, .inl (cI, 512, .inl fTT)), (pVT, .inl (cI, 512, .inl fVT)), (qH, .inr (0, [.ref aX, .ref aY, .ref aR, .ref aL, .ref aW])), (aX, .inl (cJ, 3, .inr (.inl u.2.2.2.2.2.2.2.2.1))), (aY, .inl (cJ, 3, .inr (.inl u.2.2.2.2.2.2.2.2.2.1))), (aR, .inl (cJ, 3, .inr (.inl u.2.2.2.2.2.2.2.2.2.2.1))), (aL, .inl (cJ, 3, .inr (.inl u.2.2.2.2.2.2.2.2.2.2.2.1))), (aW, .inl (cJ, 3, .inr (.inl u.2.2.2.2.2.2.2.2.2.2.2.2)))])) A) (([.ref qU, .int k] : List Value).toArray) s 0 0 A) (F0 m 42 ls []) := by
            intro n42
            induction n42 with
            | zero => intro t gc gn uX uY uR uL uW ht hg hm; exact absurd hm (Nat.not_lt_zero _)
            | succ n42 ih42 =>
              intro t gc gn uX uY uR uL uW ht hg hm42 H locs hP hD hS ls hl
              refine lv_iload_n hx hb dX2_drawTile_42 rfl (lv_at hl 2 rfl) ?_
              refine lv_aload_n hx hb dX2_drawTile_43 rfl (lv_at hl 0 rfl) ?_
              refine va_get (D := (dC, dI)) (ci := 2) (v := .ref qT) (C := RX2) (T := TX2) (N := 15) hx hb hts td_fX2 hown hK hP 0 rfl rfl 6 (by decide) (hts (.fieldLink RX2 12 "TileDesk$Picture" "taken" "LTileDesk$Pieces;") (td_i3 (List.mem_of_getElem? (i := 10) rfl))) (fun _ h9 => h9) rfl dX2_drawTile_44 ?_
              refine va_getN (D := (dC, dI)) (ci := 1) (v := .int (nI mt)) (C := RX1) (T := TX1) (N := 4) hx hb hts td_fX1 hown hK hP 4 rfl rfl 3 (by decide) (va_Nw.use rfl (hZ.2 _ (List.mem_of_getElem? (i := 4) rfl))) (fun _ h9 => h9) rfl dX2_drawTile_47 ?_
              refine lv_icmp_ge (tgt := 64) hx hb dX2_drawTile_50 (by decide) (fun c50 => ?_) (fun c50 => ?_)
              · have htm : t = mt := by have := (nI_leI (a := mt) (b := t) (by omega) (by omega)).mp c50; omega
                refine lv_aload_n hx hb dX2_drawTile_64 rfl (lv_at hl 0 rfl) ?_
                refine va_get (D := (dC, dI)) (ci := 2) (v := .ref cD) (C := RX2) (T := TX2) (N := 15) hx hb hts td_fX2 hown hK hP 0 rfl rfl 5 (by decide) (hts (.fieldLink RX2 64 "TileDesk$Picture" "done" "[Z") (td_i3 (List.mem_of_getElem? (i := 9) rfl))) (fun _ h9 => h9) rfl dX2_drawTile_65 ?_
                refine lv_iload_n hx hb dX2_drawTile_68 rfl (lv_at hl 1 rfl) ?_
                refine lv_iconst (v := 1) hx hb dX2_drawTile_69 (by decide) ?_
                refine td_zast hx hb hK hP hD hS 3 2 kk rfl rfl ekk hkk (by omega) rfl dX2_drawTile_70 (fun H locs hP hD hS => ?_)
                have hP : va_P (dC, dI) vwCl [(qU, .inr (2, [.int (nI w), .int (nI h), .int (nI ta), .ref cC, .ref cN, .ref cD, .ref qT, .ref qH, .int bg, .int bn, .int dt, .int (nI lf1), .int (nI tp1), .int (nI rt1), .int (nI bm1)])), (cC, .inl (cI, wh, .inl gc)), (cN, .inl (cI, wh, .inl gn)), (cD, .inl (cZ, nd, .inl (upd fD kk 1))), (qT, .inr (1, [.ref pCT, .ref pTT, .ref pVT, .int (nI mt)])), (pCT, .inl (cJ, 1536, .inr (.inl fCT))), (pTT, .inl (cI, 512, .inl fTT)), (pVT, .inl (cI, 512, .inl fVT)), (qH, .inr (0, [.ref aX, .ref aY, .ref aR, .ref aL, .ref aW])), (aX, .inl (cJ, 3, .inr (.inl uX))), (aY, .inl (cJ, 3, .inr (.inl uY))), (aR, .inl (cJ, 3, .inr (.inl uR))), (aL, .inl (cJ, 3, .inr (.inl uL))), (aW, .inl (cJ, 3, .inr (.inl uW)))] H := hP
                have hD : va_D A [(qU, .inr (2, [.int (nI w), .int (nI h), .int (nI ta), .ref cC, .ref cN, .ref cD, .ref qT, .ref qH, .int bg, .int bn, .int dt, .int (nI lf1), .int (nI tp1), .int (nI rt1), .int (nI bm1)])), (cC, .inl (cI, wh, .inl gc)), (cN, .inl (cI, wh, .inl gn)), (cD, .inl (cZ, nd, .inl (upd fD kk 1))), (qT, .inr (1, [.ref pCT, .ref pTT, .ref pVT, .int (nI mt)])), (pCT, .inl (cJ, 1536, .inr (.inl fCT))), (pTT, .inl (cI, 512, .inl fTT)), (pVT, .inl (cI, 512, .inl fVT)), (qH, .inr (0, [.ref aX, .ref aY, .ref aR, .ref aL, .ref aW])), (aX, .inl (cJ, 3, .inr (.inl uX))), (aY, .inl (cJ, 3, .inr (.inl uY))), (aR, .inl (cJ, 3, .inr (.inl uR))), (aL, .inl (cJ, 3, .inr (.inl uL))), (aW, .inl (cJ, 3, .inr (.inl uW)))] := hD
                refine lv_aload_n hx hb dX2_drawTile_71 rfl (lv_at hl 0 rfl) ?_
                refine lv_dup hx hb dX2_drawTile_72 rfl ?_
                refine va_get (D := (dC, dI)) (ci := 2) (v := .int dt) (C := RX2) (T := TX2) (N := 15) hx hb hts td_fX2 hown hK hP 0 rfl rfl 10 (by decide) (hts (.fieldLink RX2 33 "TileDesk$Picture" "doneTiles" "I") (td_i3 (List.mem_of_getElem? (i := 14) rfl))) (fun _ h9 => h9) rfl dX2_drawTile_73 ?_
                refine lv_iconst (v := 1) hx hb dX2_drawTile_76 (by decide) ?_
                refine lv_iadd hx hb dX2_drawTile_77 ?_
                refine va_put (D := (dC, dI)) (ci := 2) (v := .int (dt + 1)) (ty := .int) (C := RX2) (T := TX2) (N := 15) hx hb hts td_fX2 tyX2 tyX2_ok nmX2 hown hK hP hD hS 0 rfl rfl 10 (by decide) (hts (.fieldLink RX2 33 "TileDesk$Picture" "doneTiles" "I") (td_i3 (List.mem_of_getElem? (i := 14) rfl))) (fun _ h9 => h9) rfl (by decide +kernel) rfl rfl (Nat.le_of_ble_eq_true rfl) dX2_drawTile_78 (fun H locs hP hD hS => ?_)
                have hP : va_P (dC, dI) vwCl [(qU, .inr (2, [.int (nI w), .int (nI h), .int (nI ta), .ref cC, .ref cN, .ref cD, .ref qT, .ref qH, .int bg, .int bn, .int (dt + 1), .int (nI lf1), .int (nI tp1), .int (nI rt1), .int (nI bm1)])), (cC, .inl (cI, wh, .inl gc)), (cN, .inl (cI, wh, .inl gn)), (cD, .inl (cZ, nd, .inl (upd fD kk 1))), (qT, .inr (1, [.ref pCT, .ref pTT, .ref pVT, .int (nI mt)])), (pCT, .inl (cJ, 1536, .inr (.inl fCT))), (pTT, .inl (cI, 512, .inl fTT)), (pVT, .inl (cI, 512, .inl fVT)), (qH, .inr (0, [.ref aX, .ref aY, .ref aR, .ref aL, .ref aW])), (aX, .inl (cJ, 3, .inr (.inl uX))), (aY, .inl (cJ, 3, .inr (.inl uY))), (aR, .inl (cJ, 3, .inr (.inl uR))), (aL, .inl (cJ, 3, .inr (.inl uL))), (aW, .inl (cJ, 3, .inr (.inl uW)))] H := hP
                have hD : va_D A [(qU, .inr (2, [.int (nI w), .int (nI h), .int (nI ta), .ref cC, .ref cN, .ref cD, .ref qT, .ref qH, .int bg, .int bn, .int (dt + 1), .int (nI lf1), .int (nI tp1), .int (nI rt1), .int (nI bm1)])), (cC, .inl (cI, wh, .inl gc)), (cN, .inl (cI, wh, .inl gn)), (cD, .inl (cZ, nd, .inl (upd fD kk 1))), (qT, .inr (1, [.ref pCT, .ref pTT, .ref pVT, .int (nI mt)])), (pCT, .inl (cJ, 1536, .inr (.inl fCT))), (pTT, .inl (cI, 512, .inl fTT)), (pVT, .inl (cI, 512, .inl fVT)), (qH, .inr (0, [.ref aX, .ref aY, .ref aR, .ref aL, .ref aW])), (aX, .inl (cJ, 3, .inr (.inl uX))), (aY, .inl (cJ, 3, .inr (.inl uY))), (aR, .inl (cJ, 3, .inr (.inl uR))), (aL, .inl (cJ, 3, .inr (.inl uL))), (aW, .inl (cJ, 3, .inr (.inl uW)))] := hD
                refine lv_iconst (v := 1) hx hb dX2_drawTile_81 (by decide) ?_
                have hP9 := hP.sub (ws' := [(qU, .inr (2, [.int (nI w), .int (nI h), .int (nI ta), .ref cC, .ref cN, .ref cD, .ref qT, .ref qH, .int bg, .int bn, .int (dt + 1), .int (nI lf1), .int (nI tp1), .int (nI rt1), .int (nI bm1)])), (cC, .inl (cI, wh, .inl gc)), (cN, .inl (cI, wh, .inl gn)), (cD, .inl (cZ, nd, .inl (upd fD kk 1))), (qT, .inr (1, [.ref pCT, .ref pTT, .ref pVT, .int (nI mt)])), (pCT, .inl (cJ, 1536, .inr (.inl fCT))), (pTT, .inl (cI, 512, .inl fTT)), (pVT, .inl (cI, 512, .inl fVT)), (qH, .inr (0, [.ref aX, .ref aY, .ref aR, .ref aL, .ref aW])), (aX, .inl (cJ, 3, .inr (.inl uX))), (aY, .inl (cJ, 3, .inr (.inl uY))), (aR, .inl (cJ, 3, .inr (.inl uR))), (aL, .inl (cJ, 3, .inr (.inl uL))), (aW, .inl (cJ, 3, .inr (.inl uW)))]) [0, 1, 2, 3, 4, 5, 6, 7, 8, 9, 10, 11, 12, 13] rfl
                have hD9 := hD.sub (ws' := [(qU, .inr (2, [.int (nI w), .int (nI h), .int (nI ta), .ref cC, .ref cN, .ref cD, .ref qT, .ref qH, .int bg, .int bn, .int (dt + 1), .int (nI lf1), .int (nI tp1), .int (nI rt1), .int (nI bm1)])), (cC, .inl (cI, wh, .inl gc)), (cN, .inl (cI, wh, .inl gn)), (cD, .inl (cZ, nd, .inl (upd fD kk 1))), (qT, .inr (1, [.ref pCT, .ref pTT, .ref pVT, .int (nI mt)])), (pCT, .inl (cJ, 1536, .inr (.inl fCT))), (pTT, .inl (cI, 512, .inl fTT)), (pVT, .inl (cI, 512, .inl fVT)), (qH, .inr (0, [.ref aX, .ref aY, .ref aR, .ref aL, .ref aW])), (aX, .inl (cJ, 3, .inr (.inl uX))), (aY, .inl (cJ, 3, .inr (.inl uY))), (aR, .inl (cJ, 3, .inr (.inl uR))), (aL, .inl (cJ, 3, .inr (.inl uL))), (aW, .inl (cJ, 3, .inr (.inl uW)))]) [0, 1, 2, 3, 4, 5, 6, 7, 8, 9, 10, 11, 12, 13] (by decide) rfl
                exact td_rwi (gc, gn, upd fD kk 1, dt + 1, nI lf1, nI tp1, nI rt1, nI bm1, uX, uY, uR, uL, uW) hx hb hr rfl hlocks hK (Or.inr ⟨rfl, c4, kk, hkk, ekk, c26, rfl, rfl, fun i j hi hj => ⟨fun z => by rw [← htm]; exact (hg i j hi hj).1 ((tl5 i j hi hj).mpr z), fun z => (hg i j hi hj).2 (fun y => z ((tl5 i j hi hj).mp y))⟩⟩) hP9 hD9 hS dX2_drawTile_82
              · have htl : t < mt := by rcases Nat.lt_or_ge t mt with z | z; exact z; exact absurd (nI_le z (by omega)) c50
                refine lv_aload_n hx hb dX2_drawTile_53 rfl (lv_at hl 0 rfl) ?_
                refine lv_iload_n hx hb dX2_drawTile_54 rfl (lv_at hl 2 rfl) ?_
                refine td_cwv (wr := [(cD, .inl (cZ, nd, .inl fD))]) (va_runV (As := [.int (nI t)]) (rest := []) ⟨hx, hb, hml, hown, hts⟩ (td_drawPiece l dC dI cI cJ cZ H.size qU cC cN cD qT qH w h ta bg bn dt lf1 tp1 rt1 bm1 wh gc gn pCT pTT pVT fCT fTT fVT mt aX aY aR aL aW uX uY uR uL uW t g (fun i j => td_px g bgN i j (t)) (by omega) (by omega) (by omega) (by omega) tl1 tl2 tl3 tl4 hwh (by omega) (hp t htl) (hcr t htl) (hti t htl) (hcv t htl) (fun i j ht => (hg i j (by omega) (by omega)).1 ht) (fun i j ht => td_px_b (fun z hz => hp z (by omega)) (by omega) (by omega) hbb)) (cwV 1 hts (td_gV (td_i7 (List.mem_of_getElem? (i := 15) rfl)) (td_i7 (List.mem_of_getElem? (i := 16) rfl)) (td_i15 (List.mem_of_getElem? (i := 12) rfl)) (td_i1 (List.mem_of_getElem? (i := 4) rfl)) (td_i7 (List.mem_of_getElem? (i := 17) rfl))) rfl rfl rfl (by decide +kernel) ⟨(Nat.le_of_ble_eq_true rfl), (Nat.le_of_ble_eq_true rfl)⟩) (td_pWV hK hZ hP hD [0, 1, 2, 4, 5, 6, 7, 8, 9, 10, 11, 12, 13] (by decide) rfl (va_recv hK hP (ci := 2) (q0 := 0) rfl rfl)) rfl rfl hl.1 rfl (lv_room (Nat.le_of_ble_eq_true rfl)) dX2_drawTile_55 ⟨Nat.zero_le _, Nat.zero_le _⟩) hP hD hS hA [0, 1, 2, 4, 5, 6, 7, 8, 9, 10, 11, 12, 13] [3] rfl rfl (by decide) (by decide) (fun u H locs hdp hP hD hS => ?_)
                obtain ⟨dc, dn, dX, dY, dR, dL, dW⟩ := u
                try dsimp only at hdp
                have hP : va_P (dC, dI) vwCl [(cD, .inl (cZ, nd, .inl fD)), (qU, .inr (2, [.int (nI w), .int (nI h), .int (nI ta), .ref cC, .ref cN, .ref cD, .ref qT, .ref qH, .int bg, .int bn, .int dt, .int (nI lf1), .int (nI tp1), .int (nI rt1), .int (nI bm1)])), (cC, .inl (cI, wh, .inl dc)), (cN, .inl (cI, wh, .inl dn)), (qT, .inr (1, [.ref pCT, .ref pTT, .ref pVT, .int (nI mt)])), (pCT, .inl (cJ, 1536, .inr (.inl fCT))), (pTT, .inl (cI, 512, .inl fTT)), (pVT, .inl (cI, 512, .inl fVT)), (qH, .inr (0, [.ref aX, .ref aY, .ref aR, .ref aL, .ref aW])), (aX, .inl (cJ, 3, .inr (.inl dX))), (aY, .inl (cJ, 3, .inr (.inl dY))), (aR, .inl (cJ, 3, .inr (.inl dR))), (aL, .inl (cJ, 3, .inr (.inl dL))), (aW, .inl (cJ, 3, .inr (.inl dW)))] H := hP
                have hD : va_D A [(cD, .inl (cZ, nd, .inl fD)), (qU, .inr (2, [.int (nI w), .int (nI h), .int (nI ta), .ref cC, .ref cN, .ref cD, .ref qT, .ref qH, .int bg, .int bn, .int dt, .int (nI lf1), .int (nI tp1), .int (nI rt1), .int (nI bm1)])), (cC, .inl (cI, wh, .inl dc)), (cN, .inl (cI, wh, .inl dn)), (qT, .inr (1, [.ref pCT, .ref pTT, .ref pVT, .int (nI mt)])), (pCT, .inl (cJ, 1536, .inr (.inl fCT))), (pTT, .inl (cI, 512, .inl fTT)), (pVT, .inl (cI, 512, .inl fVT)), (qH, .inr (0, [.ref aX, .ref aY, .ref aR, .ref aL, .ref aW])), (aX, .inl (cJ, 3, .inr (.inl dX))), (aY, .inl (cJ, 3, .inr (.inl dY))), (aR, .inl (cJ, 3, .inr (.inl dR))), (aL, .inl (cJ, 3, .inr (.inl dL))), (aW, .inl (cJ, 3, .inr (.inl dW)))] := hD
                refine lv_iinc (v := nI (t + 1)) (lv' := [(2, .int (nI (t + 1))), (0, .ref qU), (1, .int k)]) hx hb dX2_drawTile_58 hl (k := 2) rfl (nI_add t 1) (by decide) rfl (fun ls hl => ?_)
                refine lv_goto (tgt := 42) hx hb dX2_drawTile_61 (by decide) ?_
                exact ih42 (t + 1) dc dn dX dY dR dL dW (by omega) (td_gI1 hg hdp) (by omega) _ _ (hP.sub [1, 2, 3, 0, 4, 5, 6, 7, 8, 9, 10, 11, 12, 13] rfl) (hD.sub [1, 2, 3, 0, 4, 5, 6, 7, 8, 9, 10, 11, 12, 13] (by decide) rfl) hS ls (lv_sub hl [1, 2, 0] rfl)
          exact lp42 ((mt - 0) + 1) 0 gc0 gn0 vX vY vR vL vW (Nat.zero_le _) (td_gI0 hbg hfl.1 hfl.2) (Nat.lt_succ_self _) _ _ (hP.sub [11, 12, 13, 0, 1, 2, 3, 4, 5, 6, 7, 8, 9, 10] rfl) (hD.sub [11, 12, 13, 0, 1, 2, 3, 4, 5, 6, 7, 8, 9, 10] (by decide) rfl) hS ls (lv_sub hl [1, 2, 0] rfl)
        · refine lv_iconst (v := 0) hx hb dX2_drawTile_29 (by decide) ?_
          have hP9 := hP.sub (ws' := [(qU, .inr (2, [.int (nI w), .int (nI h), .int (nI ta), .ref cC, .ref cN, .ref cD, .ref qT, .ref qH, .int bg, .int bn, .int dt, .int lf, .int tp, .int rt, .int bm])), (cC, .inl (cI, wh, .inl fc)), (cN, .inl (cI, wh, .inl fn)), (cD, .inl (cZ, nd, .inl fD)), (qT, .inr (1, [.ref pCT, .ref pTT, .ref pVT, .int (nI mt)])), (pCT, .inl (cJ, 1536, .inr (.inl fCT))), (pTT, .inl (cI, 512, .inl fTT)), (pVT, .inl (cI, 512, .inl fVT)), (qH, .inr (0, [.ref aX, .ref aY, .ref aR, .ref aL, .ref aW])), (aX, .inl (cJ, 3, .inr (.inl vX))), (aY, .inl (cJ, 3, .inr (.inl vY))), (aR, .inl (cJ, 3, .inr (.inl vR))), (aL, .inl (cJ, 3, .inr (.inl vL))), (aW, .inl (cJ, 3, .inr (.inl vW)))]) [0, 1, 2, 3, 4, 5, 6, 7, 8, 9, 10, 11, 12, 13] rfl
          have hD9 := hD.sub (ws' := [(qU, .inr (2, [.int (nI w), .int (nI h), .int (nI ta), .ref cC, .ref cN, .ref cD, .ref qT, .ref qH, .int bg, .int bn, .int dt, .int lf, .int tp, .int rt, .int bm])), (cC, .inl (cI, wh, .inl fc)), (cN, .inl (cI, wh, .inl fn)), (cD, .inl (cZ, nd, .inl fD)), (qT, .inr (1, [.ref pCT, .ref pTT, .ref pVT, .int (nI mt)])), (pCT, .inl (cJ, 1536, .inr (.inl fCT))), (pTT, .inl (cI, 512, .inl fTT)), (pVT, .inl (cI, 512, .inl fVT)), (qH, .inr (0, [.ref aX, .ref aY, .ref aR, .ref aL, .ref aW])), (aX, .inl (cJ, 3, .inr (.inl vX))), (aY, .inl (cJ, 3, .inr (.inl vY))), (aR, .inl (cJ, 3, .inr (.inl vR))), (aL, .inl (cJ, 3, .inr (.inl vL))), (aW, .inl (cJ, 3, .inr (.inl vW)))]) [0, 1, 2, 3, 4, 5, 6, 7, 8, 9, 10, 11, 12, 13] (by decide) rfl
          exact td_rwi (fc, fn, fD, dt, lf, tp, rt, bm, vX, vY, vR, vL, vW) hx hb hr rfl hlocks hK (Or.inl ⟨rfl, ⟨rfl, rfl, rfl, rfl⟩, Or.inr (Or.inr (Or.inr ⟨kk, hkk, ekk, c26⟩))⟩) hP9 hD9 hS dX2_drawTile_30
set_option maxHeartbeats 4000000 in
set_option maxRecDepth 100000 in
/-- Picture.start -/
theorem td_start (l : Launch) (dC : Nat → ClassId) (dI : Nat → Nat → Nat) (cI cJ cZ : ClassId) (sz : Nat) (qU : Nat) (cC : Nat) (cN : Nat) (cD : Nat) (qT : Nat) (qH : Nat) (w : Nat) (h : Nat) (ta : Nat) (bg : Int32) (bn : Int32) (dt : Int32) (lf : Int32) (tp : Int32) (rt : Int32) (bm : Int32) (nd : Nat) (fD : Nat → Int32) (pCT : Nat) (pTT : Nat) (pVT : Nat) (fCT : Nat → Int64) (fTT : Nat → Int32) (fVT : Nat → Int32) (mt : Nat) (qP : Nat) (pC : Nat) (pT : Nat) (pV : Nat) (fC : Nat → Int64) (fT : Nat → Int32) (fV : Nat → Int32) (n : Nat) (col : Int32) (hn : n ≤ 512) (hnd : nd ≤ 36) : Met l yX2_start wsX2_start ({ frames := 2, cells := 0, slots := 0, locals := 39 }) (td_WP (dC, dI) vwCl (td_T cI cJ cZ) td_nl [(qU, .inr (2, [.int (nI w), .int (nI h), .int (nI ta), .ref cC, .ref cN, .ref cD, .ref qT, .ref qH, .int bg, .int bn, .int dt, .int lf, .int tp, .int rt, .int bm])), (cD, .inl (cZ, nd, .inl fD)), (qT, .inr (1, [.ref pCT, .ref pTT, .ref pVT, .int (nI mt)])), (pCT, .inl (cJ, 1536, .inr (.inl fCT))), (pTT, .inl (cI, 512, .inl fTT)), (pVT, .inl (cI, 512, .inl fVT)), (qP, .inr (1, [.ref pC, .ref pT, .ref pV, .int (nI n)])), (pC, .inl (cJ, 1536, .inr (.inl fC))), (pT, .inl (cI, 512, .inl fT)), (pV, .inl (cI, 512, .inl fV))] sz [.ref qU, .ref qP, .int col]) (va_Qi (S := (Nat → Int32)) (fun r u => r = nI nd ∧ ∀ z, z < nd → u z = 0) (td_B (dC, dI) vwCl (td_T cI cJ cZ) (va_A [(qU, .inr (2, [.int (nI w), .int (nI h), .int (nI ta), .ref cC, .ref cN, .ref cD, .ref qT, .ref qH, .int bg, .int bn, .int dt, .int lf, .int tp, .int rt, .int bm])), (cD, .inl (cZ, nd, .inl fD)), (qT, .inr (1, [.ref pCT, .ref pTT, .ref pVT, .int (nI mt)])), (pCT, .inl (cJ, 1536, .inr (.inl fCT))), (pTT, .inl (cI, 512, .inl fTT)), (pVT, .inl (cI, 512, .inl fVT)), (qP, .inr (1, [.ref pC, .ref pT, .ref pV, .int (nI n)])), (pC, .inl (cJ, 1536, .inr (.inl fC))), (pT, .inl (cI, 512, .inl fT)), (pV, .inl (cI, 512, .inl fV))] sz) (fun (u : (Nat → Int32)) => [(qU, .inr (2, [.int (nI w), .int (nI h), .int (nI ta), .ref cC, .ref cN, .ref cD, .ref qT, .ref qH, .int col, .int 1, .int 0, .int lf, .int tp, .int rt, .int bm])), (cD, .inl (cZ, nd, .inl u)), (qT, .inr (1, [.ref pCT, .ref pTT, .ref pVT, .int (nI n)])), (pCT, .inl (cJ, 1536, .inr (.inl (va_cpy fC fCT 0 0 (3 * n))))), (pTT, .inl (cI, 512, .inl (va_cpy fT fTT 0 0 n))), (pVT, .inl (cI, 512, .inl (va_cpy fV fVT 0 0 n))), (qP, .inr (1, [.ref pC, .ref pT, .ref pV, .int (nI n)])), (pC, .inl (cJ, 1536, .inr (.inl fC))), (pT, .inl (cI, 512, .inl fT)), (pV, .inl (cI, 512, .inl fV))])) (va_A [(qU, .inr (2, [.int (nI w), .int (nI h), .int (nI ta), .ref cC, .ref cN, .ref cD, .ref qT, .ref qH, .int bg, .int bn, .int dt, .int lf, .int tp, .int rt, .int bm])), (cD, .inl (cZ, nd, .inl fD)), (qT, .inr (1, [.ref pCT, .ref pTT, .ref pVT, .int (nI mt)])), (pCT, .inl (cJ, 1536, .inr (.inl fCT))), (pTT, .inl (cI, 512, .inl fTT)), (pVT, .inl (cI, 512, .inl fVT)), (qP, .inr (1, [.ref pC, .ref pT, .ref pV, .int (nI n)])), (pC, .inl (cJ, 1536, .inr (.inl fC))), (pT, .inl (cI, 512, .inl fT)), (pV, .inl (cI, 512, .inl fV))] sz)) 0 0 (va_A [(qU, .inr (2, [.int (nI w), .int (nI h), .int (nI ta), .ref cC, .ref cN, .ref cD, .ref qT, .ref qH, .int bg, .int bn, .int dt, .int lf, .int tp, .int rt, .int bm])), (cD, .inl (cZ, nd, .inl fD)), (qT, .inr (1, [.ref pCT, .ref pTT, .ref pVT, .int (nI mt)])), (pCT, .inl (cJ, 1536, .inr (.inl fCT))), (pTT, .inl (cI, 512, .inl fTT)), (pVT, .inl (cI, 512, .inl fVT)), (qP, .inr (1, [.ref pC, .ref pT, .ref pV, .int (nI n)])), (pC, .inl (cJ, 1536, .inr (.inl fC))), (pT, .inl (cI, 512, .inl fT)), (pV, .inl (cI, 512, .inl fV))] sz) := by
  refine Met.ofW (cc := cX2_start) (maxL := 4) (ret := (some .int)) (by decide) rfl ?_
  intro p e s m args below meth c s₁ B hml hv
  obtain ⟨rfl, hsz, hP, hK, hZ, hD0⟩ := hv
  have hx := B.exec
  have hb := B.bytes
  have hr := B.returns
  have hts := atoms_spec (ws := wsX2_start) B.pre
  have hown : s.vm.findClass RX2 = some m.cls := findClass_of_methodNamed B.named
  have hlocks := B.notSynchronized
  subst hsz
  have hD := hD0.self (sz := s.heap.size)
  generalize hAe : va_A [(qU, .inr (2, [.int (nI w), .int (nI h), .int (nI ta), .ref cC, .ref cN, .ref cD, .ref qT, .ref qH, .int bg, .int bn, .int dt, .int lf, .int tp, .int rt, .int bm])), (cD, .inl (cZ, nd, .inl fD)), (qT, .inr (1, [.ref pCT, .ref pTT, .ref pVT, .int (nI mt)])), (pCT, .inl (cJ, 1536, .inr (.inl fCT))), (pTT, .inl (cI, 512, .inl fTT)), (pVT, .inl (cI, 512, .inl fVT)), (qP, .inr (1, [.ref pC, .ref pT, .ref pV, .int (nI n)])), (pC, .inl (cJ, 1536, .inr (.inl fC))), (pT, .inl (cI, 512, .inl fT)), (pV, .inl (cI, 512, .inl fV))] s.heap.size = A at hD ⊢
  have hA : ∀ q : Nat, s.heap.size ≤ q → A q := fun q h => by rw [← hAe]; exact Or.inr h
  have hS : va_S A s.heap s.heap [] := va_S.rf
  have hP : va_P (dC, dI) vwCl [(qU, .inr (2, [.int (nI w), .int (nI h), .int (nI ta), .ref cC, .ref cN, .ref cD, .ref qT, .ref qH, .int bg, .int bn, .int dt, .int lf, .int tp, .int rt, .int bm])), (cD, .inl (cZ, nd, .inl fD)), (qT, .inr (1, [.ref pCT, .ref pTT, .ref pVT, .int (nI mt)])), (pCT, .inl (cJ, 1536, .inr (.inl fCT))), (pTT, .inl (cI, 512, .inl fTT)), (pVT, .inl (cI, 512, .inl fVT)), (qP, .inr (1, [.ref pC, .ref pT, .ref pV, .int (nI n)])), (pC, .inl (cJ, 1536, .inr (.inl fC))), (pT, .inl (cI, 512, .inl fT)), (pV, .inl (cI, 512, .inl fV))] s.heap := hP
  have hl := lv_entry ([.ref qU, .ref qP, .int col]) (n := 4) (Nat.le_of_ble_eq_true rfl)
  rw [lg_entry_eq]
  generalize (lg_sl ([.ref qU, .ref qP, .int col]) ++ List.replicate (4 - (lg_sl ([.ref qU, .ref qP, .int col])).length) Slot.unset).toArray = ls at hl ⊢
  have hl : lv_has ls 4 [(0, .ref qU), (1, .ref qP), (2, .int col)] := hl
  refine lv_aload_n hx hb dX2_start_0 rfl (lv_at hl 0 rfl) ?_
  refine va_get (D := (dC, dI)) (ci := 2) (v := .ref qT) (C := RX2) (T := TX2) (N := 15) hx hb hts td_fX2 hown hK hP 0 rfl rfl 6 (by decide) (hts (.fieldLink RX2 12 "TileDesk$Picture" "taken" "LTileDesk$Pieces;") (td_i3 (List.mem_of_getElem? (i := 10) rfl))) (fun _ h9 => h9) rfl dX2_start_1 ?_
  refine lv_aload_n hx hb dX2_start_4 rfl (lv_at hl 1 rfl) ?_
  refine td_cwv (wr := [(qU, .inr (2, [.int (nI w), .int (nI h), .int (nI ta), .ref cC, .ref cN, .ref cD, .ref qT, .ref qH, .int bg, .int bn, .int dt, .int lf, .int tp, .int rt, .int bm])), (cD, .inl (cZ, nd, .inl fD))]) (va_runV (As := [.ref qP]) (rest := []) ⟨hx, hb, hml, hown, hts⟩ (td_copyFrom l dC dI cI cJ cZ s.heap.size qT pCT pTT pVT fCT fTT fVT mt qP pC pT pV fC fT fV n (by omega)) (cwV 1 hts (td_gV (td_i6 (List.mem_of_getElem? (i := 8) rfl)) (td_i6 (List.mem_of_getElem? (i := 9) rfl)) (td_i6 (List.mem_of_getElem? (i := 10) rfl)) (td_i1 (List.mem_of_getElem? (i := 3) rfl)) (td_i6 (List.mem_of_getElem? (i := 11) rfl))) rfl rfl rfl (by decide +kernel) ⟨(Nat.le_of_ble_eq_true rfl), (Nat.le_of_ble_eq_true rfl)⟩) (td_pWV hK hZ hP hD [2, 3, 4, 5, 6, 7, 8, 9] (by decide) rfl (va_recv hK hP (ci := 1) (q0 := 2) rfl rfl)) rfl rfl hl.1 rfl (lv_room (Nat.le_of_ble_eq_true rfl)) dX2_start_5 ⟨Nat.zero_le _, Nat.zero_le _⟩) hP hD hS hA [2, 3, 4, 5, 6, 7, 8, 9] [0, 1] rfl rfl (by decide) (by decide) (fun u H locs w5_1 hP hD hS => ?_)
  try dsimp only at w5_1
  have hP : va_P (dC, dI) vwCl [(qU, .inr (2, [.int (nI w), .int (nI h), .int (nI ta), .ref cC, .ref cN, .ref cD, .ref qT, .ref qH, .int bg, .int bn, .int dt, .int lf, .int tp, .int rt, .int bm])), (cD, .inl (cZ, nd, .inl fD)), (qT, .inr (1, [.ref pCT, .ref pTT, .ref pVT, .int (nI n)])), (pCT, .inl (cJ, 1536, .inr (.inl (va_cpy fC fCT 0 0 (3 * n))))), (pTT, .inl (cI, 512, .inl (va_cpy fT fTT 0 0 n))), (pVT, .inl (cI, 512, .inl (va_cpy fV fVT 0 0 n))), (qP, .inr (1, [.ref pC, .ref pT, .ref pV, .int (nI n)])), (pC, .inl (cJ, 1536, .inr (.inl fC))), (pT, .inl (cI, 512, .inl fT)), (pV, .inl (cI, 512, .inl fV))] H := hP
  have hD : va_D A [(qU, .inr (2, [.int (nI w), .int (nI h), .int (nI ta), .ref cC, .ref cN, .ref cD, .ref qT, .ref qH, .int bg, .int bn, .int dt, .int lf, .int tp, .int rt, .int bm])), (cD, .inl (cZ, nd, .inl fD)), (qT, .inr (1, [.ref pCT, .ref pTT, .ref pVT, .int (nI n)])), (pCT, .inl (cJ, 1536, .inr (.inl (va_cpy fC fCT 0 0 (3 * n))))), (pTT, .inl (cI, 512, .inl (va_cpy fT fTT 0 0 n))), (pVT, .inl (cI, 512, .inl (va_cpy fV fVT 0 0 n))), (qP, .inr (1, [.ref pC, .ref pT, .ref pV, .int (nI n)])), (pC, .inl (cJ, 1536, .inr (.inl fC))), (pT, .inl (cI, 512, .inl fT)), (pV, .inl (cI, 512, .inl fV))] := hD
  refine lv_aload_n hx hb dX2_start_8 rfl (lv_at hl 0 rfl) ?_
  refine lv_iload_n hx hb dX2_start_9 rfl (lv_at hl 2 rfl) ?_
  refine va_put (D := (dC, dI)) (ci := 2) (v := .int col) (ty := .int) (C := RX2) (T := TX2) (N := 15) hx hb hts td_fX2 tyX2 tyX2_ok nmX2 hown hK hP hD hS 0 rfl rfl 8 (by decide) (hts (.fieldLink RX2 25 "TileDesk$Picture" "background" "I") (td_i3 (List.mem_of_getElem? (i := 12) rfl))) (fun _ h9 => h9) rfl (by decide +kernel) rfl rfl (Nat.le_of_ble_eq_true rfl) dX2_start_10 (fun H locs hP hD hS => ?_)
  have hP : va_P (dC, dI) vwCl [(qU, .inr (2, [.int (nI w), .int (nI h), .int (nI ta), .ref cC, .ref cN, .ref cD, .ref qT, .ref qH, .int col, .int bn, .int dt, .int lf, .int tp, .int rt, .int bm])), (cD, .inl (cZ, nd, .inl fD)), (qT, .inr (1, [.ref pCT, .ref pTT, .ref pVT, .int (nI n)])), (pCT, .inl (cJ, 1536, .inr (.inl (va_cpy fC fCT 0 0 (3 * n))))), (pTT, .inl (cI, 512, .inl (va_cpy fT fTT 0 0 n))), (pVT, .inl (cI, 512, .inl (va_cpy fV fVT 0 0 n))), (qP, .inr (1, [.ref pC, .ref pT, .ref pV, .int (nI n)])), (pC, .inl (cJ, 1536, .inr (.inl fC))), (pT, .inl (cI, 512, .inl fT)), (pV, .inl (cI, 512, .inl fV))] H := hP
  have hD : va_D A [(qU, .inr (2, [.int (nI w), .int (nI h), .int (nI ta), .ref cC, .ref cN, .ref cD, .ref qT, .ref qH, .int col, .int bn, .int dt, .int lf, .int tp, .int rt, .int bm])), (cD, .inl (cZ, nd, .inl fD)), (qT, .inr (1, [.ref pCT, .ref pTT, .ref pVT, .int (nI n)])), (pCT, .inl (cJ, 1536, .inr (.inl (va_cpy fC fCT 0 0 (3 * n))))), (pTT, .inl (cI, 512, .inl (va_cpy fT fTT 0 0 n))), (pVT, .inl (cI, 512, .inl (va_cpy fV fVT 0 0 n))), (qP, .inr (1, [.ref pC, .ref pT, .ref pV, .int (nI n)])), (pC, .inl (cJ, 1536, .inr (.inl fC))), (pT, .inl (cI, 512, .inl fT)), (pV, .inl (cI, 512, .inl fV))] := hD
  refine lv_aload_n hx hb dX2_start_13 rfl (lv_at hl 0 rfl) ?_
  refine lv_iconst (v := 1) hx hb dX2_start_14 (by decide) ?_
  refine va_put (D := (dC, dI)) (ci := 2) (v := .int 1) (ty := .boolean) (C := RX2) (T := TX2) (N := 15) hx hb hts td_fX2 tyX2 tyX2_ok nmX2 hown hK hP hD hS 0 rfl rfl 9 (by decide) (hts (.fieldLink RX2 29 "TileDesk$Picture" "begun" "Z") (td_i3 (List.mem_of_getElem? (i := 13) rfl))) (fun _ h9 => h9) rfl (by decide +kernel) rfl rfl (Nat.le_of_ble_eq_true rfl) dX2_start_15 (fun H locs hP hD hS => ?_)
  have hP : va_P (dC, dI) vwCl [(qU, .inr (2, [.int (nI w), .int (nI h), .int (nI ta), .ref cC, .ref cN, .ref cD, .ref qT, .ref qH, .int col, .int 1, .int dt, .int lf, .int tp, .int rt, .int bm])), (cD, .inl (cZ, nd, .inl fD)), (qT, .inr (1, [.ref pCT, .ref pTT, .ref pVT, .int (nI n)])), (pCT, .inl (cJ, 1536, .inr (.inl (va_cpy fC fCT 0 0 (3 * n))))), (pTT, .inl (cI, 512, .inl (va_cpy fT fTT 0 0 n))), (pVT, .inl (cI, 512, .inl (va_cpy fV fVT 0 0 n))), (qP, .inr (1, [.ref pC, .ref pT, .ref pV, .int (nI n)])), (pC, .inl (cJ, 1536, .inr (.inl fC))), (pT, .inl (cI, 512, .inl fT)), (pV, .inl (cI, 512, .inl fV))] H := hP
  have hD : va_D A [(qU, .inr (2, [.int (nI w), .int (nI h), .int (nI ta), .ref cC, .ref cN, .ref cD, .ref qT, .ref qH, .int col, .int 1, .int dt, .int lf, .int tp, .int rt, .int bm])), (cD, .inl (cZ, nd, .inl fD)), (qT, .inr (1, [.ref pCT, .ref pTT, .ref pVT, .int (nI n)])), (pCT, .inl (cJ, 1536, .inr (.inl (va_cpy fC fCT 0 0 (3 * n))))), (pTT, .inl (cI, 512, .inl (va_cpy fT fTT 0 0 n))), (pVT, .inl (cI, 512, .inl (va_cpy fV fVT 0 0 n))), (qP, .inr (1, [.ref pC, .ref pT, .ref pV, .int (nI n)])), (pC, .inl (cJ, 1536, .inr (.inl fC))), (pT, .inl (cI, 512, .inl fT)), (pV, .inl (cI, 512, .inl fV))] := hD
  refine lv_aload_n hx hb dX2_start_18 rfl (lv_at hl 0 rfl) ?_
  refine lv_iconst (v := 0) hx hb dX2_start_19 (by decide) ?_
  refine va_put (D := (dC, dI)) (ci := 2) (v := .int 0) (ty := .int) (C := RX2) (T := TX2) (N := 15) hx hb hts td_fX2 tyX2 tyX2_ok nmX2 hown hK hP hD hS 0 rfl rfl 10 (by decide) (hts (.fieldLink RX2 33 "TileDesk$Picture" "doneTiles" "I") (td_i3 (List.mem_of_getElem? (i := 14) rfl))) (fun _ h9 => h9) rfl (by decide +kernel) rfl rfl (Nat.le_of_ble_eq_true rfl) dX2_start_20 (fun H locs hP hD hS => ?_)
  have hP : va_P (dC, dI) vwCl [(qU, .inr (2, [.int (nI w), .int (nI h), .int (nI ta), .ref cC, .ref cN, .ref cD, .ref qT, .ref qH, .int col, .int 1, .int 0, .int lf, .int tp, .int rt, .int bm])), (cD, .inl (cZ, nd, .inl fD)), (qT, .inr (1, [.ref pCT, .ref pTT, .ref pVT, .int (nI n)])), (pCT, .inl (cJ, 1536, .inr (.inl (va_cpy fC fCT 0 0 (3 * n))))), (pTT, .inl (cI, 512, .inl (va_cpy fT fTT 0 0 n))), (pVT, .inl (cI, 512, .inl (va_cpy fV fVT 0 0 n))), (qP, .inr (1, [.ref pC, .ref pT, .ref pV, .int (nI n)])), (pC, .inl (cJ, 1536, .inr (.inl fC))), (pT, .inl (cI, 512, .inl fT)), (pV, .inl (cI, 512, .inl fV))] H := hP
  have hD : va_D A [(qU, .inr (2, [.int (nI w), .int (nI h), .int (nI ta), .ref cC, .ref cN, .ref cD, .ref qT, .ref qH, .int col, .int 1, .int 0, .int lf, .int tp, .int rt, .int bm])), (cD, .inl (cZ, nd, .inl fD)), (qT, .inr (1, [.ref pCT, .ref pTT, .ref pVT, .int (nI n)])), (pCT, .inl (cJ, 1536, .inr (.inl (va_cpy fC fCT 0 0 (3 * n))))), (pTT, .inl (cI, 512, .inl (va_cpy fT fTT 0 0 n))), (pVT, .inl (cI, 512, .inl (va_cpy fV fVT 0 0 n))), (qP, .inr (1, [.ref pC, .ref pT, .ref pV, .int (nI n)])), (pC, .inl (cJ, 1536, .inr (.inl fC))), (pT, .inl (cI, 512, .inl fT)), (pV, .inl (cI, 512, .inl fV))] := hD
  refine lv_iconst (v := 0) hx hb dX2_start_23 (by decide) ?_
  refine lv_istore_n (lv' := [(3, .int 0), (0, .ref qU), (1, .ref qP), (2, .int col)]) hx hb dX2_start_24 rfl hl (by decide) rfl (fun ls hl => ?_)
  have lp25 : ∀ (n25 : Nat) (t : Nat) (gD : Nat → Int32), (t ≤ nd) → (∀ z, z < t → gD z = 0) → nd - t < n25 → ∀ (H : Heap) (locs : List Loc), va_P (dC, dI) vwCl [(qU, .inr (2, [.int (nI w), .int (nI h), .int (nI ta), .ref cC, .ref cN, .ref cD, .ref qT, .ref qH, .int col, .int 1, .int 0, .int lf, .int tp, .int rt, .int bm])), (cD, .inl (cZ, nd, .inl gD)), (qT, .inr (1, [.ref pCT, .ref pTT, .ref pVT, .int (nI n)])), (pCT, .inl (cJ, 1536, .inr (.inl (va_cpy fC fCT 0 0 (3 * n))))), (pTT, .inl (cI, 512, .inl (va_cpy fT fTT 0 0 n))), (pVT, .inl (cI, 512, .inl (va_cpy fV fVT 0 0 n))), (qP, .inr (1, [.ref pC, .ref pT, .ref pV, .int (nI n)])), (pC, .inl (cJ, 1536, .inr (.inl fC))), (pT, .inl (cI, 512, .inl fT)), (pV, .inl (cI, 512, .inl fV))] H → va_D A [(qU, .inr (2, [.int (nI w), .int (nI h), .int (nI ta), .ref cC, .ref cN, .ref cD, .ref qT, .ref qH, .int col, .int 1, .int 0, .int lf, .int tp, .int rt, .int bm])), (cD, .inl (cZ, nd, .inl gD)), (qT, .inr (1, [.ref pCT, .ref pTT, .ref pVT, .int (nI n)])), (pCT, .inl (cJ, 1536, .inr (.inl (va_cpy fC fCT 0 0 (3 * n))))), (pTT, .inl (cI, 512, .inl (va_cpy fT fTT 0 0 n))), (pVT, .inl (cI, 512, .inl (va_cpy fV fVT 0 0 n))), (qP, .inr (1, [.ref pC, .ref pT, .ref pV, .int (nI n)])), (pC, .inl (cJ, 1536, .inr (.inl fC))), (pT, .inl (cI, 512, .inl fT)), (pV, .inl (cI, 512, .inl fV))] → va_S A s.heap H locs → ∀ ls : Array Slot, lv_has ls 4 [(0, .ref qU), (3, .int (nI t))] → W p l e (headSpec wsX2_start ({ frames := 2, cells := 0, slots := 0, locals := 39 })).room s m (([.ref qU, .ref qP, .int col] : List Value).toArray) below meth c H locs 0 0 (MQ below (va_Qi (S := (Nat → Int32)) (fun r u => r = nI nd ∧ ∀ z, z < nd → u z = 0) (td_B (dC, dI) vwCl (td_T cI cJ cZ) A (fun (u : (Nat → Int32)) => [(qU, .inr (2, [.int (nI w), .int (nI h), .int (nI ta), .ref cC, .ref cN, .ref cD, .ref qT, .ref qH, .int col, .int 1, .int 0, .int lf, .int tp, .int rt, .int bm])), (cD, .inl (cZ, nd, .inl u)), (qT, .inr (1, [.ref pCT, .ref pTT, .ref pVT, .int (nI n)])), (pCT, .inl (cJ, 1536, .inr (.inl (va_cpy fC fCT 0 0 (3 * n))))), (pTT, .inl (cI, 512, .inl (va_cpy fT fTT 0 0 n))), (pVT, .inl (cI, 512, .inl (va_cpy fV fVT 0 0 n))), (qP, .inr (1, [.ref pC, .ref pT, .ref pV, .int (nI n)])), (pC, .inl (cJ, 1536, .inr (.inl fC))), (pT, .inl (cI, 512, .inl fT)), (pV, .inl (cI, 512, .inl fV))])) A) (([.ref qU, .ref qP, .int col] : List Value).toArray) s 0 0 A) (F0 m 25 ls []) := by
    intro n25
    induction n25 with
    | zero => intro t gD ht hz hm; exact absurd hm (Nat.not_lt_zero _)
    | succ n25 ih25 =>
      intro t gD ht hz hm25 H locs hP hD hS ls hl
      refine lv_iload_n hx hb dX2_start_25 rfl (lv_at hl 1 rfl) ?_
      refine lv_aload_n hx hb dX2_start_26 rfl (lv_at hl 0 rfl) ?_
      refine va_get (D := (dC, dI)) (ci := 2) (v := .ref cD) (C := RX2) (T := TX2) (N := 15) hx hb hts td_fX2 hown hK hP 0 rfl rfl 5 (by decide) (hts (.fieldLink RX2 64 "TileDesk$Picture" "done" "[Z") (td_i3 (List.mem_of_getElem? (i := 9) rfl))) (fun _ h9 => h9) rfl dX2_start_27 ?_
      refine va_alen (v := nI nd) hx hb hK hP 1 2 rfl rfl rfl dX2_start_30 ?_
      refine lv_icmp_ge (tgt := 47) hx hb dX2_start_31 (by decide) (fun c31 => ?_) (fun c31 => ?_)
      · have htm : t = nd := by have := (nI_leI (a := nd) (b := t) (by omega) (by omega)).mp c31; omega
        refine lv_aload_n hx hb dX2_start_47 rfl (lv_at hl 0 rfl) ?_
        refine va_get (D := (dC, dI)) (ci := 2) (v := .ref cD) (C := RX2) (T := TX2) (N := 15) hx hb hts td_fX2 hown hK hP 0 rfl rfl 5 (by decide) (hts (.fieldLink RX2 64 "TileDesk$Picture" "done" "[Z") (td_i3 (List.mem_of_getElem? (i := 9) rfl))) (fun _ h9 => h9) rfl dX2_start_48 ?_
        refine va_alen (v := nI nd) hx hb hK hP 1 2 rfl rfl rfl dX2_start_51 ?_
        have hP9 := hP.sub (ws' := [(qU, .inr (2, [.int (nI w), .int (nI h), .int (nI ta), .ref cC, .ref cN, .ref cD, .ref qT, .ref qH, .int col, .int 1, .int 0, .int lf, .int tp, .int rt, .int bm])), (cD, .inl (cZ, nd, .inl gD)), (qT, .inr (1, [.ref pCT, .ref pTT, .ref pVT, .int (nI n)])), (pCT, .inl (cJ, 1536, .inr (.inl (va_cpy fC fCT 0 0 (3 * n))))), (pTT, .inl (cI, 512, .inl (va_cpy fT fTT 0 0 n))), (pVT, .inl (cI, 512, .inl (va_cpy fV fVT 0 0 n))), (qP, .inr (1, [.ref pC, .ref pT, .ref pV, .int (nI n)])), (pC, .inl (cJ, 1536, .inr (.inl fC))), (pT, .inl (cI, 512, .inl fT)), (pV, .inl (cI, 512, .inl fV))]) [0, 1, 2, 3, 4, 5, 6, 7, 8, 9] rfl
        have hD9 := hD.sub (ws' := [(qU, .inr (2, [.int (nI w), .int (nI h), .int (nI ta), .ref cC, .ref cN, .ref cD, .ref qT, .ref qH, .int col, .int 1, .int 0, .int lf, .int tp, .int rt, .int bm])), (cD, .inl (cZ, nd, .inl gD)), (qT, .inr (1, [.ref pCT, .ref pTT, .ref pVT, .int (nI n)])), (pCT, .inl (cJ, 1536, .inr (.inl (va_cpy fC fCT 0 0 (3 * n))))), (pTT, .inl (cI, 512, .inl (va_cpy fT fTT 0 0 n))), (pVT, .inl (cI, 512, .inl (va_cpy fV fVT 0 0 n))), (qP, .inr (1, [.ref pC, .ref pT, .ref pV, .int (nI n)])), (pC, .inl (cJ, 1536, .inr (.inl fC))), (pT, .inl (cI, 512, .inl fT)), (pV, .inl (cI, 512, .inl fV))]) [0, 1, 2, 3, 4, 5, 6, 7, 8, 9] (by decide) rfl
        exact td_rwi gD hx hb hr rfl hlocks hK (⟨rfl, by rw [← htm]; exact hz⟩) hP9 hD9 hS dX2_start_52
      · have htl : t < nd := by rcases Nat.lt_or_ge t nd with z | z; exact z; exact absurd (nI_le z (by omega)) c31
        refine lv_aload_n hx hb dX2_start_34 rfl (lv_at hl 0 rfl) ?_
        refine va_get (D := (dC, dI)) (ci := 2) (v := .ref cD) (C := RX2) (T := TX2) (N := 15) hx hb hts td_fX2 hown hK hP 0 rfl rfl 5 (by decide) (hts (.fieldLink RX2 64 "TileDesk$Picture" "done" "[Z") (td_i3 (List.mem_of_getElem? (i := 9) rfl))) (fun _ h9 => h9) rfl dX2_start_35 ?_
        refine lv_iload_n hx hb dX2_start_38 rfl (lv_at hl 1 rfl) ?_
        refine lv_iconst (v := 0) hx hb dX2_start_39 (by decide) ?_
        refine td_zast hx hb hK hP hD hS 1 2 t rfl rfl rfl htl (by omega) rfl dX2_start_40 (fun H locs hP hD hS => ?_)
        have hP : va_P (dC, dI) vwCl [(qU, .inr (2, [.int (nI w), .int (nI h), .int (nI ta), .ref cC, .ref cN, .ref cD, .ref qT, .ref qH, .int col, .int 1, .int 0, .int lf, .int tp, .int rt, .int bm])), (cD, .inl (cZ, nd, .inl (upd gD t 0))), (qT, .inr (1, [.ref pCT, .ref pTT, .ref pVT, .int (nI n)])), (pCT, .inl (cJ, 1536, .inr (.inl (va_cpy fC fCT 0 0 (3 * n))))), (pTT, .inl (cI, 512, .inl (va_cpy fT fTT 0 0 n))), (pVT, .inl (cI, 512, .inl (va_cpy fV fVT 0 0 n))), (qP, .inr (1, [.ref pC, .ref pT, .ref pV, .int (nI n)])), (pC, .inl (cJ, 1536, .inr (.inl fC))), (pT, .inl (cI, 512, .inl fT)), (pV, .inl (cI, 512, .inl fV))] H := hP
        have hD : va_D A [(qU, .inr (2, [.int (nI w), .int (nI h), .int (nI ta), .ref cC, .ref cN, .ref cD, .ref qT, .ref qH, .int col, .int 1, .int 0, .int lf, .int tp, .int rt, .int bm])), (cD, .inl (cZ, nd, .inl (upd gD t 0))), (qT, .inr (1, [.ref pCT, .ref pTT, .ref pVT, .int (nI n)])), (pCT, .inl (cJ, 1536, .inr (.inl (va_cpy fC fCT 0 0 (3 * n))))), (pTT, .inl (cI, 512, .inl (va_cpy fT fTT 0 0 n))), (pVT, .inl (cI, 512, .inl (va_cpy fV fVT 0 0 n))), (qP, .inr (1, [.ref pC, .ref pT, .ref pV, .int (nI n)])), (pC, .inl (cJ, 1536, .inr (.inl fC))), (pT, .inl (cI, 512, .inl fT)), (pV, .inl (cI, 512, .inl fV))] := hD
        refine lv_iinc (v := nI (t + 1)) (lv' := [(3, .int (nI (t + 1))), (0, .ref qU)]) hx hb dX2_start_41 hl (k := 1) rfl (nI_add t 1) (by decide) rfl (fun ls hl => ?_)
        refine lv_goto (tgt := 25) hx hb dX2_start_44 (by decide) ?_
        exact ih25 (t + 1) (upd gD t 0) (by omega) (td_zst hz) (by omega) _ _ (hP.sub [0, 1, 2, 3, 4, 5, 6, 7, 8, 9] rfl) (hD.sub [0, 1, 2, 3, 4, 5, 6, 7, 8, 9] (by decide) rfl) hS ls (lv_sub hl [1, 0] rfl)
  exact lp25 ((nd - 0) + 1) 0 fD (Nat.zero_le _) (fun z h => absurd h (Nat.not_lt_zero _)) (Nat.lt_succ_self _) _ _ (hP.sub [0, 1, 2, 3, 4, 5, 6, 7, 8, 9] rfl) (hD.sub [0, 1, 2, 3, 4, 5, 6, 7, 8, 9] (by decide) rfl) hS ls (lv_sub hl [1, 0] rfl)
set_option maxHeartbeats 4000000 in
set_option maxRecDepth 100000 in
/-- Picture() -/
theorem td_Picture_init (l : Launch) (dC : Nat → ClassId) (dI : Nat → Nat → Nat) (cI cJ cZ : ClassId) (sz : Nat) (qU : Nat) (w : Nat) (h : Nat) (hw1 : 8 ≤ w) (hw2 : w ≤ 48) (hh1 : 8 ≤ h) (hh2 : h ≤ 48) : Met l yX2_init wsX2_init ({ frames := 2, cells := 13, slots := 7228, locals := 32 }) (td_WP (dC, dI) vwCl (td_T cI cJ cZ) td_nl [(qU, .inr (2, [.int 0, .int 0, .int 0, .null, .null, .null, .null, .null, .int 0, .int 0, .int 0, .int 0, .int 0, .int 0, .int 0]))] sz [.ref qU, .int (nI w), .int (nI h)]) (va_Qv (S := Nat × Nat × Nat × Nat × Nat × Nat × Nat × Nat × Nat × Nat × Nat × Nat × Nat) (fun u => True) (td_B (dC, dI) vwCl (td_T cI cJ cZ) (va_A [(qU, .inr (2, [.int 0, .int 0, .int 0, .null, .null, .null, .null, .null, .int 0, .int 0, .int 0, .int 0, .int 0, .int 0, .int 0]))] sz) (fun (u : Nat × Nat × Nat × Nat × Nat × Nat × Nat × Nat × Nat × Nat × Nat × Nat × Nat) => [(qU, .inr (2, [.int (nI w), .int (nI h), .int (nI ((w + 7) / 8)), .ref u.2.2.2.2.2.2.2.2.2.2.1, .ref u.2.2.2.2.2.2.2.2.2.2.2.1, .ref u.2.2.2.2.2.2.2.2.2.2.2.2, .ref u.1, .ref u.2.2.2.2.1, .int 0, .int 0, .int 0, .int 0, .int 0, .int 0, .int 0])), (u.2.2.2.2.2.2.2.2.2.2.1, .inl (cI, w * h, .inl (fun _ => 0))), (u.2.2.2.2.2.2.2.2.2.2.2.1, .inl (cI, w * h, .inl (fun _ => 0))), (u.2.2.2.2.2.2.2.2.2.2.2.2, .inl (cZ, (w + 7) / 8 * ((h + 7) / 8), .inl (fun _ => 0))), (u.1, .inr (1, [.ref u.2.1, .ref u.2.2.1, .ref u.2.2.2.1, .int 0])), (u.2.1, .inl (cJ, 1536, .inr (.inl (fun _ => 0)))), (u.2.2.1, .inl (cI, 512, .inl (fun _ => 0))), (u.2.2.2.1, .inl (cI, 512, .inl (fun _ => 0))), (u.2.2.2.2.1, .inr (0, [.ref u.2.2.2.2.2.1, .ref u.2.2.2.2.2.2.1, .ref u.2.2.2.2.2.2.2.1, .ref u.2.2.2.2.2.2.2.2.1, .ref u.2.2.2.2.2.2.2.2.2.1])), (u.2.2.2.2.2.1, .inl (cJ, 3, .inr (.inl (fun _ => 0)))), (u.2.2.2.2.2.2.1, .inl (cJ, 3, .inr (.inl (fun _ => 0)))), (u.2.2.2.2.2.2.2.1, .inl (cJ, 3, .inr (.inl (vp_updL (vp_updL (vp_updL (fun _ => 0) 0 1) 1 1) 2 1)))), (u.2.2.2.2.2.2.2.2.1, .inl (cJ, 3, .inr (.inl (fun _ => 0)))), (u.2.2.2.2.2.2.2.2.2.1, .inl (cJ, 3, .inr (.inl (fun _ => 0))))])) (va_A [(qU, .inr (2, [.int 0, .int 0, .int 0, .null, .null, .null, .null, .null, .int 0, .int 0, .int 0, .int 0, .int 0, .int 0, .int 0]))] sz)) 13 7228 (va_A [(qU, .inr (2, [.int 0, .int 0, .int 0, .null, .null, .null, .null, .null, .int 0, .int 0, .int 0, .int 0, .int 0, .int 0, .int 0]))] sz) := by
  refine Met.ofW (cc := cX2_init) (maxL := 4) (ret := none) (by decide) rfl ?_
  intro p e s m args below meth c s₁ B hml hv
  obtain ⟨rfl, hsz, hP, hK, hZ, hD0⟩ := hv
  have hx := B.exec
  have hb := B.bytes
  have hr := B.returns
  have hts := atoms_spec (ws := wsX2_init) B.pre
  have hown : s.vm.findClass RX2 = some m.cls := findClass_of_methodNamed B.named
  have hlocks := B.notSynchronized
  have hin : meth.name = "<init>" := (name_of_methodNamed B.named B.method).1
  subst hsz
  have hD := hD0.self (sz := s.heap.size)
  generalize hAe : va_A [(qU, .inr (2, [.int 0, .int 0, .int 0, .null, .null, .null, .null, .null, .int 0, .int 0, .int 0, .int 0, .int 0, .int 0, .int 0]))] s.heap.size = A at hD ⊢
  have hA : ∀ q : Nat, s.heap.size ≤ q → A q := fun q h => by rw [← hAe]; exact Or.inr h
  have hS : va_S A s.heap s.heap [] := va_S.rf
  have hP : va_P (dC, dI) vwCl [(qU, .inr (2, [.int 0, .int 0, .int 0, .null, .null, .null, .null, .null, .int 0, .int 0, .int 0, .int 0, .int 0, .int 0, .int 0]))] s.heap := hP
  have hl := lv_entry ([.ref qU, .int (nI w), .int (nI h)]) (n := 4) (Nat.le_of_ble_eq_true rfl)
  rw [lg_entry_eq]
  generalize (lg_sl ([.ref qU, .int (nI w), .int (nI h)]) ++ List.replicate (4 - (lg_sl ([.ref qU, .int (nI w), .int (nI h)])).length) Slot.unset).toArray = ls at hl ⊢
  have hl : lv_has ls 4 [(0, .ref qU), (1, .int (nI w)), (2, .int (nI h))] := hl
  have hw48 := td_wh hw2 hh2
  have ht36 : (w + 7) / 8 * ((h + 7) / 8) ≤ 36 := td_tt (by omega) (by omega)
  refine lv_aload_n hx hb dX2_init_0 rfl (lv_at hl 0 rfl) ?_
  refine W.objInit hx hb hown (hts (.methodLink RX2 3 objectInit) (td_i3 (List.mem_of_getElem? (i := 1) rfl))) (hts (.instanceMethod objectInit) (td_i1 (List.mem_of_getElem? (i := 14) rfl))) (hts _ (td_i1 (List.mem_of_getElem? (i := 15) rfl))) rfl (by rw [hml]; exact hl.1) rfl dX2_init_1 (Nat.le_of_ble_eq_true rfl) (Nat.le_of_ble_eq_true rfl) ?_
  refine W.eq (g2 := F0 m 4 ls []) rfl ?_
  refine lv_aload_n hx hb dX2_init_4 rfl (lv_at hl 0 rfl) ?_
  refine va_new (ci := 1) (fs := [.null, .null, .null, .int 0]) (C := RX1) (T := TX1) (N := 4) hx hb hts td_fX1 tyX1 tyX1_ok hown (hts (.classLink RX2 9 RX1) (td_i3 (List.mem_of_getElem? (i := 2) rfl))) (hts (.instantiable RX1 4) (td_i2 (List.mem_of_getElem? (i := 3) rfl))) (hts (.initialized RX1) (td_i1 (List.mem_of_getElem? (i := 3) rfl))) hK hP hD hS hA rfl (fun j hj => by rcases (show j = 0 ∨ j = 1 ∨ j = 2 ∨ j = 3 by omega) with rfl | rfl | rfl | rfl <;> rfl) (Nat.le_of_ble_eq_true rfl) (Nat.le_of_ble_eq_true rfl) dX2_init_5 (fun zT H hP hD hS => ?_)
  have hP : va_P (dC, dI) vwCl [(qU, .inr (2, [.int 0, .int 0, .int 0, .null, .null, .null, .null, .null, .int 0, .int 0, .int 0, .int 0, .int 0, .int 0, .int 0])), (zT, .inr (1, [.null, .null, .null, .int 0]))] H := hP
  have hD : va_D A [(qU, .inr (2, [.int 0, .int 0, .int 0, .null, .null, .null, .null, .null, .int 0, .int 0, .int 0, .int 0, .int 0, .int 0, .int 0])), (zT, .inr (1, [.null, .null, .null, .int 0]))] := hD
  refine W.widen (k := 1) (n := 4) (by omega) (by omega) ?_
  refine lv_dup hx hb dX2_init_8 rfl ?_
  refine td_cwv (wr := [(qU, .inr (2, [.int 0, .int 0, .int 0, .null, .null, .null, .null, .null, .int 0, .int 0, .int 0, .int 0, .int 0, .int 0, .int 0]))]) (va_runIN (As := []) (rest := [.ref zT, .ref qU]) ⟨hx, hb, hml, hown, hts⟩ (td_Pieces_init l dC dI cI cJ cZ H.size zT) (⟨va_cnB 0 hts (td_gC (td_i2 (List.mem_of_getElem? (i := 5) rfl))) rfl rfl rfl (hZ.2 _ (List.mem_of_getElem? (i := 6) rfl)) (hts (.initialized RX1) (td_i1 (List.mem_of_getElem? (i := 3) rfl))) (by decide +kernel) ⟨(Nat.le_of_ble_eq_true rfl), (Nat.le_of_ble_eq_true rfl)⟩, rfl, (hts (.instanceMethod yX1_init) (td_i2 (List.mem_of_getElem? (i := 4) rfl)))⟩) (td_pWS hK hZ hP hD [1] (by decide) rfl) rfl rfl hl.1 rfl (lv_room (Nat.le_of_ble_eq_true rfl)) dX2_init_9 ⟨(Nat.le_of_ble_eq_true rfl), (Nat.le_of_ble_eq_true rfl)⟩) hP hD hS hA [1] [0] rfl rfl (by decide) (by decide) (fun u H locs w9_1 hP hD hS => ?_)
  obtain ⟨zC, zI, zV⟩ := u
  try dsimp only at w9_1
  have hP : va_P (dC, dI) vwCl [(qU, .inr (2, [.int 0, .int 0, .int 0, .null, .null, .null, .null, .null, .int 0, .int 0, .int 0, .int 0, .int 0, .int 0, .int 0])), (zT, .inr (1, [.ref zC, .ref zI, .ref zV, .int 0])), (zC, .inl (cJ, 1536, .inr (.inl (fun _ => 0)))), (zI, .inl (cI, 512, .inl (fun _ => 0))), (zV, .inl (cI, 512, .inl (fun _ => 0)))] H := hP
  have hD : va_D A [(qU, .inr (2, [.int 0, .int 0, .int 0, .null, .null, .null, .null, .null, .int 0, .int 0, .int 0, .int 0, .int 0, .int 0, .int 0])), (zT, .inr (1, [.ref zC, .ref zI, .ref zV, .int 0])), (zC, .inl (cJ, 1536, .inr (.inl (fun _ => 0)))), (zI, .inl (cI, 512, .inl (fun _ => 0))), (zV, .inl (cI, 512, .inl (fun _ => 0)))] := hD
  refine W.widen (k := 4) (n := 2564) (by omega) (by omega) ?_
  refine va_putF (D := (dC, dI)) (ci := 2) (v := .ref zT) (ty := .object "TileDesk$Pieces") (C := RX2) (T := TX2) (N := 15) hx hb hts td_fX2 tyX2 tyX2_ok nmX2 hown hK hP hD hS 0 rfl rfl 6 (by decide) (hts (.fieldLink RX2 12 "TileDesk$Picture" "taken" "LTileDesk$Pieces;") (td_i3 (List.mem_of_getElem? (i := 10) rfl))) (fun _ h9 => h9) rfl hin rfl (by decide +kernel) rfl rfl (Nat.le_of_ble_eq_true rfl) dX2_init_12 (fun H locs hP hD hS => ?_)
  have hP : va_P (dC, dI) vwCl [(qU, .inr (2, [.int 0, .int 0, .int 0, .null, .null, .null, .ref zT, .null, .int 0, .int 0, .int 0, .int 0, .int 0, .int 0, .int 0])), (zT, .inr (1, [.ref zC, .ref zI, .ref zV, .int 0])), (zC, .inl (cJ, 1536, .inr (.inl (fun _ => 0)))), (zI, .inl (cI, 512, .inl (fun _ => 0))), (zV, .inl (cI, 512, .inl (fun _ => 0)))] H := hP
  have hD : va_D A [(qU, .inr (2, [.int 0, .int 0, .int 0, .null, .null, .null, .ref zT, .null, .int 0, .int 0, .int 0, .int 0, .int 0, .int 0, .int 0])), (zT, .inr (1, [.ref zC, .ref zI, .ref zV, .int 0])), (zC, .inl (cJ, 1536, .inr (.inl (fun _ => 0)))), (zI, .inl (cI, 512, .inl (fun _ => 0))), (zV, .inl (cI, 512, .inl (fun _ => 0)))] := hD
  refine lv_aload_n hx hb dX2_init_15 rfl (lv_at hl 0 rfl) ?_
  refine va_new (ci := 0) (fs := [.null, .null, .null, .null, .null]) (C := RX0) (T := TX0) (N := 5) hx hb hts td_fX0 tyX0 tyX0_ok hown (hts (.classLink RX2 18 RX0) (td_i3 (List.mem_of_getElem? (i := 3) rfl))) (hts (.instantiable RX0 5) (td_i1 (List.mem_of_getElem? (i := 17) rfl))) (hts (.initialized RX0) (td_i1 (List.mem_of_getElem? (i := 2) rfl))) hK hP hD hS hA rfl (fun j hj => by rcases (show j = 0 ∨ j = 1 ∨ j = 2 ∨ j = 3 ∨ j = 4 by omega) with rfl | rfl | rfl | rfl | rfl <;> rfl) (Nat.le_of_ble_eq_true rfl) (Nat.le_of_ble_eq_true rfl) dX2_init_16 (fun zH H hP hD hS => ?_)
  have hP : va_P (dC, dI) vwCl [(qU, .inr (2, [.int 0, .int 0, .int 0, .null, .null, .null, .ref zT, .null, .int 0, .int 0, .int 0, .int 0, .int 0, .int 0, .int 0])), (zT, .inr (1, [.ref zC, .ref zI, .ref zV, .int 0])), (zC, .inl (cJ, 1536, .inr (.inl (fun _ => 0)))), (zI, .inl (cI, 512, .inl (fun _ => 0))), (zV, .inl (cI, 512, .inl (fun _ => 0))), (zH, .inr (0, [.null, .null, .null, .null, .null]))] H := hP
  have hD : va_D A [(qU, .inr (2, [.int 0, .int 0, .int 0, .null, .null, .null, .ref zT, .null, .int 0, .int 0, .int 0, .int 0, .int 0, .int 0, .int 0])), (zT, .inr (1, [.ref zC, .ref zI, .ref zV, .int 0])), (zC, .inl (cJ, 1536, .inr (.inl (fun _ => 0)))), (zI, .inl (cI, 512, .inl (fun _ => 0))), (zV, .inl (cI, 512, .inl (fun _ => 0))), (zH, .inr (0, [.null, .null, .null, .null, .null]))] := hD
  refine W.widen (k := 5) (n := 2569) (by omega) (by omega) ?_
  refine lv_dup hx hb dX2_init_19 rfl ?_
  refine td_cwv (wr := [(qU, .inr (2, [.int 0, .int 0, .int 0, .null, .null, .null, .ref zT, .null, .int 0, .int 0, .int 0, .int 0, .int 0, .int 0, .int 0])), (zT, .inr (1, [.ref zC, .ref zI, .ref zV, .int 0])), (zC, .inl (cJ, 1536, .inr (.inl (fun _ => 0)))), (zI, .inl (cI, 512, .inl (fun _ => 0))), (zV, .inl (cI, 512, .inl (fun _ => 0)))]) (va_runIN (As := []) (rest := [.ref zH, .ref qU]) ⟨hx, hb, hml, hown, hts⟩ (td_Shape_init l dC dI cI cJ cZ H.size zH) (⟨va_cnB 0 hts (td_gC (td_i1 (List.mem_of_getElem? (i := 19) rfl))) rfl rfl rfl (hZ.2 _ (List.mem_of_getElem? (i := 7) rfl)) (hts (.initialized RX0) (td_i1 (List.mem_of_getElem? (i := 2) rfl))) (by decide +kernel) ⟨(Nat.le_of_ble_eq_true rfl), (Nat.le_of_ble_eq_true rfl)⟩, rfl, (hts (.instanceMethod yX0_init) (td_i1 (List.mem_of_getElem? (i := 18) rfl)))⟩) (td_pWS hK hZ hP hD [5] (by decide) rfl) rfl rfl hl.1 rfl (lv_room (Nat.le_of_ble_eq_true rfl)) dX2_init_20 ⟨(Nat.le_of_ble_eq_true rfl), (Nat.le_of_ble_eq_true rfl)⟩) hP hD hS hA [5] [0, 1, 2, 3, 4] rfl rfl (by decide) (by decide) (fun u H locs w20_3 hP hD hS => ?_)
  obtain ⟨zX, zY, zR, zL, zW⟩ := u
  try dsimp only at w20_3
  have hP : va_P (dC, dI) vwCl [(qU, .inr (2, [.int 0, .int 0, .int 0, .null, .null, .null, .ref zT, .null, .int 0, .int 0, .int 0, .int 0, .int 0, .int 0, .int 0])), (zT, .inr (1, [.ref zC, .ref zI, .ref zV, .int 0])), (zC, .inl (cJ, 1536, .inr (.inl (fun _ => 0)))), (zI, .inl (cI, 512, .inl (fun _ => 0))), (zV, .inl (cI, 512, .inl (fun _ => 0))), (zH, .inr (0, [.ref zX, .ref zY, .ref zR, .ref zL, .ref zW])), (zX, .inl (cJ, 3, .inr (.inl (fun _ => 0)))), (zY, .inl (cJ, 3, .inr (.inl (fun _ => 0)))), (zR, .inl (cJ, 3, .inr (.inl (vp_updL (vp_updL (vp_updL (fun _ => 0) 0 1) 1 1) 2 1)))), (zL, .inl (cJ, 3, .inr (.inl (fun _ => 0)))), (zW, .inl (cJ, 3, .inr (.inl (fun _ => 0))))] H := hP
  have hD : va_D A [(qU, .inr (2, [.int 0, .int 0, .int 0, .null, .null, .null, .ref zT, .null, .int 0, .int 0, .int 0, .int 0, .int 0, .int 0, .int 0])), (zT, .inr (1, [.ref zC, .ref zI, .ref zV, .int 0])), (zC, .inl (cJ, 1536, .inr (.inl (fun _ => 0)))), (zI, .inl (cI, 512, .inl (fun _ => 0))), (zV, .inl (cI, 512, .inl (fun _ => 0))), (zH, .inr (0, [.ref zX, .ref zY, .ref zR, .ref zL, .ref zW])), (zX, .inl (cJ, 3, .inr (.inl (fun _ => 0)))), (zY, .inl (cJ, 3, .inr (.inl (fun _ => 0)))), (zR, .inl (cJ, 3, .inr (.inl (vp_updL (vp_updL (vp_updL (fun _ => 0) 0 1) 1 1) 2 1)))), (zL, .inl (cJ, 3, .inr (.inl (fun _ => 0)))), (zW, .inl (cJ, 3, .inr (.inl (fun _ => 0))))] := hD
  refine W.widen (k := 10) (n := 2584) (by omega) (by omega) ?_
  refine va_putF (D := (dC, dI)) (ci := 2) (v := .ref zH) (ty := .object "TileDesk$Shape") (C := RX2) (T := TX2) (N := 15) hx hb hts td_fX2 tyX2 tyX2_ok nmX2 hown hK hP hD hS 0 rfl rfl 7 (by decide) (hts (.fieldLink RX2 21 "TileDesk$Picture" "shape" "LTileDesk$Shape;") (td_i3 (List.mem_of_getElem? (i := 11) rfl))) (fun _ h9 => h9) rfl hin rfl (by decide +kernel) rfl rfl (Nat.le_of_ble_eq_true rfl) dX2_init_23 (fun H locs hP hD hS => ?_)
  have hP : va_P (dC, dI) vwCl [(qU, .inr (2, [.int 0, .int 0, .int 0, .null, .null, .null, .ref zT, .ref zH, .int 0, .int 0, .int 0, .int 0, .int 0, .int 0, .int 0])), (zT, .inr (1, [.ref zC, .ref zI, .ref zV, .int 0])), (zC, .inl (cJ, 1536, .inr (.inl (fun _ => 0)))), (zI, .inl (cI, 512, .inl (fun _ => 0))), (zV, .inl (cI, 512, .inl (fun _ => 0))), (zH, .inr (0, [.ref zX, .ref zY, .ref zR, .ref zL, .ref zW])), (zX, .inl (cJ, 3, .inr (.inl (fun _ => 0)))), (zY, .inl (cJ, 3, .inr (.inl (fun _ => 0)))), (zR, .inl (cJ, 3, .inr (.inl (vp_updL (vp_updL (vp_updL (fun _ => 0) 0 1) 1 1) 2 1)))), (zL, .inl (cJ, 3, .inr (.inl (fun _ => 0)))), (zW, .inl (cJ, 3, .inr (.inl (fun _ => 0))))] H := hP
  have hD : va_D A [(qU, .inr (2, [.int 0, .int 0, .int 0, .null, .null, .null, .ref zT, .ref zH, .int 0, .int 0, .int 0, .int 0, .int 0, .int 0, .int 0])), (zT, .inr (1, [.ref zC, .ref zI, .ref zV, .int 0])), (zC, .inl (cJ, 1536, .inr (.inl (fun _ => 0)))), (zI, .inl (cI, 512, .inl (fun _ => 0))), (zV, .inl (cI, 512, .inl (fun _ => 0))), (zH, .inr (0, [.ref zX, .ref zY, .ref zR, .ref zL, .ref zW])), (zX, .inl (cJ, 3, .inr (.inl (fun _ => 0)))), (zY, .inl (cJ, 3, .inr (.inl (fun _ => 0)))), (zR, .inl (cJ, 3, .inr (.inl (vp_updL (vp_updL (vp_updL (fun _ => 0) 0 1) 1 1) 2 1)))), (zL, .inl (cJ, 3, .inr (.inl (fun _ => 0)))), (zW, .inl (cJ, 3, .inr (.inl (fun _ => 0))))] := hD
  refine lv_aload_n hx hb dX2_init_26 rfl (lv_at hl 0 rfl) ?_
  refine lv_iconst (v := 0) hx hb dX2_init_27 (by decide) ?_
  refine va_put (D := (dC, dI)) (ci := 2) (v := .int 0) (ty := .int) (C := RX2) (T := TX2) (N := 15) hx hb hts td_fX2 tyX2 tyX2_ok nmX2 hown hK hP hD hS 0 rfl rfl 8 (by decide) (hts (.fieldLink RX2 25 "TileDesk$Picture" "background" "I") (td_i3 (List.mem_of_getElem? (i := 12) rfl))) (fun _ h9 => h9) rfl (by decide +kernel) rfl rfl (Nat.le_of_ble_eq_true rfl) dX2_init_28 (fun H locs hP hD hS => ?_)
  have hP : va_P (dC, dI) vwCl [(qU, .inr (2, [.int 0, .int 0, .int 0, .null, .null, .null, .ref zT, .ref zH, .int 0, .int 0, .int 0, .int 0, .int 0, .int 0, .int 0])), (zT, .inr (1, [.ref zC, .ref zI, .ref zV, .int 0])), (zC, .inl (cJ, 1536, .inr (.inl (fun _ => 0)))), (zI, .inl (cI, 512, .inl (fun _ => 0))), (zV, .inl (cI, 512, .inl (fun _ => 0))), (zH, .inr (0, [.ref zX, .ref zY, .ref zR, .ref zL, .ref zW])), (zX, .inl (cJ, 3, .inr (.inl (fun _ => 0)))), (zY, .inl (cJ, 3, .inr (.inl (fun _ => 0)))), (zR, .inl (cJ, 3, .inr (.inl (vp_updL (vp_updL (vp_updL (fun _ => 0) 0 1) 1 1) 2 1)))), (zL, .inl (cJ, 3, .inr (.inl (fun _ => 0)))), (zW, .inl (cJ, 3, .inr (.inl (fun _ => 0))))] H := hP
  have hD : va_D A [(qU, .inr (2, [.int 0, .int 0, .int 0, .null, .null, .null, .ref zT, .ref zH, .int 0, .int 0, .int 0, .int 0, .int 0, .int 0, .int 0])), (zT, .inr (1, [.ref zC, .ref zI, .ref zV, .int 0])), (zC, .inl (cJ, 1536, .inr (.inl (fun _ => 0)))), (zI, .inl (cI, 512, .inl (fun _ => 0))), (zV, .inl (cI, 512, .inl (fun _ => 0))), (zH, .inr (0, [.ref zX, .ref zY, .ref zR, .ref zL, .ref zW])), (zX, .inl (cJ, 3, .inr (.inl (fun _ => 0)))), (zY, .inl (cJ, 3, .inr (.inl (fun _ => 0)))), (zR, .inl (cJ, 3, .inr (.inl (vp_updL (vp_updL (vp_updL (fun _ => 0) 0 1) 1 1) 2 1)))), (zL, .inl (cJ, 3, .inr (.inl (fun _ => 0)))), (zW, .inl (cJ, 3, .inr (.inl (fun _ => 0))))] := hD
  refine lv_aload_n hx hb dX2_init_31 rfl (lv_at hl 0 rfl) ?_
  refine lv_iconst (v := 0) hx hb dX2_init_32 (by decide) ?_
  refine va_put (D := (dC, dI)) (ci := 2) (v := .int 0) (ty := .boolean) (C := RX2) (T := TX2) (N := 15) hx hb hts td_fX2 tyX2 tyX2_ok nmX2 hown hK hP hD hS 0 rfl rfl 9 (by decide) (hts (.fieldLink RX2 29 "TileDesk$Picture" "begun" "Z") (td_i3 (List.mem_of_getElem? (i := 13) rfl))) (fun _ h9 => h9) rfl (by decide +kernel) rfl rfl (Nat.le_of_ble_eq_true rfl) dX2_init_33 (fun H locs hP hD hS => ?_)
  have hP : va_P (dC, dI) vwCl [(qU, .inr (2, [.int 0, .int 0, .int 0, .null, .null, .null, .ref zT, .ref zH, .int 0, .int 0, .int 0, .int 0, .int 0, .int 0, .int 0])), (zT, .inr (1, [.ref zC, .ref zI, .ref zV, .int 0])), (zC, .inl (cJ, 1536, .inr (.inl (fun _ => 0)))), (zI, .inl (cI, 512, .inl (fun _ => 0))), (zV, .inl (cI, 512, .inl (fun _ => 0))), (zH, .inr (0, [.ref zX, .ref zY, .ref zR, .ref zL, .ref zW])), (zX, .inl (cJ, 3, .inr (.inl (fun _ => 0)))), (zY, .inl (cJ, 3, .inr (.inl (fun _ => 0)))), (zR, .inl (cJ, 3, .inr (.inl (vp_updL (vp_updL (vp_updL (fun _ => 0) 0 1) 1 1) 2 1)))), (zL, .inl (cJ, 3, .inr (.inl (fun _ => 0)))), (zW, .inl (cJ, 3, .inr (.inl (fun _ => 0))))] H := hP
  have hD : va_D A [(qU, .inr (2, [.int 0, .int 0, .int 0, .null, .null, .null, .ref zT, .ref zH, .int 0, .int 0, .int 0, .int 0, .int 0, .int 0, .int 0])), (zT, .inr (1, [.ref zC, .ref zI, .ref zV, .int 0])), (zC, .inl (cJ, 1536, .inr (.inl (fun _ => 0)))), (zI, .inl (cI, 512, .inl (fun _ => 0))), (zV, .inl (cI, 512, .inl (fun _ => 0))), (zH, .inr (0, [.ref zX, .ref zY, .ref zR, .ref zL, .ref zW])), (zX, .inl (cJ, 3, .inr (.inl (fun _ => 0)))), (zY, .inl (cJ, 3, .inr (.inl (fun _ => 0)))), (zR, .inl (cJ, 3, .inr (.inl (vp_updL (vp_updL (vp_updL (fun _ => 0) 0 1) 1 1) 2 1)))), (zL, .inl (cJ, 3, .inr (.inl (fun _ => 0)))), (zW, .inl (cJ, 3, .inr (.inl (fun _ => 0))))] := hD
  refine lv_aload_n hx hb dX2_init_36 rfl (lv_at hl 0 rfl) ?_
  refine lv_iconst (v := 0) hx hb dX2_init_37 (by decide) ?_
  refine va_put (D := (dC, dI)) (ci := 2) (v := .int 0) (ty := .int) (C := RX2) (T := TX2) (N := 15) hx hb hts td_fX2 tyX2 tyX2_ok nmX2 hown hK hP hD hS 0 rfl rfl 10 (by decide) (hts (.fieldLink RX2 33 "TileDesk$Picture" "doneTiles" "I") (td_i3 (List.mem_of_getElem? (i := 14) rfl))) (fun _ h9 => h9) rfl (by decide +kernel) rfl rfl (Nat.le_of_ble_eq_true rfl) dX2_init_38 (fun H locs hP hD hS => ?_)
  have hP : va_P (dC, dI) vwCl [(qU, .inr (2, [.int 0, .int 0, .int 0, .null, .null, .null, .ref zT, .ref zH, .int 0, .int 0, .int 0, .int 0, .int 0, .int 0, .int 0])), (zT, .inr (1, [.ref zC, .ref zI, .ref zV, .int 0])), (zC, .inl (cJ, 1536, .inr (.inl (fun _ => 0)))), (zI, .inl (cI, 512, .inl (fun _ => 0))), (zV, .inl (cI, 512, .inl (fun _ => 0))), (zH, .inr (0, [.ref zX, .ref zY, .ref zR, .ref zL, .ref zW])), (zX, .inl (cJ, 3, .inr (.inl (fun _ => 0)))), (zY, .inl (cJ, 3, .inr (.inl (fun _ => 0)))), (zR, .inl (cJ, 3, .inr (.inl (vp_updL (vp_updL (vp_updL (fun _ => 0) 0 1) 1 1) 2 1)))), (zL, .inl (cJ, 3, .inr (.inl (fun _ => 0)))), (zW, .inl (cJ, 3, .inr (.inl (fun _ => 0))))] H := hP
  have hD : va_D A [(qU, .inr (2, [.int 0, .int 0, .int 0, .null, .null, .null, .ref zT, .ref zH, .int 0, .int 0, .int 0, .int 0, .int 0, .int 0, .int 0])), (zT, .inr (1, [.ref zC, .ref zI, .ref zV, .int 0])), (zC, .inl (cJ, 1536, .inr (.inl (fun _ => 0)))), (zI, .inl (cI, 512, .inl (fun _ => 0))), (zV, .inl (cI, 512, .inl (fun _ => 0))), (zH, .inr (0, [.ref zX, .ref zY, .ref zR, .ref zL, .ref zW])), (zX, .inl (cJ, 3, .inr (.inl (fun _ => 0)))), (zY, .inl (cJ, 3, .inr (.inl (fun _ => 0)))), (zR, .inl (cJ, 3, .inr (.inl (vp_updL (vp_updL (vp_updL (fun _ => 0) 0 1) 1 1) 2 1)))), (zL, .inl (cJ, 3, .inr (.inl (fun _ => 0)))), (zW, .inl (cJ, 3, .inr (.inl (fun _ => 0))))] := hD
  refine lv_aload_n hx hb dX2_init_41 rfl (lv_at hl 0 rfl) ?_
  refine lv_iconst (v := 0) hx hb dX2_init_42 (by decide) ?_
  refine va_put (D := (dC, dI)) (ci := 2) (v := .int 0) (ty := .int) (C := RX2) (T := TX2) (N := 15) hx hb hts td_fX2 tyX2 tyX2_ok nmX2 hown hK hP hD hS 0 rfl rfl 11 (by decide) (hts (.fieldLink RX2 36 "TileDesk$Picture" "left" "I") (td_i3 (List.mem_of_getElem? (i := 15) rfl))) (fun _ h9 => h9) rfl (by decide +kernel) rfl rfl (Nat.le_of_ble_eq_true rfl) dX2_init_43 (fun H locs hP hD hS => ?_)
  have hP : va_P (dC, dI) vwCl [(qU, .inr (2, [.int 0, .int 0, .int 0, .null, .null, .null, .ref zT, .ref zH, .int 0, .int 0, .int 0, .int 0, .int 0, .int 0, .int 0])), (zT, .inr (1, [.ref zC, .ref zI, .ref zV, .int 0])), (zC, .inl (cJ, 1536, .inr (.inl (fun _ => 0)))), (zI, .inl (cI, 512, .inl (fun _ => 0))), (zV, .inl (cI, 512, .inl (fun _ => 0))), (zH, .inr (0, [.ref zX, .ref zY, .ref zR, .ref zL, .ref zW])), (zX, .inl (cJ, 3, .inr (.inl (fun _ => 0)))), (zY, .inl (cJ, 3, .inr (.inl (fun _ => 0)))), (zR, .inl (cJ, 3, .inr (.inl (vp_updL (vp_updL (vp_updL (fun _ => 0) 0 1) 1 1) 2 1)))), (zL, .inl (cJ, 3, .inr (.inl (fun _ => 0)))), (zW, .inl (cJ, 3, .inr (.inl (fun _ => 0))))] H := hP
  have hD : va_D A [(qU, .inr (2, [.int 0, .int 0, .int 0, .null, .null, .null, .ref zT, .ref zH, .int 0, .int 0, .int 0, .int 0, .int 0, .int 0, .int 0])), (zT, .inr (1, [.ref zC, .ref zI, .ref zV, .int 0])), (zC, .inl (cJ, 1536, .inr (.inl (fun _ => 0)))), (zI, .inl (cI, 512, .inl (fun _ => 0))), (zV, .inl (cI, 512, .inl (fun _ => 0))), (zH, .inr (0, [.ref zX, .ref zY, .ref zR, .ref zL, .ref zW])), (zX, .inl (cJ, 3, .inr (.inl (fun _ => 0)))), (zY, .inl (cJ, 3, .inr (.inl (fun _ => 0)))), (zR, .inl (cJ, 3, .inr (.inl (vp_updL (vp_updL (vp_updL (fun _ => 0) 0 1) 1 1) 2 1)))), (zL, .inl (cJ, 3, .inr (.inl (fun _ => 0)))), (zW, .inl (cJ, 3, .inr (.inl (fun _ => 0))))] := hD
  refine lv_aload_n hx hb dX2_init_46 rfl (lv_at hl 0 rfl) ?_
  refine lv_iconst (v := 0) hx hb dX2_init_47 (by decide) ?_
  refine va_put (D := (dC, dI)) (ci := 2) (v := .int 0) (ty := .int) (C := RX2) (T := TX2) (N := 15) hx hb hts td_fX2 tyX2 tyX2_ok nmX2 hown hK hP hD hS 0 rfl rfl 12 (by decide) (hts (.fieldLink RX2 39 "TileDesk$Picture" "top" "I") (td_i3 (List.mem_of_getElem? (i := 16) rfl))) (fun _ h9 => h9) rfl (by decide +kernel) rfl rfl (Nat.le_of_ble_eq_true rfl) dX2_init_48 (fun H locs hP hD hS => ?_)
  have hP : va_P (dC, dI) vwCl [(qU, .inr (2, [.int 0, .int 0, .int 0, .null, .null, .null, .ref zT, .ref zH, .int 0, .int 0, .int 0, .int 0, .int 0, .int 0, .int 0])), (zT, .inr (1, [.ref zC, .ref zI, .ref zV, .int 0])), (zC, .inl (cJ, 1536, .inr (.inl (fun _ => 0)))), (zI, .inl (cI, 512, .inl (fun _ => 0))), (zV, .inl (cI, 512, .inl (fun _ => 0))), (zH, .inr (0, [.ref zX, .ref zY, .ref zR, .ref zL, .ref zW])), (zX, .inl (cJ, 3, .inr (.inl (fun _ => 0)))), (zY, .inl (cJ, 3, .inr (.inl (fun _ => 0)))), (zR, .inl (cJ, 3, .inr (.inl (vp_updL (vp_updL (vp_updL (fun _ => 0) 0 1) 1 1) 2 1)))), (zL, .inl (cJ, 3, .inr (.inl (fun _ => 0)))), (zW, .inl (cJ, 3, .inr (.inl (fun _ => 0))))] H := hP
  have hD : va_D A [(qU, .inr (2, [.int 0, .int 0, .int 0, .null, .null, .null, .ref zT, .ref zH, .int 0, .int 0, .int 0, .int 0, .int 0, .int 0, .int 0])), (zT, .inr (1, [.ref zC, .ref zI, .ref zV, .int 0])), (zC, .inl (cJ, 1536, .inr (.inl (fun _ => 0)))), (zI, .inl (cI, 512, .inl (fun _ => 0))), (zV, .inl (cI, 512, .inl (fun _ => 0))), (zH, .inr (0, [.ref zX, .ref zY, .ref zR, .ref zL, .ref zW])), (zX, .inl (cJ, 3, .inr (.inl (fun _ => 0)))), (zY, .inl (cJ, 3, .inr (.inl (fun _ => 0)))), (zR, .inl (cJ, 3, .inr (.inl (vp_updL (vp_updL (vp_updL (fun _ => 0) 0 1) 1 1) 2 1)))), (zL, .inl (cJ, 3, .inr (.inl (fun _ => 0)))), (zW, .inl (cJ, 3, .inr (.inl (fun _ => 0))))] := hD
  refine lv_aload_n hx hb dX2_init_51 rfl (lv_at hl 0 rfl) ?_
  refine lv_iconst (v := 0) hx hb dX2_init_52 (by decide) ?_
  refine va_put (D := (dC, dI)) (ci := 2) (v := .int 0) (ty := .int) (C := RX2) (T := TX2) (N := 15) hx hb hts td_fX2 tyX2 tyX2_ok nmX2 hown hK hP hD hS 0 rfl rfl 13 (by decide) (hts (.fieldLink RX2 42 "TileDesk$Picture" "right" "I") (td_i3 (List.mem_of_getElem? (i := 17) rfl))) (fun _ h9 => h9) rfl (by decide +kernel) rfl rfl (Nat.le_of_ble_eq_true rfl) dX2_init_53 (fun H locs hP hD hS => ?_)
  have hP : va_P (dC, dI) vwCl [(qU, .inr (2, [.int 0, .int 0, .int 0, .null, .null, .null, .ref zT, .ref zH, .int 0, .int 0, .int 0, .int 0, .int 0, .int 0, .int 0])), (zT, .inr (1, [.ref zC, .ref zI, .ref zV, .int 0])), (zC, .inl (cJ, 1536, .inr (.inl (fun _ => 0)))), (zI, .inl (cI, 512, .inl (fun _ => 0))), (zV, .inl (cI, 512, .inl (fun _ => 0))), (zH, .inr (0, [.ref zX, .ref zY, .ref zR, .ref zL, .ref zW])), (zX, .inl (cJ, 3, .inr (.inl (fun _ => 0)))), (zY, .inl (cJ, 3, .inr (.inl (fun _ => 0)))), (zR, .inl (cJ, 3, .inr (.inl (vp_updL (vp_updL (vp_updL (fun _ => 0) 0 1) 1 1) 2 1)))), (zL, .inl (cJ, 3, .inr (.inl (fun _ => 0)))), (zW, .inl (cJ, 3, .inr (.inl (fun _ => 0))))] H := hP
  have hD : va_D A [(qU, .inr (2, [.int 0, .int 0, .int 0, .null, .null, .null, .ref zT, .ref zH, .int 0, .int 0, .int 0, .int 0, .int 0, .int 0, .int 0])), (zT, .inr (1, [.ref zC, .ref zI, .ref zV, .int 0])), (zC, .inl (cJ, 1536, .inr (.inl (fun _ => 0)))), (zI, .inl (cI, 512, .inl (fun _ => 0))), (zV, .inl (cI, 512, .inl (fun _ => 0))), (zH, .inr (0, [.ref zX, .ref zY, .ref zR, .ref zL, .ref zW])), (zX, .inl (cJ, 3, .inr (.inl (fun _ => 0)))), (zY, .inl (cJ, 3, .inr (.inl (fun _ => 0)))), (zR, .inl (cJ, 3, .inr (.inl (vp_updL (vp_updL (vp_updL (fun _ => 0) 0 1) 1 1) 2 1)))), (zL, .inl (cJ, 3, .inr (.inl (fun _ => 0)))), (zW, .inl (cJ, 3, .inr (.inl (fun _ => 0))))] := hD
  refine lv_aload_n hx hb dX2_init_56 rfl (lv_at hl 0 rfl) ?_
  refine lv_iconst (v := 0) hx hb dX2_init_57 (by decide) ?_
  refine va_put (D := (dC, dI)) (ci := 2) (v := .int 0) (ty := .int) (C := RX2) (T := TX2) (N := 15) hx hb hts td_fX2 tyX2 tyX2_ok nmX2 hown hK hP hD hS 0 rfl rfl 14 (by decide) (hts (.fieldLink RX2 45 "TileDesk$Picture" "bottom" "I") (td_i3 (List.mem_of_getElem? (i := 18) rfl))) (fun _ h9 => h9) rfl (by decide +kernel) rfl rfl (Nat.le_of_ble_eq_true rfl) dX2_init_58 (fun H locs hP hD hS => ?_)
  have hP : va_P (dC, dI) vwCl [(qU, .inr (2, [.int 0, .int 0, .int 0, .null, .null, .null, .ref zT, .ref zH, .int 0, .int 0, .int 0, .int 0, .int 0, .int 0, .int 0])), (zT, .inr (1, [.ref zC, .ref zI, .ref zV, .int 0])), (zC, .inl (cJ, 1536, .inr (.inl (fun _ => 0)))), (zI, .inl (cI, 512, .inl (fun _ => 0))), (zV, .inl (cI, 512, .inl (fun _ => 0))), (zH, .inr (0, [.ref zX, .ref zY, .ref zR, .ref zL, .ref zW])), (zX, .inl (cJ, 3, .inr (.inl (fun _ => 0)))), (zY, .inl (cJ, 3, .inr (.inl (fun _ => 0)))), (zR, .inl (cJ, 3, .inr (.inl (vp_updL (vp_updL (vp_updL (fun _ => 0) 0 1) 1 1) 2 1)))), (zL, .inl (cJ, 3, .inr (.inl (fun _ => 0)))), (zW, .inl (cJ, 3, .inr (.inl (fun _ => 0))))] H := hP
  have hD : va_D A [(qU, .inr (2, [.int 0, .int 0, .int 0, .null, .null, .null, .ref zT, .ref zH, .int 0, .int 0, .int 0, .int 0, .int 0, .int 0, .int 0])), (zT, .inr (1, [.ref zC, .ref zI, .ref zV, .int 0])), (zC, .inl (cJ, 1536, .inr (.inl (fun _ => 0)))), (zI, .inl (cI, 512, .inl (fun _ => 0))), (zV, .inl (cI, 512, .inl (fun _ => 0))), (zH, .inr (0, [.ref zX, .ref zY, .ref zR, .ref zL, .ref zW])), (zX, .inl (cJ, 3, .inr (.inl (fun _ => 0)))), (zY, .inl (cJ, 3, .inr (.inl (fun _ => 0)))), (zR, .inl (cJ, 3, .inr (.inl (vp_updL (vp_updL (vp_updL (fun _ => 0) 0 1) 1 1) 2 1)))), (zL, .inl (cJ, 3, .inr (.inl (fun _ => 0)))), (zW, .inl (cJ, 3, .inr (.inl (fun _ => 0))))] := hD
  refine lv_aload_n hx hb dX2_init_61 rfl (lv_at hl 0 rfl) ?_
  refine lv_iload_n hx hb dX2_init_62 rfl (lv_at hl 1 rfl) ?_
  refine va_putF (D := (dC, dI)) (ci := 2) (v := .int (nI w)) (ty := .int) (C := RX2) (T := TX2) (N := 15) hx hb hts td_fX2 tyX2 tyX2_ok nmX2 hown hK hP hD hS 0 rfl rfl 0 (by decide) (hts (.fieldLink RX2 48 "TileDesk$Picture" "width" "I") (td_i3 (List.mem_of_getElem? (i := 4) rfl))) (fun _ h9 => h9) rfl hin rfl (by decide +kernel) rfl rfl (Nat.le_of_ble_eq_true rfl) dX2_init_63 (fun H locs hP hD hS => ?_)
  have hP : va_P (dC, dI) vwCl [(qU, .inr (2, [.int (nI w), .int 0, .int 0, .null, .null, .null, .ref zT, .ref zH, .int 0, .int 0, .int 0, .int 0, .int 0, .int 0, .int 0])), (zT, .inr (1, [.ref zC, .ref zI, .ref zV, .int 0])), (zC, .inl (cJ, 1536, .inr (.inl (fun _ => 0)))), (zI, .inl (cI, 512, .inl (fun _ => 0))), (zV, .inl (cI, 512, .inl (fun _ => 0))), (zH, .inr (0, [.ref zX, .ref zY, .ref zR, .ref zL, .ref zW])), (zX, .inl (cJ, 3, .inr (.inl (fun _ => 0)))), (zY, .inl (cJ, 3, .inr (.inl (fun _ => 0)))), (zR, .inl (cJ, 3, .inr (.inl (vp_updL (vp_updL (vp_updL (fun _ => 0) 0 1) 1 1) 2 1)))), (zL, .inl (cJ, 3, .inr (.inl (fun _ => 0)))), (zW, .inl (cJ, 3, .inr (.inl (fun _ => 0))))] H := hP
  have hD : va_D A [(qU, .inr (2, [.int (nI w), .int 0, .int 0, .null, .null, .null, .ref zT, .ref zH, .int 0, .int 0, .int 0, .int 0, .int 0, .int 0, .int 0])), (zT, .inr (1, [.ref zC, .ref zI, .ref zV, .int 0])), (zC, .inl (cJ, 1536, .inr (.inl (fun _ => 0)))), (zI, .inl (cI, 512, .inl (fun _ => 0))), (zV, .inl (cI, 512, .inl (fun _ => 0))), (zH, .inr (0, [.ref zX, .ref zY, .ref zR, .ref zL, .ref zW])), (zX, .inl (cJ, 3, .inr (.inl (fun _ => 0)))), (zY, .inl (cJ, 3, .inr (.inl (fun _ => 0)))), (zR, .inl (cJ, 3, .inr (.inl (vp_updL (vp_updL (vp_updL (fun _ => 0) 0 1) 1 1) 2 1)))), (zL, .inl (cJ, 3, .inr (.inl (fun _ => 0)))), (zW, .inl (cJ, 3, .inr (.inl (fun _ => 0))))] := hD
  refine lv_aload_n hx hb dX2_init_66 rfl (lv_at hl 0 rfl) ?_
  refine lv_iload_n hx hb dX2_init_67 rfl (lv_at hl 2 rfl) ?_
  refine va_putF (D := (dC, dI)) (ci := 2) (v := .int (nI h)) (ty := .int) (C := RX2) (T := TX2) (N := 15) hx hb hts td_fX2 tyX2 tyX2_ok nmX2 hown hK hP hD hS 0 rfl rfl 1 (by decide) (hts (.fieldLink RX2 51 "TileDesk$Picture" "height" "I") (td_i3 (List.mem_of_getElem? (i := 5) rfl))) (fun _ h9 => h9) rfl hin rfl (by decide +kernel) rfl rfl (Nat.le_of_ble_eq_true rfl) dX2_init_68 (fun H locs hP hD hS => ?_)
  have hP : va_P (dC, dI) vwCl [(qU, .inr (2, [.int (nI w), .int (nI h), .int 0, .null, .null, .null, .ref zT, .ref zH, .int 0, .int 0, .int 0, .int 0, .int 0, .int 0, .int 0])), (zT, .inr (1, [.ref zC, .ref zI, .ref zV, .int 0])), (zC, .inl (cJ, 1536, .inr (.inl (fun _ => 0)))), (zI, .inl (cI, 512, .inl (fun _ => 0))), (zV, .inl (cI, 512, .inl (fun _ => 0))), (zH, .inr (0, [.ref zX, .ref zY, .ref zR, .ref zL, .ref zW])), (zX, .inl (cJ, 3, .inr (.inl (fun _ => 0)))), (zY, .inl (cJ, 3, .inr (.inl (fun _ => 0)))), (zR, .inl (cJ, 3, .inr (.inl (vp_updL (vp_updL (vp_updL (fun _ => 0) 0 1) 1 1) 2 1)))), (zL, .inl (cJ, 3, .inr (.inl (fun _ => 0)))), (zW, .inl (cJ, 3, .inr (.inl (fun _ => 0))))] H := hP
  have hD : va_D A [(qU, .inr (2, [.int (nI w), .int (nI h), .int 0, .null, .null, .null, .ref zT, .ref zH, .int 0, .int 0, .int 0, .int 0, .int 0, .int 0, .int 0])), (zT, .inr (1, [.ref zC, .ref zI, .ref zV, .int 0])), (zC, .inl (cJ, 1536, .inr (.inl (fun _ => 0)))), (zI, .inl (cI, 512, .inl (fun _ => 0))), (zV, .inl (cI, 512, .inl (fun _ => 0))), (zH, .inr (0, [.ref zX, .ref zY, .ref zR, .ref zL, .ref zW])), (zX, .inl (cJ, 3, .inr (.inl (fun _ => 0)))), (zY, .inl (cJ, 3, .inr (.inl (fun _ => 0)))), (zR, .inl (cJ, 3, .inr (.inl (vp_updL (vp_updL (vp_updL (fun _ => 0) 0 1) 1 1) 2 1)))), (zL, .inl (cJ, 3, .inr (.inl (fun _ => 0)))), (zW, .inl (cJ, 3, .inr (.inl (fun _ => 0))))] := hD
  refine lv_aload_n hx hb dX2_init_71 rfl (lv_at hl 0 rfl) ?_
  refine lv_iload_n hx hb dX2_init_72 rfl (lv_at hl 1 rfl) ?_
  refine lv_bipush (v := 8) hx hb dX2_init_73 (by decide) ?_
  refine lv_iadd hx hb dX2_init_75 ?_
  refine td_ti (nI (w + 8)) (nI_add w 8) ?_
  refine lv_iconst (v := 1) hx hb dX2_init_76 (by decide) ?_
  refine lv_isub hx hb dX2_init_77 ?_
  refine td_ti (nI (w + 7)) ((pk_sub (b := 1) (by omega)).trans (congrArg nI (by omega))) ?_
  refine lv_bipush (v := 8) hx hb dX2_init_78 (by decide) ?_
  refine lv_idiv hx hb dX2_init_80 (by decide) ?_
  refine td_ti (nI ((w + 7) / 8)) (pk_div (d := 8) (by omega) (by decide) (by decide)) ?_
  refine va_putF (D := (dC, dI)) (ci := 2) (v := .int (nI ((w + 7) / 8))) (ty := .int) (C := RX2) (T := TX2) (N := 15) hx hb hts td_fX2 tyX2 tyX2_ok nmX2 hown hK hP hD hS 0 rfl rfl 2 (by decide) (hts (.fieldLink RX2 54 "TileDesk$Picture" "tilesAcross" "I") (td_i3 (List.mem_of_getElem? (i := 6) rfl))) (fun _ h9 => h9) rfl hin rfl (by decide +kernel) rfl rfl (Nat.le_of_ble_eq_true rfl) dX2_init_81 (fun H locs hP hD hS => ?_)
  have hP : va_P (dC, dI) vwCl [(qU, .inr (2, [.int (nI w), .int (nI h), .int (nI ((w + 7) / 8)), .null, .null, .null, .ref zT, .ref zH, .int 0, .int 0, .int 0, .int 0, .int 0, .int 0, .int 0])), (zT, .inr (1, [.ref zC, .ref zI, .ref zV, .int 0])), (zC, .inl (cJ, 1536, .inr (.inl (fun _ => 0)))), (zI, .inl (cI, 512, .inl (fun _ => 0))), (zV, .inl (cI, 512, .inl (fun _ => 0))), (zH, .inr (0, [.ref zX, .ref zY, .ref zR, .ref zL, .ref zW])), (zX, .inl (cJ, 3, .inr (.inl (fun _ => 0)))), (zY, .inl (cJ, 3, .inr (.inl (fun _ => 0)))), (zR, .inl (cJ, 3, .inr (.inl (vp_updL (vp_updL (vp_updL (fun _ => 0) 0 1) 1 1) 2 1)))), (zL, .inl (cJ, 3, .inr (.inl (fun _ => 0)))), (zW, .inl (cJ, 3, .inr (.inl (fun _ => 0))))] H := hP
  have hD : va_D A [(qU, .inr (2, [.int (nI w), .int (nI h), .int (nI ((w + 7) / 8)), .null, .null, .null, .ref zT, .ref zH, .int 0, .int 0, .int 0, .int 0, .int 0, .int 0, .int 0])), (zT, .inr (1, [.ref zC, .ref zI, .ref zV, .int 0])), (zC, .inl (cJ, 1536, .inr (.inl (fun _ => 0)))), (zI, .inl (cI, 512, .inl (fun _ => 0))), (zV, .inl (cI, 512, .inl (fun _ => 0))), (zH, .inr (0, [.ref zX, .ref zY, .ref zR, .ref zL, .ref zW])), (zX, .inl (cJ, 3, .inr (.inl (fun _ => 0)))), (zY, .inl (cJ, 3, .inr (.inl (fun _ => 0)))), (zR, .inl (cJ, 3, .inr (.inl (vp_updL (vp_updL (vp_updL (fun _ => 0) 0 1) 1 1) 2 1)))), (zL, .inl (cJ, 3, .inr (.inl (fun _ => 0)))), (zW, .inl (cJ, 3, .inr (.inl (fun _ => 0))))] := hD
  refine lv_iload_n hx hb dX2_init_84 rfl (lv_at hl 2 rfl) ?_
  refine lv_bipush (v := 8) hx hb dX2_init_85 (by decide) ?_
  refine lv_iadd hx hb dX2_init_87 ?_
  refine td_ti (nI (h + 8)) (nI_add h 8) ?_
  refine lv_iconst (v := 1) hx hb dX2_init_88 (by decide) ?_
  refine lv_isub hx hb dX2_init_89 ?_
  refine td_ti (nI (h + 7)) ((pk_sub (b := 1) (by omega)).trans (congrArg nI (by omega))) ?_
  refine lv_bipush (v := 8) hx hb dX2_init_90 (by decide) ?_
  refine lv_idiv hx hb dX2_init_92 (by decide) ?_
  refine td_ti (nI ((h + 7) / 8)) (pk_div (d := 8) (by omega) (by decide) (by decide)) ?_
  refine lv_istore_n (lv' := [(3, .int (nI ((h + 7) / 8))), (0, .ref qU), (1, .int (nI w)), (2, .int (nI h))]) hx hb dX2_init_93 rfl hl (by decide) rfl (fun ls hl => ?_)
  refine lv_aload_n hx hb dX2_init_94 rfl (lv_at hl 1 rfl) ?_
  refine lv_iload_n hx hb dX2_init_95 rfl (lv_at hl 2 rfl) ?_
  refine lv_iload_n hx hb dX2_init_96 rfl (lv_at hl 3 rfl) ?_
  refine lv_imul hx hb dX2_init_97 ?_
  refine td_ti (nI (w * h)) (pk_mul w h) ?_
  refine td_newa (a0 := (w * h, .inl (fun _ => 0))) (atype := .int) 0 hx hb (hts (.arrayClass .int) (td_i0 (List.mem_of_getElem? (i := 1) rfl))) rfl hK hP hD hS hA rfl (td_raI s) (fun _ => rfl) rfl (by omega) (by show (w * h) * 4 ≤ 536870912; omega) (Nat.le_of_ble_eq_true rfl) (by show 2584 + w * h ≤ 7228; omega) dX2_init_98 (fun zc H hP hD hS => ?_)
  have hP : va_P (dC, dI) vwCl [(qU, .inr (2, [.int (nI w), .int (nI h), .int (nI ((w + 7) / 8)), .null, .null, .null, .ref zT, .ref zH, .int 0, .int 0, .int 0, .int 0, .int 0, .int 0, .int 0])), (zT, .inr (1, [.ref zC, .ref zI, .ref zV, .int 0])), (zC, .inl (cJ, 1536, .inr (.inl (fun _ => 0)))), (zI, .inl (cI, 512, .inl (fun _ => 0))), (zV, .inl (cI, 512, .inl (fun _ => 0))), (zH, .inr (0, [.ref zX, .ref zY, .ref zR, .ref zL, .ref zW])), (zX, .inl (cJ, 3, .inr (.inl (fun _ => 0)))), (zY, .inl (cJ, 3, .inr (.inl (fun _ => 0)))), (zR, .inl (cJ, 3, .inr (.inl (vp_updL (vp_updL (vp_updL (fun _ => 0) 0 1) 1 1) 2 1)))), (zL, .inl (cJ, 3, .inr (.inl (fun _ => 0)))), (zW, .inl (cJ, 3, .inr (.inl (fun _ => 0)))), (zc, .inl (cI, w * h, .inl (fun _ => 0)))] H := hP
  have hD : va_D A [(qU, .inr (2, [.int (nI w), .int (nI h), .int (nI ((w + 7) / 8)), .null, .null, .null, .ref zT, .ref zH, .int 0, .int 0, .int 0, .int 0, .int 0, .int 0, .int 0])), (zT, .inr (1, [.ref zC, .ref zI, .ref zV, .int 0])), (zC, .inl (cJ, 1536, .inr (.inl (fun _ => 0)))), (zI, .inl (cI, 512, .inl (fun _ => 0))), (zV, .inl (cI, 512, .inl (fun _ => 0))), (zH, .inr (0, [.ref zX, .ref zY, .ref zR, .ref zL, .ref zW])), (zX, .inl (cJ, 3, .inr (.inl (fun _ => 0)))), (zY, .inl (cJ, 3, .inr (.inl (fun _ => 0)))), (zR, .inl (cJ, 3, .inr (.inl (vp_updL (vp_updL (vp_updL (fun _ => 0) 0 1) 1 1) 2 1)))), (zL, .inl (cJ, 3, .inr (.inl (fun _ => 0)))), (zW, .inl (cJ, 3, .inr (.inl (fun _ => 0)))), (zc, .inl (cI, w * h, .inl (fun _ => 0)))] := hD
  refine W.widen (k := 11) (n := 4888) (by omega) (by omega) ?_
  refine va_putF (D := (dC, dI)) (ci := 2) (v := .ref zc) (ty := .array .int) (C := RX2) (T := TX2) (N := 15) hx hb hts td_fX2 tyX2 tyX2_ok nmX2 hown hK hP hD hS 0 rfl rfl 3 (by decide) (hts (.fieldLink RX2 57 "TileDesk$Picture" "colours" "[I") (td_i3 (List.mem_of_getElem? (i := 7) rfl))) (fun _ h9 => h9) rfl hin rfl (by decide +kernel) rfl rfl (Nat.le_of_ble_eq_true rfl) dX2_init_100 (fun H locs hP hD hS => ?_)
  have hP : va_P (dC, dI) vwCl [(qU, .inr (2, [.int (nI w), .int (nI h), .int (nI ((w + 7) / 8)), .ref zc, .null, .null, .ref zT, .ref zH, .int 0, .int 0, .int 0, .int 0, .int 0, .int 0, .int 0])), (zT, .inr (1, [.ref zC, .ref zI, .ref zV, .int 0])), (zC, .inl (cJ, 1536, .inr (.inl (fun _ => 0)))), (zI, .inl (cI, 512, .inl (fun _ => 0))), (zV, .inl (cI, 512, .inl (fun _ => 0))), (zH, .inr (0, [.ref zX, .ref zY, .ref zR, .ref zL, .ref zW])), (zX, .inl (cJ, 3, .inr (.inl (fun _ => 0)))), (zY, .inl (cJ, 3, .inr (.inl (fun _ => 0)))), (zR, .inl (cJ, 3, .inr (.inl (vp_updL (vp_updL (vp_updL (fun _ => 0) 0 1) 1 1) 2 1)))), (zL, .inl (cJ, 3, .inr (.inl (fun _ => 0)))), (zW, .inl (cJ, 3, .inr (.inl (fun _ => 0)))), (zc, .inl (cI, w * h, .inl (fun _ => 0)))] H := hP
  have hD : va_D A [(qU, .inr (2, [.int (nI w), .int (nI h), .int (nI ((w + 7) / 8)), .ref zc, .null, .null, .ref zT, .ref zH, .int 0, .int 0, .int 0, .int 0, .int 0, .int 0, .int 0])), (zT, .inr (1, [.ref zC, .ref zI, .ref zV, .int 0])), (zC, .inl (cJ, 1536, .inr (.inl (fun _ => 0)))), (zI, .inl (cI, 512, .inl (fun _ => 0))), (zV, .inl (cI, 512, .inl (fun _ => 0))), (zH, .inr (0, [.ref zX, .ref zY, .ref zR, .ref zL, .ref zW])), (zX, .inl (cJ, 3, .inr (.inl (fun _ => 0)))), (zY, .inl (cJ, 3, .inr (.inl (fun _ => 0)))), (zR, .inl (cJ, 3, .inr (.inl (vp_updL (vp_updL (vp_updL (fun _ => 0) 0 1) 1 1) 2 1)))), (zL, .inl (cJ, 3, .inr (.inl (fun _ => 0)))), (zW, .inl (cJ, 3, .inr (.inl (fun _ => 0)))), (zc, .inl (cI, w * h, .inl (fun _ => 0)))] := hD
  refine lv_aload_n hx hb dX2_init_103 rfl (lv_at hl 1 rfl) ?_
  refine lv_iload_n hx hb dX2_init_104 rfl (lv_at hl 2 rfl) ?_
  refine lv_iload_n hx hb dX2_init_105 rfl (lv_at hl 3 rfl) ?_
  refine lv_imul hx hb dX2_init_106 ?_
  refine td_ti (nI (w * h)) (pk_mul w h) ?_
  refine td_newa (a0 := (w * h, .inl (fun _ => 0))) (atype := .int) 0 hx hb (hts (.arrayClass .int) (td_i0 (List.mem_of_getElem? (i := 1) rfl))) rfl hK hP hD hS hA rfl (td_raI s) (fun _ => rfl) rfl (by omega) (by show (w * h) * 4 ≤ 536870912; omega) (Nat.le_of_ble_eq_true rfl) (by show 4888 + w * h ≤ 7228; omega) dX2_init_107 (fun zn H hP hD hS => ?_)
  have hP : va_P (dC, dI) vwCl [(qU, .inr (2, [.int (nI w), .int (nI h), .int (nI ((w + 7) / 8)), .ref zc, .null, .null, .ref zT, .ref zH, .int 0, .int 0, .int 0, .int 0, .int 0, .int 0, .int 0])), (zT, .inr (1, [.ref zC, .ref zI, .ref zV, .int 0])), (zC, .inl (cJ, 1536, .inr (.inl (fun _ => 0)))), (zI, .inl (cI, 512, .inl (fun _ => 0))), (zV, .inl (cI, 512, .inl (fun _ => 0))), (zH, .inr (0, [.ref zX, .ref zY, .ref zR, .ref zL, .ref zW])), (zX, .inl (cJ, 3, .inr (.inl (fun _ => 0)))), (zY, .inl (cJ, 3, .inr (.inl (fun _ => 0)))), (zR, .inl (cJ, 3, .inr (.inl (vp_updL (vp_updL (vp_updL (fun _ => 0) 0 1) 1 1) 2 1)))), (zL, .inl (cJ, 3, .inr (.inl (fun _ => 0)))), (zW, .inl (cJ, 3, .inr (.inl (fun _ => 0)))), (zc, .inl (cI, w * h, .inl (fun _ => 0))), (zn, .inl (cI, w * h, .inl (fun _ => 0)))] H := hP
  have hD : va_D A [(qU, .inr (2, [.int (nI w), .int (nI h), .int (nI ((w + 7) / 8)), .ref zc, .null, .null, .ref zT, .ref zH, .int 0, .int 0, .int 0, .int 0, .int 0, .int 0, .int 0])), (zT, .inr (1, [.ref zC, .ref zI, .ref zV, .int 0])), (zC, .inl (cJ, 1536, .inr (.inl (fun _ => 0)))), (zI, .inl (cI, 512, .inl (fun _ => 0))), (zV, .inl (cI, 512, .inl (fun _ => 0))), (zH, .inr (0, [.ref zX, .ref zY, .ref zR, .ref zL, .ref zW])), (zX, .inl (cJ, 3, .inr (.inl (fun _ => 0)))), (zY, .inl (cJ, 3, .inr (.inl (fun _ => 0)))), (zR, .inl (cJ, 3, .inr (.inl (vp_updL (vp_updL (vp_updL (fun _ => 0) 0 1) 1 1) 2 1)))), (zL, .inl (cJ, 3, .inr (.inl (fun _ => 0)))), (zW, .inl (cJ, 3, .inr (.inl (fun _ => 0)))), (zc, .inl (cI, w * h, .inl (fun _ => 0))), (zn, .inl (cI, w * h, .inl (fun _ => 0)))] := hD
  refine W.widen (k := 12) (n := 7192) (by omega) (by omega) ?_
  refine va_putF (D := (dC, dI)) (ci := 2) (v := .ref zn) (ty := .array .int) (C := RX2) (T := TX2) (N := 15) hx hb hts td_fX2 tyX2 tyX2_ok nmX2 hown hK hP hD hS 0 rfl rfl 4 (by decide) (hts (.fieldLink RX2 61 "TileDesk$Picture" "nearest" "[I") (td_i3 (List.mem_of_getElem? (i := 8) rfl))) (fun _ h9 => h9) rfl hin rfl (by decide +kernel) rfl rfl (Nat.le_of_ble_eq_true rfl) dX2_init_109 (fun H locs hP hD hS => ?_)
  have hP : va_P (dC, dI) vwCl [(qU, .inr (2, [.int (nI w), .int (nI h), .int (nI ((w + 7) / 8)), .ref zc, .ref zn, .null, .ref zT, .ref zH, .int 0, .int 0, .int 0, .int 0, .int 0, .int 0, .int 0])), (zT, .inr (1, [.ref zC, .ref zI, .ref zV, .int 0])), (zC, .inl (cJ, 1536, .inr (.inl (fun _ => 0)))), (zI, .inl (cI, 512, .inl (fun _ => 0))), (zV, .inl (cI, 512, .inl (fun _ => 0))), (zH, .inr (0, [.ref zX, .ref zY, .ref zR, .ref zL, .ref zW])), (zX, .inl (cJ, 3, .inr (.inl (fun _ => 0)))), (zY, .inl (cJ, 3, .inr (.inl (fun _ => 0)))), (zR, .inl (cJ, 3, .inr (.inl (vp_updL (vp_updL (vp_updL (fun _ => 0) 0 1) 1 1) 2 1)))), (zL, .inl (cJ, 3, .inr (.inl (fun _ => 0)))), (zW, .inl (cJ, 3, .inr (.inl (fun _ => 0)))), (zc, .inl (cI, w * h, .inl (fun _ => 0))), (zn, .inl (cI, w * h, .inl (fun _ => 0)))] H := hP
  have hD : va_D A [(qU, .inr (2, [.int (nI w), .int (nI h), .int (nI ((w + 7) / 8)), .ref zc, .ref zn, .null, .ref zT, .ref zH, .int 0, .int 0, .int 0, .int 0, .int 0, .int 0, .int 0])), (zT, .inr (1, [.ref zC, .ref zI, .ref zV, .int 0])), (zC, .inl (cJ, 1536, .inr (.inl (fun _ => 0)))), (zI, .inl (cI, 512, .inl (fun _ => 0))), (zV, .inl (cI, 512, .inl (fun _ => 0))), (zH, .inr (0, [.ref zX, .ref zY, .ref zR, .ref zL, .ref zW])), (zX, .inl (cJ, 3, .inr (.inl (fun _ => 0)))), (zY, .inl (cJ, 3, .inr (.inl (fun _ => 0)))), (zR, .inl (cJ, 3, .inr (.inl (vp_updL (vp_updL (vp_updL (fun _ => 0) 0 1) 1 1) 2 1)))), (zL, .inl (cJ, 3, .inr (.inl (fun _ => 0)))), (zW, .inl (cJ, 3, .inr (.inl (fun _ => 0)))), (zc, .inl (cI, w * h, .inl (fun _ => 0))), (zn, .inl (cI, w * h, .inl (fun _ => 0)))] := hD
  refine lv_aload_n hx hb dX2_init_112 rfl (lv_at hl 1 rfl) ?_
  refine lv_aload_n hx hb dX2_init_113 rfl (lv_at hl 1 rfl) ?_
  refine va_get (D := (dC, dI)) (ci := 2) (v := .int (nI ((w + 7) / 8))) (C := RX2) (T := TX2) (N := 15) hx hb hts td_fX2 hown hK hP 0 rfl rfl 2 (by decide) (hts (.fieldLink RX2 54 "TileDesk$Picture" "tilesAcross" "I") (td_i3 (List.mem_of_getElem? (i := 6) rfl))) (fun _ h9 => h9) rfl dX2_init_114 ?_
  refine lv_iload_n hx hb dX2_init_117 rfl (lv_at hl 0 rfl) ?_
  refine lv_imul hx hb dX2_init_118 ?_
  refine td_ti (nI (((w + 7) / 8) * ((h + 7) / 8))) (pk_mul ((w + 7) / 8) ((h + 7) / 8)) ?_
  refine td_newa (a0 := (((w + 7) / 8) * ((h + 7) / 8), .inl (fun _ => 0))) (atype := .boolean) 2 hx hb (hts (.arrayClass .boolean) (td_i0 (List.mem_of_getElem? (i := 2) rfl))) rfl hK hP hD hS hA rfl (td_raZ s) (fun _ => rfl) rfl (by omega) (by show (((w + 7) / 8) * ((h + 7) / 8)) * 1 ≤ 536870912; omega) (Nat.le_of_ble_eq_true rfl) (by show 7192 + (w + 7) / 8 * ((h + 7) / 8) ≤ 7228; omega) dX2_init_119 (fun zd H hP hD hS => ?_)
  have hP : va_P (dC, dI) vwCl [(qU, .inr (2, [.int (nI w), .int (nI h), .int (nI ((w + 7) / 8)), .ref zc, .ref zn, .null, .ref zT, .ref zH, .int 0, .int 0, .int 0, .int 0, .int 0, .int 0, .int 0])), (zT, .inr (1, [.ref zC, .ref zI, .ref zV, .int 0])), (zC, .inl (cJ, 1536, .inr (.inl (fun _ => 0)))), (zI, .inl (cI, 512, .inl (fun _ => 0))), (zV, .inl (cI, 512, .inl (fun _ => 0))), (zH, .inr (0, [.ref zX, .ref zY, .ref zR, .ref zL, .ref zW])), (zX, .inl (cJ, 3, .inr (.inl (fun _ => 0)))), (zY, .inl (cJ, 3, .inr (.inl (fun _ => 0)))), (zR, .inl (cJ, 3, .inr (.inl (vp_updL (vp_updL (vp_updL (fun _ => 0) 0 1) 1 1) 2 1)))), (zL, .inl (cJ, 3, .inr (.inl (fun _ => 0)))), (zW, .inl (cJ, 3, .inr (.inl (fun _ => 0)))), (zc, .inl (cI, w * h, .inl (fun _ => 0))), (zn, .inl (cI, w * h, .inl (fun _ => 0))), (zd, .inl (cZ, ((w + 7) / 8) * ((h + 7) / 8), .inl (fun _ => 0)))] H := hP
  have hD : va_D A [(qU, .inr (2, [.int (nI w), .int (nI h), .int (nI ((w + 7) / 8)), .ref zc, .ref zn, .null, .ref zT, .ref zH, .int 0, .int 0, .int 0, .int 0, .int 0, .int 0, .int 0])), (zT, .inr (1, [.ref zC, .ref zI, .ref zV, .int 0])), (zC, .inl (cJ, 1536, .inr (.inl (fun _ => 0)))), (zI, .inl (cI, 512, .inl (fun _ => 0))), (zV, .inl (cI, 512, .inl (fun _ => 0))), (zH, .inr (0, [.ref zX, .ref zY, .ref zR, .ref zL, .ref zW])), (zX, .inl (cJ, 3, .inr (.inl (fun _ => 0)))), (zY, .inl (cJ, 3, .inr (.inl (fun _ => 0)))), (zR, .inl (cJ, 3, .inr (.inl (vp_updL (vp_updL (vp_updL (fun _ => 0) 0 1) 1 1) 2 1)))), (zL, .inl (cJ, 3, .inr (.inl (fun _ => 0)))), (zW, .inl (cJ, 3, .inr (.inl (fun _ => 0)))), (zc, .inl (cI, w * h, .inl (fun _ => 0))), (zn, .inl (cI, w * h, .inl (fun _ => 0))), (zd, .inl (cZ, ((w + 7) / 8) * ((h + 7) / 8), .inl (fun _ => 0)))] := hD
  refine W.widen (k := 13) (n := 7228) (by omega) (by omega) ?_
  refine va_putF (D := (dC, dI)) (ci := 2) (v := .ref zd) (ty := .array .boolean) (C := RX2) (T := TX2) (N := 15) hx hb hts td_fX2 tyX2 tyX2_ok nmX2 hown hK hP hD hS 0 rfl rfl 5 (by decide) (hts (.fieldLink RX2 64 "TileDesk$Picture" "done" "[Z") (td_i3 (List.mem_of_getElem? (i := 9) rfl))) (fun _ h9 => h9) rfl hin rfl (by decide +kernel) rfl rfl (Nat.le_of_ble_eq_true rfl) dX2_init_121 (fun H locs hP hD hS => ?_)
  have hP : va_P (dC, dI) vwCl [(qU, .inr (2, [.int (nI w), .int (nI h), .int (nI ((w + 7) / 8)), .ref zc, .ref zn, .ref zd, .ref zT, .ref zH, .int 0, .int 0, .int 0, .int 0, .int 0, .int 0, .int 0])), (zT, .inr (1, [.ref zC, .ref zI, .ref zV, .int 0])), (zC, .inl (cJ, 1536, .inr (.inl (fun _ => 0)))), (zI, .inl (cI, 512, .inl (fun _ => 0))), (zV, .inl (cI, 512, .inl (fun _ => 0))), (zH, .inr (0, [.ref zX, .ref zY, .ref zR, .ref zL, .ref zW])), (zX, .inl (cJ, 3, .inr (.inl (fun _ => 0)))), (zY, .inl (cJ, 3, .inr (.inl (fun _ => 0)))), (zR, .inl (cJ, 3, .inr (.inl (vp_updL (vp_updL (vp_updL (fun _ => 0) 0 1) 1 1) 2 1)))), (zL, .inl (cJ, 3, .inr (.inl (fun _ => 0)))), (zW, .inl (cJ, 3, .inr (.inl (fun _ => 0)))), (zc, .inl (cI, w * h, .inl (fun _ => 0))), (zn, .inl (cI, w * h, .inl (fun _ => 0))), (zd, .inl (cZ, ((w + 7) / 8) * ((h + 7) / 8), .inl (fun _ => 0)))] H := hP
  have hD : va_D A [(qU, .inr (2, [.int (nI w), .int (nI h), .int (nI ((w + 7) / 8)), .ref zc, .ref zn, .ref zd, .ref zT, .ref zH, .int 0, .int 0, .int 0, .int 0, .int 0, .int 0, .int 0])), (zT, .inr (1, [.ref zC, .ref zI, .ref zV, .int 0])), (zC, .inl (cJ, 1536, .inr (.inl (fun _ => 0)))), (zI, .inl (cI, 512, .inl (fun _ => 0))), (zV, .inl (cI, 512, .inl (fun _ => 0))), (zH, .inr (0, [.ref zX, .ref zY, .ref zR, .ref zL, .ref zW])), (zX, .inl (cJ, 3, .inr (.inl (fun _ => 0)))), (zY, .inl (cJ, 3, .inr (.inl (fun _ => 0)))), (zR, .inl (cJ, 3, .inr (.inl (vp_updL (vp_updL (vp_updL (fun _ => 0) 0 1) 1 1) 2 1)))), (zL, .inl (cJ, 3, .inr (.inl (fun _ => 0)))), (zW, .inl (cJ, 3, .inr (.inl (fun _ => 0)))), (zc, .inl (cI, w * h, .inl (fun _ => 0))), (zn, .inl (cI, w * h, .inl (fun _ => 0))), (zd, .inl (cZ, ((w + 7) / 8) * ((h + 7) / 8), .inl (fun _ => 0)))] := hD
  have hP9 := hP.sub (ws' := [(qU, .inr (2, [.int (nI w), .int (nI h), .int (nI ((w + 7) / 8)), .ref zc, .ref zn, .ref zd, .ref zT, .ref zH, .int 0, .int 0, .int 0, .int 0, .int 0, .int 0, .int 0])), (zc, .inl (cI, w * h, .inl (fun _ => 0))), (zn, .inl (cI, w * h, .inl (fun _ => 0))), (zd, .inl (cZ, (w + 7) / 8 * ((h + 7) / 8), .inl (fun _ => 0))), (zT, .inr (1, [.ref zC, .ref zI, .ref zV, .int 0])), (zC, .inl (cJ, 1536, .inr (.inl (fun _ => 0)))), (zI, .inl (cI, 512, .inl (fun _ => 0))), (zV, .inl (cI, 512, .inl (fun _ => 0))), (zH, .inr (0, [.ref zX, .ref zY, .ref zR, .ref zL, .ref zW])), (zX, .inl (cJ, 3, .inr (.inl (fun _ => 0)))), (zY, .inl (cJ, 3, .inr (.inl (fun _ => 0)))), (zR, .inl (cJ, 3, .inr (.inl (vp_updL (vp_updL (vp_updL (fun _ => 0) 0 1) 1 1) 2 1)))), (zL, .inl (cJ, 3, .inr (.inl (fun _ => 0)))), (zW, .inl (cJ, 3, .inr (.inl (fun _ => 0))))]) [0, 11, 12, 13, 1, 2, 3, 4, 5, 6, 7, 8, 9, 10] rfl
  have hD9 := hD.sub (ws' := [(qU, .inr (2, [.int (nI w), .int (nI h), .int (nI ((w + 7) / 8)), .ref zc, .ref zn, .ref zd, .ref zT, .ref zH, .int 0, .int 0, .int 0, .int 0, .int 0, .int 0, .int 0])), (zc, .inl (cI, w * h, .inl (fun _ => 0))), (zn, .inl (cI, w * h, .inl (fun _ => 0))), (zd, .inl (cZ, (w + 7) / 8 * ((h + 7) / 8), .inl (fun _ => 0))), (zT, .inr (1, [.ref zC, .ref zI, .ref zV, .int 0])), (zC, .inl (cJ, 1536, .inr (.inl (fun _ => 0)))), (zI, .inl (cI, 512, .inl (fun _ => 0))), (zV, .inl (cI, 512, .inl (fun _ => 0))), (zH, .inr (0, [.ref zX, .ref zY, .ref zR, .ref zL, .ref zW])), (zX, .inl (cJ, 3, .inr (.inl (fun _ => 0)))), (zY, .inl (cJ, 3, .inr (.inl (fun _ => 0)))), (zR, .inl (cJ, 3, .inr (.inl (vp_updL (vp_updL (vp_updL (fun _ => 0) 0 1) 1 1) 2 1)))), (zL, .inl (cJ, 3, .inr (.inl (fun _ => 0)))), (zW, .inl (cJ, 3, .inr (.inl (fun _ => 0))))]) [0, 11, 12, 13, 1, 2, 3, 4, 5, 6, 7, 8, 9, 10] (by decide) rfl
  exact td_rwv (zT, zC, zI, zV, zH, zX, zY, zR, zL, zW, zc, zn, zd) hx hb hr hlocks hK (trivial) hP9 hD9 hS dX2_init_124
end
section
set_option maxHeartbeats 4000000 in
set_option maxRecDepth 100000 in
/-- TileDesk() -/
theorem td_Desk_init (l : Launch) (dC : Nat → ClassId) (dI : Nat → Nat → Nat) (cI cJ cZ : ClassId) (sz : Nat) (qD : Nat) (v1 : Int32) (v2 : Int32) (w : Nat) (h : Nat) (hw1 : 8 ≤ w) (hw2 : w ≤ 48) (hh1 : 8 ≤ h) (hh2 : h ≤ 48) (e1 : (if 8 < (if v1 < 48 then v1 else 48) then (if v1 < 48 then v1 else 48) else 8) = nI w) (e2 : (if 8 < (if v2 < 48 then v2 else 48) then (if v2 < 48 then v2 else 48) else 8) = nI h) : Met l yX3_init wsX3_init ({ frames := 3, cells := 24, slots := 9827, locals := 55 }) (td_WP (dC, dI) vwCl (td_T cI cJ cZ) td_nl [(qD, .inr (3, [.null, .null, .null, .int 0]))] sz [.ref qD, .int v1, .int v2]) (va_Qv (S := Nat × Nat × Nat × Nat × Nat × Nat × Nat × Nat × Nat × Nat × Nat × Nat × Nat × Nat × Nat × Nat × Nat × Nat × Nat × Nat × Nat × Nat × Nat × Nat) (fun u => True) (td_B (dC, dI) vwCl (td_T cI cJ cZ) (va_A [(qD, .inr (3, [.null, .null, .null, .int 0]))] sz) (fun (u : Nat × Nat × Nat × Nat × Nat × Nat × Nat × Nat × Nat × Nat × Nat × Nat × Nat × Nat × Nat × Nat × Nat × Nat × Nat × Nat × Nat × Nat × Nat × Nat) => [(qD, .inr (3, [.ref u.1, .ref u.2.2.2.2.2.2.1, .ref u.2.2.2.2.2.2.2.2.2.2.1, .int 0])), (u.1, .inr (0, [.ref u.2.1, .ref u.2.2.1, .ref u.2.2.2.1, .ref u.2.2.2.2.1, .ref u.2.2.2.2.2.1])), (u.2.1, .inl (cJ, 3, .inr (.inl (fun _ => 0)))), (u.2.2.1, .inl (cJ, 3, .inr (.inl (fun _ => 0)))), (u.2.2.2.1, .inl (cJ, 3, .inr (.inl (vp_updL (vp_updL (vp_updL (fun _ => 0) 0 1) 1 1) 2 1)))), (u.2.2.2.2.1, .inl (cJ, 3, .inr (.inl (fun _ => 0)))), (u.2.2.2.2.2.1, .inl (cJ, 3, .inr (.inl (fun _ => 0)))), (u.2.2.2.2.2.2.1, .inr (1, [.ref u.2.2.2.2.2.2.2.1, .ref u.2.2.2.2.2.2.2.2.1, .ref u.2.2.2.2.2.2.2.2.2.1, .int 0])), (u.2.2.2.2.2.2.2.1, .inl (cJ, 1536, .inr (.inl (fun _ => 0)))), (u.2.2.2.2.2.2.2.2.1, .inl (cI, 512, .inl (fun _ => 0))), (u.2.2.2.2.2.2.2.2.2.1, .inl (cI, 512, .inl (fun _ => 0))), (u.2.2.2.2.2.2.2.2.2.2.1, .inr (2, [.int (nI w), .int (nI h), .int (nI ((w + 7) / 8)), .ref u.2.2.2.2.2.2.2.2.2.2.2.1, .ref u.2.2.2.2.2.2.2.2.2.2.2.2.1, .ref u.2.2.2.2.2.2.2.2.2.2.2.2.2.1, .ref u.2.2.2.2.2.2.2.2.2.2.2.2.2.2.1, .ref u.2.2.2.2.2.2.2.2.2.2.2.2.2.2.2.2.2.2.1, .int 0, .int 0, .int 0, .int 0, .int 0, .int 0, .int 0])), (u.2.2.2.2.2.2.2.2.2.2.2.1, .inl (cI, w * h, .inl (fun _ => 0))), (u.2.2.2.2.2.2.2.2.2.2.2.2.1, .inl (cI, w * h, .inl (fun _ => 0))), (u.2.2.2.2.2.2.2.2.2.2.2.2.2.1, .inl (cZ, (w + 7) / 8 * ((h + 7) / 8), .inl (fun _ => 0))), (u.2.2.2.2.2.2.2.2.2.2.2.2.2.2.1, .inr (1, [.ref u.2.2.2.2.2.2.2.2.2.2.2.2.2.2.2.1, .ref u.2.2.2.2.2.2.2.2.2.2.2.2.2.2.2.2.1, .ref u.2.2.2.2.2.2.2.2.2.2.2.2.2.2.2.2.2.1, .int 0])), (u.2.2.2.2.2.2.2.2.2.2.2.2.2.2.2.1, .inl (cJ, 1536, .inr (.inl (fun _ => 0)))), (u.2.2.2.2.2.2.2.2.2.2.2.2.2.2.2.2.1, .inl (cI, 512, .inl (fun _ => 0))), (u.2.2.2.2.2.2.2.2.2.2.2.2.2.2.2.2.2.1, .inl (cI, 512, .inl (fun _ => 0))), (u.2.2.2.2.2.2.2.2.2.2.2.2.2.2.2.2.2.2.1, .inr (0, [.ref u.2.2.2.2.2.2.2.2.2.2.2.2.2.2.2.2.2.2.2.1, .ref u.2.2.2.2.2.2.2.2.2.2.2.2.2.2.2.2.2.2.2.2.1, .ref u.2.2.2.2.2.2.2.2.2.2.2.2.2.2.2.2.2.2.2.2.2.1, .ref u.2.2.2.2.2.2.2.2.2.2.2.2.2.2.2.2.2.2.2.2.2.2.1, .ref u.2.2.2.2.2.2.2.2.2.2.2.2.2.2.2.2.2.2.2.2.2.2.2])), (u.2.2.2.2.2.2.2.2.2.2.2.2.2.2.2.2.2.2.2.1, .inl (cJ, 3, .inr (.inl (fun _ => 0)))), (u.2.2.2.2.2.2.2.2.2.2.2.2.2.2.2.2.2.2.2.2.1, .inl (cJ, 3, .inr (.inl (fun _ => 0)))), (u.2.2.2.2.2.2.2.2.2.2.2.2.2.2.2.2.2.2.2.2.2.1, .inl (cJ, 3, .inr (.inl (vp_updL (vp_updL (vp_updL (fun _ => 0) 0 1) 1 1) 2 1)))), (u.2.2.2.2.2.2.2.2.2.2.2.2.2.2.2.2.2.2.2.2.2.2.1, .inl (cJ, 3, .inr (.inl (fun _ => 0)))), (u.2.2.2.2.2.2.2.2.2.2.2.2.2.2.2.2.2.2.2.2.2.2.2, .inl (cJ, 3, .inr (.inl (fun _ => 0))))])) (va_A [(qD, .inr (3, [.null, .null, .null, .int 0]))] sz)) 24 9827 (va_A [(qD, .inr (3, [.null, .null, .null, .int 0]))] sz) := by
  refine Met.ofW (cc := cX3_init) (maxL := 3) (ret := none) (by decide) rfl ?_
  intro p e s m args below meth c s₁ B hml hv
  obtain ⟨rfl, hsz, hP, hK, hZ, hD0⟩ := hv
  have hx := B.exec
  have hb := B.bytes
  have hr := B.returns
  have hts := atoms_spec (ws := wsX3_init) B.pre
  have hown : s.vm.findClass RX3 = some m.cls := findClass_of_methodNamed B.named
  have hlocks := B.notSynchronized
  have hin : meth.name = "<init>" := (name_of_methodNamed B.named B.method).1
  subst hsz
  have hD := hD0.self (sz := s.heap.size)
  generalize hAe : va_A [(qD, .inr (3, [.null, .null, .null, .int 0]))] s.heap.size = A at hD ⊢
  have hA : ∀ q : Nat, s.heap.size ≤ q → A q := fun q h => by rw [← hAe]; exact Or.inr h
  have hS : va_S A s.heap s.heap [] := va_S.rf
  have hP : va_P (dC, dI) vwCl [(qD, .inr (3, [.null, .null, .null, .int 0]))] s.heap := hP
  have hl := lv_entry ([.ref qD, .int v1, .int v2]) (n := 3) (Nat.le_of_ble_eq_true rfl)
  rw [lg_entry_eq]
  generalize (lg_sl ([.ref qD, .int v1, .int v2]) ++ List.replicate (3 - (lg_sl ([.ref qD, .int v1, .int v2])).length) Slot.unset).toArray = ls at hl ⊢
  have hl : lv_has ls 3 [(0, .ref qD), (1, .int v1), (2, .int v2)] := hl
  refine lv_aload_n hx hb dX3_init_0 rfl (lv_at hl 0 rfl) ?_
  refine W.objInit hx hb hown (hts (.methodLink RX3 3 objectInit) (td_i1 (List.mem_of_getElem? (i := 13) rfl))) (hts (.instanceMethod objectInit) (td_i1 (List.mem_of_getElem? (i := 14) rfl))) (hts _ (td_i1 (List.mem_of_getElem? (i := 15) rfl))) rfl (by rw [hml]; exact hl.1) rfl dX3_init_1 (Nat.le_of_ble_eq_true rfl) (Nat.le_of_ble_eq_true rfl) ?_
  refine W.eq (g2 := F0 m 4 ls []) rfl ?_
  refine lv_aload_n hx hb dX3_init_4 rfl (lv_at hl 0 rfl) ?_
  refine va_new (ci := 0) (fs := [.null, .null, .null, .null, .null]) (C := RX0) (T := TX0) (N := 5) hx hb hts td_fX0 tyX0 tyX0_ok hown (hts (.classLink RX3 9 RX0) (td_i1 (List.mem_of_getElem? (i := 16) rfl))) (hts (.instantiable RX0 5) (td_i1 (List.mem_of_getElem? (i := 17) rfl))) (hts (.initialized RX0) (td_i1 (List.mem_of_getElem? (i := 2) rfl))) hK hP hD hS hA rfl (fun j hj => by rcases (show j = 0 ∨ j = 1 ∨ j = 2 ∨ j = 3 ∨ j = 4 by omega) with rfl | rfl | rfl | rfl | rfl <;> rfl) (Nat.le_of_ble_eq_true rfl) (Nat.le_of_ble_eq_true rfl) dX3_init_5 (fun zS H hP hD hS => ?_)
  have hP : va_P (dC, dI) vwCl [(qD, .inr (3, [.null, .null, .null, .int 0])), (zS, .inr (0, [.null, .null, .null, .null, .null]))] H := hP
  have hD : va_D A [(qD, .inr (3, [.null, .null, .null, .int 0])), (zS, .inr (0, [.null, .null, .null, .null, .null]))] := hD
  refine W.widen (k := 1) (n := 5) (by omega) (by omega) ?_
  refine lv_dup hx hb dX3_init_8 rfl ?_
  refine td_cwv (wr := [(qD, .inr (3, [.null, .null, .null, .int 0]))]) (va_runIN (As := []) (rest := [.ref zS, .ref qD]) ⟨hx, hb, hml, hown, hts⟩ (td_Shape_init l dC dI cI cJ cZ H.size zS) (⟨va_cnB 0 hts (td_gC (td_i1 (List.mem_of_getElem? (i := 19) rfl))) rfl rfl rfl (hZ.2 _ (List.mem_of_getElem? (i := 0) rfl)) (hts (.initialized RX0) (td_i1 (List.mem_of_getElem? (i := 2) rfl))) (by decide +kernel) ⟨(Nat.le_of_ble_eq_true rfl), (Nat.le_of_ble_eq_true rfl)⟩, rfl, (hts (.instanceMethod yX0_init) (td_i1 (List.mem_of_getElem? (i := 18) rfl)))⟩) (td_pWS hK hZ hP hD [1] (by decide) rfl) rfl rfl hl.1 rfl (lv_room (Nat.le_of_ble_eq_true rfl)) dX3_init_9 ⟨(Nat.le_of_ble_eq_true rfl), (Nat.le_of_ble_eq_true rfl)⟩) hP hD hS hA [1] [0] rfl rfl (by decide) (by decide) (fun u H locs w9_1 hP hD hS => ?_)
  obtain ⟨zsX, zsY, zsR, zsL, zsW⟩ := u
  try dsimp only at w9_1
  have hP : va_P (dC, dI) vwCl [(qD, .inr (3, [.null, .null, .null, .int 0])), (zS, .inr (0, [.ref zsX, .ref zsY, .ref zsR, .ref zsL, .ref zsW])), (zsX, .inl (cJ, 3, .inr (.inl (fun _ => 0)))), (zsY, .inl (cJ, 3, .inr (.inl (fun _ => 0)))), (zsR, .inl (cJ, 3, .inr (.inl (vp_updL (vp_updL (vp_updL (fun _ => 0) 0 1) 1 1) 2 1)))), (zsL, .inl (cJ, 3, .inr (.inl (fun _ => 0)))), (zsW, .inl (cJ, 3, .inr (.inl (fun _ => 0))))] H := hP
  have hD : va_D A [(qD, .inr (3, [.null, .null, .null, .int 0])), (zS, .inr (0, [.ref zsX, .ref zsY, .ref zsR, .ref zsL, .ref zsW])), (zsX, .inl (cJ, 3, .inr (.inl (fun _ => 0)))), (zsY, .inl (cJ, 3, .inr (.inl (fun _ => 0)))), (zsR, .inl (cJ, 3, .inr (.inl (vp_updL (vp_updL (vp_updL (fun _ => 0) 0 1) 1 1) 2 1)))), (zsL, .inl (cJ, 3, .inr (.inl (fun _ => 0)))), (zsW, .inl (cJ, 3, .inr (.inl (fun _ => 0))))] := hD
  refine W.widen (k := 6) (n := 20) (by omega) (by omega) ?_
  refine va_putF (D := (dC, dI)) (ci := 3) (v := .ref zS) (ty := .object "TileDesk$Shape") (C := RX3) (T := TX3) (N := 4) hx hb hts td_fX3 tyX3 tyX3_ok nmX3 hown hK hP hD hS 0 rfl rfl 0 (by decide) (hts (.fieldLink RX3 12 "TileDesk" "text" "LTileDesk$Shape;") (td_i3 (List.mem_of_getElem? (i := 19) rfl))) (fun _ h9 => h9) rfl hin rfl (by decide +kernel) rfl rfl (Nat.le_of_ble_eq_true rfl) dX3_init_12 (fun H locs hP hD hS => ?_)
  have hP : va_P (dC, dI) vwCl [(qD, .inr (3, [.ref zS, .null, .null, .int 0])), (zS, .inr (0, [.ref zsX, .ref zsY, .ref zsR, .ref zsL, .ref zsW])), (zsX, .inl (cJ, 3, .inr (.inl (fun _ => 0)))), (zsY, .inl (cJ, 3, .inr (.inl (fun _ => 0)))), (zsR, .inl (cJ, 3, .inr (.inl (vp_updL (vp_updL (vp_updL (fun _ => 0) 0 1) 1 1) 2 1)))), (zsL, .inl (cJ, 3, .inr (.inl (fun _ => 0)))), (zsW, .inl (cJ, 3, .inr (.inl (fun _ => 0))))] H := hP
  have hD : va_D A [(qD, .inr (3, [.ref zS, .null, .null, .int 0])), (zS, .inr (0, [.ref zsX, .ref zsY, .ref zsR, .ref zsL, .ref zsW])), (zsX, .inl (cJ, 3, .inr (.inl (fun _ => 0)))), (zsY, .inl (cJ, 3, .inr (.inl (fun _ => 0)))), (zsR, .inl (cJ, 3, .inr (.inl (vp_updL (vp_updL (vp_updL (fun _ => 0) 0 1) 1 1) 2 1)))), (zsL, .inl (cJ, 3, .inr (.inl (fun _ => 0)))), (zsW, .inl (cJ, 3, .inr (.inl (fun _ => 0))))] := hD
  refine lv_aload_n hx hb dX3_init_15 rfl (lv_at hl 0 rfl) ?_
  refine va_new (ci := 1) (fs := [.null, .null, .null, .int 0]) (C := RX1) (T := TX1) (N := 4) hx hb hts td_fX1 tyX1 tyX1_ok hown (hts (.classLink RX3 16 RX1) (td_i2 (List.mem_of_getElem? (i := 2) rfl))) (hts (.instantiable RX1 4) (td_i2 (List.mem_of_getElem? (i := 3) rfl))) (hts (.initialized RX1) (td_i1 (List.mem_of_getElem? (i := 3) rfl))) hK hP hD hS hA rfl (fun j hj => by rcases (show j = 0 ∨ j = 1 ∨ j = 2 ∨ j = 3 by omega) with rfl | rfl | rfl | rfl <;> rfl) (Nat.le_of_ble_eq_true rfl) (Nat.le_of_ble_eq_true rfl) dX3_init_16 (fun zP H hP hD hS => ?_)
  have hP : va_P (dC, dI) vwCl [(qD, .inr (3, [.ref zS, .null, .null, .int 0])), (zS, .inr (0, [.ref zsX, .ref zsY, .ref zsR, .ref zsL, .ref zsW])), (zsX, .inl (cJ, 3, .inr (.inl (fun _ => 0)))), (zsY, .inl (cJ, 3, .inr (.inl (fun _ => 0)))), (zsR, .inl (cJ, 3, .inr (.inl (vp_updL (vp_updL (vp_updL (fun _ => 0) 0 1) 1 1) 2 1)))), (zsL, .inl (cJ, 3, .inr (.inl (fun _ => 0)))), (zsW, .inl (cJ, 3, .inr (.inl (fun _ => 0)))), (zP, .inr (1, [.null, .null, .null, .int 0]))] H := hP
  have hD : va_D A [(qD, .inr (3, [.ref zS, .null, .null, .int 0])), (zS, .inr (0, [.ref zsX, .ref zsY, .ref zsR, .ref zsL, .ref zsW])), (zsX, .inl (cJ, 3, .inr (.inl (fun _ => 0)))), (zsY, .inl (cJ, 3, .inr (.inl (fun _ => 0)))), (zsR, .inl (cJ, 3, .inr (.inl (vp_updL (vp_updL (vp_updL (fun _ => 0) 0 1) 1 1) 2 1)))), (zsL, .inl (cJ, 3, .inr (.inl (fun _ => 0)))), (zsW, .inl (cJ, 3, .inr (.inl (fun _ => 0)))), (zP, .inr (1, [.null, .null, .null, .int 0]))] := hD
  refine W.widen (k := 7) (n := 24) (by omega) (by omega) ?_
  refine lv_dup hx hb dX3_init_19 rfl ?_
  refine td_cwv (wr := [(qD, .inr (3, [.ref zS, .null, .null, .int 0])), (zS, .inr (0, [.ref zsX, .ref zsY, .ref zsR, .ref zsL, .ref zsW])), (zsX, .inl (cJ, 3, .inr (.inl (fun _ => 0)))), (zsY, .inl (cJ, 3, .inr (.inl (fun _ => 0)))), (zsR, .inl (cJ, 3, .inr (.inl (vp_updL (vp_updL (vp_updL (fun _ => 0) 0 1) 1 1) 2 1)))), (zsL, .inl (cJ, 3, .inr (.inl (fun _ => 0)))), (zsW, .inl (cJ, 3, .inr (.inl (fun _ => 0))))]) (va_runIN (As := []) (rest := [.ref zP, .ref qD]) ⟨hx, hb, hml, hown, hts⟩ (td_Pieces_init l dC dI cI cJ cZ H.size zP) (⟨va_cnB 0 hts (td_gC (td_i2 (List.mem_of_getElem? (i := 5) rfl))) rfl rfl rfl (hZ.2 _ (List.mem_of_getElem? (i := 1) rfl)) (hts (.initialized RX1) (td_i1 (List.mem_of_getElem? (i := 3) rfl))) (by decide +kernel) ⟨(Nat.le_of_ble_eq_true rfl), (Nat.le_of_ble_eq_true rfl)⟩, rfl, (hts (.instanceMethod yX1_init) (td_i2 (List.mem_of_getElem? (i := 4) rfl)))⟩) (td_pWS hK hZ hP hD [7] (by decide) rfl) rfl rfl hl.1 rfl (lv_room (Nat.le_of_ble_eq_true rfl)) dX3_init_20 ⟨(Nat.le_of_ble_eq_true rfl), (Nat.le_of_ble_eq_true rfl)⟩) hP hD hS hA [7] [0, 1, 2, 3, 4, 5, 6] rfl rfl (by decide) (by decide) (fun u H locs w20_3 hP hD hS => ?_)
  obtain ⟨zpC, zpT, zpV⟩ := u
  try dsimp only at w20_3
  have hP : va_P (dC, dI) vwCl [(qD, .inr (3, [.ref zS, .null, .null, .int 0])), (zS, .inr (0, [.ref zsX, .ref zsY, .ref zsR, .ref zsL, .ref zsW])), (zsX, .inl (cJ, 3, .inr (.inl (fun _ => 0)))), (zsY, .inl (cJ, 3, .inr (.inl (fun _ => 0)))), (zsR, .inl (cJ, 3, .inr (.inl (vp_updL (vp_updL (vp_updL (fun _ => 0) 0 1) 1 1) 2 1)))), (zsL, .inl (cJ, 3, .inr (.inl (fun _ => 0)))), (zsW, .inl (cJ, 3, .inr (.inl (fun _ => 0)))), (zP, .inr (1, [.ref zpC, .ref zpT, .ref zpV, .int 0])), (zpC, .inl (cJ, 1536, .inr (.inl (fun _ => 0)))), (zpT, .inl (cI, 512, .inl (fun _ => 0))), (zpV, .inl (cI, 512, .inl (fun _ => 0)))] H := hP
  have hD : va_D A [(qD, .inr (3, [.ref zS, .null, .null, .int 0])), (zS, .inr (0, [.ref zsX, .ref zsY, .ref zsR, .ref zsL, .ref zsW])), (zsX, .inl (cJ, 3, .inr (.inl (fun _ => 0)))), (zsY, .inl (cJ, 3, .inr (.inl (fun _ => 0)))), (zsR, .inl (cJ, 3, .inr (.inl (vp_updL (vp_updL (vp_updL (fun _ => 0) 0 1) 1 1) 2 1)))), (zsL, .inl (cJ, 3, .inr (.inl (fun _ => 0)))), (zsW, .inl (cJ, 3, .inr (.inl (fun _ => 0)))), (zP, .inr (1, [.ref zpC, .ref zpT, .ref zpV, .int 0])), (zpC, .inl (cJ, 1536, .inr (.inl (fun _ => 0)))), (zpT, .inl (cI, 512, .inl (fun _ => 0))), (zpV, .inl (cI, 512, .inl (fun _ => 0)))] := hD
  refine W.widen (k := 10) (n := 2584) (by omega) (by omega) ?_
  refine va_putF (D := (dC, dI)) (ci := 3) (v := .ref zP) (ty := .object "TileDesk$Pieces") (C := RX3) (T := TX3) (N := 4) hx hb hts td_fX3 tyX3 tyX3_ok nmX3 hown hK hP hD hS 0 rfl rfl 1 (by decide) (hts (.fieldLink RX3 19 "TileDesk" "pieces" "LTileDesk$Pieces;") (td_i3 (List.mem_of_getElem? (i := 20) rfl))) (fun _ h9 => h9) rfl hin rfl (by decide +kernel) rfl rfl (Nat.le_of_ble_eq_true rfl) dX3_init_23 (fun H locs hP hD hS => ?_)
  have hP : va_P (dC, dI) vwCl [(qD, .inr (3, [.ref zS, .ref zP, .null, .int 0])), (zS, .inr (0, [.ref zsX, .ref zsY, .ref zsR, .ref zsL, .ref zsW])), (zsX, .inl (cJ, 3, .inr (.inl (fun _ => 0)))), (zsY, .inl (cJ, 3, .inr (.inl (fun _ => 0)))), (zsR, .inl (cJ, 3, .inr (.inl (vp_updL (vp_updL (vp_updL (fun _ => 0) 0 1) 1 1) 2 1)))), (zsL, .inl (cJ, 3, .inr (.inl (fun _ => 0)))), (zsW, .inl (cJ, 3, .inr (.inl (fun _ => 0)))), (zP, .inr (1, [.ref zpC, .ref zpT, .ref zpV, .int 0])), (zpC, .inl (cJ, 1536, .inr (.inl (fun _ => 0)))), (zpT, .inl (cI, 512, .inl (fun _ => 0))), (zpV, .inl (cI, 512, .inl (fun _ => 0)))] H := hP
  have hD : va_D A [(qD, .inr (3, [.ref zS, .ref zP, .null, .int 0])), (zS, .inr (0, [.ref zsX, .ref zsY, .ref zsR, .ref zsL, .ref zsW])), (zsX, .inl (cJ, 3, .inr (.inl (fun _ => 0)))), (zsY, .inl (cJ, 3, .inr (.inl (fun _ => 0)))), (zsR, .inl (cJ, 3, .inr (.inl (vp_updL (vp_updL (vp_updL (fun _ => 0) 0 1) 1 1) 2 1)))), (zsL, .inl (cJ, 3, .inr (.inl (fun _ => 0)))), (zsW, .inl (cJ, 3, .inr (.inl (fun _ => 0)))), (zP, .inr (1, [.ref zpC, .ref zpT, .ref zpV, .int 0])), (zpC, .inl (cJ, 1536, .inr (.inl (fun _ => 0)))), (zpT, .inl (cI, 512, .inl (fun _ => 0))), (zpV, .inl (cI, 512, .inl (fun _ => 0)))] := hD
  refine lv_aload_n hx hb dX3_init_26 rfl (lv_at hl 0 rfl) ?_
  refine lv_iconst (v := 0) hx hb dX3_init_27 (by decide) ?_
  refine va_put (D := (dC, dI)) (ci := 3) (v := .int 0) (ty := .int) (C := RX3) (T := TX3) (N := 4) hx hb hts td_fX3 tyX3 tyX3_ok nmX3 hown hK hP hD hS 0 rfl rfl 3 (by decide) (hts (.fieldLink RX3 23 "TileDesk" "backgroundNow" "I") (td_i3 (List.mem_of_getElem? (i := 22) rfl))) (fun _ h9 => h9) rfl (by decide +kernel) rfl rfl (Nat.le_of_ble_eq_true rfl) dX3_init_28 (fun H locs hP hD hS => ?_)
  have hP : va_P (dC, dI) vwCl [(qD, .inr (3, [.ref zS, .ref zP, .null, .int 0])), (zS, .inr (0, [.ref zsX, .ref zsY, .ref zsR, .ref zsL, .ref zsW])), (zsX, .inl (cJ, 3, .inr (.inl (fun _ => 0)))), (zsY, .inl (cJ, 3, .inr (.inl (fun _ => 0)))), (zsR, .inl (cJ, 3, .inr (.inl (vp_updL (vp_updL (vp_updL (fun _ => 0) 0 1) 1 1) 2 1)))), (zsL, .inl (cJ, 3, .inr (.inl (fun _ => 0)))), (zsW, .inl (cJ, 3, .inr (.inl (fun _ => 0)))), (zP, .inr (1, [.ref zpC, .ref zpT, .ref zpV, .int 0])), (zpC, .inl (cJ, 1536, .inr (.inl (fun _ => 0)))), (zpT, .inl (cI, 512, .inl (fun _ => 0))), (zpV, .inl (cI, 512, .inl (fun _ => 0)))] H := hP
  have hD : va_D A [(qD, .inr (3, [.ref zS, .ref zP, .null, .int 0])), (zS, .inr (0, [.ref zsX, .ref zsY, .ref zsR, .ref zsL, .ref zsW])), (zsX, .inl (cJ, 3, .inr (.inl (fun _ => 0)))), (zsY, .inl (cJ, 3, .inr (.inl (fun _ => 0)))), (zsR, .inl (cJ, 3, .inr (.inl (vp_updL (vp_updL (vp_updL (fun _ => 0) 0 1) 1 1) 2 1)))), (zsL, .inl (cJ, 3, .inr (.inl (fun _ => 0)))), (zsW, .inl (cJ, 3, .inr (.inl (fun _ => 0)))), (zP, .inr (1, [.ref zpC, .ref zpT, .ref zpV, .int 0])), (zpC, .inl (cJ, 1536, .inr (.inl (fun _ => 0)))), (zpT, .inl (cI, 512, .inl (fun _ => 0))), (zpV, .inl (cI, 512, .inl (fun _ => 0)))] := hD
  refine lv_aload_n hx hb dX3_init_31 rfl (lv_at hl 0 rfl) ?_
  refine va_new (ci := 2) (fs := [.int 0, .int 0, .int 0, .null, .null, .null, .null, .null, .int 0, .int 0, .int 0, .int 0, .int 0, .int 0, .int 0]) (C := RX2) (T := TX2) (N := 15) hx hb hts td_fX2 tyX2 tyX2_ok hown (hts (.classLink RX3 27 RX2) (td_i2 (List.mem_of_getElem? (i := 11) rfl))) (hts (.instantiable RX2 15) (td_i2 (List.mem_of_getElem? (i := 12) rfl))) (hts (.initialized RX2) (td_i1 (List.mem_of_getElem? (i := 4) rfl))) hK hP hD hS hA rfl (fun j hj => by rcases (show j = 0 ∨ j = 1 ∨ j = 2 ∨ j = 3 ∨ j = 4 ∨ j = 5 ∨ j = 6 ∨ j = 7 ∨ j = 8 ∨ j = 9 ∨ j = 10 ∨ j = 11 ∨ j = 12 ∨ j = 13 ∨ j = 14 by omega) with rfl | rfl | rfl | rfl | rfl | rfl | rfl | rfl | rfl | rfl | rfl | rfl | rfl | rfl | rfl <;> rfl) (Nat.le_of_ble_eq_true rfl) (Nat.le_of_ble_eq_true rfl) dX3_init_32 (fun zU H hP hD hS => ?_)
  have hP : va_P (dC, dI) vwCl [(qD, .inr (3, [.ref zS, .ref zP, .null, .int 0])), (zS, .inr (0, [.ref zsX, .ref zsY, .ref zsR, .ref zsL, .ref zsW])), (zsX, .inl (cJ, 3, .inr (.inl (fun _ => 0)))), (zsY, .inl (cJ, 3, .inr (.inl (fun _ => 0)))), (zsR, .inl (cJ, 3, .inr (.inl (vp_updL (vp_updL (vp_updL (fun _ => 0) 0 1) 1 1) 2 1)))), (zsL, .inl (cJ, 3, .inr (.inl (fun _ => 0)))), (zsW, .inl (cJ, 3, .inr (.inl (fun _ => 0)))), (zP, .inr (1, [.ref zpC, .ref zpT, .ref zpV, .int 0])), (zpC, .inl (cJ, 1536, .inr (.inl (fun _ => 0)))), (zpT, .inl (cI, 512, .inl (fun _ => 0))), (zpV, .inl (cI, 512, .inl (fun _ => 0))), (zU, .inr (2, [.int 0, .int 0, .int 0, .null, .null, .null, .null, .null, .int 0, .int 0, .int 0, .int 0, .int 0, .int 0, .int 0]))] H := hP
  have hD : va_D A [(qD, .inr (3, [.ref zS, .ref zP, .null, .int 0])), (zS, .inr (0, [.ref zsX, .ref zsY, .ref zsR, .ref zsL, .ref zsW])), (zsX, .inl (cJ, 3, .inr (.inl (fun _ => 0)))), (zsY, .inl (cJ, 3, .inr (.inl (fun _ => 0)))), (zsR, .inl (cJ, 3, .inr (.inl (vp_updL (vp_updL (vp_updL (fun _ => 0) 0 1) 1 1) 2 1)))), (zsL, .inl (cJ, 3, .inr (.inl (fun _ => 0)))), (zsW, .inl (cJ, 3, .inr (.inl (fun _ => 0)))), (zP, .inr (1, [.ref zpC, .ref zpT, .ref zpV, .int 0])), (zpC, .inl (cJ, 1536, .inr (.inl (fun _ => 0)))), (zpT, .inl (cI, 512, .inl (fun _ => 0))), (zpV, .inl (cI, 512, .inl (fun _ => 0))), (zU, .inr (2, [.int 0, .int 0, .int 0, .null, .null, .null, .null, .null, .int 0, .int 0, .int 0, .int 0, .int 0, .int 0, .int 0]))] := hD
  refine W.widen (k := 11) (n := 2599) (by omega) (by omega) ?_
  refine lv_dup hx hb dX3_init_35 rfl ?_
  refine lv_iload_n hx hb dX3_init_36 rfl (lv_at hl 1 rfl) ?_
  refine td_csi (va_runS (As := [.int v1]) (rest := [.ref zU, .ref zU, .ref qD]) ⟨hx, hb, hml, hown, hts⟩ (td_nearestSide l dC dI cI cJ cZ v1) (va_cwS 1 hts (td_gS (td_i2 (List.mem_of_getElem? (i := 13) rfl)) (td_i2 (List.mem_of_getElem? (i := 14) rfl)) (td_i1 (List.mem_of_getElem? (i := 1) rfl)) (td_i2 (List.mem_of_getElem? (i := 15) rfl))) rfl rfl rfl (by decide +kernel) ⟨(Nat.le_of_ble_eq_true rfl), (Nat.le_of_ble_eq_true rfl)⟩) (td_pRS hK hZ hP [] rfl) rfl rfl hl.1 rfl (lv_room (Nat.le_of_ble_eq_true rfl)) dX3_init_37 ⟨(Nat.le_of_ble_eq_true rfl), (Nat.le_of_ble_eq_true rfl)⟩) ?_
  refine td_ti (nI w) (e1) ?_
  refine lv_iload_n hx hb dX3_init_40 rfl (lv_at hl 2 rfl) ?_
  refine td_csi (va_runS (As := [.int v2]) (rest := [.int (nI w), .ref zU, .ref zU, .ref qD]) ⟨hx, hb, hml, hown, hts⟩ (td_nearestSide l dC dI cI cJ cZ v2) (va_cwS 1 hts (td_gS (td_i2 (List.mem_of_getElem? (i := 13) rfl)) (td_i2 (List.mem_of_getElem? (i := 14) rfl)) (td_i1 (List.mem_of_getElem? (i := 1) rfl)) (td_i2 (List.mem_of_getElem? (i := 15) rfl))) rfl rfl rfl (by decide +kernel) ⟨(Nat.le_of_ble_eq_true rfl), (Nat.le_of_ble_eq_true rfl)⟩) (td_pRS hK hZ hP [] rfl) rfl rfl hl.1 rfl (lv_room (Nat.le_of_ble_eq_true rfl)) dX3_init_41 ⟨(Nat.le_of_ble_eq_true rfl), (Nat.le_of_ble_eq_true rfl)⟩) ?_
  refine td_ti (nI h) (e2) ?_
  refine td_cwv (wr := [(qD, .inr (3, [.ref zS, .ref zP, .null, .int 0])), (zS, .inr (0, [.ref zsX, .ref zsY, .ref zsR, .ref zsL, .ref zsW])), (zsX, .inl (cJ, 3, .inr (.inl (fun _ => 0)))), (zsY, .inl (cJ, 3, .inr (.inl (fun _ => 0)))), (zsR, .inl (cJ, 3, .inr (.inl (vp_updL (vp_updL (vp_updL (fun _ => 0) 0 1) 1 1) 2 1)))), (zsL, .inl (cJ, 3, .inr (.inl (fun _ => 0)))), (zsW, .inl (cJ, 3, .inr (.inl (fun _ => 0)))), (zP, .inr (1, [.ref zpC, .ref zpT, .ref zpV, .int 0])), (zpC, .inl (cJ, 1536, .inr (.inl (fun _ => 0)))), (zpT, .inl (cI, 512, .inl (fun _ => 0))), (zpV, .inl (cI, 512, .inl (fun _ => 0)))]) (va_runI (As := [.int (nI w), .int (nI h)]) (rest := [.ref zU, .ref qD]) ⟨hx, hb, hml, hown, hts⟩ (td_Picture_init l dC dI cI cJ cZ H.size zU w h hw1 hw2 hh1 hh2) (cwI 2 hts (td_gC (td_i3 (List.mem_of_getElem? (i := 0) rfl))) rfl rfl rfl (hts (.initialized RX2) (td_i1 (List.mem_of_getElem? (i := 4) rfl))) (hts _ (td_i2 (List.mem_of_getElem? (i := 22) rfl))) (hts (.instanceMethod yX2_init) (td_i2 (List.mem_of_getElem? (i := 23) rfl))) rfl (by decide +kernel) ⟨(Nat.le_of_ble_eq_true rfl), (Nat.le_of_ble_eq_true rfl)⟩) (td_pWS hK hZ hP hD [11] (by decide) rfl) rfl rfl hl.1 rfl (lv_room (Nat.le_of_ble_eq_true rfl)) dX3_init_44 ⟨(Nat.le_of_ble_eq_true rfl), (Nat.le_of_ble_eq_true rfl)⟩) hP hD hS hA [11] [0, 1, 2, 3, 4, 5, 6, 7, 8, 9, 10] rfl rfl (by decide) (by decide) (fun u H locs w44_5 hP hD hS => ?_)
  obtain ⟨zT, ztC, ztT, ztV, zH, zaX, zaY, zaR, zaL, zaW, zcC, zcN, zcD⟩ := u
  try dsimp only at w44_5
  have hP : va_P (dC, dI) vwCl [(qD, .inr (3, [.ref zS, .ref zP, .null, .int 0])), (zS, .inr (0, [.ref zsX, .ref zsY, .ref zsR, .ref zsL, .ref zsW])), (zsX, .inl (cJ, 3, .inr (.inl (fun _ => 0)))), (zsY, .inl (cJ, 3, .inr (.inl (fun _ => 0)))), (zsR, .inl (cJ, 3, .inr (.inl (vp_updL (vp_updL (vp_updL (fun _ => 0) 0 1) 1 1) 2 1)))), (zsL, .inl (cJ, 3, .inr (.inl (fun _ => 0)))), (zsW, .inl (cJ, 3, .inr (.inl (fun _ => 0)))), (zP, .inr (1, [.ref zpC, .ref zpT, .ref zpV, .int 0])), (zpC, .inl (cJ, 1536, .inr (.inl (fun _ => 0)))), (zpT, .inl (cI, 512, .inl (fun _ => 0))), (zpV, .inl (cI, 512, .inl (fun _ => 0))), (zU, .inr (2, [.int (nI w), .int (nI h), .int (nI ((w + 7) / 8)), .ref zcC, .ref zcN, .ref zcD, .ref zT, .ref zH, .int 0, .int 0, .int 0, .int 0, .int 0, .int 0, .int 0])), (zcC, .inl (cI, w * h, .inl (fun _ => 0))), (zcN, .inl (cI, w * h, .inl (fun _ => 0))), (zcD, .inl (cZ, (w + 7) / 8 * ((h + 7) / 8), .inl (fun _ => 0))), (zT, .inr (1, [.ref ztC, .ref ztT, .ref ztV, .int 0])), (ztC, .inl (cJ, 1536, .inr (.inl (fun _ => 0)))), (ztT, .inl (cI, 512, .inl (fun _ => 0))), (ztV, .inl (cI, 512, .inl (fun _ => 0))), (zH, .inr (0, [.ref zaX, .ref zaY, .ref zaR, .ref zaL, .ref zaW])), (zaX, .inl (cJ, 3, .inr (.inl (fun _ => 0)))), (zaY, .inl (cJ, 3, .inr (.inl (fun _ => 0)))), (zaR, .inl (cJ, 3, .inr (.inl (vp_updL (vp_updL (vp_updL (fun _ => 0) 0 1) 1 1) 2 1)))), (zaL, .inl (cJ, 3, .inr (.inl (fun _ => 0)))), (zaW, .inl (cJ, 3, .inr (.inl (fun _ => 0))))] H := hP
  have hD : va_D A [(qD, .inr (3, [.ref zS, .ref zP, .null, .int 0])), (zS, .inr (0, [.ref zsX, .ref zsY, .ref zsR, .ref zsL, .ref zsW])), (zsX, .inl (cJ, 3, .inr (.inl (fun _ => 0)))), (zsY, .inl (cJ, 3, .inr (.inl (fun _ => 0)))), (zsR, .inl (cJ, 3, .inr (.inl (vp_updL (vp_updL (vp_updL (fun _ => 0) 0 1) 1 1) 2 1)))), (zsL, .inl (cJ, 3, .inr (.inl (fun _ => 0)))), (zsW, .inl (cJ, 3, .inr (.inl (fun _ => 0)))), (zP, .inr (1, [.ref zpC, .ref zpT, .ref zpV, .int 0])), (zpC, .inl (cJ, 1536, .inr (.inl (fun _ => 0)))), (zpT, .inl (cI, 512, .inl (fun _ => 0))), (zpV, .inl (cI, 512, .inl (fun _ => 0))), (zU, .inr (2, [.int (nI w), .int (nI h), .int (nI ((w + 7) / 8)), .ref zcC, .ref zcN, .ref zcD, .ref zT, .ref zH, .int 0, .int 0, .int 0, .int 0, .int 0, .int 0, .int 0])), (zcC, .inl (cI, w * h, .inl (fun _ => 0))), (zcN, .inl (cI, w * h, .inl (fun _ => 0))), (zcD, .inl (cZ, (w + 7) / 8 * ((h + 7) / 8), .inl (fun _ => 0))), (zT, .inr (1, [.ref ztC, .ref ztT, .ref ztV, .int 0])), (ztC, .inl (cJ, 1536, .inr (.inl (fun _ => 0)))), (ztT, .inl (cI, 512, .inl (fun _ => 0))), (ztV, .inl (cI, 512, .inl (fun _ => 0))), (zH, .inr (0, [.ref zaX, .ref zaY, .ref zaR, .ref zaL, .ref zaW])), (zaX, .inl (cJ, 3, .inr (.inl (fun _ => 0)))), (zaY, .inl (cJ, 3, .inr (.inl (fun _ => 0)))), (zaR, .inl (cJ, 3, .inr (.inl (vp_updL (vp_updL (vp_updL (fun _ => 0) 0 1) 1 1) 2 1)))), (zaL, .inl (cJ, 3, .inr (.inl (fun _ => 0)))), (zaW, .inl (cJ, 3, .inr (.inl (fun _ => 0))))] := hD
  refine W.widen (k := 24) (n := 9827) (by omega) (by omega) ?_
  refine va_putF (D := (dC, dI)) (ci := 3) (v := .ref zU) (ty := .object "TileDesk$Picture") (C := RX3) (T := TX3) (N := 4) hx hb hts td_fX3 tyX3 tyX3_ok nmX3 hown hK hP hD hS 0 rfl rfl 2 (by decide) (hts (.fieldLink RX3 36 "TileDesk" "picture" "LTileDesk$Picture;") (td_i3 (List.mem_of_getElem? (i := 21) rfl))) (fun _ h9 => h9) rfl hin rfl (by decide +kernel) rfl rfl (Nat.le_of_ble_eq_true rfl) dX3_init_47 (fun H locs hP hD hS => ?_)
  have hP : va_P (dC, dI) vwCl [(qD, .inr (3, [.ref zS, .ref zP, .ref zU, .int 0])), (zS, .inr (0, [.ref zsX, .ref zsY, .ref zsR, .ref zsL, .ref zsW])), (zsX, .inl (cJ, 3, .inr (.inl (fun _ => 0)))), (zsY, .inl (cJ, 3, .inr (.inl (fun _ => 0)))), (zsR, .inl (cJ, 3, .inr (.inl (vp_updL (vp_updL (vp_updL (fun _ => 0) 0 1) 1 1) 2 1)))), (zsL, .inl (cJ, 3, .inr (.inl (fun _ => 0)))), (zsW, .inl (cJ, 3, .inr (.inl (fun _ => 0)))), (zP, .inr (1, [.ref zpC, .ref zpT, .ref zpV, .int 0])), (zpC, .inl (cJ, 1536, .inr (.inl (fun _ => 0)))), (zpT, .inl (cI, 512, .inl (fun _ => 0))), (zpV, .inl (cI, 512, .inl (fun _ => 0))), (zU, .inr (2, [.int (nI w), .int (nI h), .int (nI ((w + 7) / 8)), .ref zcC, .ref zcN, .ref zcD, .ref zT, .ref zH, .int 0, .int 0, .int 0, .int 0, .int 0, .int 0, .int 0])), (zcC, .inl (cI, w * h, .inl (fun _ => 0))), (zcN, .inl (cI, w * h, .inl (fun _ => 0))), (zcD, .inl (cZ, (w + 7) / 8 * ((h + 7) / 8), .inl (fun _ => 0))), (zT, .inr (1, [.ref ztC, .ref ztT, .ref ztV, .int 0])), (ztC, .inl (cJ, 1536, .inr (.inl (fun _ => 0)))), (ztT, .inl (cI, 512, .inl (fun _ => 0))), (ztV, .inl (cI, 512, .inl (fun _ => 0))), (zH, .inr (0, [.ref zaX, .ref zaY, .ref zaR, .ref zaL, .ref zaW])), (zaX, .inl (cJ, 3, .inr (.inl (fun _ => 0)))), (zaY, .inl (cJ, 3, .inr (.inl (fun _ => 0)))), (zaR, .inl (cJ, 3, .inr (.inl (vp_updL (vp_updL (vp_updL (fun _ => 0) 0 1) 1 1) 2 1)))), (zaL, .inl (cJ, 3, .inr (.inl (fun _ => 0)))), (zaW, .inl (cJ, 3, .inr (.inl (fun _ => 0))))] H := hP
  have hD : va_D A [(qD, .inr (3, [.ref zS, .ref zP, .ref zU, .int 0])), (zS, .inr (0, [.ref zsX, .ref zsY, .ref zsR, .ref zsL, .ref zsW])), (zsX, .inl (cJ, 3, .inr (.inl (fun _ => 0)))), (zsY, .inl (cJ, 3, .inr (.inl (fun _ => 0)))), (zsR, .inl (cJ, 3, .inr (.inl (vp_updL (vp_updL (vp_updL (fun _ => 0) 0 1) 1 1) 2 1)))), (zsL, .inl (cJ, 3, .inr (.inl (fun _ => 0)))), (zsW, .inl (cJ, 3, .inr (.inl (fun _ => 0)))), (zP, .inr (1, [.ref zpC, .ref zpT, .ref zpV, .int 0])), (zpC, .inl (cJ, 1536, .inr (.inl (fun _ => 0)))), (zpT, .inl (cI, 512, .inl (fun _ => 0))), (zpV, .inl (cI, 512, .inl (fun _ => 0))), (zU, .inr (2, [.int (nI w), .int (nI h), .int (nI ((w + 7) / 8)), .ref zcC, .ref zcN, .ref zcD, .ref zT, .ref zH, .int 0, .int 0, .int 0, .int 0, .int 0, .int 0, .int 0])), (zcC, .inl (cI, w * h, .inl (fun _ => 0))), (zcN, .inl (cI, w * h, .inl (fun _ => 0))), (zcD, .inl (cZ, (w + 7) / 8 * ((h + 7) / 8), .inl (fun _ => 0))), (zT, .inr (1, [.ref ztC, .ref ztT, .ref ztV, .int 0])), (ztC, .inl (cJ, 1536, .inr (.inl (fun _ => 0)))), (ztT, .inl (cI, 512, .inl (fun _ => 0))), (ztV, .inl (cI, 512, .inl (fun _ => 0))), (zH, .inr (0, [.ref zaX, .ref zaY, .ref zaR, .ref zaL, .ref zaW])), (zaX, .inl (cJ, 3, .inr (.inl (fun _ => 0)))), (zaY, .inl (cJ, 3, .inr (.inl (fun _ => 0)))), (zaR, .inl (cJ, 3, .inr (.inl (vp_updL (vp_updL (vp_updL (fun _ => 0) 0 1) 1 1) 2 1)))), (zaL, .inl (cJ, 3, .inr (.inl (fun _ => 0)))), (zaW, .inl (cJ, 3, .inr (.inl (fun _ => 0))))] := hD
  have hP9 := hP.sub (ws' := [(qD, .inr (3, [.ref zS, .ref zP, .ref zU, .int 0])), (zS, .inr (0, [.ref zsX, .ref zsY, .ref zsR, .ref zsL, .ref zsW])), (zsX, .inl (cJ, 3, .inr (.inl (fun _ => 0)))), (zsY, .inl (cJ, 3, .inr (.inl (fun _ => 0)))), (zsR, .inl (cJ, 3, .inr (.inl (vp_updL (vp_updL (vp_updL (fun _ => 0) 0 1) 1 1) 2 1)))), (zsL, .inl (cJ, 3, .inr (.inl (fun _ => 0)))), (zsW, .inl (cJ, 3, .inr (.inl (fun _ => 0)))), (zP, .inr (1, [.ref zpC, .ref zpT, .ref zpV, .int 0])), (zpC, .inl (cJ, 1536, .inr (.inl (fun _ => 0)))), (zpT, .inl (cI, 512, .inl (fun _ => 0))), (zpV, .inl (cI, 512, .inl (fun _ => 0))), (zU, .inr (2, [.int (nI w), .int (nI h), .int (nI ((w + 7) / 8)), .ref zcC, .ref zcN, .ref zcD, .ref zT, .ref zH, .int 0, .int 0, .int 0, .int 0, .int 0, .int 0, .int 0])), (zcC, .inl (cI, w * h, .inl (fun _ => 0))), (zcN, .inl (cI, w * h, .inl (fun _ => 0))), (zcD, .inl (cZ, (w + 7) / 8 * ((h + 7) / 8), .inl (fun _ => 0))), (zT, .inr (1, [.ref ztC, .ref ztT, .ref ztV, .int 0])), (ztC, .inl (cJ, 1536, .inr (.inl (fun _ => 0)))), (ztT, .inl (cI, 512, .inl (fun _ => 0))), (ztV, .inl (cI, 512, .inl (fun _ => 0))), (zH, .inr (0, [.ref zaX, .ref zaY, .ref zaR, .ref zaL, .ref zaW])), (zaX, .inl (cJ, 3, .inr (.inl (fun _ => 0)))), (zaY, .inl (cJ, 3, .inr (.inl (fun _ => 0)))), (zaR, .inl (cJ, 3, .inr (.inl (vp_updL (vp_updL (vp_updL (fun _ => 0) 0 1) 1 1) 2 1)))), (zaL, .inl (cJ, 3, .inr (.inl (fun _ => 0)))), (zaW, .inl (cJ, 3, .inr (.inl (fun _ => 0))))]) [0, 1, 2, 3, 4, 5, 6, 7, 8, 9, 10, 11, 12, 13, 14, 15, 16, 17, 18, 19, 20, 21, 22, 23, 24] rfl
  have hD9 := hD.sub (ws' := [(qD, .inr (3, [.ref zS, .ref zP, .ref zU, .int 0])), (zS, .inr (0, [.ref zsX, .ref zsY, .ref zsR, .ref zsL, .ref zsW])), (zsX, .inl (cJ, 3, .inr (.inl (fun _ => 0)))), (zsY, .inl (cJ, 3, .inr (.inl (fun _ => 0)))), (zsR, .inl (cJ, 3, .inr (.inl (vp_updL (vp_updL (vp_updL (fun _ => 0) 0 1) 1 1) 2 1)))), (zsL, .inl (cJ, 3, .inr (.inl (fun _ => 0)))), (zsW, .inl (cJ, 3, .inr (.inl (fun _ => 0)))), (zP, .inr (1, [.ref zpC, .ref zpT, .ref zpV, .int 0])), (zpC, .inl (cJ, 1536, .inr (.inl (fun _ => 0)))), (zpT, .inl (cI, 512, .inl (fun _ => 0))), (zpV, .inl (cI, 512, .inl (fun _ => 0))), (zU, .inr (2, [.int (nI w), .int (nI h), .int (nI ((w + 7) / 8)), .ref zcC, .ref zcN, .ref zcD, .ref zT, .ref zH, .int 0, .int 0, .int 0, .int 0, .int 0, .int 0, .int 0])), (zcC, .inl (cI, w * h, .inl (fun _ => 0))), (zcN, .inl (cI, w * h, .inl (fun _ => 0))), (zcD, .inl (cZ, (w + 7) / 8 * ((h + 7) / 8), .inl (fun _ => 0))), (zT, .inr (1, [.ref ztC, .ref ztT, .ref ztV, .int 0])), (ztC, .inl (cJ, 1536, .inr (.inl (fun _ => 0)))), (ztT, .inl (cI, 512, .inl (fun _ => 0))), (ztV, .inl (cI, 512, .inl (fun _ => 0))), (zH, .inr (0, [.ref zaX, .ref zaY, .ref zaR, .ref zaL, .ref zaW])), (zaX, .inl (cJ, 3, .inr (.inl (fun _ => 0)))), (zaY, .inl (cJ, 3, .inr (.inl (fun _ => 0)))), (zaR, .inl (cJ, 3, .inr (.inl (vp_updL (vp_updL (vp_updL (fun _ => 0) 0 1) 1 1) 2 1)))), (zaL, .inl (cJ, 3, .inr (.inl (fun _ => 0)))), (zaW, .inl (cJ, 3, .inr (.inl (fun _ => 0))))]) [0, 1, 2, 3, 4, 5, 6, 7, 8, 9, 10, 11, 12, 13, 14, 15, 16, 17, 18, 19, 20, 21, 22, 23, 24] (by decide) rfl
  exact td_rwv (zS, zsX, zsY, zsR, zsL, zsW, zP, zpC, zpT, zpV, zU, zcC, zcN, zcD, zT, ztC, ztT, ztV, zH, zaX, zaY, zaR, zaL, zaW) hx hb hr hlocks hK (trivial) hP9 hD9 hS dX3_init_50
set_option maxHeartbeats 4000000 in
set_option maxRecDepth 100000 in
/-- corner -/
theorem td_corner (l : Launch) (dC : Nat → ClassId) (dI : Nat → Nat → Nat) (cI cJ cZ : ClassId) (sz : Nat) (qD : Nat) (qS : Nat) (qP : Nat) (qU : Nat) (bk : Int32) (aX : Nat) (aY : Nat) (aR : Nat) (aL : Nat) (aW : Nat) (vX : Nat → Int64) (vY : Nat → Int64) (vR : Nat → Int64) (vL : Nat → Int64) (vW : Nat → Int64) (k : Int32) (x : Int32) (y : Int32) (rr : Int32) (lt : Int32) : Met l yX3_corner wsX3_corner ({ frames := 1, cells := 0, slots := 0, locals := 29 }) (td_WP (dC, dI) vwCl (td_T cI cJ cZ) td_nl [(qD, .inr (3, [.ref qS, .ref qP, .ref qU, .int bk])), (qS, .inr (0, [.ref aX, .ref aY, .ref aR, .ref aL, .ref aW])), (aX, .inl (cJ, 3, .inr (.inl vX))), (aY, .inl (cJ, 3, .inr (.inl vY))), (aR, .inl (cJ, 3, .inr (.inl vR))), (aL, .inl (cJ, 3, .inr (.inl vL))), (aW, .inl (cJ, 3, .inr (.inl vW)))] sz [.ref qD, .int k, .int x, .int y, .int rr, .int lt]) (va_Qi (S := (Nat → Int64) × (Nat → Int64) × (Nat → Int64) × (Nat → Int64)) (fun r u => (r = 1 ∧ td_cok k x y rr lt ∧ ∃ kk, kk < 3 ∧ k = nI kk ∧ u.1 = vp_updL vX kk x.toInt64 ∧ u.2.1 = vp_updL vY kk y.toInt64 ∧ u.2.2.1 = vp_updL vR kk rr.toInt64 ∧ u.2.2.2 = vp_updL vL kk lt.toInt64) ∨ (r = 0 ∧ ¬ td_cok k x y rr lt ∧ u.1 = vX ∧ u.2.1 = vY ∧ u.2.2.1 = vR ∧ u.2.2.2 = vL)) (td_B (dC, dI) vwCl (td_T cI cJ cZ) (va_A [(qD, .inr (3, [.ref qS, .ref qP, .ref qU, .int bk])), (qS, .inr (0, [.ref aX, .ref aY, .ref aR, .ref aL, .ref aW])), (aX, .inl (cJ, 3, .inr (.inl vX))), (aY, .inl (cJ, 3, .inr (.inl vY))), (aR, .inl (cJ, 3, .inr (.inl vR))), (aL, .inl (cJ, 3, .inr (.inl vL))), (aW, .inl (cJ, 3, .inr (.inl vW)))] sz) (fun (u : (Nat → Int64) × (Nat → Int64) × (Nat → Int64) × (Nat → Int64)) => [(qD, .inr (3, [.ref qS, .ref qP, .ref qU, .int bk])), (qS, .inr (0, [.ref aX, .ref aY, .ref aR, .ref aL, .ref aW])), (aX, .inl (cJ, 3, .inr (.inl u.1))), (aY, .inl (cJ, 3, .inr (.inl u.2.1))), (aR, .inl (cJ, 3, .inr (.inl u.2.2.1))), (aL, .inl (cJ, 3, .inr (.inl u.2.2.2))), (aW, .inl (cJ, 3, .inr (.inl vW)))])) (va_A [(qD, .inr (3, [.ref qS, .ref qP, .ref qU, .int bk])), (qS, .inr (0, [.ref aX, .ref aY, .ref aR, .ref aL, .ref aW])), (aX, .inl (cJ, 3, .inr (.inl vX))), (aY, .inl (cJ, 3, .inr (.inl vY))), (aR, .inl (cJ, 3, .inr (.inl vR))), (aL, .inl (cJ, 3, .inr (.inl vL))), (aW, .inl (cJ, 3, .inr (.inl vW)))] sz)) 0 0 (va_A [(qD, .inr (3, [.ref qS, .ref qP, .ref qU, .int bk])), (qS, .inr (0, [.ref aX, .ref aY, .ref aR, .ref aL, .ref aW])), (aX, .inl (cJ, 3, .inr (.inl vX))), (aY, .inl (cJ, 3, .inr (.inl vY))), (aR, .inl (cJ, 3, .inr (.inl vR))), (aL, .inl (cJ, 3, .inr (.inl vL))), (aW, .inl (cJ, 3, .inr (.inl vW)))] sz) := by
  refine Met.ofW (cc := cX3_corner) (maxL := 7) (ret := (some .boolean)) (by decide) rfl ?_
  intro p e s m args below meth c s₁ B hml hv
  obtain ⟨rfl, hsz, hP, hK, hZ, hD0⟩ := hv
  have hx := B.exec
  have hb := B.bytes
  have hr := B.returns
  have hts := atoms_spec (ws := wsX3_corner) B.pre
  have hown : s.vm.findClass RX3 = some m.cls := findClass_of_methodNamed B.named
  have hlocks := B.notSynchronized
  subst hsz
  have hD := hD0.self (sz := s.heap.size)
  generalize hAe : va_A [(qD, .inr (3, [.ref qS, .ref qP, .ref qU, .int bk])), (qS, .inr (0, [.ref aX, .ref aY, .ref aR, .ref aL, .ref aW])), (aX, .inl (cJ, 3, .inr (.inl vX))), (aY, .inl (cJ, 3, .inr (.inl vY))), (aR, .inl (cJ, 3, .inr (.inl vR))), (aL, .inl (cJ, 3, .inr (.inl vL))), (aW, .inl (cJ, 3, .inr (.inl vW)))] s.heap.size = A at hD ⊢
  have hA : ∀ q : Nat, s.heap.size ≤ q → A q := fun q h => by rw [← hAe]; exact Or.inr h
  have hS : va_S A s.heap s.heap [] := va_S.rf
  have hP : va_P (dC, dI) vwCl [(qD, .inr (3, [.ref qS, .ref qP, .ref qU, .int bk])), (qS, .inr (0, [.ref aX, .ref aY, .ref aR, .ref aL, .ref aW])), (aX, .inl (cJ, 3, .inr (.inl vX))), (aY, .inl (cJ, 3, .inr (.inl vY))), (aR, .inl (cJ, 3, .inr (.inl vR))), (aL, .inl (cJ, 3, .inr (.inl vL))), (aW, .inl (cJ, 3, .inr (.inl vW)))] s.heap := hP
  have hl := lv_entry ([.ref qD, .int k, .int x, .int y, .int rr, .int lt]) (n := 7) (Nat.le_of_ble_eq_true rfl)
  rw [lg_entry_eq]
  generalize (lg_sl ([.ref qD, .int k, .int x, .int y, .int rr, .int lt]) ++ List.replicate (7 - (lg_sl ([.ref qD, .int k, .int x, .int y, .int rr, .int lt])).length) Slot.unset).toArray = ls at hl ⊢
  have hl : lv_has ls 7 [(0, .ref qD), (1, .int k), (2, .int x), (3, .int y), (4, .int rr), (5, .int lt)] := hl
  refine lv_iload_n hx hb dX3_corner_0 rfl (lv_at hl 1 rfl) ?_
  refine lv_iconst (v := 0) hx hb dX3_corner_1 (by decide) ?_
  refine lv_iconst (v := 2) hx hb dX3_corner_2 (by decide) ?_
  refine td_csi (va_runS (As := [.int k, .int 0, .int 2]) (rest := []) ⟨hx, hb, hml, hown, hts⟩ (td_isWithin l dC dI cI cJ cZ k 0 2) (va_cwS 3 hts (td_gS (td_i4 (List.mem_of_getElem? (i := 3) rfl)) (td_i4 (List.mem_of_getElem? (i := 4) rfl)) (td_i1 (List.mem_of_getElem? (i := 1) rfl)) (td_i4 (List.mem_of_getElem? (i := 5) rfl))) rfl rfl rfl (by decide +kernel) ⟨(Nat.le_of_ble_eq_true rfl), (Nat.le_of_ble_eq_true rfl)⟩) (td_pRS hK hZ hP [] rfl) rfl rfl hl.1 rfl (lv_room (Nat.le_of_ble_eq_true rfl)) dX3_corner_3 ⟨Nat.zero_le _, Nat.zero_le _⟩) ?_
  refine td_ifeq (tgt := 61) hx hb dX3_corner_6 (by decide) (fun c6 => ?_) (fun c6 => ?_)
  · refine lv_iconst (v := 0) hx hb dX3_corner_61 (by decide) ?_
    refine lv_istore (lv' := [(6, .int 0), (0, .ref qD), (1, .int k), (2, .int x), (3, .int y), (4, .int rr), (5, .int lt)]) hx hb dX3_corner_62 hl (by decide) rfl (fun ls hl => ?_)
    refine lv_iload hx hb dX3_corner_64 (lv_at hl 0 rfl) ?_
    refine lv_if_eq (tgt := 87) hx hb dX3_corner_66 (by decide) (fun c66 => ?_) (fun c66 => ?_)
    · refine lv_iload hx hb dX3_corner_87 (lv_at hl 0 rfl) ?_
      have hP9 := hP.sub (ws' := [(qD, .inr (3, [.ref qS, .ref qP, .ref qU, .int bk])), (qS, .inr (0, [.ref aX, .ref aY, .ref aR, .ref aL, .ref aW])), (aX, .inl (cJ, 3, .inr (.inl vX))), (aY, .inl (cJ, 3, .inr (.inl vY))), (aR, .inl (cJ, 3, .inr (.inl vR))), (aL, .inl (cJ, 3, .inr (.inl vL))), (aW, .inl (cJ, 3, .inr (.inl vW)))]) [0, 1, 2, 3, 4, 5, 6] rfl
      have hD9 := hD.sub (ws' := [(qD, .inr (3, [.ref qS, .ref qP, .ref qU, .int bk])), (qS, .inr (0, [.ref aX, .ref aY, .ref aR, .ref aL, .ref aW])), (aX, .inl (cJ, 3, .inr (.inl vX))), (aY, .inl (cJ, 3, .inr (.inl vY))), (aR, .inl (cJ, 3, .inr (.inl vR))), (aL, .inl (cJ, 3, .inr (.inl vL))), (aW, .inl (cJ, 3, .inr (.inl vW)))]) [0, 1, 2, 3, 4, 5, 6] (by decide) rfl
      exact td_rwi (vX, vY, vR, vL) hx hb hr rfl hlocks hK (Or.inr ⟨rfl, fun z => c6 z.1, rfl, rfl, rfl, rfl⟩) hP9 hD9 hS dX3_corner_89
    · exact absurd c66 (by decide)
  · obtain ⟨kk, hkk, ekk⟩ := td_nat (b := 2) c6 (by decide)
    refine lv_iload_n hx hb dX3_corner_9 rfl (lv_at hl 2 rfl) ?_
    refine lv_sipush (v := (-4096)) hx hb dX3_corner_10 (by decide) ?_
    refine lv_sipush (v := 4096) hx hb dX3_corner_13 (by decide) ?_
    refine td_csi (va_runS (As := [.int x, .int (-4096), .int 4096]) (rest := []) ⟨hx, hb, hml, hown, hts⟩ (td_isWithin l dC dI cI cJ cZ x (-4096) 4096) (va_cwS 3 hts (td_gS (td_i4 (List.mem_of_getElem? (i := 3) rfl)) (td_i4 (List.mem_of_getElem? (i := 4) rfl)) (td_i1 (List.mem_of_getElem? (i := 1) rfl)) (td_i4 (List.mem_of_getElem? (i := 5) rfl))) rfl rfl rfl (by decide +kernel) ⟨(Nat.le_of_ble_eq_true rfl), (Nat.le_of_ble_eq_true rfl)⟩) (td_pRS hK hZ hP [] rfl) rfl rfl hl.1 rfl (lv_room (Nat.le_of_ble_eq_true rfl)) dX3_corner_16 ⟨Nat.zero_le _, Nat.zero_le _⟩) ?_
    refine td_ifeq (tgt := 61) hx hb dX3_corner_19 (by decide) (fun c19 => ?_) (fun c19 => ?_)
    · refine lv_iconst (v := 0) hx hb dX3_corner_61 (by decide) ?_
      refine lv_istore (lv' := [(6, .int 0), (0, .ref qD), (1, .int k), (2, .int x), (3, .int y), (4, .int rr), (5, .int lt)]) hx hb dX3_corner_62 hl (by decide) rfl (fun ls hl => ?_)
      refine lv_iload hx hb dX3_corner_64 (lv_at hl 0 rfl) ?_
      refine lv_if_eq (tgt := 87) hx hb dX3_corner_66 (by decide) (fun c66 => ?_) (fun c66 => ?_)
      · refine lv_iload hx hb dX3_corner_87 (lv_at hl 0 rfl) ?_
        have hP9 := hP.sub (ws' := [(qD, .inr (3, [.ref qS, .ref qP, .ref qU, .int bk])), (qS, .inr (0, [.ref aX, .ref aY, .ref aR, .ref aL, .ref aW])), (aX, .inl (cJ, 3, .inr (.inl vX))), (aY, .inl (cJ, 3, .inr (.inl vY))), (aR, .inl (cJ, 3, .inr (.inl vR))), (aL, .inl (cJ, 3, .inr (.inl vL))), (aW, .inl (cJ, 3, .inr (.inl vW)))]) [0, 1, 2, 3, 4, 5, 6] rfl
        have hD9 := hD.sub (ws' := [(qD, .inr (3, [.ref qS, .ref qP, .ref qU, .int bk])), (qS, .inr (0, [.ref aX, .ref aY, .ref aR, .ref aL, .ref aW])), (aX, .inl (cJ, 3, .inr (.inl vX))), (aY, .inl (cJ, 3, .inr (.inl vY))), (aR, .inl (cJ, 3, .inr (.inl vR))), (aL, .inl (cJ, 3, .inr (.inl vL))), (aW, .inl (cJ, 3, .inr (.inl vW)))]) [0, 1, 2, 3, 4, 5, 6] (by decide) rfl
        exact td_rwi (vX, vY, vR, vL) hx hb hr rfl hlocks hK (Or.inr ⟨rfl, fun z => c19 z.2.1, rfl, rfl, rfl, rfl⟩) hP9 hD9 hS dX3_corner_89
      · exact absurd c66 (by decide)
    · refine lv_iload_n hx hb dX3_corner_22 rfl (lv_at hl 3 rfl) ?_
      refine lv_sipush (v := (-4096)) hx hb dX3_corner_23 (by decide) ?_
      refine lv_sipush (v := 4096) hx hb dX3_corner_26 (by decide) ?_
      refine td_csi (va_runS (As := [.int y, .int (-4096), .int 4096]) (rest := []) ⟨hx, hb, hml, hown, hts⟩ (td_isWithin l dC dI cI cJ cZ y (-4096) 4096) (va_cwS 3 hts (td_gS (td_i4 (List.mem_of_getElem? (i := 3) rfl)) (td_i4 (List.mem_of_getElem? (i := 4) rfl)) (td_i1 (List.mem_of_getElem? (i := 1) rfl)) (td_i4 (List.mem_of_getElem? (i := 5) rfl))) rfl rfl rfl (by decide +kernel) ⟨(Nat.le_of_ble_eq_true rfl), (Nat.le_of_ble_eq_true rfl)⟩) (td_pRS hK hZ hP [] rfl) rfl rfl hl.1 rfl (lv_room (Nat.le_of_ble_eq_true rfl)) dX3_corner_29 ⟨Nat.zero_le _, Nat.zero_le _⟩) ?_
      refine td_ifeq (tgt := 61) hx hb dX3_corner_32 (by decide) (fun c32 => ?_) (fun c32 => ?_)
      · refine lv_iconst (v := 0) hx hb dX3_corner_61 (by decide) ?_
        refine lv_istore (lv' := [(6, .int 0), (0, .ref qD), (1, .int k), (2, .int x), (3, .int y), (4, .int rr), (5, .int lt)]) hx hb dX3_corner_62 hl (by decide) rfl (fun ls hl => ?_)
        refine lv_iload hx hb dX3_corner_64 (lv_at hl 0 rfl) ?_
        refine lv_if_eq (tgt := 87) hx hb dX3_corner_66 (by decide) (fun c66 => ?_) (fun c66 => ?_)
        · refine lv_iload hx hb dX3_corner_87 (lv_at hl 0 rfl) ?_
          have hP9 := hP.sub (ws' := [(qD, .inr (3, [.ref qS, .ref qP, .ref qU, .int bk])), (qS, .inr (0, [.ref aX, .ref aY, .ref aR, .ref aL, .ref aW])), (aX, .inl (cJ, 3, .inr (.inl vX))), (aY, .inl (cJ, 3, .inr (.inl vY))), (aR, .inl (cJ, 3, .inr (.inl vR))), (aL, .inl (cJ, 3, .inr (.inl vL))), (aW, .inl (cJ, 3, .inr (.inl vW)))]) [0, 1, 2, 3, 4, 5, 6] rfl
          have hD9 := hD.sub (ws' := [(qD, .inr (3, [.ref qS, .ref qP, .ref qU, .int bk])), (qS, .inr (0, [.ref aX, .ref aY, .ref aR, .ref aL, .ref aW])), (aX, .inl (cJ, 3, .inr (.inl vX))), (aY, .inl (cJ, 3, .inr (.inl vY))), (aR, .inl (cJ, 3, .inr (.inl vR))), (aL, .inl (cJ, 3, .inr (.inl vL))), (aW, .inl (cJ, 3, .inr (.inl vW)))]) [0, 1, 2, 3, 4, 5, 6] (by decide) rfl
          exact td_rwi (vX, vY, vR, vL) hx hb hr rfl hlocks hK (Or.inr ⟨rfl, fun z => c32 z.2.2.1, rfl, rfl, rfl, rfl⟩) hP9 hD9 hS dX3_corner_89
        · exact absurd c66 (by decide)
      · refine lv_iload hx hb dX3_corner_35 (lv_at hl 4 rfl) ?_
        refine lv_iconst (v := 1) hx hb dX3_corner_37 (by decide) ?_
        refine lv_ldc (own := RX3) (v := 1048576) hx hb hown (hts (.constant RX3 44 1048576) (td_i4 (List.mem_of_getElem? (i := 6) rfl))) dX3_corner_38 ?_
        refine td_csi (va_runS (As := [.int rr, .int 1, .int 1048576]) (rest := []) ⟨hx, hb, hml, hown, hts⟩ (td_isWithin l dC dI cI cJ cZ rr 1 1048576) (va_cwS 3 hts (td_gS (td_i4 (List.mem_of_getElem? (i := 3) rfl)) (td_i4 (List.mem_of_getElem? (i := 4) rfl)) (td_i1 (List.mem_of_getElem? (i := 1) rfl)) (td_i4 (List.mem_of_getElem? (i := 5) rfl))) rfl rfl rfl (by decide +kernel) ⟨(Nat.le_of_ble_eq_true rfl), (Nat.le_of_ble_eq_true rfl)⟩) (td_pRS hK hZ hP [] rfl) rfl rfl hl.1 rfl (lv_room (Nat.le_of_ble_eq_true rfl)) dX3_corner_40 ⟨Nat.zero_le _, Nat.zero_le _⟩) ?_
        refine td_ifeq (tgt := 61) hx hb dX3_corner_43 (by decide) (fun c43 => ?_) (fun c43 => ?_)
        · refine lv_iconst (v := 0) hx hb dX3_corner_61 (by decide) ?_
          refine lv_istore (lv' := [(6, .int 0), (0, .ref qD), (1, .int k), (2, .int x), (3, .int y), (4, .int rr), (5, .int lt)]) hx hb dX3_corner_62 hl (by decide) rfl (fun ls hl => ?_)
          refine lv_iload hx hb dX3_corner_64 (lv_at hl 0 rfl) ?_
          refine lv_if_eq (tgt := 87) hx hb dX3_corner_66 (by decide) (fun c66 => ?_) (fun c66 => ?_)
          · refine lv_iload hx hb dX3_corner_87 (lv_at hl 0 rfl) ?_
            have hP9 := hP.sub (ws' := [(qD, .inr (3, [.ref qS, .ref qP, .ref qU, .int bk])), (qS, .inr (0, [.ref aX, .ref aY, .ref aR, .ref aL, .ref aW])), (aX, .inl (cJ, 3, .inr (.inl vX))), (aY, .inl (cJ, 3, .inr (.inl vY))), (aR, .inl (cJ, 3, .inr (.inl vR))), (aL, .inl (cJ, 3, .inr (.inl vL))), (aW, .inl (cJ, 3, .inr (.inl vW)))]) [0, 1, 2, 3, 4, 5, 6] rfl
            have hD9 := hD.sub (ws' := [(qD, .inr (3, [.ref qS, .ref qP, .ref qU, .int bk])), (qS, .inr (0, [.ref aX, .ref aY, .ref aR, .ref aL, .ref aW])), (aX, .inl (cJ, 3, .inr (.inl vX))), (aY, .inl (cJ, 3, .inr (.inl vY))), (aR, .inl (cJ, 3, .inr (.inl vR))), (aL, .inl (cJ, 3, .inr (.inl vL))), (aW, .inl (cJ, 3, .inr (.inl vW)))]) [0, 1, 2, 3, 4, 5, 6] (by decide) rfl
            exact td_rwi (vX, vY, vR, vL) hx hb hr rfl hlocks hK (Or.inr ⟨rfl, fun z => c43 z.2.2.2.1, rfl, rfl, rfl, rfl⟩) hP9 hD9 hS dX3_corner_89
          · exact absurd c66 (by decide)
        · refine lv_iload hx hb dX3_corner_46 (lv_at hl 5 rfl) ?_
          refine lv_iconst (v := 0) hx hb dX3_corner_48 (by decide) ?_
          refine lv_ldc (own := RX3) (v := 65536) hx hb hown (hts (.constant RX3 45 65536) (td_i4 (List.mem_of_getElem? (i := 7) rfl))) dX3_corner_49 ?_
          refine td_csi (va_runS (As := [.int lt, .int 0, .int 65536]) (rest := []) ⟨hx, hb, hml, hown, hts⟩ (td_isWithin l dC dI cI cJ cZ lt 0 65536) (va_cwS 3 hts (td_gS (td_i4 (List.mem_of_getElem? (i := 3) rfl)) (td_i4 (List.mem_of_getElem? (i := 4) rfl)) (td_i1 (List.mem_of_getElem? (i := 1) rfl)) (td_i4 (List.mem_of_getElem? (i := 5) rfl))) rfl rfl rfl (by decide +kernel) ⟨(Nat.le_of_ble_eq_true rfl), (Nat.le_of_ble_eq_true rfl)⟩) (td_pRS hK hZ hP [] rfl) rfl rfl hl.1 rfl (lv_room (Nat.le_of_ble_eq_true rfl)) dX3_corner_51 ⟨Nat.zero_le _, Nat.zero_le _⟩) ?_
          refine td_ifeq (tgt := 61) hx hb dX3_corner_54 (by decide) (fun c54 => ?_) (fun c54 => ?_)
          · refine lv_iconst (v := 0) hx hb dX3_corner_61 (by decide) ?_
            refine lv_istore (lv' := [(6, .int 0), (0, .ref qD), (1, .int k), (2, .int x), (3, .int y), (4, .int rr), (5, .int lt)]) hx hb dX3_corner_62 hl (by decide) rfl (fun ls hl => ?_)
            refine lv_iload hx hb dX3_corner_64 (lv_at hl 0 rfl) ?_
            refine lv_if_eq (tgt := 87) hx hb dX3_corner_66 (by decide) (fun c66 => ?_) (fun c66 => ?_)
            · refine lv_iload hx hb dX3_corner_87 (lv_at hl 0 rfl) ?_
              have hP9 := hP.sub (ws' := [(qD, .inr (3, [.ref qS, .ref qP, .ref qU, .int bk])), (qS, .inr (0, [.ref aX, .ref aY, .ref aR, .ref aL, .ref aW])), (aX, .inl (cJ, 3, .inr (.inl vX))), (aY, .inl (cJ, 3, .inr (.inl vY))), (aR, .inl (cJ, 3, .inr (.inl vR))), (aL, .inl (cJ, 3, .inr (.inl vL))), (aW, .inl (cJ, 3, .inr (.inl vW)))]) [0, 1, 2, 3, 4, 5, 6] rfl
              have hD9 := hD.sub (ws' := [(qD, .inr (3, [.ref qS, .ref qP, .ref qU, .int bk])), (qS, .inr (0, [.ref aX, .ref aY, .ref aR, .ref aL, .ref aW])), (aX, .inl (cJ, 3, .inr (.inl vX))), (aY, .inl (cJ, 3, .inr (.inl vY))), (aR, .inl (cJ, 3, .inr (.inl vR))), (aL, .inl (cJ, 3, .inr (.inl vL))), (aW, .inl (cJ, 3, .inr (.inl vW)))]) [0, 1, 2, 3, 4, 5, 6] (by decide) rfl
              exact td_rwi (vX, vY, vR, vL) hx hb hr rfl hlocks hK (Or.inr ⟨rfl, fun z => c54 z.2.2.2.2, rfl, rfl, rfl, rfl⟩) hP9 hD9 hS dX3_corner_89
            · exact absurd c66 (by decide)
          · refine lv_iconst (v := 1) hx hb dX3_corner_57 (by decide) ?_
            refine lv_goto (tgt := 62) hx hb dX3_corner_58 (by decide) ?_
            refine lv_istore (lv' := [(6, .int 1), (0, .ref qD), (1, .int k), (2, .int x), (3, .int y), (4, .int rr), (5, .int lt)]) hx hb dX3_corner_62 hl (by decide) rfl (fun ls hl => ?_)
            refine lv_iload hx hb dX3_corner_64 (lv_at hl 0 rfl) ?_
            refine lv_if_eq (tgt := 87) hx hb dX3_corner_66 (by decide) (fun c66 => ?_) (fun c66 => ?_)
            · exact absurd c66 (by decide)
            · refine lv_aload_n hx hb dX3_corner_69 rfl (lv_at hl 1 rfl) ?_
              refine va_get (D := (dC, dI)) (ci := 3) (v := .ref qS) (C := RX3) (T := TX3) (N := 4) hx hb hts td_fX3 hown hK hP 0 rfl rfl 0 (by decide) (hts (.fieldLink RX3 12 "TileDesk" "text" "LTileDesk$Shape;") (td_i3 (List.mem_of_getElem? (i := 19) rfl))) (fun _ h9 => h9) rfl dX3_corner_70 ?_
              refine lv_iload_n hx hb dX3_corner_73 rfl (lv_at hl 2 rfl) ?_
              refine td_ti (nI kk) (ekk) ?_
              refine lv_iload_n hx hb dX3_corner_74 rfl (lv_at hl 3 rfl) ?_
              refine lv_i2l (v := x.toInt64) hx hb dX3_corner_75 rfl ?_
              refine lv_iload_n hx hb dX3_corner_76 rfl (lv_at hl 4 rfl) ?_
              refine lv_i2l (v := y.toInt64) hx hb dX3_corner_77 rfl ?_
              refine lv_iload hx hb dX3_corner_78 (lv_at hl 5 rfl) ?_
              refine lv_i2l (v := rr.toInt64) hx hb dX3_corner_80 rfl ?_
              refine lv_iload hx hb dX3_corner_81 (lv_at hl 6 rfl) ?_
              refine lv_i2l (v := lt.toInt64) hx hb dX3_corner_83 rfl ?_
              refine td_cwv (wr := [(qD, .inr (3, [.ref qS, .ref qP, .ref qU, .int bk]))]) (va_runV (As := [.int (nI kk), .long x.toInt64, .long y.toInt64, .long rr.toInt64, .long lt.toInt64]) (rest := []) ⟨hx, hb, hml, hown, hts⟩ (td_setCorner l dC dI cI cJ cZ s.heap.size qS aX aY aR aL aW vX vY vR vL vW kk x.toInt64 y.toInt64 rr.toInt64 lt.toInt64 (by omega)) (cwV 5 hts (td_gV (td_i4 (List.mem_of_getElem? (i := 8) rfl)) (td_i4 (List.mem_of_getElem? (i := 9) rfl)) (td_i4 (List.mem_of_getElem? (i := 10) rfl)) (td_i1 (List.mem_of_getElem? (i := 2) rfl)) (td_i4 (List.mem_of_getElem? (i := 11) rfl))) rfl rfl rfl (by decide +kernel) ⟨(Nat.le_of_ble_eq_true rfl), (Nat.le_of_ble_eq_true rfl)⟩) (td_pWV hK hZ hP hD [1, 2, 3, 4, 5, 6] (by decide) rfl (va_recv hK hP (ci := 0) (q0 := 1) rfl rfl)) rfl rfl hl.1 rfl (lv_room (Nat.le_of_ble_eq_true rfl)) dX3_corner_84 ⟨Nat.zero_le _, Nat.zero_le _⟩) hP hD hS hA [1, 2, 3, 4, 5, 6] [0] rfl rfl (by decide) (by decide) (fun u H locs w84_1 hP hD hS => ?_)
              try dsimp only at w84_1
              have hP : va_P (dC, dI) vwCl [(qD, .inr (3, [.ref qS, .ref qP, .ref qU, .int bk])), (qS, .inr (0, [.ref aX, .ref aY, .ref aR, .ref aL, .ref aW])), (aX, .inl (cJ, 3, .inr (.inl (vp_updL vX kk x.toInt64)))), (aY, .inl (cJ, 3, .inr (.inl (vp_updL vY kk y.toInt64)))), (aR, .inl (cJ, 3, .inr (.inl (vp_updL vR kk rr.toInt64)))), (aL, .inl (cJ, 3, .inr (.inl (vp_updL vL kk lt.toInt64)))), (aW, .inl (cJ, 3, .inr (.inl vW)))] H := hP
              have hD : va_D A [(qD, .inr (3, [.ref qS, .ref qP, .ref qU, .int bk])), (qS, .inr (0, [.ref aX, .ref aY, .ref aR, .ref aL, .ref aW])), (aX, .inl (cJ, 3, .inr (.inl (vp_updL vX kk x.toInt64)))), (aY, .inl (cJ, 3, .inr (.inl (vp_updL vY kk y.toInt64)))), (aR, .inl (cJ, 3, .inr (.inl (vp_updL vR kk rr.toInt64)))), (aL, .inl (cJ, 3, .inr (.inl (vp_updL vL kk lt.toInt64)))), (aW, .inl (cJ, 3, .inr (.inl vW)))] := hD
              refine lv_iload hx hb dX3_corner_87 (lv_at hl 0 rfl) ?_
              have hP9 := hP.sub (ws' := [(qD, .inr (3, [.ref qS, .ref qP, .ref qU, .int bk])), (qS, .inr (0, [.ref aX, .ref aY, .ref aR, .ref aL, .ref aW])), (aX, .inl (cJ, 3, .inr (.inl (vp_updL vX kk x.toInt64)))), (aY, .inl (cJ, 3, .inr (.inl (vp_updL vY kk y.toInt64)))), (aR, .inl (cJ, 3, .inr (.inl (vp_updL vR kk rr.toInt64)))), (aL, .inl (cJ, 3, .inr (.inl (vp_updL vL kk lt.toInt64)))), (aW, .inl (cJ, 3, .inr (.inl vW)))]) [0, 1, 2, 3, 4, 5, 6] rfl
              have hD9 := hD.sub (ws' := [(qD, .inr (3, [.ref qS, .ref qP, .ref qU, .int bk])), (qS, .inr (0, [.ref aX, .ref aY, .ref aR, .ref aL, .ref aW])), (aX, .inl (cJ, 3, .inr (.inl (vp_updL vX kk x.toInt64)))), (aY, .inl (cJ, 3, .inr (.inl (vp_updL vY kk y.toInt64)))), (aR, .inl (cJ, 3, .inr (.inl (vp_updL vR kk rr.toInt64)))), (aL, .inl (cJ, 3, .inr (.inl (vp_updL vL kk lt.toInt64)))), (aW, .inl (cJ, 3, .inr (.inl vW)))]) [0, 1, 2, 3, 4, 5, 6] (by decide) rfl
              exact td_rwi (vp_updL vX kk x.toInt64, vp_updL vY kk y.toInt64, vp_updL vR kk rr.toInt64, vp_updL vL kk lt.toInt64) hx hb hr rfl hlocks hK (Or.inl ⟨rfl, ⟨c6, c19, c32, c43, c54⟩, kk, by omega, ekk, rfl, rfl, rfl, rfl⟩) hP9 hD9 hS dX3_corner_89
set_option maxHeartbeats 4000000 in
set_option maxRecDepth 100000 in
/-- add -/
theorem td_add (l : Launch) (dC : Nat → ClassId) (dI : Nat → Nat → Nat) (cI cJ cZ : ClassId) (sz : Nat) (qD : Nat) (qS : Nat) (qP : Nat) (qU : Nat) (bk : Int32) (aX : Nat) (aY : Nat) (aR : Nat) (aL : Nat) (aW : Nat) (vX : Nat → Int64) (vY : Nat → Int64) (vR : Nat → Int64) (vL : Nat → Int64) (vW : Nat → Int64) (pC : Nat) (pT : Nat) (pV : Nat) (fC : Nat → Int64) (fT : Nat → Int32) (fV : Nat → Int32) (n : Nat) (tn : Int32) (cv : Int32) (hn : n ≤ 512) : Met l yX3_add wsX3_add ({ frames := 2, cells := 0, slots := 0, locals := 47 }) (td_WP (dC, dI) vwCl (td_T cI cJ cZ) td_nl [(qD, .inr (3, [.ref qS, .ref qP, .ref qU, .int bk])), (qS, .inr (0, [.ref aX, .ref aY, .ref aR, .ref aL, .ref aW])), (aX, .inl (cJ, 3, .inr (.inl vX))), (aY, .inl (cJ, 3, .inr (.inl vY))), (aR, .inl (cJ, 3, .inr (.inl vR))), (aL, .inl (cJ, 3, .inr (.inl vL))), (aW, .inl (cJ, 3, .inr (.inl vW))), (qP, .inr (1, [.ref pC, .ref pT, .ref pV, .int (nI n)])), (pC, .inl (cJ, 1536, .inr (.inl fC))), (pT, .inl (cI, 512, .inl fT)), (pV, .inl (cI, 512, .inl fV))] sz [.ref qD, .int tn, .int cv]) (va_Qi (S := (Nat → Int64) × (Nat → Int32) × (Nat → Int32) × Nat) (fun r u => (r = -1 ∧ (¬ (0 ≤ tn ∧ tn ≤ 16777215) ∨ ¬ (0 ≤ cv ∧ cv ≤ 255) ∨ ¬ 0 < td_ca vX vY ∨ n = 512) ∧ u.1 = fC ∧ u.2.1 = fT ∧ u.2.2.1 = fV ∧ u.2.2.2 = n) ∨ (r = nI n ∧ (0 ≤ tn ∧ tn ≤ 16777215) ∧ (0 ≤ cv ∧ cv ≤ 255) ∧ 0 < td_ca vX vY ∧ n < 512 ∧ u.1 = vp_updL (vp_updL (vp_updL fC (3 * n + 0) (td_pk (vX 0) (vY 0) (vR 0) (vL 0))) (3 * n + 1) (td_pk (vX 1) (vY 1) (vR 1) (vL 1))) (3 * n + 2) (td_pk (vX 2) (vY 2) (vR 2) (vL 2)) ∧ u.2.1 = upd fT n tn ∧ u.2.2.1 = upd fV n cv ∧ u.2.2.2 = n + 1)) (td_B (dC, dI) vwCl (td_T cI cJ cZ) (va_A [(qD, .inr (3, [.ref qS, .ref qP, .ref qU, .int bk])), (qS, .inr (0, [.ref aX, .ref aY, .ref aR, .ref aL, .ref aW])), (aX, .inl (cJ, 3, .inr (.inl vX))), (aY, .inl (cJ, 3, .inr (.inl vY))), (aR, .inl (cJ, 3, .inr (.inl vR))), (aL, .inl (cJ, 3, .inr (.inl vL))), (aW, .inl (cJ, 3, .inr (.inl vW))), (qP, .inr (1, [.ref pC, .ref pT, .ref pV, .int (nI n)])), (pC, .inl (cJ, 1536, .inr (.inl fC))), (pT, .inl (cI, 512, .inl fT)), (pV, .inl (cI, 512, .inl fV))] sz) (fun (u : (Nat → Int64) × (Nat → Int32) × (Nat → Int32) × Nat) => [(qD, .inr (3, [.ref qS, .ref qP, .ref qU, .int bk])), (qS, .inr (0, [.ref aX, .ref aY, .ref aR, .ref aL, .ref aW])), (aX, .inl (cJ, 3, .inr (.inl vX))), (aY, .inl (cJ, 3, .inr (.inl vY))), (aR, .inl (cJ, 3, .inr (.inl vR))), (aL, .inl (cJ, 3, .inr (.inl vL))), (aW, .inl (cJ, 3, .inr (.inl vW))), (qP, .inr (1, [.ref pC, .ref pT, .ref pV, .int (nI u.2.2.2)])), (pC, .inl (cJ, 1536, .inr (.inl u.1))), (pT, .inl (cI, 512, .inl u.2.1)), (pV, .inl (cI, 512, .inl u.2.2.1))])) (va_A [(qD, .inr (3, [.ref qS, .ref qP, .ref qU, .int bk])), (qS, .inr (0, [.ref aX, .ref aY, .ref aR, .ref aL, .ref aW])), (aX, .inl (cJ, 3, .inr (.inl vX))), (aY, .inl (cJ, 3, .inr (.inl vY))), (aR, .inl (cJ, 3, .inr (.inl vR))), (aL, .inl (cJ, 3, .inr (.inl vL))), (aW, .inl (cJ, 3, .inr (.inl vW))), (qP, .inr (1, [.ref pC, .ref pT, .ref pV, .int (nI n)])), (pC, .inl (cJ, 1536, .inr (.inl fC))), (pT, .inl (cI, 512, .inl fT)), (pV, .inl (cI, 512, .inl fV))] sz)) 0 0 (va_A [(qD, .inr (3, [.ref qS, .ref qP, .ref qU, .int bk])), (qS, .inr (0, [.ref aX, .ref aY, .ref aR, .ref aL, .ref aW])), (aX, .inl (cJ, 3, .inr (.inl vX))), (aY, .inl (cJ, 3, .inr (.inl vY))), (aR, .inl (cJ, 3, .inr (.inl vR))), (aL, .inl (cJ, 3, .inr (.inl vL))), (aW, .inl (cJ, 3, .inr (.inl vW))), (qP, .inr (1, [.ref pC, .ref pT, .ref pV, .int (nI n)])), (pC, .inl (cJ, 1536, .inr (.inl fC))), (pT, .inl (cI, 512, .inl fT)), (pV, .inl (cI, 512, .inl fV))] sz) := by
  refine Met.ofW (cc := cX3_add) (maxL := 3) (ret := (some .int)) (by decide) rfl ?_
  intro p e s m args below meth c s₁ B hml hv
  obtain ⟨rfl, hsz, hP, hK, hZ, hD0⟩ := hv
  have hx := B.exec
  have hb := B.bytes
  have hr := B.returns
  have hts := atoms_spec (ws := wsX3_add) B.pre
  have hown : s.vm.findClass RX3 = some m.cls := findClass_of_methodNamed B.named
  have hlocks := B.notSynchronized
  subst hsz
  have hD := hD0.self (sz := s.heap.size)
  generalize hAe : va_A [(qD, .inr (3, [.ref qS, .ref qP, .ref qU, .int bk])), (qS, .inr (0, [.ref aX, .ref aY, .ref aR, .ref aL, .ref aW])), (aX, .inl (cJ, 3, .inr (.inl vX))), (aY, .inl (cJ, 3, .inr (.inl vY))), (aR, .inl (cJ, 3, .inr (.inl vR))), (aL, .inl (cJ, 3, .inr (.inl vL))), (aW, .inl (cJ, 3, .inr (.inl vW))), (qP, .inr (1, [.ref pC, .ref pT, .ref pV, .int (nI n)])), (pC, .inl (cJ, 1536, .inr (.inl fC))), (pT, .inl (cI, 512, .inl fT)), (pV, .inl (cI, 512, .inl fV))] s.heap.size = A at hD ⊢
  have hA : ∀ q : Nat, s.heap.size ≤ q → A q := fun q h => by rw [← hAe]; exact Or.inr h
  have hS : va_S A s.heap s.heap [] := va_S.rf
  have hP : va_P (dC, dI) vwCl [(qD, .inr (3, [.ref qS, .ref qP, .ref qU, .int bk])), (qS, .inr (0, [.ref aX, .ref aY, .ref aR, .ref aL, .ref aW])), (aX, .inl (cJ, 3, .inr (.inl vX))), (aY, .inl (cJ, 3, .inr (.inl vY))), (aR, .inl (cJ, 3, .inr (.inl vR))), (aL, .inl (cJ, 3, .inr (.inl vL))), (aW, .inl (cJ, 3, .inr (.inl vW))), (qP, .inr (1, [.ref pC, .ref pT, .ref pV, .int (nI n)])), (pC, .inl (cJ, 1536, .inr (.inl fC))), (pT, .inl (cI, 512, .inl fT)), (pV, .inl (cI, 512, .inl fV))] s.heap := hP
  have hl := lv_entry ([.ref qD, .int tn, .int cv]) (n := 3) (Nat.le_of_ble_eq_true rfl)
  rw [lg_entry_eq]
  generalize (lg_sl ([.ref qD, .int tn, .int cv]) ++ List.replicate (3 - (lg_sl ([.ref qD, .int tn, .int cv])).length) Slot.unset).toArray = ls at hl ⊢
  have hl : lv_has ls 3 [(0, .ref qD), (1, .int tn), (2, .int cv)] := hl
  refine lv_iload_n hx hb dX3_add_0 rfl (lv_at hl 1 rfl) ?_
  refine td_csi (va_runS (As := [.int tn]) (rest := []) ⟨hx, hb, hml, hown, hts⟩ (td_isColour l dC dI cI cJ cZ tn) (va_cwS 1 hts (td_gS (td_i4 (List.mem_of_getElem? (i := 16) rfl)) (td_i4 (List.mem_of_getElem? (i := 17) rfl)) (td_i1 (List.mem_of_getElem? (i := 1) rfl)) (td_i4 (List.mem_of_getElem? (i := 18) rfl))) rfl rfl rfl (by decide +kernel) ⟨(Nat.le_of_ble_eq_true rfl), (Nat.le_of_ble_eq_true rfl)⟩) (td_pRS hK hZ hP [] rfl) rfl rfl hl.1 rfl (lv_room (Nat.le_of_ble_eq_true rfl)) dX3_add_1 ⟨Nat.zero_le _, Nat.zero_le _⟩) ?_
  refine td_ifeq (tgt := 30) hx hb dX3_add_4 (by decide) (fun c4 => ?_) (fun c4 => ?_)
  · refine lv_iconst (v := (-1)) hx hb dX3_add_30 (by decide) ?_
    have hP9 := hP.sub (ws' := [(qD, .inr (3, [.ref qS, .ref qP, .ref qU, .int bk])), (qS, .inr (0, [.ref aX, .ref aY, .ref aR, .ref aL, .ref aW])), (aX, .inl (cJ, 3, .inr (.inl vX))), (aY, .inl (cJ, 3, .inr (.inl vY))), (aR, .inl (cJ, 3, .inr (.inl vR))), (aL, .inl (cJ, 3, .inr (.inl vL))), (aW, .inl (cJ, 3, .inr (.inl vW))), (qP, .inr (1, [.ref pC, .ref pT, .ref pV, .int (nI n)])), (pC, .inl (cJ, 1536, .inr (.inl fC))), (pT, .inl (cI, 512, .inl fT)), (pV, .inl (cI, 512, .inl fV))]) [0, 1, 2, 3, 4, 5, 6, 7, 8, 9, 10] rfl
    have hD9 := hD.sub (ws' := [(qD, .inr (3, [.ref qS, .ref qP, .ref qU, .int bk])), (qS, .inr (0, [.ref aX, .ref aY, .ref aR, .ref aL, .ref aW])), (aX, .inl (cJ, 3, .inr (.inl vX))), (aY, .inl (cJ, 3, .inr (.inl vY))), (aR, .inl (cJ, 3, .inr (.inl vR))), (aL, .inl (cJ, 3, .inr (.inl vL))), (aW, .inl (cJ, 3, .inr (.inl vW))), (qP, .inr (1, [.ref pC, .ref pT, .ref pV, .int (nI n)])), (pC, .inl (cJ, 1536, .inr (.inl fC))), (pT, .inl (cI, 512, .inl fT)), (pV, .inl (cI, 512, .inl fV))]) [0, 1, 2, 3, 4, 5, 6, 7, 8, 9, 10] (by decide) rfl
    exact td_rwi (fC, fT, fV, n) hx hb hr rfl hlocks hK (Or.inl ⟨rfl, Or.inl c4, rfl, rfl, rfl, rfl⟩) hP9 hD9 hS dX3_add_31
  · refine lv_iload_n hx hb dX3_add_7 rfl (lv_at hl 2 rfl) ?_
    refine lv_iconst (v := 0) hx hb dX3_add_8 (by decide) ?_
    refine lv_sipush (v := 255) hx hb dX3_add_9 (by decide) ?_
    refine td_csi (va_runS (As := [.int cv, .int 0, .int 255]) (rest := []) ⟨hx, hb, hml, hown, hts⟩ (td_isWithin l dC dI cI cJ cZ cv 0 255) (va_cwS 3 hts (td_gS (td_i4 (List.mem_of_getElem? (i := 3) rfl)) (td_i4 (List.mem_of_getElem? (i := 4) rfl)) (td_i1 (List.mem_of_getElem? (i := 1) rfl)) (td_i4 (List.mem_of_getElem? (i := 5) rfl))) rfl rfl rfl (by decide +kernel) ⟨(Nat.le_of_ble_eq_true rfl), (Nat.le_of_ble_eq_true rfl)⟩) (td_pRS hK hZ hP [] rfl) rfl rfl hl.1 rfl (lv_room (Nat.le_of_ble_eq_true rfl)) dX3_add_12 ⟨Nat.zero_le _, Nat.zero_le _⟩) ?_
    refine td_ifeq (tgt := 30) hx hb dX3_add_15 (by decide) (fun c15 => ?_) (fun c15 => ?_)
    · refine lv_iconst (v := (-1)) hx hb dX3_add_30 (by decide) ?_
      have hP9 := hP.sub (ws' := [(qD, .inr (3, [.ref qS, .ref qP, .ref qU, .int bk])), (qS, .inr (0, [.ref aX, .ref aY, .ref aR, .ref aL, .ref aW])), (aX, .inl (cJ, 3, .inr (.inl vX))), (aY, .inl (cJ, 3, .inr (.inl vY))), (aR, .inl (cJ, 3, .inr (.inl vR))), (aL, .inl (cJ, 3, .inr (.inl vL))), (aW, .inl (cJ, 3, .inr (.inl vW))), (qP, .inr (1, [.ref pC, .ref pT, .ref pV, .int (nI n)])), (pC, .inl (cJ, 1536, .inr (.inl fC))), (pT, .inl (cI, 512, .inl fT)), (pV, .inl (cI, 512, .inl fV))]) [0, 1, 2, 3, 4, 5, 6, 7, 8, 9, 10] rfl
      have hD9 := hD.sub (ws' := [(qD, .inr (3, [.ref qS, .ref qP, .ref qU, .int bk])), (qS, .inr (0, [.ref aX, .ref aY, .ref aR, .ref aL, .ref aW])), (aX, .inl (cJ, 3, .inr (.inl vX))), (aY, .inl (cJ, 3, .inr (.inl vY))), (aR, .inl (cJ, 3, .inr (.inl vR))), (aL, .inl (cJ, 3, .inr (.inl vL))), (aW, .inl (cJ, 3, .inr (.inl vW))), (qP, .inr (1, [.ref pC, .ref pT, .ref pV, .int (nI n)])), (pC, .inl (cJ, 1536, .inr (.inl fC))), (pT, .inl (cI, 512, .inl fT)), (pV, .inl (cI, 512, .inl fV))]) [0, 1, 2, 3, 4, 5, 6, 7, 8, 9, 10] (by decide) rfl
      exact td_rwi (fC, fT, fV, n) hx hb hr rfl hlocks hK (Or.inl ⟨rfl, Or.inr (Or.inl c15), rfl, rfl, rfl, rfl⟩) hP9 hD9 hS dX3_add_31
    · refine lv_aload_n hx hb dX3_add_18 rfl (lv_at hl 0 rfl) ?_
      refine va_get (D := (dC, dI)) (ci := 3) (v := .ref qS) (C := RX3) (T := TX3) (N := 4) hx hb hts td_fX3 hown hK hP 0 rfl rfl 0 (by decide) (hts (.fieldLink RX3 12 "TileDesk" "text" "LTileDesk$Shape;") (td_i3 (List.mem_of_getElem? (i := 19) rfl))) (fun _ h9 => h9) rfl dX3_add_19 ?_
      refine td_csl (va_runV (As := []) (rest := []) ⟨hx, hb, hml, hown, hts⟩ (td_areaC l dC dI cI cJ cZ qS aX aY aR aL aW vX vY vR vL vW) (cwV 0 hts (td_gV (td_i4 (List.mem_of_getElem? (i := 20) rfl)) (td_i4 (List.mem_of_getElem? (i := 21) rfl)) (td_i4 (List.mem_of_getElem? (i := 22) rfl)) (td_i1 (List.mem_of_getElem? (i := 2) rfl)) (td_i4 (List.mem_of_getElem? (i := 23) rfl))) rfl rfl rfl (by decide +kernel) ⟨(Nat.le_of_ble_eq_true rfl), (Nat.le_of_ble_eq_true rfl)⟩) (td_pRV hK hZ hP [1, 2, 3, 4, 5, 6] rfl (va_recv hK hP (ci := 0) (q0 := 1) rfl rfl)) rfl rfl hl.1 rfl (lv_room (Nat.le_of_ble_eq_true rfl)) dX3_add_22 ⟨Nat.zero_le _, Nat.zero_le _⟩) ?_
      refine lv_lconst (v := 0) hx hb dX3_add_25 (by decide) ?_
      refine W.lcmp hx hb dX3_add_26 ?_
      refine td_lgt (tgt := 32) hx hb dX3_add_27 (by decide) (fun c27 => ?_) (fun c27 => ?_)
      · refine lv_aload_n hx hb dX3_add_32 rfl (lv_at hl 0 rfl) ?_
        refine va_get (D := (dC, dI)) (ci := 3) (v := .ref qP) (C := RX3) (T := TX3) (N := 4) hx hb hts td_fX3 hown hK hP 0 rfl rfl 1 (by decide) (hts (.fieldLink RX3 19 "TileDesk" "pieces" "LTileDesk$Pieces;") (td_i3 (List.mem_of_getElem? (i := 20) rfl))) (fun _ h9 => h9) rfl dX3_add_33 ?_
        refine lv_aload_n hx hb dX3_add_36 rfl (lv_at hl 0 rfl) ?_
        refine va_get (D := (dC, dI)) (ci := 3) (v := .ref qS) (C := RX3) (T := TX3) (N := 4) hx hb hts td_fX3 hown hK hP 0 rfl rfl 0 (by decide) (hts (.fieldLink RX3 12 "TileDesk" "text" "LTileDesk$Shape;") (td_i3 (List.mem_of_getElem? (i := 19) rfl))) (fun _ h9 => h9) rfl dX3_add_37 ?_
        refine lv_iload_n hx hb dX3_add_40 rfl (lv_at hl 1 rfl) ?_
        refine lv_iload_n hx hb dX3_add_41 rfl (lv_at hl 2 rfl) ?_
        refine td_cwi (wr := [(qD, .inr (3, [.ref qS, .ref qP, .ref qU, .int bk]))]) (va_runV (As := [.ref qS, .int tn, .int cv]) (rest := []) ⟨hx, hb, hml, hown, hts⟩ (td_append l dC dI cI cJ cZ s.heap.size qP pC pT pV fC fT fV n qS aX aY aR aL aW vX vY vR vL vW tn cv (by omega)) (cwV 3 hts (td_gV (td_i5 (List.mem_of_getElem? (i := 0) rfl)) (td_i5 (List.mem_of_getElem? (i := 1) rfl)) (td_i5 (List.mem_of_getElem? (i := 2) rfl)) (td_i1 (List.mem_of_getElem? (i := 3) rfl)) (td_i5 (List.mem_of_getElem? (i := 3) rfl))) rfl rfl rfl (by decide +kernel) ⟨(Nat.le_of_ble_eq_true rfl), (Nat.le_of_ble_eq_true rfl)⟩) (td_pWV hK hZ hP hD [7, 8, 9, 10, 1, 2, 3, 4, 5, 6] (by decide) rfl (va_recv hK hP (ci := 1) (q0 := 7) rfl rfl)) rfl rfl hl.1 rfl (lv_room (Nat.le_of_ble_eq_true rfl)) dX3_add_42 ⟨Nat.zero_le _, Nat.zero_le _⟩) hP hD hS hA [7, 8, 9, 10, 1, 2, 3, 4, 5, 6] [0] rfl rfl (by decide) (by decide) (fun rap u H locs hap hP hD hS => ?_)
        obtain ⟨hC, hT, hV, hn2⟩ := u
        try dsimp only at hap
        have hP : va_P (dC, dI) vwCl [(qD, .inr (3, [.ref qS, .ref qP, .ref qU, .int bk])), (qP, .inr (1, [.ref pC, .ref pT, .ref pV, .int (nI hn2)])), (pC, .inl (cJ, 1536, .inr (.inl hC))), (pT, .inl (cI, 512, .inl hT)), (pV, .inl (cI, 512, .inl hV)), (qS, .inr (0, [.ref aX, .ref aY, .ref aR, .ref aL, .ref aW])), (aX, .inl (cJ, 3, .inr (.inl vX))), (aY, .inl (cJ, 3, .inr (.inl vY))), (aR, .inl (cJ, 3, .inr (.inl vR))), (aL, .inl (cJ, 3, .inr (.inl vL))), (aW, .inl (cJ, 3, .inr (.inl vW)))] H := hP
        have hD : va_D A [(qD, .inr (3, [.ref qS, .ref qP, .ref qU, .int bk])), (qP, .inr (1, [.ref pC, .ref pT, .ref pV, .int (nI hn2)])), (pC, .inl (cJ, 1536, .inr (.inl hC))), (pT, .inl (cI, 512, .inl hT)), (pV, .inl (cI, 512, .inl hV)), (qS, .inr (0, [.ref aX, .ref aY, .ref aR, .ref aL, .ref aW])), (aX, .inl (cJ, 3, .inr (.inl vX))), (aY, .inl (cJ, 3, .inr (.inl vY))), (aR, .inl (cJ, 3, .inr (.inl vR))), (aL, .inl (cJ, 3, .inr (.inl vL))), (aW, .inl (cJ, 3, .inr (.inl vW)))] := hD
        have hP9 := hP.sub (ws' := [(qD, .inr (3, [.ref qS, .ref qP, .ref qU, .int bk])), (qS, .inr (0, [.ref aX, .ref aY, .ref aR, .ref aL, .ref aW])), (aX, .inl (cJ, 3, .inr (.inl vX))), (aY, .inl (cJ, 3, .inr (.inl vY))), (aR, .inl (cJ, 3, .inr (.inl vR))), (aL, .inl (cJ, 3, .inr (.inl vL))), (aW, .inl (cJ, 3, .inr (.inl vW))), (qP, .inr (1, [.ref pC, .ref pT, .ref pV, .int (nI hn2)])), (pC, .inl (cJ, 1536, .inr (.inl hC))), (pT, .inl (cI, 512, .inl hT)), (pV, .inl (cI, 512, .inl hV))]) [0, 5, 6, 7, 8, 9, 10, 1, 2, 3, 4] rfl
        have hD9 := hD.sub (ws' := [(qD, .inr (3, [.ref qS, .ref qP, .ref qU, .int bk])), (qS, .inr (0, [.ref aX, .ref aY, .ref aR, .ref aL, .ref aW])), (aX, .inl (cJ, 3, .inr (.inl vX))), (aY, .inl (cJ, 3, .inr (.inl vY))), (aR, .inl (cJ, 3, .inr (.inl vR))), (aL, .inl (cJ, 3, .inr (.inl vL))), (aW, .inl (cJ, 3, .inr (.inl vW))), (qP, .inr (1, [.ref pC, .ref pT, .ref pV, .int (nI hn2)])), (pC, .inl (cJ, 1536, .inr (.inl hC))), (pT, .inl (cI, 512, .inl hT)), (pV, .inl (cI, 512, .inl hV))]) [0, 5, 6, 7, 8, 9, 10, 1, 2, 3, 4] (by decide) rfl
        exact td_rwi (hC, hT, hV, hn2) hx hb hr rfl hlocks hK (by rcases hap with ⟨a1, a2, a3, a4, a5, a6⟩ | ⟨a1, a2, a3, a4, a5, a6⟩; exact Or.inl ⟨a2, Or.inr (Or.inr (Or.inr a1)), a3, a4, a5, a6⟩; exact Or.inr ⟨a2, c4, c15, c27, a1, a3, a4, a5, a6⟩) hP9 hD9 hS dX3_add_45
      · refine lv_iconst (v := (-1)) hx hb dX3_add_30 (by decide) ?_
        have hP9 := hP.sub (ws' := [(qD, .inr (3, [.ref qS, .ref qP, .ref qU, .int bk])), (qS, .inr (0, [.ref aX, .ref aY, .ref aR, .ref aL, .ref aW])), (aX, .inl (cJ, 3, .inr (.inl vX))), (aY, .inl (cJ, 3, .inr (.inl vY))), (aR, .inl (cJ, 3, .inr (.inl vR))), (aL, .inl (cJ, 3, .inr (.inl vL))), (aW, .inl (cJ, 3, .inr (.inl vW))), (qP, .inr (1, [.ref pC, .ref pT, .ref pV, .int (nI n)])), (pC, .inl (cJ, 1536, .inr (.inl fC))), (pT, .inl (cI, 512, .inl fT)), (pV, .inl (cI, 512, .inl fV))]) [0, 1, 2, 3, 4, 5, 6, 7, 8, 9, 10] rfl
        have hD9 := hD.sub (ws' := [(qD, .inr (3, [.ref qS, .ref qP, .ref qU, .int bk])), (qS, .inr (0, [.ref aX, .ref aY, .ref aR, .ref aL, .ref aW])), (aX, .inl (cJ, 3, .inr (.inl vX))), (aY, .inl (cJ, 3, .inr (.inl vY))), (aR, .inl (cJ, 3, .inr (.inl vR))), (aL, .inl (cJ, 3, .inr (.inl vL))), (aW, .inl (cJ, 3, .inr (.inl vW))), (qP, .inr (1, [.ref pC, .ref pT, .ref pV, .int (nI n)])), (pC, .inl (cJ, 1536, .inr (.inl fC))), (pT, .inl (cI, 512, .inl fT)), (pV, .inl (cI, 512, .inl fV))]) [0, 1, 2, 3, 4, 5, 6, 7, 8, 9, 10] (by decide) rfl
        exact td_rwi (fC, fT, fV, n) hx hb hr rfl hlocks hK (Or.inl ⟨rfl, Or.inr (Or.inr (Or.inl c27)), rfl, rfl, rfl, rfl⟩) hP9 hD9 hS dX3_add_31
set_option maxHeartbeats 4000000 in
set_option maxRecDepth 100000 in
/-- clear -/
theorem td_clear (l : Launch) (dC : Nat → ClassId) (dI : Nat → Nat → Nat) (cI cJ cZ : ClassId) (sz : Nat) (qD : Nat) (qS : Nat) (qP : Nat) (qU : Nat) (bk : Int32) (pC : Nat) (pT : Nat) (pV : Nat) (fC : Nat → Int64) (fT : Nat → Int32) (fV : Nat → Int32) (n : Nat) : Met l yX3_clear wsX3_clear ({ frames := 1, cells := 0, slots := 0, locals := 20 }) (td_WP (dC, dI) vwCl (td_T cI cJ cZ) td_nl [(qD, .inr (3, [.ref qS, .ref qP, .ref qU, .int bk])), (qP, .inr (1, [.ref pC, .ref pT, .ref pV, .int (nI n)])), (pC, .inl (cJ, 1536, .inr (.inl fC))), (pT, .inl (cI, 512, .inl fT)), (pV, .inl (cI, 512, .inl fV))] sz [.ref qD]) (va_Qv (S := Unit) (fun u => True) (td_B (dC, dI) vwCl (td_T cI cJ cZ) (va_A [(qD, .inr (3, [.ref qS, .ref qP, .ref qU, .int bk])), (qP, .inr (1, [.ref pC, .ref pT, .ref pV, .int (nI n)])), (pC, .inl (cJ, 1536, .inr (.inl fC))), (pT, .inl (cI, 512, .inl fT)), (pV, .inl (cI, 512, .inl fV))] sz) (fun (u : Unit) => [(qD, .inr (3, [.ref qS, .ref qP, .ref qU, .int bk])), (qP, .inr (1, [.ref pC, .ref pT, .ref pV, .int 0])), (pC, .inl (cJ, 1536, .inr (.inl fC))), (pT, .inl (cI, 512, .inl fT)), (pV, .inl (cI, 512, .inl fV))])) (va_A [(qD, .inr (3, [.ref qS, .ref qP, .ref qU, .int bk])), (qP, .inr (1, [.ref pC, .ref pT, .ref pV, .int (nI n)])), (pC, .inl (cJ, 1536, .inr (.inl fC))), (pT, .inl (cI, 512, .inl fT)), (pV, .inl (cI, 512, .inl fV))] sz)) 0 0 (va_A [(qD, .inr (3, [.ref qS, .ref qP, .ref qU, .int bk])), (qP, .inr (1, [.ref pC, .ref pT, .ref pV, .int (nI n)])), (pC, .inl (cJ, 1536, .inr (.inl fC))), (pT, .inl (cI, 512, .inl fT)), (pV, .inl (cI, 512, .inl fV))] sz) := by
  refine Met.ofW (cc := cX3_clear) (maxL := 1) (ret := none) (by decide) rfl ?_
  intro p e s m args below meth c s₁ B hml hv
  obtain ⟨rfl, hsz, hP, hK, hZ, hD0⟩ := hv
  have hx := B.exec
  have hb := B.bytes
  have hr := B.returns
  have hts := atoms_spec (ws := wsX3_clear) B.pre
  have hown : s.vm.findClass RX3 = some m.cls := findClass_of_methodNamed B.named
  have hlocks := B.notSynchronized
  subst hsz
  have hD := hD0.self (sz := s.heap.size)
  generalize hAe : va_A [(qD, .inr (3, [.ref qS, .ref qP, .ref qU, .int bk])), (qP, .inr (1, [.ref pC, .ref pT, .ref pV, .int (nI n)])), (pC, .inl (cJ, 1536, .inr (.inl fC))), (pT, .inl (cI, 512, .inl fT)), (pV, .inl (cI, 512, .inl fV))] s.heap.size = A at hD ⊢
  have hA : ∀ q : Nat, s.heap.size ≤ q → A q := fun q h => by rw [← hAe]; exact Or.inr h
  have hS : va_S A s.heap s.heap [] := va_S.rf
  have hP : va_P (dC, dI) vwCl [(qD, .inr (3, [.ref qS, .ref qP, .ref qU, .int bk])), (qP, .inr (1, [.ref pC, .ref pT, .ref pV, .int (nI n)])), (pC, .inl (cJ, 1536, .inr (.inl fC))), (pT, .inl (cI, 512, .inl fT)), (pV, .inl (cI, 512, .inl fV))] s.heap := hP
  have hl := lv_entry ([.ref qD]) (n := 1) (Nat.le_of_ble_eq_true rfl)
  rw [lg_entry_eq]
  generalize (lg_sl ([.ref qD]) ++ List.replicate (1 - (lg_sl ([.ref qD])).length) Slot.unset).toArray = ls at hl ⊢
  have hl : lv_has ls 1 [(0, .ref qD)] := hl
  refine lv_aload_n hx hb dX3_clear_0 rfl (lv_at hl 0 rfl) ?_
  refine va_get (D := (dC, dI)) (ci := 3) (v := .ref qP) (C := RX3) (T := TX3) (N := 4) hx hb hts td_fX3 hown hK hP 0 rfl rfl 1 (by decide) (hts (.fieldLink RX3 19 "TileDesk" "pieces" "LTileDesk$Pieces;") (td_i3 (List.mem_of_getElem? (i := 20) rfl))) (fun _ h9 => h9) rfl dX3_clear_1 ?_
  refine td_cwv (wr := [(qD, .inr (3, [.ref qS, .ref qP, .ref qU, .int bk]))]) (va_runV (As := []) (rest := []) ⟨hx, hb, hml, hown, hts⟩ (td_removeAll l dC dI cI cJ cZ s.heap.size qP pC pT pV fC fT fV n) (cwV 0 hts (td_gV (td_i5 (List.mem_of_getElem? (i := 16) rfl)) (td_i5 (List.mem_of_getElem? (i := 17) rfl)) (td_i5 (List.mem_of_getElem? (i := 18) rfl)) (td_i1 (List.mem_of_getElem? (i := 3) rfl)) (td_i5 (List.mem_of_getElem? (i := 19) rfl))) rfl rfl rfl (by decide +kernel) ⟨(Nat.le_of_ble_eq_true rfl), (Nat.le_of_ble_eq_true rfl)⟩) (td_pWV hK hZ hP hD [1, 2, 3, 4] (by decide) rfl (va_recv hK hP (ci := 1) (q0 := 1) rfl rfl)) rfl rfl hl.1 rfl (lv_room (Nat.le_of_ble_eq_true rfl)) dX3_clear_4 ⟨Nat.zero_le _, Nat.zero_le _⟩) hP hD hS hA [1, 2, 3, 4] [0] rfl rfl (by decide) (by decide) (fun u H locs w4_1 hP hD hS => ?_)
  try dsimp only at w4_1
  have hP : va_P (dC, dI) vwCl [(qD, .inr (3, [.ref qS, .ref qP, .ref qU, .int bk])), (qP, .inr (1, [.ref pC, .ref pT, .ref pV, .int 0])), (pC, .inl (cJ, 1536, .inr (.inl fC))), (pT, .inl (cI, 512, .inl fT)), (pV, .inl (cI, 512, .inl fV))] H := hP
  have hD : va_D A [(qD, .inr (3, [.ref qS, .ref qP, .ref qU, .int bk])), (qP, .inr (1, [.ref pC, .ref pT, .ref pV, .int 0])), (pC, .inl (cJ, 1536, .inr (.inl fC))), (pT, .inl (cI, 512, .inl fT)), (pV, .inl (cI, 512, .inl fV))] := hD
  have hP9 := hP.sub (ws' := [(qD, .inr (3, [.ref qS, .ref qP, .ref qU, .int bk])), (qP, .inr (1, [.ref pC, .ref pT, .ref pV, .int 0])), (pC, .inl (cJ, 1536, .inr (.inl fC))), (pT, .inl (cI, 512, .inl fT)), (pV, .inl (cI, 512, .inl fV))]) [0, 1, 2, 3, 4] rfl
  have hD9 := hD.sub (ws' := [(qD, .inr (3, [.ref qS, .ref qP, .ref qU, .int bk])), (qP, .inr (1, [.ref pC, .ref pT, .ref pV, .int 0])), (pC, .inl (cJ, 1536, .inr (.inl fC))), (pT, .inl (cI, 512, .inl fT)), (pV, .inl (cI, 512, .inl fV))]) [0, 1, 2, 3, 4] (by decide) rfl
  exact td_rwv () hx hb hr hlocks hK (trivial) hP9 hD9 hS dX3_clear_7
set_option maxHeartbeats 4000000 in
set_option maxRecDepth 100000 in
/-- background -/
theorem td_background (l : Launch) (dC : Nat → ClassId) (dI : Nat → Nat → Nat) (cI cJ cZ : ClassId) (sz : Nat) (qD : Nat) (qS : Nat) (qP : Nat) (qU : Nat) (bk : Int32) (co : Int32) : Met l yX3_background wsX3_background ({ frames := 2, cells := 0, slots := 0, locals := 42 }) (td_WP (dC, dI) vwCl (td_T cI cJ cZ) td_nl [(qD, .inr (3, [.ref qS, .ref qP, .ref qU, .int bk]))] sz [.ref qD, .int co]) (va_Qi (S := Int32) (fun r u => (r = 1 ∧ (0 ≤ co ∧ co ≤ 16777215) ∧ u = co) ∨ (r = 0 ∧ ¬ (0 ≤ co ∧ co ≤ 16777215) ∧ u = bk)) (td_B (dC, dI) vwCl (td_T cI cJ cZ) (va_A [(qD, .inr (3, [.ref qS, .ref qP, .ref qU, .int bk]))] sz) (fun (u : Int32) => [(qD, .inr (3, [.ref qS, .ref qP, .ref qU, .int u]))])) (va_A [(qD, .inr (3, [.ref qS, .ref qP, .ref qU, .int bk]))] sz)) 0 0 (va_A [(qD, .inr (3, [.ref qS, .ref qP, .ref qU, .int bk]))] sz) := by
  refine Met.ofW (cc := cX3_background) (maxL := 2) (ret := (some .boolean)) (by decide) rfl ?_
  intro p e s m args below meth c s₁ B hml hv
  obtain ⟨rfl, hsz, hP, hK, hZ, hD0⟩ := hv
  have hx := B.exec
  have hb := B.bytes
  have hr := B.returns
  have hts := atoms_spec (ws := wsX3_background) B.pre
  have hown : s.vm.findClass RX3 = some m.cls := findClass_of_methodNamed B.named
  have hlocks := B.notSynchronized
  subst hsz
  have hD := hD0.self (sz := s.heap.size)
  generalize hAe : va_A [(qD, .inr (3, [.ref qS, .ref qP, .ref qU, .int bk]))] s.heap.size = A at hD ⊢
  have hA : ∀ q : Nat, s.heap.size ≤ q → A q := fun q h => by rw [← hAe]; exact Or.inr h
  have hS : va_S A s.heap s.heap [] := va_S.rf
  have hP : va_P (dC, dI) vwCl [(qD, .inr (3, [.ref qS, .ref qP, .ref qU, .int bk]))] s.heap := hP
  have hl := lv_entry ([.ref qD, .int co]) (n := 2) (Nat.le_of_ble_eq_true rfl)
  rw [lg_entry_eq]
  generalize (lg_sl ([.ref qD, .int co]) ++ List.replicate (2 - (lg_sl ([.ref qD, .int co])).length) Slot.unset).toArray = ls at hl ⊢
  have hl : lv_has ls 2 [(0, .ref qD), (1, .int co)] := hl
  refine lv_iload_n hx hb dX3_background_0 rfl (lv_at hl 1 rfl) ?_
  refine td_csi (va_runS (As := [.int co]) (rest := []) ⟨hx, hb, hml, hown, hts⟩ (td_isColour l dC dI cI cJ cZ co) (va_cwS 1 hts (td_gS (td_i4 (List.mem_of_getElem? (i := 16) rfl)) (td_i4 (List.mem_of_getElem? (i := 17) rfl)) (td_i1 (List.mem_of_getElem? (i := 1) rfl)) (td_i4 (List.mem_of_getElem? (i := 18) rfl))) rfl rfl rfl (by decide +kernel) ⟨(Nat.le_of_ble_eq_true rfl), (Nat.le_of_ble_eq_true rfl)⟩) (td_pRS hK hZ hP [] rfl) rfl rfl hl.1 rfl (lv_room (Nat.le_of_ble_eq_true rfl)) dX3_background_1 ⟨Nat.zero_le _, Nat.zero_le _⟩) ?_
  refine td_ifne (tgt := 9) hx hb dX3_background_4 (by decide) (fun c4 => ?_) (fun c4 => ?_)
  · refine lv_aload_n hx hb dX3_background_9 rfl (lv_at hl 0 rfl) ?_
    refine lv_iload_n hx hb dX3_background_10 rfl (lv_at hl 1 rfl) ?_
    refine va_put (D := (dC, dI)) (ci := 3) (v := .int co) (ty := .int) (C := RX3) (T := TX3) (N := 4) hx hb hts td_fX3 tyX3 tyX3_ok nmX3 hown hK hP hD hS 0 rfl rfl 3 (by decide) (hts (.fieldLink RX3 23 "TileDesk" "backgroundNow" "I") (td_i3 (List.mem_of_getElem? (i := 22) rfl))) (fun _ h9 => h9) rfl (by decide +kernel) rfl rfl (Nat.le_of_ble_eq_true rfl) dX3_background_11 (fun H locs hP hD hS => ?_)
    have hP : va_P (dC, dI) vwCl [(qD, .inr (3, [.ref qS, .ref qP, .ref qU, .int co]))] H := hP
    have hD : va_D A [(qD, .inr (3, [.ref qS, .ref qP, .ref qU, .int co]))] := hD
    refine lv_iconst (v := 1) hx hb dX3_background_14 (by decide) ?_
    have hP9 := hP.sub (ws' := [(qD, .inr (3, [.ref qS, .ref qP, .ref qU, .int co]))]) [0] rfl
    have hD9 := hD.sub (ws' := [(qD, .inr (3, [.ref qS, .ref qP, .ref qU, .int co]))]) [0] (by decide) rfl
    exact td_rwi co hx hb hr rfl hlocks hK (Or.inl ⟨rfl, c4, rfl⟩) hP9 hD9 hS dX3_background_15
  · refine lv_iconst (v := 0) hx hb dX3_background_7 (by decide) ?_
    have hP9 := hP.sub (ws' := [(qD, .inr (3, [.ref qS, .ref qP, .ref qU, .int bk]))]) [0] rfl
    have hD9 := hD.sub (ws' := [(qD, .inr (3, [.ref qS, .ref qP, .ref qU, .int bk]))]) [0] (by decide) rfl
    exact td_rwi bk hx hb hr rfl hlocks hK (Or.inr ⟨rfl, c4, rfl⟩) hP9 hD9 hS dX3_background_8
set_option maxHeartbeats 4000000 in
set_option maxRecDepth 100000 in
/-- begin -/
theorem td_begin (l : Launch) (dC : Nat → ClassId) (dI : Nat → Nat → Nat) (cI cJ cZ : ClassId) (sz : Nat) (qD : Nat) (qS : Nat) (qP : Nat) (qU : Nat) (bk : Int32) (cC : Nat) (cN : Nat) (cD : Nat) (qT : Nat) (qH : Nat) (w : Nat) (h : Nat) (ta : Nat) (bg : Int32) (bn : Int32) (dt : Int32) (lf : Int32) (tp : Int32) (rt : Int32) (bm : Int32) (nd : Nat) (fD : Nat → Int32) (pCT : Nat) (pTT : Nat) (pVT : Nat) (fCT : Nat → Int64) (fTT : Nat → Int32) (fVT : Nat → Int32) (mt : Nat) (pC : Nat) (pT : Nat) (pV : Nat) (fC : Nat → Int64) (fT : Nat → Int32) (fV : Nat → Int32) (n : Nat) (hn : n ≤ 512) (hnd : nd ≤ 36) : Met l yX3_begin wsX3_begin ({ frames := 3, cells := 0, slots := 0, locals := 62 }) (td_WP (dC, dI) vwCl (td_T cI cJ cZ) td_nl [(qD, .inr (3, [.ref qS, .ref qP, .ref qU, .int bk])), (qU, .inr (2, [.int (nI w), .int (nI h), .int (nI ta), .ref cC, .ref cN, .ref cD, .ref qT, .ref qH, .int bg, .int bn, .int dt, .int lf, .int tp, .int rt, .int bm])), (cD, .inl (cZ, nd, .inl fD)), (qT, .inr (1, [.ref pCT, .ref pTT, .ref pVT, .int (nI mt)])), (pCT, .inl (cJ, 1536, .inr (.inl fCT))), (pTT, .inl (cI, 512, .inl fTT)), (pVT, .inl (cI, 512, .inl fVT)), (qP, .inr (1, [.ref pC, .ref pT, .ref pV, .int (nI n)])), (pC, .inl (cJ, 1536, .inr (.inl fC))), (pT, .inl (cI, 512, .inl fT)), (pV, .inl (cI, 512, .inl fV))] sz [.ref qD]) (va_Qi (S := (Nat → Int32)) (fun r u => r = nI nd ∧ ∀ z, z < nd → u z = 0) (td_B (dC, dI) vwCl (td_T cI cJ cZ) (va_A [(qD, .inr (3, [.ref qS, .ref qP, .ref qU, .int bk])), (qU, .inr (2, [.int (nI w), .int (nI h), .int (nI ta), .ref cC, .ref cN, .ref cD, .ref qT, .ref qH, .int bg, .int bn, .int dt, .int lf, .int tp, .int rt, .int bm])), (cD, .inl (cZ, nd, .inl fD)), (qT, .inr (1, [.ref pCT, .ref pTT, .ref pVT, .int (nI mt)])), (pCT, .inl (cJ, 1536, .inr (.inl fCT))), (pTT, .inl (cI, 512, .inl fTT)), (pVT, .inl (cI, 512, .inl fVT)), (qP, .inr (1, [.ref pC, .ref pT, .ref pV, .int (nI n)])), (pC, .inl (cJ, 1536, .inr (.inl fC))), (pT, .inl (cI, 512, .inl fT)), (pV, .inl (cI, 512, .inl fV))] sz) (fun (u : (Nat → Int32)) => [(qD, .inr (3, [.ref qS, .ref qP, .ref qU, .int bk])), (qU, .inr (2, [.int (nI w), .int (nI h), .int (nI ta), .ref cC, .ref cN, .ref cD, .ref qT, .ref qH, .int bk, .int 1, .int 0, .int lf, .int tp, .int rt, .int bm])), (cD, .inl (cZ, nd, .inl u)), (qT, .inr (1, [.ref pCT, .ref pTT, .ref pVT, .int (nI n)])), (pCT, .inl (cJ, 1536, .inr (.inl (va_cpy fC fCT 0 0 (3 * n))))), (pTT, .inl (cI, 512, .inl (va_cpy fT fTT 0 0 n))), (pVT, .inl (cI, 512, .inl (va_cpy fV fVT 0 0 n))), (qP, .inr (1, [.ref pC, .ref pT, .ref pV, .int (nI n)])), (pC, .inl (cJ, 1536, .inr (.inl fC))), (pT, .inl (cI, 512, .inl fT)), (pV, .inl (cI, 512, .inl fV))])) (va_A [(qD, .inr (3, [.ref qS, .ref qP, .ref qU, .int bk])), (qU, .inr (2, [.int (nI w), .int (nI h), .int (nI ta), .ref cC, .ref cN, .ref cD, .ref qT, .ref qH, .int bg, .int bn, .int dt, .int lf, .int tp, .int rt, .int bm])), (cD, .inl (cZ, nd, .inl fD)), (qT, .inr (1, [.ref pCT, .ref pTT, .ref pVT, .int (nI mt)])), (pCT, .inl (cJ, 1536, .inr (.inl fCT))), (pTT, .inl (cI, 512, .inl fTT)), (pVT, .inl (cI, 512, .inl fVT)), (qP, .inr (1, [.ref pC, .ref pT, .ref pV, .int (nI n)])), (pC, .inl (cJ, 1536, .inr (.inl fC))), (pT, .inl (cI, 512, .inl fT)), (pV, .inl (cI, 512, .inl fV))] sz)) 0 0 (va_A [(qD, .inr (3, [.ref qS, .ref qP, .ref qU, .int bk])), (qU, .inr (2, [.int (nI w), .int (nI h), .int (nI ta), .ref cC, .ref cN, .ref cD, .ref qT, .ref qH, .int bg, .int bn, .int dt, .int lf, .int tp, .int rt, .int bm])), (cD, .inl (cZ, nd, .inl fD)), (qT, .inr (1, [.ref pCT, .ref pTT, .ref pVT, .int (nI mt)])), (pCT, .inl (cJ, 1536, .inr (.inl fCT))), (pTT, .inl (cI, 512, .inl fTT)), (pVT, .inl (cI, 512, .inl fVT)), (qP, .inr (1, [.ref pC, .ref pT, .ref pV, .int (nI n)])), (pC, .inl (cJ, 1536, .inr (.inl fC))), (pT, .inl (cI, 512, .inl fT)), (pV, .inl (cI, 512, .inl fV))] sz) := by
  refine Met.ofW (cc := cX3_begin) (maxL := 1) (ret := (some .int)) (by decide) rfl ?_
  intro p e s m args below meth c s₁ B hml hv
  obtain ⟨rfl, hsz, hP, hK, hZ, hD0⟩ := hv
  have hx := B.exec
  have hb := B.bytes
  have hr := B.returns
  have hts := atoms_spec (ws := wsX3_begin) B.pre
  have hown : s.vm.findClass RX3 = some m.cls := findClass_of_methodNamed B.named
  have hlocks := B.notSynchronized
  subst hsz
  have hD := hD0.self (sz := s.heap.size)
  generalize hAe : va_A [(qD, .inr (3, [.ref qS, .ref qP, .ref qU, .int bk])), (qU, .inr (2, [.int (nI w), .int (nI h), .int (nI ta), .ref cC, .ref cN, .ref cD, .ref qT, .ref qH, .int bg, .int bn, .int dt, .int lf, .int tp, .int rt, .int bm])), (cD, .inl (cZ, nd, .inl fD)), (qT, .inr (1, [.ref pCT, .ref pTT, .ref pVT, .int (nI mt)])), (pCT, .inl (cJ, 1536, .inr (.inl fCT))), (pTT, .inl (cI, 512, .inl fTT)), (pVT, .inl (cI, 512, .inl fVT)), (qP, .inr (1, [.ref pC, .ref pT, .ref pV, .int (nI n)])), (pC, .inl (cJ, 1536, .inr (.inl fC))), (pT, .inl (cI, 512, .inl fT)), (pV, .inl (cI, 512, .inl fV))] s.heap.size = A at hD ⊢
  have hA : ∀ q : Nat, s.heap.size ≤ q → A q := fun q h => by rw [← hAe]; exact Or.inr h
  have hS : va_S A s.heap s.heap [] := va_S.rf
  have hP : va_P (dC, dI) vwCl [(qD, .inr (3, [.ref qS, .ref qP, .ref qU, .int bk])), (qU, .inr (2, [.int (nI w), .int (nI h), .int (nI ta), .ref cC, .ref cN, .ref cD, .ref qT, .ref qH, .int bg, .int bn, .int dt, .int lf, .int tp, .int rt, .int bm])), (cD, .inl (cZ, nd, .inl fD)), (qT, .inr (1, [.ref pCT, .ref pTT, .ref pVT, .int (nI mt)])), (pCT, .inl (cJ, 1536, .inr (.inl fCT))), (pTT, .inl (cI, 512, .inl fTT)), (pVT, .inl (cI, 512, .inl fVT)), (qP, .inr (1, [.ref pC, .ref pT, .ref pV, .int (nI n)])), (pC, .inl (cJ, 1536, .inr (.inl fC))), (pT, .inl (cI, 512, .inl fT)), (pV, .inl (cI, 512, .inl fV))] s.heap := hP
  have hl := lv_entry ([.ref qD]) (n := 1) (Nat.le_of_ble_eq_true rfl)
  rw [lg_entry_eq]
  generalize (lg_sl ([.ref qD]) ++ List.replicate (1 - (lg_sl ([.ref qD])).length) Slot.unset).toArray = ls at hl ⊢
  have hl : lv_has ls 1 [(0, .ref qD)] := hl
  refine lv_aload_n hx hb dX3_begin_0 rfl (lv_at hl 0 rfl) ?_
  refine va_get (D := (dC, dI)) (ci := 3) (v := .ref qU) (C := RX3) (T := TX3) (N := 4) hx hb hts td_fX3 hown hK hP 0 rfl rfl 2 (by decide) (hts (.fieldLink RX3 36 "TileDesk" "picture" "LTileDesk$Picture;") (td_i3 (List.mem_of_getElem? (i := 21) rfl))) (fun _ h9 => h9) rfl dX3_begin_1 ?_
  refine lv_aload_n hx hb dX3_begin_4 rfl (lv_at hl 0 rfl) ?_
  refine va_get (D := (dC, dI)) (ci := 3) (v := .ref qP) (C := RX3) (T := TX3) (N := 4) hx hb hts td_fX3 hown hK hP 0 rfl rfl 1 (by decide) (hts (.fieldLink RX3 19 "TileDesk" "pieces" "LTileDesk$Pieces;") (td_i3 (List.mem_of_getElem? (i := 20) rfl))) (fun _ h9 => h9) rfl dX3_begin_5 ?_
  refine lv_aload_n hx hb dX3_begin_8 rfl (lv_at hl 0 rfl) ?_
  refine va_get (D := (dC, dI)) (ci := 3) (v := .int bk) (C := RX3) (T := TX3) (N := 4) hx hb hts td_fX3 hown hK hP 0 rfl rfl 3 (by decide) (hts (.fieldLink RX3 23 "TileDesk" "backgroundNow" "I") (td_i3 (List.mem_of_getElem? (i := 22) rfl))) (fun _ h9 => h9) rfl dX3_begin_9 ?_
  refine td_cwi (wr := [(qD, .inr (3, [.ref qS, .ref qP, .ref qU, .int bk]))]) (va_runV (As := [.ref qP, .int bk]) (rest := []) ⟨hx, hb, hml, hown, hts⟩ (td_start l dC dI cI cJ cZ s.heap.size qU cC cN cD qT qH w h ta bg bn dt lf tp rt bm nd fD pCT pTT pVT fCT fTT fVT mt qP pC pT pV fC fT fV n bk (by omega) (by omega)) (cwV 2 hts (td_gV (td_i6 (List.mem_of_getElem? (i := 4) rfl)) (td_i6 (List.mem_of_getElem? (i := 5) rfl)) (td_i6 (List.mem_of_getElem? (i := 6) rfl)) (td_i1 (List.mem_of_getElem? (i := 4) rfl)) (td_i6 (List.mem_of_getElem? (i := 7) rfl))) rfl rfl rfl (by decide +kernel) ⟨(Nat.le_of_ble_eq_true rfl), (Nat.le_of_ble_eq_true rfl)⟩) (td_pWV hK hZ hP hD [1, 2, 3, 4, 5, 6, 7, 8, 9, 10] (by decide) rfl (va_recv hK hP (ci := 2) (q0 := 1) rfl rfl)) rfl rfl hl.1 rfl (lv_room (Nat.le_of_ble_eq_true rfl)) dX3_begin_12 ⟨Nat.zero_le _, Nat.zero_le _⟩) hP hD hS hA [1, 2, 3, 4, 5, 6, 7, 8, 9, 10] [0] rfl rfl (by decide) (by decide) (fun rst u H locs hst hP hD hS => ?_)
  obtain ⟨hD2, rfl⟩ : ∃ z, z = u := ⟨_, rfl⟩
  try dsimp only at hst
  have hP : va_P (dC, dI) vwCl [(qD, .inr (3, [.ref qS, .ref qP, .ref qU, .int bk])), (qU, .inr (2, [.int (nI w), .int (nI h), .int (nI ta), .ref cC, .ref cN, .ref cD, .ref qT, .ref qH, .int bk, .int 1, .int 0, .int lf, .int tp, .int rt, .int bm])), (cD, .inl (cZ, nd, .inl hD2)), (qT, .inr (1, [.ref pCT, .ref pTT, .ref pVT, .int (nI n)])), (pCT, .inl (cJ, 1536, .inr (.inl (va_cpy fC fCT 0 0 (3 * n))))), (pTT, .inl (cI, 512, .inl (va_cpy fT fTT 0 0 n))), (pVT, .inl (cI, 512, .inl (va_cpy fV fVT 0 0 n))), (qP, .inr (1, [.ref pC, .ref pT, .ref pV, .int (nI n)])), (pC, .inl (cJ, 1536, .inr (.inl fC))), (pT, .inl (cI, 512, .inl fT)), (pV, .inl (cI, 512, .inl fV))] H := hP
  have hD : va_D A [(qD, .inr (3, [.ref qS, .ref qP, .ref qU, .int bk])), (qU, .inr (2, [.int (nI w), .int (nI h), .int (nI ta), .ref cC, .ref cN, .ref cD, .ref qT, .ref qH, .int bk, .int 1, .int 0, .int lf, .int tp, .int rt, .int bm])), (cD, .inl (cZ, nd, .inl hD2)), (qT, .inr (1, [.ref pCT, .ref pTT, .ref pVT, .int (nI n)])), (pCT, .inl (cJ, 1536, .inr (.inl (va_cpy fC fCT 0 0 (3 * n))))), (pTT, .inl (cI, 512, .inl (va_cpy fT fTT 0 0 n))), (pVT, .inl (cI, 512, .inl (va_cpy fV fVT 0 0 n))), (qP, .inr (1, [.ref pC, .ref pT, .ref pV, .int (nI n)])), (pC, .inl (cJ, 1536, .inr (.inl fC))), (pT, .inl (cI, 512, .inl fT)), (pV, .inl (cI, 512, .inl fV))] := hD
  have hP9 := hP.sub (ws' := [(qD, .inr (3, [.ref qS, .ref qP, .ref qU, .int bk])), (qU, .inr (2, [.int (nI w), .int (nI h), .int (nI ta), .ref cC, .ref cN, .ref cD, .ref qT, .ref qH, .int bk, .int 1, .int 0, .int lf, .int tp, .int rt, .int bm])), (cD, .inl (cZ, nd, .inl hD2)), (qT, .inr (1, [.ref pCT, .ref pTT, .ref pVT, .int (nI n)])), (pCT, .inl (cJ, 1536, .inr (.inl (va_cpy fC fCT 0 0 (3 * n))))), (pTT, .inl (cI, 512, .inl (va_cpy fT fTT 0 0 n))), (pVT, .inl (cI, 512, .inl (va_cpy fV fVT 0 0 n))), (qP, .inr (1, [.ref pC, .ref pT, .ref pV, .int (nI n)])), (pC, .inl (cJ, 1536, .inr (.inl fC))), (pT, .inl (cI, 512, .inl fT)), (pV, .inl (cI, 512, .inl fV))]) [0, 1, 2, 3, 4, 5, 6, 7, 8, 9, 10] rfl
  have hD9 := hD.sub (ws' := [(qD, .inr (3, [.ref qS, .ref qP, .ref qU, .int bk])), (qU, .inr (2, [.int (nI w), .int (nI h), .int (nI ta), .ref cC, .ref cN, .ref cD, .ref qT, .ref qH, .int bk, .int 1, .int 0, .int lf, .int tp, .int rt, .int bm])), (cD, .inl (cZ, nd, .inl hD2)), (qT, .inr (1, [.ref pCT, .ref pTT, .ref pVT, .int (nI n)])), (pCT, .inl (cJ, 1536, .inr (.inl (va_cpy fC fCT 0 0 (3 * n))))), (pTT, .inl (cI, 512, .inl (va_cpy fT fTT 0 0 n))), (pVT, .inl (cI, 512, .inl (va_cpy fV fVT 0 0 n))), (qP, .inr (1, [.ref pC, .ref pT, .ref pV, .int (nI n)])), (pC, .inl (cJ, 1536, .inr (.inl fC))), (pT, .inl (cI, 512, .inl fT)), (pV, .inl (cI, 512, .inl fV))]) [0, 1, 2, 3, 4, 5, 6, 7, 8, 9, 10] (by decide) rfl
  exact td_rwi hD2 hx hb hr rfl hlocks hK (hst) hP9 hD9 hS dX3_begin_15
set_option maxHeartbeats 4000000 in
set_option maxRecDepth 100000 in
/-- tile -/
theorem td_tileC (l : Launch) (dC : Nat → ClassId) (dI : Nat → Nat → Nat) (cI cJ cZ : ClassId) (sz : Nat) (qD : Nat) (qS : Nat) (qP : Nat) (qU : Nat) (bk : Int32) (cC : Nat) (cN : Nat) (cD : Nat) (qT : Nat) (qH : Nat) (w : Nat) (h : Nat) (ta : Nat) (bg : Int32) (bn : Int32) (dt : Int32) (lf : Int32) (tp : Int32) (rt : Int32) (bm : Int32) (wh : Nat) (fc : Nat → Int32) (fn : Nat → Int32) (nd : Nat) (fD : Nat → Int32) (pCT : Nat) (pTT : Nat) (pVT : Nat) (fCT : Nat → Int64) (fTT : Nat → Int32) (fVT : Nat → Int32) (mt : Nat) (aX : Nat) (aY : Nat) (aR : Nat) (aL : Nat) (aW : Nat) (vX : Nat → Int64) (vY : Nat → Int64) (vR : Nat → Int64) (vL : Nat → Int64) (vW : Nat → Int64) (k : Int32) (g : Nat → Int32) (bgN : Nat) (hw1 : 8 ≤ w) (hw2 : w ≤ 48) (hh1 : 8 ≤ h) (hh2 : h ≤ 48) (hta : ta = (w + 7) / 8) (hnd : nd = ta * ((h + 7) / 8)) (hwh : wh = w * h) (hm : mt ≤ 512) (hbg : bg = nI bgN) (hbb : bgN < 16777216) (hp : ∀ t, t < mt → td_pc g (14 * t)) (hcr : ∀ t, t < mt → td_pkd g (14 * t) (3 * t) fCT) (hti : ∀ t, t < mt → fTT t = g (14 * t + 12)) (hcv : ∀ t, t < mt → fVT t = g (14 * t + 13)) : Met l yX3_tile wsX3_tile ({ frames := 6, cells := 0, slots := 0, locals := 152 }) (td_WP (dC, dI) vwCl (td_T cI cJ cZ) td_nl [(qD, .inr (3, [.ref qS, .ref qP, .ref qU, .int bk])), (qU, .inr (2, [.int (nI w), .int (nI h), .int (nI ta), .ref cC, .ref cN, .ref cD, .ref qT, .ref qH, .int bg, .int bn, .int dt, .int lf, .int tp, .int rt, .int bm])), (cC, .inl (cI, wh, .inl fc)), (cN, .inl (cI, wh, .inl fn)), (cD, .inl (cZ, nd, .inl fD)), (qT, .inr (1, [.ref pCT, .ref pTT, .ref pVT, .int (nI mt)])), (pCT, .inl (cJ, 1536, .inr (.inl fCT))), (pTT, .inl (cI, 512, .inl fTT)), (pVT, .inl (cI, 512, .inl fVT)), (qH, .inr (0, [.ref aX, .ref aY, .ref aR, .ref aL, .ref aW])), (aX, .inl (cJ, 3, .inr (.inl vX))), (aY, .inl (cJ, 3, .inr (.inl vY))), (aR, .inl (cJ, 3, .inr (.inl vR))), (aL, .inl (cJ, 3, .inr (.inl vL))), (aW, .inl (cJ, 3, .inr (.inl vW)))] sz [.ref qD, .int k]) (va_Qi (S := (Nat → Int32) × (Nat → Int32) × (Nat → Int32) × Int32 × Int32 × Int32 × Int32 × Int32 × (Nat → Int64) × (Nat → Int64) × (Nat → Int64) × (Nat → Int64) × (Nat → Int64)) (fun r u => (r = 0 ∧ (u.1 = fc ∧ u.2.1 = fn ∧ u.2.2.1 = fD ∧ u.2.2.2.1 = dt) ∧ (bn = 0 ∨ k < 0 ∨ nI nd ≤ k ∨ ∃ kk, kk < nd ∧ k = nI kk ∧ ¬ fD kk = 0)) ∨ (r = 1 ∧ ¬ bn = 0 ∧ ∃ kk, kk < nd ∧ k = nI kk ∧ fD kk = 0 ∧ u.2.2.1 = upd fD kk 1 ∧ u.2.2.2.1 = dt + 1 ∧ ∀ i j, i < w → j < h → (j / 8 * ta + i / 8 = kk → u.1 (j * w + i) = nI (td_px g bgN i j mt).1 ∧ u.2.1 (j * w + i) = nI (td_px g bgN i j mt).2) ∧ (¬ j / 8 * ta + i / 8 = kk → u.1 (j * w + i) = fc (j * w + i) ∧ u.2.1 (j * w + i) = fn (j * w + i)))) (td_B (dC, dI) vwCl (td_T cI cJ cZ) (va_A [(qD, .inr (3, [.ref qS, .ref qP, .ref qU, .int bk])), (qU, .inr (2, [.int (nI w), .int (nI h), .int (nI ta), .ref cC, .ref cN, .ref cD, .ref qT, .ref qH, .int bg, .int bn, .int dt, .int lf, .int tp, .int rt, .int bm])), (cC, .inl (cI, wh, .inl fc)), (cN, .inl (cI, wh, .inl fn)), (cD, .inl (cZ, nd, .inl fD)), (qT, .inr (1, [.ref pCT, .ref pTT, .ref pVT, .int (nI mt)])), (pCT, .inl (cJ, 1536, .inr (.inl fCT))), (pTT, .inl (cI, 512, .inl fTT)), (pVT, .inl (cI, 512, .inl fVT)), (qH, .inr (0, [.ref aX, .ref aY, .ref aR, .ref aL, .ref aW])), (aX, .inl (cJ, 3, .inr (.inl vX))), (aY, .inl (cJ, 3, .inr (.inl vY))), (aR, .inl (cJ, 3, .inr (.inl vR))), (aL, .inl (cJ, 3, .inr (.inl vL))), (aW, .inl (cJ, 3, .inr (.inl vW)))] sz) (fun (u : (Nat → Int32) × (Nat → Int32) × (Nat → Int32) × Int32 × Int32 × Int32 × Int32 × Int32 × (Nat → Int64) × (Nat → Int64) × (Nat → Int64) × (Nat → Int64) × (Nat → Int64)) => [(qD, .inr (3, [.ref qS, .ref qP, .ref qU, .int bk])), (qU, .inr (2, [.int (nI w), .int (nI h), .int (nI ta), .ref cC, .ref cN, .ref cD, .ref qT, .ref qH, .int bg, .int bn, .int u.2.2.2.1, .int u.2.2.2.2.1, .int u.2.2.2.2.2.1, .int u.2.2.2.2.2.2.1, .int u.2.2.2.2.2.2.2.1])), (cC, .inl (cI, wh, .inl u.1)), (cN, .inl (cI, wh, .inl u.2.1)), (cD, .inl (cZ, nd, .inl u.2.2.1)), (qT, .inr (1, [.ref pCT, .ref pTT, .ref pVT, .int (nI mt)])), (pCT, .inl (cJ, 1536, .inr (.inl fCT))), (pTT, .inl (cI, 512, .inl fTT)), (pVT, .inl (cI, 512, .inl fVT)), (qH, .inr (0, [.ref aX, .ref aY, .ref aR, .ref aL, .ref aW])), (aX, .inl (cJ, 3, .inr (.inl u.2.2.2.2.2.2.2.2.1))), (aY, .inl (cJ, 3, .inr (.inl u.2.2.2.2.2.2.2.2.2.1))), (aR, .inl (cJ, 3, .inr (.inl u.2.2.2.2.2.2.2.2.2.2.1))), (aL, .inl (cJ, 3, .inr (.inl u.2.2.2.2.2.2.2.2.2.2.2.1))), (aW, .inl (cJ, 3, .inr (.inl u.2.2.2.2.2.2.2.2.2.2.2.2)))])) (va_A [(qD, .inr (3, [.ref qS, .ref qP, .ref qU, .int bk])), (qU, .inr (2, [.int (nI w), .int (nI h), .int (nI ta), .ref cC, .ref cN, .ref cD, .ref qT, .ref qH, .int bg, .int bn, .int dt, .int lf, .int tp, .int rt, .int bm])), (cC, .inl (cI, wh, .inl fc)), (cN, .inl (cI, wh, .inl fn)), (cD, .inl (cZ, nd, .inl fD)), (qT, .inr (1, [.ref pCT, .ref pTT, .ref pVT, .int (nI mt)])), (pCT, .inl (cJ, 1536, .inr (.inl fCT))), (pTT, .inl (cI, 512, .inl fTT)), (pVT, .inl (cI, 512, .inl fVT)), (qH, .inr (0, [.ref aX, .ref aY, .ref aR, .ref aL, .ref aW])), (aX, .inl (cJ, 3, .inr (.inl vX))), (aY, .inl (cJ, 3, .inr (.inl vY))), (aR, .inl (cJ, 3, .inr (.inl vR))), (aL, .inl (cJ, 3, .inr (.inl vL))), (aW, .inl (cJ, 3, .inr (.inl vW)))] sz)) 0 0 (va_A [(qD, .inr (3, [.ref qS, .ref qP, .ref qU, .int bk])), (qU, .inr (2, [.int (nI w), .int (nI h), .int (nI ta), .ref cC, .ref cN, .ref cD, .ref qT, .ref qH, .int bg, .int bn, .int dt, .int lf, .int tp, .int rt, .int bm])), (cC, .inl (cI, wh, .inl fc)), (cN, .inl (cI, wh, .inl fn)), (cD, .inl (cZ, nd, .inl fD)), (qT, .inr (1, [.ref pCT, .ref pTT, .ref pVT, .int (nI mt)])), (pCT, .inl (cJ, 1536, .inr (.inl fCT))), (pTT, .inl (cI, 512, .inl fTT)), (pVT, .inl (cI, 512, .inl fVT)), (qH, .inr (0, [.ref aX, .ref aY, .ref aR, .ref aL, .ref aW])), (aX, .inl (cJ, 3, .inr (.inl vX))), (aY, .inl (cJ, 3, .inr (.inl vY))), (aR, .inl (cJ, 3, .inr (.inl vR))), (aL, .inl (cJ, 3, .inr (.inl vL))), (aW, .inl (cJ, 3, .inr (.inl vW)))] sz) := by
  refine Met.ofW (cc := cX3_tile) (maxL := 2) (ret := (some .boolean)) (by decide) rfl ?_
  intro p e s m args below meth c s₁ B hml hv
  obtain ⟨rfl, hsz, hP, hK, hZ, hD0⟩ := hv
  have hx := B.exec
  have hb := B.bytes
  have hr := B.returns
  have hts := atoms_spec (ws := wsX3_tile) B.pre
  have hown : s.vm.findClass RX3 = some m.cls := findClass_of_methodNamed B.named
  have hlocks := B.notSynchronized
  subst hsz
  have hD := hD0.self (sz := s.heap.size)
  generalize hAe : va_A [(qD, .inr (3, [.ref qS, .ref qP, .ref qU, .int bk])), (qU, .inr (2, [.int (nI w), .int (nI h), .int (nI ta), .ref cC, .ref cN, .ref cD, .ref qT, .ref qH, .int bg, .int bn, .int dt, .int lf, .int tp, .int rt, .int bm])), (cC, .inl (cI, wh, .inl fc)), (cN, .inl (cI, wh, .inl fn)), (cD, .inl (cZ, nd, .inl fD)), (qT, .inr (1, [.ref pCT, .ref pTT, .ref pVT, .int (nI mt)])), (pCT, .inl (cJ, 1536, .inr (.inl fCT))), (pTT, .inl (cI, 512, .inl fTT)), (pVT, .inl (cI, 512, .inl fVT)), (qH, .inr (0, [.ref aX, .ref aY, .ref aR, .ref aL, .ref aW])), (aX, .inl (cJ, 3, .inr (.inl vX))), (aY, .inl (cJ, 3, .inr (.inl vY))), (aR, .inl (cJ, 3, .inr (.inl vR))), (aL, .inl (cJ, 3, .inr (.inl vL))), (aW, .inl (cJ, 3, .inr (.inl vW)))] s.heap.size = A at hD ⊢
  have hA : ∀ q : Nat, s.heap.size ≤ q → A q := fun q h => by rw [← hAe]; exact Or.inr h
  have hS : va_S A s.heap s.heap [] := va_S.rf
  have hP : va_P (dC, dI) vwCl [(qD, .inr (3, [.ref qS, .ref qP, .ref qU, .int bk])), (qU, .inr (2, [.int (nI w), .int (nI h), .int (nI ta), .ref cC, .ref cN, .ref cD, .ref qT, .ref qH, .int bg, .int bn, .int dt, .int lf, .int tp, .int rt, .int bm])), (cC, .inl (cI, wh, .inl fc)), (cN, .inl (cI, wh, .inl fn)), (cD, .inl (cZ, nd, .inl fD)), (qT, .inr (1, [.ref pCT, .ref pTT, .ref pVT, .int (nI mt)])), (pCT, .inl (cJ, 1536, .inr (.inl fCT))), (pTT, .inl (cI, 512, .inl fTT)), (pVT, .inl (cI, 512, .inl fVT)), (qH, .inr (0, [.ref aX, .ref aY, .ref aR, .ref aL, .ref aW])), (aX, .inl (cJ, 3, .inr (.inl vX))), (aY, .inl (cJ, 3, .inr (.inl vY))), (aR, .inl (cJ, 3, .inr (.inl vR))), (aL, .inl (cJ, 3, .inr (.inl vL))), (aW, .inl (cJ, 3, .inr (.inl vW)))] s.heap := hP
  have hl := lv_entry ([.ref qD, .int k]) (n := 2) (Nat.le_of_ble_eq_true rfl)
  rw [lg_entry_eq]
  generalize (lg_sl ([.ref qD, .int k]) ++ List.replicate (2 - (lg_sl ([.ref qD, .int k])).length) Slot.unset).toArray = ls at hl ⊢
  have hl : lv_has ls 2 [(0, .ref qD), (1, .int k)] := hl
  refine lv_aload_n hx hb dX3_tile_0 rfl (lv_at hl 0 rfl) ?_
  refine va_get (D := (dC, dI)) (ci := 3) (v := .ref qU) (C := RX3) (T := TX3) (N := 4) hx hb hts td_fX3 hown hK hP 0 rfl rfl 2 (by decide) (hts (.fieldLink RX3 36 "TileDesk" "picture" "LTileDesk$Picture;") (td_i3 (List.mem_of_getElem? (i := 21) rfl))) (fun _ h9 => h9) rfl dX3_tile_1 ?_
  refine lv_iload_n hx hb dX3_tile_4 rfl (lv_at hl 1 rfl) ?_
  refine td_cwi (wr := [(qD, .inr (3, [.ref qS, .ref qP, .ref qU, .int bk]))]) (va_runV (As := [.int k]) (rest := []) ⟨hx, hb, hml, hown, hts⟩ (td_drawTile l dC dI cI cJ cZ s.heap.size qU cC cN cD qT qH w h ta bg bn dt lf tp rt bm wh fc fn nd fD pCT pTT pVT fCT fTT fVT mt aX aY aR aL aW vX vY vR vL vW k g bgN hw1 hw2 hh1 hh2 hta hnd hwh hm hbg hbb hp hcr hti hcv) (cwV 1 hts (td_gV (td_i6 (List.mem_of_getElem? (i := 19) rfl)) (td_i6 (List.mem_of_getElem? (i := 20) rfl)) (td_i6 (List.mem_of_getElem? (i := 21) rfl)) (td_i1 (List.mem_of_getElem? (i := 4) rfl)) (td_i6 (List.mem_of_getElem? (i := 22) rfl))) rfl rfl rfl (by decide +kernel) ⟨(Nat.le_of_ble_eq_true rfl), (Nat.le_of_ble_eq_true rfl)⟩) (td_pWV hK hZ hP hD [1, 2, 3, 4, 5, 6, 7, 8, 9, 10, 11, 12, 13, 14] (by decide) rfl (va_recv hK hP (ci := 2) (q0 := 1) rfl rfl)) rfl rfl hl.1 rfl (lv_room (Nat.le_of_ble_eq_true rfl)) dX3_tile_5 ⟨Nat.zero_le _, Nat.zero_le _⟩) hP hD hS hA [1, 2, 3, 4, 5, 6, 7, 8, 9, 10, 11, 12, 13, 14] [0] rfl rfl (by decide) (by decide) (fun rdt u H locs hdt hP hD hS => ?_)
  obtain ⟨u_gc, u_gn, u_gD, u_gdt, u_glf, u_gtp, u_grt, u_gbm, u_gX, u_gY, u_gR, u_gL, u_gW⟩ := u
  try dsimp only at hdt
  have hP : va_P (dC, dI) vwCl [(qD, .inr (3, [.ref qS, .ref qP, .ref qU, .int bk])), (qU, .inr (2, [.int (nI w), .int (nI h), .int (nI ta), .ref cC, .ref cN, .ref cD, .ref qT, .ref qH, .int bg, .int bn, .int u_gdt, .int u_glf, .int u_gtp, .int u_grt, .int u_gbm])), (cC, .inl (cI, wh, .inl u_gc)), (cN, .inl (cI, wh, .inl u_gn)), (cD, .inl (cZ, nd, .inl u_gD)), (qT, .inr (1, [.ref pCT, .ref pTT, .ref pVT, .int (nI mt)])), (pCT, .inl (cJ, 1536, .inr (.inl fCT))), (pTT, .inl (cI, 512, .inl fTT)), (pVT, .inl (cI, 512, .inl fVT)), (qH, .inr (0, [.ref aX, .ref aY, .ref aR, .ref aL, .ref aW])), (aX, .inl (cJ, 3, .inr (.inl u_gX))), (aY, .inl (cJ, 3, .inr (.inl u_gY))), (aR, .inl (cJ, 3, .inr (.inl u_gR))), (aL, .inl (cJ, 3, .inr (.inl u_gL))), (aW, .inl (cJ, 3, .inr (.inl u_gW)))] H := hP
  have hD : va_D A [(qD, .inr (3, [.ref qS, .ref qP, .ref qU, .int bk])), (qU, .inr (2, [.int (nI w), .int (nI h), .int (nI ta), .ref cC, .ref cN, .ref cD, .ref qT, .ref qH, .int bg, .int bn, .int u_gdt, .int u_glf, .int u_gtp, .int u_grt, .int u_gbm])), (cC, .inl (cI, wh, .inl u_gc)), (cN, .inl (cI, wh, .inl u_gn)), (cD, .inl (cZ, nd, .inl u_gD)), (qT, .inr (1, [.ref pCT, .ref pTT, .ref pVT, .int (nI mt)])), (pCT, .inl (cJ, 1536, .inr (.inl fCT))), (pTT, .inl (cI, 512, .inl fTT)), (pVT, .inl (cI, 512, .inl fVT)), (qH, .inr (0, [.ref aX, .ref aY, .ref aR, .ref aL, .ref aW])), (aX, .inl (cJ, 3, .inr (.inl u_gX))), (aY, .inl (cJ, 3, .inr (.inl u_gY))), (aR, .inl (cJ, 3, .inr (.inl u_gR))), (aL, .inl (cJ, 3, .inr (.inl u_gL))), (aW, .inl (cJ, 3, .inr (.inl u_gW)))] := hD
  have hP9 := hP.sub (ws' := [(qD, .inr (3, [.ref qS, .ref qP, .ref qU, .int bk])), (qU, .inr (2, [.int (nI w), .int (nI h), .int (nI ta), .ref cC, .ref cN, .ref cD, .ref qT, .ref qH, .int bg, .int bn, .int u_gdt, .int u_glf, .int u_gtp, .int u_grt, .int u_gbm])), (cC, .inl (cI, wh, .inl u_gc)), (cN, .inl (cI, wh, .inl u_gn)), (cD, .inl (cZ, nd, .inl u_gD)), (qT, .inr (1, [.ref pCT, .ref pTT, .ref pVT, .int (nI mt)])), (pCT, .inl (cJ, 1536, .inr (.inl fCT))), (pTT, .inl (cI, 512, .inl fTT)), (pVT, .inl (cI, 512, .inl fVT)), (qH, .inr (0, [.ref aX, .ref aY, .ref aR, .ref aL, .ref aW])), (aX, .inl (cJ, 3, .inr (.inl u_gX))), (aY, .inl (cJ, 3, .inr (.inl u_gY))), (aR, .inl (cJ, 3, .inr (.inl u_gR))), (aL, .inl (cJ, 3, .inr (.inl u_gL))), (aW, .inl (cJ, 3, .inr (.inl u_gW)))]) [0, 1, 2, 3, 4, 5, 6, 7, 8, 9, 10, 11, 12, 13, 14] rfl
  have hD9 := hD.sub (ws' := [(qD, .inr (3, [.ref qS, .ref qP, .ref qU, .int bk])), (qU, .inr (2, [.int (nI w), .int (nI h), .int (nI ta), .ref cC, .ref cN, .ref cD, .ref qT, .ref qH, .int bg, .int bn, .int u_gdt, .int u_glf, .int u_gtp, .int u_grt, .int u_gbm])), (cC, .inl (cI, wh, .inl u_gc)), (cN, .inl (cI, wh, .inl u_gn)), (cD, .inl (cZ, nd, .inl u_gD)), (qT, .inr (1, [.ref pCT, .ref pTT, .ref pVT, .int (nI mt)])), (pCT, .inl (cJ, 1536, .inr (.inl fCT))), (pTT, .inl (cI, 512, .inl fTT)), (pVT, .inl (cI, 512, .inl fVT)), (qH, .inr (0, [.ref aX, .ref aY, .ref aR, .ref aL, .ref aW])), (aX, .inl (cJ, 3, .inr (.inl u_gX))), (aY, .inl (cJ, 3, .inr (.inl u_gY))), (aR, .inl (cJ, 3, .inr (.inl u_gR))), (aL, .inl (cJ, 3, .inr (.inl u_gL))), (aW, .inl (cJ, 3, .inr (.inl u_gW)))]) [0, 1, 2, 3, 4, 5, 6, 7, 8, 9, 10, 11, 12, 13, 14] (by decide) rfl
  exact td_rwi (u_gc, u_gn, u_gD, u_gdt, u_glf, u_gtp, u_grt, u_gbm, u_gX, u_gY, u_gR, u_gL, u_gW) hx hb hr (by rcases hdt with z | z <;> rw [z.1] <;> rfl) hlocks hK (hdt) hP9 hD9 hS dX3_tile_8
set_option maxHeartbeats 4000000 in
set_option maxRecDepth 100000 in
/-- pixel -/
theorem td_pixel (l : Launch) (dC : Nat → ClassId) (dI : Nat → Nat → Nat) (cI cJ cZ : ClassId) (qD : Nat) (qS : Nat) (qP : Nat) (qU : Nat) (bk : Int32) (cC : Nat) (cN : Nat) (cD : Nat) (qT : Nat) (qH : Nat) (w : Nat) (h : Nat) (ta : Nat) (bg : Int32) (bn : Int32) (dt : Int32) (lf : Int32) (tp : Int32) (rt : Int32) (bm : Int32) (wh : Nat) (fc : Nat → Int32) (nd : Nat) (fD : Nat → Int32) (x : Int32) (y : Int32) (hw1 : 8 ≤ w) (hw2 : w ≤ 48) (hh1 : 8 ≤ h) (hh2 : h ≤ 48) (hta : ta = (w + 7) / 8) (hnd : nd = ta * ((h + 7) / 8)) (hwh : wh = w * h) : Met l yX3_pixel wsX3_pixel ({ frames := 2, cells := 0, slots := 0, locals := 44 }) (td_RP (dC, dI) vwCl (td_T cI cJ cZ) td_nl [(qD, .inr (3, [.ref qS, .ref qP, .ref qU, .int bk])), (qU, .inr (2, [.int (nI w), .int (nI h), .int (nI ta), .ref cC, .ref cN, .ref cD, .ref qT, .ref qH, .int bg, .int bn, .int dt, .int lf, .int tp, .int rt, .int bm])), (cC, .inl (cI, wh, .inl fc)), (cD, .inl (cZ, nd, .inl fD))] [.ref qD, .int x, .int y]) (vp_Si (fun r => r = if td_sh x y w h ta fD then fc (y.toInt.toNat * w + x.toInt.toNat) else -1)) 0 0 (fun _ => False) := by
  refine Met.ofW (cc := cX3_pixel) (maxL := 3) (ret := (some .int)) (by decide) rfl ?_
  intro p e s m args below meth c s₁ B hml hv
  obtain ⟨rfl, hP, hK, hZ⟩ := hv
  have hx := B.exec
  have hb := B.bytes
  have hr := B.returns
  have hts := atoms_spec (ws := wsX3_pixel) B.pre
  have hown : s.vm.findClass RX3 = some m.cls := findClass_of_methodNamed B.named
  have hlocks := B.notSynchronized
  have hP : va_P (dC, dI) vwCl [(qD, .inr (3, [.ref qS, .ref qP, .ref qU, .int bk])), (qU, .inr (2, [.int (nI w), .int (nI h), .int (nI ta), .ref cC, .ref cN, .ref cD, .ref qT, .ref qH, .int bg, .int bn, .int dt, .int lf, .int tp, .int rt, .int bm])), (cC, .inl (cI, wh, .inl fc)), (cD, .inl (cZ, nd, .inl fD))] s.heap := hP
  have hl := lv_entry ([.ref qD, .int x, .int y]) (n := 3) (Nat.le_of_ble_eq_true rfl)
  rw [lg_entry_eq]
  generalize (lg_sl ([.ref qD, .int x, .int y]) ++ List.replicate (3 - (lg_sl ([.ref qD, .int x, .int y])).length) Slot.unset).toArray = ls at hl ⊢
  have hl : lv_has ls 3 [(0, .ref qD), (1, .int x), (2, .int y)] := hl
  have hw48 := td_wh hw2 hh2
  refine lv_aload_n hx hb dX3_pixel_0 rfl (lv_at hl 0 rfl) ?_
  refine va_get (D := (dC, dI)) (ci := 3) (v := .ref qU) (C := RX3) (T := TX3) (N := 4) hx hb hts td_fX3 hown hK hP 0 rfl rfl 2 (by decide) (hts (.fieldLink RX3 36 "TileDesk" "picture" "LTileDesk$Picture;") (td_i3 (List.mem_of_getElem? (i := 21) rfl))) (fun _ h9 => h9) rfl dX3_pixel_1 ?_
  refine lv_iload_n hx hb dX3_pixel_4 rfl (lv_at hl 1 rfl) ?_
  refine lv_iload_n hx hb dX3_pixel_5 rfl (lv_at hl 2 rfl) ?_
  refine td_csi (va_runV (As := [.int x, .int y]) (rest := []) ⟨hx, hb, hml, hown, hts⟩ (td_isShown l dC dI cI cJ cZ qU cC cN cD qT qH w h ta bg bn dt lf tp rt bm nd fD x y hw1 hw2 hh1 hh2 hta hnd) (cwV 2 hts (td_gV (td_i11 (List.mem_of_getElem? (i := 1) rfl)) (td_i11 (List.mem_of_getElem? (i := 2) rfl)) (td_i11 (List.mem_of_getElem? (i := 3) rfl)) (td_i1 (List.mem_of_getElem? (i := 4) rfl)) (td_i11 (List.mem_of_getElem? (i := 4) rfl))) rfl rfl rfl (by decide +kernel) ⟨(Nat.le_of_ble_eq_true rfl), (Nat.le_of_ble_eq_true rfl)⟩) (td_pRV hK hZ hP [1, 3] rfl (va_recv hK hP (ci := 2) (q0 := 1) rfl rfl)) rfl rfl hl.1 rfl (lv_room (Nat.le_of_ble_eq_true rfl)) dX3_pixel_6 ⟨Nat.zero_le _, Nat.zero_le _⟩) ?_
  refine td_ifeq (tgt := 32) hx hb dX3_pixel_9 (by decide) (fun c9 => ?_) (fun c9 => ?_)
  · refine lv_iconst (v := (-1)) hx hb dX3_pixel_32 (by decide) ?_
    exact td_rri hx hb hr rfl hlocks (by rw [if_neg c9]) dX3_pixel_33
  · obtain ⟨X, hX, eX⟩ := td_nat c9.1 (by omega)
    obtain ⟨Y, hY, eY⟩ := td_nat c9.2.1 (by omega)
    refine lv_aload_n hx hb dX3_pixel_12 rfl (lv_at hl 0 rfl) ?_
    refine va_get (D := (dC, dI)) (ci := 3) (v := .ref qU) (C := RX3) (T := TX3) (N := 4) hx hb hts td_fX3 hown hK hP 0 rfl rfl 2 (by decide) (hts (.fieldLink RX3 36 "TileDesk" "picture" "LTileDesk$Picture;") (td_i3 (List.mem_of_getElem? (i := 21) rfl))) (fun _ h9 => h9) rfl dX3_pixel_13 ?_
    refine va_getN (D := (dC, dI)) (ci := 2) (v := .ref cC) (C := RX2) (T := TX2) (N := 15) hx hb hts td_fX2 hown hK hP 1 rfl rfl 3 (by decide) (va_Nw.use rfl (hZ.2 _ (List.mem_of_getElem? (i := 10) rfl))) (fun _ h9 => h9) rfl dX3_pixel_16 ?_
    refine lv_aload_n hx hb dX3_pixel_19 rfl (lv_at hl 0 rfl) ?_
    refine va_get (D := (dC, dI)) (ci := 3) (v := .ref qU) (C := RX3) (T := TX3) (N := 4) hx hb hts td_fX3 hown hK hP 0 rfl rfl 2 (by decide) (hts (.fieldLink RX3 36 "TileDesk" "picture" "LTileDesk$Picture;") (td_i3 (List.mem_of_getElem? (i := 21) rfl))) (fun _ h9 => h9) rfl dX3_pixel_20 ?_
    refine lv_iload_n hx hb dX3_pixel_23 rfl (lv_at hl 1 rfl) ?_
    refine td_ti (nI X) (eX) ?_
    refine lv_iload_n hx hb dX3_pixel_24 rfl (lv_at hl 2 rfl) ?_
    refine td_ti (nI Y) (eY) ?_
    refine td_csi (va_runV (As := [.int (nI X), .int (nI Y)]) (rest := [.ref cC]) ⟨hx, hb, hml, hown, hts⟩ (td_pixelIndex l dC dI cI cJ cZ qU cC cN cD qT qH w h ta bg bn dt lf tp rt bm X Y) (cwV 2 hts (td_gV (td_i11 (List.mem_of_getElem? (i := 5) rfl)) (td_i7 (List.mem_of_getElem? (i := 12) rfl)) (td_i7 (List.mem_of_getElem? (i := 13) rfl)) (td_i1 (List.mem_of_getElem? (i := 4) rfl)) (td_i7 (List.mem_of_getElem? (i := 14) rfl))) rfl rfl rfl (by decide +kernel) ⟨(Nat.le_of_ble_eq_true rfl), (Nat.le_of_ble_eq_true rfl)⟩) (td_pRV hK hZ hP [1] rfl (va_recv hK hP (ci := 2) (q0 := 1) rfl rfl)) rfl rfl hl.1 rfl (lv_room (Nat.le_of_ble_eq_true rfl)) dX3_pixel_25 ⟨Nat.zero_le _, Nat.zero_le _⟩) ?_
    refine td_iald hx hb hK hP 2 0 (Y * w + X) rfl rfl rfl (by rw [hwh]; exact td_ix (by omega) (by omega)) (by omega) dX3_pixel_28 ?_
    refine lv_goto (tgt := 33) hx hb dX3_pixel_29 (by decide) ?_
    exact td_rri hx hb hr rfl hlocks (by rw [if_pos c9, td_tn eX (by omega), td_tn eY (by omega)]) dX3_pixel_33
set_option maxHeartbeats 4000000 in
set_option maxRecDepth 100000 in
/-- nearness -/
theorem td_nearness (l : Launch) (dC : Nat → ClassId) (dI : Nat → Nat → Nat) (cI cJ cZ : ClassId) (qD : Nat) (qS : Nat) (qP : Nat) (qU : Nat) (bk : Int32) (cC : Nat) (cN : Nat) (cD : Nat) (qT : Nat) (qH : Nat) (w : Nat) (h : Nat) (ta : Nat) (bg : Int32) (bn : Int32) (dt : Int32) (lf : Int32) (tp : Int32) (rt : Int32) (bm : Int32) (wh : Nat) (fn : Nat → Int32) (nd : Nat) (fD : Nat → Int32) (x : Int32) (y : Int32) (hw1 : 8 ≤ w) (hw2 : w ≤ 48) (hh1 : 8 ≤ h) (hh2 : h ≤ 48) (hta : ta = (w + 7) / 8) (hnd : nd = ta * ((h + 7) / 8)) (hwh : wh = w * h) : Met l yX3_nearness wsX3_nearness ({ frames := 2, cells := 0, slots := 0, locals := 44 }) (td_RP (dC, dI) vwCl (td_T cI cJ cZ) td_nl [(qD, .inr (3, [.ref qS, .ref qP, .ref qU, .int bk])), (qU, .inr (2, [.int (nI w), .int (nI h), .int (nI ta), .ref cC, .ref cN, .ref cD, .ref qT, .ref qH, .int bg, .int bn, .int dt, .int lf, .int tp, .int rt, .int bm])), (cN, .inl (cI, wh, .inl fn)), (cD, .inl (cZ, nd, .inl fD))] [.ref qD, .int x, .int y]) (vp_Si (fun r => r = if td_sh x y w h ta fD then fn (y.toInt.toNat * w + x.toInt.toNat) else -1)) 0 0 (fun _ => False) := by
  refine Met.ofW (cc := cX3_nearness) (maxL := 3) (ret := (some .int)) (by decide) rfl ?_
  intro p e s m args below meth c s₁ B hml hv
  obtain ⟨rfl, hP, hK, hZ⟩ := hv
  have hx := B.exec
  have hb := B.bytes
  have hr := B.returns
  have hts := atoms_spec (ws := wsX3_nearness) B.pre
  have hown : s.vm.findClass RX3 = some m.cls := findClass_of_methodNamed B.named
  have hlocks := B.notSynchronized
  have hP : va_P (dC, dI) vwCl [(qD, .inr (3, [.ref qS, .ref qP, .ref qU, .int bk])), (qU, .inr (2, [.int (nI w), .int (nI h), .int (nI ta), .ref cC, .ref cN, .ref cD, .ref qT, .ref qH, .int bg, .int bn, .int dt, .int lf, .int tp, .int rt, .int bm])), (cN, .inl (cI, wh, .inl fn)), (cD, .inl (cZ, nd, .inl fD))] s.heap := hP
  have hl := lv_entry ([.ref qD, .int x, .int y]) (n := 3) (Nat.le_of_ble_eq_true rfl)
  rw [lg_entry_eq]
  generalize (lg_sl ([.ref qD, .int x, .int y]) ++ List.replicate (3 - (lg_sl ([.ref qD, .int x, .int y])).length) Slot.unset).toArray = ls at hl ⊢
  have hl : lv_has ls 3 [(0, .ref qD), (1, .int x), (2, .int y)] := hl
  have hw48 := td_wh hw2 hh2
  refine lv_aload_n hx hb dX3_nearness_0 rfl (lv_at hl 0 rfl) ?_
  refine va_get (D := (dC, dI)) (ci := 3) (v := .ref qU) (C := RX3) (T := TX3) (N := 4) hx hb hts td_fX3 hown hK hP 0 rfl rfl 2 (by decide) (hts (.fieldLink RX3 36 "TileDesk" "picture" "LTileDesk$Picture;") (td_i3 (List.mem_of_getElem? (i := 21) rfl))) (fun _ h9 => h9) rfl dX3_nearness_1 ?_
  refine lv_iload_n hx hb dX3_nearness_4 rfl (lv_at hl 1 rfl) ?_
  refine lv_iload_n hx hb dX3_nearness_5 rfl (lv_at hl 2 rfl) ?_
  refine td_csi (va_runV (As := [.int x, .int y]) (rest := []) ⟨hx, hb, hml, hown, hts⟩ (td_isShown l dC dI cI cJ cZ qU cC cN cD qT qH w h ta bg bn dt lf tp rt bm nd fD x y hw1 hw2 hh1 hh2 hta hnd) (cwV 2 hts (td_gV (td_i11 (List.mem_of_getElem? (i := 1) rfl)) (td_i11 (List.mem_of_getElem? (i := 2) rfl)) (td_i11 (List.mem_of_getElem? (i := 3) rfl)) (td_i1 (List.mem_of_getElem? (i := 4) rfl)) (td_i11 (List.mem_of_getElem? (i := 4) rfl))) rfl rfl rfl (by decide +kernel) ⟨(Nat.le_of_ble_eq_true rfl), (Nat.le_of_ble_eq_true rfl)⟩) (td_pRV hK hZ hP [1, 3] rfl (va_recv hK hP (ci := 2) (q0 := 1) rfl rfl)) rfl rfl hl.1 rfl (lv_room (Nat.le_of_ble_eq_true rfl)) dX3_nearness_6 ⟨Nat.zero_le _, Nat.zero_le _⟩) ?_
  refine td_ifeq (tgt := 32) hx hb dX3_nearness_9 (by decide) (fun c9 => ?_) (fun c9 => ?_)
  · refine lv_iconst (v := (-1)) hx hb dX3_nearness_32 (by decide) ?_
    exact td_rri hx hb hr rfl hlocks (by rw [if_neg c9]) dX3_nearness_33
  · obtain ⟨X, hX, eX⟩ := td_nat c9.1 (by omega)
    obtain ⟨Y, hY, eY⟩ := td_nat c9.2.1 (by omega)
    refine lv_aload_n hx hb dX3_nearness_12 rfl (lv_at hl 0 rfl) ?_
    refine va_get (D := (dC, dI)) (ci := 3) (v := .ref qU) (C := RX3) (T := TX3) (N := 4) hx hb hts td_fX3 hown hK hP 0 rfl rfl 2 (by decide) (hts (.fieldLink RX3 36 "TileDesk" "picture" "LTileDesk$Picture;") (td_i3 (List.mem_of_getElem? (i := 21) rfl))) (fun _ h9 => h9) rfl dX3_nearness_13 ?_
    refine va_getN (D := (dC, dI)) (ci := 2) (v := .ref cN) (C := RX2) (T := TX2) (N := 15) hx hb hts td_fX2 hown hK hP 1 rfl rfl 4 (by decide) (va_Nw.use rfl (hZ.2 _ (List.mem_of_getElem? (i := 11) rfl))) (fun _ h9 => h9) rfl dX3_nearness_16 ?_
    refine lv_aload_n hx hb dX3_nearness_19 rfl (lv_at hl 0 rfl) ?_
    refine va_get (D := (dC, dI)) (ci := 3) (v := .ref qU) (C := RX3) (T := TX3) (N := 4) hx hb hts td_fX3 hown hK hP 0 rfl rfl 2 (by decide) (hts (.fieldLink RX3 36 "TileDesk" "picture" "LTileDesk$Picture;") (td_i3 (List.mem_of_getElem? (i := 21) rfl))) (fun _ h9 => h9) rfl dX3_nearness_20 ?_
    refine lv_iload_n hx hb dX3_nearness_23 rfl (lv_at hl 1 rfl) ?_
    refine td_ti (nI X) (eX) ?_
    refine lv_iload_n hx hb dX3_nearness_24 rfl (lv_at hl 2 rfl) ?_
    refine td_ti (nI Y) (eY) ?_
    refine td_csi (va_runV (As := [.int (nI X), .int (nI Y)]) (rest := [.ref cN]) ⟨hx, hb, hml, hown, hts⟩ (td_pixelIndex l dC dI cI cJ cZ qU cC cN cD qT qH w h ta bg bn dt lf tp rt bm X Y) (cwV 2 hts (td_gV (td_i11 (List.mem_of_getElem? (i := 5) rfl)) (td_i7 (List.mem_of_getElem? (i := 12) rfl)) (td_i7 (List.mem_of_getElem? (i := 13) rfl)) (td_i1 (List.mem_of_getElem? (i := 4) rfl)) (td_i7 (List.mem_of_getElem? (i := 14) rfl))) rfl rfl rfl (by decide +kernel) ⟨(Nat.le_of_ble_eq_true rfl), (Nat.le_of_ble_eq_true rfl)⟩) (td_pRV hK hZ hP [1] rfl (va_recv hK hP (ci := 2) (q0 := 1) rfl rfl)) rfl rfl hl.1 rfl (lv_room (Nat.le_of_ble_eq_true rfl)) dX3_nearness_25 ⟨Nat.zero_le _, Nat.zero_le _⟩) ?_
    refine td_iald hx hb hK hP 2 0 (Y * w + X) rfl rfl rfl (by rw [hwh]; exact td_ix (by omega) (by omega)) (by omega) dX3_nearness_28 ?_
    refine lv_goto (tgt := 33) hx hb dX3_nearness_29 (by decide) ?_
    exact td_rri hx hb hr rfl hlocks (by rw [if_pos c9, td_tn eX (by omega), td_tn eY (by omega)]) dX3_nearness_33
set_option maxHeartbeats 4000000 in
set_option maxRecDepth 100000 in
/-- count -/
theorem td_count (l : Launch) (dC : Nat → ClassId) (dI : Nat → Nat → Nat) (cI cJ cZ : ClassId) (qD : Nat) (qS : Nat) (qP : Nat) (qU : Nat) (bk : Int32) (pC : Nat) (pT : Nat) (pV : Nat) (n : Nat) (cC : Nat) (cN : Nat) (cD : Nat) (qT : Nat) (qH : Nat) (w : Nat) (h : Nat) (ta : Nat) (bg : Int32) (bn : Int32) (dt : Int32) (lf : Int32) (tp : Int32) (rt : Int32) (bm : Int32) (pCT : Nat) (pTT : Nat) (pVT : Nat) (mt : Nat) (what : Int32) : Met l yX3_count wsX3_count ({ frames := 0, cells := 0, slots := 0, locals := 0 }) (td_RP (dC, dI) vwCl (td_T cI cJ cZ) td_nl [(qD, .inr (3, [.ref qS, .ref qP, .ref qU, .int bk])), (qP, .inr (1, [.ref pC, .ref pT, .ref pV, .int (nI n)])), (qU, .inr (2, [.int (nI w), .int (nI h), .int (nI ta), .ref cC, .ref cN, .ref cD, .ref qT, .ref qH, .int bg, .int bn, .int dt, .int lf, .int tp, .int rt, .int bm])), (qT, .inr (1, [.ref pCT, .ref pTT, .ref pVT, .int (nI mt)]))] [.ref qD, .int what]) (vp_Si (fun r => r = td_cnt what (nI n) (nI mt) dt (nI w) (nI h))) 0 0 (fun _ => False) := by
  refine Met.ofW (cc := cX3_count) (maxL := 2) (ret := (some .int)) (by decide) rfl ?_
  intro p e s m args below meth c s₁ B hml hv
  obtain ⟨rfl, hP, hK, hZ⟩ := hv
  have hx := B.exec
  have hb := B.bytes
  have hr := B.returns
  have hts := atoms_spec (ws := wsX3_count) B.pre
  have hown : s.vm.findClass RX3 = some m.cls := findClass_of_methodNamed B.named
  have hlocks := B.notSynchronized
  have hP : va_P (dC, dI) vwCl [(qD, .inr (3, [.ref qS, .ref qP, .ref qU, .int bk])), (qP, .inr (1, [.ref pC, .ref pT, .ref pV, .int (nI n)])), (qU, .inr (2, [.int (nI w), .int (nI h), .int (nI ta), .ref cC, .ref cN, .ref cD, .ref qT, .ref qH, .int bg, .int bn, .int dt, .int lf, .int tp, .int rt, .int bm])), (qT, .inr (1, [.ref pCT, .ref pTT, .ref pVT, .int (nI mt)]))] s.heap := hP
  have hl := lv_entry ([.ref qD, .int what]) (n := 2) (Nat.le_of_ble_eq_true rfl)
  rw [lg_entry_eq]
  generalize (lg_sl ([.ref qD, .int what]) ++ List.replicate (2 - (lg_sl ([.ref qD, .int what])).length) Slot.unset).toArray = ls at hl ⊢
  have hl : lv_has ls 2 [(0, .ref qD), (1, .int what)] := hl
  refine lv_iload_n hx hb dX3_count_0 rfl (lv_at hl 1 rfl) ?_
  by_cases k1_1 : what = 0
  · refine lv_tableIn (off := 35) (tgt := 36) hx hb dX3_count_1 (by rw [k1_1]; decide) (by rw [k1_1]; decide) (by rw [k1_1]; rfl) (by decide) ?_
    refine lv_aload_n hx hb dX3_count_36 rfl (lv_at hl 0 rfl) ?_
    refine va_get (D := (dC, dI)) (ci := 3) (v := .ref qP) (C := RX3) (T := TX3) (N := 4) hx hb hts td_fX3 hown hK hP 0 rfl rfl 1 (by decide) (hts (.fieldLink RX3 19 "TileDesk" "pieces" "LTileDesk$Pieces;") (td_i3 (List.mem_of_getElem? (i := 20) rfl))) (fun _ h9 => h9) rfl dX3_count_37 ?_
    refine va_getN (D := (dC, dI)) (ci := 1) (v := .int (nI n)) (C := RX1) (T := TX1) (N := 4) hx hb hts td_fX1 hown hK hP 1 rfl rfl 3 (by decide) (va_Nw.use rfl (hZ.2 _ (List.mem_of_getElem? (i := 5) rfl))) (fun _ h9 => h9) rfl dX3_count_40 ?_
    exact td_rri hx hb hr rfl hlocks (by unfold td_cnt; simp [k1_1]) dX3_count_43
  by_cases k1_2 : what = 1
  · refine lv_tableIn (off := 43) (tgt := 44) hx hb dX3_count_1 (by rw [k1_2]; decide) (by rw [k1_2]; decide) (by rw [k1_2]; rfl) (by decide) ?_
    refine lv_aload_n hx hb dX3_count_44 rfl (lv_at hl 0 rfl) ?_
    refine va_get (D := (dC, dI)) (ci := 3) (v := .ref qU) (C := RX3) (T := TX3) (N := 4) hx hb hts td_fX3 hown hK hP 0 rfl rfl 2 (by decide) (hts (.fieldLink RX3 36 "TileDesk" "picture" "LTileDesk$Picture;") (td_i3 (List.mem_of_getElem? (i := 21) rfl))) (fun _ h9 => h9) rfl dX3_count_45 ?_
    refine va_getN (D := (dC, dI)) (ci := 2) (v := .ref qT) (C := RX2) (T := TX2) (N := 15) hx hb hts td_fX2 hown hK hP 2 rfl rfl 6 (by decide) (va_Nw.use rfl (hZ.2 _ (List.mem_of_getElem? (i := 12) rfl))) (fun _ h9 => h9) rfl dX3_count_48 ?_
    refine va_getN (D := (dC, dI)) (ci := 1) (v := .int (nI mt)) (C := RX1) (T := TX1) (N := 4) hx hb hts td_fX1 hown hK hP 3 rfl rfl 3 (by decide) (va_Nw.use rfl (hZ.2 _ (List.mem_of_getElem? (i := 5) rfl))) (fun _ h9 => h9) rfl dX3_count_51 ?_
    exact td_rri hx hb hr rfl hlocks (by unfold td_cnt; simp [k1_2]) dX3_count_54
  by_cases k1_3 : what = 2
  · refine lv_tableIn (off := 54) (tgt := 55) hx hb dX3_count_1 (by rw [k1_3]; decide) (by rw [k1_3]; decide) (by rw [k1_3]; rfl) (by decide) ?_
    refine lv_aload_n hx hb dX3_count_55 rfl (lv_at hl 0 rfl) ?_
    refine va_get (D := (dC, dI)) (ci := 3) (v := .ref qU) (C := RX3) (T := TX3) (N := 4) hx hb hts td_fX3 hown hK hP 0 rfl rfl 2 (by decide) (hts (.fieldLink RX3 36 "TileDesk" "picture" "LTileDesk$Picture;") (td_i3 (List.mem_of_getElem? (i := 21) rfl))) (fun _ h9 => h9) rfl dX3_count_56 ?_
    refine va_getN (D := (dC, dI)) (ci := 2) (v := .int dt) (C := RX2) (T := TX2) (N := 15) hx hb hts td_fX2 hown hK hP 2 rfl rfl 10 (by decide) (va_Nw.use rfl (hZ.2 _ (List.mem_of_getElem? (i := 13) rfl))) (fun _ h9 => h9) rfl dX3_count_59 ?_
    exact td_rri hx hb hr rfl hlocks (by unfold td_cnt; simp [k1_3]) dX3_count_62
  by_cases k1_4 : what = 3
  · refine lv_tableIn (off := 62) (tgt := 63) hx hb dX3_count_1 (by rw [k1_4]; decide) (by rw [k1_4]; decide) (by rw [k1_4]; rfl) (by decide) ?_
    refine lv_aload_n hx hb dX3_count_63 rfl (lv_at hl 0 rfl) ?_
    refine va_get (D := (dC, dI)) (ci := 3) (v := .ref qU) (C := RX3) (T := TX3) (N := 4) hx hb hts td_fX3 hown hK hP 0 rfl rfl 2 (by decide) (hts (.fieldLink RX3 36 "TileDesk" "picture" "LTileDesk$Picture;") (td_i3 (List.mem_of_getElem? (i := 21) rfl))) (fun _ h9 => h9) rfl dX3_count_64 ?_
    refine va_getN (D := (dC, dI)) (ci := 2) (v := .int (nI w)) (C := RX2) (T := TX2) (N := 15) hx hb hts td_fX2 hown hK hP 2 rfl rfl 0 (by decide) (va_Nw.use rfl (hZ.2 _ (List.mem_of_getElem? (i := 8) rfl))) (fun _ h9 => h9) rfl dX3_count_67 ?_
    exact td_rri hx hb hr rfl hlocks (by unfold td_cnt; simp [k1_4]) dX3_count_70
  by_cases k1_5 : what = 4
  · refine lv_tableIn (off := 70) (tgt := 71) hx hb dX3_count_1 (by rw [k1_5]; decide) (by rw [k1_5]; decide) (by rw [k1_5]; rfl) (by decide) ?_
    refine lv_aload_n hx hb dX3_count_71 rfl (lv_at hl 0 rfl) ?_
    refine va_get (D := (dC, dI)) (ci := 3) (v := .ref qU) (C := RX3) (T := TX3) (N := 4) hx hb hts td_fX3 hown hK hP 0 rfl rfl 2 (by decide) (hts (.fieldLink RX3 36 "TileDesk" "picture" "LTileDesk$Picture;") (td_i3 (List.mem_of_getElem? (i := 21) rfl))) (fun _ h9 => h9) rfl dX3_count_72 ?_
    refine va_getN (D := (dC, dI)) (ci := 2) (v := .int (nI h)) (C := RX2) (T := TX2) (N := 15) hx hb hts td_fX2 hown hK hP 2 rfl rfl 1 (by decide) (va_Nw.use rfl (hZ.2 _ (List.mem_of_getElem? (i := 9) rfl))) (fun _ h9 => h9) rfl dX3_count_75 ?_
    exact td_rri hx hb hr rfl hlocks (by unfold td_cnt; simp [k1_5]) dX3_count_78
  have tk1_1 := lv_neT (a := 0) k1_1 (by decide)
  have tk1_2 := lv_neT (a := 1) k1_2 (by decide)
  have tk1_3 := lv_neT (a := 2) k1_3 (by decide)
  have tk1_4 := lv_neT (a := 3) k1_4 (by decide)
  have tk1_5 := lv_neT (a := 4) k1_5 (by decide)
  refine lv_tableOut (tgt := 79) hx hb dX3_count_1 (by omega) (by decide) ?_
  refine lv_iconst (v := (-1)) hx hb dX3_count_79 (by decide) ?_
  exact td_rri hx hb hr rfl hlocks (by unfold td_cnt; simp [*]) dX3_count_80
end
