abbrev R_SD : String := "StockDrawer"
def T_SD : u_T := fun k => match k with
  | 0 => ("StockDrawer", "source", "LStockDrawer$Source;", true)
  | 1 => ("StockDrawer", "drawing", "LStockDrawer$Drawing;", true)
  | 2 => ("StockDrawer", "rest", "LStockDrawer$Rest;", true)
  | 3 => ("StockDrawer", "story", "LStockDrawer$Story;", true)
  | 4 => ("StockDrawer", "otherSource", "LStockDrawer$Source;", true)
  | 5 => ("StockDrawer", "otherDrawing", "LStockDrawer$Drawing;", true)
  | _ => ("StockDrawer", "asked", "I", false)
def t_SD : Nat → FieldType := fun k => match k with
  | 0 => .object "StockDrawer$Source"
  | 1 => .object "StockDrawer$Drawing"
  | 2 => .object "StockDrawer$Rest"
  | 3 => .object "StockDrawer$Story"
  | 4 => .object "StockDrawer$Source"
  | 5 => .object "StockDrawer$Drawing"
  | _ => .int
theorem n_SD : ∀ a, a < 7 → ∀ b, b < 7 → a ≠ b → (T_SD a).2.1 ≠ (T_SD b).2.1 := by decide +kernel
theorem t_SD_ok : ∀ k, k < 7 → parseFieldDescriptor (T_SD k).2.2.1 = some (t_SD k) := by decide +kernel
abbrev R_Dr : String := "StockDrawer$Drawing"
def T_Dr : u_T := fun k => match k with
  | 0 => ("StockDrawer$Drawing", "size", "I", false)
  | 1 => ("StockDrawer$Drawing", "parts", "I", false)
  | 2 => ("StockDrawer$Drawing", "places", "I", false)
  | 3 => ("StockDrawer$Drawing", "goods", "I", false)
  | 4 => ("StockDrawer$Drawing", "amounts", "[I", true)
  | 5 => ("StockDrawer$Drawing", "actPlaces", "[I", true)
  | 6 => ("StockDrawer$Drawing", "actGoods", "[I", true)
  | 7 => ("StockDrawer$Drawing", "taking", "[Z", true)
  | _ => ("StockDrawer$Drawing", "lying", "[Z", true)
def t_Dr : Nat → FieldType := fun k => match k with
  | 0 => .int
  | 1 => .int
  | 2 => .int
  | 3 => .int
  | 4 => .array .int
  | 5 => .array .int
  | 6 => .array .int
  | 7 => .array .boolean
  | _ => .array .boolean
theorem n_Dr : ∀ a, a < 9 → ∀ b, b < 9 → a ≠ b → (T_Dr a).2.1 ≠ (T_Dr b).2.1 := by decide +kernel
theorem t_Dr_ok : ∀ k, k < 9 → parseFieldDescriptor (T_Dr k).2.2.1 = some (t_Dr k) := by decide +kernel
abbrev R_Re : String := "StockDrawer$Rest"
def T_Re : u_T := fun k => match k with
  | 0 => ("StockDrawer$Rest", "drawing", "LStockDrawer$Drawing;", true)
  | _ => ("StockDrawer$Rest", "out", "[Z", true)
def t_Re : Nat → FieldType := fun k => match k with
  | 0 => .object "StockDrawer$Drawing"
  | _ => .array .boolean
theorem n_Re : ∀ a, a < 2 → ∀ b, b < 2 → a ≠ b → (T_Re a).2.1 ≠ (T_Re b).2.1 := by decide +kernel
theorem t_Re_ok : ∀ k, k < 2 → parseFieldDescriptor (T_Re k).2.2.1 = some (t_Re k) := by decide +kernel
abbrev R_So : String := "StockDrawer$Source"
def T_So : u_T := fun k => match k with
  | _ => ("StockDrawer$Source", "state", "J", false)
def t_So : Nat → FieldType := fun k => match k with
  | _ => .long
theorem n_So : ∀ a, a < 1 → ∀ b, b < 1 → a ≠ b → (T_So a).2.1 ≠ (T_So b).2.1 := by decide +kernel
theorem t_So_ok : ∀ k, k < 1 → parseFieldDescriptor (T_So k).2.2.1 = some (t_So k) := by decide +kernel
abbrev R_St : String := "StockDrawer$Story"
def T_St : u_T := fun k => match k with
  | 0 => ("StockDrawer$Story", "drawing", "LStockDrawer$Drawing;", true)
  | 1 => ("StockDrawer$Story", "rest", "LStockDrawer$Rest;", true)
  | 2 => ("StockDrawer$Story", "stock", "[I", true)
  | 3 => ("StockDrawer$Story", "heaviest", "[I", true)
  | 4 => ("StockDrawer$Story", "busy", "[Z", true)
  | _ => ("StockDrawer$Story", "found", "I", false)
def t_St : Nat → FieldType := fun k => match k with
  | 0 => .object "StockDrawer$Drawing"
  | 1 => .object "StockDrawer$Rest"
  | 2 => .array .int
  | 3 => .array .int
  | 4 => .array .boolean
  | _ => .int
theorem n_St : ∀ a, a < 6 → ∀ b, b < 6 → a ≠ b → (T_St a).2.1 ≠ (T_St b).2.1 := by decide +kernel
theorem t_St_ok : ∀ k, k < 6 → parseFieldDescriptor (T_St k).2.2.1 = some (t_St k) := by decide +kernel
abbrev R_Mo : String := "StockDrawerModel"
def T_Mo : u_T := fun k => match k with
  | 0 => ("StockDrawerModel", "code", "I", false)
  | 1 => ("StockDrawerModel", "state", "J", false)
  | 2 => ("StockDrawerModel", "size", "I", false)
  | 3 => ("StockDrawerModel", "wanted", "I", false)
  | 4 => ("StockDrawerModel", "parts", "I", false)
  | 5 => ("StockDrawerModel", "out", "[Z", true)
  | 6 => ("StockDrawerModel", "places", "I", false)
  | 7 => ("StockDrawerModel", "room", "[I", true)
  | 8 => ("StockDrawerModel", "goods", "I", false)
  | 9 => ("StockDrawerModel", "grams", "[I", true)
  | 10 => ("StockDrawerModel", "acts", "I", false)
  | 11 => ("StockDrawerModel", "at", "[I", true)
  | 12 => ("StockDrawerModel", "of", "[I", true)
  | 13 => ("StockDrawerModel", "many", "[I", true)
  | 14 => ("StockDrawerModel", "takes", "[Z", true)
  | 15 => ("StockDrawerModel", "lie", "[Z", true)
  | 16 => ("StockDrawerModel", "length", "I", false)
  | 17 => ("StockDrawerModel", "row", "[I", true)
  | 18 => ("StockDrawerModel", "pieces", "[I", true)
  | _ => ("StockDrawerModel", "most", "[I", true)
def t_Mo : Nat → FieldType := fun k => match k with
  | 0 => .int
  | 1 => .long
  | 2 => .int
  | 3 => .int
  | 4 => .int
  | 5 => .array .boolean
  | 6 => .int
  | 7 => .array .int
  | 8 => .int
  | 9 => .array .int
  | 10 => .int
  | 11 => .array .int
  | 12 => .array .int
  | 13 => .array .int
  | 14 => .array .boolean
  | 15 => .array .boolean
  | 16 => .int
  | 17 => .array .int
  | 18 => .array .int
  | _ => .array .int
theorem n_Mo : ∀ a, a < 20 → ∀ b, b < 20 → a ≠ b → (T_Mo a).2.1 ≠ (T_Mo b).2.1 := by decide +kernel
theorem t_Mo_ok : ∀ k, k < 20 → parseFieldDescriptor (T_Mo k).2.2.1 = some (t_Mo k) := by decide +kernel
abbrev R_La : String := "StockDrawerLaw"
/-- the kinds of objects -/
def clsA : List vw_C := [(R_SD, T_SD, 7), (R_Dr, T_Dr, 9), (R_Re, T_Re, 2), (R_So, T_So, 1), (R_St, T_St, 6), (R_Mo, T_Mo, 20)]
def GG : List Cond := lw_tbl.filter goodWord
theorem gg_good : ∀ w ∈ GG, goodWord w = true := fun w h => (List.mem_filter.mp h).2
theorem gin {w : Cond} (h : w ∈ lw_tbl) (g : goodWord w = true) : w ∈ GG := List.mem_filter.mpr ⟨h, g⟩
theorem mt_1 {w : Cond} (h : w ∈ tables_1_1) : w ∈ lw_tbl := List.mem_append_right _ (List.mem_append_left _ h)
theorem mt_2 {w : Cond} (h : w ∈ tables_1_2) : w ∈ lw_tbl := List.mem_append_right _ (List.mem_append_right _ (List.mem_append_left _ h))
theorem mt_3 {w : Cond} (h : w ∈ tables_1_3) : w ∈ lw_tbl := List.mem_append_right _ (List.mem_append_right _ (List.mem_append_right _ (List.mem_append_left _ h)))
theorem mt_4 {w : Cond} (h : w ∈ tables_1_4) : w ∈ lw_tbl := List.mem_append_right _ (List.mem_append_right _ (List.mem_append_right _ (List.mem_append_right _ h)))
theorem mp_1 {w : Cond} (h : w ∈ k2_sels lw_privs_1) : w ∈ lw_tbl := by
  obtain ⟨q, h1, h2⟩ := List.mem_map.mp h
  exact List.mem_append_left _ (List.mem_map.mpr ⟨q, List.mem_append_left _ h1, h2⟩)
theorem mp_2 {w : Cond} (h : w ∈ k2_sels lw_privs_2) : w ∈ lw_tbl := by
  obtain ⟨q, h1, h2⟩ := List.mem_map.mp h
  exact List.mem_append_left _ (List.mem_map.mpr ⟨q, List.mem_append_right _ h1, h2⟩)
theorem hin_SD : ∀ w ∈ u_ws R_SD T_SD 7, w ∈ GG := by decide +kernel
theorem hin_Dr : ∀ w ∈ u_ws R_Dr T_Dr 9, w ∈ GG := by decide +kernel
theorem hin_Re : ∀ w ∈ u_ws R_Re T_Re 2, w ∈ GG := by decide +kernel
theorem hin_So : ∀ w ∈ u_ws R_So T_So 1, w ∈ GG := by decide +kernel
theorem hin_St : ∀ w ∈ u_ws R_St T_St 6, w ∈ GG := by decide +kernel
theorem hin_Mo : ∀ w ∈ u_ws R_Mo T_Mo 20, w ∈ GG := by decide +kernel
theorem pd_I : parseFieldDescriptor "I" = some .int := by decide +kernel
theorem pd_J : parseFieldDescriptor "J" = some .long := by decide +kernel
theorem pd_Z : parseFieldDescriptor "Z" = some .boolean := by decide +kernel
def TY (cI cZ cJ : ClassId) : List (ClassId × FieldType) := [(cI, .int), (cZ, .boolean), (cJ, .long)]
abbrev DD : Type := Int32 × Int32 × Int32 × Int32 × (Nat → Int32) × (Nat → Int32) × (Nat → Int32) × (Nat → Int32) × (Nat → Int32)
abbrev TT : Type := (Nat → Int32) × (Nat → Int32) × (Nat → Int32) × Int32
/-- the cells of a StockDrawer, the newest first; then what else there is -/
def WC (ad : Nat → Nat) (cI cZ : ClassId) (x : Int32) (s : Int64) (d : DD) (o : Nat → Int32) (t : TT) (s2 : Int64) (d2 : DD) (rest : va_W) : va_W :=
  (ad 0, .inl (cZ, 30, .inl d2.2.2.2.2.2.2.2.2)) :: (ad 1, .inl (cZ, 30, .inl d2.2.2.2.2.2.2.2.1)) :: (ad 2, .inl (cI, 30, .inl d2.2.2.2.2.2.2.1)) :: (ad 3, .inl (cI, 30, .inl d2.2.2.2.2.2.1)) :: (ad 4, .inl (cI, 30, .inl d2.2.2.2.2.1)) ::
  (ad 5, .inr (1, [.int d2.1, .int d2.2.1, .int d2.2.2.1, .int d2.2.2.2.1, .ref (ad 4), .ref (ad 3), .ref (ad 2), .ref (ad 1), .ref (ad 0)])) :: (ad 6, .inr (3, [.long s2])) ::
  (ad 7, .inl (cZ, 6, .inl t.2.2.1)) :: (ad 8, .inl (cI, 6, .inl t.2.1)) :: (ad 9, .inl (cI, 36, .inl t.1)) :: (ad 10, .inr (4, [.ref (ad 19), .ref (ad 13), .ref (ad 9), .ref (ad 8), .ref (ad 7), .int t.2.2.2])) ::
  (ad 11, .inr (3, [.long s])) :: (ad 12, .inl (cZ, 30, .inl o)) :: (ad 13, .inr (2, [.ref (ad 19), .ref (ad 12)])) ::
  (ad 14, .inl (cZ, 30, .inl d.2.2.2.2.2.2.2.2)) :: (ad 15, .inl (cZ, 30, .inl d.2.2.2.2.2.2.2.1)) :: (ad 16, .inl (cI, 30, .inl d.2.2.2.2.2.2.1)) :: (ad 17, .inl (cI, 30, .inl d.2.2.2.2.2.1)) :: (ad 18, .inl (cI, 30, .inl d.2.2.2.2.1)) ::
  (ad 19, .inr (1, [.int d.1, .int d.2.1, .int d.2.2.1, .int d.2.2.2.1, .ref (ad 18), .ref (ad 17), .ref (ad 16), .ref (ad 15), .ref (ad 14)])) ::
  (ad 20, .inr (0, [.ref (ad 11), .ref (ad 19), .ref (ad 13), .ref (ad 10), .ref (ad 6), .ref (ad 5), .int x])) :: rest
abbrev b_St_tell : ByteArray := prog_5_method_2_code
def y_St_tell : MethodName := ⟨R_St, "tell", "()I"⟩
abbrev b_St_forget : ByteArray := prog_5_method_5_code
def y_St_forget : MethodName := ⟨R_St, "forget", "()V"⟩
abbrev b_Dr_partCount : ByteArray := prog_2_method_7_code
def y_Dr_partCount : MethodName := ⟨R_Dr, "partCount", "()I"⟩
abbrev b_Re_isActThatCounts : ByteArray := prog_3_method_5_code
def y_Re_isActThatCounts : MethodName := ⟨R_Re, "isActThatCounts", "(I)Z"⟩
abbrev b_Re_isLeft : ByteArray := prog_3_method_4_code
def y_Re_isLeft : MethodName := ⟨R_Re, "isLeft", "(I)Z"⟩
abbrev b_Dr_has : ByteArray := prog_2_method_12_code
def y_Dr_has : MethodName := ⟨R_Dr, "has", "(I)Z"⟩
abbrev b_Dr_kindOf : ByteArray := prog_2_method_15_code
def y_Dr_kindOf : MethodName := ⟨R_Dr, "kindOf", "(I)I"⟩
abbrev b_Dr_placeOf : ByteArray := prog_2_method_18_code
def y_Dr_placeOf : MethodName := ⟨R_Dr, "placeOf", "(I)I"⟩
abbrev b_Dr_goodOf : ByteArray := prog_2_method_19_code
def y_Dr_goodOf : MethodName := ⟨R_Dr, "goodOf", "(I)I"⟩
abbrev b_Dr_partOfGood : ByteArray := prog_2_method_22_code
def y_Dr_partOfGood : MethodName := ⟨R_Dr, "partOfGood", "(I)I"⟩
abbrev b_St_carryOut : ByteArray := prog_5_method_6_code
def y_St_carryOut : MethodName := ⟨R_St, "carryOut", "(I)V"⟩
abbrev b_Dr_hasPlace : ByteArray := prog_2_method_13_code
def y_Dr_hasPlace : MethodName := ⟨R_Dr, "hasPlace", "(I)Z"⟩
abbrev b_Dr_hasGood : ByteArray := prog_2_method_14_code
def y_Dr_hasGood : MethodName := ⟨R_Dr, "hasGood", "(I)Z"⟩
abbrev b_Dr_amountOf : ByteArray := prog_2_method_17_code
def y_Dr_amountOf : MethodName := ⟨R_Dr, "amountOf", "(I)I"⟩
abbrev b_Dr_takes : ByteArray := prog_2_method_20_code
def y_Dr_takes : MethodName := ⟨R_Dr, "takes", "(I)Z"⟩
abbrev b_Dr_lies : ByteArray := prog_2_method_21_code
def y_Dr_lies : MethodName := ⟨R_Dr, "lies", "(I)Z"⟩
abbrev b_St_weigh : ByteArray := prog_5_method_7_code
def y_St_weigh : MethodName := ⟨R_St, "weigh", "(I)V"⟩
abbrev b_Dr_goodCount : ByteArray := prog_2_method_9_code
def y_Dr_goodCount : MethodName := ⟨R_Dr, "goodCount", "()I"⟩
abbrev b_St_stockAt : ByteArray := prog_5_method_3_code
def y_St_stockAt : MethodName := ⟨R_St, "stockAt", "(II)I"⟩
abbrev b_St_compare : ByteArray := prog_5_method_8_code
def y_St_compare : MethodName := ⟨R_St, "compare", "(II)V"⟩
abbrev b_St_lookAtTheEnd : ByteArray := prog_5_method_9_code
def y_St_lookAtTheEnd : MethodName := ⟨R_St, "lookAtTheEnd", "()V"⟩
abbrev b_Dr_placeCount : ByteArray := prog_2_method_8_code
def y_Dr_placeCount : MethodName := ⟨R_Dr, "placeCount", "()I"⟩
abbrev b_St_isBusy : ByteArray := prog_5_method_10_code
def y_St_isBusy : MethodName := ⟨R_St, "isBusy", "(I)Z"⟩
abbrev b_SD_minimal : ByteArray := prog_1_method_10_code
def y_SD_minimal : MethodName := ⟨R_SD, "minimal", "()Z"⟩
abbrev b_SD_verdictIsMet : ByteArray := prog_1_method_20_code
def y_SD_verdictIsMet : MethodName := ⟨R_SD, "verdictIsMet", "()Z"⟩
abbrev b_SD_verdictIsMetWithout : ByteArray := prog_1_method_21_code
def y_SD_verdictIsMetWithout : MethodName := ⟨R_SD, "verdictIsMetWithout", "(I)Z"⟩
abbrev b_Re_setOut : ByteArray := prog_3_method_3_code
def y_Re_setOut : MethodName := ⟨R_Re, "setOut", "(IZ)V"⟩
abbrev b_SD_holds : ByteArray := prog_1_method_8_code
def y_SD_holds : MethodName := ⟨R_SD, "holds", "()Z"⟩
abbrev b_SD_conditions : ByteArray := prog_1_method_6_code
def y_SD_conditions : MethodName := ⟨R_SD, "conditions", "()I"⟩
abbrev b_SD_again : ByteArray := prog_1_method_3_code
def y_SD_again : MethodName := ⟨R_SD, "again", "(J)V"⟩
abbrev b_So_restart : ByteArray := prog_4_method_2_code
def y_So_restart : MethodName := ⟨R_So, "restart", "(J)V"⟩
abbrev b_SD_whole : ByteArray := prog_1_method_12_code
def y_SD_whole : MethodName := ⟨R_SD, "whole", "()I"⟩
abbrev b_Re_leftCount : ByteArray := prog_3_method_6_code
def y_Re_leftCount : MethodName := ⟨R_Re, "leftCount", "()I"⟩
abbrev b_Re_takeAllBack : ByteArray := prog_3_method_2_code
def y_Re_takeAllBack : MethodName := ⟨R_Re, "takeAllBack", "()V"⟩
abbrev b_Dr_redraw : ByteArray := prog_2_method_2_code
def y_Dr_redraw : MethodName := ⟨R_Dr, "redraw", "(LStockDrawer$Source;I)V"⟩
abbrev b_So_below : ByteArray := prog_4_method_3_code
def y_So_below : MethodName := ⟨R_So, "below", "(I)I"⟩
abbrev b_Dr_addThing : ByteArray := prog_2_method_3_code
def y_Dr_addThing : MethodName := ⟨R_Dr, "addThing", "(I)V"⟩
abbrev b_Dr_add : ByteArray := prog_2_method_5_code
def y_Dr_add : MethodName := ⟨R_Dr, "add", "(IIIZZ)V"⟩
abbrev b_Dr_addAct : ByteArray := prog_2_method_4_code
def y_Dr_addAct : MethodName := ⟨R_Dr, "addAct", "(LStockDrawer$Source;)V"⟩
abbrev b_SD_count : ByteArray := prog_1_method_16_code
def y_SD_count : MethodName := ⟨R_SD, "count", "(I)I"⟩
abbrev b_Dr_actCount : ByteArray := prog_2_method_10_code
def y_Dr_actCount : MethodName := ⟨R_Dr, "actCount", "()I"⟩
abbrev b_Dr_lieCount : ByteArray := prog_2_method_11_code
def y_Dr_lieCount : MethodName := ⟨R_Dr, "lieCount", "()I"⟩
abbrev b_Re_countingActs : ByteArray := prog_3_method_7_code
def y_Re_countingActs : MethodName := ⟨R_Re, "countingActs", "()I"⟩
abbrev b_Dr_drawnSize : ByteArray := prog_2_method_6_code
def y_Dr_drawnSize : MethodName := ⟨R_Dr, "drawnSize", "()I"⟩
abbrev b_SD_leaveOutInOneRound : ByteArray := prog_1_method_22_code
def y_SD_leaveOutInOneRound : MethodName := ⟨R_SD, "leaveOutInOneRound", "()Z"⟩
abbrev b_Dr_hasThePartsOf : ByteArray := prog_2_method_23_code
def y_Dr_hasThePartsOf : MethodName := ⟨R_Dr, "hasThePartsOf", "(LStockDrawer$Drawing;)Z"⟩
abbrev b_Dr_isPartLike : ByteArray := prog_2_method_24_code
def y_Dr_isPartLike : MethodName := ⟨R_Dr, "isPartLike", "(ILStockDrawer$Drawing;)Z"⟩
abbrev b_Re_partLeftAt : ByteArray := prog_3_method_8_code
def y_Re_partLeftAt : MethodName := ⟨R_Re, "partLeftAt", "(I)I"⟩
abbrev b_Dr_numberOf : ByteArray := prog_2_method_16_code
def y_Dr_numberOf : MethodName := ⟨R_Dr, "numberOf", "(I)I"⟩
abbrev b_St_heaviestAt : ByteArray := prog_5_method_4_code
def y_St_heaviestAt : MethodName := ⟨R_St, "heaviestAt", "(I)I"⟩
