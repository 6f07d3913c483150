
/-! THE CLAIM OUT OF ONE WALK OF THE LAW'S BODY. Your part is whole_start (and what it stands on); all else here is the same for every law, but numbers. -/
def R_law : String := "ShapedRowsLaw"
def lw_P (b : Addr) (xs : List Int32) (args : Array Value) (s : State) : Prop := args = #[.ref b] ∧ s.IntsAt b xs ∧ xs.length ≤ 260 ∧ (Jvm.Cond.and given_1 narrow_1).before args s = true
/-- what a walk over the start with the record d0 says of its end, said of the start itself -/
theorem lw_closed {s t : State} {o : Outcome} {d0 : Drawn} {L : List Loc} {k n : Nat} (hd0 : s.drawn.sameBut d0 lw_cs) (hv : ∃ v, o = .returned v) (hW : (s.setDrawn d0).WarmedH t.vm) (hs : (s.setDrawn d0).sameButNew ({ t with vm := s.vm } : State) L k n) : State.butDraws s t lw_cs (fun t1 => Framed s o t1 L k n) := by
  have h2 : t.drawn = d0 := congrArg State.drawn hs.1
  refine ⟨⟨hv, hW, State.sameButNew.setDrawn hs s.drawn⟩, ?_, by decide⟩
  rw [h2]
  exact hd0
def lw_Q (_ : Array Value) (s : State) (o : Outcome) (t : State) : Prop := o = .returned (some (.int 1)) ∧ State.butDraws s t lw_cs (fun t1 => Framed s o t1 [] 600104 7301314)
def lw_Z (below : List Frame) (a : Array Value) (s : State) : State → Prop := fun t => ∃ o, t.status = .running ∧ Ended t below o ∧ lw_Q a s o t
/-- the law's own end, with 1 on the stack, nothing written that was there before, its room as the claim has it; d0: the record of draws at this point (at the entry s.drawn: begin with 'refine W.base ?_' and 'have hd0 := Drawn.sameBut.refl s.drawn lw_cs') -/
theorem lw_ret {p : Program} {l : Launch} {e : Env} {s : State} {m : MethodId} {below : List Frame} {meth : Method} {c : Code} {b : Nat} {d0 : Drawn} (hd0 : s.drawn.sameBut d0 lw_cs) (hx : p.tables.exec = Jvm.exec) (hb : c.code = code) (hr : meth.sig.returnType = ret) (hlocks : meth.locks = false) {pc : Nat} {H : Heap} {ls : Array Slot} (hdg : decode code pc = .ok (.ireturn, 1)) : W p l e room_1 (s.setDrawn d0) m #[Value.ref b] below meth c H [] 600104 7301314 (lw_Z below #[Value.ref b] s) (F0 m pc ls [.int 1]) := by
  intro T hT X
  obtain ⟨fs, hret, hrun, hended, hW, hframe⟩ := X.leave (v := some (.int 1)) (hlocks := hlocks) (fun h => by rw [hr] at h; cases h)
  have hmeth' : T.vm.method? m = some meth := X.method'
  refine ⟨T.setFrames fs, ?_, .returned (some (.int 1)), hrun, hended, rfl, lw_closed hd0 ⟨_, rfl⟩ hW hframe⟩
  jvm_step X.here [X.here.top, hx, hb, hdg, hmeth', hr, ret, narrow_b1]
  (try refine ⟨rfl, ?_⟩); (try refine ⟨rfl, ?_⟩)
  first | (intro acts; rw [hret _ acts rfl rfl rfl]) | rw [hret _ _ rfl rfl rfl]
  exact Steps.refl _
/-- what holds at the law's entry: the machine, the code, the tables' words (any of lw_tbl by 'hts w (by decide +kernel)'), the script of L ints xs at the cell b, what the Statement gives of the start (any of its parts by flat_of_before) -/
def lw_At (p : Program) (s : State) (m : MethodId) (meth : Method) (c : Code) (b L : Nat) (xs : Nat → Int32) : Prop :=
  p.tables.exec = Jvm.exec ∧ c.code = code ∧ meth.sig.returnType = ret ∧ c.maxLocals = 11 ∧ s.vm.findClass R_law = some m.cls ∧ (∀ w ∈ lw_tbl, w.before #[Value.ref b] s = true) ∧ va_X b L xs s s.heap ∧ b < s.heap.size ∧ meth.locks = false ∧ (Jvm.Cond.and given_1 narrow_1).before #[Value.ref b] s = true
def RX0 : String := "ShapedRows$History"
def TX0 : u_T := fun k => match k with
  | 0 => ("ShapedRows$History", "slots", "[LShapedRows$State;", true)
  | _ => ("ShapedRows$History", "size", "I", false)
def tyX0 : Nat → FieldType := fun k => match k with
  | 0 => .array (.object "ShapedRows$State")
  | _ => .int
abbrev wsX00 : List Cond := u_ws RX0 TX0 2
theorem nmX0 : ∀ a, a < 2 → ∀ b, b < 2 → a ≠ b → (TX0 a).2.1 ≠ (TX0 b).2.1 := by decide +kernel
theorem tyX0_ok : ∀ k, k < 2 → parseFieldDescriptor (TX0 k).2.2.1 = some (tyX0 k) := by decide +kernel
abbrev cX0_init : ByteArray := prog_2_method_1_code
def yX0_init : MethodName := ⟨RX0, "<init>", "()V"⟩
abbrev cX0_size : ByteArray := prog_2_method_2_code
def yX0_size : MethodName := ⟨RX0, "size", "()I"⟩
abbrev cX0_save : ByteArray := prog_2_method_3_code
def yX0_save : MethodName := ⟨RX0, "save", "(LShapedRows$State;)V"⟩
abbrev cX0_restore : ByteArray := prog_2_method_4_code
def yX0_restore : MethodName := ⟨RX0, "restore", "(LShapedRows$State;)I"⟩
abbrev cX0_slotAt : ByteArray := prog_2_method_5_code
def yX0_slotAt : MethodName := ⟨RX0, "slotAt", "(I)LShapedRows$State;"⟩
abbrev cX0_dropOldest : ByteArray := prog_2_method_6_code
def yX0_dropOldest : MethodName := ⟨RX0, "dropOldest", "()V"⟩
def RX1 : String := "ShapedRows$Rows"
def TX1 : u_T := fun k => match k with
  | 0 => ("ShapedRows$Rows", "size", "I", false)
  | 1 => ("ShapedRows$Rows", "cursor", "I", false)
  | 2 => ("ShapedRows$Rows", "rewritten", "I", false)
  | 3 => ("ShapedRows$Rows", "writes", "I", false)
  | 4 => ("ShapedRows$Rows", "shapes", "[I", true)
  | 5 => ("ShapedRows$Rows", "rewrites", "[I", true)
  | _ => ("ShapedRows$Rows", "values", "[I", true)
def tyX1 : Nat → FieldType := fun k => match k with
  | 0 => .int
  | 1 => .int
  | 2 => .int
  | 3 => .int
  | 4 => .array .int
  | 5 => .array .int
  | _ => .array .int
abbrev wsX10 : List Cond := u_ws RX1 TX1 7
theorem nmX1 : ∀ a, a < 7 → ∀ b, b < 7 → a ≠ b → (TX1 a).2.1 ≠ (TX1 b).2.1 := by decide +kernel
theorem tyX1_ok : ∀ k, k < 7 → parseFieldDescriptor (TX1 k).2.2.1 = some (tyX1 k) := by decide +kernel
abbrev cX1_init : ByteArray := prog_3_method_1_code
def yX1_init : MethodName := ⟨RX1, "<init>", "()V"⟩
abbrev cX1_size : ByteArray := prog_3_method_2_code
def yX1_size : MethodName := ⟨RX1, "size", "()I"⟩
abbrev cX1_cursor : ByteArray := prog_3_method_3_code
def yX1_cursor : MethodName := ⟨RX1, "cursor", "()I"⟩
abbrev cX1_rewritten : ByteArray := prog_3_method_4_code
def yX1_rewritten : MethodName := ⟨RX1, "rewritten", "()I"⟩
abbrev cX1_writes : ByteArray := prog_3_method_5_code
def yX1_writes : MethodName := ⟨RX1, "writes", "()I"⟩
abbrev cX1_isThere : ByteArray := prog_3_method_6_code
def yX1_isThere : MethodName := ⟨RX1, "isThere", "(I)Z"⟩
abbrev cX1_isFull : ByteArray := prog_3_method_7_code
def yX1_isFull : MethodName := ⟨RX1, "isFull", "()Z"⟩
abbrev cX1_shapeOf : ByteArray := prog_3_method_8_code
def yX1_shapeOf : MethodName := ⟨RX1, "shapeOf", "(I)I"⟩
abbrev cX1_rewritesOf : ByteArray := prog_3_method_9_code
def yX1_rewritesOf : MethodName := ⟨RX1, "rewritesOf", "(I)I"⟩
abbrev cX1_value : ByteArray := prog_3_method_10_code
def yX1_value : MethodName := ⟨RX1, "value", "(II)I"⟩
abbrev cX1_addRow : ByteArray := prog_3_method_11_code
def yX1_addRow : MethodName := ⟨RX1, "addRow", "(I)I"⟩
abbrev cX1_takeOut : ByteArray := prog_3_method_12_code
def yX1_takeOut : MethodName := ⟨RX1, "takeOut", "(I)I"⟩
abbrev cX1_overwrite : ByteArray := prog_3_method_13_code
def yX1_overwrite : MethodName := ⟨RX1, "overwrite", "(III)V"⟩
abbrev cX1_rewrite : ByteArray := prog_3_method_14_code
def yX1_rewrite : MethodName := ⟨RX1, "rewrite", "(II[I)V"⟩
abbrev cX1_nextRow : ByteArray := prog_3_method_15_code
def yX1_nextRow : MethodName := ⟨RX1, "nextRow", "()I"⟩
abbrev cX1_setCursor : ByteArray := prog_3_method_16_code
def yX1_setCursor : MethodName := ⟨RX1, "setCursor", "(I)V"⟩
abbrev cX1_copyValues : ByteArray := prog_3_method_17_code
def yX1_copyValues : MethodName := ⟨RX1, "copyValues", "(I[I)V"⟩
abbrev cX1_takeFrom : ByteArray := prog_3_method_18_code
def yX1_takeFrom : MethodName := ⟨RX1, "takeFrom", "(LShapedRows$Rows;)V"⟩
abbrev cX1_moveDown : ByteArray := prog_3_method_19_code
def yX1_moveDown : MethodName := ⟨RX1, "moveDown", "(I)V"⟩
def RX2 : String := "ShapedRows$Shapes"
def TX2 : u_T := fun k => match k with
  | 0 => ("ShapedRows$Shapes", "size", "I", false)
  | 1 => ("ShapedRows$Shapes", "mark", "I", false)
  | 2 => ("ShapedRows$Shapes", "changes", "[I", true)
  | 3 => ("ShapedRows$Shapes", "numbers", "[I", true)
  | 4 => ("ShapedRows$Shapes", "sources", "[I", true)
  | 5 => ("ShapedRows$Shapes", "addends", "[I", true)
  | 6 => ("ShapedRows$Shapes", "widths", "[I", true)
  | 7 => ("ShapedRows$Shapes", "columns", "[I", true)
  | _ => ("ShapedRows$Shapes", "letters", "[I", true)
def tyX2 : Nat → FieldType := fun k => match k with
  | 0 => .int
  | 1 => .int
  | 2 => .array .int
  | 3 => .array .int
  | 4 => .array .int
  | 5 => .array .int
  | 6 => .array .int
  | 7 => .array .int
  | _ => .array .int
abbrev wsX20 : List Cond := u_ws RX2 TX2 9
theorem nmX2 : ∀ a, a < 9 → ∀ b, b < 9 → a ≠ b → (TX2 a).2.1 ≠ (TX2 b).2.1 := by decide +kernel
theorem tyX2_ok : ∀ k, k < 9 → parseFieldDescriptor (TX2 k).2.2.1 = some (tyX2 k) := by decide +kernel
abbrev cX2_init : ByteArray := prog_4_method_1_code
def yX2_init : MethodName := ⟨RX2, "<init>", "()V"⟩
abbrev cX2_size : ByteArray := prog_4_method_2_code
def yX2_size : MethodName := ⟨RX2, "size", "()I"⟩
abbrev cX2_mark : ByteArray := prog_4_method_3_code
def yX2_mark : MethodName := ⟨RX2, "mark", "()I"⟩
abbrev cX2_newest : ByteArray := prog_4_method_4_code
def yX2_newest : MethodName := ⟨RX2, "newest", "()I"⟩
abbrev cX2_isThere : ByteArray := prog_4_method_5_code
def yX2_isThere : MethodName := ⟨RX2, "isThere", "(I)Z"⟩
abbrev cX2_isRetired : ByteArray := prog_4_method_6_code
def yX2_isRetired : MethodName := ⟨RX2, "isRetired", "(I)Z"⟩
abbrev cX2_isUsable : ByteArray := prog_4_method_7_code
def yX2_isUsable : MethodName := ⟨RX2, "isUsable", "(I)Z"⟩
abbrev cX2_width : ByteArray := prog_4_method_8_code
def yX2_width : MethodName := ⟨RX2, "width", "(I)I"⟩
abbrev cX2_changeOf : ByteArray := prog_4_method_9_code
def yX2_changeOf : MethodName := ⟨RX2, "changeOf", "(I)I"⟩
abbrev cX2_columnAt : ByteArray := prog_4_method_10_code
def yX2_columnAt : MethodName := ⟨RX2, "columnAt", "(II)I"⟩
abbrev cX2_columnOfLetter : ByteArray := prog_4_method_11_code
def yX2_columnOfLetter : MethodName := ⟨RX2, "columnOfLetter", "(II)I"⟩
abbrev cX2_hasColumn : ByteArray := prog_4_method_12_code
def yX2_hasColumn : MethodName := ⟨RX2, "hasColumn", "(II)Z"⟩
abbrev cX2_letterMask : ByteArray := prog_4_method_13_code
def yX2_letterMask : MethodName := ⟨RX2, "letterMask", "(I)I"⟩
abbrev cX2_columnProperty : ByteArray := prog_4_method_14_code
def yX2_columnProperty : MethodName := ⟨RX2, "columnProperty", "(III)I"⟩
abbrev cX2_canAdd : ByteArray := prog_4_method_15_code
def yX2_canAdd : MethodName := ⟨RX2, "canAdd", "(I)Z"⟩
abbrev cX2_canAddFrom : ByteArray := prog_4_method_16_code
def yX2_canAddFrom : MethodName := ⟨RX2, "canAddFrom", "(III)Z"⟩
abbrev cX2_canDrop : ByteArray := prog_4_method_17_code
def yX2_canDrop : MethodName := ⟨RX2, "canDrop", "(I)Z"⟩
abbrev cX2_canRename : ByteArray := prog_4_method_18_code
def yX2_canRename : MethodName := ⟨RX2, "canRename", "(II)Z"⟩
abbrev cX2_extendByNumber : ByteArray := prog_4_method_19_code
def yX2_extendByNumber : MethodName := ⟨RX2, "extendByNumber", "(II)I"⟩
abbrev cX2_extendFrom : ByteArray := prog_4_method_20_code
def yX2_extendFrom : MethodName := ⟨RX2, "extendFrom", "(III)I"⟩
abbrev cX2_leaveOut : ByteArray := prog_4_method_21_code
def yX2_leaveOut : MethodName := ⟨RX2, "leaveOut", "(II)I"⟩
abbrev cX2_exchangeLetter : ByteArray := prog_4_method_22_code
def yX2_exchangeLetter : MethodName := ⟨RX2, "exchangeLetter", "(II)I"⟩
abbrev cX2_setMark : ByteArray := prog_4_method_23_code
def yX2_setMark : MethodName := ⟨RX2, "setMark", "(I)I"⟩
abbrev cX2_carryForth : ByteArray := prog_4_method_24_code
def yX2_carryForth : MethodName := ⟨RX2, "carryForth", "([III)V"⟩
abbrev cX2_carryBack : ByteArray := prog_4_method_25_code
def yX2_carryBack : MethodName := ⟨RX2, "carryBack", "([III)V"⟩
abbrev cX2_takeFrom : ByteArray := prog_4_method_26_code
def yX2_takeFrom : MethodName := ⟨RX2, "takeFrom", "(LShapedRows$Shapes;)V"⟩
abbrev cX2_isFull : ByteArray := prog_4_method_27_code
def yX2_isFull : MethodName := ⟨RX2, "isFull", "()Z"⟩
abbrev cX2_newestHas : ByteArray := prog_4_method_28_code
def yX2_newestHas : MethodName := ⟨RX2, "newestHas", "(I)Z"⟩
abbrev cX2_placeOfLetter : ByteArray := prog_4_method_29_code
def yX2_placeOfLetter : MethodName := ⟨RX2, "placeOfLetter", "(II)I"⟩
abbrev cX2_placeOfColumn : ByteArray := prog_4_method_30_code
def yX2_placeOfColumn : MethodName := ⟨RX2, "placeOfColumn", "(II)I"⟩
abbrev cX2_letterAt : ByteArray := prog_4_method_31_code
def yX2_letterAt : MethodName := ⟨RX2, "letterAt", "(II)I"⟩
abbrev cX2_comeBy : ByteArray := prog_4_method_32_code
def yX2_comeBy : MethodName := ⟨RX2, "comeBy", "(I)I"⟩
abbrev cX2_addLast : ByteArray := prog_4_method_33_code
def yX2_addLast : MethodName := ⟨RX2, "addLast", "(II)V"⟩
abbrev cX2_closeGap : ByteArray := prog_4_method_34_code
def yX2_closeGap : MethodName := ⟨RX2, "closeGap", "(II)V"⟩
def RX3 : String := "ShapedRows$State"
def TX3 : u_T := fun k => match k with
  | 0 => ("ShapedRows$State", "shapes", "LShapedRows$Shapes;", true)
  | 1 => ("ShapedRows$State", "rows", "LShapedRows$Rows;", true)
  | 2 => ("ShapedRows$State", "held", "[I", true)
  | _ => ("ShapedRows$State", "carried", "[I", true)
def tyX3 : Nat → FieldType := fun k => match k with
  | 0 => .object "ShapedRows$Shapes"
  | 1 => .object "ShapedRows$Rows"
  | 2 => .array .int
  | _ => .array .int
abbrev wsX30 : List Cond := u_ws RX3 TX3 4
theorem nmX3 : ∀ a, a < 4 → ∀ b, b < 4 → a ≠ b → (TX3 a).2.1 ≠ (TX3 b).2.1 := by decide +kernel
theorem tyX3_ok : ∀ k, k < 4 → parseFieldDescriptor (TX3 k).2.2.1 = some (tyX3 k) := by decide +kernel
abbrev cX3_init : ByteArray := prog_5_method_1_code
def yX3_init : MethodName := ⟨RX3, "<init>", "()V"⟩
abbrev cX3_heldBy : ByteArray := prog_5_method_2_code
def yX3_heldBy : MethodName := ⟨RX3, "heldBy", "(I)I"⟩
abbrev cX3_letHold : ByteArray := prog_5_method_3_code
def yX3_letHold : MethodName := ⟨RX3, "letHold", "(II)I"⟩
abbrev cX3_valuesRead : ByteArray := prog_5_method_4_code
def yX3_valuesRead : MethodName := ⟨RX3, "valuesRead", "(II)[I"⟩
abbrev cX3_valueRead : ByteArray := prog_5_method_5_code
def yX3_valueRead : MethodName := ⟨RX3, "valueRead", "(III)I"⟩
abbrev cX3_refusal : ByteArray := prog_5_method_6_code
def yX3_refusal : MethodName := ⟨RX3, "refusal", "(III)I"⟩
abbrev cX3_writeValue : ByteArray := prog_5_method_7_code
def yX3_writeValue : MethodName := ⟨RX3, "writeValue", "(IIII)I"⟩
abbrev cX3_stepOn : ByteArray := prog_5_method_8_code
def yX3_stepOn : MethodName := ⟨RX3, "stepOn", "(I)I"⟩
abbrev cX3_stepsLeft : ByteArray := prog_5_method_9_code
def yX3_stepsLeft : MethodName := ⟨RX3, "stepsLeft", "()I"⟩
abbrev cX3_rowsBehind : ByteArray := prog_5_method_10_code
def yX3_rowsBehind : MethodName := ⟨RX3, "rowsBehind", "()I"⟩
abbrev cX3_oldestNeeded : ByteArray := prog_5_method_11_code
def yX3_oldestNeeded : MethodName := ⟨RX3, "oldestNeeded", "()I"⟩
abbrev cX3_valuesLost : ByteArray := prog_5_method_12_code
def yX3_valuesLost : MethodName := ⟨RX3, "valuesLost", "(II)I"⟩
abbrev cX3_rowsWith : ByteArray := prog_5_method_13_code
def yX3_rowsWith : MethodName := ⟨RX3, "rowsWith", "(III)I"⟩
abbrev cX3_shapeProperty : ByteArray := prog_5_method_14_code
def yX3_shapeProperty : MethodName := ⟨RX3, "shapeProperty", "(II)I"⟩
abbrev cX3_rowProperty : ByteArray := prog_5_method_15_code
def yX3_rowProperty : MethodName := ⟨RX3, "rowProperty", "(II)I"⟩
abbrev cX3_takeFrom : ByteArray := prog_5_method_16_code
def yX3_takeFrom : MethodName := ⟨RX3, "takeFrom", "(LShapedRows$State;)V"⟩
abbrev cX3_stepOnce : ByteArray := prog_5_method_17_code
def yX3_stepOnce : MethodName := ⟨RX3, "stepOnce", "()V"⟩
abbrev cX3_isBehind : ByteArray := prog_5_method_18_code
def yX3_isBehind : MethodName := ⟨RX3, "isBehind", "(I)Z"⟩
abbrev cX3_sumRead : ByteArray := prog_5_method_19_code
def yX3_sumRead : MethodName := ⟨RX3, "sumRead", "(II)I"⟩
abbrev cX3_rowsOfShape : ByteArray := prog_5_method_20_code
def yX3_rowsOfShape : MethodName := ⟨RX3, "rowsOfShape", "(I)I"⟩
abbrev cX3_readersOfShape : ByteArray := prog_5_method_21_code
def yX3_readersOfShape : MethodName := ⟨RX3, "readersOfShape", "(I)I"⟩
def RX4 : String := "ShapedRows$Text"
def TX4 : u_T := fun k => match k with
  | 0 => ("ShapedRows$Text", "codes", "[I", true)
  | _ => ("ShapedRows$Text", "length", "I", false)
def tyX4 : Nat → FieldType := fun k => match k with
  | 0 => .array .int
  | _ => .int
abbrev wsX40 : List Cond := u_ws RX4 TX4 2
theorem nmX4 : ∀ a, a < 2 → ∀ b, b < 2 → a ≠ b → (TX4 a).2.1 ≠ (TX4 b).2.1 := by decide +kernel
theorem tyX4_ok : ∀ k, k < 2 → parseFieldDescriptor (TX4 k).2.2.1 = some (tyX4 k) := by decide +kernel
abbrev cX4_init : ByteArray := prog_6_method_1_code
def yX4_init : MethodName := ⟨RX4, "<init>", "()V"⟩
abbrev cX4_length : ByteArray := prog_6_method_2_code
def yX4_length : MethodName := ⟨RX4, "length", "()I"⟩
abbrev cX4_code : ByteArray := prog_6_method_6_code
def yX4_code : MethodName := ⟨RX4, "code", "(I)I"⟩
def RX5 : String := "ShapedRows"
def TX5 : u_T := fun k => match k with
  | 0 => ("ShapedRows", "state", "LShapedRows$State;", true)
  | 1 => ("ShapedRows", "history", "LShapedRows$History;", true)
  | _ => ("ShapedRows", "text", "LShapedRows$Text;", true)
def tyX5 : Nat → FieldType := fun k => match k with
  | 0 => .object "ShapedRows$State"
  | 1 => .object "ShapedRows$History"
  | _ => .object "ShapedRows$Text"
abbrev wsX50 : List Cond := u_ws RX5 TX5 3
theorem nmX5 : ∀ a, a < 3 → ∀ b, b < 3 → a ≠ b → (TX5 a).2.1 ≠ (TX5 b).2.1 := by decide +kernel
theorem tyX5_ok : ∀ k, k < 3 → parseFieldDescriptor (TX5 k).2.2.1 = some (tyX5 k) := by decide +kernel
abbrev cX5_init : ByteArray := prog_1_method_1_code
def yX5_init : MethodName := ⟨RX5, "<init>", "()V"⟩
abbrev cX5_addNumber : ByteArray := prog_1_method_2_code
def yX5_addNumber : MethodName := ⟨RX5, "addNumber", "(II)I"⟩
abbrev cX5_addCopy : ByteArray := prog_1_method_3_code
def yX5_addCopy : MethodName := ⟨RX5, "addCopy", "(III)I"⟩
abbrev cX5_drop : ByteArray := prog_1_method_4_code
def yX5_drop : MethodName := ⟨RX5, "drop", "(II)I"⟩
abbrev cX5_rename : ByteArray := prog_1_method_5_code
def yX5_rename : MethodName := ⟨RX5, "rename", "(II)I"⟩
abbrev cX5_insertBy : ByteArray := prog_1_method_7_code
def yX5_insertBy : MethodName := ⟨RX5, "insertBy", "(I)I"⟩
abbrev cX5_write : ByteArray := prog_1_method_8_code
def yX5_write : MethodName := ⟨RX5, "write", "(IIII)I"⟩
abbrev cX5_remove : ByteArray := prog_1_method_9_code
def yX5_remove : MethodName := ⟨RX5, "remove", "(I)I"⟩
abbrev cX5_goOn : ByteArray := prog_1_method_10_code
def yX5_goOn : MethodName := ⟨RX5, "goOn", "(I)I"⟩
abbrev cX5_hold : ByteArray := prog_1_method_11_code
def yX5_hold : MethodName := ⟨RX5, "hold", "(II)I"⟩
abbrev cX5_retire : ByteArray := prog_1_method_12_code
def yX5_retire : MethodName := ⟨RX5, "retire", "(I)I"⟩
abbrev cX5_undo : ByteArray := prog_1_method_17_code
def yX5_undo : MethodName := ⟨RX5, "undo", "()I"⟩
abbrev cX5_read : ByteArray := prog_1_method_18_code
def yX5_read : MethodName := ⟨RX5, "read", "(III)I"⟩
abbrev cX5_shape : ByteArray := prog_1_method_21_code
def yX5_shape : MethodName := ⟨RX5, "shape", "(II)I"⟩
abbrev cX5_row : ByteArray := prog_1_method_22_code
def yX5_row : MethodName := ⟨RX5, "row", "(II)I"⟩
abbrev cX5_count : ByteArray := prog_1_method_23_code
def yX5_count : MethodName := ⟨RX5, "count", "(I)I"⟩
abbrev cX5_lost : ByteArray := prog_1_method_24_code
def yX5_lost : MethodName := ⟨RX5, "lost", "(II)I"⟩
abbrev cX5_against : ByteArray := prog_1_method_25_code
def yX5_against : MethodName := ⟨RX5, "against", "(III)I"⟩
abbrev cX5_find : ByteArray := prog_1_method_27_code
def yX5_find : MethodName := ⟨RX5, "find", "(III)I"⟩
abbrev cX5_freshShare : ByteArray := prog_1_method_28_code
def yX5_freshShare : MethodName := ⟨RX5, "freshShare", "()D"⟩
abbrev cX5_digest : ByteArray := prog_1_method_29_code
def yX5_digest : MethodName := ⟨RX5, "digest", "()J"⟩
abbrev cX5_counted : ByteArray := prog_1_method_30_code
def yX5_counted : MethodName := ⟨RX5, "counted", "(I)I"⟩
abbrev cX5_mixedShapes : ByteArray := prog_1_method_37_code
def yX5_mixedShapes : MethodName := ⟨RX5, "mixedShapes", "(J)J"⟩
abbrev cX5_mixedRow : ByteArray := prog_1_method_38_code
def yX5_mixedRow : MethodName := ⟨RX5, "mixedRow", "(JI)J"⟩
abbrev cX5_mixedText : ByteArray := prog_1_method_39_code
def yX5_mixedText : MethodName := ⟨RX5, "mixedText", "(J)J"⟩
abbrev cX5_mixed : ByteArray := prog_1_method_40_code
def yX5_mixed : MethodName := ⟨RX5, "mixed", "(JJ)J"⟩
abbrev cX5_bitsOfShare : ByteArray := prog_1_method_41_code
def yX5_bitsOfShare : MethodName := ⟨RX5, "bitsOfShare", "(D)J"⟩
abbrev cX5_isLetter : ByteArray := prog_1_method_42_code
def yX5_isLetter : MethodName := ⟨RX5, "isLetter", "(I)Z"⟩
abbrev cX5_isLetterOrNone : ByteArray := prog_1_method_43_code
def yX5_isLetterOrNone : MethodName := ⟨RX5, "isLetterOrNone", "(I)Z"⟩
abbrev cX5_isNumber : ByteArray := prog_1_method_44_code
def yX5_isNumber : MethodName := ⟨RX5, "isNumber", "(I)Z"⟩
abbrev cX5_isValue : ByteArray := prog_1_method_45_code
def yX5_isValue : MethodName := ⟨RX5, "isValue", "(I)Z"⟩
abbrev cX5_isReader : ByteArray := prog_1_method_46_code
def yX5_isReader : MethodName := ⟨RX5, "isReader", "(I)Z"⟩
abbrev cX5_at : ByteArray := prog_1_method_47_code
def yX5_at : MethodName := ⟨RX5, "at", "([II)I"⟩
abbrev cX5_put : ByteArray := prog_1_method_48_code
def yX5_put : MethodName := ⟨RX5, "put", "([III)V"⟩
abbrev cX5_copyAll : ByteArray := prog_1_method_49_code
def yX5_copyAll : MethodName := ⟨RX5, "copyAll", "([I[I)V"⟩
def RX6 : String := "ShapedRowsModel"
def TX6 : u_T := fun k => match k with
  | _ => ("", "", "", false)
def tyX6 : Nat → FieldType := fun k => match k with
  | _ => .int
abbrev wsX60 : List Cond := u_ws RX6 TX6 0
theorem nmX6 : ∀ a, a < 0 → ∀ b, b < 0 → a ≠ b → (TX6 a).2.1 ≠ (TX6 b).2.1 := by decide +kernel
theorem tyX6_ok : ∀ k, k < 0 → parseFieldDescriptor (TX6 k).2.2.1 = some (tyX6 k) := by decide +kernel
def RJ9 : String := "java/lang/Math"
def TJ9 : u_T := fun k => match k with
  | _ => ("", "", "", false)
def tyJ9 : Nat → FieldType := fun k => match k with
  | _ => .int
theorem nmJ9 : ∀ a, a < 0 → ∀ b, b < 0 → a ≠ b → (TJ9 a).2.1 ≠ (TJ9 b).2.1 := by decide +kernel
theorem tyJ9_ok : ∀ k, k < 0 → parseFieldDescriptor (TJ9 k).2.2.1 = some (tyJ9 k) := by decide +kernel
abbrev cJ9_min_7cf53 : ByteArray := prog_13_method_69_code
def yJ9_min_7cf53 : MethodName := ⟨RJ9, "min", "(II)I"⟩
def RJ0 : String := "java/lang/String"
def TJ0 : u_T := fun k => match k with
  | _ => ("", "", "", false)
def tyJ0 : Nat → FieldType := fun k => match k with
  | _ => .int
theorem nmJ0 : ∀ a, a < 0 → ∀ b, b < 0 → a ≠ b → (TJ0 a).2.1 ≠ (TJ0 b).2.1 := by decide +kernel
theorem tyJ0_ok : ∀ k, k < 0 → parseFieldDescriptor (TJ0 k).2.2.1 = some (tyJ0 k) := by decide +kernel
def RJ10 : String := "java/lang/System"
def TJ10 : u_T := fun k => match k with
  | _ => ("", "", "", false)
def tyJ10 : Nat → FieldType := fun k => match k with
  | _ => .int
theorem nmJ10 : ∀ a, a < 0 → ∀ b, b < 0 → a ≠ b → (TJ10 a).2.1 ≠ (TJ10 b).2.1 := by decide +kernel
theorem tyJ10_ok : ∀ k, k < 0 → parseFieldDescriptor (TJ10 k).2.2.1 = some (tyJ10 k) := by decide +kernel
def RL : String := "ShapedRowsLaw"
abbrev cL_cell : ByteArray := method_2_code
def yL_cell : MethodName := ⟨RL, "cell", "([II)I"⟩
abbrev cL_low : ByteArray := method_3_code
def yL_low : MethodName := ⟨RL, "low", "(II)I"⟩
abbrev cL_acts : ByteArray := method_4_code
def yL_acts : MethodName := ⟨RL, "acts", "(LShapedRows;II)Z"⟩
abbrev cL_writes : ByteArray := method_5_code
def yL_writes : MethodName := ⟨RL, "writes", "(LShapedRows;IIII)Z"⟩
abbrev cL_holds : ByteArray := method_6_code
def yL_holds : MethodName := ⟨RL, "holds", "(LShapedRows;)Z"⟩
abbrev cL_law : ByteArray := code
def yL_law : MethodName := ⟨RL, "law", "([I)Z"⟩
abbrev vwCl : List vw_C := [(RX0, TX0, 2), (RX1, TX1, 7), (RX2, TX2, 9), (RX3, TX3, 4), (RX4, TX4, 2), (RX5, TX5, 3)]
