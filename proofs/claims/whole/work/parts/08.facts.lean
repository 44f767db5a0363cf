/-! facts of the tables, a row each -/
def t_SF : Nat → FieldType := fun k => match k with
  | 0 => (.object "StreamFilters$Signs")
  | 1 => (.object "StreamFilters$Question")
  | 2 => (.object "StreamFilters$PieceReader")
  | _ => (.array (.object "StreamFilters$Filter"))
theorem t_SF_ok : ∀ k, k < 4 → parseFieldDescriptor (F_SF k).2.2.1 = some (t_SF k) := by decide +kernel
theorem kc_SF : kc 0 R_SF F_SF 4 := ⟨List.forall_mem_cons.mpr ⟨(tb 156 (by decide +kernel) rfl), List.forall_mem_cons.mpr ⟨(tb 158 (by decide +kernel) rfl), List.forall_mem_cons.mpr ⟨(tb 160 (by decide +kernel) rfl), List.forall_mem_cons.mpr ⟨(tb 162 (by decide +kernel) rfl), fun _ h => absurd h List.not_mem_nil⟩⟩⟩⟩, rfl, ⟨t_SF, t_SF_ok⟩, by decide +kernel⟩
theorem ds_SF_0 : parseFieldDescriptor (F_SF 0).2.2.1 = some (.object "StreamFilters$Signs") := by decide +kernel
theorem ds_SF_1 : parseFieldDescriptor (F_SF 1).2.2.1 = some (.object "StreamFilters$Question") := by decide +kernel
theorem ds_SF_2 : parseFieldDescriptor (F_SF 2).2.2.1 = some (.object "StreamFilters$PieceReader") := by decide +kernel
theorem ds_SF_3 : parseFieldDescriptor (F_SF 3).2.2.1 = some (.array (.object "StreamFilters$Filter")) := by decide +kernel
theorem bl_SF : ∀ j, j < 4 → ∀ ty, parseFieldDescriptor (F_SF j).2.2.1 = some ty → defaultValue ty = vp_V [.null, .null, .null, .null] j := fun j hj ty h => by
  rw [t_SF_ok j hj] at h
  cases h
  revert j
  decide +kernel
def t_Signs : Nat → FieldType := fun k => match k with
  | 0 => (.array .char)
  | _ => .int
theorem t_Signs_ok : ∀ k, k < 2 → parseFieldDescriptor (F_Signs k).2.2.1 = some (t_Signs k) := by decide +kernel
theorem kc_Signs : kc 1 R_Signs F_Signs 2 := ⟨List.forall_mem_cons.mpr ⟨(tb 34 (by decide +kernel) rfl), List.forall_mem_cons.mpr ⟨(tb 36 (by decide +kernel) rfl), fun _ h => absurd h List.not_mem_nil⟩⟩, rfl, ⟨t_Signs, t_Signs_ok⟩, by decide +kernel⟩
theorem ds_Signs_0 : parseFieldDescriptor (F_Signs 0).2.2.1 = some (.array .char) := by decide +kernel
theorem ds_Signs_1 : parseFieldDescriptor (F_Signs 1).2.2.1 = some .int := by decide +kernel
theorem bl_Signs : ∀ j, j < 2 → ∀ ty, parseFieldDescriptor (F_Signs j).2.2.1 = some ty → defaultValue ty = vp_V [.null, .int 0] j := fun j hj ty h => by
  rw [t_Signs_ok j hj] at h
  cases h
  revert j
  decide +kernel
def t_Question : Nat → FieldType := fun k => match k with
  | 0 => (.object "StreamFilters$Signs")
  | 1 => (.object "StreamFilters$Signs")
  | 2 => .int
  | 3 => .int
  | 4 => .int
  | 5 => .int
  | 6 => .int
  | 7 => .int
  | 8 => .int
  | 9 => .int
  | _ => .int
theorem t_Question_ok : ∀ k, k < 11 → parseFieldDescriptor (F_Question k).2.2.1 = some (t_Question k) := by decide +kernel
theorem kc_Question : kc 2 R_Question F_Question 11 := ⟨List.forall_mem_cons.mpr ⟨(tb 78 (by decide +kernel) rfl), List.forall_mem_cons.mpr ⟨(tb 80 (by decide +kernel) rfl), List.forall_mem_cons.mpr ⟨(tb 82 (by decide +kernel) rfl), List.forall_mem_cons.mpr ⟨(tb 84 (by decide +kernel) rfl), List.forall_mem_cons.mpr ⟨(tb 86 (by decide +kernel) rfl), List.forall_mem_cons.mpr ⟨(tb 88 (by decide +kernel) rfl), List.forall_mem_cons.mpr ⟨(tb 90 (by decide +kernel) rfl), List.forall_mem_cons.mpr ⟨(tb 92 (by decide +kernel) rfl), List.forall_mem_cons.mpr ⟨(tb 94 (by decide +kernel) rfl), List.forall_mem_cons.mpr ⟨(tb 96 (by decide +kernel) rfl), List.forall_mem_cons.mpr ⟨(tb 98 (by decide +kernel) rfl), fun _ h => absurd h List.not_mem_nil⟩⟩⟩⟩⟩⟩⟩⟩⟩⟩⟩, rfl, ⟨t_Question, t_Question_ok⟩, by decide +kernel⟩
theorem ds_Question_0 : parseFieldDescriptor (F_Question 0).2.2.1 = some (.object "StreamFilters$Signs") := by decide +kernel
theorem ds_Question_1 : parseFieldDescriptor (F_Question 1).2.2.1 = some (.object "StreamFilters$Signs") := by decide +kernel
theorem ds_Question_2 : parseFieldDescriptor (F_Question 2).2.2.1 = some .int := by decide +kernel
theorem ds_Question_3 : parseFieldDescriptor (F_Question 3).2.2.1 = some .int := by decide +kernel
theorem ds_Question_4 : parseFieldDescriptor (F_Question 4).2.2.1 = some .int := by decide +kernel
theorem ds_Question_5 : parseFieldDescriptor (F_Question 5).2.2.1 = some .int := by decide +kernel
theorem ds_Question_6 : parseFieldDescriptor (F_Question 6).2.2.1 = some .int := by decide +kernel
theorem ds_Question_7 : parseFieldDescriptor (F_Question 7).2.2.1 = some .int := by decide +kernel
theorem ds_Question_8 : parseFieldDescriptor (F_Question 8).2.2.1 = some .int := by decide +kernel
theorem ds_Question_9 : parseFieldDescriptor (F_Question 9).2.2.1 = some .int := by decide +kernel
theorem ds_Question_10 : parseFieldDescriptor (F_Question 10).2.2.1 = some .int := by decide +kernel
theorem bl_Question : ∀ j, j < 11 → ∀ ty, parseFieldDescriptor (F_Question j).2.2.1 = some ty → defaultValue ty = vp_V [.null, .null, .int 0, .int 0, .int 0, .int 0, .int 0, .int 0, .int 0, .int 0, .int 0] j := fun j hj ty h => by
  rw [t_Question_ok j hj] at h
  cases h
  revert j
  decide +kernel
def t_PieceReader : Nat → FieldType := fun k => match k with
  | 0 => (.object "StreamFilters$Signs")
  | 1 => .int
  | 2 => .int
  | 3 => .int
  | 4 => .int
  | 5 => .int
  | 6 => .boolean
  | 7 => .int
  | 8 => .int
  | 9 => .int
  | 10 => .int
  | _ => .int
theorem t_PieceReader_ok : ∀ k, k < 12 → parseFieldDescriptor (F_PieceReader k).2.2.1 = some (t_PieceReader k) := by decide +kernel
theorem kc_PieceReader : kc 3 R_PieceReader F_PieceReader 12 := ⟨List.forall_mem_cons.mpr ⟨(tb 125 (by decide +kernel) rfl), List.forall_mem_cons.mpr ⟨(tb 127 (by decide +kernel) rfl), List.forall_mem_cons.mpr ⟨(tb 129 (by decide +kernel) rfl), List.forall_mem_cons.mpr ⟨(tb 131 (by decide +kernel) rfl), List.forall_mem_cons.mpr ⟨(tb 133 (by decide +kernel) rfl), List.forall_mem_cons.mpr ⟨(tb 135 (by decide +kernel) rfl), List.forall_mem_cons.mpr ⟨(tb 137 (by decide +kernel) rfl), List.forall_mem_cons.mpr ⟨(tb 139 (by decide +kernel) rfl), List.forall_mem_cons.mpr ⟨(tb 141 (by decide +kernel) rfl), List.forall_mem_cons.mpr ⟨(tb 143 (by decide +kernel) rfl), List.forall_mem_cons.mpr ⟨(tb 145 (by decide +kernel) rfl), List.forall_mem_cons.mpr ⟨(tb 147 (by decide +kernel) rfl), fun _ h => absurd h List.not_mem_nil⟩⟩⟩⟩⟩⟩⟩⟩⟩⟩⟩⟩, rfl, ⟨t_PieceReader, t_PieceReader_ok⟩, by decide +kernel⟩
theorem ds_PieceReader_0 : parseFieldDescriptor (F_PieceReader 0).2.2.1 = some (.object "StreamFilters$Signs") := by decide +kernel
theorem ds_PieceReader_1 : parseFieldDescriptor (F_PieceReader 1).2.2.1 = some .int := by decide +kernel
theorem ds_PieceReader_2 : parseFieldDescriptor (F_PieceReader 2).2.2.1 = some .int := by decide +kernel
theorem ds_PieceReader_3 : parseFieldDescriptor (F_PieceReader 3).2.2.1 = some .int := by decide +kernel
theorem ds_PieceReader_4 : parseFieldDescriptor (F_PieceReader 4).2.2.1 = some .int := by decide +kernel
theorem ds_PieceReader_5 : parseFieldDescriptor (F_PieceReader 5).2.2.1 = some .int := by decide +kernel
theorem ds_PieceReader_6 : parseFieldDescriptor (F_PieceReader 6).2.2.1 = some .boolean := by decide +kernel
theorem ds_PieceReader_7 : parseFieldDescriptor (F_PieceReader 7).2.2.1 = some .int := by decide +kernel
theorem ds_PieceReader_8 : parseFieldDescriptor (F_PieceReader 8).2.2.1 = some .int := by decide +kernel
theorem ds_PieceReader_9 : parseFieldDescriptor (F_PieceReader 9).2.2.1 = some .int := by decide +kernel
theorem ds_PieceReader_10 : parseFieldDescriptor (F_PieceReader 10).2.2.1 = some .int := by decide +kernel
theorem ds_PieceReader_11 : parseFieldDescriptor (F_PieceReader 11).2.2.1 = some .int := by decide +kernel
theorem bl_PieceReader : ∀ j, j < 12 → ∀ ty, parseFieldDescriptor (F_PieceReader j).2.2.1 = some ty → defaultValue ty = vp_V [.null, .int 0, .int 0, .int 0, .int 0, .int 0, .int 0, .int 0, .int 0, .int 0, .int 0, .int 0] j := fun j hj ty h => by
  rw [t_PieceReader_ok j hj] at h
  cases h
  revert j
  decide +kernel
def t_ClassPattern : Nat → FieldType := fun k => match k with
  | 0 => (.object "StreamFilters$Signs")
  | 1 => .boolean
  | 2 => .int
  | 3 => .int
  | 4 => .int
  | 5 => .int
  | _ => .int
theorem t_ClassPattern_ok : ∀ k, k < 7 → parseFieldDescriptor (F_ClassPattern k).2.2.1 = some (t_ClassPattern k) := by decide +kernel
theorem kc_ClassPattern : kc 4 R_ClassPattern F_ClassPattern 7 := ⟨List.forall_mem_cons.mpr ⟨(tb 339 (by decide +kernel) rfl), List.forall_mem_cons.mpr ⟨(tb 341 (by decide +kernel) rfl), List.forall_mem_cons.mpr ⟨(tb 343 (by decide +kernel) rfl), List.forall_mem_cons.mpr ⟨(tb 345 (by decide +kernel) rfl), List.forall_mem_cons.mpr ⟨(tb 347 (by decide +kernel) rfl), List.forall_mem_cons.mpr ⟨(tb 349 (by decide +kernel) rfl), List.forall_mem_cons.mpr ⟨(tb 351 (by decide +kernel) rfl), fun _ h => absurd h List.not_mem_nil⟩⟩⟩⟩⟩⟩⟩, rfl, ⟨t_ClassPattern, t_ClassPattern_ok⟩, by decide +kernel⟩
theorem ds_ClassPattern_0 : parseFieldDescriptor (F_ClassPattern 0).2.2.1 = some (.object "StreamFilters$Signs") := by decide +kernel
theorem ds_ClassPattern_1 : parseFieldDescriptor (F_ClassPattern 1).2.2.1 = some .boolean := by decide +kernel
theorem ds_ClassPattern_2 : parseFieldDescriptor (F_ClassPattern 2).2.2.1 = some .int := by decide +kernel
theorem ds_ClassPattern_3 : parseFieldDescriptor (F_ClassPattern 3).2.2.1 = some .int := by decide +kernel
theorem ds_ClassPattern_4 : parseFieldDescriptor (F_ClassPattern 4).2.2.1 = some .int := by decide +kernel
theorem ds_ClassPattern_5 : parseFieldDescriptor (F_ClassPattern 5).2.2.1 = some .int := by decide +kernel
theorem ds_ClassPattern_6 : parseFieldDescriptor (F_ClassPattern 6).2.2.1 = some .int := by decide +kernel
theorem bl_ClassPattern : ∀ j, j < 7 → ∀ ty, parseFieldDescriptor (F_ClassPattern j).2.2.1 = some ty → defaultValue ty = vp_V [.null, .int 0, .int 0, .int 0, .int 0, .int 0, .int 0] j := fun j hj ty h => by
  rw [t_ClassPattern_ok j hj] at h
  cases h
  revert j
  decide +kernel
def t_TextFilter : Nat → FieldType := fun k => match k with
  | 0 => .int
  | 1 => .int
  | 2 => .int
  | 3 => .boolean
  | 4 => (.array .int)
  | _ => (.array (.object "StreamFilters$ClassPattern"))
theorem t_TextFilter_ok : ∀ k, k < 6 → parseFieldDescriptor (F_TextFilter k).2.2.1 = some (t_TextFilter k) := by decide +kernel
theorem kc_TextFilter : kc 5 R_TextFilter F_TextFilter 6 := ⟨List.forall_mem_cons.mpr ⟨(tb 389 (by decide +kernel) rfl), List.forall_mem_cons.mpr ⟨(tb 391 (by decide +kernel) rfl), List.forall_mem_cons.mpr ⟨(tb 393 (by decide +kernel) rfl), List.forall_mem_cons.mpr ⟨(tb 383 (by decide +kernel) rfl), List.forall_mem_cons.mpr ⟨(tb 385 (by decide +kernel) rfl), List.forall_mem_cons.mpr ⟨(tb 387 (by decide +kernel) rfl), fun _ h => absurd h List.not_mem_nil⟩⟩⟩⟩⟩⟩, rfl, ⟨t_TextFilter, t_TextFilter_ok⟩, by decide +kernel⟩
theorem ds_TextFilter_0 : parseFieldDescriptor (F_TextFilter 0).2.2.1 = some .int := by decide +kernel
theorem ds_TextFilter_1 : parseFieldDescriptor (F_TextFilter 1).2.2.1 = some .int := by decide +kernel
theorem ds_TextFilter_2 : parseFieldDescriptor (F_TextFilter 2).2.2.1 = some .int := by decide +kernel
theorem ds_TextFilter_3 : parseFieldDescriptor (F_TextFilter 3).2.2.1 = some .boolean := by decide +kernel
theorem ds_TextFilter_4 : parseFieldDescriptor (F_TextFilter 4).2.2.1 = some (.array .int) := by decide +kernel
theorem ds_TextFilter_5 : parseFieldDescriptor (F_TextFilter 5).2.2.1 = some (.array (.object "StreamFilters$ClassPattern")) := by decide +kernel
theorem bl_TextFilter : ∀ j, j < 6 → ∀ ty, parseFieldDescriptor (F_TextFilter j).2.2.1 = some ty → defaultValue ty = vp_V [.int 0, .int 0, .int 0, .int 0, .null, .null] j := fun j hj ty h => by
  rw [t_TextFilter_ok j hj] at h
  cases h
  revert j
  decide +kernel
def t_JoinedFilter : Nat → FieldType := fun k => match k with
  | 0 => .int
  | 1 => .int
  | 2 => .int
  | 3 => (.object "StreamFilters$Filter")
  | _ => (.object "StreamFilters$Filter")
theorem t_JoinedFilter_ok : ∀ k, k < 5 → parseFieldDescriptor (F_JoinedFilter k).2.2.1 = some (t_JoinedFilter k) := by decide +kernel
theorem kc_JoinedFilter : kc 6 R_JoinedFilter F_JoinedFilter 5 := ⟨List.forall_mem_cons.mpr ⟨(tb 426 (by decide +kernel) rfl), List.forall_mem_cons.mpr ⟨(tb 427 (by decide +kernel) rfl), List.forall_mem_cons.mpr ⟨(tb 428 (by decide +kernel) rfl), List.forall_mem_cons.mpr ⟨(tb 422 (by decide +kernel) rfl), List.forall_mem_cons.mpr ⟨(tb 424 (by decide +kernel) rfl), fun _ h => absurd h List.not_mem_nil⟩⟩⟩⟩⟩, rfl, ⟨t_JoinedFilter, t_JoinedFilter_ok⟩, by decide +kernel⟩
theorem ds_JoinedFilter_0 : parseFieldDescriptor (F_JoinedFilter 0).2.2.1 = some .int := by decide +kernel
theorem ds_JoinedFilter_1 : parseFieldDescriptor (F_JoinedFilter 1).2.2.1 = some .int := by decide +kernel
theorem ds_JoinedFilter_2 : parseFieldDescriptor (F_JoinedFilter 2).2.2.1 = some .int := by decide +kernel
theorem ds_JoinedFilter_3 : parseFieldDescriptor (F_JoinedFilter 3).2.2.1 = some (.object "StreamFilters$Filter") := by decide +kernel
theorem ds_JoinedFilter_4 : parseFieldDescriptor (F_JoinedFilter 4).2.2.1 = some (.object "StreamFilters$Filter") := by decide +kernel
theorem bl_JoinedFilter : ∀ j, j < 5 → ∀ ty, parseFieldDescriptor (F_JoinedFilter j).2.2.1 = some ty → defaultValue ty = vp_V [.int 0, .int 0, .int 0, .null, .null] j := fun j hj ty h => by
  rw [t_JoinedFilter_ok j hj] at h
  cases h
  revert j
  decide +kernel
def t_StrictFilter : Nat → FieldType := fun k => match k with
  | 0 => .int
  | 1 => .int
  | 2 => .int
  | 3 => (.object "StreamFilters$Filter")
  | _ => .boolean
theorem t_StrictFilter_ok : ∀ k, k < 5 → parseFieldDescriptor (F_StrictFilter k).2.2.1 = some (t_StrictFilter k) := by decide +kernel
theorem kc_StrictFilter : kc 7 R_StrictFilter F_StrictFilter 5 := ⟨List.forall_mem_cons.mpr ⟨(tb 446 (by decide +kernel) rfl), List.forall_mem_cons.mpr ⟨(tb 447 (by decide +kernel) rfl), List.forall_mem_cons.mpr ⟨(tb 448 (by decide +kernel) rfl), List.forall_mem_cons.mpr ⟨(tb 442 (by decide +kernel) rfl), List.forall_mem_cons.mpr ⟨(tb 444 (by decide +kernel) rfl), fun _ h => absurd h List.not_mem_nil⟩⟩⟩⟩⟩, rfl, ⟨t_StrictFilter, t_StrictFilter_ok⟩, by decide +kernel⟩
theorem ds_StrictFilter_0 : parseFieldDescriptor (F_StrictFilter 0).2.2.1 = some .int := by decide +kernel
theorem ds_StrictFilter_1 : parseFieldDescriptor (F_StrictFilter 1).2.2.1 = some .int := by decide +kernel
theorem ds_StrictFilter_2 : parseFieldDescriptor (F_StrictFilter 2).2.2.1 = some .int := by decide +kernel
theorem ds_StrictFilter_3 : parseFieldDescriptor (F_StrictFilter 3).2.2.1 = some (.object "StreamFilters$Filter") := by decide +kernel
theorem ds_StrictFilter_4 : parseFieldDescriptor (F_StrictFilter 4).2.2.1 = some .boolean := by decide +kernel
theorem bl_StrictFilter : ∀ j, j < 5 → ∀ ty, parseFieldDescriptor (F_StrictFilter j).2.2.1 = some ty → defaultValue ty = vp_V [.int 0, .int 0, .int 0, .null, .int 0] j := fun j hj ty h => by
  rw [t_StrictFilter_ok j hj] at h
  cases h
  revert j
  decide +kernel
def t_DefaultFilter : Nat → FieldType := fun k => match k with
  | 0 => .int
  | 1 => .int
  | 2 => .int
  | 3 => (.object "StreamFilters$Filter")
  | _ => .int
theorem t_DefaultFilter_ok : ∀ k, k < 5 → parseFieldDescriptor (F_DefaultFilter k).2.2.1 = some (t_DefaultFilter k) := by decide +kernel
theorem kc_DefaultFilter : kc 8 R_DefaultFilter F_DefaultFilter 5 := ⟨List.forall_mem_cons.mpr ⟨(tb 466 (by decide +kernel) rfl), List.forall_mem_cons.mpr ⟨(tb 467 (by decide +kernel) rfl), List.forall_mem_cons.mpr ⟨(tb 468 (by decide +kernel) rfl), List.forall_mem_cons.mpr ⟨(tb 462 (by decide +kernel) rfl), List.forall_mem_cons.mpr ⟨(tb 464 (by decide +kernel) rfl), fun _ h => absurd h List.not_mem_nil⟩⟩⟩⟩⟩, rfl, ⟨t_DefaultFilter, t_DefaultFilter_ok⟩, by decide +kernel⟩
theorem ds_DefaultFilter_0 : parseFieldDescriptor (F_DefaultFilter 0).2.2.1 = some .int := by decide +kernel
theorem ds_DefaultFilter_1 : parseFieldDescriptor (F_DefaultFilter 1).2.2.1 = some .int := by decide +kernel
theorem ds_DefaultFilter_2 : parseFieldDescriptor (F_DefaultFilter 2).2.2.1 = some .int := by decide +kernel
theorem ds_DefaultFilter_3 : parseFieldDescriptor (F_DefaultFilter 3).2.2.1 = some (.object "StreamFilters$Filter") := by decide +kernel
theorem ds_DefaultFilter_4 : parseFieldDescriptor (F_DefaultFilter 4).2.2.1 = some .int := by decide +kernel
theorem bl_DefaultFilter : ∀ j, j < 5 → ∀ ty, parseFieldDescriptor (F_DefaultFilter j).2.2.1 = some ty → defaultValue ty = vp_V [.int 0, .int 0, .int 0, .null, .int 0] j := fun j hj ty h => by
  rw [t_DefaultFilter_ok j hj] at h
  cases h
  revert j
  decide +kernel
def t_OnlyFilter : Nat → FieldType := fun k => match k with
  | 0 => .int
  | 1 => .int
  | 2 => .int
  | 3 => (.object "StreamFilters$Filter")
  | _ => (.object "StreamFilters$Signs")
theorem t_OnlyFilter_ok : ∀ k, k < 5 → parseFieldDescriptor (F_OnlyFilter k).2.2.1 = some (t_OnlyFilter k) := by decide +kernel
theorem kc_OnlyFilter : kc 9 R_OnlyFilter F_OnlyFilter 5 := ⟨List.forall_mem_cons.mpr ⟨(tb 487 (by decide +kernel) rfl), List.forall_mem_cons.mpr ⟨(tb 488 (by decide +kernel) rfl), List.forall_mem_cons.mpr ⟨(tb 489 (by decide +kernel) rfl), List.forall_mem_cons.mpr ⟨(tb 483 (by decide +kernel) rfl), List.forall_mem_cons.mpr ⟨(tb 485 (by decide +kernel) rfl), fun _ h => absurd h List.not_mem_nil⟩⟩⟩⟩⟩, rfl, ⟨t_OnlyFilter, t_OnlyFilter_ok⟩, by decide +kernel⟩
theorem ds_OnlyFilter_0 : parseFieldDescriptor (F_OnlyFilter 0).2.2.1 = some .int := by decide +kernel
theorem ds_OnlyFilter_1 : parseFieldDescriptor (F_OnlyFilter 1).2.2.1 = some .int := by decide +kernel
theorem ds_OnlyFilter_2 : parseFieldDescriptor (F_OnlyFilter 2).2.2.1 = some .int := by decide +kernel
theorem ds_OnlyFilter_3 : parseFieldDescriptor (F_OnlyFilter 3).2.2.1 = some (.object "StreamFilters$Filter") := by decide +kernel
theorem ds_OnlyFilter_4 : parseFieldDescriptor (F_OnlyFilter 4).2.2.1 = some (.object "StreamFilters$Signs") := by decide +kernel
theorem bl_OnlyFilter : ∀ j, j < 5 → ∀ ty, parseFieldDescriptor (F_OnlyFilter j).2.2.1 = some ty → defaultValue ty = vp_V [.int 0, .int 0, .int 0, .null, .null] j := fun j hj ty h => by
  rw [t_OnlyFilter_ok j hj] at h
  cases h
  revert j
  decide +kernel
def t_SM : Nat → FieldType := fun k => match k with
  | 0 => (.array .int)
  | 1 => .int
  | 2 => .int
  | 3 => (.array .int)
  | 4 => .int
  | 5 => (.array .int)
  | 6 => .int
  | 7 => (.array .int)
  | 8 => (.array .int)
  | 9 => (.array .int)
  | 10 => (.array .int)
  | 11 => (.array .int)
  | 12 => (.array .int)
  | 13 => (.array .int)
  | 14 => (.array .int)
  | 15 => .int
  | 16 => (.array .int)
  | 17 => .int
  | 18 => .int
  | 19 => .int
  | 20 => .int
  | 21 => .int
  | 22 => .int
  | 23 => .int
  | 24 => .int
  | 25 => .int
  | 26 => .int
  | 27 => .boolean
  | 28 => .int
  | 29 => .int
  | 30 => .int
  | 31 => .int
  | 32 => .int
  | 33 => (.array .int)
  | 34 => (.array .int)
  | 35 => (.array .int)
  | 36 => .int
  | _ => .int
theorem t_SM_ok : ∀ k, k < 38 → parseFieldDescriptor (F_SM k).2.2.1 = some (t_SM k) := by decide +kernel
theorem kc_SM : kc 10 R_SM F_SM 38 := ⟨List.forall_mem_cons.mpr ⟨(tb 652 (by decide +kernel) rfl), List.forall_mem_cons.mpr ⟨(tb 654 (by decide +kernel) rfl), List.forall_mem_cons.mpr ⟨(tb 656 (by decide +kernel) rfl), List.forall_mem_cons.mpr ⟨(tb 658 (by decide +kernel) rfl), List.forall_mem_cons.mpr ⟨(tb 660 (by decide +kernel) rfl), List.forall_mem_cons.mpr ⟨(tb 662 (by decide +kernel) rfl), List.forall_mem_cons.mpr ⟨(tb 664 (by decide +kernel) rfl), List.forall_mem_cons.mpr ⟨(tb 666 (by decide +kernel) rfl), List.forall_mem_cons.mpr ⟨(tb 668 (by decide +kernel) rfl), List.forall_mem_cons.mpr ⟨(tb 670 (by decide +kernel) rfl), List.forall_mem_cons.mpr ⟨(tb 672 (by decide +kernel) rfl), List.forall_mem_cons.mpr ⟨(tb 674 (by decide +kernel) rfl), List.forall_mem_cons.mpr ⟨(tb 676 (by decide +kernel) rfl), List.forall_mem_cons.mpr ⟨(tb 678 (by decide +kernel) rfl), List.forall_mem_cons.mpr ⟨(tb 680 (by decide +kernel) rfl), List.forall_mem_cons.mpr ⟨(tb 682 (by decide +kernel) rfl), List.forall_mem_cons.mpr ⟨(tb 684 (by decide +kernel) rfl), List.forall_mem_cons.mpr ⟨(tb 686 (by decide +kernel) rfl), List.forall_mem_cons.mpr ⟨(tb 688 (by decide +kernel) rfl), List.forall_mem_cons.mpr ⟨(tb 690 (by decide +kernel) rfl), List.forall_mem_cons.mpr ⟨(tb 692 (by decide +kernel) rfl), List.forall_mem_cons.mpr ⟨(tb 694 (by decide +kernel) rfl), List.forall_mem_cons.mpr ⟨(tb 696 (by decide +kernel) rfl), List.forall_mem_cons.mpr ⟨(tb 698 (by decide +kernel) rfl), List.forall_mem_cons.mpr ⟨(tb 700 (by decide +kernel) rfl), List.forall_mem_cons.mpr ⟨(tb 702 (by decide +kernel) rfl), List.forall_mem_cons.mpr ⟨(tb 704 (by decide +kernel) rfl), List.forall_mem_cons.mpr ⟨(tb 706 (by decide +kernel) rfl), List.forall_mem_cons.mpr ⟨(tb 708 (by decide +kernel) rfl), List.forall_mem_cons.mpr ⟨(tb 710 (by decide +kernel) rfl), List.forall_mem_cons.mpr ⟨(tb 712 (by decide +kernel) rfl), List.forall_mem_cons.mpr ⟨(tb 714 (by decide +kernel) rfl), List.forall_mem_cons.mpr ⟨(tb 716 (by decide +kernel) rfl), List.forall_mem_cons.mpr ⟨(tb 718 (by decide +kernel) rfl), List.forall_mem_cons.mpr ⟨(tb 720 (by decide +kernel) rfl), List.forall_mem_cons.mpr ⟨(tb 722 (by decide +kernel) rfl), List.forall_mem_cons.mpr ⟨(tb 724 (by decide +kernel) rfl), List.forall_mem_cons.mpr ⟨(tb 726 (by decide +kernel) rfl), fun _ h => absurd h List.not_mem_nil⟩⟩⟩⟩⟩⟩⟩⟩⟩⟩⟩⟩⟩⟩⟩⟩⟩⟩⟩⟩⟩⟩⟩⟩⟩⟩⟩⟩⟩⟩⟩⟩⟩⟩⟩⟩⟩⟩, rfl, ⟨t_SM, t_SM_ok⟩, by decide +kernel⟩
theorem ds_SM_0 : parseFieldDescriptor (F_SM 0).2.2.1 = some (.array .int) := by decide +kernel
theorem ds_SM_1 : parseFieldDescriptor (F_SM 1).2.2.1 = some .int := by decide +kernel
theorem ds_SM_2 : parseFieldDescriptor (F_SM 2).2.2.1 = some .int := by decide +kernel
theorem ds_SM_3 : parseFieldDescriptor (F_SM 3).2.2.1 = some (.array .int) := by decide +kernel
theorem ds_SM_4 : parseFieldDescriptor (F_SM 4).2.2.1 = some .int := by decide +kernel
theorem ds_SM_5 : parseFieldDescriptor (F_SM 5).2.2.1 = some (.array .int) := by decide +kernel
theorem ds_SM_6 : parseFieldDescriptor (F_SM 6).2.2.1 = some .int := by decide +kernel
theorem ds_SM_7 : parseFieldDescriptor (F_SM 7).2.2.1 = some (.array .int) := by decide +kernel
theorem ds_SM_8 : parseFieldDescriptor (F_SM 8).2.2.1 = some (.array .int) := by decide +kernel
theorem ds_SM_9 : parseFieldDescriptor (F_SM 9).2.2.1 = some (.array .int) := by decide +kernel
theorem ds_SM_10 : parseFieldDescriptor (F_SM 10).2.2.1 = some (.array .int) := by decide +kernel
theorem ds_SM_11 : parseFieldDescriptor (F_SM 11).2.2.1 = some (.array .int) := by decide +kernel
theorem ds_SM_12 : parseFieldDescriptor (F_SM 12).2.2.1 = some (.array .int) := by decide +kernel
theorem ds_SM_13 : parseFieldDescriptor (F_SM 13).2.2.1 = some (.array .int) := by decide +kernel
theorem ds_SM_14 : parseFieldDescriptor (F_SM 14).2.2.1 = some (.array .int) := by decide +kernel
theorem ds_SM_15 : parseFieldDescriptor (F_SM 15).2.2.1 = some .int := by decide +kernel
theorem ds_SM_16 : parseFieldDescriptor (F_SM 16).2.2.1 = some (.array .int) := by decide +kernel
theorem ds_SM_17 : parseFieldDescriptor (F_SM 17).2.2.1 = some .int := by decide +kernel
theorem ds_SM_18 : parseFieldDescriptor (F_SM 18).2.2.1 = some .int := by decide +kernel
theorem ds_SM_19 : parseFieldDescriptor (F_SM 19).2.2.1 = some .int := by decide +kernel
theorem ds_SM_20 : parseFieldDescriptor (F_SM 20).2.2.1 = some .int := by decide +kernel
theorem ds_SM_21 : parseFieldDescriptor (F_SM 21).2.2.1 = some .int := by decide +kernel
theorem ds_SM_22 : parseFieldDescriptor (F_SM 22).2.2.1 = some .int := by decide +kernel
theorem ds_SM_23 : parseFieldDescriptor (F_SM 23).2.2.1 = some .int := by decide +kernel
theorem ds_SM_24 : parseFieldDescriptor (F_SM 24).2.2.1 = some .int := by decide +kernel
theorem ds_SM_25 : parseFieldDescriptor (F_SM 25).2.2.1 = some .int := by decide +kernel
theorem ds_SM_26 : parseFieldDescriptor (F_SM 26).2.2.1 = some .int := by decide +kernel
theorem ds_SM_27 : parseFieldDescriptor (F_SM 27).2.2.1 = some .boolean := by decide +kernel
theorem ds_SM_28 : parseFieldDescriptor (F_SM 28).2.2.1 = some .int := by decide +kernel
theorem ds_SM_29 : parseFieldDescriptor (F_SM 29).2.2.1 = some .int := by decide +kernel
theorem ds_SM_30 : parseFieldDescriptor (F_SM 30).2.2.1 = some .int := by decide +kernel
theorem ds_SM_31 : parseFieldDescriptor (F_SM 31).2.2.1 = some .int := by decide +kernel
theorem ds_SM_32 : parseFieldDescriptor (F_SM 32).2.2.1 = some .int := by decide +kernel
theorem ds_SM_33 : parseFieldDescriptor (F_SM 33).2.2.1 = some (.array .int) := by decide +kernel
theorem ds_SM_34 : parseFieldDescriptor (F_SM 34).2.2.1 = some (.array .int) := by decide +kernel
theorem ds_SM_35 : parseFieldDescriptor (F_SM 35).2.2.1 = some (.array .int) := by decide +kernel
theorem ds_SM_36 : parseFieldDescriptor (F_SM 36).2.2.1 = some .int := by decide +kernel
theorem ds_SM_37 : parseFieldDescriptor (F_SM 37).2.2.1 = some .int := by decide +kernel
theorem bl_SM : ∀ j, j < 38 → ∀ ty, parseFieldDescriptor (F_SM j).2.2.1 = some ty → defaultValue ty = vp_V [.null, .int 0, .int 0, .null, .int 0, .null, .int 0, .null, .null, .null, .null, .null, .null, .null, .null, .int 0, .null, .int 0, .int 0, .int 0, .int 0, .int 0, .int 0, .int 0, .int 0, .int 0, .int 0, .int 0, .int 0, .int 0, .int 0, .int 0, .int 0, .null, .null, .null, .int 0, .int 0] j := fun j hj ty h => by
  rw [t_SM_ok j hj] at h
  cases h
  revert j
  decide +kernel
theorem oi_w : Cond.instanceMethod Lib.objectInit ∈ TB ∧ Cond.code Lib.objectInit ⟨#[0xb1]⟩ 1 none ∈ TB := ⟨(tb 24 (by decide +kernel) rfl), (tb 25 (by decide +kernel) rfl)⟩
theorem mm_w : Cond.static Lib.Math.max.name ∈ TB ∧ Cond.initialized "java/lang/Math" ∈ TB ∧ Cond.code Lib.Math.max.name Lib.Math.max.code 2 (some .int) ∈ TB := ⟨(tb 306 (by decide +kernel) rfl), (tb 10 (by decide +kernel) rfl), (tb 307 (by decide +kernel) rfl)⟩
