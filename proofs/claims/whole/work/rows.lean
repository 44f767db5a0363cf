section
-- ===== PART A: goes FIRST, ahead of the names: the tables' words, and 'selects' of the private methods out of them =====
/-- a private method of a class that the tables say can be made, by its rows of tables_1 -/
def lw_okq (q : MethodName × Nat) : Prop := (q.1.cls ≠ "java/lang/invoke/MethodHandle" ∧ q.1.cls ≠ "java/lang/invoke/VarHandle") ∧ Cond.instantiable q.1.cls q.2 ∈ tables_1 ∧ Cond.privateMethod q.1 ∈ tables_1 ∧ Cond.instanceMethod q.1 ∈ tables_1
theorem lw_p0 : lw_okq (⟨"StreamFilters", "bufferAt", "(I)LStreamFilters$Signs;"⟩, 4) := ⟨⟨by decide +kernel, by decide +kernel⟩, List.mem_of_getElem? (i := 19) (by decide +kernel), List.mem_of_getElem? (i := 170) (by decide +kernel), List.mem_of_getElem? (i := 171) (by decide +kernel)⟩
theorem lw_p1 : lw_okq (⟨"StreamFilters$PieceReader", "startOver", "()I"⟩, 12) := ⟨⟨by decide +kernel, by decide +kernel⟩, List.mem_of_getElem? (i := 102) (by decide +kernel), List.mem_of_getElem? (i := 211) (by decide +kernel), List.mem_of_getElem? (i := 212) (by decide +kernel)⟩
theorem lw_p2 : lw_okq (⟨"StreamFilters$PieceReader", "readNext", "()V"⟩, 12) := ⟨⟨by decide +kernel, by decide +kernel⟩, List.mem_of_getElem? (i := 102) (by decide +kernel), List.mem_of_getElem? (i := 220) (by decide +kernel), List.mem_of_getElem? (i := 221) (by decide +kernel)⟩
theorem lw_p3 : lw_okq (⟨"StreamFilters$PieceReader", "readLimit", "(I)Z"⟩, 12) := ⟨⟨by decide +kernel, by decide +kernel⟩, List.mem_of_getElem? (i := 102) (by decide +kernel), List.mem_of_getElem? (i := 229) (by decide +kernel), List.mem_of_getElem? (i := 230) (by decide +kernel)⟩
theorem lw_p4 : lw_okq (⟨"StreamFilters$PieceReader", "limitNamed", "(I)I"⟩, 12) := ⟨⟨by decide +kernel, by decide +kernel⟩, List.mem_of_getElem? (i := 102) (by decide +kernel), List.mem_of_getElem? (i := 233) (by decide +kernel), List.mem_of_getElem? (i := 234) (by decide +kernel)⟩
theorem lw_p5 : lw_okq (⟨"StreamFilters$PieceReader", "readNumber", "(I)Z"⟩, 12) := ⟨⟨by decide +kernel, by decide +kernel⟩, List.mem_of_getElem? (i := 102) (by decide +kernel), List.mem_of_getElem? (i := 293) (by decide +kernel), List.mem_of_getElem? (i := 294) (by decide +kernel)⟩
theorem lw_p6 : lw_okq (⟨"StreamFilters$PieceReader", "readClass", "()Z"⟩, 12) := ⟨⟨by decide +kernel, by decide +kernel⟩, List.mem_of_getElem? (i := 102) (by decide +kernel), List.mem_of_getElem? (i := 297) (by decide +kernel), List.mem_of_getElem? (i := 298) (by decide +kernel)⟩
theorem lw_p7 : lw_okq (⟨"StreamFilters$PieceReader", "readName", "()Z"⟩, 12) := ⟨⟨by decide +kernel, by decide +kernel⟩, List.mem_of_getElem? (i := 102) (by decide +kernel), List.mem_of_getElem? (i := 301) (by decide +kernel), List.mem_of_getElem? (i := 302) (by decide +kernel)⟩
theorem lw_p8 : lw_okq (⟨"StreamFilters$PieceReader", "countClasses", "()I"⟩, 12) := ⟨⟨by decide +kernel, by decide +kernel⟩, List.mem_of_getElem? (i := 102) (by decide +kernel), List.mem_of_getElem? (i := 315) (by decide +kernel), List.mem_of_getElem? (i := 316) (by decide +kernel)⟩
theorem lw_p9 : lw_okq (⟨"StreamFilters", "filterAt", "(I)LStreamFilters$Filter;"⟩, 4) := ⟨⟨by decide +kernel, by decide +kernel⟩, List.mem_of_getElem? (i := 19) (by decide +kernel), List.mem_of_getElem? (i := 409) (by decide +kernel), List.mem_of_getElem? (i := 410) (by decide +kernel)⟩
theorem lw_p10 : lw_okq (⟨"StreamFilters$TextFilter", "isAbove", "(II)Z"⟩, 6) := ⟨⟨by decide +kernel, by decide +kernel⟩, List.mem_of_getElem? (i := 357) (by decide +kernel), List.mem_of_getElem? (i := 534) (by decide +kernel), List.mem_of_getElem? (i := 535) (by decide +kernel)⟩
theorem lw_p11 : lw_okq (⟨"StreamFilters$TextFilter", "comparePatterns", "(LStreamFilters$Question;)I"⟩, 6) := ⟨⟨by decide +kernel, by decide +kernel⟩, List.mem_of_getElem? (i := 357) (by decide +kernel), List.mem_of_getElem? (i := 542) (by decide +kernel), List.mem_of_getElem? (i := 543) (by decide +kernel)⟩
theorem lw_p12 : lw_okq (⟨"StreamFilters$ClassPattern", "hasModule", "()Z"⟩, 7) := ⟨⟨by decide +kernel, by decide +kernel⟩, List.mem_of_getElem? (i := 327) (by decide +kernel), List.mem_of_getElem? (i := 554) (by decide +kernel), List.mem_of_getElem? (i := 555) (by decide +kernel)⟩
theorem lw_p13 : lw_okq (⟨"StreamFilters$ClassPattern", "beginsName", "(LStreamFilters$Signs;)Z"⟩, 7) := ⟨⟨by decide +kernel, by decide +kernel⟩, List.mem_of_getElem? (i := 327) (by decide +kernel), List.mem_of_getElem? (i := 563) (by decide +kernel), List.mem_of_getElem? (i := 564) (by decide +kernel)⟩
theorem lw_p14 : lw_okq (⟨"StreamFiltersModel", "out", "(II)Z"⟩, 38) := ⟨⟨by decide +kernel, by decide +kernel⟩, List.mem_of_getElem? (i := 609) (by decide +kernel), List.mem_of_getElem? (i := 734) (by decide +kernel), List.mem_of_getElem? (i := 735) (by decide +kernel)⟩
theorem lw_p15 : lw_okq (⟨"StreamFiltersModel", "lengthOf", "(I)I"⟩, 38) := ⟨⟨by decide +kernel, by decide +kernel⟩, List.mem_of_getElem? (i := 609) (by decide +kernel), List.mem_of_getElem? (i := 738) (by decide +kernel), List.mem_of_getElem? (i := 739) (by decide +kernel)⟩
def lw_privs_1 : List (MethodName × Nat) := [(⟨"StreamFilters", "bufferAt", "(I)LStreamFilters$Signs;"⟩, 4), (⟨"StreamFilters$PieceReader", "startOver", "()I"⟩, 12), (⟨"StreamFilters$PieceReader", "readNext", "()V"⟩, 12), (⟨"StreamFilters$PieceReader", "readLimit", "(I)Z"⟩, 12), (⟨"StreamFilters$PieceReader", "limitNamed", "(I)I"⟩, 12), (⟨"StreamFilters$PieceReader", "readNumber", "(I)Z"⟩, 12), (⟨"StreamFilters$PieceReader", "readClass", "()Z"⟩, 12), (⟨"StreamFilters$PieceReader", "readName", "()Z"⟩, 12), (⟨"StreamFilters$PieceReader", "countClasses", "()I"⟩, 12), (⟨"StreamFilters", "filterAt", "(I)LStreamFilters$Filter;"⟩, 4), (⟨"StreamFilters$TextFilter", "isAbove", "(II)Z"⟩, 6), (⟨"StreamFilters$TextFilter", "comparePatterns", "(LStreamFilters$Question;)I"⟩, 6), (⟨"StreamFilters$ClassPattern", "hasModule", "()Z"⟩, 7), (⟨"StreamFilters$ClassPattern", "beginsName", "(LStreamFilters$Signs;)Z"⟩, 7), (⟨"StreamFiltersModel", "out", "(II)Z"⟩, 38), (⟨"StreamFiltersModel", "lengthOf", "(I)I"⟩, 38)]
theorem lw_r1 : ∀ q ∈ lw_privs_1, lw_okq q := List.forall_mem_cons.mpr ⟨lw_p0, List.forall_mem_cons.mpr ⟨lw_p1, List.forall_mem_cons.mpr ⟨lw_p2, List.forall_mem_cons.mpr ⟨lw_p3, List.forall_mem_cons.mpr ⟨lw_p4, List.forall_mem_cons.mpr ⟨lw_p5, List.forall_mem_cons.mpr ⟨lw_p6, List.forall_mem_cons.mpr ⟨lw_p7, List.forall_mem_cons.mpr ⟨lw_p8, List.forall_mem_cons.mpr ⟨lw_p9, List.forall_mem_cons.mpr ⟨lw_p10, List.forall_mem_cons.mpr ⟨lw_p11, List.forall_mem_cons.mpr ⟨lw_p12, List.forall_mem_cons.mpr ⟨lw_p13, List.forall_mem_cons.mpr ⟨lw_p14, List.forall_mem_cons.mpr ⟨lw_p15, fun _ h => absurd h List.not_mem_nil⟩⟩⟩⟩⟩⟩⟩⟩⟩⟩⟩⟩⟩⟩⟩⟩
theorem lw_p16 : lw_okq (⟨"StreamFiltersModel", "add", "(II)V"⟩, 38) := ⟨⟨by decide +kernel, by decide +kernel⟩, List.mem_of_getElem? (i := 609) (by decide +kernel), List.mem_of_getElem? (i := 742) (by decide +kernel), List.mem_of_getElem? (i := 743) (by decide +kernel)⟩
theorem lw_p17 : lw_okq (⟨"StreamFiltersModel", "firstBad", "(II)I"⟩, 38) := ⟨⟨by decide +kernel, by decide +kernel⟩, List.mem_of_getElem? (i := 609) (by decide +kernel), List.mem_of_getElem? (i := 754) (by decide +kernel), List.mem_of_getElem? (i := 755) (by decide +kernel)⟩
theorem lw_p18 : lw_okq (⟨"StreamFiltersModel", "piece", "(II)I"⟩, 38) := ⟨⟨by decide +kernel, by decide +kernel⟩, List.mem_of_getElem? (i := 609) (by decide +kernel), List.mem_of_getElem? (i := 758) (by decide +kernel), List.mem_of_getElem? (i := 759) (by decide +kernel)⟩
theorem lw_p19 : lw_okq (⟨"StreamFiltersModel", "find", "(III)I"⟩, 38) := ⟨⟨by decide +kernel, by decide +kernel⟩, List.mem_of_getElem? (i := 609) (by decide +kernel), List.mem_of_getElem? (i := 762) (by decide +kernel), List.mem_of_getElem? (i := 763) (by decide +kernel)⟩
theorem lw_p20 : lw_okq (⟨"StreamFiltersModel", "limitPiece", "(III)I"⟩, 38) := ⟨⟨by decide +kernel, by decide +kernel⟩, List.mem_of_getElem? (i := 609) (by decide +kernel), List.mem_of_getElem? (i := 766) (by decide +kernel), List.mem_of_getElem? (i := 767) (by decide +kernel)⟩
theorem lw_p21 : lw_okq (⟨"StreamFiltersModel", "isName", "(III)Z"⟩, 38) := ⟨⟨by decide +kernel, by decide +kernel⟩, List.mem_of_getElem? (i := 609) (by decide +kernel), List.mem_of_getElem? (i := 770) (by decide +kernel), List.mem_of_getElem? (i := 771) (by decide +kernel)⟩
theorem lw_p22 : lw_okq (⟨"StreamFiltersModel", "make", "(IIIII)I"⟩, 38) := ⟨⟨by decide +kernel, by decide +kernel⟩, List.mem_of_getElem? (i := 609) (by decide +kernel), List.mem_of_getElem? (i := 778) (by decide +kernel), List.mem_of_getElem? (i := 779) (by decide +kernel)⟩
theorem lw_p23 : lw_okq (⟨"StreamFiltersModel", "patterns", "(I)I"⟩, 38) := ⟨⟨by decide +kernel, by decide +kernel⟩, List.mem_of_getElem? (i := 609) (by decide +kernel), List.mem_of_getElem? (i := 782) (by decide +kernel), List.mem_of_getElem? (i := 783) (by decide +kernel)⟩
theorem lw_p24 : lw_okq (⟨"StreamFiltersModel", "none", "(I)Z"⟩, 38) := ⟨⟨by decide +kernel, by decide +kernel⟩, List.mem_of_getElem? (i := 609) (by decide +kernel), List.mem_of_getElem? (i := 794) (by decide +kernel), List.mem_of_getElem? (i := 795) (by decide +kernel)⟩
theorem lw_p25 : lw_okq (⟨"StreamFiltersModel", "push", "(I)V"⟩, 38) := ⟨⟨by decide +kernel, by decide +kernel⟩, List.mem_of_getElem? (i := 609) (by decide +kernel), List.mem_of_getElem? (i := 822) (by decide +kernel), List.mem_of_getElem? (i := 823) (by decide +kernel)⟩
theorem lw_p26 : lw_okq (⟨"StreamFiltersModel", "goOn", "(III)V"⟩, 38) := ⟨⟨by decide +kernel, by decide +kernel⟩, List.mem_of_getElem? (i := 609) (by decide +kernel), List.mem_of_getElem? (i := 826) (by decide +kernel), List.mem_of_getElem? (i := 827) (by decide +kernel)⟩
theorem lw_p27 : lw_okq (⟨"StreamFiltersModel", "askText", "(IIII)I"⟩, 38) := ⟨⟨by decide +kernel, by decide +kernel⟩, List.mem_of_getElem? (i := 609) (by decide +kernel), List.mem_of_getElem? (i := 830) (by decide +kernel), List.mem_of_getElem? (i := 831) (by decide +kernel)⟩
theorem lw_p28 : lw_okq (⟨"StreamFiltersModel", "above", "(III)Z"⟩, 38) := ⟨⟨by decide +kernel, by decide +kernel⟩, List.mem_of_getElem? (i := 609) (by decide +kernel), List.mem_of_getElem? (i := 834) (by decide +kernel), List.mem_of_getElem? (i := 835) (by decide +kernel)⟩
theorem lw_p29 : lw_okq (⟨"StreamFiltersModel", "limit", "(II)I"⟩, 38) := ⟨⟨by decide +kernel, by decide +kernel⟩, List.mem_of_getElem? (i := 609) (by decide +kernel), List.mem_of_getElem? (i := 838) (by decide +kernel), List.mem_of_getElem? (i := 839) (by decide +kernel)⟩
theorem lw_p30 : lw_okq (⟨"StreamFiltersModel", "matches", "()Z"⟩, 38) := ⟨⟨by decide +kernel, by decide +kernel⟩, List.mem_of_getElem? (i := 609) (by decide +kernel), List.mem_of_getElem? (i := 842) (by decide +kernel), List.mem_of_getElem? (i := 843) (by decide +kernel)⟩
theorem lw_p31 : lw_okq (⟨"StreamFiltersModel", "nameBegins", "(II)Z"⟩, 38) := ⟨⟨by decide +kernel, by decide +kernel⟩, List.mem_of_getElem? (i := 609) (by decide +kernel), List.mem_of_getElem? (i := 846) (by decide +kernel), List.mem_of_getElem? (i := 847) (by decide +kernel)⟩
def lw_privs_2 : List (MethodName × Nat) := [(⟨"StreamFiltersModel", "add", "(II)V"⟩, 38), (⟨"StreamFiltersModel", "firstBad", "(II)I"⟩, 38), (⟨"StreamFiltersModel", "piece", "(II)I"⟩, 38), (⟨"StreamFiltersModel", "find", "(III)I"⟩, 38), (⟨"StreamFiltersModel", "limitPiece", "(III)I"⟩, 38), (⟨"StreamFiltersModel", "isName", "(III)Z"⟩, 38), (⟨"StreamFiltersModel", "make", "(IIIII)I"⟩, 38), (⟨"StreamFiltersModel", "patterns", "(I)I"⟩, 38), (⟨"StreamFiltersModel", "none", "(I)Z"⟩, 38), (⟨"StreamFiltersModel", "push", "(I)V"⟩, 38), (⟨"StreamFiltersModel", "goOn", "(III)V"⟩, 38), (⟨"StreamFiltersModel", "askText", "(IIII)I"⟩, 38), (⟨"StreamFiltersModel", "above", "(III)Z"⟩, 38), (⟨"StreamFiltersModel", "limit", "(II)I"⟩, 38), (⟨"StreamFiltersModel", "matches", "()Z"⟩, 38), (⟨"StreamFiltersModel", "nameBegins", "(II)Z"⟩, 38)]
theorem lw_r2 : ∀ q ∈ lw_privs_2, lw_okq q := List.forall_mem_cons.mpr ⟨lw_p16, List.forall_mem_cons.mpr ⟨lw_p17, List.forall_mem_cons.mpr ⟨lw_p18, List.forall_mem_cons.mpr ⟨lw_p19, List.forall_mem_cons.mpr ⟨lw_p20, List.forall_mem_cons.mpr ⟨lw_p21, List.forall_mem_cons.mpr ⟨lw_p22, List.forall_mem_cons.mpr ⟨lw_p23, List.forall_mem_cons.mpr ⟨lw_p24, List.forall_mem_cons.mpr ⟨lw_p25, List.forall_mem_cons.mpr ⟨lw_p26, List.forall_mem_cons.mpr ⟨lw_p27, List.forall_mem_cons.mpr ⟨lw_p28, List.forall_mem_cons.mpr ⟨lw_p29, List.forall_mem_cons.mpr ⟨lw_p30, List.forall_mem_cons.mpr ⟨lw_p31, fun _ h => absurd h List.not_mem_nil⟩⟩⟩⟩⟩⟩⟩⟩⟩⟩⟩⟩⟩⟩⟩⟩
def lw_privs : List (MethodName × Nat) := lw_privs_1 ++ (lw_privs_2)
def lw_tbl : List Cond := k2_sels lw_privs ++ tables_1
theorem lw_privs_ok : ∀ q ∈ lw_privs, lw_okq q := by
  show ∀ q ∈ lw_privs_1 ++ (lw_privs_2), lw_okq q
  exact List.forall_mem_append.mpr ⟨lw_r1, lw_r2⟩
/-- the words that calls carry -/
def TB : List Cond := lw_tbl.filter goodWord
def isE : Cond → Bool
  | .fieldLinkNest .. => true
  | .methodLinkNest .. => true
  | .declares _ => true
  | .castable .. => true
  | _ => false
/-- the words that every contract's start carries -/
def EB : List Cond := lw_tbl.filter isE
theorem tb_in {w : Cond} (h : w ∈ lw_tbl) (g : goodWord w = true) : w ∈ TB := List.mem_filter.mpr ⟨h, g⟩
theorem tb (i : Nat) {w : Cond} (h : tables_1[i]? = some w) (g : goodWord w = true) : w ∈ TB := tb_in (List.mem_append_right _ (List.mem_of_getElem? h)) g
theorem tbs (i : Nat) {w : Cond} (h : (k2_sels lw_privs)[i]? = some w) (g : goodWord w = true) : w ∈ TB := tb_in (List.mem_append_left _ (List.mem_of_getElem? h)) g
theorem eb (i : Nat) {w : Cond} (h : tables_1[i]? = some w) (g : isE w = true) : w ∈ EB := List.mem_filter.mpr ⟨List.mem_append_right _ (List.mem_of_getElem? h), g⟩
theorem tb_good {w : Cond} (h : w ∈ TB) : (w.onTables && w.keeps) = true ∨ ∃ ty, w = .arrayClass ty := good_of_word (List.mem_filter.mp h).2
end
section
/-! NAMES: classes, fields, methods: printed by program (wip/gen/make.py) out of the Statement and the listing -/
def R_SF : String := "StreamFilters"
def F_SF : u_T := fun k => match k with
  | 0 => ("StreamFilters", "patternSigns", "LStreamFilters$Signs;", true)
  | 1 => ("StreamFilters", "question", "LStreamFilters$Question;", true)
  | 2 => ("StreamFilters", "reader", "LStreamFilters$PieceReader;", true)
  | _ => ("StreamFilters", "filters", "[LStreamFilters$Filter;", true)
def R_Signs : String := "StreamFilters$Signs"
def F_Signs : u_T := fun k => match k with
  | 0 => ("StreamFilters$Signs", "row", "[C", true)
  | _ => ("StreamFilters$Signs", "length", "I", false)
def R_Question : String := "StreamFilters$Question"
def F_Question : u_T := fun k => match k with
  | 0 => ("StreamFilters$Question", "name", "LStreamFilters$Signs;", true)
  | 1 => ("StreamFilters$Question", "module", "LStreamFilters$Signs;", true)
  | 2 => ("StreamFilters$Question", "depth", "I", false)
  | 3 => ("StreamFilters$Question", "refs", "I", false)
  | 4 => ("StreamFilters$Question", "bytes", "I", false)
  | 5 => ("StreamFilters$Question", "sort", "I", false)
  | 6 => ("StreamFilters$Question", "dimensions", "I", false)
  | 7 => ("StreamFilters$Question", "length", "I", false)
  | 8 => ("StreamFilters$Question", "compared", "I", false)
  | 9 => ("StreamFilters$Question", "textsAsked", "I", false)
  | _ => ("StreamFilters$Question", "lastMatch", "I", false)
def R_PieceReader : String := "StreamFilters$PieceReader"
def F_PieceReader : u_T := fun k => match k with
  | 0 => ("StreamFilters$PieceReader", "text", "LStreamFilters$Signs;", true)
  | 1 => ("StreamFilters$PieceReader", "from", "I", false)
  | 2 => ("StreamFilters$PieceReader", "end", "I", false)
  | 3 => ("StreamFilters$PieceReader", "piece", "I", false)
  | 4 => ("StreamFilters$PieceReader", "limit", "I", false)
  | 5 => ("StreamFilters$PieceReader", "number", "I", false)
  | 6 => ("StreamFilters$PieceReader", "rejects", "Z", false)
  | 7 => ("StreamFilters$PieceReader", "shape", "I", false)
  | 8 => ("StreamFilters$PieceReader", "moduleFrom", "I", false)
  | 9 => ("StreamFilters$PieceReader", "moduleEnd", "I", false)
  | 10 => ("StreamFilters$PieceReader", "nameFrom", "I", false)
  | _ => ("StreamFilters$PieceReader", "nameEnd", "I", false)
def R_ClassPattern : String := "StreamFilters$ClassPattern"
def F_ClassPattern : u_T := fun k => match k with
  | 0 => ("StreamFilters$ClassPattern", "text", "LStreamFilters$Signs;", true)
  | 1 => ("StreamFilters$ClassPattern", "rejects", "Z", true)
  | 2 => ("StreamFilters$ClassPattern", "shape", "I", true)
  | 3 => ("StreamFilters$ClassPattern", "moduleFrom", "I", true)
  | 4 => ("StreamFilters$ClassPattern", "moduleEnd", "I", true)
  | 5 => ("StreamFilters$ClassPattern", "nameFrom", "I", true)
  | _ => ("StreamFilters$ClassPattern", "nameEnd", "I", true)
def R_TextFilter : String := "StreamFilters$TextFilter"
def F_TextFilter : u_T := fun k => match k with
  | 0 => ("StreamFilters$Filter", "kind", "I", true)
  | 1 => ("StreamFilters$Filter", "leaves", "I", true)
  | 2 => ("StreamFilters$Filter", "high", "I", true)
  | 3 => ("StreamFilters$TextFilter", "looksAtBases", "Z", true)
  | 4 => ("StreamFilters$TextFilter", "limits", "[I", true)
  | _ => ("StreamFilters$TextFilter", "patterns", "[LStreamFilters$ClassPattern;", true)
def R_JoinedFilter : String := "StreamFilters$JoinedFilter"
def F_JoinedFilter : u_T := fun k => match k with
  | 0 => ("StreamFilters$Filter", "kind", "I", true)
  | 1 => ("StreamFilters$Filter", "leaves", "I", true)
  | 2 => ("StreamFilters$Filter", "high", "I", true)
  | 3 => ("StreamFilters$JoinedFilter", "first", "LStreamFilters$Filter;", true)
  | _ => ("StreamFilters$JoinedFilter", "second", "LStreamFilters$Filter;", true)
def R_StrictFilter : String := "StreamFilters$StrictFilter"
def F_StrictFilter : u_T := fun k => match k with
  | 0 => ("StreamFilters$Filter", "kind", "I", true)
  | 1 => ("StreamFilters$Filter", "leaves", "I", true)
  | 2 => ("StreamFilters$Filter", "high", "I", true)
  | 3 => ("StreamFilters$StrictFilter", "inner", "LStreamFilters$Filter;", true)
  | _ => ("StreamFilters$StrictFilter", "countsAll", "Z", true)
def R_DefaultFilter : String := "StreamFilters$DefaultFilter"
def F_DefaultFilter : u_T := fun k => match k with
  | 0 => ("StreamFilters$Filter", "kind", "I", true)
  | 1 => ("StreamFilters$Filter", "leaves", "I", true)
  | 2 => ("StreamFilters$Filter", "high", "I", true)
  | 3 => ("StreamFilters$DefaultFilter", "inner", "LStreamFilters$Filter;", true)
  | _ => ("StreamFilters$DefaultFilter", "given", "I", true)
def R_OnlyFilter : String := "StreamFilters$OnlyFilter"
def F_OnlyFilter : u_T := fun k => match k with
  | 0 => ("StreamFilters$Filter", "kind", "I", true)
  | 1 => ("StreamFilters$Filter", "leaves", "I", true)
  | 2 => ("StreamFilters$Filter", "high", "I", true)
  | 3 => ("StreamFilters$OnlyFilter", "inner", "LStreamFilters$Filter;", true)
  | _ => ("StreamFilters$OnlyFilter", "beginning", "LStreamFilters$Signs;", true)
def R_SM : String := "StreamFiltersModel"
def F_SM : u_T := fun k => match k with
  | 0 => ("StreamFiltersModel", "signs", "[I", true)
  | 1 => ("StreamFiltersModel", "typed", "I", false)
  | 2 => ("StreamFiltersModel", "patternAt", "I", false)
  | 3 => ("StreamFiltersModel", "name", "[I", true)
  | 4 => ("StreamFiltersModel", "nameLength", "I", false)
  | 5 => ("StreamFiltersModel", "module", "[I", true)
  | 6 => ("StreamFiltersModel", "moduleLength", "I", false)
  | 7 => ("StreamFiltersModel", "sort", "[I", true)
  | 8 => ("StreamFiltersModel", "one", "[I", true)
  | 9 => ("StreamFiltersModel", "two", "[I", true)
  | 10 => ("StreamFiltersModel", "textAt", "[I", true)
  | 11 => ("StreamFiltersModel", "textLength", "[I", true)
  | 12 => ("StreamFiltersModel", "mark", "[I", true)
  | 13 => ("StreamFiltersModel", "leaves", "[I", true)
  | 14 => ("StreamFiltersModel", "high", "[I", true)
  | 15 => ("StreamFiltersModel", "made", "I", false)
  | 16 => ("StreamFiltersModel", "slot", "[I", true)
  | 17 => ("StreamFiltersModel", "streamDepth", "I", false)
  | 18 => ("StreamFiltersModel", "streamRefs", "I", false)
  | 19 => ("StreamFiltersModel", "streamBytes", "I", false)
  | 20 => ("StreamFiltersModel", "compared", "I", false)
  | 21 => ("StreamFiltersModel", "asked", "I", false)
  | 22 => ("StreamFiltersModel", "matched", "I", false)
  | 23 => ("StreamFiltersModel", "pieceFrom", "I", false)
  | 24 => ("StreamFiltersModel", "pieceTo", "I", false)
  | 25 => ("StreamFiltersModel", "limitName", "I", false)
  | 26 => ("StreamFiltersModel", "limitNumber", "I", false)
  | 27 => ("StreamFiltersModel", "rejects", "Z", false)
  | 28 => ("StreamFiltersModel", "modFrom", "I", false)
  | 29 => ("StreamFiltersModel", "modTo", "I", false)
  | 30 => ("StreamFiltersModel", "qFrom", "I", false)
  | 31 => ("StreamFiltersModel", "qTo", "I", false)
  | 32 => ("StreamFiltersModel", "shape", "I", false)
  | 33 => ("StreamFiltersModel", "node", "[I", true)
  | 34 => ("StreamFiltersModel", "step", "[I", true)
  | 35 => ("StreamFiltersModel", "kept", "[I", true)
  | 36 => ("StreamFiltersModel", "top", "I", false)
  | _ => ("StreamFiltersModel", "ret", "I", false)
abbrev classes : List vw_C := [(R_SF, F_SF, 4), (R_Signs, F_Signs, 2), (R_Question, F_Question, 11), (R_PieceReader, F_PieceReader, 12), (R_ClassPattern, F_ClassPattern, 7), (R_TextFilter, F_TextFilter, 6), (R_JoinedFilter, F_JoinedFilter, 5), (R_StrictFilter, F_StrictFilter, 5), (R_DefaultFilter, F_DefaultFilter, 5), (R_OnlyFilter, F_OnlyFilter, 5), (R_SM, F_SM, 38)]
abbrev GG : Type := va_G × (Nat → ClassId) × (Nat → Nat) × (Nat → Nat)
def Gt (G : GG) : List (ClassId × FieldType) := [(G.2.1 0, .int), (G.2.1 1, .char), (G.2.1 2, (.object "StreamFilters$Filter")), (G.2.1 3, (.object "StreamFilters$ClassPattern")), (G.2.1 4, .byte)]
def AOs : List String := ["StreamFilters$Filter", "StreamFilters$ClassPattern"]
def NCs : List (String × String) := [("StreamFilters$JoinedFilter", "StreamFilters$TextFilter"), ("StreamFilters$StrictFilter", "StreamFilters$TextFilter"), ("StreamFilters$DefaultFilter", "StreamFilters$TextFilter"), ("StreamFilters$OnlyFilter", "StreamFilters$TextFilter")]
-- the texts: their lengths, their bytes; where they are named
def nTx : Nat := 7
def lenTx : List Nat := [8, 7, 8, 8, 3, 2, 1]
def bytTx : List (List Int32) := [[109, 97, 120, 100, 101, 112, 116, 104], [109, 97, 120, 114, 101, 102, 115], [109, 97, 120, 98, 121, 116, 101, 115], [109, 97, 120, 97, 114, 114, 97, 121], [46, 42, 42], [46, 42], [42]]
def SRs : List (String × Nat × String × Nat) := [("StreamFilters$PieceReader", 82, "maxdepth", 0), ("StreamFilters$PieceReader", 88, "maxrefs", 1), ("StreamFilters$PieceReader", 90, "maxbytes", 2), ("StreamFilters$PieceReader", 92, "maxarray", 3), ("StreamFilters$PieceReader", 110, ".**", 4), ("StreamFilters$PieceReader", 124, ".*", 5), ("StreamFilters$PieceReader", 126, "*", 6)]
abbrev CI_SF : Nat := 0
abbrev CI_Signs : Nat := 1
abbrev CI_Question : Nat := 2
abbrev CI_PieceReader : Nat := 3
abbrev CI_ClassPattern : Nat := 4
abbrev CI_TextFilter : Nat := 5
abbrev CI_JoinedFilter : Nat := 6
abbrev CI_StrictFilter : Nat := 7
abbrev CI_DefaultFilter : Nat := 8
abbrev CI_OnlyFilter : Nat := 9
abbrev CI_SM : Nat := 10
abbrev b_SF_init : ByteArray := prog_1_method_1_code
def y_SF_init : MethodName := ⟨"StreamFilters", "<init>", "()V"⟩
abbrev b_Object_init : ByteArray := object_method_1_code
def y_Object_init : MethodName := ⟨"java/lang/Object", "<init>", "()V"⟩
abbrev b_Signs_init : ByteArray := prog_9_method_1_code
def y_Signs_init : MethodName := ⟨"StreamFilters$Signs", "<init>", "(I)V"⟩
abbrev b_Question_init : ByteArray := prog_8_method_1_code
def y_Question_init : MethodName := ⟨"StreamFilters$Question", "<init>", "()V"⟩
abbrev b_PieceReader_init : ByteArray := prog_7_method_1_code
def y_PieceReader_init : MethodName := ⟨"StreamFilters$PieceReader", "<init>", "(LStreamFilters$Signs;)V"⟩
abbrev b_SF_type : ByteArray := prog_1_method_2_code
def y_SF_type : MethodName := ⟨"StreamFilters", "type", "(IJ)I"⟩
abbrev b_SF_bufferAt : ByteArray := prog_1_method_17_code
def y_SF_bufferAt : MethodName := ⟨"StreamFilters", "bufferAt", "(I)LStreamFilters$Signs;"⟩
abbrev b_SF_countSigns : ByteArray := prog_1_method_21_code
def y_SF_countSigns : MethodName := ⟨"StreamFilters", "countSigns", "(J)I"⟩
abbrev b_SF_byteAt : ByteArray := prog_1_method_20_code
def y_SF_byteAt : MethodName := ⟨"StreamFilters", "byteAt", "(JI)I"⟩
abbrev b_Signs_hasRoomFor : ByteArray := prog_9_method_3_code
def y_Signs_hasRoomFor : MethodName := ⟨"StreamFilters$Signs", "hasRoomFor", "(I)Z"⟩
abbrev b_Signs_append : ByteArray := prog_9_method_4_code
def y_Signs_append : MethodName := ⟨"StreamFilters$Signs", "append", "(C)V"⟩
abbrev b_Signs_length : ByteArray := prog_9_method_2_code
def y_Signs_length : MethodName := ⟨"StreamFilters$Signs", "length", "()I"⟩
abbrev b_SF_clear : ByteArray := prog_1_method_3_code
def y_SF_clear : MethodName := ⟨"StreamFilters", "clear", "(I)I"⟩
abbrev b_Signs_takeAll : ByteArray := prog_9_method_5_code
def y_Signs_takeAll : MethodName := ⟨"StreamFilters$Signs", "takeAll", "()I"⟩
abbrev b_SF_read : ByteArray := prog_1_method_4_code
def y_SF_read : MethodName := ⟨"StreamFilters", "read", "(IZ)I"⟩
abbrev b_SF_isPlace : ByteArray := prog_1_method_18_code
def y_SF_isPlace : MethodName := ⟨"StreamFilters", "isPlace", "(I)Z"⟩
abbrev b_PieceReader_firstBroken : ByteArray := prog_7_method_2_code
def y_PieceReader_firstBroken : MethodName := ⟨"StreamFilters$PieceReader", "firstBroken", "()I"⟩
abbrev b_PieceReader_startOver : ByteArray := prog_7_method_5_code
def y_PieceReader_startOver : MethodName := ⟨"StreamFilters$PieceReader", "startOver", "()I"⟩
abbrev b_Signs_at : ByteArray := prog_9_method_6_code
def y_Signs_at : MethodName := ⟨"StreamFilters$Signs", "at", "(I)I"⟩
abbrev b_PieceReader_readNext : ByteArray := prog_7_method_6_code
def y_PieceReader_readNext : MethodName := ⟨"StreamFilters$PieceReader", "readNext", "()V"⟩
abbrev b_Signs_find : ByteArray := prog_9_method_8_code
def y_Signs_find : MethodName := ⟨"StreamFilters$Signs", "find", "(CII)I"⟩
abbrev b_PieceReader_readLimit : ByteArray := prog_7_method_7_code
def y_PieceReader_readLimit : MethodName := ⟨"StreamFilters$PieceReader", "readLimit", "(I)Z"⟩
abbrev b_PieceReader_limitNamed : ByteArray := prog_7_method_8_code
def y_PieceReader_limitNamed : MethodName := ⟨"StreamFilters$PieceReader", "limitNamed", "(I)I"⟩
abbrev b_Signs_hasWord : ByteArray := prog_9_method_11_code
def y_Signs_hasWord : MethodName := ⟨"StreamFilters$Signs", "hasWord", "(Ljava/lang/String;II)Z"⟩
abbrev b_String_length : ByteArray := prog_15_method_54_code
def y_String_length : MethodName := ⟨"java/lang/String", "length", "()I"⟩
abbrev b_String_coder : ByteArray := prog_15_method_152_code
def y_String_coder : MethodName := ⟨"java/lang/String", "coder", "()B"⟩
abbrev b_String_charAt : ByteArray := prog_15_method_56_code
def y_String_charAt : MethodName := ⟨"java/lang/String", "charAt", "(I)C"⟩
abbrev b_String_isLatin1 : ByteArray := prog_15_method_154_code
def y_String_isLatin1 : MethodName := ⟨"java/lang/String", "isLatin1", "()Z"⟩
abbrev b_Latin1_charAt : ByteArray := prog_16_method_2_code
def y_Latin1_charAt : MethodName := ⟨"java/lang/StringLatin1", "charAt", "([BI)C"⟩
abbrev b_String_checkIndex : ByteArray := prog_15_method_155_code
def y_String_checkIndex : MethodName := ⟨"java/lang/String", "checkIndex", "(II)V"⟩
abbrev b_Precond_checkIndex : ByteArray := prog_18_method_11_code
def y_Precond_checkIndex : MethodName := ⟨"jdk/internal/util/Preconditions", "checkIndex", "(IILjava/util/function/BiFunction;)I"⟩
abbrev b_UTF16_charAt : ByteArray := prog_17_method_83_code
def y_UTF16_charAt : MethodName := ⟨"java/lang/StringUTF16", "charAt", "([BI)C"⟩
abbrev b_UTF16_checkIndex : ByteArray := prog_17_method_91_code
def y_UTF16_checkIndex : MethodName := ⟨"java/lang/StringUTF16", "checkIndex", "(I[B)V"⟩
abbrev b_UTF16_length : ByteArray := prog_17_method_6_code
def y_UTF16_length : MethodName := ⟨"java/lang/StringUTF16", "length", "([B)I"⟩
abbrev b_UTF16_getChar : ByteArray := prog_17_method_5_code
def y_UTF16_getChar : MethodName := ⟨"java/lang/StringUTF16", "getChar", "([BI)C"⟩
abbrev b_PieceReader_readNumber : ByteArray := prog_7_method_9_code
def y_PieceReader_readNumber : MethodName := ⟨"StreamFilters$PieceReader", "readNumber", "(I)Z"⟩
abbrev b_PieceReader_readClass : ByteArray := prog_7_method_10_code
def y_PieceReader_readClass : MethodName := ⟨"StreamFilters$PieceReader", "readClass", "()Z"⟩
abbrev b_PieceReader_readName : ByteArray := prog_7_method_11_code
def y_PieceReader_readName : MethodName := ⟨"StreamFilters$PieceReader", "readName", "()Z"⟩
abbrev b_Math_max : ByteArray := prog_14_method_65_code
def y_Math_max : MethodName := ⟨"java/lang/Math", "max", "(II)I"⟩
abbrev b_PieceReader_makeFilter : ByteArray := prog_7_method_3_code
def y_PieceReader_makeFilter : MethodName := ⟨"StreamFilters$PieceReader", "makeFilter", "(Z)LStreamFilters$TextFilter;"⟩
abbrev b_PieceReader_countClasses : ByteArray := prog_7_method_4_code
def y_PieceReader_countClasses : MethodName := ⟨"StreamFilters$PieceReader", "countClasses", "()I"⟩
abbrev b_Signs_copy : ByteArray := prog_9_method_7_code
def y_Signs_copy : MethodName := ⟨"StreamFilters$Signs", "copy", "()LStreamFilters$Signs;"⟩
abbrev b_ClassPattern_init : ByteArray := prog_2_method_1_code
def y_ClassPattern_init : MethodName := ⟨"StreamFilters$ClassPattern", "<init>", "(LStreamFilters$Signs;LStreamFilters$PieceReader;)V"⟩
abbrev b_TextFilter_init : ByteArray := prog_11_method_1_code
def y_TextFilter_init : MethodName := ⟨"StreamFilters$TextFilter", "<init>", "(Z[I[LStreamFilters$ClassPattern;)V"⟩
abbrev b_Filter_init : ByteArray := prog_4_method_1_code
def y_Filter_init : MethodName := ⟨"StreamFilters$Filter", "<init>", "(III)V"⟩
abbrev b_TextFilter_countPatterns : ByteArray := prog_11_method_2_code
def y_TextFilter_countPatterns : MethodName := ⟨"StreamFilters$TextFilter", "countPatterns", "()I"⟩
abbrev b_SF_fault : ByteArray := prog_1_method_5_code
def y_SF_fault : MethodName := ⟨"StreamFilters", "fault", "()I"⟩
abbrev b_SF_join : ByteArray := prog_1_method_6_code
def y_SF_join : MethodName := ⟨"StreamFilters", "join", "(III)I"⟩
abbrev b_SF_filterAt : ByteArray := prog_1_method_19_code
def y_SF_filterAt : MethodName := ⟨"StreamFilters", "filterAt", "(I)LStreamFilters$Filter;"⟩
abbrev b_JoinedFilter_init : ByteArray := prog_5_method_1_code
def y_JoinedFilter_init : MethodName := ⟨"StreamFilters$JoinedFilter", "<init>", "(LStreamFilters$Filter;LStreamFilters$Filter;)V"⟩
abbrev b_SF_strict : ByteArray := prog_1_method_7_code
def y_SF_strict : MethodName := ⟨"StreamFilters", "strict", "(IIZ)I"⟩
abbrev b_StrictFilter_init : ByteArray := prog_10_method_1_code
def y_StrictFilter_init : MethodName := ⟨"StreamFilters$StrictFilter", "<init>", "(LStreamFilters$Filter;Z)V"⟩
abbrev b_SF_otherwise : ByteArray := prog_1_method_8_code
def y_SF_otherwise : MethodName := ⟨"StreamFilters", "otherwise", "(III)I"⟩
abbrev b_DefaultFilter_init : ByteArray := prog_3_method_1_code
def y_DefaultFilter_init : MethodName := ⟨"StreamFilters$DefaultFilter", "<init>", "(LStreamFilters$Filter;I)V"⟩
abbrev b_SF_only : ByteArray := prog_1_method_9_code
def y_SF_only : MethodName := ⟨"StreamFilters", "only", "(II)I"⟩
abbrev b_OnlyFilter_init : ByteArray := prog_6_method_1_code
def y_OnlyFilter_init : MethodName := ⟨"StreamFilters$OnlyFilter", "<init>", "(LStreamFilters$Filter;LStreamFilters$Signs;)V"⟩
abbrev b_SF_drop : ByteArray := prog_1_method_10_code
def y_SF_drop : MethodName := ⟨"StreamFilters", "drop", "(I)I"⟩
abbrev b_SF_stream : ByteArray := prog_1_method_11_code
def y_SF_stream : MethodName := ⟨"StreamFilters", "stream", "(III)I"⟩
abbrev b_SF_ask : ByteArray := prog_1_method_12_code
def y_SF_ask : MethodName := ⟨"StreamFilters", "ask", "(IIII)I"⟩
abbrev b_SF_isQuestion : ByteArray := prog_1_method_22_code
def y_SF_isQuestion : MethodName := ⟨"StreamFilters", "isQuestion", "(II)Z"⟩
abbrev b_Question_begin : ByteArray := prog_8_method_2_code
def y_Question_begin : MethodName := ⟨"StreamFilters$Question", "begin", "(III)V"⟩
abbrev b_DefaultFilter_answer : ByteArray := prog_3_method_2_code
def y_DefaultFilter_answer : MethodName := ⟨"StreamFilters$DefaultFilter", "answer", "(LStreamFilters$Question;)I"⟩
abbrev b_JoinedFilter_answer : ByteArray := prog_5_method_2_code
def y_JoinedFilter_answer : MethodName := ⟨"StreamFilters$JoinedFilter", "answer", "(LStreamFilters$Question;)I"⟩
abbrev b_OnlyFilter_answer : ByteArray := prog_6_method_2_code
def y_OnlyFilter_answer : MethodName := ⟨"StreamFilters$OnlyFilter", "answer", "(LStreamFilters$Question;)I"⟩
abbrev b_Signs_beginsWithPart : ByteArray := prog_9_method_9_code
def y_Signs_beginsWithPart : MethodName := ⟨"StreamFilters$Signs", "beginsWithPart", "(LStreamFilters$Signs;II)Z"⟩
abbrev b_StrictFilter_answer : ByteArray := prog_10_method_2_code
def y_StrictFilter_answer : MethodName := ⟨"StreamFilters$StrictFilter", "answer", "(LStreamFilters$Question;)I"⟩
abbrev b_TextFilter_answer : ByteArray := prog_11_method_5_code
def y_TextFilter_answer : MethodName := ⟨"StreamFilters$TextFilter", "answer", "(LStreamFilters$Question;)I"⟩
abbrev b_TextFilter_isAbove : ByteArray := prog_11_method_6_code
def y_TextFilter_isAbove : MethodName := ⟨"StreamFilters$TextFilter", "isAbove", "(II)Z"⟩
abbrev b_TextFilter_limitAt : ByteArray := prog_11_method_4_code
def y_TextFilter_limitAt : MethodName := ⟨"StreamFilters$TextFilter", "limitAt", "(I)I"⟩
abbrev b_TextFilter_comparePatterns : ByteArray := prog_11_method_7_code
def y_TextFilter_comparePatterns : MethodName := ⟨"StreamFilters$TextFilter", "comparePatterns", "(LStreamFilters$Question;)I"⟩
abbrev b_TextFilter_patternAt : ByteArray := prog_11_method_3_code
def y_TextFilter_patternAt : MethodName := ⟨"StreamFilters$TextFilter", "patternAt", "(I)LStreamFilters$ClassPattern;"⟩
abbrev b_ClassPattern_matches : ByteArray := prog_2_method_4_code
def y_ClassPattern_matches : MethodName := ⟨"StreamFilters$ClassPattern", "matches", "(LStreamFilters$Question;)Z"⟩
abbrev b_ClassPattern_hasModule : ByteArray := prog_2_method_5_code
def y_ClassPattern_hasModule : MethodName := ⟨"StreamFilters$ClassPattern", "hasModule", "()Z"⟩
abbrev b_Signs_isPart : ByteArray := prog_9_method_10_code
def y_Signs_isPart : MethodName := ⟨"StreamFilters$Signs", "isPart", "(LStreamFilters$Signs;II)Z"⟩
abbrev b_ClassPattern_beginsName : ByteArray := prog_2_method_6_code
def y_ClassPattern_beginsName : MethodName := ⟨"StreamFilters$ClassPattern", "beginsName", "(LStreamFilters$Signs;)Z"⟩
abbrev b_ClassPattern_hasDotBehind : ByteArray := prog_2_method_7_code
def y_ClassPattern_hasDotBehind : MethodName := ⟨"StreamFilters$ClassPattern", "hasDotBehind", "(LStreamFilters$Signs;I)Z"⟩
abbrev b_ClassPattern_verdict : ByteArray := prog_2_method_2_code
def y_ClassPattern_verdict : MethodName := ⟨"StreamFilters$ClassPattern", "verdict", "()I"⟩
abbrev b_SF_trace : ByteArray := prog_1_method_13_code
def y_SF_trace : MethodName := ⟨"StreamFilters", "trace", "(I)I"⟩
abbrev b_SF_filter : ByteArray := prog_1_method_14_code
def y_SF_filter : MethodName := ⟨"StreamFilters", "filter", "(II)I"⟩
abbrev b_SF_tellText : ByteArray := prog_1_method_23_code
def y_SF_tellText : MethodName := ⟨"StreamFilters", "tellText", "(LStreamFilters$TextFilter;I)I"⟩
abbrev b_SF_pattern : ByteArray := prog_1_method_15_code
def y_SF_pattern : MethodName := ⟨"StreamFilters", "pattern", "(IIZ)I"⟩
abbrev b_ClassPattern_fullShape : ByteArray := prog_2_method_3_code
def y_ClassPattern_fullShape : MethodName := ⟨"StreamFilters$ClassPattern", "fullShape", "()I"⟩
abbrev b_SF_sign : ByteArray := prog_1_method_16_code
def y_SF_sign : MethodName := ⟨"StreamFilters", "sign", "(II)I"⟩
abbrev b_SM_init : ByteArray := prog_13_method_1_code
def y_SM_init : MethodName := ⟨"StreamFiltersModel", "<init>", "()V"⟩
abbrev b_SM_type : ByteArray := prog_13_method_4_code
def y_SM_type : MethodName := ⟨"StreamFiltersModel", "type", "(IJ)I"⟩
abbrev b_SM_out : ByteArray := prog_13_method_2_code
def y_SM_out : MethodName := ⟨"StreamFiltersModel", "out", "(II)Z"⟩
abbrev b_SM_lengthOf : ByteArray := prog_13_method_3_code
def y_SM_lengthOf : MethodName := ⟨"StreamFiltersModel", "lengthOf", "(I)I"⟩
abbrev b_SM_add : ByteArray := prog_13_method_5_code
def y_SM_add : MethodName := ⟨"StreamFiltersModel", "add", "(II)V"⟩
abbrev b_SM_clear : ByteArray := prog_13_method_6_code
def y_SM_clear : MethodName := ⟨"StreamFiltersModel", "clear", "(I)I"⟩
abbrev b_SM_read : ByteArray := prog_13_method_15_code
def y_SM_read : MethodName := ⟨"StreamFiltersModel", "read", "(IZ)I"⟩
abbrev b_SM_firstBad : ByteArray := prog_13_method_11_code
def y_SM_firstBad : MethodName := ⟨"StreamFiltersModel", "firstBad", "(II)I"⟩
abbrev b_SM_piece : ByteArray := prog_13_method_10_code
def y_SM_piece : MethodName := ⟨"StreamFiltersModel", "piece", "(II)I"⟩
abbrev b_SM_find : ByteArray := prog_13_method_7_code
def y_SM_find : MethodName := ⟨"StreamFiltersModel", "find", "(III)I"⟩
abbrev b_SM_limitPiece : ByteArray := prog_13_method_9_code
def y_SM_limitPiece : MethodName := ⟨"StreamFiltersModel", "limitPiece", "(III)I"⟩
abbrev b_SM_isName : ByteArray := prog_13_method_8_code
def y_SM_isName : MethodName := ⟨"StreamFiltersModel", "isName", "(III)Z"⟩
abbrev b_SM_make : ByteArray := prog_13_method_14_code
def y_SM_make : MethodName := ⟨"StreamFiltersModel", "make", "(IIIII)I"⟩
abbrev b_SM_patterns : ByteArray := prog_13_method_12_code
def y_SM_patterns : MethodName := ⟨"StreamFiltersModel", "patterns", "(I)I"⟩
abbrev b_SM_fault : ByteArray := prog_13_method_16_code
def y_SM_fault : MethodName := ⟨"StreamFiltersModel", "fault", "()I"⟩
abbrev b_SM_join : ByteArray := prog_13_method_18_code
def y_SM_join : MethodName := ⟨"StreamFiltersModel", "join", "(III)I"⟩
abbrev b_SM_none : ByteArray := prog_13_method_17_code
def y_SM_none : MethodName := ⟨"StreamFiltersModel", "none", "(I)Z"⟩
abbrev b_SM_strict : ByteArray := prog_13_method_19_code
def y_SM_strict : MethodName := ⟨"StreamFiltersModel", "strict", "(IIZ)I"⟩
abbrev b_SM_otherwise : ByteArray := prog_13_method_20_code
def y_SM_otherwise : MethodName := ⟨"StreamFiltersModel", "otherwise", "(III)I"⟩
abbrev b_SM_only : ByteArray := prog_13_method_21_code
def y_SM_only : MethodName := ⟨"StreamFiltersModel", "only", "(II)I"⟩
abbrev b_SM_drop : ByteArray := prog_13_method_22_code
def y_SM_drop : MethodName := ⟨"StreamFiltersModel", "drop", "(I)I"⟩
abbrev b_SM_stream : ByteArray := prog_13_method_23_code
def y_SM_stream : MethodName := ⟨"StreamFiltersModel", "stream", "(III)I"⟩
abbrev b_SM_ask : ByteArray := prog_13_method_30_code
def y_SM_ask : MethodName := ⟨"StreamFiltersModel", "ask", "(IIII)I"⟩
abbrev b_SM_push : ByteArray := prog_13_method_28_code
def y_SM_push : MethodName := ⟨"StreamFiltersModel", "push", "(I)V"⟩
abbrev b_SM_goOn : ByteArray := prog_13_method_29_code
def y_SM_goOn : MethodName := ⟨"StreamFiltersModel", "goOn", "(III)V"⟩
abbrev b_SM_askText : ByteArray := prog_13_method_27_code
def y_SM_askText : MethodName := ⟨"StreamFiltersModel", "askText", "(IIII)I"⟩
abbrev b_SM_above : ByteArray := prog_13_method_26_code
def y_SM_above : MethodName := ⟨"StreamFiltersModel", "above", "(III)Z"⟩
abbrev b_SM_limit : ByteArray := prog_13_method_13_code
def y_SM_limit : MethodName := ⟨"StreamFiltersModel", "limit", "(II)I"⟩
abbrev b_SM_matches : ByteArray := prog_13_method_25_code
def y_SM_matches : MethodName := ⟨"StreamFiltersModel", "matches", "()Z"⟩
abbrev b_SM_nameBegins : ByteArray := prog_13_method_24_code
def y_SM_nameBegins : MethodName := ⟨"StreamFiltersModel", "nameBegins", "(II)Z"⟩
abbrev b_SM_trace : ByteArray := prog_13_method_31_code
def y_SM_trace : MethodName := ⟨"StreamFiltersModel", "trace", "(I)I"⟩
abbrev b_SM_filter : ByteArray := prog_13_method_32_code
def y_SM_filter : MethodName := ⟨"StreamFiltersModel", "filter", "(II)I"⟩
abbrev b_SM_pattern : ByteArray := prog_13_method_33_code
def y_SM_pattern : MethodName := ⟨"StreamFiltersModel", "pattern", "(IIZ)I"⟩
abbrev b_SM_sign : ByteArray := prog_13_method_34_code
def y_SM_sign : MethodName := ⟨"StreamFiltersModel", "sign", "(II)I"⟩
end
section
/-! THE WORLD AS A MAP: what each cell that the system made holds; rows of the kit told over it. -/
abbrev Wd : Type := Nat → Option va_E
def mw (D : va_G) (A : Nat → Prop) (f : Wd) (H : Heap) : Prop := ∃ ws : va_W, va_P D classes ws H ∧ va_D A ws ∧ ∀ (a : Nat) (e : va_E), f a = some e ↔ (a, e) ∈ ws
theorem mw.at {D : va_G} {A : Nat → Prop} {f : Wd} {H : Heap} {a : Nat} {e : va_E} (h : mw D A f H) (he : f a = some e) : va_at D classes (a, e) H := by
  obtain ⟨ws, hP, -, hf⟩ := h
  obtain ⟨k, hk⟩ := List.getElem?_of_mem ((hf a e).mp he)
  exact hP k _ hk
theorem mw.one {D : va_G} {A : Nat → Prop} {f : Wd} {H : Heap} {a : Nat} {e : va_E} (h : mw D A f H) (he : f a = some e) : va_P D classes [(a, e)] H := by
  intro k q hk
  match k, hk with
  | 0, hk => cases hk; exact h.at he
  | k + 1, hk => simp at hk
theorem mw.inA {D : va_G} {A : Nat → Prop} {f : Wd} {H : Heap} {a : Nat} {e : va_E} (h : mw D A f H) (he : f a = some e) : A a := by
  obtain ⟨ws, -, hD, hf⟩ := h
  obtain ⟨k, hk⟩ := List.getElem?_of_mem ((hf a e).mp he)
  exact hD.2 k _ hk
theorem mw.lt {D : va_G} {A : Nat → Prop} {f : Wd} {H : Heap} {a : Nat} {e : va_E} (h : mw D A f H) (he : f a = some e) : a < H.size := (h.at he).lt
theorem mw.weaken {D : va_G} {A B : Nat → Prop} {f : Wd} {H : Heap} (h : mw D A f H) (hAB : ∀ (a : Nat) (e : va_E), f a = some e → A a → B a) : mw D B f H := by
  obtain ⟨ws, hP, hD, hf⟩ := h
  exact ⟨ws, hP, hD.weaken (fun k q hk hA => hAB q.1 q.2 ((hf _ _).mpr (List.mem_of_getElem? hk)) hA), hf⟩
theorem mw_set {A : Nat → Prop} {ws : va_W} {f : Wd} {k a : Nat} {e0 e1 : va_E} (hD : va_D A ws) (hk : ws[k]? = some (a, e0)) (hf : ∀ (a : Nat) (e : va_E), f a = some e ↔ (a, e) ∈ ws) : ∀ (b : Nat) (e : va_E), va_up f a (some e1) b = some e ↔ (b, e) ∈ ws.set k (a, e1) := by
  have hl := (List.getElem?_eq_some_iff.mp hk).1
  intro b e
  rw [List.mem_iff_getElem?]
  by_cases hb : b = a
  · subst hb
    rw [va_up_self]
    constructor
    · intro h
      cases h
      exact ⟨k, List.getElem?_set_self hl⟩
    · rintro ⟨i, hi⟩
      by_cases hik : i = k
      · subst hik
        rw [List.getElem?_set_self hl] at hi
        cases hi
        rfl
      · rw [List.getElem?_set_ne (Ne.symm hik)] at hi
        exact absurd (hD.1 i k _ _ hi hk rfl) hik
  · rw [va_up_ne _ _ hb, hf b e, List.mem_iff_getElem?]
    constructor
    · rintro ⟨i, hi⟩
      refine ⟨i, ?_⟩
      have hik : i ≠ k := fun h => by
        subst h
        rw [hk] at hi
        cases hi
        exact hb rfl
      rw [List.getElem?_set_ne (Ne.symm hik)]
      exact hi
    · rintro ⟨i, hi⟩
      refine ⟨i, ?_⟩
      have hik : i ≠ k := fun h => by
        subst h
        rw [List.getElem?_set_self hl] at hi
        cases hi
        exact hb rfl
      rw [List.getElem?_set_ne (Ne.symm hik)] at hi
      exact hi
theorem mw_push {A : Nat → Prop} {ws : va_W} {f : Wd} {q : Nat} {e1 : va_E} (hD : va_D A (ws ++ [(q, e1)])) (hf : ∀ (a : Nat) (e : va_E), f a = some e ↔ (a, e) ∈ ws) : f q = none ∧ ∀ (b : Nat) (e : va_E), va_up f q (some e1) b = some e ↔ (b, e) ∈ ws ++ [(q, e1)] := by
  have hn : f q = none := by
    cases h : f q with
    | none => rfl
    | some e =>
      obtain ⟨i, hi⟩ := List.getElem?_of_mem ((hf q e).mp h)
      have hl := (List.getElem?_eq_some_iff.mp hi).1
      have h1 : (ws ++ [(q, e1)])[i]? = some (q, e) := by rw [List.getElem?_append_left hl]; exact hi
      have h2 : (ws ++ [(q, e1)])[ws.length]? = some (q, e1) := by rw [List.getElem?_append_right (Nat.le_refl _), Nat.sub_self]; rfl
      have := hD.1 _ _ _ _ h1 h2 rfl
      omega
  refine ⟨hn, fun b e => ?_⟩
  by_cases hb : b = q
  · subst hb
    rw [va_up_self]
    constructor
    · intro h
      cases h
      exact List.mem_append_right _ (List.mem_singleton.mpr rfl)
    · intro h
      rcases List.mem_append.mp h with h | h
      · rw [(hf b e).mpr h] at hn
        cases hn
      · cases List.mem_singleton.mp h
        rfl
  · rw [va_up_ne _ _ hb, hf b e]
    constructor
    · exact fun h => List.mem_append_left _ h
    · intro h
      rcases List.mem_append.mp h with h | h
      · exact h
      · cases List.mem_singleton.mp h
        exact absurd rfl hb
/-- the walk's world: the map, what has changed since the start, what may -/
def ms (D : va_G) (A : Nat → Prop) (f : Wd) (s : State) (H : Heap) (locs : List Loc) : Prop := mw D A f H ∧ va_S A s.heap H locs ∧ ∀ q : Nat, s.heap.size ≤ q → A q
/-- which cells a method may change: those of its world, and new ones -/
def Af (f : Wd) (sz : Nat) : Nat → Prop := fun q => f q ≠ none ∨ sz ≤ q
theorem ms.AF {D : va_G} {A : Nat → Prop} {f : Wd} {s : State} {H : Heap} {locs : List Loc} (h : ms D A f s H locs) : ∀ q, Af f H.size q → A q := by
  intro q hq
  rcases hq with hq | hq
  · cases he : f q with
    | none => exact absurd he hq
    | some e => exact h.1.inA he
  · exact h.2.2 q (Nat.le_trans h.2.1.1 hq)
theorem mw.self {D : va_G} {A : Nat → Prop} {f : Wd} {H : Heap} {sz : Nat} (h : mw D A f H) : mw D (Af f sz) f H := h.weaken (fun a e he _ => Or.inl (by rw [he]; exact fun z => by cases z))
/-- what is known beside the world: the classes, the words that a call doesn't carry, the texts -/
def ev (G : GG) (A : Nat → Prop) (U : State) : Prop :=
  va_K G.1 classes (Gt G) U ∧ (∀ w ∈ EB, va_Nw w U) ∧ (∀ C ∈ AOs, va_AO C U) ∧ (∀ q ∈ NCs, va_Nc q.1 q.2 U) ∧ vk_S nTx lenTx bytTx G.2.2.1 G.2.2.2 A U U.heap ∧ (∀ q ∈ SRs, vk_R q.1 q.2.1 q.2.2.1 (G.2.2.1 q.2.2.2) U) ∧ va_Z "java/lang/String" "COMPACT_STRINGS" "Z" (.int 1) A U U.heap ∧ va_Zq "jdk/internal/util/Preconditions" "SIOOBE_FORMATTER" "Ljava/util/function/BiFunction;" A U U.heap
theorem eb_warm {w : Cond} (h : w ∈ EB) {s U : State} (hW : s.WarmedH U.vm) (hZ : va_Nw w s) : va_Nw w U := by
  have h := (List.mem_filter.mp h).2
  cases w <;> first | exact va_Nw.warmF hW hZ | exact va_Nw.warmM hW hZ | exact va_Nw.warmD hW hZ | exact va_Nw.warmC hW hZ | (simp [isE] at h)
theorem eb_tab {w : Cond} (h : w ∈ EB) : w.onTables = true := by
  have h := (List.mem_filter.mp h).2
  cases w <;> first | rfl | (simp [isE] at h)
theorem ev.call {G : GG} {A : Nat → Prop} {s : State} {f : Wd} {H : Heap} {locs : List Loc} (hE : ev G A s) (hw : ms G.1 A f s H locs) {U : State} (hU : U.heap = H) (hW : s.WarmedH U.vm) : ev G (Af f H.size) U := by
  obtain ⟨h1, h2, h3, h4, h5, h6, h7, h8⟩ := hE
  refine ⟨va_K.moved hW.alike h1, fun w hw' => eb_warm hw' hW (h2 w hw'), fun C hC => (h3 C hC).moved hW.alike, fun q hq => (h4 q hq).moved hW.alike, ?_, fun q hq => (h6 q hq).warm hW, ?_, ?_⟩
  · rw [hU]
    exact ((h5.kept hw.2.1.2.1).narrow hw.AF).moved hW.alike
  · rw [hU]
    exact ((h7.kept hw.2.1.2.1).narrow hw.AF).moved hW.alike
  · rw [hU]
    exact ((h8.kept hw.2.1.2.1).narrow hw.AF).moved hW.alike
theorem ev.blind {G : GG} {A : Nat → Prop} {U : State} (hE : ev G A U) (g : JFrame) (mk : MethodId) (a : Array Value) : ev G A (U.calling g mk a) := by
  obtain ⟨h1, h2, h3, h4, h5, h6, h7, h8⟩ := hE
  exact ⟨va_K.moved (u := U) (U := U.calling g mk a) (Vm.Alike.refl U.vm) h1, fun w hw' => va_Nw.same (u := U) (U := U.calling g mk a) (eb_tab hw') rfl (h2 w hw'), fun C hC => va_AO.moved (u := U) (U := U.calling g mk a) (Vm.Alike.refl U.vm) (h3 C hC), fun q hq => va_Nc.moved (u := U) (U := U.calling g mk a) (Vm.Alike.refl U.vm) (h4 q hq), vk_S.moved (u := U) (U := U.calling g mk a) (Vm.Alike.refl U.vm) h5, fun q hq => vk_R.same (u := U) (U := U.calling g mk a) rfl (h6 q hq), va_Z.moved (u := U) (U := U.calling g mk a) (Vm.Alike.refl U.vm) h7, va_Zq.moved (u := U) (U := U.calling g mk a) (Vm.Alike.refl U.vm) h8⟩
/-! contracts -/
def Pre (G : GG) (f : Wd) (sz : Nat) : State → Prop := fun U => U.heap.size = sz ∧ mw G.1 (fun _ => True) f U.heap ∧ ev G (Af f sz) U
def Bw (G : GG) (f : Wd) (sz : Nat) : Wd → State → Prop := fun f' t => mw G.1 (Af f sz) f' t.heap
theorem Pre.blind {G : GG} {f : Wd} {sz : Nat} {av : List Value} : FrameBlind (va_Pc av (Pre G f sz)) := by
  intro a U g mk h
  obtain ⟨h0, h1, h2, h3⟩ := h
  exact ⟨h0, h1, h2, h3.blind g mk a⟩
theorem Pre.of {G : GG} {A : Nat → Prop} {s : State} {f : Wd} {H : Heap} {locs : List Loc} (hE : ev G A s) (hw : ms G.1 A f s H locs) : ∀ U : State, U.heap = H → s.WarmedH U.vm → Pre G f H.size U := fun U hU hW => ⟨by rw [hU], by rw [hU]; exact hw.1.weaken (fun _ _ _ _ => trivial), hE.call hw hU hW⟩
abbrev wsOf (y : MethodName) (b : ByteArray) (nL : Nat) (ret : Option FieldType) : List Cond := Cond.code y b nL ret :: TB
/-- a contract: an int (or boolean ..) is answered; nothing; a reference (maybe null) -/
def Ci (G : GG) (l : Launch) (y : MethodName) (b : ByteArray) (nL : Nat) (ret : Option FieldType) (rm : Room) (sz : Nat) (f : Wd) (av : List Value) (post : Int32 → Wd → Prop) : Prop := Met l y (wsOf y b nL ret) rm (va_Pc av (Pre G f sz)) (va_Qi post (Bw G f sz) (Af f sz)) rm.cells rm.slots (Af f sz)
def Cv (G : GG) (l : Launch) (y : MethodName) (b : ByteArray) (nL : Nat) (ret : Option FieldType) (rm : Room) (sz : Nat) (f : Wd) (av : List Value) (post : Wd → Prop) : Prop := Met l y (wsOf y b nL ret) rm (va_Pc av (Pre G f sz)) (va_Qv post (Bw G f sz) (Af f sz)) rm.cells rm.slots (Af f sz)
def Cq (G : GG) (l : Launch) (y : MethodName) (b : ByteArray) (nL : Nat) (ret : Option FieldType) (rm : Room) (sz : Nat) (f : Wd) (av : List Value) (post : Option Nat → Wd → Prop) : Prop := Met l y (wsOf y b nL ret) rm (va_Pc av (Pre G f sz)) (va_Qq post (Bw G f sz) (Af f sz)) rm.cells rm.slots (Af f sz)
/-- what holds at a method's entry -/
def En (G : GG) (p : Program) (s : State) (m : MethodId) (meth : Method) (c : Code) (y : MethodName) (b : ByteArray) (nL : Nat) (ret : Option FieldType) (sz : Nat) (f : Wd) (av : List Value) (ls : Array Slot) (H : Heap) (locs : List Loc) : Prop :=
  CallFix p m c b nL s av.toArray TB y.cls ∧ meth.sig.returnType = ret ∧ meth.locks = false ∧ meth.name = y.name ∧ ev G (Af f sz) s ∧ ms G.1 (Af f sz) f s H locs ∧ s.heap.size = sz ∧ lv_has ls nL (lv_args 0 av)
theorem ct_of {G : GG} {l : Launch} {y : MethodName} {b : ByteArray} {nL : Nat} {ret : Option FieldType} {rm : Room} {sz : Nat} {f : Wd} {av : List Value} {Qc : Array Value → State → Outcome → State → Prop} {mc ms' : Nat} {free : Addr → Prop} (hy : plainName y.cls = true) (hn : (lg_sl av).length ≤ nL)
    (body : ∀ (p : Program) (e : Env) (s : State) (m : MethodId) (below : List Frame) (meth : Method) (c : Code) (ls : Array Slot) (H : Heap) (locs : List Loc), En G p s m meth c y b nL ret sz f av ls H locs → W p l e rm s m av.toArray below meth c H locs 0 0 (MQ below Qc av.toArray s mc ms' free) (F0 m 0 ls [])) :
    Met l y (wsOf y b nL ret) rm (va_Pc av (Pre G f sz)) Qc mc ms' free := by
  refine Met.ofW (cc := b) (maxL := nL) (ret := ret) hy rfl ?_
  intro p e s m args below meth c s₁ B hml hv
  obtain ⟨rfl, hsz, hM, hE⟩ := hv
  have hts := atoms_spec (ws := wsOf y b nL ret) B.pre
  have hown : s.vm.findClass y.cls = some m.cls := findClass_of_methodNamed B.named
  have hl := lv_entry av (n := nL) hn
  rw [lg_entry_eq]
  generalize (lg_sl av ++ List.replicate (nL - (lg_sl av).length) Slot.unset).toArray = ls at hl ⊢
  refine body p e s m below meth c ls s.heap [] ⟨⟨B.exec, B.bytes, hml, hown, fun w hw => hts w (List.mem_cons_of_mem _ hw)⟩, B.returns, B.notSynchronized, (name_of_methodNamed B.named B.method).1, hE, ⟨hM.self, va_S.rf, fun q hq => Or.inr (by rw [← hsz]; exact hq)⟩, hsz, hl⟩
end
section
/-! ROWS: instructions and calls over the map -/
/-- a class of the table: its words, its place, its fields' types -/
def kc (ci : Nat) (C : String) (T : u_T) (N : Nat) : Prop := (∀ w ∈ u_ws C T N, w ∈ TB) ∧ classes[ci]? = some (C, T, N) ∧ (∃ ty : Nat → FieldType, ∀ k, k < N → parseFieldDescriptor (T k).2.2.1 = some (ty k)) ∧ ∀ a, a < N → ∀ b, b < N → a ≠ b → (T a).2.1 ≠ (T b).2.1
/-- a field's link out of a class's pool -/
def lnk (own : String) (idx : Nat) (T : u_T) (N k : Nat) : Prop := k < N ∧ ∃ ref : String, ((T k).1 = ref ∨ Cond.sameField ref (T k).1 (T k).2.1 (T k).2.2.1 ∈ TB) ∧ (Cond.fieldLink own idx ref (T k).2.1 (T k).2.2.1 ∈ TB ∨ ∃ host : String, Cond.fieldLinkNest own idx ref (T k).2.1 (T k).2.2.1 host ∈ EB)
/-- a new object's words -/
def nwk (own : String) (idx : Nat) (C : String) (N : Nat) : Prop := Cond.classLink own idx C ∈ TB ∧ Cond.instantiable C N ∈ TB ∧ Cond.initialized C ∈ TB
/-- a call's words: its link, the callee's code, how many arguments -/
def cwk (own : String) (idx : Nat) (y : MethodName) (b : ByteArray) (nL : Nat) (ret : Option FieldType) (n : Nat) : Prop :=
  (Cond.methodLink own idx y ∈ TB ∨ ∃ host : String, Cond.methodLinkNest own idx y host ∈ EB) ∧ Cond.code y b nL ret ∈ TB ∧ Cond.initialized y.cls ∈ TB ∧ y.cls ≠ "java/lang/invoke/MethodHandle" ∧ y.cls ≠ "java/lang/invoke/VarHandle" ∧ (parseMethodDescriptor y.desc).map (fun d => d.parameters.length) = some n
theorem tb_G {w : Cond} (h : w ∈ TB) : GoodIn TB (w :: TB) := fun x hx => by
  rcases List.mem_cons.mp hx with rfl | hx
  · exact ⟨h, tb_good h⟩
  · exact ⟨hx, tb_good hx⟩
section MR
variable {p : Program} {l : Launch} {e : Env} {R : Room} {s : State} {m : MethodId} {args : Array Value} {below : List Frame} {meth : Method} {c : Code} {H : Heap} {locs : List Loc} {cells slots : Nat} {Q : State → Prop}
variable {cc : ByteArray} {pc nL : Nat} {ls : Array Slot} {rest : List Value} {G : GG} {A : Nat → Prop} {a : Nat} {f : Wd} {own : String}
theorem m_same {ref o n d : String} (hc : CallFix p m c cc nL s args TB own) (h : o = ref ∨ Cond.sameField ref o n d ∈ TB) : ∀ x, s.fieldFound? o n d = some x → s.fieldFound? ref n d = some x := by
  rcases h with rfl | h
  · exact fun _ h => h
  · exact fun x hx => u_same (hc.2.2.2.2 _ h) x hx
theorem m_get (hc : CallFix p m c cc nL s args TB own) (hE : ev G A s) (hw : ms G.1 A f s H locs) {C : String} {T : u_T} {N ci k idx : Nat} {fs : List Value} {v : Value} (he : f a = some (.inr (ci, fs))) (hk : kc ci C T N) (hl : lnk own idx T N k) (hv : fs[k]? = some v) (hdg : decode cc pc = .ok (.getfield idx, 3))
    (kk : W p l e R s m args below meth c H locs cells slots Q (F0 m (pc + 3) ls (v :: rest))) : W p l e R s m args below meth c H locs cells slots Q (F0 m pc ls (.ref a :: rest)) := by
  obtain ⟨hk0, ref, hs, hl | ⟨host, hl⟩⟩ := hl
  · exact va_get hc.1 hc.2.1 hc.2.2.2.2 hk.1 hc.2.2.2.1 hE.1 (hw.1.one he) 0 rfl hk.2.1 k hk0 (hc.2.2.2.2 _ hl) (m_same hc hs) hv hdg kk
  · exact va_getN hc.1 hc.2.1 hc.2.2.2.2 hk.1 hc.2.2.2.1 hE.1 (hw.1.one he) 0 rfl hk.2.1 k hk0 (va_Nw.use rfl (hE.2.1 _ hl)) (m_same hc hs) hv hdg kk
theorem m_put (hc : CallFix p m c cc nL s args TB own) (hE : ev G A s) (hw : ms G.1 A f s H locs) {C : String} {T : u_T} {N ci k idx : Nat} {fs : List Value} {v : Value} {ty : FieldType} (he : f a = some (.inr (ci, fs))) (hk : kc ci C T N) (hl : lnk own idx T N k) (hfin : (T k).2.2.2 = false) (hd : parseFieldDescriptor (T k).2.2.1 = some ty) (hn : narrow ty v = v) (hfit : fits ty v = true) (hlen : k < fs.length) (hdg : decode cc pc = .ok (.putfield idx, 3))
    (kk : ∀ (H1 : Heap) (locs1 : List Loc), ms G.1 A (va_up f a (some (.inr (ci, fs.set k v)))) s H1 locs1 → W p l e R s m args below meth c H1 locs1 cells slots Q (F0 m (pc + 3) ls rest)) : W p l e R s m args below meth c H locs cells slots Q (F0 m pc ls (v :: .ref a :: rest)) := by
  obtain ⟨hk0, ref, hs, hl⟩ := hl
  obtain ⟨h1, h2, ⟨ty0, h3⟩, h4⟩ := hk
  obtain ⟨⟨ws, hP, hD, hf⟩, hS, hA⟩ := hw
  obtain ⟨q0, hq0⟩ := List.getElem?_of_mem ((hf _ _).mp he)
  rcases hl with hl | ⟨host, hl⟩
  · exact va_put hc.1 hc.2.1 hc.2.2.2.2 h1 ty0 h3 h4 hc.2.2.2.1 hE.1 hP hD hS q0 hq0 h2 k hk0 (hc.2.2.2.2 _ hl) (m_same hc hs) hfin hd hn hfit hlen hdg (fun H1 locs1 hP1 hD1 hS1 => kk H1 locs1 ⟨⟨_, hP1, hD1, mw_set hD hq0 hf⟩, hS1, hA⟩)
  · exact va_putN hc.1 hc.2.1 hc.2.2.2.2 h1 ty0 h3 h4 hc.2.2.2.1 hE.1 hP hD hS q0 hq0 h2 k hk0 (va_Nw.use rfl (hE.2.1 _ hl)) (m_same hc hs) hfin hd hn hfit hlen hdg (fun H1 locs1 hP1 hD1 hS1 => kk H1 locs1 ⟨⟨_, hP1, hD1, mw_set hD hq0 hf⟩, hS1, hA⟩)
theorem m_putF (hc : CallFix p m c cc nL s args TB own) (hE : ev G A s) (hw : ms G.1 A f s H locs) {C : String} {T : u_T} {N ci k idx : Nat} {fs : List Value} {v : Value} {ty : FieldType} (hin : meth.name = "<init>") (he : f a = some (.inr (ci, fs))) (hk : kc ci C T N) (hl : k < N ∧ Cond.fieldLink own idx own (T k).2.1 (T k).2.2.1 ∈ TB) (hfin : (T k).2.2.2 = true) (hdecl : (T k).1 = own) (hd : parseFieldDescriptor (T k).2.2.1 = some ty) (hn : narrow ty v = v) (hfit : fits ty v = true) (hlen : k < fs.length) (hdg : decode cc pc = .ok (.putfield idx, 3))
    (kk : ∀ (H1 : Heap) (locs1 : List Loc), ms G.1 A (va_up f a (some (.inr (ci, fs.set k v)))) s H1 locs1 → W p l e R s m args below meth c H1 locs1 cells slots Q (F0 m (pc + 3) ls rest)) : W p l e R s m args below meth c H locs cells slots Q (F0 m pc ls (v :: .ref a :: rest)) := by
  obtain ⟨hk0, hl⟩ := hl
  obtain ⟨h1, h2, ⟨ty0, h3⟩, h4⟩ := hk
  obtain ⟨⟨ws, hP, hD, hf⟩, hS, hA⟩ := hw
  obtain ⟨q0, hq0⟩ := List.getElem?_of_mem ((hf _ _).mp he)
  exact va_putF hc.1 hc.2.1 hc.2.2.2.2 h1 ty0 h3 h4 hc.2.2.2.1 hE.1 hP hD hS q0 hq0 h2 k hk0 (hc.2.2.2.2 _ hl) (m_same hc (Or.inl hdecl)) hfin hin hdecl hd hn hfit hlen hdg (fun H1 locs1 hP1 hD1 hS1 => kk H1 locs1 ⟨⟨_, hP1, hD1, mw_set hD hq0 hf⟩, hS1, hA⟩)
theorem m_new (hc : CallFix p m c cc nL s args TB own) (hE : ev G A s) (hw : ms G.1 A f s H locs) {C : String} {T : u_T} {N ci idx : Nat} {fs : List Value} (hk : kc ci C T N) (hl : nwk own idx C N) (hfs : ∀ j, j < N → ∀ ty, parseFieldDescriptor (T j).2.2.1 = some ty → defaultValue ty = vp_V fs j) (hcells : cells + 1 ≤ R.cells) (hslots : slots + N ≤ R.slots) (hdg : decode cc pc = .ok (.new idx, 3))
    (kk : ∀ (q : Nat) (H1 : Heap), f q = none → ms G.1 A (va_up f q (some (.inr (ci, fs)))) s H1 locs → W p l e R s m args below meth c H1 locs (cells + 1) (slots + N) Q (F0 m (pc + 3) ls (.ref q :: rest))) : W p l e R s m args below meth c H locs cells slots Q (F0 m pc ls rest) := by
  obtain ⟨l1, l2, l3⟩ := hl
  obtain ⟨h1, h2, ⟨ty0, h3⟩, h4⟩ := hk
  obtain ⟨⟨ws, hP, hD, hf⟩, hS, hA⟩ := hw
  exact va_new hc.1 hc.2.1 hc.2.2.2.2 h1 ty0 h3 hc.2.2.2.1 (hc.2.2.2.2 _ l1) (hc.2.2.2.2 _ l2) (hc.2.2.2.2 _ l3) hE.1 hP hD hS hA h2 (fun j hj => hfs j hj _ (h3 j hj)) hcells hslots hdg (fun q H1 hP1 hD1 hS1 => kk q H1 (mw_push hD1 hf).1 ⟨⟨_, hP1, hD1, (mw_push hD1 hf).2⟩, hS1, hA⟩)
theorem va_RA.one {U : State} {c1 c2 : ClassId} {ty : FieldType} (h1 : va_RA U c1 ty) (h2 : va_RA U c2 ty) : c1 = c2 := by
  cases ty with
  | object C =>
    obtain ⟨_, _, _, _, _, a⟩ := h1
    obtain ⟨_, _, _, _, _, b⟩ := h2
    exact Option.some.inj (a.symm.trans b)
  | _ => exact Option.some.inj (Eq.trans (Eq.symm h1) h2)
theorem m_newa (hc : CallFix p m c cc nL s args TB own) (hE : ev G A s) (hw : ms G.1 A f s H locs) {atype : ArrayType} {ty : FieldType} (harr : Cond.arrayClass ty ∈ TB) (hty : newarray.typeOf atype = ty) (t0 : Nat) {cA : ClassId} (ht : (Gt G)[t0]? = some (cA, ty)) {n : Int32} {N' : Nat} {a0 : vp_A} (ha : ∀ cA : ClassId, vp_cell cA a0 = arrV cA N' (fun _ => defaultValue ty)) (hn : ¬ n < 0) (hN : n.toNatClampNeg = N') (hbytes : N' * componentBytes ty ≤ 536870912) (hcells : cells + 1 ≤ R.cells) (hslots : slots + N' ≤ R.slots) (hdg : decode cc pc = .ok (.newarray atype, 2))
    (kk : ∀ (q : Nat) (H1 : Heap), f q = none → ms G.1 A (va_up f q (some (.inl (cA, a0)))) s H1 locs → W p l e R s m args below meth c H1 locs (cells + 1) (slots + N') Q (F0 m (pc + 2) ls (.ref q :: rest))) : W p l e R s m args below meth c H locs cells slots Q (F0 m pc ls (.int n :: rest)) := by
  obtain ⟨⟨ws, hP, hD, hf⟩, hS, hA⟩ := hw
  refine va_newa hc.1 hc.2.1 (by rw [hty]; exact hc.2.2.2.2 _ harr) hty hE.1 hP hD hS hA ha hn hN hbytes hcells hslots hdg (fun q cB H1 hK1 hP1 hD1 hS1 => ?_)
  have hB := hK1.2 (Gt G).length (cB, ty) (by rw [List.getElem?_append_right (Nat.le_refl _), Nat.sub_self]; rfl)
  have e1 : cB = cA := va_RA.one hB.2 (hE.1.2 t0 _ ht).2
  subst e1
  exact kk q H1 (mw_push hD1 hf).1 ⟨⟨_, hP1, hD1, (mw_push hD1 hf).2⟩, hS1, hA⟩
theorem m_newq (hc : CallFix p m c cc nL s args TB own) (hE : ev G A s) (hw : ms G.1 A f s H locs) {C : String} {idx : Nat} (hl : Cond.classLink own idx C ∈ TB) (ho : C ∈ AOs) (t0 : Nat) {cA : ClassId} (ht : (Gt G)[t0]? = some (cA, .object C)) {n : Int32} {N' : Nat} (hn : ¬ n < 0) (hN : n.toNatClampNeg = N') (hbytes : N' * 4 ≤ 536870912) (hcells : cells + 1 ≤ R.cells) (hslots : slots + N' ≤ R.slots) (hdg : decode cc pc = .ok (.anewarray idx, 3))
    (kk : ∀ (q : Nat) (H1 : Heap), f q = none → ms G.1 A (va_up f q (some (.inl (cA, N', .inr (.inr (.inr (.inr (fun _ => none)))))))) s H1 locs → W p l e R s m args below meth c H1 locs (cells + 1) (slots + N') Q (F0 m (pc + 3) ls (.ref q :: rest))) : W p l e R s m args below meth c H locs cells slots Q (F0 m pc ls (.int n :: rest)) := by
  obtain ⟨⟨ws, hP, hD, hf⟩, hS, hA⟩ := hw
  refine va_newq hc.1 hc.2.1 hc.2.2.2.1 (hc.2.2.2.2 _ hl) (hE.2.2.1 C ho) hE.1 hP hD hS hA hn hN hbytes hcells hslots hdg (fun q cB H1 hK1 hP1 hD1 hS1 => ?_)
  have hB := hK1.2 (Gt G).length (cB, .object C) (by rw [List.getElem?_append_right (Nat.le_refl _), Nat.sub_self]; rfl)
  have e1 : cB = cA := va_RA.one hB.2 (hE.1.2 t0 _ ht).2
  subst e1
  exact kk q H1 (mw_push hD1 hf).1 ⟨⟨_, hP1, hD1, (mw_push hD1 hf).2⟩, hS1, hA⟩
theorem m_iald (hc : CallFix p m c cc nL s args TB own) (hE : ev G A s) (hw : ms G.1 A f s H locs) (t0 : Nat) {cA : ClassId} {n : Nat} {g : Nat → Int32} (he : f a = some (.inl (cA, n, .inl g))) (ht : (Gt G)[t0]? = some (cA, .int)) {i : Int32} (hin : vp_in i n) (hdg : decode cc pc = .ok (.iaload, 1))
    (kk : W p l e R s m args below meth c H locs cells slots Q (F0 m (pc + 1) ls (.int (g i.toNatClampNeg) :: rest))) : W p l e R s m args below meth c H locs cells slots Q (F0 m pc ls (.int i :: .ref a :: rest)) := va_iald hc.1 hc.2.1 hE.1 (hw.1.one he) 0 t0 rfl ht hin hdg kk
theorem m_cald (hc : CallFix p m c cc nL s args TB own) (hE : ev G A s) (hw : ms G.1 A f s H locs) (t0 : Nat) {cA : ClassId} {n : Nat} {g : Nat → Int32} (he : f a = some (.inl (cA, n, .inl g))) (ht : (Gt G)[t0]? = some (cA, .char)) {i : Int32} (hin : vp_in i n) (hdg : decode cc pc = .ok (.caload, 1))
    (kk : W p l e R s m args below meth c H locs cells slots Q (F0 m (pc + 1) ls (.int (g i.toNatClampNeg) :: rest))) : W p l e R s m args below meth c H locs cells slots Q (F0 m pc ls (.int i :: .ref a :: rest)) := va_cald hc.1 hc.2.1 hE.1 (hw.1.one he) 0 t0 rfl ht hin hdg kk
theorem m_zald (hc : CallFix p m c cc nL s args TB own) (hE : ev G A s) (hw : ms G.1 A f s H locs) (t0 : Nat) {cA : ClassId} {n : Nat} {g : Nat → Int32} (he : f a = some (.inl (cA, n, .inl g))) (ht : (Gt G)[t0]? = some (cA, .boolean)) {i : Int32} (hin : vp_in i n) (hdg : decode cc pc = .ok (.baload, 1))
    (kk : W p l e R s m args below meth c H locs cells slots Q (F0 m (pc + 1) ls (.int (g i.toNatClampNeg) :: rest))) : W p l e R s m args below meth c H locs cells slots Q (F0 m pc ls (.int i :: .ref a :: rest)) := va_zald hc.1 hc.2.1 hE.1 (hw.1.one he) 0 t0 rfl ht hin hdg kk
theorem m_aald (hc : CallFix p m c cc nL s args TB own) (hE : ev G A s) (hw : ms G.1 A f s H locs) (t0 : Nat) {cA : ClassId} {C : String} {n : Nat} {g : Nat → Option Nat} (he : f a = some (.inl (cA, n, .inr (.inr (.inr (.inr g)))))) (ht : (Gt G)[t0]? = some (cA, .object C)) {i : Int32} (hin : vp_in i n) (hdg : decode cc pc = .ok (.aaload, 1))
    (kk : W p l e R s m args below meth c H locs cells slots Q (F0 m (pc + 1) ls (va_rf (g i.toNatClampNeg) :: rest))) : W p l e R s m args below meth c H locs cells slots Q (F0 m pc ls (.int i :: .ref a :: rest)) := va_aldq hc.1 hc.2.1 hE.1 (hw.1.one he) 0 t0 rfl ht hin hdg kk
theorem m_alen (hc : CallFix p m c cc nL s args TB own) (hE : ev G A s) (hw : ms G.1 A f s H locs) (t0 : Nat) {cA : ClassId} {x : vp_A} {ty : FieldType} (he : f a = some (.inl (cA, x))) (ht : (Gt G)[t0]? = some (cA, ty)) (hdg : decode cc pc = .ok (.arraylength, 1))
    (kk : W p l e R s m args below meth c H locs cells slots Q (F0 m (pc + 1) ls (.int (nI x.1) :: rest))) : W p l e R s m args below meth c H locs cells slots Q (F0 m pc ls (.ref a :: rest)) := va_alen hc.1 hc.2.1 hE.1 (hw.1.one he) 0 t0 rfl ht rfl hdg kk
theorem m_iast (hc : CallFix p m c cc nL s args TB own) (hE : ev G A s) (hw : ms G.1 A f s H locs) (t0 : Nat) {cA : ClassId} {n : Nat} {g : Nat → Int32} (he : f a = some (.inl (cA, n, .inl g))) (ht : (Gt G)[t0]? = some (cA, .int)) {i x : Int32} (hin : vp_in i n) (hdg : decode cc pc = .ok (.iastore, 1))
    (kk : ∀ (H1 : Heap) (locs1 : List Loc), ms G.1 A (va_up f a (some (.inl (cA, n, .inl (upd g i.toNatClampNeg x))))) s H1 locs1 → W p l e R s m args below meth c H1 locs1 cells slots Q (F0 m (pc + 1) ls rest)) : W p l e R s m args below meth c H locs cells slots Q (F0 m pc ls (.int x :: .int i :: .ref a :: rest)) := by
  obtain ⟨⟨ws, hP, hD, hf⟩, hS, hA⟩ := hw
  obtain ⟨q0, hq0⟩ := List.getElem?_of_mem ((hf _ _).mp he)
  exact va_iast hc.1 hc.2.1 hE.1 hP hD hS q0 t0 hq0 ht hin hdg (fun H1 locs1 hP1 hD1 hS1 => kk H1 locs1 ⟨⟨_, hP1, hD1, mw_set hD hq0 hf⟩, hS1, hA⟩)
theorem m_cast (hc : CallFix p m c cc nL s args TB own) (hE : ev G A s) (hw : ms G.1 A f s H locs) (t0 : Nat) {cA : ClassId} {n : Nat} {g : Nat → Int32} (he : f a = some (.inl (cA, n, .inl g))) (ht : (Gt G)[t0]? = some (cA, .char)) {i x : Int32} (hin : vp_in i n) (hdg : decode cc pc = .ok (.castore, 1))
    (kk : ∀ (H1 : Heap) (locs1 : List Loc), ms G.1 A (va_up f a (some (.inl (cA, n, .inl (upd g i.toNatClampNeg (vp_nar .char x)))))) s H1 locs1 → W p l e R s m args below meth c H1 locs1 cells slots Q (F0 m (pc + 1) ls rest)) : W p l e R s m args below meth c H locs cells slots Q (F0 m pc ls (.int x :: .int i :: .ref a :: rest)) := by
  obtain ⟨⟨ws, hP, hD, hf⟩, hS, hA⟩ := hw
  obtain ⟨q0, hq0⟩ := List.getElem?_of_mem ((hf _ _).mp he)
  exact va_cast hc.1 hc.2.1 hE.1 hP hD hS q0 t0 hq0 ht hin hdg (fun H1 locs1 hP1 hD1 hS1 => kk H1 locs1 ⟨⟨_, hP1, hD1, mw_set hD hq0 hf⟩, hS1, hA⟩)
theorem m_zast (hc : CallFix p m c cc nL s args TB own) (hE : ev G A s) (hw : ms G.1 A f s H locs) (t0 : Nat) {cA : ClassId} {n : Nat} {g : Nat → Int32} (he : f a = some (.inl (cA, n, .inl g))) (ht : (Gt G)[t0]? = some (cA, .boolean)) {i x : Int32} (hin : vp_in i n) (hdg : decode cc pc = .ok (.bastore, 1))
    (kk : ∀ (H1 : Heap) (locs1 : List Loc), ms G.1 A (va_up f a (some (.inl (cA, n, .inl (upd g i.toNatClampNeg (vp_nar .boolean x)))))) s H1 locs1 → W p l e R s m args below meth c H1 locs1 cells slots Q (F0 m (pc + 1) ls rest)) : W p l e R s m args below meth c H locs cells slots Q (F0 m pc ls (.int x :: .int i :: .ref a :: rest)) := by
  obtain ⟨⟨ws, hP, hD, hf⟩, hS, hA⟩ := hw
  obtain ⟨q0, hq0⟩ := List.getElem?_of_mem ((hf _ _).mp he)
  exact va_zast hc.1 hc.2.1 hE.1 hP hD hS q0 t0 hq0 ht hin hdg (fun H1 locs1 hP1 hD1 hS1 => kk H1 locs1 ⟨⟨_, hP1, hD1, mw_set hD hq0 hf⟩, hS1, hA⟩)
theorem m_recv (hE : ev G A s) (hw : ms G.1 A f s H locs) {C : String} {T : u_T} {N ci : Nat} {fs : List Value} (he : f a = some (.inr (ci, fs))) (hk : classes[ci]? = some (C, T, N)) : ∃ cell : Cell, H[a]? = some cell ∧ cell.vm.isStatics = false ∧ s.vm.findClass C = some cell.cls := va_recv (q := (C, T, N)) hE.1 (hw.1.one he) hk (q0 := 0) rfl
/-- a reference goes into a row of references -/
theorem m_aast (hc : CallFix p m c cc nL s args TB own) (hE : ev G A s) (hw : ms G.1 A f s H locs) (t0 : Nat) {cA : ClassId} {E : String} {n v : Nat} {g : Nat → Option Nat} (he : f a = some (.inl (cA, n, .inr (.inr (.inr (.inr g)))))) (ht : (Gt G)[t0]? = some (cA, .object E)) {C : String} {T : u_T} {N ci : Nat} {fs : List Value} (hv : f v = some (.inr (ci, fs))) (hk : classes[ci]? = some (C, T, N)) (hca : C = E ∨ Cond.castable C E ∈ EB) {i : Int32} (hin : vp_in i n) (hdg : decode cc pc = .ok (.aastore, 1))
    (kk : ∀ (H1 : Heap) (locs1 : List Loc), ms G.1 A (va_up f a (some (.inl (cA, n, .inr (.inr (.inr (.inr (va_up g i.toNatClampNeg (some v))))))))) s H1 locs1 → W p l e R s m args below meth c H1 locs1 cells slots Q (F0 m (pc + 1) ls rest)) : W p l e R s m args below meth c H locs cells slots Q (F0 m pc ls (.ref v :: .int i :: .ref a :: rest)) := by
  have hany : va_Any E s H v := by
    refine va_rAny (r := (C, T, N)) hE.1 (hw.1.one hv) (q0 := 0) rfl hk (fun comp c0 h1 h2 => ?_)
    rcases hca with rfl | hca
    · cases h1.symm.trans h2
      exact va_asg _ _
    · obtain ⟨c1, t1, f1, f2, f3⟩ := Cond.castable_spec (va_Nw.use (A := args) rfl (hE.2.1 _ hca))
      cases h2.symm.trans f1
      cases h1.symm.trans f2
      exact f3
  obtain ⟨⟨ws, hP, hD, hf⟩, hS, hA⟩ := hw
  obtain ⟨q0, hq0⟩ := List.getElem?_of_mem ((hf _ _).mp he)
  exact va_astqM hc.1 hc.2.1 hE.1 hP hD hS q0 t0 hq0 ht hany hin hdg (fun H1 locs1 hP1 hD1 hS1 => kk H1 locs1 ⟨⟨_, hP1, hD1, mw_set hD hq0 hf⟩, hS1, hA⟩)
theorem m_aastN (hc : CallFix p m c cc nL s args TB own) (hE : ev G A s) (hw : ms G.1 A f s H locs) (t0 : Nat) {cA : ClassId} {E : String} {n : Nat} {g : Nat → Option Nat} (he : f a = some (.inl (cA, n, .inr (.inr (.inr (.inr g)))))) (ht : (Gt G)[t0]? = some (cA, .object E)) {i : Int32} (hin : vp_in i n) (hdg : decode cc pc = .ok (.aastore, 1))
    (kk : ∀ (H1 : Heap) (locs1 : List Loc), ms G.1 A (va_up f a (some (.inl (cA, n, .inr (.inr (.inr (.inr (va_up g i.toNatClampNeg none)))))))) s H1 locs1 → W p l e R s m args below meth c H1 locs1 cells slots Q (F0 m (pc + 1) ls rest)) : W p l e R s m args below meth c H locs cells slots Q (F0 m pc ls (.null :: .int i :: .ref a :: rest)) := by
  obtain ⟨⟨ws, hP, hD, hf⟩, hS, hA⟩ := hw
  obtain ⟨q0, hq0⟩ := List.getElem?_of_mem ((hf _ _).mp he)
  exact va_astqN hc.1 hc.2.1 hE.1 hP hD hS q0 t0 hq0 ht hin hdg (fun H1 locs1 hP1 hD1 hS1 => kk H1 locs1 ⟨⟨_, hP1, hD1, mw_set hD hq0 hf⟩, hS1, hA⟩)
/-- instanceof and checkcast of an object of the table -/
theorem m_instY (hc : CallFix p m c cc nL s args TB own) (hE : ev G A s) (hw : ms G.1 A f s H locs) {C E : String} {T : u_T} {N ci idx : Nat} {fs : List Value} (he : f a = some (.inr (ci, fs))) (hk : classes[ci]? = some (C, T, N)) (hl : Cond.classLink own idx E ∈ TB) (hca : C = E ∨ Cond.castable C E ∈ EB) (hdg : decode cc pc = .ok (.instanceof idx, 3))
    (kk : W p l e R s m args below meth c H locs cells slots Q (F0 m (pc + 3) ls (.int 1 :: rest))) : W p l e R s m args below meth c H locs cells slots Q (F0 m pc ls (.ref a :: rest)) := by
  rcases hca with rfl | hca
  · exact va_instE hc.1 hc.2.1 hc.2.2.2.1 (hc.2.2.2.2 _ hl) (m_recv hE hw he hk) hdg kk
  · exact va_instY hc.1 hc.2.1 hc.2.2.2.1 (hc.2.2.2.2 _ hl) (hE.2.1 _ hca) (m_recv hE hw he hk) hdg kk
theorem m_instN (hc : CallFix p m c cc nL s args TB own) (hE : ev G A s) (hw : ms G.1 A f s H locs) {C E : String} {T : u_T} {N ci idx : Nat} {fs : List Value} (he : f a = some (.inr (ci, fs))) (hk : classes[ci]? = some (C, T, N)) (hl : Cond.classLink own idx E ∈ TB) (hca : (C, E) ∈ NCs) (hdg : decode cc pc = .ok (.instanceof idx, 3))
    (kk : W p l e R s m args below meth c H locs cells slots Q (F0 m (pc + 3) ls (.int 0 :: rest))) : W p l e R s m args below meth c H locs cells slots Q (F0 m pc ls (.ref a :: rest)) := va_instNo hc.1 hc.2.1 hc.2.2.2.1 (hc.2.2.2.2 _ hl) (hE.2.2.2.1 _ hca) (m_recv hE hw he hk) hdg kk
theorem m_castY (hc : CallFix p m c cc nL s args TB own) (hE : ev G A s) (hw : ms G.1 A f s H locs) {C E : String} {T : u_T} {N ci idx : Nat} {fs : List Value} (he : f a = some (.inr (ci, fs))) (hk : classes[ci]? = some (C, T, N)) (hl : Cond.classLink own idx E ∈ TB) (hca : C = E ∨ Cond.castable C E ∈ EB) (hdg : decode cc pc = .ok (.checkcast idx, 3))
    (kk : W p l e R s m args below meth c H locs cells slots Q (F0 m (pc + 3) ls (.ref a :: rest))) : W p l e R s m args below meth c H locs cells slots Q (F0 m pc ls (.ref a :: rest)) := by
  rcases hca with rfl | hca
  · exact va_castE hc.1 hc.2.1 hc.2.2.2.1 (hc.2.2.2.2 _ hl) (m_recv hE hw he hk) hdg kk
  · exact va_castY hc.1 hc.2.1 hc.2.2.2.1 (hc.2.2.2.2 _ hl) (hE.2.1 _ hca) (m_recv hE hw he hk) hdg kk
theorem m_objInit (hc : CallFix p m c cc nL s args TB own) {idx : Nat} (hl : Cond.methodLink own idx Lib.objectInit ∈ TB) (h2 : Cond.instanceMethod Lib.objectInit ∈ TB ∧ Cond.code Lib.objectInit ⟨#[0xb1]⟩ 1 none ∈ TB) (hsize : ls.size = nL) (hdg : decode cc pc = .ok (.invokespecial idx, 3)) (hframes : 1 ≤ R.frames) (hlocals : (rest.map fun v => v.category).sum + 12 ≤ R.locals)
    (kk : W p l e R s m args below meth c H locs cells slots Q (F0 m (pc + 3) ls rest)) : W p l e R s m args below meth c H locs cells slots Q (F0 m pc ls (.ref a :: rest)) :=
  W.objInit hc.1 hc.2.1 hc.2.2.2.1 (hc.2.2.2.2 _ hl) (hc.2.2.2.2 _ h2.1) (hc.2.2.2.2 _ h2.2) rfl (hsize.trans hc.2.2.1.symm) rfl hdg hframes (by show 2 * 0 + _ + 12 ≤ _; omega) kk
/-! calls -/
variable {y : MethodName} {b : ByteArray} {nL' n idx mc ms' : Nat} {ret : Option FieldType} {rm : Room} {As st0 : List Value} {Qc : Array Value → State → Outcome → State → Prop} {free : Addr → Prop}
theorem m_runV0 (hc : CallFix p m c cc nL s args TB own) (hE : ev G A s) (hw : ms G.1 A f s H locs) (hM : Met l y (wsOf y b nL' ret) rm (va_Pc (.ref a :: As) (Pre G f H.size)) Qc mc ms' free) {C : String} (hrc : ∃ cell : Cell, H[a]? = some cell ∧ cell.vm.isStatics = false ∧ s.vm.findClass C = some cell.cls) (hcw : cwk own idx y b nL' ret n) (hsel : Cond.instanceMethod y ∈ TB ∧ Cond.selects C y y ∈ TB) (hn : As.length = n) (hsize : ls.size = nL) (hst : st0 = As.reverse ++ .ref a :: rest) (hW : (rest.map fun v => v.category).sum ≤ 8) (hdg : decode cc pc = .ok (.invokevirtual idx, 3)) (hrm : rm.cells = mc ∧ rm.slots = ms' ∧ rm.frames + 1 ≤ R.frames ∧ 8 + (nL' + 11) + rm.locals ≤ R.locals) (hf : cells + mc ≤ R.cells ∧ slots + ms' ≤ R.slots) :
    va_Run p l e R s m args below meth c H locs cells slots mc ms' (F0 m pc ls st0) rest (Qc (Value.ref a :: As).toArray) free := by
  obtain ⟨hlk, hco, hini, hd⟩ := hcw
  have hp : PreV s H C a (va_Pc (.ref a :: As) (Pre G f H.size)) As := ⟨Pre.blind, hrc, fun U hU hW => ⟨rfl, Pre.of hE hw U hU hW⟩⟩
  have hW' : 2 * (F0 m pc ls st0).monitorRoom + (rest.map fun v => v.category).sum ≤ 8 := by show 2 * 0 + _ ≤ 8; omega
  rcases hlk with hlk | ⟨host, hlk⟩
  · exact va_runV hc hM ⟨callB_of n hc.2.2.2.2 (tb_G hco) rfl hrm.1 hrm.2.1 (hc.2.2.2.2 _ hini) (hc.2.2.2.2 _ hlk) hd hrm.2.2, hc.2.2.2.2 _ hsel.1, hc.2.2.2.2 _ hsel.2⟩ hp rfl hn hsize hst hW' hdg hf
  · exact va_runVN hc hM ⟨va_cnB n hc.2.2.2.2 (tb_G hco) rfl hrm.1 hrm.2.1 (hE.2.1 _ hlk) (hc.2.2.2.2 _ hini) hd hrm.2.2, hc.2.2.2.2 _ hsel.1, hc.2.2.2.2 _ hsel.2⟩ hp rfl hn hsize hst hW' hdg hf
theorem m_runV (hc : CallFix p m c cc nL s args TB own) (hE : ev G A s) (hw : ms G.1 A f s H locs) (hM : Met l y (wsOf y b nL' ret) rm (va_Pc (.ref a :: As) (Pre G f H.size)) Qc mc ms' free) {C : String} {T : u_T} {N ci : Nat} {fs : List Value} (he : f a = some (.inr (ci, fs))) (hk : classes[ci]? = some (C, T, N)) (hcw : cwk own idx y b nL' ret n) (hsel : Cond.instanceMethod y ∈ TB ∧ Cond.selects C y y ∈ TB) (hn : As.length = n) (hsize : ls.size = nL) (hst : st0 = As.reverse ++ .ref a :: rest) (hW : (rest.map fun v => v.category).sum ≤ 8) (hdg : decode cc pc = .ok (.invokevirtual idx, 3)) (hrm : rm.cells = mc ∧ rm.slots = ms' ∧ rm.frames + 1 ≤ R.frames ∧ 8 + (nL' + 11) + rm.locals ≤ R.locals) (hf : cells + mc ≤ R.cells ∧ slots + ms' ≤ R.slots) :
    va_Run p l e R s m args below meth c H locs cells slots mc ms' (F0 m pc ls st0) rest (Qc (Value.ref a :: As).toArray) free := m_runV0 hc hE hw hM (m_recv hE hw he hk) hcw hsel hn hsize hst hW hdg hrm hf
theorem m_runS (hc : CallFix p m c cc nL s args TB own) (hE : ev G A s) (hw : ms G.1 A f s H locs) (hM : Met l y (wsOf y b nL' ret) rm (va_Pc As (Pre G f H.size)) Qc mc ms' free) (hcw : cwk own idx y b nL' ret n) (hsta : Cond.static y ∈ TB) (hn : As.length = n) (hsize : ls.size = nL) (hst : st0 = As.reverse ++ rest) (hW : (rest.map fun v => v.category).sum ≤ 8) (hdg : decode cc pc = .ok (.invokestatic idx, 3)) (hrm : rm.cells = mc ∧ rm.slots = ms' ∧ rm.frames + 1 ≤ R.frames ∧ 8 + (nL' + 11) + rm.locals ≤ R.locals) (hf : cells + mc ≤ R.cells ∧ slots + ms' ≤ R.slots) :
    va_Run p l e R s m args below meth c H locs cells slots mc ms' (F0 m pc ls st0) rest (Qc As.toArray) free := by
  obtain ⟨hlk, hco, hini, hd⟩ := hcw
  have hp : PreS s H (va_Pc As (Pre G f H.size)) As := ⟨Pre.blind, fun U hU hW => ⟨rfl, Pre.of hE hw U hU hW⟩⟩
  have hW' : 2 * (F0 m pc ls st0).monitorRoom + (rest.map fun v => v.category).sum ≤ 8 := by show 2 * 0 + _ ≤ 8; omega
  rcases hlk with hlk | ⟨host, hlk⟩
  · exact va_runS hc hM ⟨callB_of n hc.2.2.2.2 (tb_G hco) rfl hrm.1 hrm.2.1 (hc.2.2.2.2 _ hini) (hc.2.2.2.2 _ hlk) hd hrm.2.2, hc.2.2.2.2 _ hsta⟩ hp rfl hn hsize hst hW' hdg hf
  · exact va_runSN hc hM ⟨va_cnB n hc.2.2.2.2 (tb_G hco) rfl hrm.1 hrm.2.1 (hE.2.1 _ hlk) (hc.2.2.2.2 _ hini) hd hrm.2.2, hc.2.2.2.2 _ hsta, trivial⟩ hp rfl hn hsize hst hW' hdg hf
theorem m_runI (hc : CallFix p m c cc nL s args TB own) (hE : ev G A s) (hw : ms G.1 A f s H locs) (hM : Met l y (wsOf y b nL' none) rm (va_Pc (.ref a :: As) (Pre G f H.size)) Qc mc ms' free) (hcw : cwk own idx y b nL' none n) (hin : y.name = "<init>" ∧ Cond.instanceMethod y ∈ TB) (hn : As.length = n) (hsize : ls.size = nL) (hst : st0 = As.reverse ++ .ref a :: rest) (hW : (rest.map fun v => v.category).sum ≤ 8) (hdg : decode cc pc = .ok (.invokespecial idx, 3)) (hrm : rm.cells = mc ∧ rm.slots = ms' ∧ rm.frames + 1 ≤ R.frames ∧ 8 + (nL' + 11) + rm.locals ≤ R.locals) (hf : cells + mc ≤ R.cells ∧ slots + ms' ≤ R.slots) :
    va_Run p l e R s m args below meth c H locs cells slots mc ms' (F0 m pc ls st0) rest (Qc (Value.ref a :: As).toArray) free := by
  obtain ⟨hlk, hco, hini, hd⟩ := hcw
  have hp : PreS s H (va_Pc (.ref a :: As) (Pre G f H.size)) (.ref a :: As) := ⟨Pre.blind, fun U hU hW => ⟨rfl, Pre.of hE hw U hU hW⟩⟩
  have hW' : 2 * (F0 m pc ls st0).monitorRoom + (rest.map fun v => v.category).sum ≤ 8 := by show 2 * 0 + _ ≤ 8; omega
  rcases hlk with hlk | ⟨host, hlk⟩
  · exact va_runI hc hM ⟨callB_of n hc.2.2.2.2 (tb_G hco) rfl hrm.1 hrm.2.1 (hc.2.2.2.2 _ hini) (hc.2.2.2.2 _ hlk) hd hrm.2.2, hin.1, hc.2.2.2.2 _ hin.2⟩ hp rfl hn hsize hst hW' hdg hf
  · exact va_runIN hc hM ⟨va_cnB n hc.2.2.2.2 (tb_G hco) rfl hrm.1 hrm.2.1 (hE.2.1 _ hlk) (hc.2.2.2.2 _ hini) hd hrm.2.2, hin.1, hc.2.2.2.2 _ hin.2⟩ hp rfl hn hsize hst hW' hdg hf
/-- a call whose named method x is abstract; y is what runs -/
theorem m_runA (hc : CallFix p m c cc nL s args TB own) (hE : ev G A s) (hw : ms G.1 A f s H locs) {x : MethodName} (hM : Met l y (wsOf y b nL' ret) rm (va_Pc (.ref a :: As) (Pre G f H.size)) Qc mc ms' free) {C : String} {T : u_T} {N ci : Nat} {fs : List Value} (he : f a = some (.inr (ci, fs))) (hk : classes[ci]? = some (C, T, N)) (hcw : Cond.methodLink own idx x ∈ TB ∧ Cond.code y b nL' ret ∈ TB ∧ Cond.initialized y.cls ∈ TB ∧ x.cls ≠ "java/lang/invoke/MethodHandle" ∧ x.cls ≠ "java/lang/invoke/VarHandle" ∧ (parseMethodDescriptor x.desc).map (fun d => d.parameters.length) = some n) (hsel : Cond.sameMethod x.cls x.cls x.name x.desc ∈ TB ∧ Cond.instanceMethod y ∈ TB ∧ Cond.selects C x y ∈ TB ∧ Cond.declares x ∈ EB) (hn : As.length = n) (hsize : ls.size = nL) (hst : st0 = As.reverse ++ .ref a :: rest) (hW : (rest.map fun v => v.category).sum ≤ 8) (hdg : decode cc pc = .ok (.invokevirtual idx, 3)) (hrm : rm.cells = mc ∧ rm.slots = ms' ∧ rm.frames + 1 ≤ R.frames ∧ 8 + (nL' + 11) + rm.locals ≤ R.locals) (hf : cells + mc ≤ R.cells ∧ slots + ms' ≤ R.slots) :
    va_Run p l e R s m args below meth c H locs cells slots mc ms' (F0 m pc ls st0) rest (Qc (Value.ref a :: As).toArray) free := by
  obtain ⟨hlk, hco, hini, hd⟩ := hcw
  obtain ⟨s1, s2, s3, s4⟩ := hsel
  have hp : PreV s H C a (va_Pc (.ref a :: As) (Pre G f H.size)) As := ⟨Pre.blind, m_recv hE hw he hk, fun U hU hW => ⟨rfl, Pre.of hE hw U hU hW⟩⟩
  have hW' : 2 * (F0 m pc ls st0).monitorRoom + (rest.map fun v => v.category).sum ≤ 8 := by show 2 * 0 + _ ≤ 8; omega
  refine va_runU hc hM (owner := x.cls) (va_cwA n hc.2.2.2.2 ?_ rfl hrm.1 hrm.2.1 (hE.2.1 _ s4) hd hrm.2.2) hp rfl hn hsize hst hW' hdg hf
  intro w hw'
  unfold va_wsU at hw'
  rcases List.mem_append.mp hw' with h | h
  · simp only [List.mem_cons, List.mem_nil_iff, or_false] at h
    rcases h with rfl | rfl | rfl | rfl | rfl
    · exact ⟨hlk, tb_good hlk⟩
    · exact ⟨s1, tb_good s1⟩
    · exact ⟨s3, tb_good s3⟩
    · exact ⟨s2, tb_good s2⟩
    · exact ⟨hini, tb_good hini⟩
  · exact tb_G hco w h
/-! texts: their fields, their bytes; two statics -/
theorem m_strecv (hE : ev G A s) (hw : ms G.1 A f s H locs) {k : Nat} (hk : k < nTx) : ∃ cell : Cell, H[G.2.2.1 k]? = some cell ∧ cell.vm.isStatics = false ∧ s.vm.findClass "java/lang/String" = some cell.cls := vk_recv hE.2.2.2.2.1 hk hw.2.1
theorem m_sval (hc : CallFix p m c cc nL s args TB own) (hE : ev G A s) (hw : ms G.1 A f s H locs) {k : Nat} (hk : k < nTx) (hl : Cond.fieldLink own idx "java/lang/String" "value" "[B" ∈ TB) (hdg : decode cc pc = .ok (.getfield idx, 3))
    (kk : W p l e R s m args below meth c H locs cells slots Q (F0 m (pc + 3) ls (.ref (G.2.2.2 k) :: rest))) : W p l e R s m args below meth c H locs cells slots Q (F0 m pc ls (.ref (G.2.2.1 k) :: rest)) := vk_getf hc.1 hc.2.1 (hE.2.2.2.2.1.1 k hk).2.2.1 hw.2.1 hc.2.2.2.1 (hc.2.2.2.2 _ hl) (fun _ h => h) hdg kk
theorem m_scod (hc : CallFix p m c cc nL s args TB own) (hE : ev G A s) (hw : ms G.1 A f s H locs) {k : Nat} (hk : k < nTx) (hl : Cond.fieldLink own idx "java/lang/String" "coder" "B" ∈ TB) (hdg : decode cc pc = .ok (.getfield idx, 3))
    (kk : W p l e R s m args below meth c H locs cells slots Q (F0 m (pc + 3) ls (.int 0 :: rest))) : W p l e R s m args below meth c H locs cells slots Q (F0 m pc ls (.ref (G.2.2.1 k) :: rest)) := vk_getf hc.1 hc.2.1 (hE.2.2.2.2.1.1 k hk).2.1 hw.2.1 hc.2.2.2.1 (hc.2.2.2.2 _ hl) (fun _ h => h) hdg kk
theorem m_slen (hc : CallFix p m c cc nL s args TB own) (hE : ev G A s) (hw : ms G.1 A f s H locs) {k : Nat} (hk : k < nTx) (hdg : decode cc pc = .ok (.arraylength, 1))
    (kk : W p l e R s m args below meth c H locs cells slots Q (F0 m (pc + 1) ls (.int (nI (lenTx.getD k 0)) :: rest))) : W p l e R s m args below meth c H locs cells slots Q (F0 m pc ls (.ref (G.2.2.2 k) :: rest)) := va_tlen hc.1 hc.2.1 (hE.2.2.2.2.1.1 k hk).2.2.2 hw.2.1 rfl hdg kk
theorem m_sbal (hc : CallFix p m c cc nL s args TB own) (hE : ev G A s) (hw : ms G.1 A f s H locs) {k : Nat} (hk : k < nTx) {i : Int32} (hin : vp_in i (lenTx.getD k 0)) (hdg : decode cc pc = .ok (.baload, 1))
    (kk : W p l e R s m args below meth c H locs cells slots Q (F0 m (pc + 1) ls (.int ((bytTx.getD k []).getD i.toNatClampNeg 0) :: rest))) : W p l e R s m args below meth c H locs cells slots Q (F0 m pc ls (.int i :: .ref (G.2.2.2 k) :: rest)) := va_tb hc.1 hc.2.1 (hE.2.2.2.2.1.1 k hk).2.2.2 hw.2.1 hin rfl hdg kk
theorem m_ldc (hc : CallFix p m c cc nL s args TB own) (hE : ev G A s) {k : Nat} {tx : String} (hq : (own, idx, tx, k) ∈ SRs) (hdg : decode cc pc = .ok (.ldc idx, 2))
    (kk : W p l e R s m args below meth c H locs cells slots Q (F0 m (pc + 2) ls (.ref (G.2.2.1 k) :: rest))) : W p l e R s m args below meth c H locs cells slots Q (F0 m pc ls rest) := va_ldcS hc.1 hc.2.1 hc.2.2.2.1 (hE.2.2.2.2.2.1 _ hq) hdg kk
theorem m_compact (hc : CallFix p m c cc nL s args TB own) (hE : ev G A s) (hw : ms G.1 A f s H locs) (hl : Cond.fieldLink own idx "java/lang/String" "COMPACT_STRINGS" "Z" ∈ TB) (hdg : decode cc pc = .ok (.getstatic idx, 3))
    (kk : W p l e R s m args below meth c H locs cells slots Q (F0 m (pc + 3) ls (.int 1 :: rest))) : W p l e R s m args below meth c H locs cells slots Q (F0 m pc ls rest) := va_gets hc.1 hc.2.1 hE.2.2.2.2.2.2.1 hw.2.1 hc.2.2.2.1 (hc.2.2.2.2 _ hl) (fun _ h => h) hdg kk
theorem m_former (hc : CallFix p m c cc nL s args TB own) (hE : ev G A s) (hw : ms G.1 A f s H locs) (hl : Cond.fieldLink own idx "jdk/internal/util/Preconditions" "SIOOBE_FORMATTER" "Ljava/util/function/BiFunction;" ∈ TB) (hdg : decode cc pc = .ok (.getstatic idx, 3))
    (kk : ∀ r : Option Nat, W p l e R s m args below meth c H locs cells slots Q (F0 m (pc + 3) ls (va_rf r :: rest))) : W p l e R s m args below meth c H locs cells slots Q (F0 m pc ls rest) := by
  rcases hE.2.2.2.2.2.2.2 with h | ⟨t, h⟩
  · exact va_gets hc.1 hc.2.1 h hw.2.1 hc.2.2.2.1 (hc.2.2.2.2 _ hl) (fun _ h => h) hdg (kk none)
  · exact va_gets hc.1 hc.2.1 h hw.2.1 hc.2.2.2.1 (hc.2.2.2.2 _ hl) (fun _ h => h) hdg (kk (some t))
theorem m_mmax (hc : CallFix p m c cc nL s args TB own) {x y : Int32} (hl : Cond.methodLink own idx Lib.Math.max.name ∈ TB) (h3 : Cond.static Lib.Math.max.name ∈ TB ∧ Cond.initialized "java/lang/Math" ∈ TB ∧ Cond.code Lib.Math.max.name Lib.Math.max.code 2 (some .int) ∈ TB) (hsize : ls.size = nL) (hframes : 1 ≤ R.frames) (hlocals : (rest.map fun v => v.category).sum + 13 ≤ R.locals) (hcs : cells ≤ R.cells ∧ slots ≤ R.slots) (hdg : decode cc pc = .ok (.invokestatic idx, 3))
    (kk : W p l e R s m args below meth c H locs cells slots Q (F0 m (pc + 3) ls (.int (if x < y then y else x) :: rest))) : W p l e R s m args below meth c H locs cells slots Q (F0 m pc ls (.int y :: .int x :: rest)) :=
  va_mmax hc.1 hc.2.1 (hc.2.2.1.trans hsize.symm) hc.2.2.2.1 (hc.2.2.2.2 _ hl) (hc.2.2.2.2 _ h3.1) (hc.2.2.2.2 _ h3.2.1) (hc.2.2.2.2 _ h3.2.2) hframes hlocals hcs.1 hcs.2 hdg kk
variable {A1 : Array Value}
theorem m_calli {post : Int32 → Wd → Prop} (hw : ms G.1 A f s H locs) (hr : va_Run p l e R s m args below meth c H locs cells slots mc ms' (F0 m pc ls st0) rest (va_Qi post (Bw G f H.size) (Af f H.size) A1) (Af f H.size))
    (kk : ∀ (r : Int32) (f' : Wd) (H1 : Heap) (locs1 : List Loc), post r f' → ms G.1 A f' s H1 locs1 → W p l e R s m args below meth c H1 locs1 (cells + mc) (slots + ms') Q (F0 m (pc + 3) ls (.int r :: rest))) : W p l e R s m args below meth c H locs cells slots Q (F0 m pc ls st0) :=
  va_calli hr hw.2.1 (fun q _ h => hw.AF q h) hw.AF (fun r u t H1 locs1 ht _ hp hB _ _ hS => kk r u H1 locs1 hp ⟨by rw [← ht]; exact hB.weaken (fun a _ _ h => hw.AF a h), hS, hw.2.2⟩)
theorem m_callv {post : Wd → Prop} (hw : ms G.1 A f s H locs) (hr : va_Run p l e R s m args below meth c H locs cells slots mc ms' (F0 m pc ls st0) rest (va_Qv post (Bw G f H.size) (Af f H.size) A1) (Af f H.size))
    (kk : ∀ (f' : Wd) (H1 : Heap) (locs1 : List Loc), post f' → ms G.1 A f' s H1 locs1 → W p l e R s m args below meth c H1 locs1 (cells + mc) (slots + ms') Q (F0 m (pc + 3) ls rest)) : W p l e R s m args below meth c H locs cells slots Q (F0 m pc ls st0) :=
  va_callv hr hw.2.1 (fun q _ h => hw.AF q h) hw.AF (fun u t H1 locs1 ht _ hp hB _ _ hS => kk u H1 locs1 hp ⟨by rw [← ht]; exact hB.weaken (fun a _ _ h => hw.AF a h), hS, hw.2.2⟩)
theorem m_callq {post : Option Nat → Wd → Prop} (hw : ms G.1 A f s H locs) (hr : va_Run p l e R s m args below meth c H locs cells slots mc ms' (F0 m pc ls st0) rest (va_Qq post (Bw G f H.size) (Af f H.size) A1) (Af f H.size))
    (kk : ∀ (r : Option Nat) (f' : Wd) (H1 : Heap) (locs1 : List Loc), post r f' → ms G.1 A f' s H1 locs1 → W p l e R s m args below meth c H1 locs1 (cells + mc) (slots + ms') Q (F0 m (pc + 3) ls (va_rf r :: rest))) : W p l e R s m args below meth c H locs cells slots Q (F0 m pc ls st0) :=
  va_callq hr hw.2.1 (fun q _ h => hw.AF q h) hw.AF (fun r u t H1 locs1 ht _ hp hB _ _ hS => kk r u H1 locs1 hp ⟨by rw [← ht]; exact hB.weaken (fun a _ _ h => hw.AF a h), hS, hw.2.2⟩)
/-! ends -/
variable {f0 : Wd} {sz kC kS : Nat}
theorem m_iret {post : Int32 → Wd → Prop} {v : Int32} (hc : CallFix p m c cc nL s args TB own) (hr : meth.sig.returnType = some .int) (hlk : meth.locks = false) (hw : ms G.1 (Af f0 sz) f s H locs) (hk : cells ≤ kC ∧ slots ≤ kS) (hdg : decode cc pc = .ok (.ireturn, 1)) (hq : post v f) : W p l e R s m args below meth c H locs cells slots (MQ below (va_Qi post (Bw G f0 sz) (Af f0 sz)) args s kC kS (Af f0 sz)) (F0 m pc ls [.int v]) :=
  W.widen hk.1 hk.2 (W.iret hc.1 hc.2.1 hr (fun t ht _ => ⟨⟨v, f, rfl, hq, by unfold Bw; rw [ht]; exact hw.1⟩, hw.2.1.F ht⟩) hw.2.1.2.2 hdg hlk)
theorem m_zret {post : Int32 → Wd → Prop} {v : Int32} {ty : FieldType} (hc : CallFix p m c cc nL s args TB own) (hr : meth.sig.returnType = some ty) (hlk : meth.locks = false) (hw : ms G.1 (Af f0 sz) f s H locs) (hk : cells ≤ kC ∧ slots ≤ kS) (hdg : decode cc pc = .ok (.ireturn, 1)) (hn : narrow ty (.int v) = .int v) (hq : post v f) : W p l e R s m args below meth c H locs cells slots (MQ below (va_Qi post (Bw G f0 sz) (Af f0 sz)) args s kC kS (Af f0 sz)) (F0 m pc ls [.int v]) :=
  W.widen hk.1 hk.2 (W.zret hc.1 hc.2.1 hr hn (fun t ht _ => ⟨⟨v, f, rfl, hq, by unfold Bw; rw [ht]; exact hw.1⟩, hw.2.1.F ht⟩) hw.2.1.2.2 hdg hlk)
theorem m_vret {post : Wd → Prop} (hc : CallFix p m c cc nL s args TB own) (hr : meth.sig.returnType = none) (hlk : meth.locks = false) (hw : ms G.1 (Af f0 sz) f s H locs) (hk : cells ≤ kC ∧ slots ≤ kS) (hdg : decode cc pc = .ok (.return_, 1)) (hq : post f) : W p l e R s m args below meth c H locs cells slots (MQ below (va_Qv post (Bw G f0 sz) (Af f0 sz)) args s kC kS (Af f0 sz)) (F0 m pc ls []) :=
  W.widen hk.1 hk.2 (W.vret hc.1 hc.2.1 hr (fun t ht _ => ⟨⟨f, rfl, hq, by unfold Bw; rw [ht]; exact hw.1⟩, hw.2.1.F ht⟩) hw.2.1.2.2 hdg hlk)
theorem m_aret {post : Option Nat → Wd → Prop} {r : Option Nat} {C : String} (hc : CallFix p m c cc nL s args TB own) (hr : meth.sig.returnType = some (.object C)) (hlk : meth.locks = false) (hw : ms G.1 (Af f0 sz) f s H locs) (hk : cells ≤ kC ∧ slots ≤ kS) (hdg : decode cc pc = .ok (.areturn, 1)) (hq : post r f) : W p l e R s m args below meth c H locs cells slots (MQ below (va_Qq post (Bw G f0 sz) (Af f0 sz)) args s kC kS (Af f0 sz)) (F0 m pc ls [va_rf r]) :=
  W.widen hk.1 hk.2 (W.aret hc.1 hc.2.1 hr (Or.inl ⟨C, rfl⟩) (va_rf_or r) (fun t ht _ => ⟨⟨r, f, rfl, hq, by unfold Bw; rw [ht]; exact hw.1⟩, hw.2.1.F ht⟩) hw.2.1.2.2 hdg hlk)
end MR
end
section
/-! REGISTERS: the cells that change, by their places; and a map of cells that never change -/
theorem wne {f : Wd} {a b : Nat} {x y : va_E} (ha : f a = some x) (hb : f b = some y) (h : x ≠ y) : a ≠ b := fun e => h (by
  subst e
  exact Option.some.inj (ha.symm.trans hb))
theorem wnf {f : Wd} {a b : Nat} {x : va_E} (ha : f a = some x) (hb : f b = none) : a ≠ b := fun e => by
  subst e
  rw [ha] at hb
  cases hb
/-- g' holds all that g holds -/
def gle (g g' : Wd) : Prop := ∀ (q : Nat) (e : va_E), g q = some e → g' q = some e
theorem gle.rf {g : Wd} : gle g g := fun _ _ h => h
theorem gle.tr {g g' g'' : Wd} (h : gle g g') (h' : gle g' g'') : gle g g'' := fun q e z => h' q e (h q e z)
theorem gle.up {g : Wd} {q : Nat} {e : va_E} (h : g q = none) : gle g (va_up g q (some e)) := fun b x hb => by
  rw [va_up_ne _ _ (wnf hb h)]
  exact hb
def Rg (n : Nat) (ad : Nat → Nat) (E : Nat → va_E) (g f : Wd) : Prop :=
  (∀ k, k < n → f (ad k) = some (E k)) ∧ (∀ i j, i < n → j < n → ad i = ad j → i = j) ∧ gle g f ∧ ∀ k, k < n → g (ad k) = none
theorem Rg.get {n : Nat} {ad : Nat → Nat} {E : Nat → va_E} {g f : Wd} (h : Rg n ad E g f) (k : Nat) (hk : k < n) {e : va_E} (he : E k = e) : f (ad k) = some e := by rw [← he]; exact h.1 k hk
theorem Rg.up {n : Nat} {ad : Nat → Nat} {E : Nat → va_E} {g f : Wd} (h : Rg n ad E g f) (j : Nat) (hj : j < n) (e : va_E) : Rg n ad (va_up E j e) g (va_up f (ad j) (some e)) := by
  obtain ⟨h1, h2, h3, h4⟩ := h
  refine ⟨fun k hk => ?_, h2, fun q x hx => ?_, h4⟩
  · by_cases hkj : k = j
    · subst hkj
      rw [va_up_self, va_up_self]
    · rw [va_up_ne _ _ hkj, va_up_ne _ _ (fun z => hkj (h2 k j hk hj z))]
      exact h1 k hk
  · rw [va_up_ne _ _ (wnf hx (h4 j hj))]
    exact h3 q x hx
theorem Rg.non {n : Nat} {ad : Nat → Nat} {E : Nat → va_E} {g f : Wd} (h : Rg n ad E g f) {q : Nat} (hq : f q = none) : g q = none := by
  cases hg : g q with
  | none => rfl
  | some e => rw [h.2.2.1 q e hg] at hq; cases hq
theorem Rg.new {n : Nat} {ad : Nat → Nat} {E : Nat → va_E} {g f : Wd} (h : Rg n ad E g f) {q : Nat} (e : va_E) (hq : f q = none) : Rg n ad E (va_up g q (some e)) (va_up f q (some e)) := by
  obtain ⟨h1, h2, h3, h4⟩ := h
  have hn : ∀ k, k < n → ad k ≠ q := fun k hk => wnf (h1 k hk) hq
  refine ⟨fun k hk => ?_, h2, fun b x hx => ?_, fun k hk => ?_⟩
  · rw [va_up_ne _ _ (hn k hk)]
    exact h1 k hk
  · by_cases hb : b = q
    · subst hb
      rw [va_up_self] at hx ⊢
      exact hx
    · rw [va_up_ne _ _ hb] at hx ⊢
      exact h3 b x hx
  · rw [va_up_ne _ _ (hn k hk)]
    exact h4 k hk
theorem Rg.upG {n : Nat} {ad : Nat → Nat} {E : Nat → va_E} {g f : Wd} (h : Rg n ad E g f) {q : Nat} {e0 : va_E} (e : va_E) (hq : g q = some e0) : Rg n ad E (va_up g q (some e)) (va_up f q (some e)) := by
  obtain ⟨h1, h2, h3, h4⟩ := h
  have hn : ∀ k, k < n → ad k ≠ q := fun k hk => Ne.symm (wnf hq (h4 k hk))
  refine ⟨fun k hk => ?_, h2, fun b x hx => ?_, fun k hk => ?_⟩
  · rw [va_up_ne _ _ (hn k hk)]
    exact h1 k hk
  · by_cases hb : b = q
    · subst hb
      rw [va_up_self] at hx ⊢
      exact hx
    · rw [va_up_ne _ _ hb] at hx ⊢
      exact h3 b x hx
  · rw [va_up_ne _ _ (hn k hk)]
    exact h4 k hk
end
section
/-! PURE ROWS: truth as an int, a sign's place, signs by their numbers -/
noncomputable def bI (P : Prop) : Int32 := @ite Int32 P (Classical.propDecidable P) 1 0
theorem bI_t {P : Prop} (h : P) : bI P = 1 := by unfold bI; exact if_pos h
theorem bI_f {P : Prop} (h : ¬ P) : bI P = 0 := by unfold bI; exact if_neg h
theorem bI_0 {P : Prop} : bI P = 0 ↔ ¬ P := by
  by_cases h : P
  · rw [bI_t h]; exact ⟨fun z => absurd z (by decide), fun z => absurd h z⟩
  · rw [bI_f h]; exact ⟨fun _ => h, fun _ => rfl⟩
theorem bI_n {P : Prop} : ¬ bI P = 0 ↔ P := by rw [bI_0]; exact Classical.not_not
theorem bI_1 {P : Prop} : bI P = 1 ↔ P := by
  by_cases h : P
  · rw [bI_t h]; exact ⟨fun _ => h, fun _ => rfl⟩
  · rw [bI_f h]; exact ⟨fun z => absurd z (by decide), fun z => absurd z h⟩
theorem bI_or (P : Prop) : bI P = 0 ∨ bI P = 1 := by
  by_cases h : P
  · exact Or.inr (bI_t h)
  · exact Or.inl (bI_f h)
theorem bI_nar (P : Prop) : narrow .boolean (.int (bI P)) = .int (bI P) := by
  rcases bI_or P with h | h <;> rw [h] <;> rfl
theorem bI_fit (P : Prop) : fits .boolean (.int (bI P)) = true := by
  rcases bI_or P with h | h <;> rw [h] <;> rfl
theorem bI_c {P Q : Prop} (h : P ↔ Q) : bI P = bI Q := by rw [propext h]
/-- where x first stands from a on, before a + k; else a + k -/
def fnd (t : Nat → Int32) (x : Int32) : Nat → Nat → Nat
  | 0, a => a
  | k + 1, a => if t a = x then a else fnd t x k (a + 1)
theorem fnd_in (t : Nat → Int32) (x : Int32) : ∀ k a : Nat, a ≤ fnd t x k a ∧ fnd t x k a ≤ a + k
  | 0, a => ⟨Nat.le_refl _, Nat.le_refl _⟩
  | k + 1, a => by
    unfold fnd
    by_cases h : t a = x
    · rw [if_pos h]; omega
    · rw [if_neg h]
      have := fnd_in t x k (a + 1)
      omega
theorem fnd_hit (t : Nat → Int32) (x : Int32) : ∀ k a : Nat, fnd t x k a < a + k → t (fnd t x k a) = x
  | 0, a => fun h => absurd h (Nat.lt_irrefl _)
  | k + 1, a => by
    unfold fnd
    by_cases h : t a = x
    · rw [if_pos h]; exact fun _ => h
    · rw [if_neg h]
      intro z
      exact fnd_hit t x k (a + 1) (by omega)
theorem fnd_miss (t : Nat → Int32) (x : Int32) : ∀ k a : Nat, ∀ j, a ≤ j → j < fnd t x k a → ¬ t j = x
  | 0, a => fun j h1 h2 => absurd h2 (Nat.not_lt.mpr h1)
  | k + 1, a => by
    intro j h1 h2
    unfold fnd at h2
    by_cases h : t a = x
    · rw [if_pos h] at h2; omega
    · rw [if_neg h] at h2
      by_cases hj : j = a
      · subst hj; exact h
      · exact fnd_miss t x k (a + 1) j (by omega) h2
/-- the least place with x from a on before b is the same for whoever looks -/
theorem fnd_eq {t : Nat → Int32} {x : Int32} {a b i : Nat} (h1 : a ≤ i) (h2 : i ≤ b) (hm : ∀ j, a ≤ j → j < i → ¬ t j = x) (hh : i < b → t i = x) : fnd t x (b - a) a = i := by
  have hin := fnd_in t x (b - a) a
  rcases Nat.lt_trichotomy (fnd t x (b - a) a) i with h | h | h
  · exact absurd (fnd_hit t x (b - a) a (by omega)) (hm _ hin.1 h)
  · exact h
  · exact absurd (hh (by omega)) (fnd_miss t x (b - a) a i h1 h)
/-- sign i of n signs t, -1 if there is none -/
noncomputable def atv (n : Nat) (t : Nat → Int32) (i : Int32) : Int32 := @ite Int32 (0 ≤ i ∧ i < nI n) (Classical.propDecidable _) (t i.toNatClampNeg) (-1)
theorem atv_in {n : Nat} {t : Nat → Int32} {i : Nat} (h : i < n) (hn : n < 2 ^ 31) : atv n t (nI i) = t i := by
  unfold atv
  rw [if_pos ⟨nI_pos' (by omega), nI_lt h hn⟩, nI_clamp (by omega)]
theorem atv_lo {n : Nat} {t : Nat → Int32} {i : Int32} (h : i < 0) : atv n t i = -1 := by
  unfold atv
  exact if_neg (fun z => absurd z.1 (Int32.not_le.mpr h))
theorem atv_hi {n : Nat} {t : Nat → Int32} {i : Int32} (h : nI n ≤ i) : atv n t i = -1 := by
  unfold atv
  exact if_neg (fun z => absurd z.2 (Int32.not_lt.mpr h))
theorem atv_ok {n : Nat} {t : Nat → Int32} {i : Int32} (h1 : ¬ i < 0) (h2 : ¬ nI n ≤ i) : atv n t i = t i.toNatClampNeg := by
  unfold atv
  exact if_pos ⟨Int32.not_lt.mp h1, Int32.not_le.mp h2⟩
theorem vin {i : Int32} {n cap : Nat} (h1 : ¬ i < 0) (h2 : ¬ nI n ≤ i) (h : n ≤ cap) (hc : cap < 2 ^ 31) : vp_in i cap := by
  rw [vp_in_iff]
  rw [Int32.lt_iff_toInt_lt] at h1
  rw [Int32.le_iff_toInt_le, nI_toInt (by omega)] at h2
  rw [Int32.toInt_zero] at h1
  omega
theorem wd_oa {o : Nat × List Value} {x : ClassId × vp_A} : (Sum.inr o : va_E) ≠ Sum.inl x := fun z => by cases z
theorem wd_ao {o : Nat × List Value} {x : ClassId × vp_A} : (Sum.inl x : va_E) ≠ Sum.inr o := fun z => by cases z
theorem wd_oo {i j : Nat} {u v : List Value} (h : i ≠ j) : (Sum.inr (i, u) : va_E) ≠ Sum.inr (j, v) := fun z => h (congrArg Prod.fst (Sum.inr.inj z))
theorem up_uu {f : Wd} {a : Nat} {x y : Option va_E} : va_up (va_up f a x) a y = va_up f a y := by
  funext j
  by_cases h : j = a <;> simp [va_up, h]
theorem up_sw {f : Wd} {a b : Nat} {x y : Option va_E} (h : a ≠ b) : va_up (va_up f a x) b y = va_up (va_up f b y) a x := by
  funext j
  by_cases h1 : j = a
  · subst h1
    simp [va_up, h]
  · simp [va_up, h1]
theorem nar_nar (x : Int32) : vp_nar .char (vp_nar .char x) = vp_nar .char x := by
  have e : vp_nar .char x = (x.toUInt32 % 65536).toInt32 := by rw [vp_nar_char]; simp
  rw [e]
  exact pk_vc x
section MT
variable {p : Program} {l : Launch} {e : Env} {R : Room} {s : State} {m : MethodId} {args : Array Value} {below : List Frame} {meth : Method} {c : Code} {H : Heap} {locs : List Loc} {cells slots : Nat} {Q : State → Prop} {pc : Nat} {ls : Array Slot} {rest : List Value}
theorem m_top {x y : Int32} (h : x = y) (k : W p l e R s m args below meth c H locs cells slots Q (F0 m pc ls (.int y :: rest))) : W p l e R s m args below meth c H locs cells slots Q (F0 m pc ls (.int x :: rest)) := by
  rw [h]
  exact k
end MT
end
section
/-! PICTURES of the class's cells -/
/-- a row of signs at a, its chars at r -/
def sg (G : GG) (f : Wd) (a r cap n : Nat) (t : Nat → Int32) : Prop := f a = some (.inr (CI_Signs, [.ref r, .int (nI n)])) ∧ f r = some (.inl (G.2.1 1, cap, .inl t)) ∧ n ≤ cap ∧ cap ≤ 90 ∧ ∀ j, j < n → vp_nar .char (t j) = t j
theorem sg.mono {G : GG} {g f : Wd} {a r cap n : Nat} {t : Nat → Int32} (h : sg G g a r cap n t) (hg : gle g f) : sg G f a r cap n t := ⟨hg _ _ h.1, hg _ _ h.2.1, h.2.2⟩
/-- a class pattern at a, of the text t -/
def cp (G : GG) (f : Wd) (a ta tr tcap tn : Nat) (t : Nat → Int32) (rj : Int32) (sh m0 m1 n0 n1 : Nat) : Prop := f a = some (.inr (CI_ClassPattern, [.ref ta, .int rj, .int (nI sh), .int (nI m0), .int (nI m1), .int (nI n0), .int (nI n1)])) ∧ sg G f ta tr tcap tn t ∧ m0 ≤ m1 ∧ m1 ≤ tn ∧ n0 ≤ n1 ∧ n1 ≤ tn ∧ sh ≤ 3
theorem cp.mono {G : GG} {g f : Wd} {a ta tr tcap tn : Nat} {t : Nat → Int32} {rj : Int32} {sh m0 m1 n0 n1 : Nat} (h : cp G g a ta tr tcap tn t rj sh m0 m1 n0 n1) (hg : gle g f) : cp G f a ta tr tcap tn t rj sh m0 m1 n0 n1 := ⟨hg _ _ h.1, h.2.1.mono hg, h.2.2⟩
/-- the name begins with the signs n0 .. n1 of t -/
def bgn (nn : Nat) (nt t : Nat → Int32) (n0 n1 : Nat) : Prop := n1 - n0 ≤ nn ∧ ∀ j, j < n1 - n0 → nt j = t (n0 + j)
/-- the name is the signs n0 .. n1 of t -/
def isp (nn : Nat) (nt t : Nat → Int32) (n0 n1 : Nat) : Prop := nn = n1 - n0 ∧ ∀ j, j < nn → nt j = t (n0 + j)
noncomputable def vdc (rj : Int32) : Int32 := if rj = 0 then 1 else 2
theorem vdc_0 {rj : Int32} (h : rj = 0) : vdc rj = 1 := by unfold vdc; exact if_pos h
theorem vdc_n {rj : Int32} (h : ¬ rj = 0) : vdc rj = 2 := by unfold vdc; exact if_neg h
noncomputable def fsh (sh m0 m1 : Nat) : Int32 := if m0 < m1 then 10 + nI sh else nI sh
theorem fsh_y {sh m0 m1 : Nat} (h : m0 < m1) : fsh sh m0 m1 = 10 + nI sh := by unfold fsh; exact if_pos h
theorem fsh_n {sh m0 m1 : Nat} (h : ¬ m0 < m1) : fsh sh m0 m1 = nI sh := by unfold fsh; exact if_neg h
/-- a class pattern matches a name and a module -/
def mat (t : Nat → Int32) (sh m0 m1 n0 n1 : Nat) (nn : Nat) (nt : Nat → Int32) (mn : Nat) (mt : Nat → Int32) : Prop :=
  (m0 < m1 → isp mn mt t m0 m1) ∧ (sh = 0 → isp nn nt t n0 n1) ∧ (sh = 1 → bgn nn nt t n0 n1 ∧ ¬ fnd nt 46 (nn - (n1 - n0)) (n1 - n0) < nn) ∧ (2 ≤ sh → bgn nn nt t n0 n1)
/-- the question at q -/
def qs (G : GG) (f : Wd) (q na nr ncap nn : Nat) (nt : Nat → Int32) (ma mr mcap mn : Nat) (mt : Nat → Int32) (dp rf by_ so di le co ta la : Int32) : Prop := f q = some (.inr (CI_Question, [.ref na, .ref ma, .int dp, .int rf, .int by_, .int so, .int di, .int le, .int co, .int ta, .int la])) ∧ sg G f na nr ncap nn nt ∧ sg G f ma mr mcap mn mt
end
section
/-! facts of the tables, a row each -/
def t_SF : Nat → FieldType := fun k => match k with
  | 0 => (.object "StreamFilters$Signs")
  | 1 => (.object "StreamFilters$Question")
  | 2 => (.object "StreamFilters$PieceReader")
  | _ => (.array (.object "StreamFilters$Filter"))
theorem t_SF_ok : ∀ k, k < 4 → parseFieldDescriptor (F_SF k).2.2.1 = some (t_SF k) := by decide +kernel
theorem kc_SF : kc 0 R_SF F_SF 4 := ⟨List.forall_mem_cons.mpr ⟨(tb 156 (by decide +kernel) rfl), List.forall_mem_cons.mpr ⟨(tb 158 (by decide +kernel) rfl), List.forall_mem_cons.mpr ⟨(tb 160 (by decide +kernel) rfl), List.forall_mem_cons.mpr ⟨(tb 162 (by decide +kernel) rfl), fun _ h => absurd h List.not_mem_nil⟩⟩⟩⟩, rfl, ⟨t_SF, t_SF_ok⟩, by decide +kernel⟩
theorem ds_SF_0 : parseFieldDescriptor (F_SF 0).2.2.1 = some (.object "StreamFilters$Signs") := by decide +kernel
theorem ds_SF_1 : parseFieldDescriptor (F_SF 1).2.2.1 = some (.object "StreamFilters$Question") := by decide +kernel
theorem ds_SF_2 : parseFieldDescriptor (F_SF 2).2.2.1 = some (.object "StreamFilters$PieceReader") := by decide +kernel
theorem ds_SF_3 : parseFieldDescriptor (F_SF 3).2.2.1 = some (.array (.object "StreamFilters$Filter")) := by decide +kernel
theorem bl_SF : ∀ j, j < 4 → ∀ ty, parseFieldDescriptor (F_SF j).2.2.1 = some ty → defaultValue ty = vp_V [.null, .null, .null, .null] j := fun j hj ty h => by
  rw [t_SF_ok j hj] at h
  cases h
  revert j
  decide +kernel
def t_Signs : Nat → FieldType := fun k => match k with
  | 0 => (.array .char)
  | _ => .int
theorem t_Signs_ok : ∀ k, k < 2 → parseFieldDescriptor (F_Signs k).2.2.1 = some (t_Signs k) := by decide +kernel
theorem kc_Signs : kc 1 R_Signs F_Signs 2 := ⟨List.forall_mem_cons.mpr ⟨(tb 34 (by decide +kernel) rfl), List.forall_mem_cons.mpr ⟨(tb 36 (by decide +kernel) rfl), fun _ h => absurd h List.not_mem_nil⟩⟩, rfl, ⟨t_Signs, t_Signs_ok⟩, by decide +kernel⟩
theorem ds_Signs_0 : parseFieldDescriptor (F_Signs 0).2.2.1 = some (.array .char) := by decide +kernel
theorem ds_Signs_1 : parseFieldDescriptor (F_Signs 1).2.2.1 = some .int := by decide +kernel
theorem bl_Signs : ∀ j, j < 2 → ∀ ty, parseFieldDescriptor (F_Signs j).2.2.1 = some ty → defaultValue ty = vp_V [.null, .int 0] j := fun j hj ty h => by
  rw [t_Signs_ok j hj] at h
  cases h
  revert j
  decide +kernel
def t_Question : Nat → FieldType := fun k => match k with
  | 0 => (.object "StreamFilters$Signs")
  | 1 => (.object "StreamFilters$Signs")
  | 2 => .int
  | 3 => .int
  | 4 => .int
  | 5 => .int
  | 6 => .int
  | 7 => .int
  | 8 => .int
  | 9 => .int
  | _ => .int
theorem t_Question_ok : ∀ k, k < 11 → parseFieldDescriptor (F_Question k).2.2.1 = some (t_Question k) := by decide +kernel
theorem kc_Question : kc 2 R_Question F_Question 11 := ⟨List.forall_mem_cons.mpr ⟨(tb 78 (by decide +kernel) rfl), List.forall_mem_cons.mpr ⟨(tb 80 (by decide +kernel) rfl), List.forall_mem_cons.mpr ⟨(tb 82 (by decide +kernel) rfl), List.forall_mem_cons.mpr ⟨(tb 84 (by decide +kernel) rfl), List.forall_mem_cons.mpr ⟨(tb 86 (by decide +kernel) rfl), List.forall_mem_cons.mpr ⟨(tb 88 (by decide +kernel) rfl), List.forall_mem_cons.mpr ⟨(tb 90 (by decide +kernel) rfl), List.forall_mem_cons.mpr ⟨(tb 92 (by decide +kernel) rfl), List.forall_mem_cons.mpr ⟨(tb 94 (by decide +kernel) rfl), List.forall_mem_cons.mpr ⟨(tb 96 (by decide +kernel) rfl), List.forall_mem_cons.mpr ⟨(tb 98 (by decide +kernel) rfl), fun _ h => absurd h List.not_mem_nil⟩⟩⟩⟩⟩⟩⟩⟩⟩⟩⟩, rfl, ⟨t_Question, t_Question_ok⟩, by decide +kernel⟩
theorem ds_Question_0 : parseFieldDescriptor (F_Question 0).2.2.1 = some (.object "StreamFilters$Signs") := by decide +kernel
theorem ds_Question_1 : parseFieldDescriptor (F_Question 1).2.2.1 = some (.object "StreamFilters$Signs") := by decide +kernel
theorem ds_Question_2 : parseFieldDescriptor (F_Question 2).2.2.1 = some .int := by decide +kernel
theorem ds_Question_3 : parseFieldDescriptor (F_Question 3).2.2.1 = some .int := by decide +kernel
theorem ds_Question_4 : parseFieldDescriptor (F_Question 4).2.2.1 = some .int := by decide +kernel
theorem ds_Question_5 : parseFieldDescriptor (F_Question 5).2.2.1 = some .int := by decide +kernel
theorem ds_Question_6 : parseFieldDescriptor (F_Question 6).2.2.1 = some .int := by decide +kernel
theorem ds_Question_7 : parseFieldDescriptor (F_Question 7).2.2.1 = some .int := by decide +kernel
theorem ds_Question_8 : parseFieldDescriptor (F_Question 8).2.2.1 = some .int := by decide +kernel
theorem ds_Question_9 : parseFieldDescriptor (F_Question 9).2.2.1 = some .int := by decide +kernel
theorem ds_Question_10 : parseFieldDescriptor (F_Question 10).2.2.1 = some .int := by decide +kernel
theorem bl_Question : ∀ j, j < 11 → ∀ ty, parseFieldDescriptor (F_Question j).2.2.1 = some ty → defaultValue ty = vp_V [.null, .null, .int 0, .int 0, .int 0, .int 0, .int 0, .int 0, .int 0, .int 0, .int 0] j := fun j hj ty h => by
  rw [t_Question_ok j hj] at h
  cases h
  revert j
  decide +kernel
def t_PieceReader : Nat → FieldType := fun k => match k with
  | 0 => (.object "StreamFilters$Signs")
  | 1 => .int
  | 2 => .int
  | 3 => .int
  | 4 => .int
  | 5 => .int
  | 6 => .boolean
  | 7 => .int
  | 8 => .int
  | 9 => .int
  | 10 => .int
  | _ => .int
theorem t_PieceReader_ok : ∀ k, k < 12 → parseFieldDescriptor (F_PieceReader k).2.2.1 = some (t_PieceReader k) := by decide +kernel
theorem kc_PieceReader : kc 3 R_PieceReader F_PieceReader 12 := ⟨List.forall_mem_cons.mpr ⟨(tb 125 (by decide +kernel) rfl), List.forall_mem_cons.mpr ⟨(tb 127 (by decide +kernel) rfl), List.forall_mem_cons.mpr ⟨(tb 129 (by decide +kernel) rfl), List.forall_mem_cons.mpr ⟨(tb 131 (by decide +kernel) rfl), List.forall_mem_cons.mpr ⟨(tb 133 (by decide +kernel) rfl), List.forall_mem_cons.mpr ⟨(tb 135 (by decide +kernel) rfl), List.forall_mem_cons.mpr ⟨(tb 137 (by decide +kernel) rfl), List.forall_mem_cons.mpr ⟨(tb 139 (by decide +kernel) rfl), List.forall_mem_cons.mpr ⟨(tb 141 (by decide +kernel) rfl), List.forall_mem_cons.mpr ⟨(tb 143 (by decide +kernel) rfl), List.forall_mem_cons.mpr ⟨(tb 145 (by decide +kernel) rfl), List.forall_mem_cons.mpr ⟨(tb 147 (by decide +kernel) rfl), fun _ h => absurd h List.not_mem_nil⟩⟩⟩⟩⟩⟩⟩⟩⟩⟩⟩⟩, rfl, ⟨t_PieceReader, t_PieceReader_ok⟩, by decide +kernel⟩
theorem ds_PieceReader_0 : parseFieldDescriptor (F_PieceReader 0).2.2.1 = some (.object "StreamFilters$Signs") := by decide +kernel
theorem ds_PieceReader_1 : parseFieldDescriptor (F_PieceReader 1).2.2.1 = some .int := by decide +kernel
theorem ds_PieceReader_2 : parseFieldDescriptor (F_PieceReader 2).2.2.1 = some .int := by decide +kernel
theorem ds_PieceReader_3 : parseFieldDescriptor (F_PieceReader 3).2.2.1 = some .int := by decide +kernel
theorem ds_PieceReader_4 : parseFieldDescriptor (F_PieceReader 4).2.2.1 = some .int := by decide +kernel
theorem ds_PieceReader_5 : parseFieldDescriptor (F_PieceReader 5).2.2.1 = some .int := by decide +kernel
theorem ds_PieceReader_6 : parseFieldDescriptor (F_PieceReader 6).2.2.1 = some .boolean := by decide +kernel
theorem ds_PieceReader_7 : parseFieldDescriptor (F_PieceReader 7).2.2.1 = some .int := by decide +kernel
theorem ds_PieceReader_8 : parseFieldDescriptor (F_PieceReader 8).2.2.1 = some .int := by decide +kernel
theorem ds_PieceReader_9 : parseFieldDescriptor (F_PieceReader 9).2.2.1 = some .int := by decide +kernel
theorem ds_PieceReader_10 : parseFieldDescriptor (F_PieceReader 10).2.2.1 = some .int := by decide +kernel
theorem ds_PieceReader_11 : parseFieldDescriptor (F_PieceReader 11).2.2.1 = some .int := by decide +kernel
theorem bl_PieceReader : ∀ j, j < 12 → ∀ ty, parseFieldDescriptor (F_PieceReader j).2.2.1 = some ty → defaultValue ty = vp_V [.null, .int 0, .int 0, .int 0, .int 0, .int 0, .int 0, .int 0, .int 0, .int 0, .int 0, .int 0] j := fun j hj ty h => by
  rw [t_PieceReader_ok j hj] at h
  cases h
  revert j
  decide +kernel
def t_ClassPattern : Nat → FieldType := fun k => match k with
  | 0 => (.object "StreamFilters$Signs")
  | 1 => .boolean
  | 2 => .int
  | 3 => .int
  | 4 => .int
  | 5 => .int
  | _ => .int
theorem t_ClassPattern_ok : ∀ k, k < 7 → parseFieldDescriptor (F_ClassPattern k).2.2.1 = some (t_ClassPattern k) := by decide +kernel
theorem kc_ClassPattern : kc 4 R_ClassPattern F_ClassPattern 7 := ⟨List.forall_mem_cons.mpr ⟨(tb 339 (by decide +kernel) rfl), List.forall_mem_cons.mpr ⟨(tb 341 (by decide +kernel) rfl), List.forall_mem_cons.mpr ⟨(tb 343 (by decide +kernel) rfl), List.forall_mem_cons.mpr ⟨(tb 345 (by decide +kernel) rfl), List.forall_mem_cons.mpr ⟨(tb 347 (by decide +kernel) rfl), List.forall_mem_cons.mpr ⟨(tb 349 (by decide +kernel) rfl), List.forall_mem_cons.mpr ⟨(tb 351 (by decide +kernel) rfl), fun _ h => absurd h List.not_mem_nil⟩⟩⟩⟩⟩⟩⟩, rfl, ⟨t_ClassPattern, t_ClassPattern_ok⟩, by decide +kernel⟩
theorem ds_ClassPattern_0 : parseFieldDescriptor (F_ClassPattern 0).2.2.1 = some (.object "StreamFilters$Signs") := by decide +kernel
theorem ds_ClassPattern_1 : parseFieldDescriptor (F_ClassPattern 1).2.2.1 = some .boolean := by decide +kernel
theorem ds_ClassPattern_2 : parseFieldDescriptor (F_ClassPattern 2).2.2.1 = some .int := by decide +kernel
theorem ds_ClassPattern_3 : parseFieldDescriptor (F_ClassPattern 3).2.2.1 = some .int := by decide +kernel
theorem ds_ClassPattern_4 : parseFieldDescriptor (F_ClassPattern 4).2.2.1 = some .int := by decide +kernel
theorem ds_ClassPattern_5 : parseFieldDescriptor (F_ClassPattern 5).2.2.1 = some .int := by decide +kernel
theorem ds_ClassPattern_6 : parseFieldDescriptor (F_ClassPattern 6).2.2.1 = some .int := by decide +kernel
theorem bl_ClassPattern : ∀ j, j < 7 → ∀ ty, parseFieldDescriptor (F_ClassPattern j).2.2.1 = some ty → defaultValue ty = vp_V [.null, .int 0, .int 0, .int 0, .int 0, .int 0, .int 0] j := fun j hj ty h => by
  rw [t_ClassPattern_ok j hj] at h
  cases h
  revert j
  decide +kernel
def t_TextFilter : Nat → FieldType := fun k => match k with
  | 0 => .int
  | 1 => .int
  | 2 => .int
  | 3 => .boolean
  | 4 => (.array .int)
  | _ => (.array (.object "StreamFilters$ClassPattern"))
theorem t_TextFilter_ok : ∀ k, k < 6 → parseFieldDescriptor (F_TextFilter k).2.2.1 = some (t_TextFilter k) := by decide +kernel
theorem kc_TextFilter : kc 5 R_TextFilter F_TextFilter 6 := ⟨List.forall_mem_cons.mpr ⟨(tb 389 (by decide +kernel) rfl), List.forall_mem_cons.mpr ⟨(tb 391 (by decide +kernel) rfl), List.forall_mem_cons.mpr ⟨(tb 393 (by decide +kernel) rfl), List.forall_mem_cons.mpr ⟨(tb 383 (by decide +kernel) rfl), List.forall_mem_cons.mpr ⟨(tb 385 (by decide +kernel) rfl), List.forall_mem_cons.mpr ⟨(tb 387 (by decide +kernel) rfl), fun _ h => absurd h List.not_mem_nil⟩⟩⟩⟩⟩⟩, rfl, ⟨t_TextFilter, t_TextFilter_ok⟩, by decide +kernel⟩
theorem ds_TextFilter_0 : parseFieldDescriptor (F_TextFilter 0).2.2.1 = some .int := by decide +kernel
theorem ds_TextFilter_1 : parseFieldDescriptor (F_TextFilter 1).2.2.1 = some .int := by decide +kernel
theorem ds_TextFilter_2 : parseFieldDescriptor (F_TextFilter 2).2.2.1 = some .int := by decide +kernel
theorem ds_TextFilter_3 : parseFieldDescriptor (F_TextFilter 3).2.2.1 = some .boolean := by decide +kernel
theorem ds_TextFilter_4 : parseFieldDescriptor (F_TextFilter 4).2.2.1 = some (.array .int) := by decide +kernel
theorem ds_TextFilter_5 : parseFieldDescriptor (F_TextFilter 5).2.2.1 = some (.array (.object "StreamFilters$ClassPattern")) := by decide +kernel
theorem bl_TextFilter : ∀ j, j < 6 → ∀ ty, parseFieldDescriptor (F_TextFilter j).2.2.1 = some ty → defaultValue ty = vp_V [.int 0, .int 0, .int 0, .int 0, .null, .null] j := fun j hj ty h => by
  rw [t_TextFilter_ok j hj] at h
  cases h
  revert j
  decide +kernel
def t_JoinedFilter : Nat → FieldType := fun k => match k with
  | 0 => .int
  | 1 => .int
  | 2 => .int
  | 3 => (.object "StreamFilters$Filter")
  | _ => (.object "StreamFilters$Filter")
theorem t_JoinedFilter_ok : ∀ k, k < 5 → parseFieldDescriptor (F_JoinedFilter k).2.2.1 = some (t_JoinedFilter k) := by decide +kernel
theorem kc_JoinedFilter : kc 6 R_JoinedFilter F_JoinedFilter 5 := ⟨List.forall_mem_cons.mpr ⟨(tb 426 (by decide +kernel) rfl), List.forall_mem_cons.mpr ⟨(tb 427 (by decide +kernel) rfl), List.forall_mem_cons.mpr ⟨(tb 428 (by decide +kernel) rfl), List.forall_mem_cons.mpr ⟨(tb 422 (by decide +kernel) rfl), List.forall_mem_cons.mpr ⟨(tb 424 (by decide +kernel) rfl), fun _ h => absurd h List.not_mem_nil⟩⟩⟩⟩⟩, rfl, ⟨t_JoinedFilter, t_JoinedFilter_ok⟩, by decide +kernel⟩
theorem ds_JoinedFilter_0 : parseFieldDescriptor (F_JoinedFilter 0).2.2.1 = some .int := by decide +kernel
theorem ds_JoinedFilter_1 : parseFieldDescriptor (F_JoinedFilter 1).2.2.1 = some .int := by decide +kernel
theorem ds_JoinedFilter_2 : parseFieldDescriptor (F_JoinedFilter 2).2.2.1 = some .int := by decide +kernel
theorem ds_JoinedFilter_3 : parseFieldDescriptor (F_JoinedFilter 3).2.2.1 = some (.object "StreamFilters$Filter") := by decide +kernel
theorem ds_JoinedFilter_4 : parseFieldDescriptor (F_JoinedFilter 4).2.2.1 = some (.object "StreamFilters$Filter") := by decide +kernel
theorem bl_JoinedFilter : ∀ j, j < 5 → ∀ ty, parseFieldDescriptor (F_JoinedFilter j).2.2.1 = some ty → defaultValue ty = vp_V [.int 0, .int 0, .int 0, .null, .null] j := fun j hj ty h => by
  rw [t_JoinedFilter_ok j hj] at h
  cases h
  revert j
  decide +kernel
def t_StrictFilter : Nat → FieldType := fun k => match k with
  | 0 => .int
  | 1 => .int
  | 2 => .int
  | 3 => (.object "StreamFilters$Filter")
  | _ => .boolean
theorem t_StrictFilter_ok : ∀ k, k < 5 → parseFieldDescriptor (F_StrictFilter k).2.2.1 = some (t_StrictFilter k) := by decide +kernel
theorem kc_StrictFilter : kc 7 R_StrictFilter F_StrictFilter 5 := ⟨List.forall_mem_cons.mpr ⟨(tb 446 (by decide +kernel) rfl), List.forall_mem_cons.mpr ⟨(tb 447 (by decide +kernel) rfl), List.forall_mem_cons.mpr ⟨(tb 448 (by decide +kernel) rfl), List.forall_mem_cons.mpr ⟨(tb 442 (by decide +kernel) rfl), List.forall_mem_cons.mpr ⟨(tb 444 (by decide +kernel) rfl), fun _ h => absurd h List.not_mem_nil⟩⟩⟩⟩⟩, rfl, ⟨t_StrictFilter, t_StrictFilter_ok⟩, by decide +kernel⟩
theorem ds_StrictFilter_0 : parseFieldDescriptor (F_StrictFilter 0).2.2.1 = some .int := by decide +kernel
theorem ds_StrictFilter_1 : parseFieldDescriptor (F_StrictFilter 1).2.2.1 = some .int := by decide +kernel
theorem ds_StrictFilter_2 : parseFieldDescriptor (F_StrictFilter 2).2.2.1 = some .int := by decide +kernel
theorem ds_StrictFilter_3 : parseFieldDescriptor (F_StrictFilter 3).2.2.1 = some (.object "StreamFilters$Filter") := by decide +kernel
theorem ds_StrictFilter_4 : parseFieldDescriptor (F_StrictFilter 4).2.2.1 = some .boolean := by decide +kernel
theorem bl_StrictFilter : ∀ j, j < 5 → ∀ ty, parseFieldDescriptor (F_StrictFilter j).2.2.1 = some ty → defaultValue ty = vp_V [.int 0, .int 0, .int 0, .null, .int 0] j := fun j hj ty h => by
  rw [t_StrictFilter_ok j hj] at h
  cases h
  revert j
  decide +kernel
def t_DefaultFilter : Nat → FieldType := fun k => match k with
  | 0 => .int
  | 1 => .int
  | 2 => .int
  | 3 => (.object "StreamFilters$Filter")
  | _ => .int
theorem t_DefaultFilter_ok : ∀ k, k < 5 → parseFieldDescriptor (F_DefaultFilter k).2.2.1 = some (t_DefaultFilter k) := by decide +kernel
theorem kc_DefaultFilter : kc 8 R_DefaultFilter F_DefaultFilter 5 := ⟨List.forall_mem_cons.mpr ⟨(tb 466 (by decide +kernel) rfl), List.forall_mem_cons.mpr ⟨(tb 467 (by decide +kernel) rfl), List.forall_mem_cons.mpr ⟨(tb 468 (by decide +kernel) rfl), List.forall_mem_cons.mpr ⟨(tb 462 (by decide +kernel) rfl), List.forall_mem_cons.mpr ⟨(tb 464 (by decide +kernel) rfl), fun _ h => absurd h List.not_mem_nil⟩⟩⟩⟩⟩, rfl, ⟨t_DefaultFilter, t_DefaultFilter_ok⟩, by decide +kernel⟩
theorem ds_DefaultFilter_0 : parseFieldDescriptor (F_DefaultFilter 0).2.2.1 = some .int := by decide +kernel
theorem ds_DefaultFilter_1 : parseFieldDescriptor (F_DefaultFilter 1).2.2.1 = some .int := by decide +kernel
theorem ds_DefaultFilter_2 : parseFieldDescriptor (F_DefaultFilter 2).2.2.1 = some .int := by decide +kernel
theorem ds_DefaultFilter_3 : parseFieldDescriptor (F_DefaultFilter 3).2.2.1 = some (.object "StreamFilters$Filter") := by decide +kernel
theorem ds_DefaultFilter_4 : parseFieldDescriptor (F_DefaultFilter 4).2.2.1 = some .int := by decide +kernel
theorem bl_DefaultFilter : ∀ j, j < 5 → ∀ ty, parseFieldDescriptor (F_DefaultFilter j).2.2.1 = some ty → defaultValue ty = vp_V [.int 0, .int 0, .int 0, .null, .int 0] j := fun j hj ty h => by
  rw [t_DefaultFilter_ok j hj] at h
  cases h
  revert j
  decide +kernel
def t_OnlyFilter : Nat → FieldType := fun k => match k with
  | 0 => .int
  | 1 => .int
  | 2 => .int
  | 3 => (.object "StreamFilters$Filter")
  | _ => (.object "StreamFilters$Signs")
theorem t_OnlyFilter_ok : ∀ k, k < 5 → parseFieldDescriptor (F_OnlyFilter k).2.2.1 = some (t_OnlyFilter k) := by decide +kernel
theorem kc_OnlyFilter : kc 9 R_OnlyFilter F_OnlyFilter 5 := ⟨List.forall_mem_cons.mpr ⟨(tb 487 (by decide +kernel) rfl), List.forall_mem_cons.mpr ⟨(tb 488 (by decide +kernel) rfl), List.forall_mem_cons.mpr ⟨(tb 489 (by decide +kernel) rfl), List.forall_mem_cons.mpr ⟨(tb 483 (by decide +kernel) rfl), List.forall_mem_cons.mpr ⟨(tb 485 (by decide +kernel) rfl), fun _ h => absurd h List.not_mem_nil⟩⟩⟩⟩⟩, rfl, ⟨t_OnlyFilter, t_OnlyFilter_ok⟩, by decide +kernel⟩
theorem ds_OnlyFilter_0 : parseFieldDescriptor (F_OnlyFilter 0).2.2.1 = some .int := by decide +kernel
theorem ds_OnlyFilter_1 : parseFieldDescriptor (F_OnlyFilter 1).2.2.1 = some .int := by decide +kernel
theorem ds_OnlyFilter_2 : parseFieldDescriptor (F_OnlyFilter 2).2.2.1 = some .int := by decide +kernel
theorem ds_OnlyFilter_3 : parseFieldDescriptor (F_OnlyFilter 3).2.2.1 = some (.object "StreamFilters$Filter") := by decide +kernel
theorem ds_OnlyFilter_4 : parseFieldDescriptor (F_OnlyFilter 4).2.2.1 = some (.object "StreamFilters$Signs") := by decide +kernel
theorem bl_OnlyFilter : ∀ j, j < 5 → ∀ ty, parseFieldDescriptor (F_OnlyFilter j).2.2.1 = some ty → defaultValue ty = vp_V [.int 0, .int 0, .int 0, .null, .null] j := fun j hj ty h => by
  rw [t_OnlyFilter_ok j hj] at h
  cases h
  revert j
  decide +kernel
def t_SM : Nat → FieldType := fun k => match k with
  | 0 => (.array .int)
  | 1 => .int
  | 2 => .int
  | 3 => (.array .int)
  | 4 => .int
  | 5 => (.array .int)
  | 6 => .int
  | 7 => (.array .int)
  | 8 => (.array .int)
  | 9 => (.array .int)
  | 10 => (.array .int)
  | 11 => (.array .int)
  | 12 => (.array .int)
  | 13 => (.array .int)
  | 14 => (.array .int)
  | 15 => .int
  | 16 => (.array .int)
  | 17 => .int
  | 18 => .int
  | 19 => .int
  | 20 => .int
  | 21 => .int
  | 22 => .int
  | 23 => .int
  | 24 => .int
  | 25 => .int
  | 26 => .int
  | 27 => .boolean
  | 28 => .int
  | 29 => .int
  | 30 => .int
  | 31 => .int
  | 32 => .int
  | 33 => (.array .int)
  | 34 => (.array .int)
  | 35 => (.array .int)
  | 36 => .int
  | _ => .int
theorem t_SM_ok : ∀ k, k < 38 → parseFieldDescriptor (F_SM k).2.2.1 = some (t_SM k) := by decide +kernel
theorem kc_SM : kc 10 R_SM F_SM 38 := ⟨List.forall_mem_cons.mpr ⟨(tb 652 (by decide +kernel) rfl), List.forall_mem_cons.mpr ⟨(tb 654 (by decide +kernel) rfl), List.forall_mem_cons.mpr ⟨(tb 656 (by decide +kernel) rfl), List.forall_mem_cons.mpr ⟨(tb 658 (by decide +kernel) rfl), List.forall_mem_cons.mpr ⟨(tb 660 (by decide +kernel) rfl), List.forall_mem_cons.mpr ⟨(tb 662 (by decide +kernel) rfl), List.forall_mem_cons.mpr ⟨(tb 664 (by decide +kernel) rfl), List.forall_mem_cons.mpr ⟨(tb 666 (by decide +kernel) rfl), List.forall_mem_cons.mpr ⟨(tb 668 (by decide +kernel) rfl), List.forall_mem_cons.mpr ⟨(tb 670 (by decide +kernel) rfl), List.forall_mem_cons.mpr ⟨(tb 672 (by decide +kernel) rfl), List.forall_mem_cons.mpr ⟨(tb 674 (by decide +kernel) rfl), List.forall_mem_cons.mpr ⟨(tb 676 (by decide +kernel) rfl), List.forall_mem_cons.mpr ⟨(tb 678 (by decide +kernel) rfl), List.forall_mem_cons.mpr ⟨(tb 680 (by decide +kernel) rfl), List.forall_mem_cons.mpr ⟨(tb 682 (by decide +kernel) rfl), List.forall_mem_cons.mpr ⟨(tb 684 (by decide +kernel) rfl), List.forall_mem_cons.mpr ⟨(tb 686 (by decide +kernel) rfl), List.forall_mem_cons.mpr ⟨(tb 688 (by decide +kernel) rfl), List.forall_mem_cons.mpr ⟨(tb 690 (by decide +kernel) rfl), List.forall_mem_cons.mpr ⟨(tb 692 (by decide +kernel) rfl), List.forall_mem_cons.mpr ⟨(tb 694 (by decide +kernel) rfl), List.forall_mem_cons.mpr ⟨(tb 696 (by decide +kernel) rfl), List.forall_mem_cons.mpr ⟨(tb 698 (by decide +kernel) rfl), List.forall_mem_cons.mpr ⟨(tb 700 (by decide +kernel) rfl), List.forall_mem_cons.mpr ⟨(tb 702 (by decide +kernel) rfl), List.forall_mem_cons.mpr ⟨(tb 704 (by decide +kernel) rfl), List.forall_mem_cons.mpr ⟨(tb 706 (by decide +kernel) rfl), List.forall_mem_cons.mpr ⟨(tb 708 (by decide +kernel) rfl), List.forall_mem_cons.mpr ⟨(tb 710 (by decide +kernel) rfl), List.forall_mem_cons.mpr ⟨(tb 712 (by decide +kernel) rfl), List.forall_mem_cons.mpr ⟨(tb 714 (by decide +kernel) rfl), List.forall_mem_cons.mpr ⟨(tb 716 (by decide +kernel) rfl), List.forall_mem_cons.mpr ⟨(tb 718 (by decide +kernel) rfl), List.forall_mem_cons.mpr ⟨(tb 720 (by decide +kernel) rfl), List.forall_mem_cons.mpr ⟨(tb 722 (by decide +kernel) rfl), List.forall_mem_cons.mpr ⟨(tb 724 (by decide +kernel) rfl), List.forall_mem_cons.mpr ⟨(tb 726 (by decide +kernel) rfl), fun _ h => absurd h List.not_mem_nil⟩⟩⟩⟩⟩⟩⟩⟩⟩⟩⟩⟩⟩⟩⟩⟩⟩⟩⟩⟩⟩⟩⟩⟩⟩⟩⟩⟩⟩⟩⟩⟩⟩⟩⟩⟩⟩⟩, rfl, ⟨t_SM, t_SM_ok⟩, by decide +kernel⟩
theorem ds_SM_0 : parseFieldDescriptor (F_SM 0).2.2.1 = some (.array .int) := by decide +kernel
theorem ds_SM_1 : parseFieldDescriptor (F_SM 1).2.2.1 = some .int := by decide +kernel
theorem ds_SM_2 : parseFieldDescriptor (F_SM 2).2.2.1 = some .int := by decide +kernel
theorem ds_SM_3 : parseFieldDescriptor (F_SM 3).2.2.1 = some (.array .int) := by decide +kernel
theorem ds_SM_4 : parseFieldDescriptor (F_SM 4).2.2.1 = some .int := by decide +kernel
theorem ds_SM_5 : parseFieldDescriptor (F_SM 5).2.2.1 = some (.array .int) := by decide +kernel
theorem ds_SM_6 : parseFieldDescriptor (F_SM 6).2.2.1 = some .int := by decide +kernel
theorem ds_SM_7 : parseFieldDescriptor (F_SM 7).2.2.1 = some (.array .int) := by decide +kernel
theorem ds_SM_8 : parseFieldDescriptor (F_SM 8).2.2.1 = some (.array .int) := by decide +kernel
theorem ds_SM_9 : parseFieldDescriptor (F_SM 9).2.2.1 = some (.array .int) := by decide +kernel
theorem ds_SM_10 : parseFieldDescriptor (F_SM 10).2.2.1 = some (.array .int) := by decide +kernel
theorem ds_SM_11 : parseFieldDescriptor (F_SM 11).2.2.1 = some (.array .int) := by decide +kernel
theorem ds_SM_12 : parseFieldDescriptor (F_SM 12).2.2.1 = some (.array .int) := by decide +kernel
theorem ds_SM_13 : parseFieldDescriptor (F_SM 13).2.2.1 = some (.array .int) := by decide +kernel
theorem ds_SM_14 : parseFieldDescriptor (F_SM 14).2.2.1 = some (.array .int) := by decide +kernel
theorem ds_SM_15 : parseFieldDescriptor (F_SM 15).2.2.1 = some .int := by decide +kernel
theorem ds_SM_16 : parseFieldDescriptor (F_SM 16).2.2.1 = some (.array .int) := by decide +kernel
theorem ds_SM_17 : parseFieldDescriptor (F_SM 17).2.2.1 = some .int := by decide +kernel
theorem ds_SM_18 : parseFieldDescriptor (F_SM 18).2.2.1 = some .int := by decide +kernel
theorem ds_SM_19 : parseFieldDescriptor (F_SM 19).2.2.1 = some .int := by decide +kernel
theorem ds_SM_20 : parseFieldDescriptor (F_SM 20).2.2.1 = some .int := by decide +kernel
theorem ds_SM_21 : parseFieldDescriptor (F_SM 21).2.2.1 = some .int := by decide +kernel
theorem ds_SM_22 : parseFieldDescriptor (F_SM 22).2.2.1 = some .int := by decide +kernel
theorem ds_SM_23 : parseFieldDescriptor (F_SM 23).2.2.1 = some .int := by decide +kernel
theorem ds_SM_24 : parseFieldDescriptor (F_SM 24).2.2.1 = some .int := by decide +kernel
theorem ds_SM_25 : parseFieldDescriptor (F_SM 25).2.2.1 = some .int := by decide +kernel
theorem ds_SM_26 : parseFieldDescriptor (F_SM 26).2.2.1 = some .int := by decide +kernel
theorem ds_SM_27 : parseFieldDescriptor (F_SM 27).2.2.1 = some .boolean := by decide +kernel
theorem ds_SM_28 : parseFieldDescriptor (F_SM 28).2.2.1 = some .int := by decide +kernel
theorem ds_SM_29 : parseFieldDescriptor (F_SM 29).2.2.1 = some .int := by decide +kernel
theorem ds_SM_30 : parseFieldDescriptor (F_SM 30).2.2.1 = some .int := by decide +kernel
theorem ds_SM_31 : parseFieldDescriptor (F_SM 31).2.2.1 = some .int := by decide +kernel
theorem ds_SM_32 : parseFieldDescriptor (F_SM 32).2.2.1 = some .int := by decide +kernel
theorem ds_SM_33 : parseFieldDescriptor (F_SM 33).2.2.1 = some (.array .int) := by decide +kernel
theorem ds_SM_34 : parseFieldDescriptor (F_SM 34).2.2.1 = some (.array .int) := by decide +kernel
theorem ds_SM_35 : parseFieldDescriptor (F_SM 35).2.2.1 = some (.array .int) := by decide +kernel
theorem ds_SM_36 : parseFieldDescriptor (F_SM 36).2.2.1 = some .int := by decide +kernel
theorem ds_SM_37 : parseFieldDescriptor (F_SM 37).2.2.1 = some .int := by decide +kernel
theorem bl_SM : ∀ j, j < 38 → ∀ ty, parseFieldDescriptor (F_SM j).2.2.1 = some ty → defaultValue ty = vp_V [.null, .int 0, .int 0, .null, .int 0, .null, .int 0, .null, .null, .null, .null, .null, .null, .null, .null, .int 0, .null, .int 0, .int 0, .int 0, .int 0, .int 0, .int 0, .int 0, .int 0, .int 0, .int 0, .int 0, .int 0, .int 0, .int 0, .int 0, .int 0, .null, .null, .null, .int 0, .int 0] j := fun j hj ty h => by
  rw [t_SM_ok j hj] at h
  cases h
  revert j
  decide +kernel
theorem oi_w : Cond.instanceMethod Lib.objectInit ∈ TB ∧ Cond.code Lib.objectInit ⟨#[0xb1]⟩ 1 none ∈ TB := ⟨(tb 24 (by decide +kernel) rfl), (tb 25 (by decide +kernel) rfl)⟩
theorem mm_w : Cond.static Lib.Math.max.name ∈ TB ∧ Cond.initialized "java/lang/Math" ∈ TB ∧ Cond.code Lib.Math.max.name Lib.Math.max.code 2 (some .int) ∈ TB := ⟨(tb 306 (by decide +kernel) rfl), (tb 10 (by decide +kernel) rfl), (tb 307 (by decide +kernel) rfl)⟩
end
section
/-! links of the pools, as the walks ask for them -/
theorem l_Signs_15_Signs : lnk "StreamFilters$Signs" 15 F_Signs 2 1 := ⟨by decide, "StreamFilters$Signs", Or.inl rfl, Or.inl (tb 33 (by decide +kernel) rfl)⟩
theorem l_Signs_9_Signs : lnk "StreamFilters$Signs" 9 F_Signs 2 0 := ⟨by decide, "StreamFilters$Signs", Or.inl rfl, Or.inl (tb 32 (by decide +kernel) rfl)⟩
theorem lf_Signs_9_Signs : 0 < 2 ∧ Cond.fieldLink "StreamFilters$Signs" 9 "StreamFilters$Signs" (F_Signs 0).2.1 (F_Signs 0).2.2.1 ∈ TB := ⟨by decide, (tb 32 (by decide +kernel) rfl)⟩
theorem nw_Signs_10 : nwk "StreamFilters$Signs" 10 R_Signs 2 := ⟨(tb 324 (by decide +kernel) rfl), (tb 27 (by decide +kernel) rfl), (tb 2 (by decide +kernel) rfl)⟩
theorem cw_Signs_19 : cwk "StreamFilters$Signs" 19 y_Signs_init b_Signs_init 2 none 1 := ⟨Or.inl (tb 325 (by decide +kernel) rfl), (tb 30 (by decide +kernel) rfl), (tb 2 (by decide +kernel) rfl), by decide, by decide, by decide +kernel⟩
theorem cw_Signs_22 : cwk "StreamFilters$Signs" 22 y_Signs_append b_Signs_append 2 none 1 := ⟨Or.inl (tb 326 (by decide +kernel) rfl), (tb 186 (by decide +kernel) rfl), (tb 2 (by decide +kernel) rfl), by decide, by decide, by decide +kernel⟩
theorem cw_Signs_26 : cwk "StreamFilters$Signs" 26 y_Signs_at b_Signs_at 2 (some .int) 1 := ⟨Or.inl (tb 227 (by decide +kernel) rfl), (tb 218 (by decide +kernel) rfl), (tb 2 (by decide +kernel) rfl), by decide, by decide, by decide +kernel⟩
theorem cw_Signs_30 : cwk "StreamFilters$Signs" 30 y_Signs_beginsWithPart b_Signs_beginsWithPart 5 (some .boolean) 3 := ⟨Or.inl (tb 561 (by decide +kernel) rfl), (tb 526 (by decide +kernel) rfl), (tb 2 (by decide +kernel) rfl), by decide, by decide, by decide +kernel⟩
theorem se_Signs_append : Cond.instanceMethod y_Signs_append ∈ TB ∧ Cond.selects "StreamFilters$Signs" y_Signs_append y_Signs_append ∈ TB := ⟨(tb 184 (by decide +kernel) rfl), (tb 185 (by decide +kernel) rfl)⟩
theorem se_Signs_at : Cond.instanceMethod y_Signs_at ∈ TB ∧ Cond.selects "StreamFilters$Signs" y_Signs_at y_Signs_at ∈ TB := ⟨(tb 216 (by decide +kernel) rfl), (tb 217 (by decide +kernel) rfl)⟩
theorem se_Signs_beginsWithPart : Cond.instanceMethod y_Signs_beginsWithPart ∈ TB ∧ Cond.selects "StreamFilters$Signs" y_Signs_beginsWithPart y_Signs_beginsWithPart ∈ TB := ⟨(tb 524 (by decide +kernel) rfl), (tb 525 (by decide +kernel) rfl)⟩
theorem si_Signs_init : Cond.instanceMethod y_Signs_init ∈ TB := (tb 29 (by decide +kernel) rfl)
theorem oi_Signs_3 : Cond.methodLink "StreamFilters$Signs" 3 Lib.objectInit ∈ TB := (tb 31 (by decide +kernel) rfl)
theorem ar_char : Cond.arrayClass .char ∈ TB := (tb 39 (by decide +kernel) rfl)
/-! decode rows -/
theorem d_Signs_init_0 : decode b_Signs_init 0 = .ok (.aload_n 0, 1) := by decide +kernel
theorem d_Signs_init_1 : decode b_Signs_init 1 = .ok (.invokespecial 3, 3) := by decide +kernel
theorem d_Signs_init_4 : decode b_Signs_init 4 = .ok (.aload_n 0, 1) := by decide +kernel
theorem d_Signs_init_5 : decode b_Signs_init 5 = .ok (.iload_n 1, 1) := by decide +kernel
theorem d_Signs_init_6 : decode b_Signs_init 6 = .ok (.newarray .char, 2) := by decide +kernel
theorem d_Signs_init_8 : decode b_Signs_init 8 = .ok (.putfield 9, 3) := by decide +kernel
theorem d_Signs_init_11 : decode b_Signs_init 11 = .ok (.aload_n 0, 1) := by decide +kernel
theorem d_Signs_init_12 : decode b_Signs_init 12 = .ok (.iconst 0, 1) := by decide +kernel
theorem d_Signs_init_13 : decode b_Signs_init 13 = .ok (.putfield 15, 3) := by decide +kernel
theorem d_Signs_init_16 : decode b_Signs_init 16 = .ok (.return_, 1) := by decide +kernel
theorem d_Signs_hasRoomFor_0 : decode b_Signs_hasRoomFor 0 = .ok (.iload_n 1, 1) := by decide +kernel
theorem d_Signs_hasRoomFor_1 : decode b_Signs_hasRoomFor 1 = .ok (.aload_n 0, 1) := by decide +kernel
theorem d_Signs_hasRoomFor_2 : decode b_Signs_hasRoomFor 2 = .ok (.getfield 9, 3) := by decide +kernel
theorem d_Signs_hasRoomFor_5 : decode b_Signs_hasRoomFor 5 = .ok (.arraylength, 1) := by decide +kernel
theorem d_Signs_hasRoomFor_6 : decode b_Signs_hasRoomFor 6 = .ok (.aload_n 0, 1) := by decide +kernel
theorem d_Signs_hasRoomFor_7 : decode b_Signs_hasRoomFor 7 = .ok (.getfield 15, 3) := by decide +kernel
theorem d_Signs_hasRoomFor_10 : decode b_Signs_hasRoomFor 10 = .ok (.isub, 1) := by decide +kernel
theorem d_Signs_hasRoomFor_11 : decode b_Signs_hasRoomFor 11 = .ok (.if_icmp .gt 7, 3) := by decide +kernel
theorem d_Signs_hasRoomFor_14 : decode b_Signs_hasRoomFor 14 = .ok (.iconst 1, 1) := by decide +kernel
theorem d_Signs_hasRoomFor_15 : decode b_Signs_hasRoomFor 15 = .ok (.goto 4, 3) := by decide +kernel
theorem d_Signs_hasRoomFor_18 : decode b_Signs_hasRoomFor 18 = .ok (.iconst 0, 1) := by decide +kernel
theorem d_Signs_hasRoomFor_19 : decode b_Signs_hasRoomFor 19 = .ok (.ireturn, 1) := by decide +kernel
theorem d_Signs_append_0 : decode b_Signs_append 0 = .ok (.aload_n 0, 1) := by decide +kernel
theorem d_Signs_append_1 : decode b_Signs_append 1 = .ok (.getfield 15, 3) := by decide +kernel
theorem d_Signs_append_4 : decode b_Signs_append 4 = .ok (.aload_n 0, 1) := by decide +kernel
theorem d_Signs_append_5 : decode b_Signs_append 5 = .ok (.getfield 9, 3) := by decide +kernel
theorem d_Signs_append_8 : decode b_Signs_append 8 = .ok (.arraylength, 1) := by decide +kernel
theorem d_Signs_append_9 : decode b_Signs_append 9 = .ok (.if_icmp .ge 23, 3) := by decide +kernel
theorem d_Signs_append_12 : decode b_Signs_append 12 = .ok (.aload_n 0, 1) := by decide +kernel
theorem d_Signs_append_13 : decode b_Signs_append 13 = .ok (.getfield 9, 3) := by decide +kernel
theorem d_Signs_append_16 : decode b_Signs_append 16 = .ok (.aload_n 0, 1) := by decide +kernel
theorem d_Signs_append_17 : decode b_Signs_append 17 = .ok (.getfield 15, 3) := by decide +kernel
theorem d_Signs_append_20 : decode b_Signs_append 20 = .ok (.iload_n 1, 1) := by decide +kernel
theorem d_Signs_append_21 : decode b_Signs_append 21 = .ok (.castore, 1) := by decide +kernel
theorem d_Signs_append_22 : decode b_Signs_append 22 = .ok (.aload_n 0, 1) := by decide +kernel
theorem d_Signs_append_23 : decode b_Signs_append 23 = .ok (.dup, 1) := by decide +kernel
theorem d_Signs_append_24 : decode b_Signs_append 24 = .ok (.getfield 15, 3) := by decide +kernel
theorem d_Signs_append_27 : decode b_Signs_append 27 = .ok (.iconst 1, 1) := by decide +kernel
theorem d_Signs_append_28 : decode b_Signs_append 28 = .ok (.iadd, 1) := by decide +kernel
theorem d_Signs_append_29 : decode b_Signs_append 29 = .ok (.putfield 15, 3) := by decide +kernel
theorem d_Signs_append_32 : decode b_Signs_append 32 = .ok (.return_, 1) := by decide +kernel
theorem d_Signs_length_0 : decode b_Signs_length 0 = .ok (.aload_n 0, 1) := by decide +kernel
theorem d_Signs_length_1 : decode b_Signs_length 1 = .ok (.getfield 15, 3) := by decide +kernel
theorem d_Signs_length_4 : decode b_Signs_length 4 = .ok (.ireturn, 1) := by decide +kernel
theorem d_Signs_takeAll_0 : decode b_Signs_takeAll 0 = .ok (.aload_n 0, 1) := by decide +kernel
theorem d_Signs_takeAll_1 : decode b_Signs_takeAll 1 = .ok (.getfield 15, 3) := by decide +kernel
theorem d_Signs_takeAll_4 : decode b_Signs_takeAll 4 = .ok (.istore_n 1, 1) := by decide +kernel
theorem d_Signs_takeAll_5 : decode b_Signs_takeAll 5 = .ok (.aload_n 0, 1) := by decide +kernel
theorem d_Signs_takeAll_6 : decode b_Signs_takeAll 6 = .ok (.iconst 0, 1) := by decide +kernel
theorem d_Signs_takeAll_7 : decode b_Signs_takeAll 7 = .ok (.putfield 15, 3) := by decide +kernel
theorem d_Signs_takeAll_10 : decode b_Signs_takeAll 10 = .ok (.iload_n 1, 1) := by decide +kernel
theorem d_Signs_takeAll_11 : decode b_Signs_takeAll 11 = .ok (.ireturn, 1) := by decide +kernel
theorem d_Signs_at_0 : decode b_Signs_at 0 = .ok (.iload_n 1, 1) := by decide +kernel
theorem d_Signs_at_1 : decode b_Signs_at 1 = .ok (.ifCond .lt 20, 3) := by decide +kernel
theorem d_Signs_at_4 : decode b_Signs_at 4 = .ok (.iload_n 1, 1) := by decide +kernel
theorem d_Signs_at_5 : decode b_Signs_at 5 = .ok (.aload_n 0, 1) := by decide +kernel
theorem d_Signs_at_6 : decode b_Signs_at 6 = .ok (.getfield 15, 3) := by decide +kernel
theorem d_Signs_at_9 : decode b_Signs_at 9 = .ok (.if_icmp .ge 12, 3) := by decide +kernel
theorem d_Signs_at_12 : decode b_Signs_at 12 = .ok (.aload_n 0, 1) := by decide +kernel
theorem d_Signs_at_13 : decode b_Signs_at 13 = .ok (.getfield 9, 3) := by decide +kernel
theorem d_Signs_at_16 : decode b_Signs_at 16 = .ok (.iload_n 1, 1) := by decide +kernel
theorem d_Signs_at_17 : decode b_Signs_at 17 = .ok (.caload, 1) := by decide +kernel
theorem d_Signs_at_18 : decode b_Signs_at 18 = .ok (.goto 4, 3) := by decide +kernel
theorem d_Signs_at_21 : decode b_Signs_at 21 = .ok (.iconst (-1), 1) := by decide +kernel
theorem d_Signs_at_22 : decode b_Signs_at 22 = .ok (.ireturn, 1) := by decide +kernel
theorem d_Signs_find_0 : decode b_Signs_find 0 = .ok (.iload_n 2, 1) := by decide +kernel
theorem d_Signs_find_1 : decode b_Signs_find 1 = .ok (.istore 4, 2) := by decide +kernel
theorem d_Signs_find_3 : decode b_Signs_find 3 = .ok (.iload 4, 2) := by decide +kernel
theorem d_Signs_find_5 : decode b_Signs_find 5 = .ok (.iload_n 3, 1) := by decide +kernel
theorem d_Signs_find_6 : decode b_Signs_find 6 = .ok (.if_icmp .ge 22, 3) := by decide +kernel
theorem d_Signs_find_9 : decode b_Signs_find 9 = .ok (.aload_n 0, 1) := by decide +kernel
theorem d_Signs_find_10 : decode b_Signs_find 10 = .ok (.iload 4, 2) := by decide +kernel
theorem d_Signs_find_12 : decode b_Signs_find 12 = .ok (.invokevirtual 26, 3) := by decide +kernel
theorem d_Signs_find_15 : decode b_Signs_find 15 = .ok (.iload_n 1, 1) := by decide +kernel
theorem d_Signs_find_16 : decode b_Signs_find 16 = .ok (.if_icmp .ne 6, 3) := by decide +kernel
theorem d_Signs_find_19 : decode b_Signs_find 19 = .ok (.iload 4, 2) := by decide +kernel
theorem d_Signs_find_21 : decode b_Signs_find 21 = .ok (.ireturn, 1) := by decide +kernel
theorem d_Signs_find_22 : decode b_Signs_find 22 = .ok (.iinc 4 1, 3) := by decide +kernel
theorem d_Signs_find_25 : decode b_Signs_find 25 = .ok (.goto (-22), 3) := by decide +kernel
theorem d_Signs_find_28 : decode b_Signs_find 28 = .ok (.iload_n 3, 1) := by decide +kernel
theorem d_Signs_find_29 : decode b_Signs_find 29 = .ok (.ireturn, 1) := by decide +kernel
theorem d_Signs_copy_0 : decode b_Signs_copy 0 = .ok (.new 10, 3) := by decide +kernel
theorem d_Signs_copy_3 : decode b_Signs_copy 3 = .ok (.dup, 1) := by decide +kernel
theorem d_Signs_copy_4 : decode b_Signs_copy 4 = .ok (.aload_n 0, 1) := by decide +kernel
theorem d_Signs_copy_5 : decode b_Signs_copy 5 = .ok (.getfield 15, 3) := by decide +kernel
theorem d_Signs_copy_8 : decode b_Signs_copy 8 = .ok (.invokespecial 19, 3) := by decide +kernel
theorem d_Signs_copy_11 : decode b_Signs_copy 11 = .ok (.astore_n 1, 1) := by decide +kernel
theorem d_Signs_copy_12 : decode b_Signs_copy 12 = .ok (.iconst 0, 1) := by decide +kernel
theorem d_Signs_copy_13 : decode b_Signs_copy 13 = .ok (.istore_n 2, 1) := by decide +kernel
theorem d_Signs_copy_14 : decode b_Signs_copy 14 = .ok (.iload_n 2, 1) := by decide +kernel
theorem d_Signs_copy_15 : decode b_Signs_copy 15 = .ok (.aload_n 0, 1) := by decide +kernel
theorem d_Signs_copy_16 : decode b_Signs_copy 16 = .ok (.getfield 15, 3) := by decide +kernel
theorem d_Signs_copy_19 : decode b_Signs_copy 19 = .ok (.if_icmp .ge 19, 3) := by decide +kernel
theorem d_Signs_copy_22 : decode b_Signs_copy 22 = .ok (.aload_n 1, 1) := by decide +kernel
theorem d_Signs_copy_23 : decode b_Signs_copy 23 = .ok (.aload_n 0, 1) := by decide +kernel
theorem d_Signs_copy_24 : decode b_Signs_copy 24 = .ok (.getfield 9, 3) := by decide +kernel
theorem d_Signs_copy_27 : decode b_Signs_copy 27 = .ok (.iload_n 2, 1) := by decide +kernel
theorem d_Signs_copy_28 : decode b_Signs_copy 28 = .ok (.caload, 1) := by decide +kernel
theorem d_Signs_copy_29 : decode b_Signs_copy 29 = .ok (.invokevirtual 22, 3) := by decide +kernel
theorem d_Signs_copy_32 : decode b_Signs_copy 32 = .ok (.iinc 2 1, 3) := by decide +kernel
theorem d_Signs_copy_35 : decode b_Signs_copy 35 = .ok (.goto (-21), 3) := by decide +kernel
theorem d_Signs_copy_38 : decode b_Signs_copy 38 = .ok (.aload_n 1, 1) := by decide +kernel
theorem d_Signs_copy_39 : decode b_Signs_copy 39 = .ok (.areturn, 1) := by decide +kernel
theorem d_Signs_beginsWithPart_0 : decode b_Signs_beginsWithPart 0 = .ok (.iload_n 3, 1) := by decide +kernel
theorem d_Signs_beginsWithPart_1 : decode b_Signs_beginsWithPart 1 = .ok (.iload_n 2, 1) := by decide +kernel
theorem d_Signs_beginsWithPart_2 : decode b_Signs_beginsWithPart 2 = .ok (.isub, 1) := by decide +kernel
theorem d_Signs_beginsWithPart_3 : decode b_Signs_beginsWithPart 3 = .ok (.aload_n 0, 1) := by decide +kernel
theorem d_Signs_beginsWithPart_4 : decode b_Signs_beginsWithPart 4 = .ok (.getfield 15, 3) := by decide +kernel
theorem d_Signs_beginsWithPart_7 : decode b_Signs_beginsWithPart 7 = .ok (.if_icmp .le 5, 3) := by decide +kernel
theorem d_Signs_beginsWithPart_10 : decode b_Signs_beginsWithPart 10 = .ok (.iconst 0, 1) := by decide +kernel
theorem d_Signs_beginsWithPart_11 : decode b_Signs_beginsWithPart 11 = .ok (.ireturn, 1) := by decide +kernel
theorem d_Signs_beginsWithPart_12 : decode b_Signs_beginsWithPart 12 = .ok (.iload_n 2, 1) := by decide +kernel
theorem d_Signs_beginsWithPart_13 : decode b_Signs_beginsWithPart 13 = .ok (.istore 4, 2) := by decide +kernel
theorem d_Signs_beginsWithPart_15 : decode b_Signs_beginsWithPart 15 = .ok (.iload 4, 2) := by decide +kernel
theorem d_Signs_beginsWithPart_17 : decode b_Signs_beginsWithPart 17 = .ok (.iload_n 3, 1) := by decide +kernel
theorem d_Signs_beginsWithPart_18 : decode b_Signs_beginsWithPart 18 = .ok (.if_icmp .ge 28, 3) := by decide +kernel
theorem d_Signs_beginsWithPart_21 : decode b_Signs_beginsWithPart 21 = .ok (.aload_n 0, 1) := by decide +kernel
theorem d_Signs_beginsWithPart_22 : decode b_Signs_beginsWithPart 22 = .ok (.iload 4, 2) := by decide +kernel
theorem d_Signs_beginsWithPart_24 : decode b_Signs_beginsWithPart 24 = .ok (.iload_n 2, 1) := by decide +kernel
theorem d_Signs_beginsWithPart_25 : decode b_Signs_beginsWithPart 25 = .ok (.isub, 1) := by decide +kernel
theorem d_Signs_beginsWithPart_26 : decode b_Signs_beginsWithPart 26 = .ok (.invokevirtual 26, 3) := by decide +kernel
theorem d_Signs_beginsWithPart_29 : decode b_Signs_beginsWithPart 29 = .ok (.aload_n 1, 1) := by decide +kernel
theorem d_Signs_beginsWithPart_30 : decode b_Signs_beginsWithPart 30 = .ok (.iload 4, 2) := by decide +kernel
theorem d_Signs_beginsWithPart_32 : decode b_Signs_beginsWithPart 32 = .ok (.invokevirtual 26, 3) := by decide +kernel
theorem d_Signs_beginsWithPart_35 : decode b_Signs_beginsWithPart 35 = .ok (.if_icmp .eq 5, 3) := by decide +kernel
theorem d_Signs_beginsWithPart_38 : decode b_Signs_beginsWithPart 38 = .ok (.iconst 0, 1) := by decide +kernel
theorem d_Signs_beginsWithPart_39 : decode b_Signs_beginsWithPart 39 = .ok (.ireturn, 1) := by decide +kernel
theorem d_Signs_beginsWithPart_40 : decode b_Signs_beginsWithPart 40 = .ok (.iinc 4 1, 3) := by decide +kernel
theorem d_Signs_beginsWithPart_43 : decode b_Signs_beginsWithPart 43 = .ok (.goto (-28), 3) := by decide +kernel
theorem d_Signs_beginsWithPart_46 : decode b_Signs_beginsWithPart 46 = .ok (.iconst 1, 1) := by decide +kernel
theorem d_Signs_beginsWithPart_47 : decode b_Signs_beginsWithPart 47 = .ok (.ireturn, 1) := by decide +kernel
theorem d_Signs_isPart_0 : decode b_Signs_isPart 0 = .ok (.aload_n 0, 1) := by decide +kernel
theorem d_Signs_isPart_1 : decode b_Signs_isPart 1 = .ok (.getfield 15, 3) := by decide +kernel
theorem d_Signs_isPart_4 : decode b_Signs_isPart 4 = .ok (.iload_n 3, 1) := by decide +kernel
theorem d_Signs_isPart_5 : decode b_Signs_isPart 5 = .ok (.iload_n 2, 1) := by decide +kernel
theorem d_Signs_isPart_6 : decode b_Signs_isPart 6 = .ok (.isub, 1) := by decide +kernel
theorem d_Signs_isPart_7 : decode b_Signs_isPart 7 = .ok (.if_icmp .ne 17, 3) := by decide +kernel
theorem d_Signs_isPart_10 : decode b_Signs_isPart 10 = .ok (.aload_n 0, 1) := by decide +kernel
theorem d_Signs_isPart_11 : decode b_Signs_isPart 11 = .ok (.aload_n 1, 1) := by decide +kernel
theorem d_Signs_isPart_12 : decode b_Signs_isPart 12 = .ok (.iload_n 2, 1) := by decide +kernel
theorem d_Signs_isPart_13 : decode b_Signs_isPart 13 = .ok (.iload_n 3, 1) := by decide +kernel
theorem d_Signs_isPart_14 : decode b_Signs_isPart 14 = .ok (.invokevirtual 30, 3) := by decide +kernel
theorem d_Signs_isPart_17 : decode b_Signs_isPart 17 = .ok (.ifCond .eq 7, 3) := by decide +kernel
theorem d_Signs_isPart_20 : decode b_Signs_isPart 20 = .ok (.iconst 1, 1) := by decide +kernel
theorem d_Signs_isPart_21 : decode b_Signs_isPart 21 = .ok (.goto 4, 3) := by decide +kernel
theorem d_Signs_isPart_24 : decode b_Signs_isPart 24 = .ok (.iconst 0, 1) := by decide +kernel
theorem d_Signs_isPart_25 : decode b_Signs_isPart 25 = .ok (.ireturn, 1) := by decide +kernel
set_option maxHeartbeats 4000000 in
set_option maxRecDepth 100000 in
/-- length() -/
theorem c_Signs_length (G : GG) (l : Launch) (sz : Nat) (f : Wd) {a r cap n : Nat} {t : Nat → Int32} (h : sg G f a r cap n t) : Ci G l y_Signs_length b_Signs_length 1 (some .int) ({ frames := 0, cells := 0, slots := 0, locals := 0 }) sz f [.ref a] (fun v f' => f = f' ∧ v = nI n) := by
  refine ct_of (by decide) (Nat.le_of_ble_eq_true rfl) ?_
  intro p e s m below meth c ls H locs hEn
  obtain ⟨hc, hr, hlk, hin, hE, hw, hsz, hl⟩ := hEn
  have hx := hc.1
  have hb := hc.2.1
  have hl : lv_has ls 1 [(0, .ref a)] := hl
  obtain ⟨ha, hrw, hn, hcap, hch⟩ := h
  refine lv_aload_n hx hb d_Signs_length_0 rfl (lv_at hl 0 rfl) ?_
  refine m_get hc hE hw ha kc_Signs l_Signs_15_Signs rfl d_Signs_length_1 ?_
  exact m_iret hc hr hlk hw ⟨by first | decide | (dsimp only; omega), by first | decide | (dsimp only; omega)⟩ d_Signs_length_4 ⟨rfl, rfl⟩

set_option maxHeartbeats 4000000 in
set_option maxRecDepth 100000 in
/-- at(i) -/
theorem c_Signs_at (G : GG) (l : Launch) (sz : Nat) (f : Wd) {a r cap n : Nat} {t : Nat → Int32} (h : sg G f a r cap n t) (i : Int32) : Ci G l y_Signs_at b_Signs_at 2 (some .int) ({ frames := 0, cells := 0, slots := 0, locals := 0 }) sz f [.ref a, .int i] (fun v f' => f = f' ∧ v = atv n t i) := by
  refine ct_of (by decide) (Nat.le_of_ble_eq_true rfl) ?_
  intro p e s m below meth c ls H locs hEn
  obtain ⟨hc, hr, hlk, hin, hE, hw, hsz, hl⟩ := hEn
  have hx := hc.1
  have hb := hc.2.1
  have hl : lv_has ls 2 [(0, .ref a), (1, .int i)] := hl
  obtain ⟨ha, hrw, hn, hcap, hch⟩ := h
  refine lv_iload_n hx hb d_Signs_at_0 rfl (lv_at hl 1 rfl) ?_
  refine lv_if_lt (tgt := 21) hx hb d_Signs_at_1 (by decide) (fun c1 => ?_) (fun c1 => ?_)
  · refine lv_iconst (v := (-1)) hx hb d_Signs_at_21 (by decide) ?_
    exact m_iret hc hr hlk hw ⟨by first | decide | (dsimp only; omega), by first | decide | (dsimp only; omega)⟩ d_Signs_at_22 ⟨rfl, (atv_lo c1).symm⟩
  · refine lv_iload_n hx hb d_Signs_at_4 rfl (lv_at hl 1 rfl) ?_
    refine lv_aload_n hx hb d_Signs_at_5 rfl (lv_at hl 0 rfl) ?_
    refine m_get hc hE hw ha kc_Signs l_Signs_15_Signs rfl d_Signs_at_6 ?_
    refine lv_icmp_ge (tgt := 21) hx hb d_Signs_at_9 (by decide) (fun c2 => ?_) (fun c2 => ?_)
    · refine lv_iconst (v := (-1)) hx hb d_Signs_at_21 (by decide) ?_
      exact m_iret hc hr hlk hw ⟨by first | decide | (dsimp only; omega), by first | decide | (dsimp only; omega)⟩ d_Signs_at_22 ⟨rfl, (atv_hi c2).symm⟩
    · refine lv_aload_n hx hb d_Signs_at_12 rfl (lv_at hl 0 rfl) ?_
      refine m_get hc hE hw ha kc_Signs l_Signs_9_Signs rfl d_Signs_at_13 ?_
      refine lv_iload_n hx hb d_Signs_at_16 rfl (lv_at hl 1 rfl) ?_
      refine m_cald hc hE hw 1 hrw rfl (vin c1 c2 hn (by omega)) d_Signs_at_17 ?_
      refine lv_goto (tgt := 22) hx hb d_Signs_at_18 (by decide) ?_
      exact m_iret hc hr hlk hw ⟨by first | decide | (dsimp only; omega), by first | decide | (dsimp only; omega)⟩ d_Signs_at_22 ⟨rfl, (atv_ok c1 c2).symm⟩

set_option maxHeartbeats 4000000 in
set_option maxRecDepth 100000 in
/-- hasRoomFor(i) -/
theorem c_Signs_hasRoomFor (G : GG) (l : Launch) (sz : Nat) (f : Wd) {a r cap n : Nat} {t : Nat → Int32} (h : sg G f a r cap n t) (i : Int32) : Ci G l y_Signs_hasRoomFor b_Signs_hasRoomFor 2 (some .boolean) ({ frames := 0, cells := 0, slots := 0, locals := 0 }) sz f [.ref a, .int i] (fun v f' => f = f' ∧ v = bI (i ≤ nI cap - nI n)) := by
  refine ct_of (by decide) (Nat.le_of_ble_eq_true rfl) ?_
  intro p e s m below meth c ls H locs hEn
  obtain ⟨hc, hr, hlk, hin, hE, hw, hsz, hl⟩ := hEn
  have hx := hc.1
  have hb := hc.2.1
  have hl : lv_has ls 2 [(0, .ref a), (1, .int i)] := hl
  obtain ⟨ha, hrw, hn, hcap, hch⟩ := h
  refine lv_iload_n hx hb d_Signs_hasRoomFor_0 rfl (lv_at hl 1 rfl) ?_
  refine lv_aload_n hx hb d_Signs_hasRoomFor_1 rfl (lv_at hl 0 rfl) ?_
  refine m_get hc hE hw ha kc_Signs l_Signs_9_Signs rfl d_Signs_hasRoomFor_2 ?_
  refine m_alen hc hE hw 1 hrw rfl d_Signs_hasRoomFor_5 ?_
  refine lv_aload_n hx hb d_Signs_hasRoomFor_6 rfl (lv_at hl 0 rfl) ?_
  refine m_get hc hE hw ha kc_Signs l_Signs_15_Signs rfl d_Signs_hasRoomFor_7 ?_
  refine lv_isub hx hb d_Signs_hasRoomFor_10 ?_
  refine lv_icmp_gt (tgt := 18) hx hb d_Signs_hasRoomFor_11 (by decide) (fun c1 => ?_) (fun c1 => ?_)
  · refine lv_iconst (v := 0) hx hb d_Signs_hasRoomFor_18 (by decide) ?_
    exact m_zret hc hr hlk hw ⟨by first | decide | (dsimp only; omega), by first | decide | (dsimp only; omega)⟩ d_Signs_hasRoomFor_19 (by decide) ⟨rfl, (bI_f (Int32.not_le.mpr c1)).symm⟩
  · refine lv_iconst (v := 1) hx hb d_Signs_hasRoomFor_14 (by decide) ?_
    refine lv_goto (tgt := 19) hx hb d_Signs_hasRoomFor_15 (by decide) ?_
    exact m_zret hc hr hlk hw ⟨by first | decide | (dsimp only; omega), by first | decide | (dsimp only; omega)⟩ d_Signs_hasRoomFor_19 (by decide) ⟨rfl, (bI_t (Int32.not_lt.mp c1)).symm⟩

set_option maxHeartbeats 4000000 in
set_option maxRecDepth 100000 in
/-- append(i) -/
theorem c_Signs_append (G : GG) (l : Launch) (sz : Nat) (f : Wd) {a r cap n : Nat} {t : Nat → Int32} (h : sg G f a r cap n t) (i : Int32) : Cv G l y_Signs_append b_Signs_append 2 none ({ frames := 0, cells := 0, slots := 0, locals := 0 }) sz f [.ref a, .int i] (fun f' => (n < cap → f' = va_up (va_up f r (some (.inl (G.2.1 1, cap, .inl (upd t n (vp_nar .char i)))))) a (some (.inr (1, [.ref r, .int (nI (n + 1))])))) ∧ (¬ n < cap → f' = f)) := by
  refine ct_of (by decide) (Nat.le_of_ble_eq_true rfl) ?_
  intro p e s m below meth c ls H locs hEn
  obtain ⟨hc, hr, hlk, hin, hE, hw, hsz, hl⟩ := hEn
  have hx := hc.1
  have hb := hc.2.1
  have hl : lv_has ls 2 [(0, .ref a), (1, .int i)] := hl
  obtain ⟨ha, hrw, hn, hcap, hch⟩ := h
  refine lv_aload_n hx hb d_Signs_append_0 rfl (lv_at hl 0 rfl) ?_
  refine m_get hc hE hw ha kc_Signs l_Signs_15_Signs rfl d_Signs_append_1 ?_
  refine lv_aload_n hx hb d_Signs_append_4 rfl (lv_at hl 0 rfl) ?_
  refine m_get hc hE hw ha kc_Signs l_Signs_9_Signs rfl d_Signs_append_5 ?_
  refine m_alen hc hE hw 1 hrw rfl d_Signs_append_8 ?_
  refine lv_icmp_ge (tgt := 32) hx hb d_Signs_append_9 (by decide) (fun c1 => ?_) (fun c1 => ?_)
  · exact m_vret hc hr hlk hw ⟨by first | decide | (dsimp only; omega), by first | decide | (dsimp only; omega)⟩ d_Signs_append_32 ⟨fun z => absurd ((nI_leI (by omega) (by omega)).mp c1) (by omega), fun _ => rfl⟩
  · refine lv_aload_n hx hb d_Signs_append_12 rfl (lv_at hl 0 rfl) ?_
    refine m_get hc hE hw ha kc_Signs l_Signs_9_Signs rfl d_Signs_append_13 ?_
    refine lv_aload_n hx hb d_Signs_append_16 rfl (lv_at hl 0 rfl) ?_
    refine m_get hc hE hw ha kc_Signs l_Signs_15_Signs rfl d_Signs_append_17 ?_
    refine lv_iload_n hx hb d_Signs_append_20 rfl (lv_at hl 1 rfl) ?_
    refine m_cast hc hE hw 1 hrw rfl (vp_in_nI (Nat.not_le.mp (fun z => c1 (nI_le z (by omega)))) (by omega)) d_Signs_append_21 (fun H locs hw => ?_)
    obtain ⟨f2, ef2⟩ : ∃ z : Wd, z = va_up f r (some (.inl (G.2.1 1, cap, .inl (upd t (nI n).toNatClampNeg (vp_nar .char i))))) := ⟨_, rfl⟩
    replace hw : ms G.1 (Af f sz) f2 s H locs := by rw [ef2]; exact hw
    have h3 : f2 a = some (.inr (1, [.ref r, .int (nI n)])) := by rw [ef2, va_up_ne _ _ (wne ha hrw wd_oa)]; exact ha
    have h4 : f2 r = some (.inl (G.2.1 1, cap, .inl (upd t (nI n).toNatClampNeg (vp_nar .char i)))) := by rw [ef2, va_up_self]
    refine lv_aload_n hx hb d_Signs_append_22 rfl (lv_at hl 0 rfl) ?_
    refine lv_dup hx hb d_Signs_append_23 rfl ?_
    refine m_get hc hE hw h3 kc_Signs l_Signs_15_Signs rfl d_Signs_append_24 ?_
    refine lv_iconst (v := 1) hx hb d_Signs_append_27 (by decide) ?_
    refine lv_iadd hx hb d_Signs_append_28 ?_
    refine m_put hc hE hw h3 kc_Signs l_Signs_15_Signs rfl ds_Signs_1 rfl rfl (Nat.le_of_ble_eq_true rfl) d_Signs_append_29 (fun H locs hw => ?_)
    obtain ⟨f5, ef5⟩ : ∃ z : Wd, z = va_up f2 a (some (.inr (1, [.ref r, .int ((nI n) + 1)]))) := ⟨_, rfl⟩
    replace hw : ms G.1 (Af f sz) f5 s H locs := by rw [ef5]; exact hw
    have h6 : f5 r = some (.inl (G.2.1 1, cap, .inl (upd t (nI n).toNatClampNeg (vp_nar .char i)))) := by rw [ef5, va_up_ne _ _ (wne h4 h3 wd_ao)]; exact h4
    have h7 : f5 a = some (.inr (1, [.ref r, .int ((nI n) + 1)])) := by rw [ef5, va_up_self]
    have hlt : n < cap := Nat.not_le.mp (fun z => c1 (nI_le z (by omega)))
    exact m_vret hc hr hlk hw ⟨by first | decide | (dsimp only; omega), by first | decide | (dsimp only; omega)⟩ d_Signs_append_32 ⟨fun _ => by rw [ef5, ef2, nI_clamp (by omega), nI_1], fun z => absurd hlt z⟩

set_option maxHeartbeats 4000000 in
set_option maxRecDepth 100000 in
/-- takeAll() -/
theorem c_Signs_takeAll (G : GG) (l : Launch) (sz : Nat) (f : Wd) {a r cap n : Nat} {t : Nat → Int32} (h : sg G f a r cap n t) : Ci G l y_Signs_takeAll b_Signs_takeAll 2 (some .int) ({ frames := 0, cells := 0, slots := 0, locals := 0 }) sz f [.ref a] (fun v f' => v = nI n ∧ f' = va_up f a (some (.inr (1, [.ref r, .int 0])))) := by
  refine ct_of (by decide) (Nat.le_of_ble_eq_true rfl) ?_
  intro p e s m below meth c ls H locs hEn
  obtain ⟨hc, hr, hlk, hin, hE, hw, hsz, hl⟩ := hEn
  have hx := hc.1
  have hb := hc.2.1
  have hl : lv_has ls 2 [(0, .ref a)] := hl
  obtain ⟨ha, hrw, hn, hcap, hch⟩ := h
  refine lv_aload_n hx hb d_Signs_takeAll_0 rfl (lv_at hl 0 rfl) ?_
  refine m_get hc hE hw ha kc_Signs l_Signs_15_Signs rfl d_Signs_takeAll_1 ?_
  refine lv_istore_n (lv' := [(1, .int (nI n)), (0, .ref a)]) hx hb d_Signs_takeAll_4 rfl hl (by decide) rfl (fun ls hl => ?_)
  refine lv_aload_n hx hb d_Signs_takeAll_5 rfl (lv_at hl 1 rfl) ?_
  refine lv_iconst (v := 0) hx hb d_Signs_takeAll_6 (by decide) ?_
  refine m_put hc hE hw ha kc_Signs l_Signs_15_Signs rfl ds_Signs_1 rfl rfl (Nat.le_of_ble_eq_true rfl) d_Signs_takeAll_7 (fun H locs hw => ?_)
  obtain ⟨f1, ef1⟩ : ∃ z : Wd, z = va_up f a (some (.inr (1, [.ref r, .int 0]))) := ⟨_, rfl⟩
  replace hw : ms G.1 (Af f sz) f1 s H locs := by rw [ef1]; exact hw
  have h2 : f1 r = some (.inl (G.2.1 1, cap, .inl t)) := by rw [ef1, va_up_ne _ _ (wne hrw ha wd_ao)]; exact hrw
  have h3 : f1 a = some (.inr (1, [.ref r, .int 0])) := by rw [ef1, va_up_self]
  refine lv_iload_n hx hb d_Signs_takeAll_10 rfl (lv_at hl 0 rfl) ?_
  exact m_iret hc hr hlk hw ⟨by first | decide | (dsimp only; omega), by first | decide | (dsimp only; omega)⟩ d_Signs_takeAll_11 ⟨rfl, ef1⟩

set_option maxHeartbeats 4000000 in
set_option maxRecDepth 100000 in
/-- find(x, i0, i1) -/
theorem c_Signs_find (G : GG) (l : Launch) (sz : Nat) (f : Wd) {a r cap n : Nat} {t : Nat → Int32} (h : sg G f a r cap n t) (x : Int32) {i0 i1 : Nat} (h1 : i0 ≤ i1) (h2 : i1 ≤ n) : Ci G l y_Signs_find b_Signs_find 5 (some .int) ({ frames := 1, cells := 0, slots := 0, locals := 21 }) sz f [.ref a, .int x, .int (nI i0), .int (nI i1)] (fun v f' => f = f' ∧ v = nI (fnd t x (i1 - i0) i0)) := by
  refine ct_of (by decide) (Nat.le_of_ble_eq_true rfl) ?_
  intro p e s m below meth c ls H locs hEn
  obtain ⟨hc, hr, hlk, hin, hE, hw, hsz, hl⟩ := hEn
  have hx := hc.1
  have hb := hc.2.1
  have hl : lv_has ls 5 [(0, .ref a), (1, .int x), (2, .int (nI i0)), (3, .int (nI i1))] := hl
  obtain ⟨ha, hrw, hn, hcap, hch⟩ := h
  have loop : ∀ (fu : Nat) (i : Nat) (ls : Array Slot) (H : Heap) (locs : List Loc), i1 - i < fu → i0 ≤ i → i ≤ i1 → (∀ j, i0 ≤ j → j < i → ¬ t j = x) → ms G.1 (Af f sz) f s H locs → lv_has ls 5 [(4, .int (nI i)), (0, .ref a), (1, .int x), (2, .int (nI i0)), (3, .int (nI i1))] → W p l e ({ frames := 1, cells := 0, slots := 0, locals := 21 }) s m ([.ref a, .int x, .int (nI i0), .int (nI i1)] : List Value).toArray below meth c H locs 0 0 (MQ below (va_Qi (fun v f' => f = f' ∧ v = nI (fnd t x (i1 - i0) i0)) (Bw G f sz) (Af f sz)) ([.ref a, .int x, .int (nI i0), .int (nI i1)] : List Value).toArray s 0 0 (Af f sz)) (F0 m 3 ls []) := by
    intro fu
    induction fu with
    | zero => intro i ls H locs h0; exact absurd h0 (Nat.not_lt_zero _)
    | succ fu ih =>
      intro i ls H locs hfu hi1 hi2 hm hw hl
      have hb1 : i1 ≤ 90 := by omega
      refine lv_iload hx hb d_Signs_find_3 (lv_at hl 0 rfl) ?_
      refine lv_iload_n hx hb d_Signs_find_5 rfl (lv_at hl 4 rfl) ?_
      refine lv_icmp_ge (tgt := 28) hx hb d_Signs_find_6 (by decide) (fun c1 => ?_) (fun c1 => ?_)
      · refine lv_iload_n hx hb d_Signs_find_28 rfl (lv_at hl 4 rfl) ?_
        exact m_iret hc hr hlk hw ⟨by first | decide | (dsimp only; omega), by first | decide | (dsimp only; omega)⟩ d_Signs_find_29 ⟨rfl, congrArg nI (fnd_eq h1 (Nat.le_refl _) (fun j q1 q2 => hm j q1 (by have := (nI_leI (by omega) (by omega)).mp c1; omega)) (fun z => absurd z (Nat.lt_irrefl _))).symm⟩
      · refine lv_aload_n hx hb d_Signs_find_9 rfl (lv_at hl 1 rfl) ?_
        refine lv_iload hx hb d_Signs_find_10 (lv_at hl 0 rfl) ?_
        refine m_calli hw (m_runV (As := [.int (nI i)]) (rest := []) hc hE hw (c_Signs_at G l H.size f ⟨ha, hrw, hn, hcap, hch⟩ (nI i)) ha rfl cw_Signs_26 se_Signs_at rfl hl.1 rfl (Nat.le_of_ble_eq_true rfl) d_Signs_find_12 ⟨rfl, rfl, by decide, by decide⟩ ⟨by first | decide | (dsimp only; omega), by first | decide | (dsimp only; omega)⟩) (fun r4 g3 H locs p2 hw => ?_)
        obtain ⟨rfl, p2⟩ := p2
        refine lv_iload_n hx hb d_Signs_find_15 rfl (lv_at hl 2 rfl) ?_
        refine lv_icmp_ne (tgt := 22) hx hb d_Signs_find_16 (by decide) (fun c5 => ?_) (fun c5 => ?_)
        · refine lv_iinc (v := (nI (i + 1))) (lv' := [(4, .int (nI (i + 1))), (0, .ref a), (1, .int x), (2, .int (nI i0)), (3, .int (nI i1))]) hx hb d_Signs_find_22 hl (k := 0) rfl (nI_1 _) (by decide) rfl (fun ls hl => ?_)
          refine lv_goto (tgt := 3) hx hb d_Signs_find_25 (by decide) ?_
          have hlt : i < i1 := Nat.not_le.mp (fun z => c1 (nI_le z (by omega)))
          have hne : ¬ t i = x := fun z => c5 (by rw [p2, atv_in (by omega) (by omega)]; exact z)
          exact ih (i + 1) ls H locs (by omega) (by omega) (by omega) (fun j q1 q2 => by rcases Nat.lt_or_ge j i with q | q; exact hm j q1 q; exact (show j = i by omega) ▸ hne) hw (lv_sub hl [0, 1, 2, 3, 4] rfl)
        · refine lv_iload hx hb d_Signs_find_19 (lv_at hl 0 rfl) ?_
          have hlt : i < i1 := Nat.not_le.mp (fun z => c1 (nI_le z (by omega)))
          exact m_iret hc hr hlk hw ⟨by first | decide | (dsimp only; omega), by first | decide | (dsimp only; omega)⟩ d_Signs_find_21 ⟨rfl, congrArg nI (fnd_eq hi1 hi2 hm (fun _ => by rw [← c5, p2, atv_in (by omega) (by omega)])).symm⟩
  refine lv_iload_n hx hb d_Signs_find_0 rfl (lv_at hl 2 rfl) ?_
  refine lv_istore (lv' := [(4, .int (nI i0)), (0, .ref a), (1, .int x), (2, .int (nI i0)), (3, .int (nI i1))]) hx hb d_Signs_find_1 hl (by decide) rfl (fun ls hl => ?_)
  exact loop (i1 - i0 + 1) i0 ls H locs (by omega) (Nat.le_refl _) h1 (fun j q1 q2 => absurd q2 (by omega)) hw (lv_sub hl [0, 1, 2, 3, 4] rfl)

set_option maxHeartbeats 4000000 in
set_option maxRecDepth 100000 in
/-- beginsWithPart(o, i0, i1) -/
theorem c_Signs_beginsWithPart (G : GG) (l : Launch) (sz : Nat) (f : Wd) {a r cap n : Nat} {t : Nat → Int32} (h : sg G f a r cap n t) {a2 r2 cap2 n2 : Nat} {t2 : Nat → Int32} (hh : sg G f a2 r2 cap2 n2 t2) {i0 i1 : Nat} (h1 : i0 ≤ i1) (h2 : i1 ≤ n2) : Ci G l y_Signs_beginsWithPart b_Signs_beginsWithPart 5 (some .boolean) ({ frames := 1, cells := 0, slots := 0, locals := 21 }) sz f [.ref a, .ref a2, .int (nI i0), .int (nI i1)] (fun v f' => f = f' ∧ v = bI (i1 - i0 ≤ n ∧ ∀ j, j < i1 - i0 → t j = t2 (i0 + j))) := by
  refine ct_of (by decide) (Nat.le_of_ble_eq_true rfl) ?_
  intro p e s m below meth c ls H locs hEn
  obtain ⟨hc, hr, hlk, hin, hE, hw, hsz, hl⟩ := hEn
  have hx := hc.1
  have hb := hc.2.1
  have hl : lv_has ls 5 [(0, .ref a), (1, .ref a2), (2, .int (nI i0)), (3, .int (nI i1))] := hl
  obtain ⟨ha, hrw, hn, hcap, hch⟩ := h
  obtain ⟨hga, hgr, hgn, hgcap, hgch⟩ := hh
  have loop : ∀ (fu : Nat) (i : Nat) (ls : Array Slot) (H : Heap) (locs : List Loc), i1 - i < fu → i0 ≤ i → i ≤ i1 → i1 - i0 ≤ n → (∀ j, j < i - i0 → t j = t2 (i0 + j)) → ms G.1 (Af f sz) f s H locs → lv_has ls 5 [(4, .int (nI i)), (0, .ref a), (1, .ref a2), (2, .int (nI i0)), (3, .int (nI i1))] → W p l e ({ frames := 1, cells := 0, slots := 0, locals := 21 }) s m ([.ref a, .ref a2, .int (nI i0), .int (nI i1)] : List Value).toArray below meth c H locs 0 0 (MQ below (va_Qi (fun v f' => f = f' ∧ v = bI (i1 - i0 ≤ n ∧ ∀ j, j < i1 - i0 → t j = t2 (i0 + j))) (Bw G f sz) (Af f sz)) ([.ref a, .ref a2, .int (nI i0), .int (nI i1)] : List Value).toArray s 0 0 (Af f sz)) (F0 m 15 ls []) := by
    intro fu
    induction fu with
    | zero => intro i ls H locs h0; exact absurd h0 (Nat.not_lt_zero _)
    | succ fu ih =>
      intro i ls H locs hfu hi1 hi2 hle hm hw hl
      have hb1 : i1 ≤ 90 := by omega
      refine lv_iload hx hb d_Signs_beginsWithPart_15 (lv_at hl 0 rfl) ?_
      refine lv_iload_n hx hb d_Signs_beginsWithPart_17 rfl (lv_at hl 4 rfl) ?_
      refine lv_icmp_ge (tgt := 46) hx hb d_Signs_beginsWithPart_18 (by decide) (fun c1 => ?_) (fun c1 => ?_)
      · refine lv_iconst (v := 1) hx hb d_Signs_beginsWithPart_46 (by decide) ?_
        exact m_zret hc hr hlk hw ⟨by first | decide | (dsimp only; omega), by first | decide | (dsimp only; omega)⟩ d_Signs_beginsWithPart_47 (by decide) ⟨rfl, (bI_t ⟨hle, fun j q => hm j (by have := (nI_leI (by omega) (by omega)).mp c1; omega)⟩).symm⟩
      · refine lv_aload_n hx hb d_Signs_beginsWithPart_21 rfl (lv_at hl 1 rfl) ?_
        refine lv_iload hx hb d_Signs_beginsWithPart_22 (lv_at hl 0 rfl) ?_
        refine lv_iload_n hx hb d_Signs_beginsWithPart_24 rfl (lv_at hl 3 rfl) ?_
        refine lv_isub hx hb d_Signs_beginsWithPart_25 ?_
        refine m_top (y := (nI (i - i0))) (pk_sub hi1) ?_
        refine m_calli hw (m_runV (As := [.int (nI (i - i0))]) (rest := []) hc hE hw (c_Signs_at G l H.size f ⟨ha, hrw, hn, hcap, hch⟩ (nI (i - i0))) ha rfl cw_Signs_26 se_Signs_at rfl hl.1 rfl (Nat.le_of_ble_eq_true rfl) d_Signs_beginsWithPart_26 ⟨rfl, rfl, by decide, by decide⟩ ⟨by first | decide | (dsimp only; omega), by first | decide | (dsimp only; omega)⟩) (fun r4 g3 H locs p2 hw => ?_)
        obtain ⟨rfl, p2⟩ := p2
        refine lv_aload_n hx hb d_Signs_beginsWithPart_29 rfl (lv_at hl 2 rfl) ?_
        refine lv_iload hx hb d_Signs_beginsWithPart_30 (lv_at hl 0 rfl) ?_
        refine m_calli hw (m_runV (As := [.int (nI i)]) (rest := [.int r4]) hc hE hw (c_Signs_at G l H.size f ⟨hga, hgr, hgn, hgcap, hgch⟩ (nI i)) hga rfl cw_Signs_26 se_Signs_at rfl hl.1 rfl (Nat.le_of_ble_eq_true rfl) d_Signs_beginsWithPart_32 ⟨rfl, rfl, by decide, by decide⟩ ⟨by first | decide | (dsimp only; omega), by first | decide | (dsimp only; omega)⟩) (fun r7 g6 H locs p5 hw => ?_)
        obtain ⟨rfl, p5⟩ := p5
        refine lv_icmp_eq (tgt := 40) hx hb d_Signs_beginsWithPart_35 (by decide) (fun c8 => ?_) (fun c8 => ?_)
        · refine lv_iinc (v := (nI (i + 1))) (lv' := [(4, .int (nI (i + 1))), (0, .ref a), (1, .ref a2), (2, .int (nI i0)), (3, .int (nI i1))]) hx hb d_Signs_beginsWithPart_40 hl (k := 0) rfl (nI_1 _) (by decide) rfl (fun ls hl => ?_)
          refine lv_goto (tgt := 15) hx hb d_Signs_beginsWithPart_43 (by decide) ?_
          have hlt : i < i1 := Nat.not_le.mp (fun z => c1 (nI_le z (by omega)))
          have heq : t (i - i0) = t2 i := by have z := c8; rw [p2, p5, atv_in (by omega) (by omega), atv_in (by omega) (by omega)] at z; exact z
          exact ih (i + 1) ls H locs (by omega) (by omega) (by omega) hle (fun j q => by rcases Nat.lt_or_ge j (i - i0) with q1 | q1; exact hm j q1; rw [show j = i - i0 by omega, heq, show i0 + (i - i0) = i by omega]) hw (lv_sub hl [0, 1, 2, 3, 4] rfl)
        · refine lv_iconst (v := 0) hx hb d_Signs_beginsWithPart_38 (by decide) ?_
          have hlt : i < i1 := Nat.not_le.mp (fun z => c1 (nI_le z (by omega)))
          have hne : ¬ t (i - i0) = t2 i := fun z => c8 (by rw [p2, p5, atv_in (by omega) (by omega), atv_in (by omega) (by omega)]; exact z)
          exact m_zret hc hr hlk hw ⟨by first | decide | (dsimp only; omega), by first | decide | (dsimp only; omega)⟩ d_Signs_beginsWithPart_39 (by decide) ⟨rfl, (bI_f (fun z => hne (by have := z.2 (i - i0) (by omega); rw [show i0 + (i - i0) = i by omega] at this; exact this))).symm⟩
  refine lv_iload_n hx hb d_Signs_beginsWithPart_0 rfl (lv_at hl 3 rfl) ?_
  refine lv_iload_n hx hb d_Signs_beginsWithPart_1 rfl (lv_at hl 2 rfl) ?_
  refine lv_isub hx hb d_Signs_beginsWithPart_2 ?_
  refine m_top (y := (nI (i1 - i0))) (pk_sub h1) ?_
  refine lv_aload_n hx hb d_Signs_beginsWithPart_3 rfl (lv_at hl 0 rfl) ?_
  refine m_get hc hE hw ha kc_Signs l_Signs_15_Signs rfl d_Signs_beginsWithPart_4 ?_
  refine lv_icmp_le (tgt := 12) hx hb d_Signs_beginsWithPart_7 (by decide) (fun c9 => ?_) (fun c9 => ?_)
  · refine lv_iload_n hx hb d_Signs_beginsWithPart_12 rfl (lv_at hl 2 rfl) ?_
    refine lv_istore (lv' := [(4, .int (nI i0)), (0, .ref a), (1, .ref a2), (2, .int (nI i0)), (3, .int (nI i1))]) hx hb d_Signs_beginsWithPart_13 hl (by decide) rfl (fun ls hl => ?_)
    exact loop (i1 - i0 + 1) i0 ls H locs (by omega) (Nat.le_refl _) h1 ((nI_leI (by omega) (by omega)).mp c9) (fun j q => absurd q (by omega)) hw (lv_sub hl [0, 1, 2, 3, 4] rfl)
  · refine lv_iconst (v := 0) hx hb d_Signs_beginsWithPart_10 (by decide) ?_
    exact m_zret hc hr hlk hw ⟨by first | decide | (dsimp only; omega), by first | decide | (dsimp only; omega)⟩ d_Signs_beginsWithPart_11 (by decide) ⟨rfl, (bI_f (fun z => c9 (nI_le z.1 (by omega)))).symm⟩

set_option maxHeartbeats 4000000 in
set_option maxRecDepth 100000 in
/-- isPart(o, i0, i1) -/
theorem c_Signs_isPart (G : GG) (l : Launch) (sz : Nat) (f : Wd) {a r cap n : Nat} {t : Nat → Int32} (h : sg G f a r cap n t) {a2 r2 cap2 n2 : Nat} {t2 : Nat → Int32} (hh : sg G f a2 r2 cap2 n2 t2) {i0 i1 : Nat} (h1 : i0 ≤ i1) (h2 : i1 ≤ n2) : Ci G l y_Signs_isPart b_Signs_isPart 4 (some .boolean) ({ frames := 2, cells := 0, slots := 0, locals := 45 }) sz f [.ref a, .ref a2, .int (nI i0), .int (nI i1)] (fun v f' => f = f' ∧ v = bI (n = i1 - i0 ∧ ∀ j, j < n → t j = t2 (i0 + j))) := by
  refine ct_of (by decide) (Nat.le_of_ble_eq_true rfl) ?_
  intro p e s m below meth c ls H locs hEn
  obtain ⟨hc, hr, hlk, hin, hE, hw, hsz, hl⟩ := hEn
  have hx := hc.1
  have hb := hc.2.1
  have hl : lv_has ls 4 [(0, .ref a), (1, .ref a2), (2, .int (nI i0)), (3, .int (nI i1))] := hl
  obtain ⟨ha, hrw, hn, hcap, hch⟩ := h
  obtain ⟨hga, hgr, hgn, hgcap, hgch⟩ := hh
  refine lv_aload_n hx hb d_Signs_isPart_0 rfl (lv_at hl 0 rfl) ?_
  refine m_get hc hE hw ha kc_Signs l_Signs_15_Signs rfl d_Signs_isPart_1 ?_
  refine lv_iload_n hx hb d_Signs_isPart_4 rfl (lv_at hl 3 rfl) ?_
  refine lv_iload_n hx hb d_Signs_isPart_5 rfl (lv_at hl 2 rfl) ?_
  refine lv_isub hx hb d_Signs_isPart_6 ?_
  refine m_top (y := (nI (i1 - i0))) (pk_sub h1) ?_
  refine lv_icmp_ne (tgt := 24) hx hb d_Signs_isPart_7 (by decide) (fun c1 => ?_) (fun c1 => ?_)
  · refine lv_iconst (v := 0) hx hb d_Signs_isPart_24 (by decide) ?_
    exact m_zret hc hr hlk hw ⟨by first | decide | (dsimp only; omega), by first | decide | (dsimp only; omega)⟩ d_Signs_isPart_25 (by decide) ⟨rfl, (bI_f (fun z => c1 (congrArg nI z.1))).symm⟩
  · refine lv_aload_n hx hb d_Signs_isPart_10 rfl (lv_at hl 0 rfl) ?_
    refine lv_aload_n hx hb d_Signs_isPart_11 rfl (lv_at hl 1 rfl) ?_
    refine lv_iload_n hx hb d_Signs_isPart_12 rfl (lv_at hl 2 rfl) ?_
    refine lv_iload_n hx hb d_Signs_isPart_13 rfl (lv_at hl 3 rfl) ?_
    refine m_calli hw (m_runV (As := [.ref a2, .int (nI i0), .int (nI i1)]) (rest := []) hc hE hw (c_Signs_beginsWithPart G l H.size f ⟨ha, hrw, hn, hcap, hch⟩ ⟨hga, hgr, hgn, hgcap, hgch⟩ h1 h2) ha rfl cw_Signs_30 se_Signs_beginsWithPart rfl hl.1 rfl (Nat.le_of_ble_eq_true rfl) d_Signs_isPart_14 ⟨rfl, rfl, by decide, by decide⟩ ⟨by first | decide | (dsimp only; omega), by first | decide | (dsimp only; omega)⟩) (fun r4 g3 H locs p2 hw => ?_)
    obtain ⟨rfl, p2⟩ := p2
    refine lv_if_eq (tgt := 24) hx hb d_Signs_isPart_17 (by decide) (fun c5 => ?_) (fun c5 => ?_)
    · refine lv_iconst (v := 0) hx hb d_Signs_isPart_24 (by decide) ?_
      exact m_zret hc hr hlk hw ⟨by first | decide | (dsimp only; omega), by first | decide | (dsimp only; omega)⟩ d_Signs_isPart_25 (by decide) ⟨rfl, (bI_f (fun z => (bI_0.mp (p2.symm.trans c5)) ⟨by omega, fun j q => z.2 j (by omega)⟩)).symm⟩
    · refine lv_iconst (v := 1) hx hb d_Signs_isPart_20 (by decide) ?_
      refine lv_goto (tgt := 25) hx hb d_Signs_isPart_21 (by decide) ?_
      have hq := bI_n.mp (fun z => c5 (p2.trans z))
      have hnn : n = i1 - i0 := (nI_eq (by omega) (by omega)).mp c1
      exact m_zret hc hr hlk hw ⟨by first | decide | (dsimp only; omega), by first | decide | (dsimp only; omega)⟩ d_Signs_isPart_25 (by decide) ⟨rfl, (bI_t ⟨hnn, fun j q => hq.2 j (by omega)⟩).symm⟩

set_option maxHeartbeats 4000000 in
set_option maxRecDepth 100000 in
/-- Signs(N) -/
theorem c_Signs_init (G : GG) (l : Launch) (sz : Nat) (f : Wd) {a : Nat} (ha : f a = some (.inr (1, [.null, .int 0]))) {N : Nat} (hN : N ≤ 90) : Cv G l y_Signs_init b_Signs_init 2 none ({ frames := 1, cells := 1, slots := 90, locals := 12 }) sz f [.ref a, .int (nI N)] (fun f' => ∃ q : Nat, f q = none ∧ f' = va_up (va_up f q (some (.inl (G.2.1 1, N, .inl (fun _ => 0))))) a (some (.inr (1, [.ref q, .int 0])))) := by
  refine ct_of (by decide) (Nat.le_of_ble_eq_true rfl) ?_
  intro p e s m below meth c ls H locs hEn
  obtain ⟨hc, hr, hlk, hin, hE, hw, hsz, hl⟩ := hEn
  have hx := hc.1
  have hb := hc.2.1
  have hl : lv_has ls 2 [(0, .ref a), (1, .int (nI N))] := hl
  refine lv_aload_n hx hb d_Signs_init_0 rfl (lv_at hl 0 rfl) ?_
  refine m_objInit hc oi_Signs_3 oi_w hl.1 d_Signs_init_1 (Nat.le_of_ble_eq_true rfl) (Nat.le_of_ble_eq_true rfl) ?_
  refine lv_aload_n hx hb d_Signs_init_4 rfl (lv_at hl 0 rfl) ?_
  refine lv_iload_n hx hb d_Signs_init_5 rfl (lv_at hl 1 rfl) ?_
  refine m_newa hc hE hw (N' := N) (a0 := (N, .inl (fun _ => 0))) ar_char rfl 1 rfl (fun _ => rfl) (nI_pos (by omega)) (nI_clamp (by omega)) (by show N * 2 ≤ 536870912; omega) (by first | decide | (dsimp only; omega)) (by first | decide | (dsimp only; omega)) d_Signs_init_6 (fun q1 H u2 hw => ?_)
  obtain ⟨f3, ef3⟩ : ∃ z : Wd, z = va_up f q1 (some (.inl (G.2.1 1, N, .inl (fun _ => 0)))) := ⟨_, rfl⟩
  replace hw : ms G.1 (Af f sz) f3 s H locs := by rw [ef3]; exact hw
  have n_a_q1 : a ≠ q1 := wnf ha u2
  have h4 : f3 a = some (.inr (1, [.null, .int 0])) := by rw [ef3, va_up_ne _ _ n_a_q1]; exact ha
  have h5 : f3 q1 = some (.inl (G.2.1 1, N, .inl (fun _ => 0))) := by rw [ef3, va_up_self]
  refine m_putF hc hE hw hin h4 kc_Signs lf_Signs_9_Signs rfl rfl ds_Signs_0 rfl rfl (Nat.le_of_ble_eq_true rfl) d_Signs_init_8 (fun H locs hw => ?_)
  obtain ⟨f6, ef6⟩ : ∃ z : Wd, z = va_up f3 a (some (.inr (1, [.ref q1, .int 0]))) := ⟨_, rfl⟩
  replace hw : ms G.1 (Af f sz) f6 s H locs := by rw [ef6]; exact hw
  have h7 : f6 q1 = some (.inl (G.2.1 1, N, .inl (fun _ => 0))) := by rw [ef6, va_up_ne _ _ (Ne.symm n_a_q1)]; exact h5
  have h8 : f6 a = some (.inr (1, [.ref q1, .int 0])) := by rw [ef6, va_up_self]
  refine lv_aload_n hx hb d_Signs_init_11 rfl (lv_at hl 0 rfl) ?_
  refine lv_iconst (v := 0) hx hb d_Signs_init_12 (by decide) ?_
  refine m_put hc hE hw h8 kc_Signs l_Signs_15_Signs rfl ds_Signs_1 rfl rfl (Nat.le_of_ble_eq_true rfl) d_Signs_init_13 (fun H locs hw => ?_)
  obtain ⟨f9, ef9⟩ : ∃ z : Wd, z = va_up f6 a (some (.inr (1, [.ref q1, .int 0]))) := ⟨_, rfl⟩
  replace hw : ms G.1 (Af f sz) f9 s H locs := by rw [ef9]; exact hw
  have h10 : f9 q1 = some (.inl (G.2.1 1, N, .inl (fun _ => 0))) := by rw [ef9, va_up_ne _ _ (Ne.symm n_a_q1)]; exact h7
  have h11 : f9 a = some (.inr (1, [.ref q1, .int 0])) := by rw [ef9, va_up_self]
  exact m_vret hc hr hlk hw ⟨by first | decide | (dsimp only; omega), by first | decide | (dsimp only; omega)⟩ d_Signs_init_16 ⟨q1, u2, by rw [ef9, ef6, ef3, up_uu]⟩

set_option maxHeartbeats 4000000 in
set_option maxRecDepth 100000 in
/-- copy() -/
theorem c_Signs_copy (G : GG) (l : Launch) (sz : Nat) (f : Wd) {a r cap n : Nat} {t : Nat → Int32} (h : sg G f a r cap n t) : Cq G l y_Signs_copy b_Signs_copy 3 (some (.object "StreamFilters$Signs")) ({ frames := 2, cells := 2, slots := 92, locals := 33 }) sz f [.ref a] (fun v f' => ∃ (q q2 : Nat) (u : Nat → Int32), v = some q ∧ f q = none ∧ f q2 = none ∧ q ≠ q2 ∧ f' = va_up (va_up f q2 (some (.inl (G.2.1 1, n, .inl u)))) q (some (.inr (1, [.ref q2, .int (nI n)]))) ∧ ∀ j, j < n → u j = t j) := by
  refine ct_of (by decide) (Nat.le_of_ble_eq_true rfl) ?_
  intro p e s m below meth c ls H locs hEn
  obtain ⟨hc, hr, hlk, hin, hE, hw, hsz, hl⟩ := hEn
  have hx := hc.1
  have hb := hc.2.1
  have hl : lv_has ls 3 [(0, .ref a)] := hl
  obtain ⟨ha, hrw, hn, hcap, hch⟩ := h
  refine m_new hc hE hw (fs := [.null, .int 0]) kc_Signs nw_Signs_10 bl_Signs (by first | decide | (dsimp only; omega)) (by first | decide | (dsimp only; omega)) d_Signs_copy_0 (fun q1 H u2 hw => ?_)
  obtain ⟨f3, ef3⟩ : ∃ z : Wd, z = va_up f q1 (some (.inr (1, [.null, .int 0]))) := ⟨_, rfl⟩
  replace hw : ms G.1 (Af f sz) f3 s H locs := by rw [ef3]; exact hw
  have n_a_q1 : a ≠ q1 := wnf ha u2
  have h4 : f3 a = some (.inr (1, [.ref r, .int (nI n)])) := by rw [ef3, va_up_ne _ _ n_a_q1]; exact ha
  have n_r_q1 : r ≠ q1 := wnf hrw u2
  have h5 : f3 r = some (.inl (G.2.1 1, cap, .inl t)) := by rw [ef3, va_up_ne _ _ n_r_q1]; exact hrw
  have h6 : f3 q1 = some (.inr (1, [.null, .int 0])) := by rw [ef3, va_up_self]
  refine lv_dup hx hb d_Signs_copy_3 rfl ?_
  refine lv_aload_n hx hb d_Signs_copy_4 rfl (lv_at hl 0 rfl) ?_
  refine m_get hc hE hw h4 kc_Signs l_Signs_15_Signs rfl d_Signs_copy_5 ?_
  refine m_callv hw (m_runI (As := [.int (nI n)]) (rest := [.ref q1]) hc hE hw (c_Signs_init G l H.size f3 h6 (N := n) (by omega)) cw_Signs_19 ⟨rfl, si_Signs_init⟩ rfl hl.1 rfl (Nat.le_of_ble_eq_true rfl) d_Signs_copy_8 ⟨rfl, rfl, by decide, by decide⟩ ⟨by first | decide | (dsimp only; omega), by first | decide | (dsimp only; omega)⟩) (fun g8 H locs p7 hw => ?_)
  obtain ⟨q9, u10, e11⟩ := p7
  have n_a_q9 : a ≠ q9 := wnf h4 u10
  have h12 : g8 a = some (.inr (1, [.ref r, .int (nI n)])) := by rw [e11, va_up_ne _ _ n_a_q1, va_up_ne _ _ n_a_q9]; exact h4
  have n_r_q9 : r ≠ q9 := wnf h5 u10
  have h13 : g8 r = some (.inl (G.2.1 1, cap, .inl t)) := by rw [e11, va_up_ne _ _ n_r_q1, va_up_ne _ _ n_r_q9]; exact h5
  have n_q1_q9 : q1 ≠ q9 := wnf h6 u10
  have h14 : g8 q9 = some (.inl (G.2.1 1, n, .inl (fun _ => 0))) := by rw [e11, va_up_ne _ _ (Ne.symm n_q1_q9), va_up_self]
  have h15 : g8 q1 = some (.inr (1, [.ref q9, .int 0])) := by rw [e11, va_up_self]
  have u16 : f q9 = none := by have z := u10; rw [ef3, va_up_ne _ _ (Ne.symm n_q1_q9)] at z; exact z
  refine lv_astore_n (lv' := [(1, .ref q1), (0, .ref a)]) hx hb d_Signs_copy_11 rfl hl (by decide) rfl (fun ls hl => ?_)
  refine lv_iconst (v := 0) hx hb d_Signs_copy_12 (by decide) ?_
  refine lv_istore_n (lv' := [(2, .int 0), (1, .ref q1), (0, .ref a)]) hx hb d_Signs_copy_13 rfl hl (by decide) rfl (fun ls hl => ?_)
  have loop : ∀ (fu : Nat) (i : Nat) (u : Nat → Int32) (fw : Wd) (ls : Array Slot) (H : Heap) (locs : List Loc), n - i < fu → i ≤ n → fw = va_up (va_up f q9 (some (.inl (G.2.1 1, n, .inl u)))) q1 (some (.inr (1, [.ref q9, .int (nI i)]))) → (∀ j, j < i → u j = t j) → ms G.1 (Af f sz) fw s H locs → lv_has ls 3 [(2, .int (nI i)), (1, .ref q1), (0, .ref a)] → W p l e ({ frames := 2, cells := 2, slots := 92, locals := 33 }) s m ([.ref a] : List Value).toArray below meth c H locs 2 92 (MQ below (va_Qq (fun v f' => ∃ (q q2 : Nat) (u : Nat → Int32), v = some q ∧ f q = none ∧ f q2 = none ∧ q ≠ q2 ∧ f' = va_up (va_up f q2 (some (.inl (G.2.1 1, n, .inl u)))) q (some (.inr (1, [.ref q2, .int (nI n)]))) ∧ ∀ j, j < n → u j = t j) (Bw G f sz) (Af f sz)) ([.ref a] : List Value).toArray s 2 92 (Af f sz)) (F0 m 14 ls []) := by
    intro fu
    induction fu with
    | zero => intro i u fw ls H locs h0; exact absurd h0 (Nat.not_lt_zero _)
    | succ fu ih =>
      intro i u fw ls H locs hfu hi hfw hu hw hl
      have hwa : fw a = some (.inr (1, [.ref r, .int (nI n)])) := by rw [hfw, va_up_ne _ _ n_a_q1, va_up_ne _ _ n_a_q9]; exact ha
      have hwr : fw r = some (.inl (G.2.1 1, cap, .inl t)) := by rw [hfw, va_up_ne _ _ n_r_q1, va_up_ne _ _ n_r_q9]; exact hrw
      have hwq : fw q1 = some (.inr (1, [.ref q9, .int (nI i)])) := by rw [hfw, va_up_self]
      have hwq2 : fw q9 = some (.inl (G.2.1 1, n, .inl u)) := by rw [hfw, va_up_ne _ _ (Ne.symm n_q1_q9), va_up_self]
      refine lv_iload_n hx hb d_Signs_copy_14 rfl (lv_at hl 0 rfl) ?_
      refine lv_aload_n hx hb d_Signs_copy_15 rfl (lv_at hl 2 rfl) ?_
      refine m_get hc hE hw hwa kc_Signs l_Signs_15_Signs rfl d_Signs_copy_16 ?_
      refine lv_icmp_ge (tgt := 38) hx hb d_Signs_copy_19 (by decide) (fun c17 => ?_) (fun c17 => ?_)
      · refine lv_aload_n hx hb d_Signs_copy_38 rfl (lv_at hl 1 rfl) ?_
        have hin2 : i = n := by have := (nI_leI (by omega) (by omega)).mp c17; omega
        subst hin2
        exact m_aret (r := (some q1)) hc hr hlk hw ⟨by first | decide | (dsimp only; omega), by first | decide | (dsimp only; omega)⟩ d_Signs_copy_39 ⟨q1, q9, u, rfl, u2, u16, (Ne.symm (Ne.symm n_q1_q9)), hfw, hu⟩
      · refine lv_aload_n hx hb d_Signs_copy_22 rfl (lv_at hl 1 rfl) ?_
        refine lv_aload_n hx hb d_Signs_copy_23 rfl (lv_at hl 2 rfl) ?_
        refine m_get hc hE hw hwa kc_Signs l_Signs_9_Signs rfl d_Signs_copy_24 ?_
        refine lv_iload_n hx hb d_Signs_copy_27 rfl (lv_at hl 0 rfl) ?_
        refine m_cald hc hE hw 1 hwr rfl (vp_in_nI (show i < cap by have := Nat.not_le.mp (fun z => c17 (nI_le z (by omega))); omega) (by omega)) d_Signs_copy_28 ?_
        refine m_callv hw (m_runV (As := [.int (t (nI i).toNatClampNeg)]) (rest := []) hc hE hw (c_Signs_append G l H.size fw ⟨hwq, hwq2, hi, by omega, fun j q => by rw [hu j q]; exact hch j (by omega)⟩ (t (nI i).toNatClampNeg)) hwq rfl cw_Signs_22 se_Signs_append rfl hl.1 rfl (Nat.le_of_ble_eq_true rfl) d_Signs_copy_29 ⟨rfl, rfl, by decide, by decide⟩ ⟨by first | decide | (dsimp only; omega), by first | decide | (dsimp only; omega)⟩) (fun g19 H locs p18 hw => ?_)
        have hlt : i < n := Nat.not_le.mp (fun z => c17 (nI_le z (by omega)))
        have hg := p18.1 hlt
        refine lv_iinc (v := (nI (i + 1))) (lv' := [(2, .int (nI (i + 1))), (1, .ref q1), (0, .ref a)]) hx hb d_Signs_copy_32 hl (k := 0) rfl (nI_1 _) (by decide) rfl (fun ls hl => ?_)
        refine lv_goto (tgt := 14) hx hb d_Signs_copy_35 (by decide) ?_
        refine ih (i + 1) (upd u i (vp_nar .char (t (nI i).toNatClampNeg))) g19 ls H locs (by omega) (by omega) ?_ (fun j q => ?_) hw (lv_sub hl [0, 1, 2] rfl)
        · rw [hg, hfw, up_sw (Ne.symm (Ne.symm n_q1_q9)), up_uu, up_uu]
        · by_cases hj : j = i
          · subst hj; rw [pk_us, nI_clamp (by omega)]; exact hch j (by omega)
          · rw [pk_un hj]; exact hu j (by omega)
  refine W.widen (k := 2) (n := 92) (by decide) (by decide) ?_
  refine loop (n + 1) 0 (fun _ => 0) g8 ls H locs (by omega) (Nat.zero_le _) ?_ (fun j q => absurd q (Nat.not_lt_zero _)) hw (lv_sub hl [0, 1, 2] rfl)
  rw [e11, ef3, up_sw (Ne.symm (Ne.symm n_q1_q9)), up_uu, nI_0]
end
section
/-! links of the pools, as the walks ask for them -/
theorem l_ClassPattern_21_ClassPattern : lnk "StreamFilters$ClassPattern" 21 F_ClassPattern 7 1 := ⟨by decide, "StreamFilters$ClassPattern", Or.inl rfl, Or.inl (tb 333 (by decide +kernel) rfl)⟩
theorem l_ClassPattern_26_ClassPattern : lnk "StreamFilters$ClassPattern" 26 F_ClassPattern 7 2 := ⟨by decide, "StreamFilters$ClassPattern", Or.inl rfl, Or.inl (tb 334 (by decide +kernel) rfl)⟩
theorem l_ClassPattern_30_ClassPattern : lnk "StreamFilters$ClassPattern" 30 F_ClassPattern 7 3 := ⟨by decide, "StreamFilters$ClassPattern", Or.inl rfl, Or.inl (tb 335 (by decide +kernel) rfl)⟩
theorem l_ClassPattern_34_ClassPattern : lnk "StreamFilters$ClassPattern" 34 F_ClassPattern 7 4 := ⟨by decide, "StreamFilters$ClassPattern", Or.inl rfl, Or.inl (tb 336 (by decide +kernel) rfl)⟩
theorem l_ClassPattern_38_ClassPattern : lnk "StreamFilters$ClassPattern" 38 F_ClassPattern 7 5 := ⟨by decide, "StreamFilters$ClassPattern", Or.inl rfl, Or.inl (tb 337 (by decide +kernel) rfl)⟩
theorem l_ClassPattern_42_ClassPattern : lnk "StreamFilters$ClassPattern" 42 F_ClassPattern 7 6 := ⟨by decide, "StreamFilters$ClassPattern", Or.inl rfl, Or.inl (tb 338 (by decide +kernel) rfl)⟩
theorem l_ClassPattern_47_Question : lnk "StreamFilters$ClassPattern" 47 F_Question 11 1 := ⟨by decide, "StreamFilters$Question", Or.inl rfl, Or.inl (tb 53 (by decide +kernel) rfl)⟩
theorem l_ClassPattern_58_Question : lnk "StreamFilters$ClassPattern" 58 F_Question 11 0 := ⟨by decide, "StreamFilters$Question", Or.inl rfl, Or.inl (tb 50 (by decide +kernel) rfl)⟩
theorem l_ClassPattern_9_ClassPattern : lnk "StreamFilters$ClassPattern" 9 F_ClassPattern 7 0 := ⟨by decide, "StreamFilters$ClassPattern", Or.inl rfl, Or.inl (tb 332 (by decide +kernel) rfl)⟩
theorem cw_ClassPattern_43 : cwk "StreamFilters$ClassPattern" 43 y_ClassPattern_hasModule b_ClassPattern_hasModule 1 (some .boolean) 0 := ⟨Or.inl (tb 553 (by decide +kernel) rfl), (tb 556 (by decide +kernel) rfl), (tb 11 (by decide +kernel) rfl), by decide, by decide, by decide +kernel⟩
theorem cw_ClassPattern_52 : cwk "StreamFilters$ClassPattern" 52 y_Signs_isPart b_Signs_isPart 4 (some .boolean) 3 := ⟨Or.inl (tb 557 (by decide +kernel) rfl), (tb 560 (by decide +kernel) rfl), (tb 2 (by decide +kernel) rfl), by decide, by decide, by decide +kernel⟩
theorem cw_ClassPattern_61 : cwk "StreamFilters$ClassPattern" 61 y_ClassPattern_beginsName b_ClassPattern_beginsName 2 (some .boolean) 1 := ⟨Or.inl (tb 562 (by decide +kernel) rfl), (tb 565 (by decide +kernel) rfl), (tb 11 (by decide +kernel) rfl), by decide, by decide, by decide +kernel⟩
theorem cw_ClassPattern_65 : cwk "StreamFilters$ClassPattern" 65 y_ClassPattern_hasDotBehind b_ClassPattern_hasDotBehind 2 (some .boolean) 2 := ⟨Or.inl (tb 567 (by decide +kernel) rfl), (tb 569 (by decide +kernel) rfl), (tb 11 (by decide +kernel) rfl), by decide, by decide, by decide +kernel⟩
theorem cw_ClassPattern_69 : cwk "StreamFilters$ClassPattern" 69 y_Signs_beginsWithPart b_Signs_beginsWithPart 5 (some .boolean) 3 := ⟨Or.inl (tb 566 (by decide +kernel) rfl), (tb 526 (by decide +kernel) rfl), (tb 2 (by decide +kernel) rfl), by decide, by decide, by decide +kernel⟩
theorem cw_ClassPattern_72 : cwk "StreamFilters$ClassPattern" 72 y_Signs_length b_Signs_length 1 (some .int) 0 := ⟨Or.inl (tb 570 (by decide +kernel) rfl), (tb 190 (by decide +kernel) rfl), (tb 2 (by decide +kernel) rfl), by decide, by decide, by decide +kernel⟩
theorem cw_ClassPattern_76 : cwk "StreamFilters$ClassPattern" 76 y_Signs_find b_Signs_find 5 (some .int) 3 := ⟨Or.inl (tb 571 (by decide +kernel) rfl), (tb 226 (by decide +kernel) rfl), (tb 2 (by decide +kernel) rfl), by decide, by decide, by decide +kernel⟩
theorem se_ClassPattern_beginsName : Cond.instanceMethod y_ClassPattern_beginsName ∈ TB ∧ Cond.selects "StreamFilters$ClassPattern" y_ClassPattern_beginsName y_ClassPattern_beginsName ∈ TB := ⟨(tb 564 (by decide +kernel) rfl), (tbs 13 (by decide +kernel) rfl)⟩
theorem se_ClassPattern_hasModule : Cond.instanceMethod y_ClassPattern_hasModule ∈ TB ∧ Cond.selects "StreamFilters$ClassPattern" y_ClassPattern_hasModule y_ClassPattern_hasModule ∈ TB := ⟨(tb 555 (by decide +kernel) rfl), (tbs 12 (by decide +kernel) rfl)⟩
theorem se_Signs_find : Cond.instanceMethod y_Signs_find ∈ TB ∧ Cond.selects "StreamFilters$Signs" y_Signs_find y_Signs_find ∈ TB := ⟨(tb 224 (by decide +kernel) rfl), (tb 225 (by decide +kernel) rfl)⟩
theorem se_Signs_isPart : Cond.instanceMethod y_Signs_isPart ∈ TB ∧ Cond.selects "StreamFilters$Signs" y_Signs_isPart y_Signs_isPart ∈ TB := ⟨(tb 558 (by decide +kernel) rfl), (tb 559 (by decide +kernel) rfl)⟩
theorem se_Signs_length : Cond.instanceMethod y_Signs_length ∈ TB ∧ Cond.selects "StreamFilters$Signs" y_Signs_length y_Signs_length ∈ TB := ⟨(tb 188 (by decide +kernel) rfl), (tb 189 (by decide +kernel) rfl)⟩
theorem ss_ClassPattern_hasDotBehind : Cond.static y_ClassPattern_hasDotBehind ∈ TB := (tb 568 (by decide +kernel) rfl)
/-! decode rows -/
theorem d_ClassPattern_matches_0 : decode b_ClassPattern_matches 0 = .ok (.aload_n 0, 1) := by decide +kernel
theorem d_ClassPattern_matches_1 : decode b_ClassPattern_matches 1 = .ok (.invokevirtual 43, 3) := by decide +kernel
theorem d_ClassPattern_matches_4 : decode b_ClassPattern_matches 4 = .ok (.ifCond .eq 27, 3) := by decide +kernel
theorem d_ClassPattern_matches_7 : decode b_ClassPattern_matches 7 = .ok (.aload_n 1, 1) := by decide +kernel
theorem d_ClassPattern_matches_8 : decode b_ClassPattern_matches 8 = .ok (.getfield 47, 3) := by decide +kernel
theorem d_ClassPattern_matches_11 : decode b_ClassPattern_matches 11 = .ok (.aload_n 0, 1) := by decide +kernel
theorem d_ClassPattern_matches_12 : decode b_ClassPattern_matches 12 = .ok (.getfield 9, 3) := by decide +kernel
theorem d_ClassPattern_matches_15 : decode b_ClassPattern_matches 15 = .ok (.aload_n 0, 1) := by decide +kernel
theorem d_ClassPattern_matches_16 : decode b_ClassPattern_matches 16 = .ok (.getfield 30, 3) := by decide +kernel
theorem d_ClassPattern_matches_19 : decode b_ClassPattern_matches 19 = .ok (.aload_n 0, 1) := by decide +kernel
theorem d_ClassPattern_matches_20 : decode b_ClassPattern_matches 20 = .ok (.getfield 34, 3) := by decide +kernel
theorem d_ClassPattern_matches_23 : decode b_ClassPattern_matches 23 = .ok (.invokevirtual 52, 3) := by decide +kernel
theorem d_ClassPattern_matches_26 : decode b_ClassPattern_matches 26 = .ok (.ifCond .ne 5, 3) := by decide +kernel
theorem d_ClassPattern_matches_29 : decode b_ClassPattern_matches 29 = .ok (.iconst 0, 1) := by decide +kernel
theorem d_ClassPattern_matches_30 : decode b_ClassPattern_matches 30 = .ok (.ireturn, 1) := by decide +kernel
theorem d_ClassPattern_matches_31 : decode b_ClassPattern_matches 31 = .ok (.aload_n 0, 1) := by decide +kernel
theorem d_ClassPattern_matches_32 : decode b_ClassPattern_matches 32 = .ok (.getfield 26, 3) := by decide +kernel
theorem d_ClassPattern_matches_35 : decode b_ClassPattern_matches 35 = .ok (.lookupswitch 81 #[(0, 25), (1, 45)], 25) := by decide +kernel
theorem d_ClassPattern_matches_60 : decode b_ClassPattern_matches 60 = .ok (.aload_n 1, 1) := by decide +kernel
theorem d_ClassPattern_matches_61 : decode b_ClassPattern_matches 61 = .ok (.getfield 58, 3) := by decide +kernel
theorem d_ClassPattern_matches_64 : decode b_ClassPattern_matches 64 = .ok (.aload_n 0, 1) := by decide +kernel
theorem d_ClassPattern_matches_65 : decode b_ClassPattern_matches 65 = .ok (.getfield 9, 3) := by decide +kernel
theorem d_ClassPattern_matches_68 : decode b_ClassPattern_matches 68 = .ok (.aload_n 0, 1) := by decide +kernel
theorem d_ClassPattern_matches_69 : decode b_ClassPattern_matches 69 = .ok (.getfield 38, 3) := by decide +kernel
theorem d_ClassPattern_matches_72 : decode b_ClassPattern_matches 72 = .ok (.aload_n 0, 1) := by decide +kernel
theorem d_ClassPattern_matches_73 : decode b_ClassPattern_matches 73 = .ok (.getfield 42, 3) := by decide +kernel
theorem d_ClassPattern_matches_76 : decode b_ClassPattern_matches 76 = .ok (.invokevirtual 52, 3) := by decide +kernel
theorem d_ClassPattern_matches_79 : decode b_ClassPattern_matches 79 = .ok (.ireturn, 1) := by decide +kernel
theorem d_ClassPattern_matches_80 : decode b_ClassPattern_matches 80 = .ok (.aload_n 0, 1) := by decide +kernel
theorem d_ClassPattern_matches_81 : decode b_ClassPattern_matches 81 = .ok (.aload_n 1, 1) := by decide +kernel
theorem d_ClassPattern_matches_82 : decode b_ClassPattern_matches 82 = .ok (.getfield 58, 3) := by decide +kernel
theorem d_ClassPattern_matches_85 : decode b_ClassPattern_matches 85 = .ok (.invokevirtual 61, 3) := by decide +kernel
theorem d_ClassPattern_matches_88 : decode b_ClassPattern_matches 88 = .ok (.ifCond .eq 26, 3) := by decide +kernel
theorem d_ClassPattern_matches_91 : decode b_ClassPattern_matches 91 = .ok (.aload_n 1, 1) := by decide +kernel
theorem d_ClassPattern_matches_92 : decode b_ClassPattern_matches 92 = .ok (.getfield 58, 3) := by decide +kernel
theorem d_ClassPattern_matches_95 : decode b_ClassPattern_matches 95 = .ok (.aload_n 0, 1) := by decide +kernel
theorem d_ClassPattern_matches_96 : decode b_ClassPattern_matches 96 = .ok (.getfield 42, 3) := by decide +kernel
theorem d_ClassPattern_matches_99 : decode b_ClassPattern_matches 99 = .ok (.aload_n 0, 1) := by decide +kernel
theorem d_ClassPattern_matches_100 : decode b_ClassPattern_matches 100 = .ok (.getfield 38, 3) := by decide +kernel
theorem d_ClassPattern_matches_103 : decode b_ClassPattern_matches 103 = .ok (.isub, 1) := by decide +kernel
theorem d_ClassPattern_matches_104 : decode b_ClassPattern_matches 104 = .ok (.invokestatic 65, 3) := by decide +kernel
theorem d_ClassPattern_matches_107 : decode b_ClassPattern_matches 107 = .ok (.ifCond .ne 7, 3) := by decide +kernel
theorem d_ClassPattern_matches_110 : decode b_ClassPattern_matches 110 = .ok (.iconst 1, 1) := by decide +kernel
theorem d_ClassPattern_matches_111 : decode b_ClassPattern_matches 111 = .ok (.goto 4, 3) := by decide +kernel
theorem d_ClassPattern_matches_114 : decode b_ClassPattern_matches 114 = .ok (.iconst 0, 1) := by decide +kernel
theorem d_ClassPattern_matches_115 : decode b_ClassPattern_matches 115 = .ok (.ireturn, 1) := by decide +kernel
theorem d_ClassPattern_matches_116 : decode b_ClassPattern_matches 116 = .ok (.aload_n 0, 1) := by decide +kernel
theorem d_ClassPattern_matches_117 : decode b_ClassPattern_matches 117 = .ok (.aload_n 1, 1) := by decide +kernel
theorem d_ClassPattern_matches_118 : decode b_ClassPattern_matches 118 = .ok (.getfield 58, 3) := by decide +kernel
theorem d_ClassPattern_matches_121 : decode b_ClassPattern_matches 121 = .ok (.invokevirtual 61, 3) := by decide +kernel
theorem d_ClassPattern_matches_124 : decode b_ClassPattern_matches 124 = .ok (.ireturn, 1) := by decide +kernel
theorem d_ClassPattern_hasModule_0 : decode b_ClassPattern_hasModule 0 = .ok (.aload_n 0, 1) := by decide +kernel
theorem d_ClassPattern_hasModule_1 : decode b_ClassPattern_hasModule 1 = .ok (.getfield 34, 3) := by decide +kernel
theorem d_ClassPattern_hasModule_4 : decode b_ClassPattern_hasModule 4 = .ok (.aload_n 0, 1) := by decide +kernel
theorem d_ClassPattern_hasModule_5 : decode b_ClassPattern_hasModule 5 = .ok (.getfield 30, 3) := by decide +kernel
theorem d_ClassPattern_hasModule_8 : decode b_ClassPattern_hasModule 8 = .ok (.if_icmp .le 7, 3) := by decide +kernel
theorem d_ClassPattern_hasModule_11 : decode b_ClassPattern_hasModule 11 = .ok (.iconst 1, 1) := by decide +kernel
theorem d_ClassPattern_hasModule_12 : decode b_ClassPattern_hasModule 12 = .ok (.goto 4, 3) := by decide +kernel
theorem d_ClassPattern_hasModule_15 : decode b_ClassPattern_hasModule 15 = .ok (.iconst 0, 1) := by decide +kernel
theorem d_ClassPattern_hasModule_16 : decode b_ClassPattern_hasModule 16 = .ok (.ireturn, 1) := by decide +kernel
theorem d_ClassPattern_beginsName_0 : decode b_ClassPattern_beginsName 0 = .ok (.aload_n 1, 1) := by decide +kernel
theorem d_ClassPattern_beginsName_1 : decode b_ClassPattern_beginsName 1 = .ok (.aload_n 0, 1) := by decide +kernel
theorem d_ClassPattern_beginsName_2 : decode b_ClassPattern_beginsName 2 = .ok (.getfield 9, 3) := by decide +kernel
theorem d_ClassPattern_beginsName_5 : decode b_ClassPattern_beginsName 5 = .ok (.aload_n 0, 1) := by decide +kernel
theorem d_ClassPattern_beginsName_6 : decode b_ClassPattern_beginsName 6 = .ok (.getfield 38, 3) := by decide +kernel
theorem d_ClassPattern_beginsName_9 : decode b_ClassPattern_beginsName 9 = .ok (.aload_n 0, 1) := by decide +kernel
theorem d_ClassPattern_beginsName_10 : decode b_ClassPattern_beginsName 10 = .ok (.getfield 42, 3) := by decide +kernel
theorem d_ClassPattern_beginsName_13 : decode b_ClassPattern_beginsName 13 = .ok (.invokevirtual 69, 3) := by decide +kernel
theorem d_ClassPattern_beginsName_16 : decode b_ClassPattern_beginsName 16 = .ok (.ireturn, 1) := by decide +kernel
theorem d_ClassPattern_hasDotBehind_0 : decode b_ClassPattern_hasDotBehind 0 = .ok (.aload_n 0, 1) := by decide +kernel
theorem d_ClassPattern_hasDotBehind_1 : decode b_ClassPattern_hasDotBehind 1 = .ok (.bipush 46, 2) := by decide +kernel
theorem d_ClassPattern_hasDotBehind_3 : decode b_ClassPattern_hasDotBehind 3 = .ok (.iload_n 1, 1) := by decide +kernel
theorem d_ClassPattern_hasDotBehind_4 : decode b_ClassPattern_hasDotBehind 4 = .ok (.aload_n 0, 1) := by decide +kernel
theorem d_ClassPattern_hasDotBehind_5 : decode b_ClassPattern_hasDotBehind 5 = .ok (.invokevirtual 72, 3) := by decide +kernel
theorem d_ClassPattern_hasDotBehind_8 : decode b_ClassPattern_hasDotBehind 8 = .ok (.invokevirtual 76, 3) := by decide +kernel
theorem d_ClassPattern_hasDotBehind_11 : decode b_ClassPattern_hasDotBehind 11 = .ok (.aload_n 0, 1) := by decide +kernel
theorem d_ClassPattern_hasDotBehind_12 : decode b_ClassPattern_hasDotBehind 12 = .ok (.invokevirtual 72, 3) := by decide +kernel
theorem d_ClassPattern_hasDotBehind_15 : decode b_ClassPattern_hasDotBehind 15 = .ok (.if_icmp .ge 7, 3) := by decide +kernel
theorem d_ClassPattern_hasDotBehind_18 : decode b_ClassPattern_hasDotBehind 18 = .ok (.iconst 1, 1) := by decide +kernel
theorem d_ClassPattern_hasDotBehind_19 : decode b_ClassPattern_hasDotBehind 19 = .ok (.goto 4, 3) := by decide +kernel
theorem d_ClassPattern_hasDotBehind_22 : decode b_ClassPattern_hasDotBehind 22 = .ok (.iconst 0, 1) := by decide +kernel
theorem d_ClassPattern_hasDotBehind_23 : decode b_ClassPattern_hasDotBehind 23 = .ok (.ireturn, 1) := by decide +kernel
theorem d_ClassPattern_verdict_0 : decode b_ClassPattern_verdict 0 = .ok (.aload_n 0, 1) := by decide +kernel
theorem d_ClassPattern_verdict_1 : decode b_ClassPattern_verdict 1 = .ok (.getfield 21, 3) := by decide +kernel
theorem d_ClassPattern_verdict_4 : decode b_ClassPattern_verdict 4 = .ok (.ifCond .eq 7, 3) := by decide +kernel
theorem d_ClassPattern_verdict_7 : decode b_ClassPattern_verdict 7 = .ok (.iconst 2, 1) := by decide +kernel
theorem d_ClassPattern_verdict_8 : decode b_ClassPattern_verdict 8 = .ok (.goto 4, 3) := by decide +kernel
theorem d_ClassPattern_verdict_11 : decode b_ClassPattern_verdict 11 = .ok (.iconst 1, 1) := by decide +kernel
theorem d_ClassPattern_verdict_12 : decode b_ClassPattern_verdict 12 = .ok (.ireturn, 1) := by decide +kernel
theorem d_ClassPattern_fullShape_0 : decode b_ClassPattern_fullShape 0 = .ok (.aload_n 0, 1) := by decide +kernel
theorem d_ClassPattern_fullShape_1 : decode b_ClassPattern_fullShape 1 = .ok (.invokevirtual 43, 3) := by decide +kernel
theorem d_ClassPattern_fullShape_4 : decode b_ClassPattern_fullShape 4 = .ok (.ifCond .eq 13, 3) := by decide +kernel
theorem d_ClassPattern_fullShape_7 : decode b_ClassPattern_fullShape 7 = .ok (.bipush 10, 2) := by decide +kernel
theorem d_ClassPattern_fullShape_9 : decode b_ClassPattern_fullShape 9 = .ok (.aload_n 0, 1) := by decide +kernel
theorem d_ClassPattern_fullShape_10 : decode b_ClassPattern_fullShape 10 = .ok (.getfield 26, 3) := by decide +kernel
theorem d_ClassPattern_fullShape_13 : decode b_ClassPattern_fullShape 13 = .ok (.iadd, 1) := by decide +kernel
theorem d_ClassPattern_fullShape_14 : decode b_ClassPattern_fullShape 14 = .ok (.goto 7, 3) := by decide +kernel
theorem d_ClassPattern_fullShape_17 : decode b_ClassPattern_fullShape 17 = .ok (.aload_n 0, 1) := by decide +kernel
theorem d_ClassPattern_fullShape_18 : decode b_ClassPattern_fullShape 18 = .ok (.getfield 26, 3) := by decide +kernel
theorem d_ClassPattern_fullShape_21 : decode b_ClassPattern_fullShape 21 = .ok (.ireturn, 1) := by decide +kernel
set_option maxHeartbeats 4000000 in
set_option maxRecDepth 100000 in
/-- hasModule() -/
theorem c_ClassPattern_hasModule (G : GG) (l : Launch) (sz : Nat) (f : Wd) {a ta tr tcap tn : Nat} {t : Nat → Int32} {rj : Int32} {sh m0 m1 n0 n1 : Nat} (h : cp G f a ta tr tcap tn t rj sh m0 m1 n0 n1) : Ci G l y_ClassPattern_hasModule b_ClassPattern_hasModule 1 (some .boolean) ({ frames := 0, cells := 0, slots := 0, locals := 0 }) sz f [.ref a] (fun v f' => f = f' ∧ v = bI (m0 < m1)) := by
  refine ct_of (by decide) (Nat.le_of_ble_eq_true rfl) ?_
  intro p e s m below meth c ls H locs hEn
  obtain ⟨hc, hr, hlk, hin, hE, hw, hsz, hl⟩ := hEn
  have hx := hc.1
  have hb := hc.2.1
  have hl : lv_has ls 1 [(0, .ref a)] := hl
  obtain ⟨hp, hts, hm1, hm2, hn1, hn2, hsh⟩ := h
  refine lv_aload_n hx hb d_ClassPattern_hasModule_0 rfl (lv_at hl 0 rfl) ?_
  refine m_get hc hE hw hp kc_ClassPattern l_ClassPattern_34_ClassPattern rfl d_ClassPattern_hasModule_1 ?_
  refine lv_aload_n hx hb d_ClassPattern_hasModule_4 rfl (lv_at hl 0 rfl) ?_
  refine m_get hc hE hw hp kc_ClassPattern l_ClassPattern_30_ClassPattern rfl d_ClassPattern_hasModule_5 ?_
  refine lv_icmp_le (tgt := 15) hx hb d_ClassPattern_hasModule_8 (by decide) (fun c1 => ?_) (fun c1 => ?_)
  · refine lv_iconst (v := 0) hx hb d_ClassPattern_hasModule_15 (by decide) ?_
    have hts9 : tn ≤ 90 := by have := hts.2.2.1; have := hts.2.2.2.1; omega
    exact m_zret hc hr hlk hw ⟨by first | decide | (dsimp only; omega), by first | decide | (dsimp only; omega)⟩ d_ClassPattern_hasModule_16 (by decide) ⟨rfl, (bI_f (fun z => absurd ((nI_leI (by omega) (by omega)).mp c1) (by omega))).symm⟩
  · refine lv_iconst (v := 1) hx hb d_ClassPattern_hasModule_11 (by decide) ?_
    refine lv_goto (tgt := 16) hx hb d_ClassPattern_hasModule_12 (by decide) ?_
    have hts9 : tn ≤ 90 := by have := hts.2.2.1; have := hts.2.2.2.1; omega
    exact m_zret hc hr hlk hw ⟨by first | decide | (dsimp only; omega), by first | decide | (dsimp only; omega)⟩ d_ClassPattern_hasModule_16 (by decide) ⟨rfl, (bI_t (Nat.not_le.mp (fun z => c1 (nI_le z (by omega))))).symm⟩

set_option maxHeartbeats 4000000 in
set_option maxRecDepth 100000 in
/-- verdict() -/
theorem c_ClassPattern_verdict (G : GG) (l : Launch) (sz : Nat) (f : Wd) {a ta tr tcap tn : Nat} {t : Nat → Int32} {rj : Int32} {sh m0 m1 n0 n1 : Nat} (h : cp G f a ta tr tcap tn t rj sh m0 m1 n0 n1) : Ci G l y_ClassPattern_verdict b_ClassPattern_verdict 1 (some .int) ({ frames := 0, cells := 0, slots := 0, locals := 0 }) sz f [.ref a] (fun v f' => f = f' ∧ v = vdc rj) := by
  refine ct_of (by decide) (Nat.le_of_ble_eq_true rfl) ?_
  intro p e s m below meth c ls H locs hEn
  obtain ⟨hc, hr, hlk, hin, hE, hw, hsz, hl⟩ := hEn
  have hx := hc.1
  have hb := hc.2.1
  have hl : lv_has ls 1 [(0, .ref a)] := hl
  obtain ⟨hp, hts, hm1, hm2, hn1, hn2, hsh⟩ := h
  refine lv_aload_n hx hb d_ClassPattern_verdict_0 rfl (lv_at hl 0 rfl) ?_
  refine m_get hc hE hw hp kc_ClassPattern l_ClassPattern_21_ClassPattern rfl d_ClassPattern_verdict_1 ?_
  refine lv_if_eq (tgt := 11) hx hb d_ClassPattern_verdict_4 (by decide) (fun c1 => ?_) (fun c1 => ?_)
  · refine lv_iconst (v := 1) hx hb d_ClassPattern_verdict_11 (by decide) ?_
    exact m_iret hc hr hlk hw ⟨by first | decide | (dsimp only; omega), by first | decide | (dsimp only; omega)⟩ d_ClassPattern_verdict_12 ⟨rfl, (vdc_0 c1).symm⟩
  · refine lv_iconst (v := 2) hx hb d_ClassPattern_verdict_7 (by decide) ?_
    refine lv_goto (tgt := 12) hx hb d_ClassPattern_verdict_8 (by decide) ?_
    exact m_iret hc hr hlk hw ⟨by first | decide | (dsimp only; omega), by first | decide | (dsimp only; omega)⟩ d_ClassPattern_verdict_12 ⟨rfl, (vdc_n c1).symm⟩

set_option maxHeartbeats 4000000 in
set_option maxRecDepth 100000 in
/-- fullShape() -/
theorem c_ClassPattern_fullShape (G : GG) (l : Launch) (sz : Nat) (f : Wd) {a ta tr tcap tn : Nat} {t : Nat → Int32} {rj : Int32} {sh m0 m1 n0 n1 : Nat} (h : cp G f a ta tr tcap tn t rj sh m0 m1 n0 n1) : Ci G l y_ClassPattern_fullShape b_ClassPattern_fullShape 1 (some .int) ({ frames := 1, cells := 0, slots := 0, locals := 20 }) sz f [.ref a] (fun v f' => f = f' ∧ v = fsh sh m0 m1) := by
  refine ct_of (by decide) (Nat.le_of_ble_eq_true rfl) ?_
  intro p e s m below meth c ls H locs hEn
  obtain ⟨hc, hr, hlk, hin, hE, hw, hsz, hl⟩ := hEn
  have hx := hc.1
  have hb := hc.2.1
  have hl : lv_has ls 1 [(0, .ref a)] := hl
  obtain ⟨hp, hts, hm1, hm2, hn1, hn2, hsh⟩ := h
  refine lv_aload_n hx hb d_ClassPattern_fullShape_0 rfl (lv_at hl 0 rfl) ?_
  refine m_calli hw (m_runV (As := []) (rest := []) hc hE hw (c_ClassPattern_hasModule G l H.size f ⟨hp, hts, hm1, hm2, hn1, hn2, hsh⟩) hp rfl cw_ClassPattern_43 se_ClassPattern_hasModule rfl hl.1 rfl (Nat.le_of_ble_eq_true rfl) d_ClassPattern_fullShape_1 ⟨rfl, rfl, by decide, by decide⟩ ⟨by first | decide | (dsimp only; omega), by first | decide | (dsimp only; omega)⟩) (fun r3 g2 H locs p1 hw => ?_)
  obtain ⟨rfl, p1⟩ := p1
  refine lv_if_eq (tgt := 17) hx hb d_ClassPattern_fullShape_4 (by decide) (fun c4 => ?_) (fun c4 => ?_)
  · refine lv_aload_n hx hb d_ClassPattern_fullShape_17 rfl (lv_at hl 0 rfl) ?_
    refine m_get hc hE hw hp kc_ClassPattern l_ClassPattern_26_ClassPattern rfl d_ClassPattern_fullShape_18 ?_
    exact m_iret hc hr hlk hw ⟨by first | decide | (dsimp only; omega), by first | decide | (dsimp only; omega)⟩ d_ClassPattern_fullShape_21 ⟨rfl, (fsh_n (bI_0.mp (p1.symm.trans c4))).symm⟩
  · refine lv_bipush (v := 10) hx hb d_ClassPattern_fullShape_7 (by decide) ?_
    refine lv_aload_n hx hb d_ClassPattern_fullShape_9 rfl (lv_at hl 0 rfl) ?_
    refine m_get hc hE hw hp kc_ClassPattern l_ClassPattern_26_ClassPattern rfl d_ClassPattern_fullShape_10 ?_
    refine lv_iadd hx hb d_ClassPattern_fullShape_13 ?_
    refine lv_goto (tgt := 21) hx hb d_ClassPattern_fullShape_14 (by decide) ?_
    exact m_iret hc hr hlk hw ⟨by first | decide | (dsimp only; omega), by first | decide | (dsimp only; omega)⟩ d_ClassPattern_fullShape_21 ⟨rfl, (fsh_y (bI_n.mp (fun z => c4 (p1.trans z)))).symm⟩

set_option maxHeartbeats 4000000 in
set_option maxRecDepth 100000 in
/-- beginsName(name) -/
theorem c_ClassPattern_beginsName (G : GG) (l : Launch) (sz : Nat) (f : Wd) {a ta tr tcap tn : Nat} {t : Nat → Int32} {rj : Int32} {sh m0 m1 n0 n1 : Nat} (h : cp G f a ta tr tcap tn t rj sh m0 m1 n0 n1) {na nr ncap nn : Nat} {nt : Nat → Int32} (hna : sg G f na nr ncap nn nt) : Ci G l y_ClassPattern_beginsName b_ClassPattern_beginsName 2 (some .boolean) ({ frames := 2, cells := 0, slots := 0, locals := 45 }) sz f [.ref a, .ref na] (fun v f' => f = f' ∧ v = bI (bgn nn nt t n0 n1)) := by
  refine ct_of (by decide) (Nat.le_of_ble_eq_true rfl) ?_
  intro p e s m below meth c ls H locs hEn
  obtain ⟨hc, hr, hlk, hin, hE, hw, hsz, hl⟩ := hEn
  have hx := hc.1
  have hb := hc.2.1
  have hl : lv_has ls 2 [(0, .ref a), (1, .ref na)] := hl
  obtain ⟨hp, hts, hm1, hm2, hn1, hn2, hsh⟩ := h
  refine lv_aload_n hx hb d_ClassPattern_beginsName_0 rfl (lv_at hl 1 rfl) ?_
  refine lv_aload_n hx hb d_ClassPattern_beginsName_1 rfl (lv_at hl 0 rfl) ?_
  refine m_get hc hE hw hp kc_ClassPattern l_ClassPattern_9_ClassPattern rfl d_ClassPattern_beginsName_2 ?_
  refine lv_aload_n hx hb d_ClassPattern_beginsName_5 rfl (lv_at hl 0 rfl) ?_
  refine m_get hc hE hw hp kc_ClassPattern l_ClassPattern_38_ClassPattern rfl d_ClassPattern_beginsName_6 ?_
  refine lv_aload_n hx hb d_ClassPattern_beginsName_9 rfl (lv_at hl 0 rfl) ?_
  refine m_get hc hE hw hp kc_ClassPattern l_ClassPattern_42_ClassPattern rfl d_ClassPattern_beginsName_10 ?_
  refine m_calli hw (m_runV (As := [.ref ta, .int (nI n0), .int (nI n1)]) (rest := []) hc hE hw (c_Signs_beginsWithPart G l H.size f hna hts hn1 hn2) hna.1 rfl cw_ClassPattern_69 se_Signs_beginsWithPart rfl hl.1 rfl (Nat.le_of_ble_eq_true rfl) d_ClassPattern_beginsName_13 ⟨rfl, rfl, by decide, by decide⟩ ⟨by first | decide | (dsimp only; omega), by first | decide | (dsimp only; omega)⟩) (fun r3 g2 H locs p1 hw => ?_)
  obtain ⟨rfl, p1⟩ := p1
  exact m_zret hc hr hlk hw ⟨by decide, by decide⟩ d_ClassPattern_beginsName_16 (by rw [p1]; exact bI_nar _) ⟨rfl, p1⟩

set_option maxHeartbeats 4000000 in
set_option maxRecDepth 100000 in
/-- hasDotBehind(name, i0) -/
theorem c_ClassPattern_hasDotBehind (G : GG) (l : Launch) (sz : Nat) (f : Wd) {na nr ncap nn : Nat} {nt : Nat → Int32} (hna : sg G f na nr ncap nn nt) {i0 : Nat} (h0 : i0 ≤ nn) : Ci G l y_ClassPattern_hasDotBehind b_ClassPattern_hasDotBehind 2 (some .boolean) ({ frames := 2, cells := 0, slots := 0, locals := 45 }) sz f [.ref na, .int (nI i0)] (fun v f' => f = f' ∧ v = bI (fnd nt 46 (nn - i0) i0 < nn)) := by
  refine ct_of (by decide) (Nat.le_of_ble_eq_true rfl) ?_
  intro p e s m below meth c ls H locs hEn
  obtain ⟨hc, hr, hlk, hin, hE, hw, hsz, hl⟩ := hEn
  have hx := hc.1
  have hb := hc.2.1
  have hl : lv_has ls 2 [(0, .ref na), (1, .int (nI i0))] := hl
  refine lv_aload_n hx hb d_ClassPattern_hasDotBehind_0 rfl (lv_at hl 0 rfl) ?_
  refine lv_bipush (v := 46) hx hb d_ClassPattern_hasDotBehind_1 (by decide) ?_
  refine lv_iload_n hx hb d_ClassPattern_hasDotBehind_3 rfl (lv_at hl 1 rfl) ?_
  refine lv_aload_n hx hb d_ClassPattern_hasDotBehind_4 rfl (lv_at hl 0 rfl) ?_
  refine m_calli hw (m_runV (As := []) (rest := [.int (nI i0), .int 46, .ref na]) hc hE hw (c_Signs_length G l H.size f hna) hna.1 rfl cw_ClassPattern_72 se_Signs_length rfl hl.1 rfl (Nat.le_of_ble_eq_true rfl) d_ClassPattern_hasDotBehind_5 ⟨rfl, rfl, by decide, by decide⟩ ⟨by first | decide | (dsimp only; omega), by first | decide | (dsimp only; omega)⟩) (fun r3 g2 H locs p1 hw => ?_)
  obtain ⟨rfl, p1⟩ := p1
  subst p1
  refine m_calli hw (m_runV (As := [.int 46, .int (nI i0), .int (nI nn)]) (rest := []) hc hE hw (c_Signs_find G l H.size f hna 46 h0 (Nat.le_refl _)) hna.1 rfl cw_ClassPattern_76 se_Signs_find rfl hl.1 rfl (Nat.le_of_ble_eq_true rfl) d_ClassPattern_hasDotBehind_8 ⟨rfl, rfl, by decide, by decide⟩ ⟨by first | decide | (dsimp only; omega), by first | decide | (dsimp only; omega)⟩) (fun r6 g5 H locs p4 hw => ?_)
  obtain ⟨rfl, p4⟩ := p4
  refine lv_aload_n hx hb d_ClassPattern_hasDotBehind_11 rfl (lv_at hl 0 rfl) ?_
  refine m_calli hw (m_runV (As := []) (rest := [.int r6]) hc hE hw (c_Signs_length G l H.size f hna) hna.1 rfl cw_ClassPattern_72 se_Signs_length rfl hl.1 rfl (Nat.le_of_ble_eq_true rfl) d_ClassPattern_hasDotBehind_12 ⟨rfl, rfl, by decide, by decide⟩ ⟨by first | decide | (dsimp only; omega), by first | decide | (dsimp only; omega)⟩) (fun r9 g8 H locs p7 hw => ?_)
  obtain ⟨rfl, p7⟩ := p7
  subst p7
  refine lv_icmp_ge (tgt := 22) hx hb d_ClassPattern_hasDotBehind_15 (by decide) (fun c10 => ?_) (fun c10 => ?_)
  · refine lv_iconst (v := 0) hx hb d_ClassPattern_hasDotBehind_22 (by decide) ?_
    have hb9 : nn ≤ 90 := by have := hna.2.2.1; have := hna.2.2.2.1; omega
    have hfi := fnd_in nt 46 (nn - i0) i0
    exact m_zret hc hr hlk hw ⟨by first | decide | (dsimp only; omega), by first | decide | (dsimp only; omega)⟩ d_ClassPattern_hasDotBehind_23 (by decide) ⟨rfl, (bI_f (fun z => by rw [p4] at c10; have := (nI_leI (by omega) (by omega)).mp c10; omega)).symm⟩
  · refine lv_iconst (v := 1) hx hb d_ClassPattern_hasDotBehind_18 (by decide) ?_
    refine lv_goto (tgt := 23) hx hb d_ClassPattern_hasDotBehind_19 (by decide) ?_
    have hb9 : nn ≤ 90 := by have := hna.2.2.1; have := hna.2.2.2.1; omega
    have hfi := fnd_in nt 46 (nn - i0) i0
    exact m_zret hc hr hlk hw ⟨by first | decide | (dsimp only; omega), by first | decide | (dsimp only; omega)⟩ d_ClassPattern_hasDotBehind_23 (by decide) ⟨rfl, (bI_t (Nat.not_le.mp (fun z => c10 (by rw [p4]; exact nI_le z (by omega))))).symm⟩

set_option maxHeartbeats 4000000 in
set_option maxRecDepth 100000 in
/-- matches(q) -/
theorem c_ClassPattern_matches (G : GG) (l : Launch) (sz : Nat) (f : Wd) {a ta tr tcap tn : Nat} {t : Nat → Int32} {rj : Int32} {sh m0 m1 n0 n1 : Nat} (h : cp G f a ta tr tcap tn t rj sh m0 m1 n0 n1) {q na nr ncap nn : Nat} {nt : Nat → Int32} {ma mr mcap mn : Nat} {mt : Nat → Int32} {dp rf by_ so di le co tx la : Int32} (hq : qs G f q na nr ncap nn nt ma mr mcap mn mt dp rf by_ so di le co tx la) : Ci G l y_ClassPattern_matches b_ClassPattern_matches 2 (some .boolean) ({ frames := 3, cells := 0, slots := 0, locals := 70 }) sz f [.ref a, .ref q] (fun v f' => f = f' ∧ v = bI (mat t sh m0 m1 n0 n1 nn nt mn mt)) := by
  refine ct_of (by decide) (Nat.le_of_ble_eq_true rfl) ?_
  intro p e s m below meth c ls H locs hEn
  obtain ⟨hc, hr, hlk, hin, hE, hw, hsz, hl⟩ := hEn
  have hx := hc.1
  have hb := hc.2.1
  have hl : lv_has ls 2 [(0, .ref a), (1, .ref q)] := hl
  obtain ⟨hp, hts, hm1, hm2, hn1, hn2, hsh⟩ := h
  obtain ⟨hqc, hna, hma⟩ := hq
  have hb9 : tn ≤ 90 := by have := hts.2.2.1; have := hts.2.2.2.1; omega
  have hb8 : nn ≤ 90 := by have := hna.2.2.1; have := hna.2.2.2.1; omega
  refine lv_aload_n hx hb d_ClassPattern_matches_0 rfl (lv_at hl 0 rfl) ?_
  refine m_calli hw (m_runV (As := []) (rest := []) hc hE hw (c_ClassPattern_hasModule G l H.size f ⟨hp, hts, hm1, hm2, hn1, hn2, hsh⟩) hp rfl cw_ClassPattern_43 se_ClassPattern_hasModule rfl hl.1 rfl (Nat.le_of_ble_eq_true rfl) d_ClassPattern_matches_1 ⟨rfl, rfl, by decide, by decide⟩ ⟨by first | decide | (dsimp only; omega), by first | decide | (dsimp only; omega)⟩) (fun r3 g2 H locs p1 hw => ?_)
  obtain ⟨rfl, p1⟩ := p1
  refine lv_if_eq (tgt := 31) hx hb d_ClassPattern_matches_4 (by decide) (fun c4 => ?_) (fun c4 => ?_)
  · refine lv_aload_n hx hb d_ClassPattern_matches_31 rfl (lv_at hl 0 rfl) ?_
    refine m_get hc hE hw hp kc_ClassPattern l_ClassPattern_26_ClassPattern rfl d_ClassPattern_matches_32 ?_
    by_cases k5 : (nI sh) = 0
    · refine lv_lookup (off := 25) (tgt := 60) hx hb d_ClassPattern_matches_35 (by decide) (by rw [k5] <;> rfl) (by decide) ?_
      refine lv_aload_n hx hb d_ClassPattern_matches_60 rfl (lv_at hl 1 rfl) ?_
      refine m_get hc hE hw hqc kc_Question l_ClassPattern_58_Question rfl d_ClassPattern_matches_61 ?_
      refine lv_aload_n hx hb d_ClassPattern_matches_64 rfl (lv_at hl 0 rfl) ?_
      refine m_get hc hE hw hp kc_ClassPattern l_ClassPattern_9_ClassPattern rfl d_ClassPattern_matches_65 ?_
      refine lv_aload_n hx hb d_ClassPattern_matches_68 rfl (lv_at hl 0 rfl) ?_
      refine m_get hc hE hw hp kc_ClassPattern l_ClassPattern_38_ClassPattern rfl d_ClassPattern_matches_69 ?_
      refine lv_aload_n hx hb d_ClassPattern_matches_72 rfl (lv_at hl 0 rfl) ?_
      refine m_get hc hE hw hp kc_ClassPattern l_ClassPattern_42_ClassPattern rfl d_ClassPattern_matches_73 ?_
      refine m_calli hw (m_runV (As := [.ref ta, .int (nI n0), .int (nI n1)]) (rest := []) hc hE hw (c_Signs_isPart G l H.size f hna hts hn1 hn2) hna.1 rfl cw_ClassPattern_52 se_Signs_isPart rfl hl.1 rfl (Nat.le_of_ble_eq_true rfl) d_ClassPattern_matches_76 ⟨rfl, rfl, by decide, by decide⟩ ⟨by first | decide | (dsimp only; omega), by first | decide | (dsimp only; omega)⟩) (fun r8 g7 H locs p6 hw => ?_)
      obtain ⟨rfl, p6⟩ := p6
      have hs0 : sh = 0 := (nI_eq (by omega) (by omega)).mp k5
      exact m_zret hc hr hlk hw ⟨by decide, by decide⟩ d_ClassPattern_matches_79 (by rw [p6]; exact bI_nar _) ⟨rfl, by rw [p6]; exact bI_c ⟨fun z => ⟨(fun z => absurd z (bI_0.mp (p1.symm.trans c4))), fun _ => z, fun y => absurd y (by omega), fun y => absurd y (by omega)⟩, fun z => z.2.1 hs0⟩⟩
    by_cases k9 : (nI sh) = 1
    · refine lv_lookup (off := 45) (tgt := 80) hx hb d_ClassPattern_matches_35 (by decide) (by rw [k9] <;> rfl) (by decide) ?_
      refine lv_aload_n hx hb d_ClassPattern_matches_80 rfl (lv_at hl 0 rfl) ?_
      refine lv_aload_n hx hb d_ClassPattern_matches_81 rfl (lv_at hl 1 rfl) ?_
      refine m_get hc hE hw hqc kc_Question l_ClassPattern_58_Question rfl d_ClassPattern_matches_82 ?_
      refine m_calli hw (m_runV (As := [.ref na]) (rest := []) hc hE hw (c_ClassPattern_beginsName G l H.size f ⟨hp, hts, hm1, hm2, hn1, hn2, hsh⟩ hna) hp rfl cw_ClassPattern_61 se_ClassPattern_beginsName rfl hl.1 rfl (Nat.le_of_ble_eq_true rfl) d_ClassPattern_matches_85 ⟨rfl, rfl, by decide, by decide⟩ ⟨by first | decide | (dsimp only; omega), by first | decide | (dsimp only; omega)⟩) (fun r12 g11 H locs p10 hw => ?_)
      obtain ⟨rfl, p10⟩ := p10
      refine lv_if_eq (tgt := 114) hx hb d_ClassPattern_matches_88 (by decide) (fun c13 => ?_) (fun c13 => ?_)
      · refine lv_iconst (v := 0) hx hb d_ClassPattern_matches_114 (by decide) ?_
        have hs1 : sh = 1 := (nI_eq (by omega) (by omega)).mp k9
        exact m_zret hc hr hlk hw ⟨by first | decide | (dsimp only; omega), by first | decide | (dsimp only; omega)⟩ d_ClassPattern_matches_115 (by decide) ⟨rfl, (bI_f (fun z => (bI_0.mp (p10.symm.trans c13)) (z.2.2.1 hs1).1)).symm⟩
      · refine lv_aload_n hx hb d_ClassPattern_matches_91 rfl (lv_at hl 1 rfl) ?_
        refine m_get hc hE hw hqc kc_Question l_ClassPattern_58_Question rfl d_ClassPattern_matches_92 ?_
        refine lv_aload_n hx hb d_ClassPattern_matches_95 rfl (lv_at hl 0 rfl) ?_
        refine m_get hc hE hw hp kc_ClassPattern l_ClassPattern_42_ClassPattern rfl d_ClassPattern_matches_96 ?_
        refine lv_aload_n hx hb d_ClassPattern_matches_99 rfl (lv_at hl 0 rfl) ?_
        refine m_get hc hE hw hp kc_ClassPattern l_ClassPattern_38_ClassPattern rfl d_ClassPattern_matches_100 ?_
        refine lv_isub hx hb d_ClassPattern_matches_103 ?_
        refine m_top (y := (nI (n1 - n0))) (pk_sub hn1) ?_
        refine m_calli hw (m_runS (As := [.ref na, .int (nI (n1 - n0))]) (rest := []) hc hE hw (c_ClassPattern_hasDotBehind G l H.size f hna (i0 := n1 - n0) (bI_n.mp (fun z => c13 (p10.trans z))).1) cw_ClassPattern_65 ss_ClassPattern_hasDotBehind rfl hl.1 rfl (Nat.le_of_ble_eq_true rfl) d_ClassPattern_matches_104 ⟨rfl, rfl, by decide, by decide⟩ ⟨by first | decide | (dsimp only; omega), by first | decide | (dsimp only; omega)⟩) (fun r16 g15 H locs p14 hw => ?_)
        obtain ⟨rfl, p14⟩ := p14
        refine lv_if_ne (tgt := 114) hx hb d_ClassPattern_matches_107 (by decide) (fun c17 => ?_) (fun c17 => ?_)
        · refine lv_iconst (v := 0) hx hb d_ClassPattern_matches_114 (by decide) ?_
          have hs1 : sh = 1 := (nI_eq (by omega) (by omega)).mp k9
          exact m_zret hc hr hlk hw ⟨by first | decide | (dsimp only; omega), by first | decide | (dsimp only; omega)⟩ d_ClassPattern_matches_115 (by decide) ⟨rfl, (bI_f (fun z => (z.2.2.1 hs1).2 (bI_n.mp (fun y => c17 (p14.trans y))))).symm⟩
        · refine lv_iconst (v := 1) hx hb d_ClassPattern_matches_110 (by decide) ?_
          refine lv_goto (tgt := 115) hx hb d_ClassPattern_matches_111 (by decide) ?_
          have hs1 : sh = 1 := (nI_eq (by omega) (by omega)).mp k9
          exact m_zret hc hr hlk hw ⟨by first | decide | (dsimp only; omega), by first | decide | (dsimp only; omega)⟩ d_ClassPattern_matches_115 (by decide) ⟨rfl, (bI_t ⟨(fun z => absurd z (bI_0.mp (p1.symm.trans c4))), fun y => absurd y (by omega), fun _ => ⟨bI_n.mp (fun y => c13 (p10.trans y)), bI_0.mp (p14.symm.trans c17)⟩, fun y => absurd y (by omega)⟩).symm⟩
    refine lv_lookup (off := 81) (tgt := 116) hx hb d_ClassPattern_matches_35 (by decide) (by rw [lv_osw k5 (show (0 : Int32).toInt = 0 by decide), lv_osw k9 (show (1 : Int32).toInt = 1 by decide)] <;> rfl) (by decide) ?_
    refine lv_aload_n hx hb d_ClassPattern_matches_116 rfl (lv_at hl 0 rfl) ?_
    refine lv_aload_n hx hb d_ClassPattern_matches_117 rfl (lv_at hl 1 rfl) ?_
    refine m_get hc hE hw hqc kc_Question l_ClassPattern_58_Question rfl d_ClassPattern_matches_118 ?_
    refine m_calli hw (m_runV (As := [.ref na]) (rest := []) hc hE hw (c_ClassPattern_beginsName G l H.size f ⟨hp, hts, hm1, hm2, hn1, hn2, hsh⟩ hna) hp rfl cw_ClassPattern_61 se_ClassPattern_beginsName rfl hl.1 rfl (Nat.le_of_ble_eq_true rfl) d_ClassPattern_matches_121 ⟨rfl, rfl, by decide, by decide⟩ ⟨by first | decide | (dsimp only; omega), by first | decide | (dsimp only; omega)⟩) (fun r20 g19 H locs p18 hw => ?_)
    obtain ⟨rfl, p18⟩ := p18
    have hs2 : 2 ≤ sh := by have h0 : sh ≠ 0 := fun z => k5 (congrArg nI z); have h1 : sh ≠ 1 := fun z => k9 (congrArg nI z); omega
    exact m_zret hc hr hlk hw ⟨by decide, by decide⟩ d_ClassPattern_matches_124 (by rw [p18]; exact bI_nar _) ⟨rfl, by rw [p18]; exact bI_c ⟨fun z => ⟨(fun z => absurd z (bI_0.mp (p1.symm.trans c4))), fun y => absurd y (by omega), fun y => absurd y (by omega), fun _ => z⟩, fun z => z.2.2.2 hs2⟩⟩
  · refine lv_aload_n hx hb d_ClassPattern_matches_7 rfl (lv_at hl 1 rfl) ?_
    refine m_get hc hE hw hqc kc_Question l_ClassPattern_47_Question rfl d_ClassPattern_matches_8 ?_
    refine lv_aload_n hx hb d_ClassPattern_matches_11 rfl (lv_at hl 0 rfl) ?_
    refine m_get hc hE hw hp kc_ClassPattern l_ClassPattern_9_ClassPattern rfl d_ClassPattern_matches_12 ?_
    refine lv_aload_n hx hb d_ClassPattern_matches_15 rfl (lv_at hl 0 rfl) ?_
    refine m_get hc hE hw hp kc_ClassPattern l_ClassPattern_30_ClassPattern rfl d_ClassPattern_matches_16 ?_
    refine lv_aload_n hx hb d_ClassPattern_matches_19 rfl (lv_at hl 0 rfl) ?_
    refine m_get hc hE hw hp kc_ClassPattern l_ClassPattern_34_ClassPattern rfl d_ClassPattern_matches_20 ?_
    refine m_calli hw (m_runV (As := [.ref ta, .int (nI m0), .int (nI m1)]) (rest := []) hc hE hw (c_Signs_isPart G l H.size f hma hts hm1 hm2) hma.1 rfl cw_ClassPattern_52 se_Signs_isPart rfl hl.1 rfl (Nat.le_of_ble_eq_true rfl) d_ClassPattern_matches_23 ⟨rfl, rfl, by decide, by decide⟩ ⟨by first | decide | (dsimp only; omega), by first | decide | (dsimp only; omega)⟩) (fun r23 g22 H locs p21 hw => ?_)
    obtain ⟨rfl, p21⟩ := p21
    refine lv_if_ne (tgt := 31) hx hb d_ClassPattern_matches_26 (by decide) (fun c24 => ?_) (fun c24 => ?_)
    · refine lv_aload_n hx hb d_ClassPattern_matches_31 rfl (lv_at hl 0 rfl) ?_
      refine m_get hc hE hw hp kc_ClassPattern l_ClassPattern_26_ClassPattern rfl d_ClassPattern_matches_32 ?_
      by_cases k25 : (nI sh) = 0
      · refine lv_lookup (off := 25) (tgt := 60) hx hb d_ClassPattern_matches_35 (by decide) (by rw [k25] <;> rfl) (by decide) ?_
        refine lv_aload_n hx hb d_ClassPattern_matches_60 rfl (lv_at hl 1 rfl) ?_
        refine m_get hc hE hw hqc kc_Question l_ClassPattern_58_Question rfl d_ClassPattern_matches_61 ?_
        refine lv_aload_n hx hb d_ClassPattern_matches_64 rfl (lv_at hl 0 rfl) ?_
        refine m_get hc hE hw hp kc_ClassPattern l_ClassPattern_9_ClassPattern rfl d_ClassPattern_matches_65 ?_
        refine lv_aload_n hx hb d_ClassPattern_matches_68 rfl (lv_at hl 0 rfl) ?_
        refine m_get hc hE hw hp kc_ClassPattern l_ClassPattern_38_ClassPattern rfl d_ClassPattern_matches_69 ?_
        refine lv_aload_n hx hb d_ClassPattern_matches_72 rfl (lv_at hl 0 rfl) ?_
        refine m_get hc hE hw hp kc_ClassPattern l_ClassPattern_42_ClassPattern rfl d_ClassPattern_matches_73 ?_
        refine m_calli hw (m_runV (As := [.ref ta, .int (nI n0), .int (nI n1)]) (rest := []) hc hE hw (c_Signs_isPart G l H.size f hna hts hn1 hn2) hna.1 rfl cw_ClassPattern_52 se_Signs_isPart rfl hl.1 rfl (Nat.le_of_ble_eq_true rfl) d_ClassPattern_matches_76 ⟨rfl, rfl, by decide, by decide⟩ ⟨by first | decide | (dsimp only; omega), by first | decide | (dsimp only; omega)⟩) (fun r28 g27 H locs p26 hw => ?_)
        obtain ⟨rfl, p26⟩ := p26
        have hs0 : sh = 0 := (nI_eq (by omega) (by omega)).mp k25
        exact m_zret hc hr hlk hw ⟨by decide, by decide⟩ d_ClassPattern_matches_79 (by rw [p26]; exact bI_nar _) ⟨rfl, by rw [p26]; exact bI_c ⟨fun z => ⟨(fun _ => bI_n.mp (fun z => c24 (p21.trans z))), fun _ => z, fun y => absurd y (by omega), fun y => absurd y (by omega)⟩, fun z => z.2.1 hs0⟩⟩
      by_cases k29 : (nI sh) = 1
      · refine lv_lookup (off := 45) (tgt := 80) hx hb d_ClassPattern_matches_35 (by decide) (by rw [k29] <;> rfl) (by decide) ?_
        refine lv_aload_n hx hb d_ClassPattern_matches_80 rfl (lv_at hl 0 rfl) ?_
        refine lv_aload_n hx hb d_ClassPattern_matches_81 rfl (lv_at hl 1 rfl) ?_
        refine m_get hc hE hw hqc kc_Question l_ClassPattern_58_Question rfl d_ClassPattern_matches_82 ?_
        refine m_calli hw (m_runV (As := [.ref na]) (rest := []) hc hE hw (c_ClassPattern_beginsName G l H.size f ⟨hp, hts, hm1, hm2, hn1, hn2, hsh⟩ hna) hp rfl cw_ClassPattern_61 se_ClassPattern_beginsName rfl hl.1 rfl (Nat.le_of_ble_eq_true rfl) d_ClassPattern_matches_85 ⟨rfl, rfl, by decide, by decide⟩ ⟨by first | decide | (dsimp only; omega), by first | decide | (dsimp only; omega)⟩) (fun r32 g31 H locs p30 hw => ?_)
        obtain ⟨rfl, p30⟩ := p30
        refine lv_if_eq (tgt := 114) hx hb d_ClassPattern_matches_88 (by decide) (fun c33 => ?_) (fun c33 => ?_)
        · refine lv_iconst (v := 0) hx hb d_ClassPattern_matches_114 (by decide) ?_
          have hs1 : sh = 1 := (nI_eq (by omega) (by omega)).mp k29
          exact m_zret hc hr hlk hw ⟨by first | decide | (dsimp only; omega), by first | decide | (dsimp only; omega)⟩ d_ClassPattern_matches_115 (by decide) ⟨rfl, (bI_f (fun z => (bI_0.mp (p30.symm.trans c33)) (z.2.2.1 hs1).1)).symm⟩
        · refine lv_aload_n hx hb d_ClassPattern_matches_91 rfl (lv_at hl 1 rfl) ?_
          refine m_get hc hE hw hqc kc_Question l_ClassPattern_58_Question rfl d_ClassPattern_matches_92 ?_
          refine lv_aload_n hx hb d_ClassPattern_matches_95 rfl (lv_at hl 0 rfl) ?_
          refine m_get hc hE hw hp kc_ClassPattern l_ClassPattern_42_ClassPattern rfl d_ClassPattern_matches_96 ?_
          refine lv_aload_n hx hb d_ClassPattern_matches_99 rfl (lv_at hl 0 rfl) ?_
          refine m_get hc hE hw hp kc_ClassPattern l_ClassPattern_38_ClassPattern rfl d_ClassPattern_matches_100 ?_
          refine lv_isub hx hb d_ClassPattern_matches_103 ?_
          refine m_top (y := (nI (n1 - n0))) (pk_sub hn1) ?_
          refine m_calli hw (m_runS (As := [.ref na, .int (nI (n1 - n0))]) (rest := []) hc hE hw (c_ClassPattern_hasDotBehind G l H.size f hna (i0 := n1 - n0) (bI_n.mp (fun z => c33 (p30.trans z))).1) cw_ClassPattern_65 ss_ClassPattern_hasDotBehind rfl hl.1 rfl (Nat.le_of_ble_eq_true rfl) d_ClassPattern_matches_104 ⟨rfl, rfl, by decide, by decide⟩ ⟨by first | decide | (dsimp only; omega), by first | decide | (dsimp only; omega)⟩) (fun r36 g35 H locs p34 hw => ?_)
          obtain ⟨rfl, p34⟩ := p34
          refine lv_if_ne (tgt := 114) hx hb d_ClassPattern_matches_107 (by decide) (fun c37 => ?_) (fun c37 => ?_)
          · refine lv_iconst (v := 0) hx hb d_ClassPattern_matches_114 (by decide) ?_
            have hs1 : sh = 1 := (nI_eq (by omega) (by omega)).mp k29
            exact m_zret hc hr hlk hw ⟨by first | decide | (dsimp only; omega), by first | decide | (dsimp only; omega)⟩ d_ClassPattern_matches_115 (by decide) ⟨rfl, (bI_f (fun z => (z.2.2.1 hs1).2 (bI_n.mp (fun y => c37 (p34.trans y))))).symm⟩
          · refine lv_iconst (v := 1) hx hb d_ClassPattern_matches_110 (by decide) ?_
            refine lv_goto (tgt := 115) hx hb d_ClassPattern_matches_111 (by decide) ?_
            have hs1 : sh = 1 := (nI_eq (by omega) (by omega)).mp k29
            exact m_zret hc hr hlk hw ⟨by first | decide | (dsimp only; omega), by first | decide | (dsimp only; omega)⟩ d_ClassPattern_matches_115 (by decide) ⟨rfl, (bI_t ⟨(fun _ => bI_n.mp (fun z => c24 (p21.trans z))), fun y => absurd y (by omega), fun _ => ⟨bI_n.mp (fun y => c33 (p30.trans y)), bI_0.mp (p34.symm.trans c37)⟩, fun y => absurd y (by omega)⟩).symm⟩
      refine lv_lookup (off := 81) (tgt := 116) hx hb d_ClassPattern_matches_35 (by decide) (by rw [lv_osw k25 (show (0 : Int32).toInt = 0 by decide), lv_osw k29 (show (1 : Int32).toInt = 1 by decide)] <;> rfl) (by decide) ?_
      refine lv_aload_n hx hb d_ClassPattern_matches_116 rfl (lv_at hl 0 rfl) ?_
      refine lv_aload_n hx hb d_ClassPattern_matches_117 rfl (lv_at hl 1 rfl) ?_
      refine m_get hc hE hw hqc kc_Question l_ClassPattern_58_Question rfl d_ClassPattern_matches_118 ?_
      refine m_calli hw (m_runV (As := [.ref na]) (rest := []) hc hE hw (c_ClassPattern_beginsName G l H.size f ⟨hp, hts, hm1, hm2, hn1, hn2, hsh⟩ hna) hp rfl cw_ClassPattern_61 se_ClassPattern_beginsName rfl hl.1 rfl (Nat.le_of_ble_eq_true rfl) d_ClassPattern_matches_121 ⟨rfl, rfl, by decide, by decide⟩ ⟨by first | decide | (dsimp only; omega), by first | decide | (dsimp only; omega)⟩) (fun r40 g39 H locs p38 hw => ?_)
      obtain ⟨rfl, p38⟩ := p38
      have hs2 : 2 ≤ sh := by have h0 : sh ≠ 0 := fun z => k25 (congrArg nI z); have h1 : sh ≠ 1 := fun z => k29 (congrArg nI z); omega
      exact m_zret hc hr hlk hw ⟨by decide, by decide⟩ d_ClassPattern_matches_124 (by rw [p38]; exact bI_nar _) ⟨rfl, by rw [p38]; exact bI_c ⟨fun z => ⟨(fun _ => bI_n.mp (fun z => c24 (p21.trans z))), fun y => absurd y (by omega), fun y => absurd y (by omega), fun _ => z⟩, fun z => z.2.2.2 hs2⟩⟩
    · refine lv_iconst (v := 0) hx hb d_ClassPattern_matches_29 (by decide) ?_
      exact m_zret hc hr hlk hw ⟨by first | decide | (dsimp only; omega), by first | decide | (dsimp only; omega)⟩ d_ClassPattern_matches_30 (by decide) ⟨rfl, (bI_f (fun z => (bI_0.mp (p21.symm.trans c24)) (z.1 (bI_n.mp (fun y => c4 (p1.trans y)))))).symm⟩
end
section
/-! links of the pools, as the walks ask for them -/
theorem cw_String_1059 : cwk "java/lang/String" 1059 y_Precond_checkIndex b_Precond_checkIndex 3 (some .int) 3 := ⟨Or.inl (tb 267 (by decide +kernel) rfl), (tb 269 (by decide +kernel) rfl), (tb 8 (by decide +kernel) rfl), by decide, by decide, by decide +kernel⟩
theorem cw_String_335 : cwk "java/lang/String" 335 y_String_coder b_String_coder 1 (some .byte) 0 := ⟨Or.inl (tb 245 (by decide +kernel) rfl), (tb 248 (by decide +kernel) rfl), (tb 6 (by decide +kernel) rfl), by decide, by decide, by decide +kernel⟩
theorem cw_String_492 : cwk "java/lang/String" 492 y_String_isLatin1 b_String_isLatin1 1 (some .boolean) 0 := ⟨Or.inl (tb 255 (by decide +kernel) rfl), (tb 258 (by decide +kernel) rfl), (tb 6 (by decide +kernel) rfl), by decide, by decide, by decide +kernel⟩
theorem cw_String_495 : cwk "java/lang/String" 495 y_Latin1_charAt b_Latin1_charAt 2 (some .char) 2 := ⟨Or.inl (tb 259 (by decide +kernel) rfl), (tb 261 (by decide +kernel) rfl), (tb 7 (by decide +kernel) rfl), by decide, by decide, by decide +kernel⟩
theorem cw_Latin1_9 : cwk "java/lang/StringLatin1" 9 y_String_checkIndex b_String_checkIndex 2 none 2 := ⟨Or.inl (tb 262 (by decide +kernel) rfl), (tb 264 (by decide +kernel) rfl), (tb 6 (by decide +kernel) rfl), by decide, by decide, by decide +kernel⟩
theorem se_String_coder : Cond.instanceMethod y_String_coder ∈ TB ∧ Cond.selects "java/lang/String" y_String_coder y_String_coder ∈ TB := ⟨(tb 246 (by decide +kernel) rfl), (tb 247 (by decide +kernel) rfl)⟩
theorem se_String_isLatin1 : Cond.instanceMethod y_String_isLatin1 ∈ TB ∧ Cond.selects "java/lang/String" y_String_isLatin1 y_String_isLatin1 ∈ TB := ⟨(tb 256 (by decide +kernel) rfl), (tb 257 (by decide +kernel) rfl)⟩
theorem ss_String_checkIndex : Cond.static y_String_checkIndex ∈ TB := (tb 263 (by decide +kernel) rfl)
theorem ss_Latin1_charAt : Cond.static y_Latin1_charAt ∈ TB := (tb 260 (by decide +kernel) rfl)
theorem ss_Precond_checkIndex : Cond.static y_Precond_checkIndex ∈ TB := (tb 268 (by decide +kernel) rfl)
theorem wd_fieldLink_java_lang_String_1053_jdk_internal_util_Preconditions_SIOOBE_FORMATTER_Ljava_util_function_BiFunction : Cond.fieldLink "java/lang/String" 1053 "jdk/internal/util/Preconditions" "SIOOBE_FORMATTER" "Ljava/util/function/BiFunction;" ∈ TB := (tb 265 (by decide +kernel) rfl)
theorem wd_fieldLink_java_lang_String_15_java_lang_String_coder_B : Cond.fieldLink "java/lang/String" 15 "java/lang/String" "coder" "B" ∈ TB := (tb 873 (by decide +kernel) rfl)
theorem wd_fieldLink_java_lang_String_38_java_lang_String_COMPACT_STRINGS_Z : Cond.fieldLink "java/lang/String" 38 "java/lang/String" "COMPACT_STRINGS" "Z" ∈ TB := (tb 249 (by decide +kernel) rfl)
theorem wd_fieldLink_java_lang_String_9_java_lang_String_value__B : Cond.fieldLink "java/lang/String" 9 "java/lang/String" "value" "[B" ∈ TB := (tb 872 (by decide +kernel) rfl)
/-! decode rows -/
theorem d_String_length_0 : decode b_String_length 0 = .ok (.aload_n 0, 1) := by decide +kernel
theorem d_String_length_1 : decode b_String_length 1 = .ok (.getfield 9, 3) := by decide +kernel
theorem d_String_length_4 : decode b_String_length 4 = .ok (.arraylength, 1) := by decide +kernel
theorem d_String_length_5 : decode b_String_length 5 = .ok (.aload_n 0, 1) := by decide +kernel
theorem d_String_length_6 : decode b_String_length 6 = .ok (.invokevirtual 335, 3) := by decide +kernel
theorem d_String_length_9 : decode b_String_length 9 = .ok (.ishr, 1) := by decide +kernel
theorem d_String_length_10 : decode b_String_length 10 = .ok (.ireturn, 1) := by decide +kernel
theorem d_String_coder_0 : decode b_String_coder 0 = .ok (.getstatic 38, 3) := by decide +kernel
theorem d_String_coder_3 : decode b_String_coder 3 = .ok (.ifCond .eq 10, 3) := by decide +kernel
theorem d_String_coder_6 : decode b_String_coder 6 = .ok (.aload_n 0, 1) := by decide +kernel
theorem d_String_coder_7 : decode b_String_coder 7 = .ok (.getfield 15, 3) := by decide +kernel
theorem d_String_coder_10 : decode b_String_coder 10 = .ok (.goto 4, 3) := by decide +kernel
theorem d_String_coder_13 : decode b_String_coder 13 = .ok (.iconst 1, 1) := by decide +kernel
theorem d_String_coder_14 : decode b_String_coder 14 = .ok (.ireturn, 1) := by decide +kernel
theorem d_String_charAt_0 : decode b_String_charAt 0 = .ok (.aload_n 0, 1) := by decide +kernel
theorem d_String_charAt_1 : decode b_String_charAt 1 = .ok (.invokevirtual 492, 3) := by decide +kernel
theorem d_String_charAt_4 : decode b_String_charAt 4 = .ok (.ifCond .eq 12, 3) := by decide +kernel
theorem d_String_charAt_7 : decode b_String_charAt 7 = .ok (.aload_n 0, 1) := by decide +kernel
theorem d_String_charAt_8 : decode b_String_charAt 8 = .ok (.getfield 9, 3) := by decide +kernel
theorem d_String_charAt_11 : decode b_String_charAt 11 = .ok (.iload_n 1, 1) := by decide +kernel
theorem d_String_charAt_12 : decode b_String_charAt 12 = .ok (.invokestatic 495, 3) := by decide +kernel
theorem d_String_charAt_15 : decode b_String_charAt 15 = .ok (.ireturn, 1) := by decide +kernel
theorem d_String_charAt_16 : decode b_String_charAt 16 = .ok (.aload_n 0, 1) := by decide +kernel
theorem d_String_charAt_17 : decode b_String_charAt 17 = .ok (.getfield 9, 3) := by decide +kernel
theorem d_String_charAt_20 : decode b_String_charAt 20 = .ok (.iload_n 1, 1) := by decide +kernel
theorem d_String_charAt_21 : decode b_String_charAt 21 = .ok (.invokestatic 498, 3) := by decide +kernel
theorem d_String_charAt_24 : decode b_String_charAt 24 = .ok (.ireturn, 1) := by decide +kernel
theorem d_String_isLatin1_0 : decode b_String_isLatin1 0 = .ok (.getstatic 38, 3) := by decide +kernel
theorem d_String_isLatin1_3 : decode b_String_isLatin1 3 = .ok (.ifCond .eq 14, 3) := by decide +kernel
theorem d_String_isLatin1_6 : decode b_String_isLatin1 6 = .ok (.aload_n 0, 1) := by decide +kernel
theorem d_String_isLatin1_7 : decode b_String_isLatin1 7 = .ok (.getfield 15, 3) := by decide +kernel
theorem d_String_isLatin1_10 : decode b_String_isLatin1 10 = .ok (.ifCond .ne 7, 3) := by decide +kernel
theorem d_String_isLatin1_13 : decode b_String_isLatin1 13 = .ok (.iconst 1, 1) := by decide +kernel
theorem d_String_isLatin1_14 : decode b_String_isLatin1 14 = .ok (.goto 4, 3) := by decide +kernel
theorem d_String_isLatin1_17 : decode b_String_isLatin1 17 = .ok (.iconst 0, 1) := by decide +kernel
theorem d_String_isLatin1_18 : decode b_String_isLatin1 18 = .ok (.ireturn, 1) := by decide +kernel
theorem d_Latin1_charAt_0 : decode b_Latin1_charAt 0 = .ok (.iload_n 1, 1) := by decide +kernel
theorem d_Latin1_charAt_1 : decode b_Latin1_charAt 1 = .ok (.aload_n 0, 1) := by decide +kernel
theorem d_Latin1_charAt_2 : decode b_Latin1_charAt 2 = .ok (.arraylength, 1) := by decide +kernel
theorem d_Latin1_charAt_3 : decode b_Latin1_charAt 3 = .ok (.invokestatic 9, 3) := by decide +kernel
theorem d_Latin1_charAt_6 : decode b_Latin1_charAt 6 = .ok (.aload_n 0, 1) := by decide +kernel
theorem d_Latin1_charAt_7 : decode b_Latin1_charAt 7 = .ok (.iload_n 1, 1) := by decide +kernel
theorem d_Latin1_charAt_8 : decode b_Latin1_charAt 8 = .ok (.baload, 1) := by decide +kernel
theorem d_Latin1_charAt_9 : decode b_Latin1_charAt 9 = .ok (.sipush 255, 3) := by decide +kernel
theorem d_Latin1_charAt_12 : decode b_Latin1_charAt 12 = .ok (.iand, 1) := by decide +kernel
theorem d_Latin1_charAt_13 : decode b_Latin1_charAt 13 = .ok (.i2c, 1) := by decide +kernel
theorem d_Latin1_charAt_14 : decode b_Latin1_charAt 14 = .ok (.ireturn, 1) := by decide +kernel
theorem d_String_checkIndex_0 : decode b_String_checkIndex 0 = .ok (.iload_n 0, 1) := by decide +kernel
theorem d_String_checkIndex_1 : decode b_String_checkIndex 1 = .ok (.iload_n 1, 1) := by decide +kernel
theorem d_String_checkIndex_2 : decode b_String_checkIndex 2 = .ok (.getstatic 1053, 3) := by decide +kernel
theorem d_String_checkIndex_5 : decode b_String_checkIndex 5 = .ok (.invokestatic 1059, 3) := by decide +kernel
theorem d_String_checkIndex_8 : decode b_String_checkIndex 8 = .ok (.pop, 1) := by decide +kernel
theorem d_String_checkIndex_9 : decode b_String_checkIndex 9 = .ok (.return_, 1) := by decide +kernel
theorem d_Precond_checkIndex_0 : decode b_Precond_checkIndex 0 = .ok (.iload_n 0, 1) := by decide +kernel
theorem d_Precond_checkIndex_1 : decode b_Precond_checkIndex 1 = .ok (.ifCond .lt 8, 3) := by decide +kernel
theorem d_Precond_checkIndex_4 : decode b_Precond_checkIndex 4 = .ok (.iload_n 0, 1) := by decide +kernel
theorem d_Precond_checkIndex_5 : decode b_Precond_checkIndex 5 = .ok (.iload_n 1, 1) := by decide +kernel
theorem d_Precond_checkIndex_6 : decode b_Precond_checkIndex 6 = .ok (.if_icmp .lt 10, 3) := by decide +kernel
theorem d_Precond_checkIndex_9 : decode b_Precond_checkIndex 9 = .ok (.aload_n 2, 1) := by decide +kernel
theorem d_Precond_checkIndex_10 : decode b_Precond_checkIndex 10 = .ok (.iload_n 0, 1) := by decide +kernel
theorem d_Precond_checkIndex_11 : decode b_Precond_checkIndex 11 = .ok (.iload_n 1, 1) := by decide +kernel
theorem d_Precond_checkIndex_12 : decode b_Precond_checkIndex 12 = .ok (.invokestatic 95, 3) := by decide +kernel
theorem d_Precond_checkIndex_15 : decode b_Precond_checkIndex 15 = .ok (.athrow, 1) := by decide +kernel
theorem d_Precond_checkIndex_16 : decode b_Precond_checkIndex 16 = .ok (.iload_n 0, 1) := by decide +kernel
theorem d_Precond_checkIndex_17 : decode b_Precond_checkIndex 17 = .ok (.ireturn, 1) := by decide +kernel
set_option maxHeartbeats 4000000 in
set_option maxRecDepth 100000 in
/-- String.coder() of a text -/
theorem c_String_coder (G : GG) (l : Launch) (sz : Nat) (f : Wd) {k : Nat} (hk : k < nTx) : Ci G l y_String_coder b_String_coder 1 (some .byte) ({ frames := 0, cells := 0, slots := 0, locals := 0 }) sz f [.ref (G.2.2.1 k)] (fun v f' => f = f' ∧ v = 0) := by
  refine ct_of (by decide) (Nat.le_of_ble_eq_true rfl) ?_
  intro p e s m below meth c ls H locs hEn
  obtain ⟨hc, hr, hlk, hin, hE, hw, hsz, hl⟩ := hEn
  have hx := hc.1
  have hb := hc.2.1
  have hl : lv_has ls 1 [(0, .ref (G.2.2.1 k))] := hl
  refine m_compact hc hE hw wd_fieldLink_java_lang_String_38_java_lang_String_COMPACT_STRINGS_Z d_String_coder_0 ?_
  refine lv_if_eq (tgt := 13) hx hb d_String_coder_3 (by decide) (fun c1 => ?_) (fun c1 => ?_)
  · refine lv_iconst (v := 1) hx hb d_String_coder_13 (by decide) ?_
    exact absurd c1 (by decide)
  · refine lv_aload_n hx hb d_String_coder_6 rfl (lv_at hl 0 rfl) ?_
    refine m_scod hc hE hw hk wd_fieldLink_java_lang_String_15_java_lang_String_coder_B d_String_coder_7 ?_
    refine lv_goto (tgt := 14) hx hb d_String_coder_10 (by decide) ?_
    exact m_zret hc hr hlk hw ⟨by decide, by decide⟩ d_String_coder_14 rfl ⟨rfl, rfl⟩

set_option maxHeartbeats 4000000 in
set_option maxRecDepth 100000 in
/-- String.isLatin1() of a text -/
theorem c_String_isLatin1 (G : GG) (l : Launch) (sz : Nat) (f : Wd) {k : Nat} (hk : k < nTx) : Ci G l y_String_isLatin1 b_String_isLatin1 1 (some .boolean) ({ frames := 0, cells := 0, slots := 0, locals := 0 }) sz f [.ref (G.2.2.1 k)] (fun v f' => f = f' ∧ v = 1) := by
  refine ct_of (by decide) (Nat.le_of_ble_eq_true rfl) ?_
  intro p e s m below meth c ls H locs hEn
  obtain ⟨hc, hr, hlk, hin, hE, hw, hsz, hl⟩ := hEn
  have hx := hc.1
  have hb := hc.2.1
  have hl : lv_has ls 1 [(0, .ref (G.2.2.1 k))] := hl
  refine m_compact hc hE hw wd_fieldLink_java_lang_String_38_java_lang_String_COMPACT_STRINGS_Z d_String_isLatin1_0 ?_
  refine lv_if_eq (tgt := 17) hx hb d_String_isLatin1_3 (by decide) (fun c1 => ?_) (fun c1 => ?_)
  · refine lv_iconst (v := 0) hx hb d_String_isLatin1_17 (by decide) ?_
    exact absurd c1 (by decide)
  · refine lv_aload_n hx hb d_String_isLatin1_6 rfl (lv_at hl 0 rfl) ?_
    refine m_scod hc hE hw hk wd_fieldLink_java_lang_String_15_java_lang_String_coder_B d_String_isLatin1_7 ?_
    refine lv_if_ne (tgt := 17) hx hb d_String_isLatin1_10 (by decide) (fun c2 => ?_) (fun c2 => ?_)
    · refine lv_iconst (v := 0) hx hb d_String_isLatin1_17 (by decide) ?_
      exact absurd c2 (by decide)
    · refine lv_iconst (v := 1) hx hb d_String_isLatin1_13 (by decide) ?_
      refine lv_goto (tgt := 18) hx hb d_String_isLatin1_14 (by decide) ?_
      exact m_zret hc hr hlk hw ⟨by decide, by decide⟩ d_String_isLatin1_18 (by decide) ⟨rfl, rfl⟩

set_option maxHeartbeats 4000000 in
set_option maxRecDepth 100000 in
/-- String.length() of a text -/
theorem c_String_length (G : GG) (l : Launch) (sz : Nat) (f : Wd) {k : Nat} (hk : k < nTx) : Ci G l y_String_length b_String_length 1 (some .int) ({ frames := 1, cells := 0, slots := 0, locals := 20 }) sz f [.ref (G.2.2.1 k)] (fun v f' => f = f' ∧ v = nI (lenTx.getD k 0)) := by
  refine ct_of (by decide) (Nat.le_of_ble_eq_true rfl) ?_
  intro p e s m below meth c ls H locs hEn
  obtain ⟨hc, hr, hlk, hin, hE, hw, hsz, hl⟩ := hEn
  have hx := hc.1
  have hb := hc.2.1
  have hl : lv_has ls 1 [(0, .ref (G.2.2.1 k))] := hl
  refine lv_aload_n hx hb d_String_length_0 rfl (lv_at hl 0 rfl) ?_
  refine m_sval hc hE hw hk wd_fieldLink_java_lang_String_9_java_lang_String_value__B d_String_length_1 ?_
  refine m_slen hc hE hw hk d_String_length_4 ?_
  refine lv_aload_n hx hb d_String_length_5 rfl (lv_at hl 0 rfl) ?_
  refine m_calli hw (m_runV0 (As := []) (rest := [.int (nI (lenTx.getD k 0))]) hc hE hw (c_String_coder G l H.size f hk) (m_strecv hE hw hk) cw_String_335 se_String_coder rfl hl.1 rfl (Nat.le_of_ble_eq_true rfl) d_String_length_6 ⟨rfl, rfl, by decide, by decide⟩ ⟨by first | decide | (dsimp only; omega), by first | decide | (dsimp only; omega)⟩) (fun r3 g2 H locs p1 hw => ?_)
  obtain ⟨rfl, p1⟩ := p1
  subst p1
  refine lv_ishr hx hb d_String_length_9 ?_
  exact m_iret hc hr hlk hw ⟨by first | decide | (dsimp only; omega), by first | decide | (dsimp only; omega)⟩ d_String_length_10 ⟨rfl, sb_shr0 _⟩

set_option maxHeartbeats 4000000 in
set_option maxRecDepth 100000 in
/-- Preconditions.checkIndex -/
theorem c_Precond_checkIndex (G : GG) (l : Launch) (sz : Nat) (f : Wd) {i n : Nat} (hi : i < n) (hn : n < 2 ^ 31) (r : Option Nat) : Ci G l y_Precond_checkIndex b_Precond_checkIndex 3 (some .int) ({ frames := 0, cells := 0, slots := 0, locals := 0 }) sz f [.int (nI i), .int (nI n), va_rf r] (fun v f' => f = f' ∧ v = nI i) := by
  cases r
  all_goals
    refine ct_of (by decide) (Nat.le_of_ble_eq_true rfl) ?_
    intro p e s m below meth c ls H locs hEn
    obtain ⟨hc, hr, hlk, hin, hE, hw, hsz, hl⟩ := hEn
    have hx := hc.1
    have hb := hc.2.1
    have hl : lv_has ls 3 [(0, .int (nI i)), (1, .int (nI n)), (2, _)] := hl
    refine lv_iload_n hx hb d_Precond_checkIndex_0 rfl (lv_at hl 0 rfl) ?_
    refine lv_if_lt (tgt := 9) hx hb d_Precond_checkIndex_1 (by decide) (fun c1 => ?_) (fun c1 => ?_)
    · exact absurd c1 (nI_pos (by omega))
    · refine lv_iload_n hx hb d_Precond_checkIndex_4 rfl (lv_at hl 0 rfl) ?_
      refine lv_iload_n hx hb d_Precond_checkIndex_5 rfl (lv_at hl 1 rfl) ?_
      refine lv_icmp_lt (tgt := 16) hx hb d_Precond_checkIndex_6 (by decide) (fun c2 => ?_) (fun c2 => ?_)
      · refine lv_iload_n hx hb d_Precond_checkIndex_16 rfl (lv_at hl 0 rfl) ?_
        exact m_iret hc hr hlk hw ⟨by first | decide | (dsimp only; omega), by first | decide | (dsimp only; omega)⟩ d_Precond_checkIndex_17 ⟨rfl, rfl⟩
      · exact absurd (nI_lt hi hn) c2

set_option maxHeartbeats 4000000 in
set_option maxRecDepth 100000 in
/-- String.checkIndex -/
theorem c_String_checkIndex (G : GG) (l : Launch) (sz : Nat) (f : Wd) {i n : Nat} (hi : i < n) (hn : n < 2 ^ 31) : Cv G l y_String_checkIndex b_String_checkIndex 2 none ({ frames := 1, cells := 0, slots := 0, locals := 22 }) sz f [.int (nI i), .int (nI n)] (fun f' => f = f') := by
  refine ct_of (by decide) (Nat.le_of_ble_eq_true rfl) ?_
  intro p e s m below meth c ls H locs hEn
  obtain ⟨hc, hr, hlk, hin, hE, hw, hsz, hl⟩ := hEn
  have hx := hc.1
  have hb := hc.2.1
  have hl : lv_has ls 2 [(0, .int (nI i)), (1, .int (nI n))] := hl
  refine lv_iload_n hx hb d_String_checkIndex_0 rfl (lv_at hl 0 rfl) ?_
  refine lv_iload_n hx hb d_String_checkIndex_1 rfl (lv_at hl 1 rfl) ?_
  refine m_former hc hE hw wd_fieldLink_java_lang_String_1053_jdk_internal_util_Preconditions_SIOOBE_FORMATTER_Ljava_util_function_BiFunction d_String_checkIndex_2 (fun r1 => ?_)
  refine m_calli hw (m_runS (As := [.int (nI i), .int (nI n), va_rf r1]) (rest := []) hc hE hw (c_Precond_checkIndex G l H.size f hi hn r1) cw_String_1059 ss_Precond_checkIndex rfl hl.1 rfl (Nat.le_of_ble_eq_true rfl) d_String_checkIndex_5 ⟨rfl, rfl, by decide, by decide⟩ ⟨by first | decide | (dsimp only; omega), by first | decide | (dsimp only; omega)⟩) (fun r4 g3 H locs p2 hw => ?_)
  obtain ⟨rfl, p2⟩ := p2
  subst p2
  refine lv_pop hx hb d_String_checkIndex_8 rfl ?_
  exact m_vret hc hr hlk hw ⟨by first | decide | (dsimp only; omega), by first | decide | (dsimp only; omega)⟩ d_String_checkIndex_9 rfl

set_option maxHeartbeats 4000000 in
set_option maxRecDepth 100000 in
/-- StringLatin1.charAt of a text -/
theorem c_Latin1_charAt (G : GG) (l : Launch) (sz : Nat) (f : Wd) {k : Nat} (hk : k < nTx) {i : Nat} (hi : i < lenTx.getD k 0) (hl0 : lenTx.getD k 0 < 2 ^ 31) : Ci G l y_Latin1_charAt b_Latin1_charAt 2 (some .char) ({ frames := 2, cells := 0, slots := 0, locals := 43 }) sz f [.ref (G.2.2.2 k), .int (nI i)] (fun v f' => f = f' ∧ v = (bytTx.getD k []).getD i 0 &&& 255) := by
  refine ct_of (by decide) (Nat.le_of_ble_eq_true rfl) ?_
  intro p e s m below meth c ls H locs hEn
  obtain ⟨hc, hr, hlk, hin, hE, hw, hsz, hl⟩ := hEn
  have hx := hc.1
  have hb := hc.2.1
  have hl : lv_has ls 2 [(0, .ref (G.2.2.2 k)), (1, .int (nI i))] := hl
  refine lv_iload_n hx hb d_Latin1_charAt_0 rfl (lv_at hl 1 rfl) ?_
  refine lv_aload_n hx hb d_Latin1_charAt_1 rfl (lv_at hl 0 rfl) ?_
  refine m_slen hc hE hw hk d_Latin1_charAt_2 ?_
  refine m_callv hw (m_runS (As := [.int (nI i), .int (nI (lenTx.getD k 0))]) (rest := []) hc hE hw (c_String_checkIndex G l H.size f hi hl0) cw_Latin1_9 ss_String_checkIndex rfl hl.1 rfl (Nat.le_of_ble_eq_true rfl) d_Latin1_charAt_3 ⟨rfl, rfl, by decide, by decide⟩ ⟨by first | decide | (dsimp only; omega), by first | decide | (dsimp only; omega)⟩) (fun g2 H locs p1 hw => ?_)
  obtain rfl := p1
  refine lv_aload_n hx hb d_Latin1_charAt_6 rfl (lv_at hl 0 rfl) ?_
  refine lv_iload_n hx hb d_Latin1_charAt_7 rfl (lv_at hl 1 rfl) ?_
  refine m_sbal hc hE hw hk (vp_in_nI hi hl0) d_Latin1_charAt_8 ?_
  refine lv_sipush (v := 255) hx hb d_Latin1_charAt_9 (by decide) ?_
  refine lv_iand hx hb d_Latin1_charAt_12 ?_
  refine lv_i2c hx hb d_Latin1_charAt_13 rfl ?_
  exact m_zret hc hr hlk hw ⟨by decide, by decide⟩ d_Latin1_charAt_14 (pk_nc _) ⟨rfl, by rw [nI_clamp (by omega)]; exact sc_c2 _⟩

set_option maxHeartbeats 4000000 in
set_option maxRecDepth 100000 in
/-- String.charAt of a text -/
theorem c_String_charAt (G : GG) (l : Launch) (sz : Nat) (f : Wd) {k : Nat} (hk : k < nTx) {i : Nat} (hi : i < lenTx.getD k 0) (hl0 : lenTx.getD k 0 < 2 ^ 31) : Ci G l y_String_charAt b_String_charAt 2 (some .char) ({ frames := 3, cells := 0, slots := 0, locals := 66 }) sz f [.ref (G.2.2.1 k), .int (nI i)] (fun v f' => f = f' ∧ v = (bytTx.getD k []).getD i 0 &&& 255) := by
  refine ct_of (by decide) (Nat.le_of_ble_eq_true rfl) ?_
  intro p e s m below meth c ls H locs hEn
  obtain ⟨hc, hr, hlk, hin, hE, hw, hsz, hl⟩ := hEn
  have hx := hc.1
  have hb := hc.2.1
  have hl : lv_has ls 2 [(0, .ref (G.2.2.1 k)), (1, .int (nI i))] := hl
  refine lv_aload_n hx hb d_String_charAt_0 rfl (lv_at hl 0 rfl) ?_
  refine m_calli hw (m_runV0 (As := []) (rest := []) hc hE hw (c_String_isLatin1 G l H.size f hk) (m_strecv hE hw hk) cw_String_492 se_String_isLatin1 rfl hl.1 rfl (Nat.le_of_ble_eq_true rfl) d_String_charAt_1 ⟨rfl, rfl, by decide, by decide⟩ ⟨by first | decide | (dsimp only; omega), by first | decide | (dsimp only; omega)⟩) (fun r3 g2 H locs p1 hw => ?_)
  obtain ⟨rfl, p1⟩ := p1
  subst p1
  refine lv_if_eq (tgt := 16) hx hb d_String_charAt_4 (by decide) (fun c4 => ?_) (fun c4 => ?_)
  · exact absurd c4 (by decide)
  · refine lv_aload_n hx hb d_String_charAt_7 rfl (lv_at hl 0 rfl) ?_
    refine m_sval hc hE hw hk wd_fieldLink_java_lang_String_9_java_lang_String_value__B d_String_charAt_8 ?_
    refine lv_iload_n hx hb d_String_charAt_11 rfl (lv_at hl 1 rfl) ?_
    refine m_calli hw (m_runS (As := [.ref (G.2.2.2 k), .int (nI i)]) (rest := []) hc hE hw (c_Latin1_charAt G l H.size f hk hi hl0) cw_String_495 ss_Latin1_charAt rfl hl.1 rfl (Nat.le_of_ble_eq_true rfl) d_String_charAt_12 ⟨rfl, rfl, by decide, by decide⟩ ⟨by first | decide | (dsimp only; omega), by first | decide | (dsimp only; omega)⟩) (fun r7 g6 H locs p5 hw => ?_)
    obtain ⟨rfl, p5⟩ := p5
    exact m_zret hc hr hlk hw ⟨by decide, by decide⟩ d_String_charAt_15 (by rw [p5]; exact sc_nar _) ⟨rfl, p5⟩
end
section
/-! READING, purely: a text is its signs t and its length; a piece is from a (it counts) to e (it doesn't) -/
noncomputable def pif {α : Type} (P : Prop) (x y : α) : α := @ite α P (Classical.propDecidable P) x y
theorem pif_t {α : Type} {P : Prop} {x y : α} (h : P) : pif P x y = x := by unfold pif; exact if_pos h
theorem pif_f {α : Type} {P : Prop} {x y : α} (h : ¬ P) : pif P x y = y := by unfold pif; exact if_neg h
theorem up_id {f : Wd} {a : Nat} {e : va_E} (h : f a = some e) : va_up f a (some e) = f := by
  funext j
  by_cases hj : j = a
  · subst hj; rw [va_up_self]; exact h.symm
  · rw [va_up_ne _ _ hj]
/-- the signs from a to b are the word w -/
def isw (t : Nat → Int32) (a b : Nat) (w : List Int32) : Prop := b - a = w.length ∧ ∀ j, j < w.length → t (a + j) = w.getD j 0
theorem tx_ok : ∀ k, k < nTx → lenTx.getD k 0 = (bytTx.getD k []).length ∧ lenTx.getD k 0 < 2 ^ 31 ∧ ∀ j, j < lenTx.getD k 0 → (bytTx.getD k []).getD j 0 &&& 255 = (bytTx.getD k []).getD j 0 := by decide +kernel
/-- which limit a name is; -2: none -/
noncomputable def lmV (t : Nat → Int32) (a q : Nat) : Int32 := pif (isw t a q (bytTx.getD 0 [])) 0 (pif (isw t a q (bytTx.getD 1 [])) 1 (pif (isw t a q (bytTx.getD 2 [])) 2 (pif (isw t a q (bytTx.getD 3 [])) 3 (-2))))
/-- one to nine digits from d to e -/
def nok (t : Nat → Int32) (d e : Nat) : Prop := 1 ≤ e - d ∧ e - d ≤ 9 ∧ ∀ j, j < e - d → 48 ≤ t (d + j) ∧ t (d + j) ≤ 57
/-- the number that k digits from d on are -/
def nmb (t : Nat → Int32) (d : Nat) : Nat → Int32
  | 0 => 0
  | k + 1 => nmb t d k * 10 + (t (d + k) - 48)
def lok (t : Nat → Int32) (a q e : Nat) : Prop := ¬ lmV t a q = -2 ∧ nok t (q + 1) e
/-- a name's shape, from b to e -/
def s2 (t : Nat → Int32) (b e : Nat) : Prop := 3 ≤ e - b ∧ t (e - 1) = 42 ∧ t (e - 2) = 42 ∧ t (e - 3) = 46
def s1 (t : Nat → Int32) (b e : Nat) : Prop := 2 ≤ e - b ∧ t (e - 1) = 42 ∧ t (e - 2) = 46
def s3 (t : Nat → Int32) (b e : Nat) : Prop := 1 ≤ e - b ∧ t (e - 1) = 42
noncomputable def shp (t : Nat → Int32) (b e : Nat) : Nat := pif (s2 t b e) 2 (pif (s1 t b e) 1 (pif (s3 t b e) 3 0))
/-- the end of the signs that a class's name must begin with -/
noncomputable def nmE (t : Nat → Int32) (b e : Nat) : Nat := pif (s2 t b e) (e - 2) (pif (s1 t b e) (e - 1) (pif (s3 t b e) (e - 1) e))
def okN (t : Nat → Int32) (b e : Nat) : Prop := (s2 t b e → 2 ≤ e - 2 - b) ∧ (¬ s2 t b e → s1 t b e → 2 ≤ e - 1 - b) ∧ (¬ s2 t b e → ¬ s1 t b e → ¬ s3 t b e → b < e)
noncomputable def m0c (t : Nat → Int32) (a : Nat) : Nat := pif (t a = 33) (a + 1) a
noncomputable def slc (t : Nat → Int32) (a e : Nat) : Nat := fnd t 47 (e - m0c t a) (m0c t a)
noncomputable def m1c (t : Nat → Int32) (a e : Nat) : Nat := pif (slc t a e = e) (m0c t a) (slc t a e)
noncomputable def q0c (t : Nat → Int32) (a e : Nat) : Nat := pif (slc t a e = e) (m0c t a) (slc t a e + 1)
def okC (t : Nat → Int32) (a e : Nat) : Prop := (¬ slc t a e = e → m0c t a < slc t a e) ∧ okN t (q0c t a e) e
/-- where '=' first stands in a piece -/
def eqc (t : Nat → Int32) (a e : Nat) : Nat := fnd t 61 (e - a) a
/-- a piece's kind: 0 empty, 1 a limit, 2 a class pattern, 3 bad -/
noncomputable def pkd (t : Nat → Int32) (a e : Nat) : Nat := pif (a = e) 0 (pif (eqc t a e < e) (pif (lok t a (eqc t a e) e) 1 3) (pif (okC t a e) 2 3))
/-- a piece's end; the pieces' starts; how many pieces -/
def pnx (t : Nat → Int32) (n a : Nat) : Nat := fnd t 59 (n - a) a
def pst (t : Nat → Int32) (n : Nat) : Nat → Nat
  | 0 => 0
  | k + 1 => pnx t n (pst t n k) + 1
def cntS (t : Nat → Int32) : Nat → Nat
  | 0 => 0
  | n + 1 => cntS t n + (if t n = 59 then 1 else 0)
def npc (t : Nat → Int32) (n : Nat) : Nat := cntS t n + 1
theorem m0c_in {t : Nat → Int32} {a e : Nat} (h : a < e) : a ≤ m0c t a ∧ m0c t a ≤ e := by
  unfold m0c
  by_cases h1 : t a = 33
  · rw [pif_t h1]; omega
  · rw [pif_f h1]; omega
theorem slc_in {t : Nat → Int32} {a e : Nat} (h : a < e) : m0c t a ≤ slc t a e ∧ slc t a e ≤ e := by
  have h1 := m0c_in (t := t) h
  have h2 := fnd_in t 47 (e - m0c t a) (m0c t a)
  unfold slc
  omega
theorem q0c_in {t : Nat → Int32} {a e : Nat} (h : a < e) : a ≤ q0c t a e ∧ q0c t a e ≤ e ∧ m0c t a ≤ m1c t a e ∧ m1c t a e ≤ e := by
  have h1 := m0c_in (t := t) h
  have h2 := slc_in (t := t) h
  unfold q0c m1c
  by_cases h3 : slc t a e = e
  · rw [pif_t h3, pif_t h3]; omega
  · rw [pif_f h3, pif_f h3]; omega
theorem nmE_in {t : Nat → Int32} {b e : Nat} (h : b ≤ e) : b ≤ nmE t b e ∧ nmE t b e ≤ e := by
  unfold nmE
  by_cases h2 : s2 t b e
  · rw [pif_t h2]; have := h2.1; omega
  · rw [pif_f h2]
    by_cases h1 : s1 t b e
    · rw [pif_t h1]; have := h1.1; omega
    · rw [pif_f h1]
      by_cases h3 : s3 t b e
      · rw [pif_t h3]; have := h3.1; omega
      · rw [pif_f h3]; omega
theorem shp_in (t : Nat → Int32) (b e : Nat) : shp t b e ≤ 3 := by
  unfold shp
  by_cases h2 : s2 t b e
  · rw [pif_t h2]; omega
  · rw [pif_f h2]
    by_cases h1 : s1 t b e
    · rw [pif_t h1]; omega
    · rw [pif_f h1]
      by_cases h3 : s3 t b e
      · rw [pif_t h3]; omega
      · rw [pif_f h3]; omega
theorem pnx_in {t : Nat → Int32} {n a : Nat} (h : a ≤ n) : a ≤ pnx t n a ∧ pnx t n a ≤ n := by
  have h2 := fnd_in t 59 (n - a) a
  unfold pnx
  omega
theorem cntS_no {t : Nat → Int32} {a : Nat} : ∀ b, a ≤ b → (∀ j, a ≤ j → j < b → ¬ t j = 59) → cntS t b = cntS t a := by
  intro b
  induction b with
  | zero => intro h _; rw [show a = 0 by omega]
  | succ b ih =>
    intro h hn
    by_cases hab : a = b + 1
    · rw [hab]
    · show cntS t b + (if t b = 59 then 1 else 0) = _
      rw [if_neg (hn b (by omega) (by omega)), ih (by omega) (fun j h1 h2 => hn j h1 (by omega))]
      omega
theorem cntS_le {t : Nat → Int32} {a : Nat} : ∀ b, a ≤ b → cntS t a ≤ cntS t b := by
  intro b
  induction b with
  | zero => intro h; rw [show a = 0 by omega]; omega
  | succ b ih =>
    intro h
    by_cases hab : a = b + 1
    · rw [hab]; omega
    · have := ih (by omega)
      show _ ≤ cntS t b + (if t b = 59 then 1 else 0)
      omega
/-- piece k starts within the text, and k of the signs before it are ';' -/
theorem pst_in {t : Nat → Int32} {n : Nat} : ∀ k, k < npc t n → pst t n k ≤ n ∧ cntS t (pst t n k) = k := by
  intro k
  induction k with
  | zero => intro _; exact ⟨Nat.zero_le _, rfl⟩
  | succ k ih =>
    intro h
    obtain ⟨h1, h2⟩ := ih (by omega)
    have h3 := pnx_in (t := t) h1
    have hm : ∀ j, pst t n k ≤ j → j < pnx t n (pst t n k) → ¬ t j = 59 := fnd_miss t 59 (n - pst t n k) (pst t n k)
    have h4 := cntS_no (t := t) _ h3.1 hm
    have hlt : pnx t n (pst t n k) < n := by
      rcases Nat.lt_or_ge (pnx t n (pst t n k)) n with q | q
      · exact q
      · have e : pnx t n (pst t n k) = n := by omega
        rw [e] at h4
        unfold npc at h
        omega
    have hh : t (pnx t n (pst t n k)) = 59 := fnd_hit t 59 (n - pst t n k) (pst t n k) (by unfold pnx at hlt; omega)
    refine ⟨by show pnx t n (pst t n k) + 1 ≤ n; omega, ?_⟩
    show cntS t (pnx t n (pst t n k)) + (if t (pnx t n (pst t n k)) = 59 then 1 else 0) = k + 1
    rw [if_pos hh]
    omega
/-- a piece that isn't the last ends before the text does; the last ends with it -/
theorem pst_last {t : Nat → Int32} {n k : Nat} (h : k < npc t n) : (k + 1 < npc t n ↔ pnx t n (pst t n k) < n) := by
  obtain ⟨h1, h2⟩ := pst_in k h
  have h3 := pnx_in (t := t) h1
  constructor
  · intro q
    have := (pst_in (k + 1) q).1
    show pnx t n (pst t n k) < n
    have e : pst t n (k + 1) = pnx t n (pst t n k) + 1 := rfl
    omega
  · intro q
    have hm : ∀ j, pst t n k ≤ j → j < pnx t n (pst t n k) → ¬ t j = 59 := fnd_miss t 59 (n - pst t n k) (pst t n k)
    have h4 := cntS_no (t := t) _ h3.1 hm
    have hh : t (pnx t n (pst t n k)) = 59 := fnd_hit t 59 (n - pst t n k) (pst t n k) (by unfold pnx at q; omega)
    have h5 := cntS_le (t := t) n (show pnx t n (pst t n k) + 1 ≤ n by omega)
    have h6 : cntS t (pnx t n (pst t n k) + 1) = cntS t (pnx t n (pst t n k)) + 1 := by
      show cntS t (pnx t n (pst t n k)) + (if t (pnx t n (pst t n k)) = 59 then 1 else 0) = _
      rw [if_pos hh]
    unfold npc
    omega
theorem npc_le {t : Nat → Int32} : ∀ n, npc t n ≤ n + 1 := by
  intro n
  unfold npc
  have : ∀ n, cntS t n ≤ n := by
    intro n
    induction n with
    | zero => exact Nat.le_refl _
    | succ n ih =>
      show cntS t n + (if t n = 59 then 1 else 0) ≤ n + 1
      by_cases h : t n = 59
      · rw [if_pos h]; omega
      · rw [if_neg h]; omega
  have := this n
  omega
/-- how many pieces come before the first bad one -/
noncomputable def fbk (t : Nat → Int32) (n : Nat) : Nat → Nat → Int32
  | 0, _ => -2
  | m + 1, k => pif (pkd t (pst t n k) (pnx t n (pst t n k)) = 3) (nI k) (fbk t n m (k + 1))
/-- a word's end of a name, as a shape -/
theorem isw_e {t : Nat → Int32} {b e : Nat} (h : b ≤ e) : (isw t (max b (e - 3)) e [46, 42, 42] ↔ s2 t b e) ∧ (isw t (max b (e - 2)) e [46, 42] ↔ s1 t b e) ∧ (isw t (max b (e - 1)) e [42] ↔ s3 t b e) := by
  refine ⟨⟨fun z => ?_, fun z => ?_⟩, ⟨fun z => ?_, fun z => ?_⟩, ⟨fun z => ?_, fun z => ?_⟩⟩
  · have h1 : e - max b (e - 3) = 3 := z.1
    have a0 := z.2 0 (by decide)
    have a1 := z.2 1 (by decide)
    have a2 := z.2 2 (by decide)
    rw [show max b (e - 3) = e - 3 by omega] at a0 a1 a2
    rw [show e - 3 + 0 = e - 3 by omega] at a0
    rw [show e - 3 + 1 = e - 2 by omega] at a1
    rw [show e - 3 + 2 = e - 1 by omega] at a2
    exact ⟨by omega, a2, a1, a0⟩
  · obtain ⟨h1, h2, h3, h4⟩ := z
    refine ⟨by show e - max b (e - 3) = 3; omega, fun j hj => ?_⟩
    have hj : j < 3 := hj
    rw [show max b (e - 3) = e - 3 by omega]
    rcases (show j = 0 ∨ j = 1 ∨ j = 2 by omega) with rfl | rfl | rfl
    · rw [show e - 3 + 0 = e - 3 by omega]; exact h4
    · rw [show e - 3 + 1 = e - 2 by omega]; exact h3
    · rw [show e - 3 + 2 = e - 1 by omega]; exact h2
  · have h1 : e - max b (e - 2) = 2 := z.1
    have a0 := z.2 0 (by decide)
    have a1 := z.2 1 (by decide)
    rw [show max b (e - 2) = e - 2 by omega] at a0 a1
    rw [show e - 2 + 0 = e - 2 by omega] at a0
    rw [show e - 2 + 1 = e - 1 by omega] at a1
    exact ⟨by omega, a1, a0⟩
  · obtain ⟨h1, h2, h3⟩ := z
    refine ⟨by show e - max b (e - 2) = 2; omega, fun j hj => ?_⟩
    have hj : j < 2 := hj
    rw [show max b (e - 2) = e - 2 by omega]
    rcases (show j = 0 ∨ j = 1 by omega) with rfl | rfl
    · rw [show e - 2 + 0 = e - 2 by omega]; exact h3
    · rw [show e - 2 + 1 = e - 1 by omega]; exact h2
  · have h1 : e - max b (e - 1) = 1 := z.1
    have a0 := z.2 0 (by decide)
    rw [show max b (e - 1) = e - 1 by omega] at a0
    exact ⟨by omega, a0⟩
  · obtain ⟨h1, h2⟩ := z
    refine ⟨by show e - max b (e - 1) = 1; omega, fun j hj => ?_⟩
    have hj : j < 1 := hj
    rw [show max b (e - 1) = e - 1 by omega, show j = 0 by omega]
    exact h2
theorem sg_up {G : GG} {f : Wd} {a r cap n b : Nat} {t : Nat → Int32} {e0 e : va_E} (h : sg G f a r cap n t) (hb : f b = some e0) (hd : (∀ u, e0 ≠ .inr (CI_Signs, u)) ∧ ∀ x, e0 ≠ .inl x) : sg G (va_up f b (some e)) a r cap n t := by
  refine ⟨?_, ?_, h.2.2⟩
  · rw [va_up_ne _ _ (Ne.symm (wne hb h.1 (hd.1 _)))]; exact h.1
  · rw [va_up_ne _ _ (Ne.symm (wne hb h.2.1 (hd.2 _)))]; exact h.2.1
theorem wd_x {i : Nat} {u : List Value} (h : i ≠ CI_Signs := by decide) : (∀ w, (Sum.inr (i, u) : va_E) ≠ .inr (CI_Signs, w)) ∧ ∀ x, (Sum.inr (i, u) : va_E) ≠ .inl x := ⟨fun _ => wd_oo h, fun _ => wd_oa⟩
theorem mxk {b e k : Nat} (hb : b ≤ 90) (he : e ≤ 90) (hk : k ≤ 3) : (if nI b < nI e - nI k then nI e - nI k else nI b) = nI (max b (e - k)) := by
  have h1 : (nI e - nI k).toInt = (e : Int) - k := pk_sub_toInt (by omega) (by omega)
  by_cases h : b < e - k
  · rw [if_pos, pk_sub (by omega), show max b (e - k) = e - k by omega]
    rw [Int32.lt_iff_toInt_lt, h1, nI_toInt (by omega)]
    omega
  · rw [if_neg, show max b (e - k) = b by omega]
    rw [Int32.lt_iff_toInt_lt, h1, nI_toInt (by omega)]
    omega
theorem sbk {e k : Nat} (h : k ≤ e) : nI e - nI k = nI (e - k) := pk_sub h
theorem pkd_in (t : Nat → Int32) (a e : Nat) : pkd t a e ≤ 3 := by
  unfold pkd
  by_cases h0 : a = e
  · rw [pif_t h0]; omega
  · rw [pif_f h0]
    by_cases h1 : eqc t a e < e
    · rw [pif_t h1]
      by_cases h2 : lok t a (eqc t a e) e
      · rw [pif_t h2]; omega
      · rw [pif_f h2]; omega
    · rw [pif_f h1]
      by_cases h2 : okC t a e
      · rw [pif_t h2]; omega
      · rw [pif_f h2]; omega
/-- the kind of piece k -/
noncomputable def pk (t : Nat → Int32) (n k : Nat) : Nat := pkd t (pst t n k) (pnx t n (pst t n k))
/-- the numbers of the class patterns among the first i pieces -/
noncomputable def clsU (t : Nat → Int32) (n : Nat) : Nat → List Nat
  | 0 => []
  | i + 1 => pif (pk t n i = 2) (clsU t n i ++ [i]) (clsU t n i)
theorem clsU_len (t : Nat → Int32) (n : Nat) : ∀ i, (clsU t n i).length ≤ i := by
  intro i
  induction i with
  | zero => exact Nat.le_refl _
  | succ i ih =>
    show (pif (pk t n i = 2) (clsU t n i ++ [i]) (clsU t n i)).length ≤ i + 1
    by_cases h : pk t n i = 2
    · rw [pif_t h, List.length_append]; show _ + 1 ≤ _; omega
    · rw [pif_f h]; omega
end
section
/-! links of the pools, as the walks ask for them -/
theorem cw_Signs_34 : cwk "StreamFilters$Signs" 34 y_String_length b_String_length 1 (some .int) 0 := ⟨Or.inl (tb 241 (by decide +kernel) rfl), (tb 244 (by decide +kernel) rfl), (tb 6 (by decide +kernel) rfl), by decide, by decide, by decide +kernel⟩
theorem cw_Signs_39 : cwk "StreamFilters$Signs" 39 y_String_charAt b_String_charAt 2 (some .char) 1 := ⟨Or.inl (tb 251 (by decide +kernel) rfl), (tb 254 (by decide +kernel) rfl), (tb 6 (by decide +kernel) rfl), by decide, by decide, by decide +kernel⟩
theorem se_String_charAt : Cond.instanceMethod y_String_charAt ∈ TB ∧ Cond.selects "java/lang/String" y_String_charAt y_String_charAt ∈ TB := ⟨(tb 252 (by decide +kernel) rfl), (tb 253 (by decide +kernel) rfl)⟩
theorem se_String_length : Cond.instanceMethod y_String_length ∈ TB ∧ Cond.selects "java/lang/String" y_String_length y_String_length ∈ TB := ⟨(tb 242 (by decide +kernel) rfl), (tb 243 (by decide +kernel) rfl)⟩
/-! decode rows -/
theorem d_Signs_hasWord_0 : decode b_Signs_hasWord 0 = .ok (.aload_n 1, 1) := by decide +kernel
theorem d_Signs_hasWord_1 : decode b_Signs_hasWord 1 = .ok (.invokevirtual 34, 3) := by decide +kernel
theorem d_Signs_hasWord_4 : decode b_Signs_hasWord 4 = .ok (.iload_n 3, 1) := by decide +kernel
theorem d_Signs_hasWord_5 : decode b_Signs_hasWord 5 = .ok (.iload_n 2, 1) := by decide +kernel
theorem d_Signs_hasWord_6 : decode b_Signs_hasWord 6 = .ok (.isub, 1) := by decide +kernel
theorem d_Signs_hasWord_7 : decode b_Signs_hasWord 7 = .ok (.if_icmp .eq 5, 3) := by decide +kernel
theorem d_Signs_hasWord_10 : decode b_Signs_hasWord 10 = .ok (.iconst 0, 1) := by decide +kernel
theorem d_Signs_hasWord_11 : decode b_Signs_hasWord 11 = .ok (.ireturn, 1) := by decide +kernel
theorem d_Signs_hasWord_12 : decode b_Signs_hasWord 12 = .ok (.iconst 0, 1) := by decide +kernel
theorem d_Signs_hasWord_13 : decode b_Signs_hasWord 13 = .ok (.istore 4, 2) := by decide +kernel
theorem d_Signs_hasWord_15 : decode b_Signs_hasWord 15 = .ok (.iload 4, 2) := by decide +kernel
theorem d_Signs_hasWord_17 : decode b_Signs_hasWord 17 = .ok (.aload_n 1, 1) := by decide +kernel
theorem d_Signs_hasWord_18 : decode b_Signs_hasWord 18 = .ok (.invokevirtual 34, 3) := by decide +kernel
theorem d_Signs_hasWord_21 : decode b_Signs_hasWord 21 = .ok (.if_icmp .ge 28, 3) := by decide +kernel
theorem d_Signs_hasWord_24 : decode b_Signs_hasWord 24 = .ok (.aload_n 0, 1) := by decide +kernel
theorem d_Signs_hasWord_25 : decode b_Signs_hasWord 25 = .ok (.iload_n 2, 1) := by decide +kernel
theorem d_Signs_hasWord_26 : decode b_Signs_hasWord 26 = .ok (.iload 4, 2) := by decide +kernel
theorem d_Signs_hasWord_28 : decode b_Signs_hasWord 28 = .ok (.iadd, 1) := by decide +kernel
theorem d_Signs_hasWord_29 : decode b_Signs_hasWord 29 = .ok (.invokevirtual 26, 3) := by decide +kernel
theorem d_Signs_hasWord_32 : decode b_Signs_hasWord 32 = .ok (.aload_n 1, 1) := by decide +kernel
theorem d_Signs_hasWord_33 : decode b_Signs_hasWord 33 = .ok (.iload 4, 2) := by decide +kernel
theorem d_Signs_hasWord_35 : decode b_Signs_hasWord 35 = .ok (.invokevirtual 39, 3) := by decide +kernel
theorem d_Signs_hasWord_38 : decode b_Signs_hasWord 38 = .ok (.if_icmp .eq 5, 3) := by decide +kernel
theorem d_Signs_hasWord_41 : decode b_Signs_hasWord 41 = .ok (.iconst 0, 1) := by decide +kernel
theorem d_Signs_hasWord_42 : decode b_Signs_hasWord 42 = .ok (.ireturn, 1) := by decide +kernel
theorem d_Signs_hasWord_43 : decode b_Signs_hasWord 43 = .ok (.iinc 4 1, 3) := by decide +kernel
theorem d_Signs_hasWord_46 : decode b_Signs_hasWord 46 = .ok (.goto (-31), 3) := by decide +kernel
theorem d_Signs_hasWord_49 : decode b_Signs_hasWord 49 = .ok (.iconst 1, 1) := by decide +kernel
theorem d_Signs_hasWord_50 : decode b_Signs_hasWord 50 = .ok (.ireturn, 1) := by decide +kernel
set_option maxHeartbeats 4000000 in
set_option maxRecDepth 100000 in
/-- hasWord(text k, i0, i1) -/
theorem c_Signs_hasWord (G : GG) (l : Launch) (sz : Nat) (f : Wd) {a r cap n : Nat} {t : Nat → Int32} (h : sg G f a r cap n t) {k : Nat} (hk : k < nTx) {i0 i1 : Nat} (h1 : i0 ≤ i1) (h2 : i1 ≤ n) : Ci G l y_Signs_hasWord b_Signs_hasWord 5 (some .boolean) ({ frames := 4, cells := 0, slots := 0, locals := 87 }) sz f [.ref a, .ref (G.2.2.1 k), .int (nI i0), .int (nI i1)] (fun v f' => f = f' ∧ v = bI (isw t i0 i1 (bytTx.getD k []))) := by
  refine ct_of (by decide) (Nat.le_of_ble_eq_true rfl) ?_
  intro p e s m below meth c ls H locs hEn
  obtain ⟨hc, hr, hlk, hin, hE, hw, hsz, hl⟩ := hEn
  have hx := hc.1
  have hb := hc.2.1
  have hl : lv_has ls 5 [(0, .ref a), (1, .ref (G.2.2.1 k)), (2, .int (nI i0)), (3, .int (nI i1))] := hl
  obtain ⟨ha, hrw, hn, hcap, hch⟩ := h
  obtain ⟨htl, htb, htc⟩ := tx_ok k hk
  have loop : ∀ (fu : Nat) (i : Nat) (ls : Array Slot) (H : Heap) (locs : List Loc), i1 - i0 - i < fu → lenTx.getD k 0 = i1 - i0 → i ≤ i1 - i0 → (∀ j, j < i → t (i0 + j) = (bytTx.getD k []).getD j 0) → ms G.1 (Af f sz) f s H locs → lv_has ls 5 [(4, .int (nI i)), (0, .ref a), (1, .ref (G.2.2.1 k)), (2, .int (nI i0)), (3, .int (nI i1))] → W p l e ({ frames := 4, cells := 0, slots := 0, locals := 87 }) s m ([.ref a, .ref (G.2.2.1 k), .int (nI i0), .int (nI i1)] : List Value).toArray below meth c H locs 0 0 (MQ below (va_Qi (fun v f' => f = f' ∧ v = bI (isw t i0 i1 (bytTx.getD k []))) (Bw G f sz) (Af f sz)) ([.ref a, .ref (G.2.2.1 k), .int (nI i0), .int (nI i1)] : List Value).toArray s 0 0 (Af f sz)) (F0 m 15 ls []) := by
    intro fu
    induction fu with
    | zero => intro i ls H locs h0; exact absurd h0 (Nat.not_lt_zero _)
    | succ fu ih =>
      intro i ls H locs hfu hle hi hm hw hl
      have hb1 : i1 ≤ 90 := by omega
      refine lv_iload hx hb d_Signs_hasWord_15 (lv_at hl 0 rfl) ?_
      refine lv_aload_n hx hb d_Signs_hasWord_17 rfl (lv_at hl 2 rfl) ?_
      refine m_calli hw (m_runV0 (As := []) (rest := [.int (nI i)]) hc hE hw (c_String_length G l H.size f hk) (m_strecv hE hw hk) cw_Signs_34 se_String_length rfl hl.1 rfl (Nat.le_of_ble_eq_true rfl) d_Signs_hasWord_18 ⟨rfl, rfl, by decide, by decide⟩ ⟨by first | decide | (dsimp only; omega), by first | decide | (dsimp only; omega)⟩) (fun r3 g2 H locs p1 hw => ?_)
      obtain ⟨rfl, p1⟩ := p1
      subst p1
      refine lv_icmp_ge (tgt := 49) hx hb d_Signs_hasWord_21 (by decide) (fun c4 => ?_) (fun c4 => ?_)
      · refine lv_iconst (v := 1) hx hb d_Signs_hasWord_49 (by decide) ?_
        exact m_zret hc hr hlk hw ⟨by first | decide | (dsimp only; omega), by first | decide | (dsimp only; omega)⟩ d_Signs_hasWord_50 (by decide) ⟨rfl, (bI_t ⟨by omega, fun j q => hm j (by have := (nI_leI (by omega) (by omega)).mp c4; omega)⟩).symm⟩
      · refine lv_aload_n hx hb d_Signs_hasWord_24 rfl (lv_at hl 1 rfl) ?_
        refine lv_iload_n hx hb d_Signs_hasWord_25 rfl (lv_at hl 3 rfl) ?_
        refine lv_iload hx hb d_Signs_hasWord_26 (lv_at hl 0 rfl) ?_
        refine lv_iadd hx hb d_Signs_hasWord_28 ?_
        refine m_top (y := (nI (i0 + i))) (nI_add i0 i) ?_
        refine m_calli hw (m_runV (As := [.int (nI (i0 + i))]) (rest := []) hc hE hw (c_Signs_at G l H.size f ⟨ha, hrw, hn, hcap, hch⟩ (nI (i0 + i))) ha rfl cw_Signs_26 se_Signs_at rfl hl.1 rfl (Nat.le_of_ble_eq_true rfl) d_Signs_hasWord_29 ⟨rfl, rfl, by decide, by decide⟩ ⟨by first | decide | (dsimp only; omega), by first | decide | (dsimp only; omega)⟩) (fun r7 g6 H locs p5 hw => ?_)
        obtain ⟨rfl, p5⟩ := p5
        refine lv_aload_n hx hb d_Signs_hasWord_32 rfl (lv_at hl 2 rfl) ?_
        refine lv_iload hx hb d_Signs_hasWord_33 (lv_at hl 0 rfl) ?_
        have hlt : i < lenTx.getD k 0 := Nat.not_le.mp (fun z => c4 (nI_le z (by omega)))
        refine m_calli hw (m_runV0 (As := [.int (nI i)]) (rest := [.int r7]) hc hE hw (c_String_charAt G l H.size f hk hlt htb) (m_strecv hE hw hk) cw_Signs_39 se_String_charAt rfl hl.1 rfl (Nat.le_of_ble_eq_true rfl) d_Signs_hasWord_35 ⟨rfl, rfl, by decide, by decide⟩ ⟨by first | decide | (dsimp only; omega), by first | decide | (dsimp only; omega)⟩) (fun r10 g9 H locs p8 hw => ?_)
        obtain ⟨rfl, p8⟩ := p8
        refine lv_icmp_eq (tgt := 43) hx hb d_Signs_hasWord_38 (by decide) (fun c11 => ?_) (fun c11 => ?_)
        · refine lv_iinc (v := (nI (i + 1))) (lv' := [(4, .int (nI (i + 1))), (0, .ref a), (1, .ref (G.2.2.1 k)), (2, .int (nI i0)), (3, .int (nI i1))]) hx hb d_Signs_hasWord_43 hl (k := 0) rfl (nI_1 _) (by decide) rfl (fun ls hl => ?_)
          refine lv_goto (tgt := 15) hx hb d_Signs_hasWord_46 (by decide) ?_
          have heq : t (i0 + i) = (bytTx.getD k []).getD i 0 := by have z := c11; rw [p5, p8, atv_in (by omega) (by omega), htc i hlt] at z; exact z
          exact ih (i + 1) ls H locs (by omega) hle (by omega) (fun j q => by rcases Nat.lt_or_ge j i with q1 | q1; exact hm j q1; rw [show j = i by omega]; exact heq) hw (lv_sub hl [0, 1, 2, 3, 4] rfl)
        · refine lv_iconst (v := 0) hx hb d_Signs_hasWord_41 (by decide) ?_
          have hne : ¬ t (i0 + i) = (bytTx.getD k []).getD i 0 := fun z => c11 (by rw [p5, p8, atv_in (by omega) (by omega), htc i hlt]; exact z)
          exact m_zret hc hr hlk hw ⟨by first | decide | (dsimp only; omega), by first | decide | (dsimp only; omega)⟩ d_Signs_hasWord_42 (by decide) ⟨rfl, (bI_f (fun z => hne (z.2 i (by omega)))).symm⟩
  refine lv_aload_n hx hb d_Signs_hasWord_0 rfl (lv_at hl 1 rfl) ?_
  refine m_calli hw (m_runV0 (As := []) (rest := []) hc hE hw (c_String_length G l H.size f hk) (m_strecv hE hw hk) cw_Signs_34 se_String_length rfl hl.1 rfl (Nat.le_of_ble_eq_true rfl) d_Signs_hasWord_1 ⟨rfl, rfl, by decide, by decide⟩ ⟨by first | decide | (dsimp only; omega), by first | decide | (dsimp only; omega)⟩) (fun r14 g13 H locs p12 hw => ?_)
  obtain ⟨rfl, p12⟩ := p12
  subst p12
  refine lv_iload_n hx hb d_Signs_hasWord_4 rfl (lv_at hl 3 rfl) ?_
  refine lv_iload_n hx hb d_Signs_hasWord_5 rfl (lv_at hl 2 rfl) ?_
  refine lv_isub hx hb d_Signs_hasWord_6 ?_
  refine m_top (y := (nI (i1 - i0))) (pk_sub h1) ?_
  refine lv_icmp_eq (tgt := 12) hx hb d_Signs_hasWord_7 (by decide) (fun c15 => ?_) (fun c15 => ?_)
  · refine lv_iconst (v := 0) hx hb d_Signs_hasWord_12 (by decide) ?_
    refine lv_istore (lv' := [(4, .int 0), (0, .ref a), (1, .ref (G.2.2.1 k)), (2, .int (nI i0)), (3, .int (nI i1))]) hx hb d_Signs_hasWord_13 hl (by decide) rfl (fun ls hl => ?_)
    exact loop (i1 - i0 + 1) 0 ls H locs (by omega) ((nI_eq (by omega) (by omega)).mp c15) (Nat.zero_le _) (fun j q => absurd q (Nat.not_lt_zero _)) hw (lv_sub hl [0, 1, 2, 3, 4] rfl)
  · refine lv_iconst (v := 0) hx hb d_Signs_hasWord_10 (by decide) ?_
    exact m_zret hc hr hlk hw ⟨by first | decide | (dsimp only; omega), by first | decide | (dsimp only; omega)⟩ d_Signs_hasWord_11 (by decide) ⟨rfl, (bI_f (fun z => c15 (congrArg nI (htl.trans z.1.symm)))).symm⟩
end
section
/-! links of the pools, as the walks ask for them -/
theorem l_PieceReader_40_PieceReader : lnk "StreamFilters$PieceReader" 40 F_PieceReader 12 5 := ⟨by decide, "StreamFilters$PieceReader", Or.inl rfl, Or.inl (tb 112 (by decide +kernel) rfl)⟩
theorem l_PieceReader_51_PieceReader : lnk "StreamFilters$PieceReader" 51 F_PieceReader 12 2 := ⟨by decide, "StreamFilters$PieceReader", Or.inl rfl, Or.inl (tb 109 (by decide +kernel) rfl)⟩
theorem l_PieceReader_61_PieceReader : lnk "StreamFilters$PieceReader" 61 F_PieceReader 12 1 := ⟨by decide, "StreamFilters$PieceReader", Or.inl rfl, Or.inl (tb 108 (by decide +kernel) rfl)⟩
theorem l_PieceReader_9_PieceReader : lnk "StreamFilters$PieceReader" 9 F_PieceReader 12 0 := ⟨by decide, "StreamFilters$PieceReader", Or.inl rfl, Or.inl (tb 107 (by decide +kernel) rfl)⟩
theorem cw_PieceReader_57 : cwk "StreamFilters$PieceReader" 57 y_Signs_at b_Signs_at 2 (some .int) 1 := ⟨Or.inl (tb 215 (by decide +kernel) rfl), (tb 218 (by decide +kernel) rfl), (tb 2 (by decide +kernel) rfl), by decide, by decide, by decide +kernel⟩
theorem cw_PieceReader_84 : cwk "StreamFilters$PieceReader" 84 y_Signs_hasWord b_Signs_hasWord 5 (some .boolean) 3 := ⟨Or.inl (tb 237 (by decide +kernel) rfl), (tb 240 (by decide +kernel) rfl), (tb 2 (by decide +kernel) rfl), by decide, by decide, by decide +kernel⟩
theorem se_Signs_hasWord : Cond.instanceMethod y_Signs_hasWord ∈ TB ∧ Cond.selects "StreamFilters$Signs" y_Signs_hasWord y_Signs_hasWord ∈ TB := ⟨(tb 238 (by decide +kernel) rfl), (tb 239 (by decide +kernel) rfl)⟩
/-! decode rows -/
theorem d_PieceReader_limitNamed_0 : decode b_PieceReader_limitNamed 0 = .ok (.aload_n 0, 1) := by decide +kernel
theorem d_PieceReader_limitNamed_1 : decode b_PieceReader_limitNamed 1 = .ok (.getfield 9, 3) := by decide +kernel
theorem d_PieceReader_limitNamed_4 : decode b_PieceReader_limitNamed 4 = .ok (.ldc 82, 2) := by decide +kernel
theorem d_PieceReader_limitNamed_6 : decode b_PieceReader_limitNamed 6 = .ok (.aload_n 0, 1) := by decide +kernel
theorem d_PieceReader_limitNamed_7 : decode b_PieceReader_limitNamed 7 = .ok (.getfield 61, 3) := by decide +kernel
theorem d_PieceReader_limitNamed_10 : decode b_PieceReader_limitNamed 10 = .ok (.iload_n 1, 1) := by decide +kernel
theorem d_PieceReader_limitNamed_11 : decode b_PieceReader_limitNamed 11 = .ok (.invokevirtual 84, 3) := by decide +kernel
theorem d_PieceReader_limitNamed_14 : decode b_PieceReader_limitNamed 14 = .ok (.ifCond .eq 5, 3) := by decide +kernel
theorem d_PieceReader_limitNamed_17 : decode b_PieceReader_limitNamed 17 = .ok (.iconst 0, 1) := by decide +kernel
theorem d_PieceReader_limitNamed_18 : decode b_PieceReader_limitNamed 18 = .ok (.ireturn, 1) := by decide +kernel
theorem d_PieceReader_limitNamed_19 : decode b_PieceReader_limitNamed 19 = .ok (.aload_n 0, 1) := by decide +kernel
theorem d_PieceReader_limitNamed_20 : decode b_PieceReader_limitNamed 20 = .ok (.getfield 9, 3) := by decide +kernel
theorem d_PieceReader_limitNamed_23 : decode b_PieceReader_limitNamed 23 = .ok (.ldc 88, 2) := by decide +kernel
theorem d_PieceReader_limitNamed_25 : decode b_PieceReader_limitNamed 25 = .ok (.aload_n 0, 1) := by decide +kernel
theorem d_PieceReader_limitNamed_26 : decode b_PieceReader_limitNamed 26 = .ok (.getfield 61, 3) := by decide +kernel
theorem d_PieceReader_limitNamed_29 : decode b_PieceReader_limitNamed 29 = .ok (.iload_n 1, 1) := by decide +kernel
theorem d_PieceReader_limitNamed_30 : decode b_PieceReader_limitNamed 30 = .ok (.invokevirtual 84, 3) := by decide +kernel
theorem d_PieceReader_limitNamed_33 : decode b_PieceReader_limitNamed 33 = .ok (.ifCond .eq 5, 3) := by decide +kernel
theorem d_PieceReader_limitNamed_36 : decode b_PieceReader_limitNamed 36 = .ok (.iconst 1, 1) := by decide +kernel
theorem d_PieceReader_limitNamed_37 : decode b_PieceReader_limitNamed 37 = .ok (.ireturn, 1) := by decide +kernel
theorem d_PieceReader_limitNamed_38 : decode b_PieceReader_limitNamed 38 = .ok (.aload_n 0, 1) := by decide +kernel
theorem d_PieceReader_limitNamed_39 : decode b_PieceReader_limitNamed 39 = .ok (.getfield 9, 3) := by decide +kernel
theorem d_PieceReader_limitNamed_42 : decode b_PieceReader_limitNamed 42 = .ok (.ldc 90, 2) := by decide +kernel
theorem d_PieceReader_limitNamed_44 : decode b_PieceReader_limitNamed 44 = .ok (.aload_n 0, 1) := by decide +kernel
theorem d_PieceReader_limitNamed_45 : decode b_PieceReader_limitNamed 45 = .ok (.getfield 61, 3) := by decide +kernel
theorem d_PieceReader_limitNamed_48 : decode b_PieceReader_limitNamed 48 = .ok (.iload_n 1, 1) := by decide +kernel
theorem d_PieceReader_limitNamed_49 : decode b_PieceReader_limitNamed 49 = .ok (.invokevirtual 84, 3) := by decide +kernel
theorem d_PieceReader_limitNamed_52 : decode b_PieceReader_limitNamed 52 = .ok (.ifCond .eq 5, 3) := by decide +kernel
theorem d_PieceReader_limitNamed_55 : decode b_PieceReader_limitNamed 55 = .ok (.iconst 2, 1) := by decide +kernel
theorem d_PieceReader_limitNamed_56 : decode b_PieceReader_limitNamed 56 = .ok (.ireturn, 1) := by decide +kernel
theorem d_PieceReader_limitNamed_57 : decode b_PieceReader_limitNamed 57 = .ok (.aload_n 0, 1) := by decide +kernel
theorem d_PieceReader_limitNamed_58 : decode b_PieceReader_limitNamed 58 = .ok (.getfield 9, 3) := by decide +kernel
theorem d_PieceReader_limitNamed_61 : decode b_PieceReader_limitNamed 61 = .ok (.ldc 92, 2) := by decide +kernel
theorem d_PieceReader_limitNamed_63 : decode b_PieceReader_limitNamed 63 = .ok (.aload_n 0, 1) := by decide +kernel
theorem d_PieceReader_limitNamed_64 : decode b_PieceReader_limitNamed 64 = .ok (.getfield 61, 3) := by decide +kernel
theorem d_PieceReader_limitNamed_67 : decode b_PieceReader_limitNamed 67 = .ok (.iload_n 1, 1) := by decide +kernel
theorem d_PieceReader_limitNamed_68 : decode b_PieceReader_limitNamed 68 = .ok (.invokevirtual 84, 3) := by decide +kernel
theorem d_PieceReader_limitNamed_71 : decode b_PieceReader_limitNamed 71 = .ok (.ifCond .eq 7, 3) := by decide +kernel
theorem d_PieceReader_limitNamed_74 : decode b_PieceReader_limitNamed 74 = .ok (.iconst 3, 1) := by decide +kernel
theorem d_PieceReader_limitNamed_75 : decode b_PieceReader_limitNamed 75 = .ok (.goto 5, 3) := by decide +kernel
theorem d_PieceReader_limitNamed_78 : decode b_PieceReader_limitNamed 78 = .ok (.bipush (-2), 2) := by decide +kernel
theorem d_PieceReader_limitNamed_80 : decode b_PieceReader_limitNamed 80 = .ok (.ireturn, 1) := by decide +kernel
theorem d_PieceReader_readNumber_0 : decode b_PieceReader_readNumber 0 = .ok (.aload_n 0, 1) := by decide +kernel
theorem d_PieceReader_readNumber_1 : decode b_PieceReader_readNumber 1 = .ok (.getfield 51, 3) := by decide +kernel
theorem d_PieceReader_readNumber_4 : decode b_PieceReader_readNumber 4 = .ok (.iload_n 1, 1) := by decide +kernel
theorem d_PieceReader_readNumber_5 : decode b_PieceReader_readNumber 5 = .ok (.isub, 1) := by decide +kernel
theorem d_PieceReader_readNumber_6 : decode b_PieceReader_readNumber 6 = .ok (.istore_n 2, 1) := by decide +kernel
theorem d_PieceReader_readNumber_7 : decode b_PieceReader_readNumber 7 = .ok (.iload_n 2, 1) := by decide +kernel
theorem d_PieceReader_readNumber_8 : decode b_PieceReader_readNumber 8 = .ok (.iconst 1, 1) := by decide +kernel
theorem d_PieceReader_readNumber_9 : decode b_PieceReader_readNumber 9 = .ok (.if_icmp .lt 9, 3) := by decide +kernel
theorem d_PieceReader_readNumber_12 : decode b_PieceReader_readNumber 12 = .ok (.iload_n 2, 1) := by decide +kernel
theorem d_PieceReader_readNumber_13 : decode b_PieceReader_readNumber 13 = .ok (.bipush 9, 2) := by decide +kernel
theorem d_PieceReader_readNumber_15 : decode b_PieceReader_readNumber 15 = .ok (.if_icmp .le 5, 3) := by decide +kernel
theorem d_PieceReader_readNumber_18 : decode b_PieceReader_readNumber 18 = .ok (.iconst 0, 1) := by decide +kernel
theorem d_PieceReader_readNumber_19 : decode b_PieceReader_readNumber 19 = .ok (.ireturn, 1) := by decide +kernel
theorem d_PieceReader_readNumber_20 : decode b_PieceReader_readNumber 20 = .ok (.aload_n 0, 1) := by decide +kernel
theorem d_PieceReader_readNumber_21 : decode b_PieceReader_readNumber 21 = .ok (.iconst 0, 1) := by decide +kernel
theorem d_PieceReader_readNumber_22 : decode b_PieceReader_readNumber 22 = .ok (.putfield 40, 3) := by decide +kernel
theorem d_PieceReader_readNumber_25 : decode b_PieceReader_readNumber 25 = .ok (.iload_n 1, 1) := by decide +kernel
theorem d_PieceReader_readNumber_26 : decode b_PieceReader_readNumber 26 = .ok (.istore_n 3, 1) := by decide +kernel
theorem d_PieceReader_readNumber_27 : decode b_PieceReader_readNumber 27 = .ok (.iload_n 3, 1) := by decide +kernel
theorem d_PieceReader_readNumber_28 : decode b_PieceReader_readNumber 28 = .ok (.aload_n 0, 1) := by decide +kernel
theorem d_PieceReader_readNumber_29 : decode b_PieceReader_readNumber 29 = .ok (.getfield 51, 3) := by decide +kernel
theorem d_PieceReader_readNumber_32 : decode b_PieceReader_readNumber 32 = .ok (.if_icmp .ge 52, 3) := by decide +kernel
theorem d_PieceReader_readNumber_35 : decode b_PieceReader_readNumber 35 = .ok (.aload_n 0, 1) := by decide +kernel
theorem d_PieceReader_readNumber_36 : decode b_PieceReader_readNumber 36 = .ok (.getfield 9, 3) := by decide +kernel
theorem d_PieceReader_readNumber_39 : decode b_PieceReader_readNumber 39 = .ok (.iload_n 3, 1) := by decide +kernel
theorem d_PieceReader_readNumber_40 : decode b_PieceReader_readNumber 40 = .ok (.invokevirtual 57, 3) := by decide +kernel
theorem d_PieceReader_readNumber_43 : decode b_PieceReader_readNumber 43 = .ok (.istore 4, 2) := by decide +kernel
theorem d_PieceReader_readNumber_45 : decode b_PieceReader_readNumber 45 = .ok (.iload 4, 2) := by decide +kernel
theorem d_PieceReader_readNumber_47 : decode b_PieceReader_readNumber 47 = .ok (.bipush 48, 2) := by decide +kernel
theorem d_PieceReader_readNumber_49 : decode b_PieceReader_readNumber 49 = .ok (.if_icmp .lt 10, 3) := by decide +kernel
theorem d_PieceReader_readNumber_52 : decode b_PieceReader_readNumber 52 = .ok (.iload 4, 2) := by decide +kernel
theorem d_PieceReader_readNumber_54 : decode b_PieceReader_readNumber 54 = .ok (.bipush 57, 2) := by decide +kernel
theorem d_PieceReader_readNumber_56 : decode b_PieceReader_readNumber 56 = .ok (.if_icmp .le 5, 3) := by decide +kernel
theorem d_PieceReader_readNumber_59 : decode b_PieceReader_readNumber 59 = .ok (.iconst 0, 1) := by decide +kernel
theorem d_PieceReader_readNumber_60 : decode b_PieceReader_readNumber 60 = .ok (.ireturn, 1) := by decide +kernel
theorem d_PieceReader_readNumber_61 : decode b_PieceReader_readNumber 61 = .ok (.aload_n 0, 1) := by decide +kernel
theorem d_PieceReader_readNumber_62 : decode b_PieceReader_readNumber 62 = .ok (.aload_n 0, 1) := by decide +kernel
theorem d_PieceReader_readNumber_63 : decode b_PieceReader_readNumber 63 = .ok (.getfield 40, 3) := by decide +kernel
theorem d_PieceReader_readNumber_66 : decode b_PieceReader_readNumber 66 = .ok (.bipush 10, 2) := by decide +kernel
theorem d_PieceReader_readNumber_68 : decode b_PieceReader_readNumber 68 = .ok (.imul, 1) := by decide +kernel
theorem d_PieceReader_readNumber_69 : decode b_PieceReader_readNumber 69 = .ok (.iload 4, 2) := by decide +kernel
theorem d_PieceReader_readNumber_71 : decode b_PieceReader_readNumber 71 = .ok (.bipush 48, 2) := by decide +kernel
theorem d_PieceReader_readNumber_73 : decode b_PieceReader_readNumber 73 = .ok (.isub, 1) := by decide +kernel
theorem d_PieceReader_readNumber_74 : decode b_PieceReader_readNumber 74 = .ok (.iadd, 1) := by decide +kernel
theorem d_PieceReader_readNumber_75 : decode b_PieceReader_readNumber 75 = .ok (.putfield 40, 3) := by decide +kernel
theorem d_PieceReader_readNumber_78 : decode b_PieceReader_readNumber 78 = .ok (.iinc 3 1, 3) := by decide +kernel
theorem d_PieceReader_readNumber_81 : decode b_PieceReader_readNumber 81 = .ok (.goto (-54), 3) := by decide +kernel
theorem d_PieceReader_readNumber_84 : decode b_PieceReader_readNumber 84 = .ok (.iconst 1, 1) := by decide +kernel
theorem d_PieceReader_readNumber_85 : decode b_PieceReader_readNumber 85 = .ok (.ireturn, 1) := by decide +kernel
set_option maxHeartbeats 4000000 in
set_option maxRecDepth 100000 in
/-- limitNamed(q) -/
theorem c_PieceReader_limitNamed (G : GG) (l : Launch) (sz : Nat) (f : Wd) {ra ta tr cap n : Nat} {t : Nat → Int32} {ven vpi vli vnu vrj vsh vmf vme vnf vne : Int32} {a q : Nat} (hR : f ra = some (.inr (3, [.ref ta, .int (nI a), .int ven, .int vpi, .int vli, .int vnu, .int vrj, .int vsh, .int vmf, .int vme, .int vnf, .int vne]))) (hT : sg G f ta tr cap n t) (h1 : a ≤ q) (h2 : q ≤ n) : Ci G l y_PieceReader_limitNamed b_PieceReader_limitNamed 2 (some .int) ({ frames := 5, cells := 0, slots := 0, locals := 111 }) sz f [.ref ra, .int (nI q)] (fun v f' => f = f' ∧ v = lmV t a q) := by
  refine ct_of (by decide) (Nat.le_of_ble_eq_true rfl) ?_
  intro p e s m below meth c ls H locs hEn
  obtain ⟨hc, hr, hlk, hin, hE, hw, hsz, hl⟩ := hEn
  have hx := hc.1
  have hb := hc.2.1
  have hl : lv_has ls 2 [(0, .ref ra), (1, .int (nI q))] := hl
  have hn9 : n ≤ 90 := by have := hT.2.2.1; have := hT.2.2.2.1; omega
  refine lv_aload_n hx hb d_PieceReader_limitNamed_0 rfl (lv_at hl 0 rfl) ?_
  refine m_get hc hE hw hR kc_PieceReader l_PieceReader_9_PieceReader rfl d_PieceReader_limitNamed_1 ?_
  refine m_ldc hc hE (k := 0) (tx := "maxdepth") (by decide) d_PieceReader_limitNamed_4 ?_
  refine lv_aload_n hx hb d_PieceReader_limitNamed_6 rfl (lv_at hl 0 rfl) ?_
  refine m_get hc hE hw hR kc_PieceReader l_PieceReader_61_PieceReader rfl d_PieceReader_limitNamed_7 ?_
  refine lv_iload_n hx hb d_PieceReader_limitNamed_10 rfl (lv_at hl 1 rfl) ?_
  refine m_calli hw (m_runV (As := [.ref (G.2.2.1 0), .int (nI a), .int (nI q)]) (rest := []) hc hE hw (c_Signs_hasWord G l H.size f hT (k := 0) (by decide) h1 h2) hT.1 rfl cw_PieceReader_84 se_Signs_hasWord rfl hl.1 rfl (Nat.le_of_ble_eq_true rfl) d_PieceReader_limitNamed_11 ⟨rfl, rfl, by decide, by decide⟩ ⟨by first | decide | (dsimp only; omega), by first | decide | (dsimp only; omega)⟩) (fun r3 g2 H locs p1 hw => ?_)
  obtain ⟨rfl, p1⟩ := p1
  refine lv_if_eq (tgt := 19) hx hb d_PieceReader_limitNamed_14 (by decide) (fun c4 => ?_) (fun c4 => ?_)
  · refine lv_aload_n hx hb d_PieceReader_limitNamed_19 rfl (lv_at hl 0 rfl) ?_
    refine m_get hc hE hw hR kc_PieceReader l_PieceReader_9_PieceReader rfl d_PieceReader_limitNamed_20 ?_
    refine m_ldc hc hE (k := 1) (tx := "maxrefs") (by decide) d_PieceReader_limitNamed_23 ?_
    refine lv_aload_n hx hb d_PieceReader_limitNamed_25 rfl (lv_at hl 0 rfl) ?_
    refine m_get hc hE hw hR kc_PieceReader l_PieceReader_61_PieceReader rfl d_PieceReader_limitNamed_26 ?_
    refine lv_iload_n hx hb d_PieceReader_limitNamed_29 rfl (lv_at hl 1 rfl) ?_
    refine m_calli hw (m_runV (As := [.ref (G.2.2.1 1), .int (nI a), .int (nI q)]) (rest := []) hc hE hw (c_Signs_hasWord G l H.size f hT (k := 1) (by decide) h1 h2) hT.1 rfl cw_PieceReader_84 se_Signs_hasWord rfl hl.1 rfl (Nat.le_of_ble_eq_true rfl) d_PieceReader_limitNamed_30 ⟨rfl, rfl, by decide, by decide⟩ ⟨by first | decide | (dsimp only; omega), by first | decide | (dsimp only; omega)⟩) (fun r7 g6 H locs p5 hw => ?_)
    obtain ⟨rfl, p5⟩ := p5
    refine lv_if_eq (tgt := 38) hx hb d_PieceReader_limitNamed_33 (by decide) (fun c8 => ?_) (fun c8 => ?_)
    · refine lv_aload_n hx hb d_PieceReader_limitNamed_38 rfl (lv_at hl 0 rfl) ?_
      refine m_get hc hE hw hR kc_PieceReader l_PieceReader_9_PieceReader rfl d_PieceReader_limitNamed_39 ?_
      refine m_ldc hc hE (k := 2) (tx := "maxbytes") (by decide) d_PieceReader_limitNamed_42 ?_
      refine lv_aload_n hx hb d_PieceReader_limitNamed_44 rfl (lv_at hl 0 rfl) ?_
      refine m_get hc hE hw hR kc_PieceReader l_PieceReader_61_PieceReader rfl d_PieceReader_limitNamed_45 ?_
      refine lv_iload_n hx hb d_PieceReader_limitNamed_48 rfl (lv_at hl 1 rfl) ?_
      refine m_calli hw (m_runV (As := [.ref (G.2.2.1 2), .int (nI a), .int (nI q)]) (rest := []) hc hE hw (c_Signs_hasWord G l H.size f hT (k := 2) (by decide) h1 h2) hT.1 rfl cw_PieceReader_84 se_Signs_hasWord rfl hl.1 rfl (Nat.le_of_ble_eq_true rfl) d_PieceReader_limitNamed_49 ⟨rfl, rfl, by decide, by decide⟩ ⟨by first | decide | (dsimp only; omega), by first | decide | (dsimp only; omega)⟩) (fun r11 g10 H locs p9 hw => ?_)
      obtain ⟨rfl, p9⟩ := p9
      refine lv_if_eq (tgt := 57) hx hb d_PieceReader_limitNamed_52 (by decide) (fun c12 => ?_) (fun c12 => ?_)
      · refine lv_aload_n hx hb d_PieceReader_limitNamed_57 rfl (lv_at hl 0 rfl) ?_
        refine m_get hc hE hw hR kc_PieceReader l_PieceReader_9_PieceReader rfl d_PieceReader_limitNamed_58 ?_
        refine m_ldc hc hE (k := 3) (tx := "maxarray") (by decide) d_PieceReader_limitNamed_61 ?_
        refine lv_aload_n hx hb d_PieceReader_limitNamed_63 rfl (lv_at hl 0 rfl) ?_
        refine m_get hc hE hw hR kc_PieceReader l_PieceReader_61_PieceReader rfl d_PieceReader_limitNamed_64 ?_
        refine lv_iload_n hx hb d_PieceReader_limitNamed_67 rfl (lv_at hl 1 rfl) ?_
        refine m_calli hw (m_runV (As := [.ref (G.2.2.1 3), .int (nI a), .int (nI q)]) (rest := []) hc hE hw (c_Signs_hasWord G l H.size f hT (k := 3) (by decide) h1 h2) hT.1 rfl cw_PieceReader_84 se_Signs_hasWord rfl hl.1 rfl (Nat.le_of_ble_eq_true rfl) d_PieceReader_limitNamed_68 ⟨rfl, rfl, by decide, by decide⟩ ⟨by first | decide | (dsimp only; omega), by first | decide | (dsimp only; omega)⟩) (fun r15 g14 H locs p13 hw => ?_)
        obtain ⟨rfl, p13⟩ := p13
        refine lv_if_eq (tgt := 78) hx hb d_PieceReader_limitNamed_71 (by decide) (fun c16 => ?_) (fun c16 => ?_)
        · refine lv_bipush (v := (-2)) hx hb d_PieceReader_limitNamed_78 (by decide) ?_
          exact m_iret hc hr hlk hw ⟨by first | decide | (dsimp only; omega), by first | decide | (dsimp only; omega)⟩ d_PieceReader_limitNamed_80 ⟨rfl, by unfold lmV; rw [pif_f (bI_0.mp (p1.symm.trans c4)), pif_f (bI_0.mp (p5.symm.trans c8)), pif_f (bI_0.mp (p9.symm.trans c12)), pif_f (bI_0.mp (p13.symm.trans c16))]⟩
        · refine lv_iconst (v := 3) hx hb d_PieceReader_limitNamed_74 (by decide) ?_
          refine lv_goto (tgt := 80) hx hb d_PieceReader_limitNamed_75 (by decide) ?_
          exact m_iret hc hr hlk hw ⟨by first | decide | (dsimp only; omega), by first | decide | (dsimp only; omega)⟩ d_PieceReader_limitNamed_80 ⟨rfl, by unfold lmV; rw [pif_f (bI_0.mp (p1.symm.trans c4)), pif_f (bI_0.mp (p5.symm.trans c8)), pif_f (bI_0.mp (p9.symm.trans c12)), pif_t (bI_n.mp (fun z => c16 (p13.trans z)))]⟩
      · refine lv_iconst (v := 2) hx hb d_PieceReader_limitNamed_55 (by decide) ?_
        exact m_iret hc hr hlk hw ⟨by first | decide | (dsimp only; omega), by first | decide | (dsimp only; omega)⟩ d_PieceReader_limitNamed_56 ⟨rfl, by unfold lmV; rw [pif_f (bI_0.mp (p1.symm.trans c4)), pif_f (bI_0.mp (p5.symm.trans c8)), pif_t (bI_n.mp (fun z => c12 (p9.trans z)))]⟩
    · refine lv_iconst (v := 1) hx hb d_PieceReader_limitNamed_36 (by decide) ?_
      exact m_iret hc hr hlk hw ⟨by first | decide | (dsimp only; omega), by first | decide | (dsimp only; omega)⟩ d_PieceReader_limitNamed_37 ⟨rfl, by unfold lmV; rw [pif_f (bI_0.mp (p1.symm.trans c4)), pif_t (bI_n.mp (fun z => c8 (p5.trans z)))]⟩
  · refine lv_iconst (v := 0) hx hb d_PieceReader_limitNamed_17 (by decide) ?_
    exact m_iret hc hr hlk hw ⟨by first | decide | (dsimp only; omega), by first | decide | (dsimp only; omega)⟩ d_PieceReader_limitNamed_18 ⟨rfl, by unfold lmV; rw [pif_t (bI_n.mp (fun z => c4 (p1.trans z)))]⟩

set_option maxHeartbeats 4000000 in
set_option maxRecDepth 100000 in
/-- readNumber(d) -/
theorem c_PieceReader_readNumber (G : GG) (l : Launch) (sz : Nat) (f : Wd) {ra ta tr cap n : Nat} {t : Nat → Int32} {vfr vpi vli vnu vrj vsh vmf vme vnf vne : Int32} {d e0 : Nat} (hR : f ra = some (.inr (3, [.ref ta, .int vfr, .int (nI e0), .int vpi, .int vli, .int vnu, .int vrj, .int vsh, .int vmf, .int vme, .int vnf, .int vne]))) (hT : sg G f ta tr cap n t) (h1 : d ≤ e0) (h2 : e0 ≤ n) : Ci G l y_PieceReader_readNumber b_PieceReader_readNumber 5 (some .boolean) ({ frames := 1, cells := 0, slots := 0, locals := 21 }) sz f [.ref ra, .int (nI d)] (fun v f' => ∃ nu : Int32, f' = va_up f ra (some (.inr (3, [.ref ta, .int vfr, .int (nI e0), .int vpi, .int vli, .int nu, .int vrj, .int vsh, .int vmf, .int vme, .int vnf, .int vne]))) ∧ v = bI (nok t d e0) ∧ (nok t d e0 → nu = nmb t d (e0 - d))) := by
  refine ct_of (by decide) (Nat.le_of_ble_eq_true rfl) ?_
  intro p e s m below meth c ls H locs hEn
  obtain ⟨hc, hr, hlk, hin, hE, hw, hsz, hl⟩ := hEn
  have hx := hc.1
  have hb := hc.2.1
  have hl : lv_has ls 5 [(0, .ref ra), (1, .int (nI d))] := hl
  have hn9 : n ≤ 90 := by have := hT.2.2.1; have := hT.2.2.2.1; omega
  refine lv_aload_n hx hb d_PieceReader_readNumber_0 rfl (lv_at hl 0 rfl) ?_
  refine m_get hc hE hw hR kc_PieceReader l_PieceReader_51_PieceReader rfl d_PieceReader_readNumber_1 ?_
  refine lv_iload_n hx hb d_PieceReader_readNumber_4 rfl (lv_at hl 1 rfl) ?_
  refine lv_isub hx hb d_PieceReader_readNumber_5 ?_
  refine m_top (y := (nI (e0 - d))) (pk_sub h1) ?_
  refine lv_istore_n (lv' := [(2, .int (nI (e0 - d))), (0, .ref ra), (1, .int (nI d))]) hx hb d_PieceReader_readNumber_6 rfl hl (by decide) rfl (fun ls hl => ?_)
  refine lv_iload_n hx hb d_PieceReader_readNumber_7 rfl (lv_at hl 0 rfl) ?_
  refine lv_iconst (v := 1) hx hb d_PieceReader_readNumber_8 (by decide) ?_
  refine lv_icmp_lt (tgt := 18) hx hb d_PieceReader_readNumber_9 (by decide) (fun c1 => ?_) (fun c1 => ?_)
  · refine lv_iconst (v := 0) hx hb d_PieceReader_readNumber_18 (by decide) ?_
    have hno : ¬ nok t d e0 := fun z => absurd ((nI_ltI (a := e0 - d) (b := 1) (by omega) (by decide)).mp c1) (by have := z.1; omega)
    exact m_zret hc hr hlk hw ⟨by first | decide | (dsimp only; omega), by first | decide | (dsimp only; omega)⟩ d_PieceReader_readNumber_19 (by decide) ⟨vnu, (up_id hR).symm, (bI_f hno).symm, fun z => absurd z hno⟩
  · refine lv_iload_n hx hb d_PieceReader_readNumber_12 rfl (lv_at hl 0 rfl) ?_
    refine lv_bipush (v := 9) hx hb d_PieceReader_readNumber_13 (by decide) ?_
    refine lv_icmp_le (tgt := 20) hx hb d_PieceReader_readNumber_15 (by decide) (fun c2 => ?_) (fun c2 => ?_)
    · refine lv_aload_n hx hb d_PieceReader_readNumber_20 rfl (lv_at hl 1 rfl) ?_
      refine lv_iconst (v := 0) hx hb d_PieceReader_readNumber_21 (by decide) ?_
      refine m_put hc hE hw hR kc_PieceReader l_PieceReader_40_PieceReader rfl ds_PieceReader_5 rfl rfl (Nat.le_of_ble_eq_true rfl) d_PieceReader_readNumber_22 (fun H locs hw => ?_)
      obtain ⟨f3, ef3⟩ : ∃ z : Wd, z = va_up f ra (some (.inr (3, [.ref ta, .int vfr, .int (nI e0), .int vpi, .int vli, .int 0, .int vrj, .int vsh, .int vmf, .int vme, .int vnf, .int vne]))) := ⟨_, rfl⟩
      replace hw : ms G.1 (Af f sz) f3 s H locs := by rw [ef3]; exact hw
      have h4 : f3 ta = some (.inr (1, [.ref tr, .int (nI n)])) := by rw [ef3, va_up_ne _ _ (wne hT.1 hR (wd_oo (by decide)))]; exact hT.1
      have h5 : f3 ra = some (.inr (3, [.ref ta, .int vfr, .int (nI e0), .int vpi, .int vli, .int 0, .int vrj, .int vsh, .int vmf, .int vme, .int vnf, .int vne])) := by rw [ef3, va_up_self]
      have hT6 : sg G f3 ta tr cap n t := by rw [ef3]; exact sg_up hT hR wd_x
      refine lv_iload_n hx hb d_PieceReader_readNumber_25 rfl (lv_at hl 2 rfl) ?_
      refine lv_istore_n (lv' := [(3, .int (nI d)), (2, .int (nI (e0 - d))), (0, .ref ra), (1, .int (nI d))]) hx hb d_PieceReader_readNumber_26 rfl hl (by decide) rfl (fun ls hl => ?_)
      have hd1 : 1 ≤ e0 - d := by have : ¬ e0 - d < 1 := fun z => c1 (nI_lt (a := e0 - d) (b := 1) z (by decide)); omega
      have hd2 : e0 - d ≤ 9 := (nI_leI (a := e0 - d) (b := 9) (by omega) (by decide)).mp c2
      have loop : ∀ (fu : Nat) (k0 : Nat) (fw : Wd) (ls : Array Slot) (H : Heap) (locs : List Loc), e0 - d - k0 < fu → k0 ≤ e0 - d → fw = va_up f ra (some (.inr (3, [.ref ta, .int vfr, .int (nI e0), .int vpi, .int vli, .int (nmb t d k0), .int vrj, .int vsh, .int vmf, .int vme, .int vnf, .int vne]))) → (∀ j, j < k0 → 48 ≤ t (d + j) ∧ t (d + j) ≤ 57) → ms G.1 (Af f sz) fw s H locs → lv_has ls 5 [(3, .int (nI (d + k0))), (0, .ref ra), (1, .int (nI d)), (2, .int (nI (e0 - d)))] → W p l e ({ frames := 1, cells := 0, slots := 0, locals := 21 }) s m ([.ref ra, .int (nI d)] : List Value).toArray below meth c H locs 0 0 (MQ below (va_Qi (fun v f' => ∃ nu : Int32, f' = va_up f ra (some (.inr (3, [.ref ta, .int vfr, .int (nI e0), .int vpi, .int vli, .int nu, .int vrj, .int vsh, .int vmf, .int vme, .int vnf, .int vne]))) ∧ v = bI (nok t d e0) ∧ (nok t d e0 → nu = nmb t d (e0 - d))) (Bw G f sz) (Af f sz)) ([.ref ra, .int (nI d)] : List Value).toArray s 0 0 (Af f sz)) (F0 m 27 ls []) := by
        intro fu
        induction fu with
        | zero => intro k0 fw ls H locs h0; exact absurd h0 (Nat.not_lt_zero _)
        | succ fu ih =>
          intro k0 fw ls H locs hfu hk0 hfw hm hw hl
          have hwr : fw ra = some (.inr (3, [.ref ta, .int vfr, .int (nI e0), .int vpi, .int vli, .int (nmb t d k0), .int vrj, .int vsh, .int vmf, .int vme, .int vnf, .int vne])) := by rw [hfw, va_up_self]
          have hwT : sg G fw ta tr cap n t := by rw [hfw]; exact sg_up hT hR wd_x
          refine lv_iload_n hx hb d_PieceReader_readNumber_27 rfl (lv_at hl 0 rfl) ?_
          refine lv_aload_n hx hb d_PieceReader_readNumber_28 rfl (lv_at hl 1 rfl) ?_
          refine m_get hc hE hw hwr kc_PieceReader l_PieceReader_51_PieceReader rfl d_PieceReader_readNumber_29 ?_
          refine lv_icmp_ge (tgt := 84) hx hb d_PieceReader_readNumber_32 (by decide) (fun c7 => ?_) (fun c7 => ?_)
          · refine lv_iconst (v := 1) hx hb d_PieceReader_readNumber_84 (by decide) ?_
            have hk9 : k0 = e0 - d := by have := (nI_leI (by omega) (by omega)).mp c7; omega
            have hok : nok t d e0 := ⟨hd1, hd2, fun j q => hm j (by omega)⟩
            exact m_zret hc hr hlk hw ⟨by first | decide | (dsimp only; omega), by first | decide | (dsimp only; omega)⟩ d_PieceReader_readNumber_85 (by decide) ⟨nmb t d k0, hfw, (bI_t hok).symm, fun _ => by rw [hk9]⟩
          · refine lv_aload_n hx hb d_PieceReader_readNumber_35 rfl (lv_at hl 1 rfl) ?_
            refine m_get hc hE hw hwr kc_PieceReader l_PieceReader_9_PieceReader rfl d_PieceReader_readNumber_36 ?_
            refine lv_iload_n hx hb d_PieceReader_readNumber_39 rfl (lv_at hl 0 rfl) ?_
            refine m_calli hw (m_runV (As := [.int (nI (d + k0))]) (rest := []) hc hE hw (c_Signs_at G l H.size fw hwT (nI (d + k0))) hwT.1 rfl cw_PieceReader_57 se_Signs_at rfl hl.1 rfl (Nat.le_of_ble_eq_true rfl) d_PieceReader_readNumber_40 ⟨rfl, rfl, by decide, by decide⟩ ⟨by first | decide | (dsimp only; omega), by first | decide | (dsimp only; omega)⟩) (fun r10 g9 H locs p8 hw => ?_)
            obtain ⟨rfl, p8⟩ := p8
            have hlt : k0 < e0 - d := by have : ¬ e0 ≤ d + k0 := fun z => c7 (nI_le z (by omega)); omega
            rw [atv_in (by omega) (by omega)] at p8
            subst p8
            refine lv_istore (lv' := [(4, .int (t (d + k0))), (3, .int (nI (d + k0))), (0, .ref ra), (1, .int (nI d)), (2, .int (nI (e0 - d)))]) hx hb d_PieceReader_readNumber_43 hl (by decide) rfl (fun ls hl => ?_)
            refine lv_iload hx hb d_PieceReader_readNumber_45 (lv_at hl 0 rfl) ?_
            refine lv_bipush (v := 48) hx hb d_PieceReader_readNumber_47 (by decide) ?_
            refine lv_icmp_lt (tgt := 59) hx hb d_PieceReader_readNumber_49 (by decide) (fun c11 => ?_) (fun c11 => ?_)
            · refine lv_iconst (v := 0) hx hb d_PieceReader_readNumber_59 (by decide) ?_
              have hno : ¬ nok t d e0 := fun z => absurd c11 (Int32.not_lt.mpr (z.2.2 k0 hlt).1)
              exact m_zret hc hr hlk hw ⟨by first | decide | (dsimp only; omega), by first | decide | (dsimp only; omega)⟩ d_PieceReader_readNumber_60 (by decide) ⟨nmb t d k0, hfw, (bI_f hno).symm, fun z => absurd z hno⟩
            · refine lv_iload hx hb d_PieceReader_readNumber_52 (lv_at hl 0 rfl) ?_
              refine lv_bipush (v := 57) hx hb d_PieceReader_readNumber_54 (by decide) ?_
              refine lv_icmp_le (tgt := 61) hx hb d_PieceReader_readNumber_56 (by decide) (fun c12 => ?_) (fun c12 => ?_)
              · refine lv_aload_n hx hb d_PieceReader_readNumber_61 rfl (lv_at hl 2 rfl) ?_
                refine lv_aload_n hx hb d_PieceReader_readNumber_62 rfl (lv_at hl 2 rfl) ?_
                refine m_get hc hE hw hwr kc_PieceReader l_PieceReader_40_PieceReader rfl d_PieceReader_readNumber_63 ?_
                refine lv_bipush (v := 10) hx hb d_PieceReader_readNumber_66 (by decide) ?_
                refine lv_imul hx hb d_PieceReader_readNumber_68 ?_
                refine lv_iload hx hb d_PieceReader_readNumber_69 (lv_at hl 0 rfl) ?_
                refine lv_bipush (v := 48) hx hb d_PieceReader_readNumber_71 (by decide) ?_
                refine lv_isub hx hb d_PieceReader_readNumber_73 ?_
                refine lv_iadd hx hb d_PieceReader_readNumber_74 ?_
                refine m_put hc hE hw hwr kc_PieceReader l_PieceReader_40_PieceReader rfl ds_PieceReader_5 rfl rfl (Nat.le_of_ble_eq_true rfl) d_PieceReader_readNumber_75 (fun H locs hw => ?_)
                obtain ⟨f13, ef13⟩ : ∃ z : Wd, z = va_up fw ra (some (.inr (3, [.ref ta, .int vfr, .int (nI e0), .int vpi, .int vli, .int (((nmb t d k0) * 10) + ((t (d + k0)) - 48)), .int vrj, .int vsh, .int vmf, .int vme, .int vnf, .int vne]))) := ⟨_, rfl⟩
                replace hw : ms G.1 (Af f sz) f13 s H locs := by rw [ef13]; exact hw
                have h14 : f13 ta = some (.inr (1, [.ref tr, .int (nI n)])) := by rw [ef13, va_up_ne _ _ (wne hwT.1 hwr (wd_oo (by decide)))]; exact hwT.1
                have h15 : f13 ra = some (.inr (3, [.ref ta, .int vfr, .int (nI e0), .int vpi, .int vli, .int (((nmb t d k0) * 10) + ((t (d + k0)) - 48)), .int vrj, .int vsh, .int vmf, .int vme, .int vnf, .int vne])) := by rw [ef13, va_up_self]
                have hT16 : sg G f13 ta tr cap n t := by rw [ef13]; exact sg_up hwT hwr wd_x
                refine lv_iinc (v := (nI (d + (k0 + 1)))) (lv' := [(3, .int (nI (d + (k0 + 1)))), (4, .int (t (d + k0))), (0, .ref ra), (1, .int (nI d)), (2, .int (nI (e0 - d)))]) hx hb d_PieceReader_readNumber_78 hl (k := 1) rfl (nI_1 (d + k0)) (by decide) rfl (fun ls hl => ?_)
                refine lv_goto (tgt := 27) hx hb d_PieceReader_readNumber_81 (by decide) ?_
                refine ih (k0 + 1) f13 ls H locs (by omega) (by omega) ?_ (fun j q => ?_) hw (lv_sub hl [0, 2, 3, 4] rfl)
                · rw [ef13, hfw, up_uu]; rfl
                · rcases Nat.lt_or_ge j k0 with q1 | q1
                  · exact hm j q1
                  · rw [show j = k0 by omega]; exact ⟨Int32.not_lt.mp c11, c12⟩
              · refine lv_iconst (v := 0) hx hb d_PieceReader_readNumber_59 (by decide) ?_
                have hno : ¬ nok t d e0 := fun z => c12 (z.2.2 k0 hlt).2
                exact m_zret hc hr hlk hw ⟨by first | decide | (dsimp only; omega), by first | decide | (dsimp only; omega)⟩ d_PieceReader_readNumber_60 (by decide) ⟨nmb t d k0, hfw, (bI_f hno).symm, fun z => absurd z hno⟩
      refine loop (e0 - d + 1) 0 f3 ls H locs (by omega) (Nat.zero_le _) ef3 (fun j q => absurd q (Nat.not_lt_zero _)) hw (lv_sub hl [0, 2, 3, 1] rfl)
    · refine lv_iconst (v := 0) hx hb d_PieceReader_readNumber_18 (by decide) ?_
      have hno : ¬ nok t d e0 := fun z => c2 (nI_le (a := e0 - d) (b := 9) z.2.1 (by decide))
      exact m_zret hc hr hlk hw ⟨by first | decide | (dsimp only; omega), by first | decide | (dsimp only; omega)⟩ d_PieceReader_readNumber_19 (by decide) ⟨vnu, (up_id hR).symm, (bI_f hno).symm, fun z => absurd z hno⟩
end
section
/-! links of the pools, as the walks ask for them -/
theorem l_PieceReader_104_PieceReader : lnk "StreamFilters$PieceReader" 104 F_PieceReader 12 10 := ⟨by decide, "StreamFilters$PieceReader", Or.inl rfl, Or.inl (tb 122 (by decide +kernel) rfl)⟩
theorem l_PieceReader_118_PieceReader : lnk "StreamFilters$PieceReader" 118 F_PieceReader 12 7 := ⟨by decide, "StreamFilters$PieceReader", Or.inl rfl, Or.inl (tb 116 (by decide +kernel) rfl)⟩
theorem l_PieceReader_121_PieceReader : lnk "StreamFilters$PieceReader" 121 F_PieceReader 12 11 := ⟨by decide, "StreamFilters$PieceReader", Or.inl rfl, Or.inl (tb 124 (by decide +kernel) rfl)⟩
theorem l_PieceReader_37_PieceReader : lnk "StreamFilters$PieceReader" 37 F_PieceReader 12 4 := ⟨by decide, "StreamFilters$PieceReader", Or.inl rfl, Or.inl (tb 111 (by decide +kernel) rfl)⟩
theorem cw_PieceReader_76 : cwk "StreamFilters$PieceReader" 76 y_PieceReader_limitNamed b_PieceReader_limitNamed 2 (some .int) 1 := ⟨Or.inl (tb 232 (by decide +kernel) rfl), (tb 235 (by decide +kernel) rfl), (tb 4 (by decide +kernel) rfl), by decide, by decide, by decide +kernel⟩
theorem cw_PieceReader_79 : cwk "StreamFilters$PieceReader" 79 y_PieceReader_readNumber b_PieceReader_readNumber 5 (some .boolean) 1 := ⟨Or.inl (tb 292 (by decide +kernel) rfl), (tb 295 (by decide +kernel) rfl), (tb 4 (by decide +kernel) rfl), by decide, by decide, by decide +kernel⟩
theorem se_PieceReader_limitNamed : Cond.instanceMethod y_PieceReader_limitNamed ∈ TB ∧ Cond.selects "StreamFilters$PieceReader" y_PieceReader_limitNamed y_PieceReader_limitNamed ∈ TB := ⟨(tb 234 (by decide +kernel) rfl), (tbs 4 (by decide +kernel) rfl)⟩
theorem se_PieceReader_readNumber : Cond.instanceMethod y_PieceReader_readNumber ∈ TB ∧ Cond.selects "StreamFilters$PieceReader" y_PieceReader_readNumber y_PieceReader_readNumber ∈ TB := ⟨(tb 294 (by decide +kernel) rfl), (tbs 5 (by decide +kernel) rfl)⟩
theorem mm_PieceReader_112 : Cond.methodLink "StreamFilters$PieceReader" 112 Lib.Math.max.name ∈ TB := (tb 305 (by decide +kernel) rfl)
/-! decode rows -/
theorem d_PieceReader_readLimit_0 : decode b_PieceReader_readLimit 0 = .ok (.aload_n 0, 1) := by decide +kernel
theorem d_PieceReader_readLimit_1 : decode b_PieceReader_readLimit 1 = .ok (.aload_n 0, 1) := by decide +kernel
theorem d_PieceReader_readLimit_2 : decode b_PieceReader_readLimit 2 = .ok (.iload_n 1, 1) := by decide +kernel
theorem d_PieceReader_readLimit_3 : decode b_PieceReader_readLimit 3 = .ok (.invokevirtual 76, 3) := by decide +kernel
theorem d_PieceReader_readLimit_6 : decode b_PieceReader_readLimit 6 = .ok (.putfield 37, 3) := by decide +kernel
theorem d_PieceReader_readLimit_9 : decode b_PieceReader_readLimit 9 = .ok (.aload_n 0, 1) := by decide +kernel
theorem d_PieceReader_readLimit_10 : decode b_PieceReader_readLimit 10 = .ok (.getfield 37, 3) := by decide +kernel
theorem d_PieceReader_readLimit_13 : decode b_PieceReader_readLimit 13 = .ok (.bipush (-2), 2) := by decide +kernel
theorem d_PieceReader_readLimit_15 : decode b_PieceReader_readLimit 15 = .ok (.if_icmp .eq 17, 3) := by decide +kernel
theorem d_PieceReader_readLimit_18 : decode b_PieceReader_readLimit 18 = .ok (.aload_n 0, 1) := by decide +kernel
theorem d_PieceReader_readLimit_19 : decode b_PieceReader_readLimit 19 = .ok (.iload_n 1, 1) := by decide +kernel
theorem d_PieceReader_readLimit_20 : decode b_PieceReader_readLimit 20 = .ok (.iconst 1, 1) := by decide +kernel
theorem d_PieceReader_readLimit_21 : decode b_PieceReader_readLimit 21 = .ok (.iadd, 1) := by decide +kernel
theorem d_PieceReader_readLimit_22 : decode b_PieceReader_readLimit 22 = .ok (.invokevirtual 79, 3) := by decide +kernel
theorem d_PieceReader_readLimit_25 : decode b_PieceReader_readLimit 25 = .ok (.ifCond .eq 7, 3) := by decide +kernel
theorem d_PieceReader_readLimit_28 : decode b_PieceReader_readLimit 28 = .ok (.iconst 1, 1) := by decide +kernel
theorem d_PieceReader_readLimit_29 : decode b_PieceReader_readLimit 29 = .ok (.goto 4, 3) := by decide +kernel
theorem d_PieceReader_readLimit_32 : decode b_PieceReader_readLimit 32 = .ok (.iconst 0, 1) := by decide +kernel
theorem d_PieceReader_readLimit_33 : decode b_PieceReader_readLimit 33 = .ok (.ireturn, 1) := by decide +kernel
theorem d_PieceReader_readName_0 : decode b_PieceReader_readName 0 = .ok (.aload_n 0, 1) := by decide +kernel
theorem d_PieceReader_readName_1 : decode b_PieceReader_readName 1 = .ok (.getfield 9, 3) := by decide +kernel
theorem d_PieceReader_readName_4 : decode b_PieceReader_readName 4 = .ok (.ldc 110, 2) := by decide +kernel
theorem d_PieceReader_readName_6 : decode b_PieceReader_readName 6 = .ok (.aload_n 0, 1) := by decide +kernel
theorem d_PieceReader_readName_7 : decode b_PieceReader_readName 7 = .ok (.getfield 104, 3) := by decide +kernel
theorem d_PieceReader_readName_10 : decode b_PieceReader_readName 10 = .ok (.aload_n 0, 1) := by decide +kernel
theorem d_PieceReader_readName_11 : decode b_PieceReader_readName 11 = .ok (.getfield 51, 3) := by decide +kernel
theorem d_PieceReader_readName_14 : decode b_PieceReader_readName 14 = .ok (.iconst 3, 1) := by decide +kernel
theorem d_PieceReader_readName_15 : decode b_PieceReader_readName 15 = .ok (.isub, 1) := by decide +kernel
theorem d_PieceReader_readName_16 : decode b_PieceReader_readName 16 = .ok (.invokestatic 112, 3) := by decide +kernel
theorem d_PieceReader_readName_19 : decode b_PieceReader_readName 19 = .ok (.aload_n 0, 1) := by decide +kernel
theorem d_PieceReader_readName_20 : decode b_PieceReader_readName 20 = .ok (.getfield 51, 3) := by decide +kernel
theorem d_PieceReader_readName_23 : decode b_PieceReader_readName 23 = .ok (.invokevirtual 84, 3) := by decide +kernel
theorem d_PieceReader_readName_26 : decode b_PieceReader_readName 26 = .ok (.ifCond .eq 37, 3) := by decide +kernel
theorem d_PieceReader_readName_29 : decode b_PieceReader_readName 29 = .ok (.aload_n 0, 1) := by decide +kernel
theorem d_PieceReader_readName_30 : decode b_PieceReader_readName 30 = .ok (.iconst 2, 1) := by decide +kernel
theorem d_PieceReader_readName_31 : decode b_PieceReader_readName 31 = .ok (.putfield 118, 3) := by decide +kernel
theorem d_PieceReader_readName_34 : decode b_PieceReader_readName 34 = .ok (.aload_n 0, 1) := by decide +kernel
theorem d_PieceReader_readName_35 : decode b_PieceReader_readName 35 = .ok (.aload_n 0, 1) := by decide +kernel
theorem d_PieceReader_readName_36 : decode b_PieceReader_readName 36 = .ok (.getfield 51, 3) := by decide +kernel
theorem d_PieceReader_readName_39 : decode b_PieceReader_readName 39 = .ok (.iconst 2, 1) := by decide +kernel
theorem d_PieceReader_readName_40 : decode b_PieceReader_readName 40 = .ok (.isub, 1) := by decide +kernel
theorem d_PieceReader_readName_41 : decode b_PieceReader_readName 41 = .ok (.putfield 121, 3) := by decide +kernel
theorem d_PieceReader_readName_44 : decode b_PieceReader_readName 44 = .ok (.aload_n 0, 1) := by decide +kernel
theorem d_PieceReader_readName_45 : decode b_PieceReader_readName 45 = .ok (.getfield 121, 3) := by decide +kernel
theorem d_PieceReader_readName_48 : decode b_PieceReader_readName 48 = .ok (.aload_n 0, 1) := by decide +kernel
theorem d_PieceReader_readName_49 : decode b_PieceReader_readName 49 = .ok (.getfield 104, 3) := by decide +kernel
theorem d_PieceReader_readName_52 : decode b_PieceReader_readName 52 = .ok (.isub, 1) := by decide +kernel
theorem d_PieceReader_readName_53 : decode b_PieceReader_readName 53 = .ok (.iconst 2, 1) := by decide +kernel
theorem d_PieceReader_readName_54 : decode b_PieceReader_readName 54 = .ok (.if_icmp .lt 7, 3) := by decide +kernel
theorem d_PieceReader_readName_57 : decode b_PieceReader_readName 57 = .ok (.iconst 1, 1) := by decide +kernel
theorem d_PieceReader_readName_58 : decode b_PieceReader_readName 58 = .ok (.goto 4, 3) := by decide +kernel
theorem d_PieceReader_readName_61 : decode b_PieceReader_readName 61 = .ok (.iconst 0, 1) := by decide +kernel
theorem d_PieceReader_readName_62 : decode b_PieceReader_readName 62 = .ok (.ireturn, 1) := by decide +kernel
theorem d_PieceReader_readName_63 : decode b_PieceReader_readName 63 = .ok (.aload_n 0, 1) := by decide +kernel
theorem d_PieceReader_readName_64 : decode b_PieceReader_readName 64 = .ok (.getfield 9, 3) := by decide +kernel
theorem d_PieceReader_readName_67 : decode b_PieceReader_readName 67 = .ok (.ldc 124, 2) := by decide +kernel
theorem d_PieceReader_readName_69 : decode b_PieceReader_readName 69 = .ok (.aload_n 0, 1) := by decide +kernel
theorem d_PieceReader_readName_70 : decode b_PieceReader_readName 70 = .ok (.getfield 104, 3) := by decide +kernel
theorem d_PieceReader_readName_73 : decode b_PieceReader_readName 73 = .ok (.aload_n 0, 1) := by decide +kernel
theorem d_PieceReader_readName_74 : decode b_PieceReader_readName 74 = .ok (.getfield 51, 3) := by decide +kernel
theorem d_PieceReader_readName_77 : decode b_PieceReader_readName 77 = .ok (.iconst 2, 1) := by decide +kernel
theorem d_PieceReader_readName_78 : decode b_PieceReader_readName 78 = .ok (.isub, 1) := by decide +kernel
theorem d_PieceReader_readName_79 : decode b_PieceReader_readName 79 = .ok (.invokestatic 112, 3) := by decide +kernel
theorem d_PieceReader_readName_82 : decode b_PieceReader_readName 82 = .ok (.aload_n 0, 1) := by decide +kernel
theorem d_PieceReader_readName_83 : decode b_PieceReader_readName 83 = .ok (.getfield 51, 3) := by decide +kernel
theorem d_PieceReader_readName_86 : decode b_PieceReader_readName 86 = .ok (.invokevirtual 84, 3) := by decide +kernel
theorem d_PieceReader_readName_89 : decode b_PieceReader_readName 89 = .ok (.ifCond .eq 37, 3) := by decide +kernel
theorem d_PieceReader_readName_92 : decode b_PieceReader_readName 92 = .ok (.aload_n 0, 1) := by decide +kernel
theorem d_PieceReader_readName_93 : decode b_PieceReader_readName 93 = .ok (.iconst 1, 1) := by decide +kernel
theorem d_PieceReader_readName_94 : decode b_PieceReader_readName 94 = .ok (.putfield 118, 3) := by decide +kernel
theorem d_PieceReader_readName_97 : decode b_PieceReader_readName 97 = .ok (.aload_n 0, 1) := by decide +kernel
theorem d_PieceReader_readName_98 : decode b_PieceReader_readName 98 = .ok (.aload_n 0, 1) := by decide +kernel
theorem d_PieceReader_readName_99 : decode b_PieceReader_readName 99 = .ok (.getfield 51, 3) := by decide +kernel
theorem d_PieceReader_readName_102 : decode b_PieceReader_readName 102 = .ok (.iconst 1, 1) := by decide +kernel
theorem d_PieceReader_readName_103 : decode b_PieceReader_readName 103 = .ok (.isub, 1) := by decide +kernel
theorem d_PieceReader_readName_104 : decode b_PieceReader_readName 104 = .ok (.putfield 121, 3) := by decide +kernel
theorem d_PieceReader_readName_107 : decode b_PieceReader_readName 107 = .ok (.aload_n 0, 1) := by decide +kernel
theorem d_PieceReader_readName_108 : decode b_PieceReader_readName 108 = .ok (.getfield 121, 3) := by decide +kernel
theorem d_PieceReader_readName_111 : decode b_PieceReader_readName 111 = .ok (.aload_n 0, 1) := by decide +kernel
theorem d_PieceReader_readName_112 : decode b_PieceReader_readName 112 = .ok (.getfield 104, 3) := by decide +kernel
theorem d_PieceReader_readName_115 : decode b_PieceReader_readName 115 = .ok (.isub, 1) := by decide +kernel
theorem d_PieceReader_readName_116 : decode b_PieceReader_readName 116 = .ok (.iconst 2, 1) := by decide +kernel
theorem d_PieceReader_readName_117 : decode b_PieceReader_readName 117 = .ok (.if_icmp .lt 7, 3) := by decide +kernel
theorem d_PieceReader_readName_120 : decode b_PieceReader_readName 120 = .ok (.iconst 1, 1) := by decide +kernel
theorem d_PieceReader_readName_121 : decode b_PieceReader_readName 121 = .ok (.goto 4, 3) := by decide +kernel
theorem d_PieceReader_readName_124 : decode b_PieceReader_readName 124 = .ok (.iconst 0, 1) := by decide +kernel
theorem d_PieceReader_readName_125 : decode b_PieceReader_readName 125 = .ok (.ireturn, 1) := by decide +kernel
theorem d_PieceReader_readName_126 : decode b_PieceReader_readName 126 = .ok (.aload_n 0, 1) := by decide +kernel
theorem d_PieceReader_readName_127 : decode b_PieceReader_readName 127 = .ok (.getfield 9, 3) := by decide +kernel
theorem d_PieceReader_readName_130 : decode b_PieceReader_readName 130 = .ok (.ldc 126, 2) := by decide +kernel
theorem d_PieceReader_readName_132 : decode b_PieceReader_readName 132 = .ok (.aload_n 0, 1) := by decide +kernel
theorem d_PieceReader_readName_133 : decode b_PieceReader_readName 133 = .ok (.getfield 104, 3) := by decide +kernel
theorem d_PieceReader_readName_136 : decode b_PieceReader_readName 136 = .ok (.aload_n 0, 1) := by decide +kernel
theorem d_PieceReader_readName_137 : decode b_PieceReader_readName 137 = .ok (.getfield 51, 3) := by decide +kernel
theorem d_PieceReader_readName_140 : decode b_PieceReader_readName 140 = .ok (.iconst 1, 1) := by decide +kernel
theorem d_PieceReader_readName_141 : decode b_PieceReader_readName 141 = .ok (.isub, 1) := by decide +kernel
theorem d_PieceReader_readName_142 : decode b_PieceReader_readName 142 = .ok (.invokestatic 112, 3) := by decide +kernel
theorem d_PieceReader_readName_145 : decode b_PieceReader_readName 145 = .ok (.aload_n 0, 1) := by decide +kernel
theorem d_PieceReader_readName_146 : decode b_PieceReader_readName 146 = .ok (.getfield 51, 3) := by decide +kernel
theorem d_PieceReader_readName_149 : decode b_PieceReader_readName 149 = .ok (.invokevirtual 84, 3) := by decide +kernel
theorem d_PieceReader_readName_152 : decode b_PieceReader_readName 152 = .ok (.ifCond .eq 20, 3) := by decide +kernel
theorem d_PieceReader_readName_155 : decode b_PieceReader_readName 155 = .ok (.aload_n 0, 1) := by decide +kernel
theorem d_PieceReader_readName_156 : decode b_PieceReader_readName 156 = .ok (.iconst 3, 1) := by decide +kernel
theorem d_PieceReader_readName_157 : decode b_PieceReader_readName 157 = .ok (.putfield 118, 3) := by decide +kernel
theorem d_PieceReader_readName_160 : decode b_PieceReader_readName 160 = .ok (.aload_n 0, 1) := by decide +kernel
theorem d_PieceReader_readName_161 : decode b_PieceReader_readName 161 = .ok (.aload_n 0, 1) := by decide +kernel
theorem d_PieceReader_readName_162 : decode b_PieceReader_readName 162 = .ok (.getfield 51, 3) := by decide +kernel
theorem d_PieceReader_readName_165 : decode b_PieceReader_readName 165 = .ok (.iconst 1, 1) := by decide +kernel
theorem d_PieceReader_readName_166 : decode b_PieceReader_readName 166 = .ok (.isub, 1) := by decide +kernel
theorem d_PieceReader_readName_167 : decode b_PieceReader_readName 167 = .ok (.putfield 121, 3) := by decide +kernel
theorem d_PieceReader_readName_170 : decode b_PieceReader_readName 170 = .ok (.iconst 1, 1) := by decide +kernel
theorem d_PieceReader_readName_171 : decode b_PieceReader_readName 171 = .ok (.ireturn, 1) := by decide +kernel
theorem d_PieceReader_readName_172 : decode b_PieceReader_readName 172 = .ok (.aload_n 0, 1) := by decide +kernel
theorem d_PieceReader_readName_173 : decode b_PieceReader_readName 173 = .ok (.iconst 0, 1) := by decide +kernel
theorem d_PieceReader_readName_174 : decode b_PieceReader_readName 174 = .ok (.putfield 118, 3) := by decide +kernel
theorem d_PieceReader_readName_177 : decode b_PieceReader_readName 177 = .ok (.aload_n 0, 1) := by decide +kernel
theorem d_PieceReader_readName_178 : decode b_PieceReader_readName 178 = .ok (.aload_n 0, 1) := by decide +kernel
theorem d_PieceReader_readName_179 : decode b_PieceReader_readName 179 = .ok (.getfield 51, 3) := by decide +kernel
theorem d_PieceReader_readName_182 : decode b_PieceReader_readName 182 = .ok (.putfield 121, 3) := by decide +kernel
theorem d_PieceReader_readName_185 : decode b_PieceReader_readName 185 = .ok (.aload_n 0, 1) := by decide +kernel
theorem d_PieceReader_readName_186 : decode b_PieceReader_readName 186 = .ok (.getfield 121, 3) := by decide +kernel
theorem d_PieceReader_readName_189 : decode b_PieceReader_readName 189 = .ok (.aload_n 0, 1) := by decide +kernel
theorem d_PieceReader_readName_190 : decode b_PieceReader_readName 190 = .ok (.getfield 104, 3) := by decide +kernel
theorem d_PieceReader_readName_193 : decode b_PieceReader_readName 193 = .ok (.if_icmp .le 7, 3) := by decide +kernel
theorem d_PieceReader_readName_196 : decode b_PieceReader_readName 196 = .ok (.iconst 1, 1) := by decide +kernel
theorem d_PieceReader_readName_197 : decode b_PieceReader_readName 197 = .ok (.goto 4, 3) := by decide +kernel
theorem d_PieceReader_readName_200 : decode b_PieceReader_readName 200 = .ok (.iconst 0, 1) := by decide +kernel
theorem d_PieceReader_readName_201 : decode b_PieceReader_readName 201 = .ok (.ireturn, 1) := by decide +kernel
set_option maxHeartbeats 4000000 in
set_option maxRecDepth 100000 in
/-- readLimit(q) -/
theorem c_PieceReader_readLimit (G : GG) (l : Launch) (sz : Nat) (f : Wd) {ra ta tr cap n : Nat} {t : Nat → Int32} {vpi vli vnu vrj vsh vmf vme vnf vne : Int32} {a q e0 : Nat} (hR : f ra = some (.inr (3, [.ref ta, .int (nI a), .int (nI e0), .int vpi, .int vli, .int vnu, .int vrj, .int vsh, .int vmf, .int vme, .int vnf, .int vne]))) (hT : sg G f ta tr cap n t) (h1 : a ≤ q) (h2 : q < e0) (h3 : e0 ≤ n) : Ci G l y_PieceReader_readLimit b_PieceReader_readLimit 2 (some .boolean) ({ frames := 6, cells := 0, slots := 0, locals := 132 }) sz f [.ref ra, .int (nI q)] (fun v f' => ∃ li nu : Int32, f' = va_up f ra (some (.inr (3, [.ref ta, .int (nI a), .int (nI e0), .int vpi, .int li, .int nu, .int vrj, .int vsh, .int vmf, .int vme, .int vnf, .int vne]))) ∧ v = bI (lok t a q e0) ∧ (lok t a q e0 → li = lmV t a q ∧ nu = nmb t (q + 1) (e0 - (q + 1)))) := by
  refine ct_of (by decide) (Nat.le_of_ble_eq_true rfl) ?_
  intro p e s m below meth c ls H locs hEn
  obtain ⟨hc, hr, hlk, hin, hE, hw, hsz, hl⟩ := hEn
  have hx := hc.1
  have hb := hc.2.1
  have hl : lv_has ls 2 [(0, .ref ra), (1, .int (nI q))] := hl
  have hn9 : n ≤ 90 := by have := hT.2.2.1; have := hT.2.2.2.1; omega
  refine lv_aload_n hx hb d_PieceReader_readLimit_0 rfl (lv_at hl 0 rfl) ?_
  refine lv_aload_n hx hb d_PieceReader_readLimit_1 rfl (lv_at hl 0 rfl) ?_
  refine lv_iload_n hx hb d_PieceReader_readLimit_2 rfl (lv_at hl 1 rfl) ?_
  refine m_calli hw (m_runV (As := [.int (nI q)]) (rest := [.ref ra]) hc hE hw (c_PieceReader_limitNamed G l H.size f hR hT h1 (by omega)) hR rfl cw_PieceReader_76 se_PieceReader_limitNamed rfl hl.1 rfl (Nat.le_of_ble_eq_true rfl) d_PieceReader_readLimit_3 ⟨rfl, rfl, by decide, by decide⟩ ⟨by first | decide | (dsimp only; omega), by first | decide | (dsimp only; omega)⟩) (fun r3 g2 H locs p1 hw => ?_)
  obtain ⟨rfl, p1⟩ := p1
  subst p1
  refine m_put hc hE hw hR kc_PieceReader l_PieceReader_37_PieceReader rfl ds_PieceReader_4 rfl rfl (Nat.le_of_ble_eq_true rfl) d_PieceReader_readLimit_6 (fun H locs hw => ?_)
  obtain ⟨f4, ef4⟩ : ∃ z : Wd, z = va_up f ra (some (.inr (3, [.ref ta, .int (nI a), .int (nI e0), .int vpi, .int (lmV t a q), .int vnu, .int vrj, .int vsh, .int vmf, .int vme, .int vnf, .int vne]))) := ⟨_, rfl⟩
  replace hw : ms G.1 (Af f sz) f4 s H locs := by rw [ef4]; exact hw
  have h5 : f4 ta = some (.inr (1, [.ref tr, .int (nI n)])) := by rw [ef4, va_up_ne _ _ (wne hT.1 hR (wd_oo (by decide)))]; exact hT.1
  have h6 : f4 ra = some (.inr (3, [.ref ta, .int (nI a), .int (nI e0), .int vpi, .int (lmV t a q), .int vnu, .int vrj, .int vsh, .int vmf, .int vme, .int vnf, .int vne])) := by rw [ef4, va_up_self]
  have hT7 : sg G f4 ta tr cap n t := by rw [ef4]; exact sg_up hT hR wd_x
  refine lv_aload_n hx hb d_PieceReader_readLimit_9 rfl (lv_at hl 0 rfl) ?_
  refine m_get hc hE hw h6 kc_PieceReader l_PieceReader_37_PieceReader rfl d_PieceReader_readLimit_10 ?_
  refine lv_bipush (v := (-2)) hx hb d_PieceReader_readLimit_13 (by decide) ?_
  refine lv_icmp_eq (tgt := 32) hx hb d_PieceReader_readLimit_15 (by decide) (fun c8 => ?_) (fun c8 => ?_)
  · refine lv_iconst (v := 0) hx hb d_PieceReader_readLimit_32 (by decide) ?_
    have hno : ¬ lok t a q e0 := fun z => z.1 c8
    exact m_zret hc hr hlk hw ⟨by first | decide | (dsimp only; omega), by first | decide | (dsimp only; omega)⟩ d_PieceReader_readLimit_33 (by decide) ⟨lmV t a q, vnu, ef4, (bI_f hno).symm, fun z => absurd z hno⟩
  · refine lv_aload_n hx hb d_PieceReader_readLimit_18 rfl (lv_at hl 0 rfl) ?_
    refine lv_iload_n hx hb d_PieceReader_readLimit_19 rfl (lv_at hl 1 rfl) ?_
    refine lv_iconst (v := 1) hx hb d_PieceReader_readLimit_20 (by decide) ?_
    refine lv_iadd hx hb d_PieceReader_readLimit_21 ?_
    refine m_top (y := (nI (q + 1))) (nI_1 q) ?_
    refine m_calli hw (m_runV (As := [.int (nI (q + 1))]) (rest := []) hc hE hw (c_PieceReader_readNumber G l H.size f4 h6 hT7 (d := q + 1) (by omega) h3) h6 rfl cw_PieceReader_79 se_PieceReader_readNumber rfl hl.1 rfl (Nat.le_of_ble_eq_true rfl) d_PieceReader_readLimit_22 ⟨rfl, rfl, by decide, by decide⟩ ⟨by first | decide | (dsimp only; omega), by first | decide | (dsimp only; omega)⟩) (fun r11 g10 H locs p9 hw => ?_)
    obtain ⟨nu, hfe, hrv, hnu⟩ := p9
    have g10_r : g10 ra = some (.inr (3, [.ref ta, .int (nI a), .int (nI e0), .int vpi, .int (lmV t a q), .int nu, .int vrj, .int vsh, .int vmf, .int vme, .int vnf, .int vne])) := by rw [hfe, va_up_self]
    have hT12 : sg G g10 ta tr cap n t := by rw [hfe]; exact sg_up hT7 h6 wd_x
    refine lv_if_eq (tgt := 32) hx hb d_PieceReader_readLimit_25 (by decide) (fun c13 => ?_) (fun c13 => ?_)
    · refine lv_iconst (v := 0) hx hb d_PieceReader_readLimit_32 (by decide) ?_
      have hno : ¬ lok t a q e0 := fun z => (bI_0.mp (hrv.symm.trans c13)) z.2
      exact m_zret hc hr hlk hw ⟨by first | decide | (dsimp only; omega), by first | decide | (dsimp only; omega)⟩ d_PieceReader_readLimit_33 (by decide) ⟨lmV t a q, nu, by rw [hfe, ef4, up_uu], (bI_f hno).symm, fun z => absurd z hno⟩
    · refine lv_iconst (v := 1) hx hb d_PieceReader_readLimit_28 (by decide) ?_
      refine lv_goto (tgt := 33) hx hb d_PieceReader_readLimit_29 (by decide) ?_
      have hok : lok t a q e0 := ⟨c8, bI_n.mp (fun z => c13 (hrv.trans z))⟩
      exact m_zret hc hr hlk hw ⟨by first | decide | (dsimp only; omega), by first | decide | (dsimp only; omega)⟩ d_PieceReader_readLimit_33 (by decide) ⟨lmV t a q, nu, by rw [hfe, ef4, up_uu], (bI_t hok).symm, fun z => ⟨rfl, hnu z.2⟩⟩

set_option maxHeartbeats 4000000 in
set_option maxRecDepth 100000 in
/-- readName() -/
theorem c_PieceReader_readName (G : GG) (l : Launch) (sz : Nat) (f : Wd) {ra ta tr cap n : Nat} {t : Nat → Int32} {vfr vpi vli vnu vrj vsh vmf vme vne : Int32} {b e0 : Nat} (hR : f ra = some (.inr (3, [.ref ta, .int vfr, .int (nI e0), .int vpi, .int vli, .int vnu, .int vrj, .int vsh, .int vmf, .int vme, .int (nI b), .int vne]))) (hT : sg G f ta tr cap n t) (h1 : b ≤ e0) (h3 : e0 ≤ n) : Ci G l y_PieceReader_readName b_PieceReader_readName 1 (some .boolean) ({ frames := 5, cells := 0, slots := 0, locals := 111 }) sz f [.ref ra] (fun v f' => f' = va_up f ra (some (.inr (3, [.ref ta, .int vfr, .int (nI e0), .int vpi, .int vli, .int vnu, .int vrj, .int (nI (shp t b e0)), .int vmf, .int vme, .int (nI b), .int (nI (nmE t b e0))]))) ∧ v = bI (okN t b e0)) := by
  refine ct_of (by decide) (Nat.le_of_ble_eq_true rfl) ?_
  intro p e s m below meth c ls H locs hEn
  obtain ⟨hc, hr, hlk, hin, hE, hw, hsz, hl⟩ := hEn
  have hx := hc.1
  have hb := hc.2.1
  have hl : lv_has ls 1 [(0, .ref ra)] := hl
  have hn9 : n ≤ 90 := by have := hT.2.2.1; have := hT.2.2.2.1; omega
  obtain ⟨hi2, hi1, hi3⟩ := isw_e (t := t) h1
  refine lv_aload_n hx hb d_PieceReader_readName_0 rfl (lv_at hl 0 rfl) ?_
  refine m_get hc hE hw hR kc_PieceReader l_PieceReader_9_PieceReader rfl d_PieceReader_readName_1 ?_
  refine m_ldc hc hE (k := 4) (tx := ".**") (by decide) d_PieceReader_readName_4 ?_
  refine lv_aload_n hx hb d_PieceReader_readName_6 rfl (lv_at hl 0 rfl) ?_
  refine m_get hc hE hw hR kc_PieceReader l_PieceReader_104_PieceReader rfl d_PieceReader_readName_7 ?_
  refine lv_aload_n hx hb d_PieceReader_readName_10 rfl (lv_at hl 0 rfl) ?_
  refine m_get hc hE hw hR kc_PieceReader l_PieceReader_51_PieceReader rfl d_PieceReader_readName_11 ?_
  refine lv_iconst (v := 3) hx hb d_PieceReader_readName_14 (by decide) ?_
  refine lv_isub hx hb d_PieceReader_readName_15 ?_
  refine m_mmax hc mm_PieceReader_112 mm_w hl.1 (Nat.le_of_ble_eq_true rfl) (Nat.le_of_ble_eq_true rfl) ⟨by first | decide | (dsimp only; omega), by first | decide | (dsimp only; omega)⟩ d_PieceReader_readName_16 ?_
  refine m_top (y := (nI (max b (e0 - 3)))) (mxk (k := 3) (by omega) (by omega) (by omega)) ?_
  refine lv_aload_n hx hb d_PieceReader_readName_19 rfl (lv_at hl 0 rfl) ?_
  refine m_get hc hE hw hR kc_PieceReader l_PieceReader_51_PieceReader rfl d_PieceReader_readName_20 ?_
  refine m_calli hw (m_runV (As := [.ref (G.2.2.1 4), .int (nI (max b (e0 - 3))), .int (nI e0)]) (rest := []) hc hE hw (c_Signs_hasWord G l H.size f hT (k := 4) (by decide) (by omega) h3) hT.1 rfl cw_PieceReader_84 se_Signs_hasWord rfl hl.1 rfl (Nat.le_of_ble_eq_true rfl) d_PieceReader_readName_23 ⟨rfl, rfl, by decide, by decide⟩ ⟨by first | decide | (dsimp only; omega), by first | decide | (dsimp only; omega)⟩) (fun r3 g2 H locs p1 hw => ?_)
  obtain ⟨rfl, p1⟩ := p1
  refine lv_if_eq (tgt := 63) hx hb d_PieceReader_readName_26 (by decide) (fun c4 => ?_) (fun c4 => ?_)
  · refine lv_aload_n hx hb d_PieceReader_readName_63 rfl (lv_at hl 0 rfl) ?_
    refine m_get hc hE hw hR kc_PieceReader l_PieceReader_9_PieceReader rfl d_PieceReader_readName_64 ?_
    refine m_ldc hc hE (k := 5) (tx := ".*") (by decide) d_PieceReader_readName_67 ?_
    refine lv_aload_n hx hb d_PieceReader_readName_69 rfl (lv_at hl 0 rfl) ?_
    refine m_get hc hE hw hR kc_PieceReader l_PieceReader_104_PieceReader rfl d_PieceReader_readName_70 ?_
    refine lv_aload_n hx hb d_PieceReader_readName_73 rfl (lv_at hl 0 rfl) ?_
    refine m_get hc hE hw hR kc_PieceReader l_PieceReader_51_PieceReader rfl d_PieceReader_readName_74 ?_
    refine lv_iconst (v := 2) hx hb d_PieceReader_readName_77 (by decide) ?_
    refine lv_isub hx hb d_PieceReader_readName_78 ?_
    refine m_mmax hc mm_PieceReader_112 mm_w hl.1 (Nat.le_of_ble_eq_true rfl) (Nat.le_of_ble_eq_true rfl) ⟨by first | decide | (dsimp only; omega), by first | decide | (dsimp only; omega)⟩ d_PieceReader_readName_79 ?_
    refine m_top (y := (nI (max b (e0 - 2)))) (mxk (k := 2) (by omega) (by omega) (by omega)) ?_
    refine lv_aload_n hx hb d_PieceReader_readName_82 rfl (lv_at hl 0 rfl) ?_
    refine m_get hc hE hw hR kc_PieceReader l_PieceReader_51_PieceReader rfl d_PieceReader_readName_83 ?_
    refine m_calli hw (m_runV (As := [.ref (G.2.2.1 5), .int (nI (max b (e0 - 2))), .int (nI e0)]) (rest := []) hc hE hw (c_Signs_hasWord G l H.size f hT (k := 5) (by decide) (by omega) h3) hT.1 rfl cw_PieceReader_84 se_Signs_hasWord rfl hl.1 rfl (Nat.le_of_ble_eq_true rfl) d_PieceReader_readName_86 ⟨rfl, rfl, by decide, by decide⟩ ⟨by first | decide | (dsimp only; omega), by first | decide | (dsimp only; omega)⟩) (fun r7 g6 H locs p5 hw => ?_)
    obtain ⟨rfl, p5⟩ := p5
    refine lv_if_eq (tgt := 126) hx hb d_PieceReader_readName_89 (by decide) (fun c8 => ?_) (fun c8 => ?_)
    · refine lv_aload_n hx hb d_PieceReader_readName_126 rfl (lv_at hl 0 rfl) ?_
      refine m_get hc hE hw hR kc_PieceReader l_PieceReader_9_PieceReader rfl d_PieceReader_readName_127 ?_
      refine m_ldc hc hE (k := 6) (tx := "*") (by decide) d_PieceReader_readName_130 ?_
      refine lv_aload_n hx hb d_PieceReader_readName_132 rfl (lv_at hl 0 rfl) ?_
      refine m_get hc hE hw hR kc_PieceReader l_PieceReader_104_PieceReader rfl d_PieceReader_readName_133 ?_
      refine lv_aload_n hx hb d_PieceReader_readName_136 rfl (lv_at hl 0 rfl) ?_
      refine m_get hc hE hw hR kc_PieceReader l_PieceReader_51_PieceReader rfl d_PieceReader_readName_137 ?_
      refine lv_iconst (v := 1) hx hb d_PieceReader_readName_140 (by decide) ?_
      refine lv_isub hx hb d_PieceReader_readName_141 ?_
      refine m_mmax hc mm_PieceReader_112 mm_w hl.1 (Nat.le_of_ble_eq_true rfl) (Nat.le_of_ble_eq_true rfl) ⟨by first | decide | (dsimp only; omega), by first | decide | (dsimp only; omega)⟩ d_PieceReader_readName_142 ?_
      refine m_top (y := (nI (max b (e0 - 1)))) (mxk (k := 1) (by omega) (by omega) (by omega)) ?_
      refine lv_aload_n hx hb d_PieceReader_readName_145 rfl (lv_at hl 0 rfl) ?_
      refine m_get hc hE hw hR kc_PieceReader l_PieceReader_51_PieceReader rfl d_PieceReader_readName_146 ?_
      refine m_calli hw (m_runV (As := [.ref (G.2.2.1 6), .int (nI (max b (e0 - 1))), .int (nI e0)]) (rest := []) hc hE hw (c_Signs_hasWord G l H.size f hT (k := 6) (by decide) (by omega) h3) hT.1 rfl cw_PieceReader_84 se_Signs_hasWord rfl hl.1 rfl (Nat.le_of_ble_eq_true rfl) d_PieceReader_readName_149 ⟨rfl, rfl, by decide, by decide⟩ ⟨by first | decide | (dsimp only; omega), by first | decide | (dsimp only; omega)⟩) (fun r11 g10 H locs p9 hw => ?_)
      obtain ⟨rfl, p9⟩ := p9
      refine lv_if_eq (tgt := 172) hx hb d_PieceReader_readName_152 (by decide) (fun c12 => ?_) (fun c12 => ?_)
      · have hs2 : ¬ s2 t b e0 := fun z => (bI_0.mp (p1.symm.trans c4)) (hi2.mpr z)
        have hs1 : ¬ s1 t b e0 := fun z => (bI_0.mp (p5.symm.trans c8)) (hi1.mpr z)
        have hs3 : ¬ s3 t b e0 := fun z => (bI_0.mp (p9.symm.trans c12)) (hi3.mpr z)
        refine lv_aload_n hx hb d_PieceReader_readName_172 rfl (lv_at hl 0 rfl) ?_
        refine lv_iconst (v := 0) hx hb d_PieceReader_readName_173 (by decide) ?_
        refine m_put hc hE hw hR kc_PieceReader l_PieceReader_118_PieceReader rfl ds_PieceReader_7 rfl rfl (Nat.le_of_ble_eq_true rfl) d_PieceReader_readName_174 (fun H locs hw => ?_)
        obtain ⟨f13, ef13⟩ : ∃ z : Wd, z = va_up f ra (some (.inr (3, [.ref ta, .int vfr, .int (nI e0), .int vpi, .int vli, .int vnu, .int vrj, .int 0, .int vmf, .int vme, .int (nI b), .int vne]))) := ⟨_, rfl⟩
        replace hw : ms G.1 (Af f sz) f13 s H locs := by rw [ef13]; exact hw
        have h14 : f13 ta = some (.inr (1, [.ref tr, .int (nI n)])) := by rw [ef13, va_up_ne _ _ (wne hT.1 hR (wd_oo (by decide)))]; exact hT.1
        have h15 : f13 ra = some (.inr (3, [.ref ta, .int vfr, .int (nI e0), .int vpi, .int vli, .int vnu, .int vrj, .int 0, .int vmf, .int vme, .int (nI b), .int vne])) := by rw [ef13, va_up_self]
        have hT16 : sg G f13 ta tr cap n t := by rw [ef13]; exact sg_up hT hR wd_x
        refine lv_aload_n hx hb d_PieceReader_readName_177 rfl (lv_at hl 0 rfl) ?_
        refine lv_aload_n hx hb d_PieceReader_readName_178 rfl (lv_at hl 0 rfl) ?_
        refine m_get hc hE hw h15 kc_PieceReader l_PieceReader_51_PieceReader rfl d_PieceReader_readName_179 ?_
        refine m_put hc hE hw h15 kc_PieceReader l_PieceReader_121_PieceReader rfl ds_PieceReader_11 rfl rfl (Nat.le_of_ble_eq_true rfl) d_PieceReader_readName_182 (fun H locs hw => ?_)
        obtain ⟨f17, ef17⟩ : ∃ z : Wd, z = va_up f13 ra (some (.inr (3, [.ref ta, .int vfr, .int (nI e0), .int vpi, .int vli, .int vnu, .int vrj, .int 0, .int vmf, .int vme, .int (nI b), .int (nI e0)]))) := ⟨_, rfl⟩
        replace hw : ms G.1 (Af f sz) f17 s H locs := by rw [ef17]; exact hw
        have h18 : f17 ta = some (.inr (1, [.ref tr, .int (nI n)])) := by rw [ef17, va_up_ne _ _ (wne hT16.1 h15 (wd_oo (by decide)))]; exact hT16.1
        have h19 : f17 ra = some (.inr (3, [.ref ta, .int vfr, .int (nI e0), .int vpi, .int vli, .int vnu, .int vrj, .int 0, .int vmf, .int vme, .int (nI b), .int (nI e0)])) := by rw [ef17, va_up_self]
        have hT20 : sg G f17 ta tr cap n t := by rw [ef17]; exact sg_up hT16 h15 wd_x
        refine lv_aload_n hx hb d_PieceReader_readName_185 rfl (lv_at hl 0 rfl) ?_
        refine m_get hc hE hw h19 kc_PieceReader l_PieceReader_121_PieceReader rfl d_PieceReader_readName_186 ?_
        refine lv_aload_n hx hb d_PieceReader_readName_189 rfl (lv_at hl 0 rfl) ?_
        refine m_get hc hE hw h19 kc_PieceReader l_PieceReader_104_PieceReader rfl d_PieceReader_readName_190 ?_
        refine lv_icmp_le (tgt := 200) hx hb d_PieceReader_readName_193 (by decide) (fun c21 => ?_) (fun c21 => ?_)
        · refine lv_iconst (v := 0) hx hb d_PieceReader_readName_200 (by decide) ?_
          have hsp : shp t b e0 = 0 := by unfold shp; rw [pif_f hs2, pif_f hs1, pif_f hs3]
          have hnm : nmE t b e0 = e0 := by unfold nmE; rw [pif_f hs2, pif_f hs1, pif_f hs3]
          exact m_zret hc hr hlk hw ⟨by first | decide | (dsimp only; omega), by first | decide | (dsimp only; omega)⟩ d_PieceReader_readName_201 (by decide) ⟨by rw [ef17, ef13, up_uu, hsp, hnm]; rfl, (bI_f (fun z => absurd ((nI_leI (by omega) (by omega)).mp c21) (by have := z.2.2 hs2 hs1 hs3; omega))).symm⟩
        · refine lv_iconst (v := 1) hx hb d_PieceReader_readName_196 (by decide) ?_
          refine lv_goto (tgt := 201) hx hb d_PieceReader_readName_197 (by decide) ?_
          have hsp : shp t b e0 = 0 := by unfold shp; rw [pif_f hs2, pif_f hs1, pif_f hs3]
          have hnm : nmE t b e0 = e0 := by unfold nmE; rw [pif_f hs2, pif_f hs1, pif_f hs3]
          exact m_zret hc hr hlk hw ⟨by first | decide | (dsimp only; omega), by first | decide | (dsimp only; omega)⟩ d_PieceReader_readName_201 (by decide) ⟨by rw [ef17, ef13, up_uu, hsp, hnm]; rfl, (bI_t ⟨fun z => absurd z hs2, fun _ z => absurd z hs1, fun _ _ _ => Nat.not_le.mp (fun z => c21 (nI_le z (by omega)))⟩).symm⟩
      · have hs2 : ¬ s2 t b e0 := fun z => (bI_0.mp (p1.symm.trans c4)) (hi2.mpr z)
        have hs1 : ¬ s1 t b e0 := fun z => (bI_0.mp (p5.symm.trans c8)) (hi1.mpr z)
        have hs3 : s3 t b e0 := hi3.mp (bI_n.mp (fun z => c12 (p9.trans z)))
        refine lv_aload_n hx hb d_PieceReader_readName_155 rfl (lv_at hl 0 rfl) ?_
        refine lv_iconst (v := 3) hx hb d_PieceReader_readName_156 (by decide) ?_
        refine m_put hc hE hw hR kc_PieceReader l_PieceReader_118_PieceReader rfl ds_PieceReader_7 rfl rfl (Nat.le_of_ble_eq_true rfl) d_PieceReader_readName_157 (fun H locs hw => ?_)
        obtain ⟨f22, ef22⟩ : ∃ z : Wd, z = va_up f ra (some (.inr (3, [.ref ta, .int vfr, .int (nI e0), .int vpi, .int vli, .int vnu, .int vrj, .int 3, .int vmf, .int vme, .int (nI b), .int vne]))) := ⟨_, rfl⟩
        replace hw : ms G.1 (Af f sz) f22 s H locs := by rw [ef22]; exact hw
        have h23 : f22 ta = some (.inr (1, [.ref tr, .int (nI n)])) := by rw [ef22, va_up_ne _ _ (wne hT.1 hR (wd_oo (by decide)))]; exact hT.1
        have h24 : f22 ra = some (.inr (3, [.ref ta, .int vfr, .int (nI e0), .int vpi, .int vli, .int vnu, .int vrj, .int 3, .int vmf, .int vme, .int (nI b), .int vne])) := by rw [ef22, va_up_self]
        have hT25 : sg G f22 ta tr cap n t := by rw [ef22]; exact sg_up hT hR wd_x
        refine lv_aload_n hx hb d_PieceReader_readName_160 rfl (lv_at hl 0 rfl) ?_
        refine lv_aload_n hx hb d_PieceReader_readName_161 rfl (lv_at hl 0 rfl) ?_
        refine m_get hc hE hw h24 kc_PieceReader l_PieceReader_51_PieceReader rfl d_PieceReader_readName_162 ?_
        refine lv_iconst (v := 1) hx hb d_PieceReader_readName_165 (by decide) ?_
        refine lv_isub hx hb d_PieceReader_readName_166 ?_
        have hs31 := hs3.1
        refine m_top (y := (nI (e0 - 1))) (sbk (k := 1) (by omega)) ?_
        refine m_put hc hE hw h24 kc_PieceReader l_PieceReader_121_PieceReader rfl ds_PieceReader_11 rfl rfl (Nat.le_of_ble_eq_true rfl) d_PieceReader_readName_167 (fun H locs hw => ?_)
        obtain ⟨f26, ef26⟩ : ∃ z : Wd, z = va_up f22 ra (some (.inr (3, [.ref ta, .int vfr, .int (nI e0), .int vpi, .int vli, .int vnu, .int vrj, .int 3, .int vmf, .int vme, .int (nI b), .int (nI (e0 - 1))]))) := ⟨_, rfl⟩
        replace hw : ms G.1 (Af f sz) f26 s H locs := by rw [ef26]; exact hw
        have h27 : f26 ta = some (.inr (1, [.ref tr, .int (nI n)])) := by rw [ef26, va_up_ne _ _ (wne hT25.1 h24 (wd_oo (by decide)))]; exact hT25.1
        have h28 : f26 ra = some (.inr (3, [.ref ta, .int vfr, .int (nI e0), .int vpi, .int vli, .int vnu, .int vrj, .int 3, .int vmf, .int vme, .int (nI b), .int (nI (e0 - 1))])) := by rw [ef26, va_up_self]
        have hT29 : sg G f26 ta tr cap n t := by rw [ef26]; exact sg_up hT25 h24 wd_x
        refine lv_iconst (v := 1) hx hb d_PieceReader_readName_170 (by decide) ?_
        have hsp : shp t b e0 = 3 := by unfold shp; rw [pif_f hs2, pif_f hs1, pif_t hs3]
        have hnm : nmE t b e0 = e0 - 1 := by unfold nmE; rw [pif_f hs2, pif_f hs1, pif_t hs3]
        exact m_zret hc hr hlk hw ⟨by first | decide | (dsimp only; omega), by first | decide | (dsimp only; omega)⟩ d_PieceReader_readName_171 (by decide) ⟨by rw [ef26, ef22, up_uu, hsp, hnm]; rfl, (bI_t ⟨fun z => absurd z hs2, fun _ z => absurd z hs1, fun _ _ z => absurd hs3 z⟩).symm⟩
    · have hs2 : ¬ s2 t b e0 := fun z => (bI_0.mp (p1.symm.trans c4)) (hi2.mpr z)
      have hs1 : s1 t b e0 := hi1.mp (bI_n.mp (fun z => c8 (p5.trans z)))
      refine lv_aload_n hx hb d_PieceReader_readName_92 rfl (lv_at hl 0 rfl) ?_
      refine lv_iconst (v := 1) hx hb d_PieceReader_readName_93 (by decide) ?_
      refine m_put hc hE hw hR kc_PieceReader l_PieceReader_118_PieceReader rfl ds_PieceReader_7 rfl rfl (Nat.le_of_ble_eq_true rfl) d_PieceReader_readName_94 (fun H locs hw => ?_)
      obtain ⟨f30, ef30⟩ : ∃ z : Wd, z = va_up f ra (some (.inr (3, [.ref ta, .int vfr, .int (nI e0), .int vpi, .int vli, .int vnu, .int vrj, .int 1, .int vmf, .int vme, .int (nI b), .int vne]))) := ⟨_, rfl⟩
      replace hw : ms G.1 (Af f sz) f30 s H locs := by rw [ef30]; exact hw
      have h31 : f30 ta = some (.inr (1, [.ref tr, .int (nI n)])) := by rw [ef30, va_up_ne _ _ (wne hT.1 hR (wd_oo (by decide)))]; exact hT.1
      have h32 : f30 ra = some (.inr (3, [.ref ta, .int vfr, .int (nI e0), .int vpi, .int vli, .int vnu, .int vrj, .int 1, .int vmf, .int vme, .int (nI b), .int vne])) := by rw [ef30, va_up_self]
      have hT33 : sg G f30 ta tr cap n t := by rw [ef30]; exact sg_up hT hR wd_x
      refine lv_aload_n hx hb d_PieceReader_readName_97 rfl (lv_at hl 0 rfl) ?_
      refine lv_aload_n hx hb d_PieceReader_readName_98 rfl (lv_at hl 0 rfl) ?_
      refine m_get hc hE hw h32 kc_PieceReader l_PieceReader_51_PieceReader rfl d_PieceReader_readName_99 ?_
      refine lv_iconst (v := 1) hx hb d_PieceReader_readName_102 (by decide) ?_
      refine lv_isub hx hb d_PieceReader_readName_103 ?_
      have hs11 := hs1.1
      refine m_top (y := (nI (e0 - 1))) (sbk (k := 1) (by omega)) ?_
      refine m_put hc hE hw h32 kc_PieceReader l_PieceReader_121_PieceReader rfl ds_PieceReader_11 rfl rfl (Nat.le_of_ble_eq_true rfl) d_PieceReader_readName_104 (fun H locs hw => ?_)
      obtain ⟨f34, ef34⟩ : ∃ z : Wd, z = va_up f30 ra (some (.inr (3, [.ref ta, .int vfr, .int (nI e0), .int vpi, .int vli, .int vnu, .int vrj, .int 1, .int vmf, .int vme, .int (nI b), .int (nI (e0 - 1))]))) := ⟨_, rfl⟩
      replace hw : ms G.1 (Af f sz) f34 s H locs := by rw [ef34]; exact hw
      have h35 : f34 ta = some (.inr (1, [.ref tr, .int (nI n)])) := by rw [ef34, va_up_ne _ _ (wne hT33.1 h32 (wd_oo (by decide)))]; exact hT33.1
      have h36 : f34 ra = some (.inr (3, [.ref ta, .int vfr, .int (nI e0), .int vpi, .int vli, .int vnu, .int vrj, .int 1, .int vmf, .int vme, .int (nI b), .int (nI (e0 - 1))])) := by rw [ef34, va_up_self]
      have hT37 : sg G f34 ta tr cap n t := by rw [ef34]; exact sg_up hT33 h32 wd_x
      refine lv_aload_n hx hb d_PieceReader_readName_107 rfl (lv_at hl 0 rfl) ?_
      refine m_get hc hE hw h36 kc_PieceReader l_PieceReader_121_PieceReader rfl d_PieceReader_readName_108 ?_
      refine lv_aload_n hx hb d_PieceReader_readName_111 rfl (lv_at hl 0 rfl) ?_
      refine m_get hc hE hw h36 kc_PieceReader l_PieceReader_104_PieceReader rfl d_PieceReader_readName_112 ?_
      refine lv_isub hx hb d_PieceReader_readName_115 ?_
      refine m_top (y := (nI (e0 - 1 - b))) (pk_sub (by omega)) ?_
      refine lv_iconst (v := 2) hx hb d_PieceReader_readName_116 (by decide) ?_
      refine lv_icmp_lt (tgt := 124) hx hb d_PieceReader_readName_117 (by decide) (fun c38 => ?_) (fun c38 => ?_)
      · refine lv_iconst (v := 0) hx hb d_PieceReader_readName_124 (by decide) ?_
        have hsp : shp t b e0 = 1 := by unfold shp; rw [pif_f hs2, pif_t hs1]
        have hnm : nmE t b e0 = e0 - 1 := by unfold nmE; rw [pif_f hs2, pif_t hs1]
        exact m_zret hc hr hlk hw ⟨by first | decide | (dsimp only; omega), by first | decide | (dsimp only; omega)⟩ d_PieceReader_readName_125 (by decide) ⟨by rw [ef34, ef30, up_uu, hsp, hnm]; rfl, (bI_f (fun z => absurd ((nI_ltI (a := e0 - 1 - b) (b := 2) (by omega) (by decide)).mp c38) (by have := z.2.1 hs2 hs1; omega))).symm⟩
      · refine lv_iconst (v := 1) hx hb d_PieceReader_readName_120 (by decide) ?_
        refine lv_goto (tgt := 125) hx hb d_PieceReader_readName_121 (by decide) ?_
        have hsp : shp t b e0 = 1 := by unfold shp; rw [pif_f hs2, pif_t hs1]
        have hnm : nmE t b e0 = e0 - 1 := by unfold nmE; rw [pif_f hs2, pif_t hs1]
        exact m_zret hc hr hlk hw ⟨by first | decide | (dsimp only; omega), by first | decide | (dsimp only; omega)⟩ d_PieceReader_readName_125 (by decide) ⟨by rw [ef34, ef30, up_uu, hsp, hnm]; rfl, (bI_t ⟨fun z => absurd z hs2, fun _ _ => Nat.not_lt.mp (fun z => c38 (nI_lt (a := e0 - 1 - b) (b := 2) z (by decide))), fun _ z => absurd hs1 z⟩).symm⟩
  · have hs2 : s2 t b e0 := hi2.mp (bI_n.mp (fun z => c4 (p1.trans z)))
    refine lv_aload_n hx hb d_PieceReader_readName_29 rfl (lv_at hl 0 rfl) ?_
    refine lv_iconst (v := 2) hx hb d_PieceReader_readName_30 (by decide) ?_
    refine m_put hc hE hw hR kc_PieceReader l_PieceReader_118_PieceReader rfl ds_PieceReader_7 rfl rfl (Nat.le_of_ble_eq_true rfl) d_PieceReader_readName_31 (fun H locs hw => ?_)
    obtain ⟨f39, ef39⟩ : ∃ z : Wd, z = va_up f ra (some (.inr (3, [.ref ta, .int vfr, .int (nI e0), .int vpi, .int vli, .int vnu, .int vrj, .int 2, .int vmf, .int vme, .int (nI b), .int vne]))) := ⟨_, rfl⟩
    replace hw : ms G.1 (Af f sz) f39 s H locs := by rw [ef39]; exact hw
    have h40 : f39 ta = some (.inr (1, [.ref tr, .int (nI n)])) := by rw [ef39, va_up_ne _ _ (wne hT.1 hR (wd_oo (by decide)))]; exact hT.1
    have h41 : f39 ra = some (.inr (3, [.ref ta, .int vfr, .int (nI e0), .int vpi, .int vli, .int vnu, .int vrj, .int 2, .int vmf, .int vme, .int (nI b), .int vne])) := by rw [ef39, va_up_self]
    have hT42 : sg G f39 ta tr cap n t := by rw [ef39]; exact sg_up hT hR wd_x
    refine lv_aload_n hx hb d_PieceReader_readName_34 rfl (lv_at hl 0 rfl) ?_
    refine lv_aload_n hx hb d_PieceReader_readName_35 rfl (lv_at hl 0 rfl) ?_
    refine m_get hc hE hw h41 kc_PieceReader l_PieceReader_51_PieceReader rfl d_PieceReader_readName_36 ?_
    refine lv_iconst (v := 2) hx hb d_PieceReader_readName_39 (by decide) ?_
    refine lv_isub hx hb d_PieceReader_readName_40 ?_
    have hs21 := hs2.1
    refine m_top (y := (nI (e0 - 2))) (sbk (k := 2) (by omega)) ?_
    refine m_put hc hE hw h41 kc_PieceReader l_PieceReader_121_PieceReader rfl ds_PieceReader_11 rfl rfl (Nat.le_of_ble_eq_true rfl) d_PieceReader_readName_41 (fun H locs hw => ?_)
    obtain ⟨f43, ef43⟩ : ∃ z : Wd, z = va_up f39 ra (some (.inr (3, [.ref ta, .int vfr, .int (nI e0), .int vpi, .int vli, .int vnu, .int vrj, .int 2, .int vmf, .int vme, .int (nI b), .int (nI (e0 - 2))]))) := ⟨_, rfl⟩
    replace hw : ms G.1 (Af f sz) f43 s H locs := by rw [ef43]; exact hw
    have h44 : f43 ta = some (.inr (1, [.ref tr, .int (nI n)])) := by rw [ef43, va_up_ne _ _ (wne hT42.1 h41 (wd_oo (by decide)))]; exact hT42.1
    have h45 : f43 ra = some (.inr (3, [.ref ta, .int vfr, .int (nI e0), .int vpi, .int vli, .int vnu, .int vrj, .int 2, .int vmf, .int vme, .int (nI b), .int (nI (e0 - 2))])) := by rw [ef43, va_up_self]
    have hT46 : sg G f43 ta tr cap n t := by rw [ef43]; exact sg_up hT42 h41 wd_x
    refine lv_aload_n hx hb d_PieceReader_readName_44 rfl (lv_at hl 0 rfl) ?_
    refine m_get hc hE hw h45 kc_PieceReader l_PieceReader_121_PieceReader rfl d_PieceReader_readName_45 ?_
    refine lv_aload_n hx hb d_PieceReader_readName_48 rfl (lv_at hl 0 rfl) ?_
    refine m_get hc hE hw h45 kc_PieceReader l_PieceReader_104_PieceReader rfl d_PieceReader_readName_49 ?_
    refine lv_isub hx hb d_PieceReader_readName_52 ?_
    refine m_top (y := (nI (e0 - 2 - b))) (pk_sub (by omega)) ?_
    refine lv_iconst (v := 2) hx hb d_PieceReader_readName_53 (by decide) ?_
    refine lv_icmp_lt (tgt := 61) hx hb d_PieceReader_readName_54 (by decide) (fun c47 => ?_) (fun c47 => ?_)
    · refine lv_iconst (v := 0) hx hb d_PieceReader_readName_61 (by decide) ?_
      have hsp : shp t b e0 = 2 := by unfold shp; rw [pif_t hs2]
      have hnm : nmE t b e0 = e0 - 2 := by unfold nmE; rw [pif_t hs2]
      exact m_zret hc hr hlk hw ⟨by first | decide | (dsimp only; omega), by first | decide | (dsimp only; omega)⟩ d_PieceReader_readName_62 (by decide) ⟨by rw [ef43, ef39, up_uu, hsp, hnm]; rfl, (bI_f (fun z => absurd ((nI_ltI (a := e0 - 2 - b) (b := 2) (by omega) (by decide)).mp c47) (by have := z.1 hs2; omega))).symm⟩
    · refine lv_iconst (v := 1) hx hb d_PieceReader_readName_57 (by decide) ?_
      refine lv_goto (tgt := 62) hx hb d_PieceReader_readName_58 (by decide) ?_
      have hsp : shp t b e0 = 2 := by unfold shp; rw [pif_t hs2]
      have hnm : nmE t b e0 = e0 - 2 := by unfold nmE; rw [pif_t hs2]
      exact m_zret hc hr hlk hw ⟨by first | decide | (dsimp only; omega), by first | decide | (dsimp only; omega)⟩ d_PieceReader_readName_62 (by decide) ⟨by rw [ef43, ef39, up_uu, hsp, hnm]; rfl, (bI_t ⟨fun _ => Nat.not_lt.mp (fun z => c47 (nI_lt (a := e0 - 2 - b) (b := 2) z (by decide))), fun z => absurd hs2 z, fun z => absurd hs2 z⟩).symm⟩
end
section
/-! links of the pools, as the walks ask for them -/
theorem l_PieceReader_101_PieceReader : lnk "StreamFilters$PieceReader" 101 F_PieceReader 12 9 := ⟨by decide, "StreamFilters$PieceReader", Or.inl rfl, Or.inl (tb 120 (by decide +kernel) rfl)⟩
theorem l_PieceReader_94_PieceReader : lnk "StreamFilters$PieceReader" 94 F_PieceReader 12 6 := ⟨by decide, "StreamFilters$PieceReader", Or.inl rfl, Or.inl (tb 114 (by decide +kernel) rfl)⟩
theorem l_PieceReader_98_PieceReader : lnk "StreamFilters$PieceReader" 98 F_PieceReader 12 8 := ⟨by decide, "StreamFilters$PieceReader", Or.inl rfl, Or.inl (tb 118 (by decide +kernel) rfl)⟩
theorem cw_PieceReader_107 : cwk "StreamFilters$PieceReader" 107 y_PieceReader_readName b_PieceReader_readName 1 (some .boolean) 0 := ⟨Or.inl (tb 300 (by decide +kernel) rfl), (tb 303 (by decide +kernel) rfl), (tb 4 (by decide +kernel) rfl), by decide, by decide, by decide +kernel⟩
theorem cw_PieceReader_64 : cwk "StreamFilters$PieceReader" 64 y_Signs_find b_Signs_find 5 (some .int) 3 := ⟨Or.inl (tb 223 (by decide +kernel) rfl), (tb 226 (by decide +kernel) rfl), (tb 2 (by decide +kernel) rfl), by decide, by decide, by decide +kernel⟩
theorem se_PieceReader_readName : Cond.instanceMethod y_PieceReader_readName ∈ TB ∧ Cond.selects "StreamFilters$PieceReader" y_PieceReader_readName y_PieceReader_readName ∈ TB := ⟨(tb 302 (by decide +kernel) rfl), (tbs 7 (by decide +kernel) rfl)⟩
/-! decode rows -/
theorem d_PieceReader_readClass_0 : decode b_PieceReader_readClass 0 = .ok (.aload_n 0, 1) := by decide +kernel
theorem d_PieceReader_readClass_1 : decode b_PieceReader_readClass 1 = .ok (.aload_n 0, 1) := by decide +kernel
theorem d_PieceReader_readClass_2 : decode b_PieceReader_readClass 2 = .ok (.getfield 9, 3) := by decide +kernel
theorem d_PieceReader_readClass_5 : decode b_PieceReader_readClass 5 = .ok (.aload_n 0, 1) := by decide +kernel
theorem d_PieceReader_readClass_6 : decode b_PieceReader_readClass 6 = .ok (.getfield 61, 3) := by decide +kernel
theorem d_PieceReader_readClass_9 : decode b_PieceReader_readClass 9 = .ok (.invokevirtual 57, 3) := by decide +kernel
theorem d_PieceReader_readClass_12 : decode b_PieceReader_readClass 12 = .ok (.bipush 33, 2) := by decide +kernel
theorem d_PieceReader_readClass_14 : decode b_PieceReader_readClass 14 = .ok (.if_icmp .ne 7, 3) := by decide +kernel
theorem d_PieceReader_readClass_17 : decode b_PieceReader_readClass 17 = .ok (.iconst 1, 1) := by decide +kernel
theorem d_PieceReader_readClass_18 : decode b_PieceReader_readClass 18 = .ok (.goto 4, 3) := by decide +kernel
theorem d_PieceReader_readClass_21 : decode b_PieceReader_readClass 21 = .ok (.iconst 0, 1) := by decide +kernel
theorem d_PieceReader_readClass_22 : decode b_PieceReader_readClass 22 = .ok (.putfield 94, 3) := by decide +kernel
theorem d_PieceReader_readClass_25 : decode b_PieceReader_readClass 25 = .ok (.aload_n 0, 1) := by decide +kernel
theorem d_PieceReader_readClass_26 : decode b_PieceReader_readClass 26 = .ok (.aload_n 0, 1) := by decide +kernel
theorem d_PieceReader_readClass_27 : decode b_PieceReader_readClass 27 = .ok (.getfield 94, 3) := by decide +kernel
theorem d_PieceReader_readClass_30 : decode b_PieceReader_readClass 30 = .ok (.ifCond .eq 12, 3) := by decide +kernel
theorem d_PieceReader_readClass_33 : decode b_PieceReader_readClass 33 = .ok (.aload_n 0, 1) := by decide +kernel
theorem d_PieceReader_readClass_34 : decode b_PieceReader_readClass 34 = .ok (.getfield 61, 3) := by decide +kernel
theorem d_PieceReader_readClass_37 : decode b_PieceReader_readClass 37 = .ok (.iconst 1, 1) := by decide +kernel
theorem d_PieceReader_readClass_38 : decode b_PieceReader_readClass 38 = .ok (.iadd, 1) := by decide +kernel
theorem d_PieceReader_readClass_39 : decode b_PieceReader_readClass 39 = .ok (.goto 7, 3) := by decide +kernel
theorem d_PieceReader_readClass_42 : decode b_PieceReader_readClass 42 = .ok (.aload_n 0, 1) := by decide +kernel
theorem d_PieceReader_readClass_43 : decode b_PieceReader_readClass 43 = .ok (.getfield 61, 3) := by decide +kernel
theorem d_PieceReader_readClass_46 : decode b_PieceReader_readClass 46 = .ok (.putfield 98, 3) := by decide +kernel
theorem d_PieceReader_readClass_49 : decode b_PieceReader_readClass 49 = .ok (.aload_n 0, 1) := by decide +kernel
theorem d_PieceReader_readClass_50 : decode b_PieceReader_readClass 50 = .ok (.getfield 9, 3) := by decide +kernel
theorem d_PieceReader_readClass_53 : decode b_PieceReader_readClass 53 = .ok (.bipush 47, 2) := by decide +kernel
theorem d_PieceReader_readClass_55 : decode b_PieceReader_readClass 55 = .ok (.aload_n 0, 1) := by decide +kernel
theorem d_PieceReader_readClass_56 : decode b_PieceReader_readClass 56 = .ok (.getfield 98, 3) := by decide +kernel
theorem d_PieceReader_readClass_59 : decode b_PieceReader_readClass 59 = .ok (.aload_n 0, 1) := by decide +kernel
theorem d_PieceReader_readClass_60 : decode b_PieceReader_readClass 60 = .ok (.getfield 51, 3) := by decide +kernel
theorem d_PieceReader_readClass_63 : decode b_PieceReader_readClass 63 = .ok (.invokevirtual 64, 3) := by decide +kernel
theorem d_PieceReader_readClass_66 : decode b_PieceReader_readClass 66 = .ok (.istore_n 1, 1) := by decide +kernel
theorem d_PieceReader_readClass_67 : decode b_PieceReader_readClass 67 = .ok (.iload_n 1, 1) := by decide +kernel
theorem d_PieceReader_readClass_68 : decode b_PieceReader_readClass 68 = .ok (.aload_n 0, 1) := by decide +kernel
theorem d_PieceReader_readClass_69 : decode b_PieceReader_readClass 69 = .ok (.getfield 51, 3) := by decide +kernel
theorem d_PieceReader_readClass_72 : decode b_PieceReader_readClass 72 = .ok (.if_icmp .ne 24, 3) := by decide +kernel
theorem d_PieceReader_readClass_75 : decode b_PieceReader_readClass 75 = .ok (.aload_n 0, 1) := by decide +kernel
theorem d_PieceReader_readClass_76 : decode b_PieceReader_readClass 76 = .ok (.aload_n 0, 1) := by decide +kernel
theorem d_PieceReader_readClass_77 : decode b_PieceReader_readClass 77 = .ok (.getfield 98, 3) := by decide +kernel
theorem d_PieceReader_readClass_80 : decode b_PieceReader_readClass 80 = .ok (.putfield 101, 3) := by decide +kernel
theorem d_PieceReader_readClass_83 : decode b_PieceReader_readClass 83 = .ok (.aload_n 0, 1) := by decide +kernel
theorem d_PieceReader_readClass_84 : decode b_PieceReader_readClass 84 = .ok (.aload_n 0, 1) := by decide +kernel
theorem d_PieceReader_readClass_85 : decode b_PieceReader_readClass 85 = .ok (.getfield 98, 3) := by decide +kernel
theorem d_PieceReader_readClass_88 : decode b_PieceReader_readClass 88 = .ok (.putfield 104, 3) := by decide +kernel
theorem d_PieceReader_readClass_91 : decode b_PieceReader_readClass 91 = .ok (.aload_n 0, 1) := by decide +kernel
theorem d_PieceReader_readClass_92 : decode b_PieceReader_readClass 92 = .ok (.invokevirtual 107, 3) := by decide +kernel
theorem d_PieceReader_readClass_95 : decode b_PieceReader_readClass 95 = .ok (.ireturn, 1) := by decide +kernel
theorem d_PieceReader_readClass_96 : decode b_PieceReader_readClass 96 = .ok (.aload_n 0, 1) := by decide +kernel
theorem d_PieceReader_readClass_97 : decode b_PieceReader_readClass 97 = .ok (.iload_n 1, 1) := by decide +kernel
theorem d_PieceReader_readClass_98 : decode b_PieceReader_readClass 98 = .ok (.putfield 101, 3) := by decide +kernel
theorem d_PieceReader_readClass_101 : decode b_PieceReader_readClass 101 = .ok (.aload_n 0, 1) := by decide +kernel
theorem d_PieceReader_readClass_102 : decode b_PieceReader_readClass 102 = .ok (.iload_n 1, 1) := by decide +kernel
theorem d_PieceReader_readClass_103 : decode b_PieceReader_readClass 103 = .ok (.iconst 1, 1) := by decide +kernel
theorem d_PieceReader_readClass_104 : decode b_PieceReader_readClass 104 = .ok (.iadd, 1) := by decide +kernel
theorem d_PieceReader_readClass_105 : decode b_PieceReader_readClass 105 = .ok (.putfield 104, 3) := by decide +kernel
theorem d_PieceReader_readClass_108 : decode b_PieceReader_readClass 108 = .ok (.aload_n 0, 1) := by decide +kernel
theorem d_PieceReader_readClass_109 : decode b_PieceReader_readClass 109 = .ok (.getfield 101, 3) := by decide +kernel
theorem d_PieceReader_readClass_112 : decode b_PieceReader_readClass 112 = .ok (.aload_n 0, 1) := by decide +kernel
theorem d_PieceReader_readClass_113 : decode b_PieceReader_readClass 113 = .ok (.getfield 98, 3) := by decide +kernel
theorem d_PieceReader_readClass_116 : decode b_PieceReader_readClass 116 = .ok (.if_icmp .le 14, 3) := by decide +kernel
theorem d_PieceReader_readClass_119 : decode b_PieceReader_readClass 119 = .ok (.aload_n 0, 1) := by decide +kernel
theorem d_PieceReader_readClass_120 : decode b_PieceReader_readClass 120 = .ok (.invokevirtual 107, 3) := by decide +kernel
theorem d_PieceReader_readClass_123 : decode b_PieceReader_readClass 123 = .ok (.ifCond .eq 7, 3) := by decide +kernel
theorem d_PieceReader_readClass_126 : decode b_PieceReader_readClass 126 = .ok (.iconst 1, 1) := by decide +kernel
theorem d_PieceReader_readClass_127 : decode b_PieceReader_readClass 127 = .ok (.goto 4, 3) := by decide +kernel
theorem d_PieceReader_readClass_130 : decode b_PieceReader_readClass 130 = .ok (.iconst 0, 1) := by decide +kernel
theorem d_PieceReader_readClass_131 : decode b_PieceReader_readClass 131 = .ok (.ireturn, 1) := by decide +kernel
set_option maxHeartbeats 4000000 in
set_option maxRecDepth 100000 in
/-- readClass() -/
theorem c_PieceReader_readClass (G : GG) (l : Launch) (sz : Nat) (f : Wd) {ra ta tr cap n : Nat} {t : Nat → Int32} {vpi vli vnu vrj vsh vmf vme vnf vne : Int32} {a e0 : Nat} (hR : f ra = some (.inr (3, [.ref ta, .int (nI a), .int (nI e0), .int vpi, .int vli, .int vnu, .int vrj, .int vsh, .int vmf, .int vme, .int vnf, .int vne]))) (hT : sg G f ta tr cap n t) (h1 : a < e0) (h3 : e0 ≤ n) : Ci G l y_PieceReader_readClass b_PieceReader_readClass 2 (some .boolean) ({ frames := 6, cells := 0, slots := 0, locals := 131 }) sz f [.ref ra] (fun v f' => ∃ rj sh mf me nf ne : Int32, f' = va_up f ra (some (.inr (3, [.ref ta, .int (nI a), .int (nI e0), .int vpi, .int vli, .int vnu, .int rj, .int sh, .int mf, .int me, .int nf, .int ne]))) ∧ v = bI (okC t a e0) ∧ (okC t a e0 → rj = bI (t a = 33) ∧ sh = nI (shp t (q0c t a e0) e0) ∧ mf = nI (m0c t a) ∧ me = nI (m1c t a e0) ∧ nf = nI (q0c t a e0) ∧ ne = nI (nmE t (q0c t a e0) e0))) := by
  refine ct_of (by decide) (Nat.le_of_ble_eq_true rfl) ?_
  intro p e s m below meth c ls H locs hEn
  obtain ⟨hc, hr, hlk, hin, hE, hw, hsz, hl⟩ := hEn
  have hx := hc.1
  have hb := hc.2.1
  have hl : lv_has ls 2 [(0, .ref ra)] := hl
  have hn9 : n ≤ 90 := by have := hT.2.2.1; have := hT.2.2.2.1; omega
  have hm0 := m0c_in (t := t) h1
  have hsl := slc_in (t := t) h1
  have hq0 := q0c_in (t := t) h1
  refine lv_aload_n hx hb d_PieceReader_readClass_0 rfl (lv_at hl 0 rfl) ?_
  refine lv_aload_n hx hb d_PieceReader_readClass_1 rfl (lv_at hl 0 rfl) ?_
  refine m_get hc hE hw hR kc_PieceReader l_PieceReader_9_PieceReader rfl d_PieceReader_readClass_2 ?_
  refine lv_aload_n hx hb d_PieceReader_readClass_5 rfl (lv_at hl 0 rfl) ?_
  refine m_get hc hE hw hR kc_PieceReader l_PieceReader_61_PieceReader rfl d_PieceReader_readClass_6 ?_
  refine m_calli hw (m_runV (As := [.int (nI a)]) (rest := [.ref ra]) hc hE hw (c_Signs_at G l H.size f hT (nI a)) hT.1 rfl cw_PieceReader_57 se_Signs_at rfl hl.1 rfl (Nat.le_of_ble_eq_true rfl) d_PieceReader_readClass_9 ⟨rfl, rfl, by decide, by decide⟩ ⟨by first | decide | (dsimp only; omega), by first | decide | (dsimp only; omega)⟩) (fun r3 g2 H locs p1 hw => ?_)
  obtain ⟨rfl, p1⟩ := p1
  rw [atv_in (by omega) (by omega)] at p1
  subst p1
  refine lv_bipush (v := 33) hx hb d_PieceReader_readClass_12 (by decide) ?_
  refine lv_icmp_ne (tgt := 21) hx hb d_PieceReader_readClass_14 (by decide) (fun c4 => ?_) (fun c4 => ?_)
  · refine lv_iconst (v := 0) hx hb d_PieceReader_readClass_21 (by decide) ?_
    refine m_top (y := bI (t a = 33)) (bI_f c4).symm ?_
    refine m_put hc hE hw hR kc_PieceReader l_PieceReader_94_PieceReader rfl ds_PieceReader_6 (bI_nar _) (bI_fit _) (Nat.le_of_ble_eq_true rfl) d_PieceReader_readClass_22 (fun H locs hw => ?_)
    obtain ⟨f5, ef5⟩ : ∃ z : Wd, z = va_up f ra (some (.inr (3, [.ref ta, .int (nI a), .int (nI e0), .int vpi, .int vli, .int vnu, .int (bI (t a = 33)), .int vsh, .int vmf, .int vme, .int vnf, .int vne]))) := ⟨_, rfl⟩
    replace hw : ms G.1 (Af f sz) f5 s H locs := by rw [ef5]; exact hw
    have h6 : f5 ta = some (.inr (1, [.ref tr, .int (nI n)])) := by rw [ef5, va_up_ne _ _ (wne hT.1 hR (wd_oo (by decide)))]; exact hT.1
    have h7 : f5 ra = some (.inr (3, [.ref ta, .int (nI a), .int (nI e0), .int vpi, .int vli, .int vnu, .int (bI (t a = 33)), .int vsh, .int vmf, .int vme, .int vnf, .int vne])) := by rw [ef5, va_up_self]
    have hT8 : sg G f5 ta tr cap n t := by rw [ef5]; exact sg_up hT hR wd_x
    refine lv_aload_n hx hb d_PieceReader_readClass_25 rfl (lv_at hl 0 rfl) ?_
    refine lv_aload_n hx hb d_PieceReader_readClass_26 rfl (lv_at hl 0 rfl) ?_
    refine m_get hc hE hw h7 kc_PieceReader l_PieceReader_94_PieceReader rfl d_PieceReader_readClass_27 ?_
    refine lv_if_eq (tgt := 42) hx hb d_PieceReader_readClass_30 (by decide) (fun c9 => ?_) (fun c9 => ?_)
    · refine lv_aload_n hx hb d_PieceReader_readClass_42 rfl (lv_at hl 0 rfl) ?_
      refine m_get hc hE hw h7 kc_PieceReader l_PieceReader_61_PieceReader rfl d_PieceReader_readClass_43 ?_
      refine m_top (y := nI (m0c t a)) (by unfold m0c; rw [pif_f c4]) ?_
      refine m_put hc hE hw h7 kc_PieceReader l_PieceReader_98_PieceReader rfl ds_PieceReader_8 rfl rfl (Nat.le_of_ble_eq_true rfl) d_PieceReader_readClass_46 (fun H locs hw => ?_)
      obtain ⟨f10, ef10⟩ : ∃ z : Wd, z = va_up f5 ra (some (.inr (3, [.ref ta, .int (nI a), .int (nI e0), .int vpi, .int vli, .int vnu, .int (bI (t a = 33)), .int vsh, .int (nI (m0c t a)), .int vme, .int vnf, .int vne]))) := ⟨_, rfl⟩
      replace hw : ms G.1 (Af f sz) f10 s H locs := by rw [ef10]; exact hw
      have h11 : f10 ta = some (.inr (1, [.ref tr, .int (nI n)])) := by rw [ef10, va_up_ne _ _ (wne hT8.1 h7 (wd_oo (by decide)))]; exact hT8.1
      have h12 : f10 ra = some (.inr (3, [.ref ta, .int (nI a), .int (nI e0), .int vpi, .int vli, .int vnu, .int (bI (t a = 33)), .int vsh, .int (nI (m0c t a)), .int vme, .int vnf, .int vne])) := by rw [ef10, va_up_self]
      have hT13 : sg G f10 ta tr cap n t := by rw [ef10]; exact sg_up hT8 h7 wd_x
      refine lv_aload_n hx hb d_PieceReader_readClass_49 rfl (lv_at hl 0 rfl) ?_
      refine m_get hc hE hw h12 kc_PieceReader l_PieceReader_9_PieceReader rfl d_PieceReader_readClass_50 ?_
      refine lv_bipush (v := 47) hx hb d_PieceReader_readClass_53 (by decide) ?_
      refine lv_aload_n hx hb d_PieceReader_readClass_55 rfl (lv_at hl 0 rfl) ?_
      refine m_get hc hE hw h12 kc_PieceReader l_PieceReader_98_PieceReader rfl d_PieceReader_readClass_56 ?_
      refine lv_aload_n hx hb d_PieceReader_readClass_59 rfl (lv_at hl 0 rfl) ?_
      refine m_get hc hE hw h12 kc_PieceReader l_PieceReader_51_PieceReader rfl d_PieceReader_readClass_60 ?_
      refine m_calli hw (m_runV (As := [.int 47, .int (nI (m0c t a)), .int (nI e0)]) (rest := []) hc hE hw (c_Signs_find G l H.size f10 hT13 47 (i0 := m0c t a) (i1 := e0) (by omega) h3) hT13.1 rfl cw_PieceReader_64 se_Signs_find rfl hl.1 rfl (Nat.le_of_ble_eq_true rfl) d_PieceReader_readClass_63 ⟨rfl, rfl, by decide, by decide⟩ ⟨by first | decide | (dsimp only; omega), by first | decide | (dsimp only; omega)⟩) (fun r16 g15 H locs p14 hw => ?_)
      obtain ⟨rfl, p14⟩ := p14
      replace p14 : r16 = nI (slc t a e0) := p14
      subst p14
      refine lv_istore_n (lv' := [(1, .int (nI (slc t a e0))), (0, .ref ra)]) hx hb d_PieceReader_readClass_66 rfl hl (by decide) rfl (fun ls hl => ?_)
      refine lv_iload_n hx hb d_PieceReader_readClass_67 rfl (lv_at hl 0 rfl) ?_
      refine lv_aload_n hx hb d_PieceReader_readClass_68 rfl (lv_at hl 1 rfl) ?_
      refine m_get hc hE hw h12 kc_PieceReader l_PieceReader_51_PieceReader rfl d_PieceReader_readClass_69 ?_
      refine lv_icmp_ne (tgt := 96) hx hb d_PieceReader_readClass_72 (by decide) (fun c17 => ?_) (fun c17 => ?_)
      · refine lv_aload_n hx hb d_PieceReader_readClass_96 rfl (lv_at hl 1 rfl) ?_
        refine lv_iload_n hx hb d_PieceReader_readClass_97 rfl (lv_at hl 0 rfl) ?_
        refine m_put hc hE hw h12 kc_PieceReader l_PieceReader_101_PieceReader rfl ds_PieceReader_9 rfl rfl (Nat.le_of_ble_eq_true rfl) d_PieceReader_readClass_98 (fun H locs hw => ?_)
        obtain ⟨f18, ef18⟩ : ∃ z : Wd, z = va_up f10 ra (some (.inr (3, [.ref ta, .int (nI a), .int (nI e0), .int vpi, .int vli, .int vnu, .int (bI (t a = 33)), .int vsh, .int (nI (m0c t a)), .int (nI (slc t a e0)), .int vnf, .int vne]))) := ⟨_, rfl⟩
        replace hw : ms G.1 (Af f sz) f18 s H locs := by rw [ef18]; exact hw
        have h19 : f18 ta = some (.inr (1, [.ref tr, .int (nI n)])) := by rw [ef18, va_up_ne _ _ (wne hT13.1 h12 (wd_oo (by decide)))]; exact hT13.1
        have h20 : f18 ra = some (.inr (3, [.ref ta, .int (nI a), .int (nI e0), .int vpi, .int vli, .int vnu, .int (bI (t a = 33)), .int vsh, .int (nI (m0c t a)), .int (nI (slc t a e0)), .int vnf, .int vne])) := by rw [ef18, va_up_self]
        have hT21 : sg G f18 ta tr cap n t := by rw [ef18]; exact sg_up hT13 h12 wd_x
        refine lv_aload_n hx hb d_PieceReader_readClass_101 rfl (lv_at hl 1 rfl) ?_
        refine lv_iload_n hx hb d_PieceReader_readClass_102 rfl (lv_at hl 0 rfl) ?_
        refine lv_iconst (v := 1) hx hb d_PieceReader_readClass_103 (by decide) ?_
        refine lv_iadd hx hb d_PieceReader_readClass_104 ?_
        refine m_top (y := (nI (slc t a e0 + 1))) (nI_1 _) ?_
        refine m_put hc hE hw h20 kc_PieceReader l_PieceReader_104_PieceReader rfl ds_PieceReader_10 rfl rfl (Nat.le_of_ble_eq_true rfl) d_PieceReader_readClass_105 (fun H locs hw => ?_)
        obtain ⟨f22, ef22⟩ : ∃ z : Wd, z = va_up f18 ra (some (.inr (3, [.ref ta, .int (nI a), .int (nI e0), .int vpi, .int vli, .int vnu, .int (bI (t a = 33)), .int vsh, .int (nI (m0c t a)), .int (nI (slc t a e0)), .int (nI (slc t a e0 + 1)), .int vne]))) := ⟨_, rfl⟩
        replace hw : ms G.1 (Af f sz) f22 s H locs := by rw [ef22]; exact hw
        have h23 : f22 ta = some (.inr (1, [.ref tr, .int (nI n)])) := by rw [ef22, va_up_ne _ _ (wne hT21.1 h20 (wd_oo (by decide)))]; exact hT21.1
        have h24 : f22 ra = some (.inr (3, [.ref ta, .int (nI a), .int (nI e0), .int vpi, .int vli, .int vnu, .int (bI (t a = 33)), .int vsh, .int (nI (m0c t a)), .int (nI (slc t a e0)), .int (nI (slc t a e0 + 1)), .int vne])) := by rw [ef22, va_up_self]
        have hT25 : sg G f22 ta tr cap n t := by rw [ef22]; exact sg_up hT21 h20 wd_x
        refine lv_aload_n hx hb d_PieceReader_readClass_108 rfl (lv_at hl 1 rfl) ?_
        refine m_get hc hE hw h24 kc_PieceReader l_PieceReader_101_PieceReader rfl d_PieceReader_readClass_109 ?_
        refine lv_aload_n hx hb d_PieceReader_readClass_112 rfl (lv_at hl 1 rfl) ?_
        refine m_get hc hE hw h24 kc_PieceReader l_PieceReader_98_PieceReader rfl d_PieceReader_readClass_113 ?_
        refine lv_icmp_le (tgt := 130) hx hb d_PieceReader_readClass_116 (by decide) (fun c26 => ?_) (fun c26 => ?_)
        · refine lv_iconst (v := 0) hx hb d_PieceReader_readClass_130 (by decide) ?_
          have hse : ¬ slc t a e0 = e0 := fun z => c17 (congrArg nI z)
          have hno : ¬ okC t a e0 := fun z => absurd ((nI_leI (by omega) (by omega)).mp c26) (by have := z.1 hse; omega)
          exact m_zret hc hr hlk hw ⟨by first | decide | (dsimp only; omega), by first | decide | (dsimp only; omega)⟩ d_PieceReader_readClass_131 (by decide) ⟨_, _, _, _, _, _, by rw [ef22, ef18, up_uu, ef10, up_uu, ef5, up_uu], (bI_f hno).symm, fun z => absurd z hno⟩
        · refine lv_aload_n hx hb d_PieceReader_readClass_119 rfl (lv_at hl 1 rfl) ?_
          have hse : ¬ slc t a e0 = e0 := fun z => c17 (congrArg nI z)
          refine m_calli hw (m_runV (As := []) (rest := []) hc hE hw (c_PieceReader_readName G l H.size f22 h24 hT25 (b := slc t a e0 + 1) (by omega) h3) h24 rfl cw_PieceReader_107 se_PieceReader_readName rfl hl.1 rfl (Nat.le_of_ble_eq_true rfl) d_PieceReader_readClass_120 ⟨rfl, rfl, by decide, by decide⟩ ⟨by first | decide | (dsimp only; omega), by first | decide | (dsimp only; omega)⟩) (fun r29 g28 H locs p27 hw => ?_)
          obtain ⟨hfe, hrv⟩ := p27
          refine lv_if_eq (tgt := 130) hx hb d_PieceReader_readClass_123 (by decide) (fun c30 => ?_) (fun c30 => ?_)
          · refine lv_iconst (v := 0) hx hb d_PieceReader_readClass_130 (by decide) ?_
            have hq : q0c t a e0 = slc t a e0 + 1 := by unfold q0c; rw [pif_f hse]
            have hm : m1c t a e0 = slc t a e0 := by unfold m1c; rw [pif_f hse]
            have hno : ¬ okC t a e0 := fun z => (bI_0.mp (hrv.symm.trans c30)) (by have := z.2; rw [hq] at this; exact this)
            exact m_zret hc hr hlk hw ⟨by first | decide | (dsimp only; omega), by first | decide | (dsimp only; omega)⟩ d_PieceReader_readClass_131 (by decide) ⟨_, _, _, _, _, _, by rw [hfe, ef22, up_uu, ef18, up_uu, ef10, up_uu, ef5, up_uu], (bI_f hno).symm, fun z => absurd z hno⟩
          · refine lv_iconst (v := 1) hx hb d_PieceReader_readClass_126 (by decide) ?_
            refine lv_goto (tgt := 131) hx hb d_PieceReader_readClass_127 (by decide) ?_
            have hq : q0c t a e0 = slc t a e0 + 1 := by unfold q0c; rw [pif_f hse]
            have hm : m1c t a e0 = slc t a e0 := by unfold m1c; rw [pif_f hse]
            have hok : okC t a e0 := ⟨fun _ => Nat.not_le.mp (fun z => c26 (nI_le z (by omega))), by rw [hq]; exact bI_n.mp (fun z => c30 (hrv.trans z))⟩
            exact m_zret hc hr hlk hw ⟨by first | decide | (dsimp only; omega), by first | decide | (dsimp only; omega)⟩ d_PieceReader_readClass_131 (by decide) ⟨_, _, _, _, _, _, by rw [hfe, ef22, up_uu, ef18, up_uu, ef10, up_uu, ef5, up_uu], (bI_t hok).symm, fun _ => by rw [hq, hm]; exact ⟨rfl, rfl, rfl, rfl, rfl, rfl⟩⟩
      · refine lv_aload_n hx hb d_PieceReader_readClass_75 rfl (lv_at hl 1 rfl) ?_
        refine lv_aload_n hx hb d_PieceReader_readClass_76 rfl (lv_at hl 1 rfl) ?_
        refine m_get hc hE hw h12 kc_PieceReader l_PieceReader_98_PieceReader rfl d_PieceReader_readClass_77 ?_
        refine m_put hc hE hw h12 kc_PieceReader l_PieceReader_101_PieceReader rfl ds_PieceReader_9 rfl rfl (Nat.le_of_ble_eq_true rfl) d_PieceReader_readClass_80 (fun H locs hw => ?_)
        obtain ⟨f31, ef31⟩ : ∃ z : Wd, z = va_up f10 ra (some (.inr (3, [.ref ta, .int (nI a), .int (nI e0), .int vpi, .int vli, .int vnu, .int (bI (t a = 33)), .int vsh, .int (nI (m0c t a)), .int (nI (m0c t a)), .int vnf, .int vne]))) := ⟨_, rfl⟩
        replace hw : ms G.1 (Af f sz) f31 s H locs := by rw [ef31]; exact hw
        have h32 : f31 ta = some (.inr (1, [.ref tr, .int (nI n)])) := by rw [ef31, va_up_ne _ _ (wne hT13.1 h12 (wd_oo (by decide)))]; exact hT13.1
        have h33 : f31 ra = some (.inr (3, [.ref ta, .int (nI a), .int (nI e0), .int vpi, .int vli, .int vnu, .int (bI (t a = 33)), .int vsh, .int (nI (m0c t a)), .int (nI (m0c t a)), .int vnf, .int vne])) := by rw [ef31, va_up_self]
        have hT34 : sg G f31 ta tr cap n t := by rw [ef31]; exact sg_up hT13 h12 wd_x
        refine lv_aload_n hx hb d_PieceReader_readClass_83 rfl (lv_at hl 1 rfl) ?_
        refine lv_aload_n hx hb d_PieceReader_readClass_84 rfl (lv_at hl 1 rfl) ?_
        refine m_get hc hE hw h33 kc_PieceReader l_PieceReader_98_PieceReader rfl d_PieceReader_readClass_85 ?_
        refine m_put hc hE hw h33 kc_PieceReader l_PieceReader_104_PieceReader rfl ds_PieceReader_10 rfl rfl (Nat.le_of_ble_eq_true rfl) d_PieceReader_readClass_88 (fun H locs hw => ?_)
        obtain ⟨f35, ef35⟩ : ∃ z : Wd, z = va_up f31 ra (some (.inr (3, [.ref ta, .int (nI a), .int (nI e0), .int vpi, .int vli, .int vnu, .int (bI (t a = 33)), .int vsh, .int (nI (m0c t a)), .int (nI (m0c t a)), .int (nI (m0c t a)), .int vne]))) := ⟨_, rfl⟩
        replace hw : ms G.1 (Af f sz) f35 s H locs := by rw [ef35]; exact hw
        have h36 : f35 ta = some (.inr (1, [.ref tr, .int (nI n)])) := by rw [ef35, va_up_ne _ _ (wne hT34.1 h33 (wd_oo (by decide)))]; exact hT34.1
        have h37 : f35 ra = some (.inr (3, [.ref ta, .int (nI a), .int (nI e0), .int vpi, .int vli, .int vnu, .int (bI (t a = 33)), .int vsh, .int (nI (m0c t a)), .int (nI (m0c t a)), .int (nI (m0c t a)), .int vne])) := by rw [ef35, va_up_self]
        have hT38 : sg G f35 ta tr cap n t := by rw [ef35]; exact sg_up hT34 h33 wd_x
        refine lv_aload_n hx hb d_PieceReader_readClass_91 rfl (lv_at hl 1 rfl) ?_
        refine m_calli hw (m_runV (As := []) (rest := []) hc hE hw (c_PieceReader_readName G l H.size f35 h37 hT38 (b := m0c t a) (by omega) h3) h37 rfl cw_PieceReader_107 se_PieceReader_readName rfl hl.1 rfl (Nat.le_of_ble_eq_true rfl) d_PieceReader_readClass_92 ⟨rfl, rfl, by decide, by decide⟩ ⟨by first | decide | (dsimp only; omega), by first | decide | (dsimp only; omega)⟩) (fun r41 g40 H locs p39 hw => ?_)
        obtain ⟨hfe, hrv⟩ := p39
        have hse : slc t a e0 = e0 := (nI_eq (by omega) (by omega)).mp c17
        have hq : q0c t a e0 = m0c t a := by unfold q0c; rw [pif_t hse]
        have hm : m1c t a e0 = m0c t a := by unfold m1c; rw [pif_t hse]
        exact m_zret hc hr hlk hw ⟨by decide, by decide⟩ d_PieceReader_readClass_95 (by rw [hrv]; exact bI_nar _) ⟨_, _, _, _, _, _, by rw [hfe, ef35, up_uu, ef31, up_uu, ef10, up_uu, ef5, up_uu], by rw [hrv]; exact bI_c ⟨fun z => ⟨fun y => absurd hse y, by rw [hq]; exact z⟩, fun z => by rw [← hq]; exact z.2⟩, fun _ => by rw [hq, hm]; exact ⟨rfl, rfl, rfl, rfl, rfl, rfl⟩⟩
    · refine lv_aload_n hx hb d_PieceReader_readClass_33 rfl (lv_at hl 0 rfl) ?_
      refine m_get hc hE hw h7 kc_PieceReader l_PieceReader_61_PieceReader rfl d_PieceReader_readClass_34 ?_
      refine lv_iconst (v := 1) hx hb d_PieceReader_readClass_37 (by decide) ?_
      refine lv_iadd hx hb d_PieceReader_readClass_38 ?_
      refine lv_goto (tgt := 46) hx hb d_PieceReader_readClass_39 (by decide) ?_
      exact absurd (bI_n.mp c9) c4
  · refine lv_iconst (v := 1) hx hb d_PieceReader_readClass_17 (by decide) ?_
    refine lv_goto (tgt := 22) hx hb d_PieceReader_readClass_18 (by decide) ?_
    refine m_top (y := bI (t a = 33)) (bI_t c4).symm ?_
    refine m_put hc hE hw hR kc_PieceReader l_PieceReader_94_PieceReader rfl ds_PieceReader_6 (bI_nar _) (bI_fit _) (Nat.le_of_ble_eq_true rfl) d_PieceReader_readClass_22 (fun H locs hw => ?_)
    obtain ⟨f42, ef42⟩ : ∃ z : Wd, z = va_up f ra (some (.inr (3, [.ref ta, .int (nI a), .int (nI e0), .int vpi, .int vli, .int vnu, .int (bI (t a = 33)), .int vsh, .int vmf, .int vme, .int vnf, .int vne]))) := ⟨_, rfl⟩
    replace hw : ms G.1 (Af f sz) f42 s H locs := by rw [ef42]; exact hw
    have h43 : f42 ta = some (.inr (1, [.ref tr, .int (nI n)])) := by rw [ef42, va_up_ne _ _ (wne hT.1 hR (wd_oo (by decide)))]; exact hT.1
    have h44 : f42 ra = some (.inr (3, [.ref ta, .int (nI a), .int (nI e0), .int vpi, .int vli, .int vnu, .int (bI (t a = 33)), .int vsh, .int vmf, .int vme, .int vnf, .int vne])) := by rw [ef42, va_up_self]
    have hT45 : sg G f42 ta tr cap n t := by rw [ef42]; exact sg_up hT hR wd_x
    refine lv_aload_n hx hb d_PieceReader_readClass_25 rfl (lv_at hl 0 rfl) ?_
    refine lv_aload_n hx hb d_PieceReader_readClass_26 rfl (lv_at hl 0 rfl) ?_
    refine m_get hc hE hw h44 kc_PieceReader l_PieceReader_94_PieceReader rfl d_PieceReader_readClass_27 ?_
    refine lv_if_eq (tgt := 42) hx hb d_PieceReader_readClass_30 (by decide) (fun c46 => ?_) (fun c46 => ?_)
    · refine lv_aload_n hx hb d_PieceReader_readClass_42 rfl (lv_at hl 0 rfl) ?_
      refine m_get hc hE hw h44 kc_PieceReader l_PieceReader_61_PieceReader rfl d_PieceReader_readClass_43 ?_
      exact absurd c4 (bI_0.mp c46)
    · refine lv_aload_n hx hb d_PieceReader_readClass_33 rfl (lv_at hl 0 rfl) ?_
      refine m_get hc hE hw h44 kc_PieceReader l_PieceReader_61_PieceReader rfl d_PieceReader_readClass_34 ?_
      refine lv_iconst (v := 1) hx hb d_PieceReader_readClass_37 (by decide) ?_
      refine lv_iadd hx hb d_PieceReader_readClass_38 ?_
      refine lv_goto (tgt := 46) hx hb d_PieceReader_readClass_39 (by decide) ?_
      refine m_top (y := nI (m0c t a)) (by unfold m0c; rw [pif_t c4]; exact nI_1 a) ?_
      refine m_put hc hE hw h44 kc_PieceReader l_PieceReader_98_PieceReader rfl ds_PieceReader_8 rfl rfl (Nat.le_of_ble_eq_true rfl) d_PieceReader_readClass_46 (fun H locs hw => ?_)
      obtain ⟨f47, ef47⟩ : ∃ z : Wd, z = va_up f42 ra (some (.inr (3, [.ref ta, .int (nI a), .int (nI e0), .int vpi, .int vli, .int vnu, .int (bI (t a = 33)), .int vsh, .int (nI (m0c t a)), .int vme, .int vnf, .int vne]))) := ⟨_, rfl⟩
      replace hw : ms G.1 (Af f sz) f47 s H locs := by rw [ef47]; exact hw
      have h48 : f47 ta = some (.inr (1, [.ref tr, .int (nI n)])) := by rw [ef47, va_up_ne _ _ (wne hT45.1 h44 (wd_oo (by decide)))]; exact hT45.1
      have h49 : f47 ra = some (.inr (3, [.ref ta, .int (nI a), .int (nI e0), .int vpi, .int vli, .int vnu, .int (bI (t a = 33)), .int vsh, .int (nI (m0c t a)), .int vme, .int vnf, .int vne])) := by rw [ef47, va_up_self]
      have hT50 : sg G f47 ta tr cap n t := by rw [ef47]; exact sg_up hT45 h44 wd_x
      refine lv_aload_n hx hb d_PieceReader_readClass_49 rfl (lv_at hl 0 rfl) ?_
      refine m_get hc hE hw h49 kc_PieceReader l_PieceReader_9_PieceReader rfl d_PieceReader_readClass_50 ?_
      refine lv_bipush (v := 47) hx hb d_PieceReader_readClass_53 (by decide) ?_
      refine lv_aload_n hx hb d_PieceReader_readClass_55 rfl (lv_at hl 0 rfl) ?_
      refine m_get hc hE hw h49 kc_PieceReader l_PieceReader_98_PieceReader rfl d_PieceReader_readClass_56 ?_
      refine lv_aload_n hx hb d_PieceReader_readClass_59 rfl (lv_at hl 0 rfl) ?_
      refine m_get hc hE hw h49 kc_PieceReader l_PieceReader_51_PieceReader rfl d_PieceReader_readClass_60 ?_
      refine m_calli hw (m_runV (As := [.int 47, .int (nI (m0c t a)), .int (nI e0)]) (rest := []) hc hE hw (c_Signs_find G l H.size f47 hT50 47 (i0 := m0c t a) (i1 := e0) (by omega) h3) hT50.1 rfl cw_PieceReader_64 se_Signs_find rfl hl.1 rfl (Nat.le_of_ble_eq_true rfl) d_PieceReader_readClass_63 ⟨rfl, rfl, by decide, by decide⟩ ⟨by first | decide | (dsimp only; omega), by first | decide | (dsimp only; omega)⟩) (fun r53 g52 H locs p51 hw => ?_)
      obtain ⟨rfl, p51⟩ := p51
      replace p51 : r53 = nI (slc t a e0) := p51
      subst p51
      refine lv_istore_n (lv' := [(1, .int (nI (slc t a e0))), (0, .ref ra)]) hx hb d_PieceReader_readClass_66 rfl hl (by decide) rfl (fun ls hl => ?_)
      refine lv_iload_n hx hb d_PieceReader_readClass_67 rfl (lv_at hl 0 rfl) ?_
      refine lv_aload_n hx hb d_PieceReader_readClass_68 rfl (lv_at hl 1 rfl) ?_
      refine m_get hc hE hw h49 kc_PieceReader l_PieceReader_51_PieceReader rfl d_PieceReader_readClass_69 ?_
      refine lv_icmp_ne (tgt := 96) hx hb d_PieceReader_readClass_72 (by decide) (fun c54 => ?_) (fun c54 => ?_)
      · refine lv_aload_n hx hb d_PieceReader_readClass_96 rfl (lv_at hl 1 rfl) ?_
        refine lv_iload_n hx hb d_PieceReader_readClass_97 rfl (lv_at hl 0 rfl) ?_
        refine m_put hc hE hw h49 kc_PieceReader l_PieceReader_101_PieceReader rfl ds_PieceReader_9 rfl rfl (Nat.le_of_ble_eq_true rfl) d_PieceReader_readClass_98 (fun H locs hw => ?_)
        obtain ⟨f55, ef55⟩ : ∃ z : Wd, z = va_up f47 ra (some (.inr (3, [.ref ta, .int (nI a), .int (nI e0), .int vpi, .int vli, .int vnu, .int (bI (t a = 33)), .int vsh, .int (nI (m0c t a)), .int (nI (slc t a e0)), .int vnf, .int vne]))) := ⟨_, rfl⟩
        replace hw : ms G.1 (Af f sz) f55 s H locs := by rw [ef55]; exact hw
        have h56 : f55 ta = some (.inr (1, [.ref tr, .int (nI n)])) := by rw [ef55, va_up_ne _ _ (wne hT50.1 h49 (wd_oo (by decide)))]; exact hT50.1
        have h57 : f55 ra = some (.inr (3, [.ref ta, .int (nI a), .int (nI e0), .int vpi, .int vli, .int vnu, .int (bI (t a = 33)), .int vsh, .int (nI (m0c t a)), .int (nI (slc t a e0)), .int vnf, .int vne])) := by rw [ef55, va_up_self]
        have hT58 : sg G f55 ta tr cap n t := by rw [ef55]; exact sg_up hT50 h49 wd_x
        refine lv_aload_n hx hb d_PieceReader_readClass_101 rfl (lv_at hl 1 rfl) ?_
        refine lv_iload_n hx hb d_PieceReader_readClass_102 rfl (lv_at hl 0 rfl) ?_
        refine lv_iconst (v := 1) hx hb d_PieceReader_readClass_103 (by decide) ?_
        refine lv_iadd hx hb d_PieceReader_readClass_104 ?_
        refine m_top (y := (nI (slc t a e0 + 1))) (nI_1 _) ?_
        refine m_put hc hE hw h57 kc_PieceReader l_PieceReader_104_PieceReader rfl ds_PieceReader_10 rfl rfl (Nat.le_of_ble_eq_true rfl) d_PieceReader_readClass_105 (fun H locs hw => ?_)
        obtain ⟨f59, ef59⟩ : ∃ z : Wd, z = va_up f55 ra (some (.inr (3, [.ref ta, .int (nI a), .int (nI e0), .int vpi, .int vli, .int vnu, .int (bI (t a = 33)), .int vsh, .int (nI (m0c t a)), .int (nI (slc t a e0)), .int (nI (slc t a e0 + 1)), .int vne]))) := ⟨_, rfl⟩
        replace hw : ms G.1 (Af f sz) f59 s H locs := by rw [ef59]; exact hw
        have h60 : f59 ta = some (.inr (1, [.ref tr, .int (nI n)])) := by rw [ef59, va_up_ne _ _ (wne hT58.1 h57 (wd_oo (by decide)))]; exact hT58.1
        have h61 : f59 ra = some (.inr (3, [.ref ta, .int (nI a), .int (nI e0), .int vpi, .int vli, .int vnu, .int (bI (t a = 33)), .int vsh, .int (nI (m0c t a)), .int (nI (slc t a e0)), .int (nI (slc t a e0 + 1)), .int vne])) := by rw [ef59, va_up_self]
        have hT62 : sg G f59 ta tr cap n t := by rw [ef59]; exact sg_up hT58 h57 wd_x
        refine lv_aload_n hx hb d_PieceReader_readClass_108 rfl (lv_at hl 1 rfl) ?_
        refine m_get hc hE hw h61 kc_PieceReader l_PieceReader_101_PieceReader rfl d_PieceReader_readClass_109 ?_
        refine lv_aload_n hx hb d_PieceReader_readClass_112 rfl (lv_at hl 1 rfl) ?_
        refine m_get hc hE hw h61 kc_PieceReader l_PieceReader_98_PieceReader rfl d_PieceReader_readClass_113 ?_
        refine lv_icmp_le (tgt := 130) hx hb d_PieceReader_readClass_116 (by decide) (fun c63 => ?_) (fun c63 => ?_)
        · refine lv_iconst (v := 0) hx hb d_PieceReader_readClass_130 (by decide) ?_
          have hse : ¬ slc t a e0 = e0 := fun z => c54 (congrArg nI z)
          have hno : ¬ okC t a e0 := fun z => absurd ((nI_leI (by omega) (by omega)).mp c63) (by have := z.1 hse; omega)
          exact m_zret hc hr hlk hw ⟨by first | decide | (dsimp only; omega), by first | decide | (dsimp only; omega)⟩ d_PieceReader_readClass_131 (by decide) ⟨_, _, _, _, _, _, by rw [ef59, ef55, up_uu, ef47, up_uu, ef42, up_uu], (bI_f hno).symm, fun z => absurd z hno⟩
        · refine lv_aload_n hx hb d_PieceReader_readClass_119 rfl (lv_at hl 1 rfl) ?_
          have hse : ¬ slc t a e0 = e0 := fun z => c54 (congrArg nI z)
          refine m_calli hw (m_runV (As := []) (rest := []) hc hE hw (c_PieceReader_readName G l H.size f59 h61 hT62 (b := slc t a e0 + 1) (by omega) h3) h61 rfl cw_PieceReader_107 se_PieceReader_readName rfl hl.1 rfl (Nat.le_of_ble_eq_true rfl) d_PieceReader_readClass_120 ⟨rfl, rfl, by decide, by decide⟩ ⟨by first | decide | (dsimp only; omega), by first | decide | (dsimp only; omega)⟩) (fun r66 g65 H locs p64 hw => ?_)
          obtain ⟨hfe, hrv⟩ := p64
          refine lv_if_eq (tgt := 130) hx hb d_PieceReader_readClass_123 (by decide) (fun c67 => ?_) (fun c67 => ?_)
          · refine lv_iconst (v := 0) hx hb d_PieceReader_readClass_130 (by decide) ?_
            have hq : q0c t a e0 = slc t a e0 + 1 := by unfold q0c; rw [pif_f hse]
            have hm : m1c t a e0 = slc t a e0 := by unfold m1c; rw [pif_f hse]
            have hno : ¬ okC t a e0 := fun z => (bI_0.mp (hrv.symm.trans c67)) (by have := z.2; rw [hq] at this; exact this)
            exact m_zret hc hr hlk hw ⟨by first | decide | (dsimp only; omega), by first | decide | (dsimp only; omega)⟩ d_PieceReader_readClass_131 (by decide) ⟨_, _, _, _, _, _, by rw [hfe, ef59, up_uu, ef55, up_uu, ef47, up_uu, ef42, up_uu], (bI_f hno).symm, fun z => absurd z hno⟩
          · refine lv_iconst (v := 1) hx hb d_PieceReader_readClass_126 (by decide) ?_
            refine lv_goto (tgt := 131) hx hb d_PieceReader_readClass_127 (by decide) ?_
            have hq : q0c t a e0 = slc t a e0 + 1 := by unfold q0c; rw [pif_f hse]
            have hm : m1c t a e0 = slc t a e0 := by unfold m1c; rw [pif_f hse]
            have hok : okC t a e0 := ⟨fun _ => Nat.not_le.mp (fun z => c63 (nI_le z (by omega))), by rw [hq]; exact bI_n.mp (fun z => c67 (hrv.trans z))⟩
            exact m_zret hc hr hlk hw ⟨by first | decide | (dsimp only; omega), by first | decide | (dsimp only; omega)⟩ d_PieceReader_readClass_131 (by decide) ⟨_, _, _, _, _, _, by rw [hfe, ef59, up_uu, ef55, up_uu, ef47, up_uu, ef42, up_uu], (bI_t hok).symm, fun _ => by rw [hq, hm]; exact ⟨rfl, rfl, rfl, rfl, rfl, rfl⟩⟩
      · refine lv_aload_n hx hb d_PieceReader_readClass_75 rfl (lv_at hl 1 rfl) ?_
        refine lv_aload_n hx hb d_PieceReader_readClass_76 rfl (lv_at hl 1 rfl) ?_
        refine m_get hc hE hw h49 kc_PieceReader l_PieceReader_98_PieceReader rfl d_PieceReader_readClass_77 ?_
        refine m_put hc hE hw h49 kc_PieceReader l_PieceReader_101_PieceReader rfl ds_PieceReader_9 rfl rfl (Nat.le_of_ble_eq_true rfl) d_PieceReader_readClass_80 (fun H locs hw => ?_)
        obtain ⟨f68, ef68⟩ : ∃ z : Wd, z = va_up f47 ra (some (.inr (3, [.ref ta, .int (nI a), .int (nI e0), .int vpi, .int vli, .int vnu, .int (bI (t a = 33)), .int vsh, .int (nI (m0c t a)), .int (nI (m0c t a)), .int vnf, .int vne]))) := ⟨_, rfl⟩
        replace hw : ms G.1 (Af f sz) f68 s H locs := by rw [ef68]; exact hw
        have h69 : f68 ta = some (.inr (1, [.ref tr, .int (nI n)])) := by rw [ef68, va_up_ne _ _ (wne hT50.1 h49 (wd_oo (by decide)))]; exact hT50.1
        have h70 : f68 ra = some (.inr (3, [.ref ta, .int (nI a), .int (nI e0), .int vpi, .int vli, .int vnu, .int (bI (t a = 33)), .int vsh, .int (nI (m0c t a)), .int (nI (m0c t a)), .int vnf, .int vne])) := by rw [ef68, va_up_self]
        have hT71 : sg G f68 ta tr cap n t := by rw [ef68]; exact sg_up hT50 h49 wd_x
        refine lv_aload_n hx hb d_PieceReader_readClass_83 rfl (lv_at hl 1 rfl) ?_
        refine lv_aload_n hx hb d_PieceReader_readClass_84 rfl (lv_at hl 1 rfl) ?_
        refine m_get hc hE hw h70 kc_PieceReader l_PieceReader_98_PieceReader rfl d_PieceReader_readClass_85 ?_
        refine m_put hc hE hw h70 kc_PieceReader l_PieceReader_104_PieceReader rfl ds_PieceReader_10 rfl rfl (Nat.le_of_ble_eq_true rfl) d_PieceReader_readClass_88 (fun H locs hw => ?_)
        obtain ⟨f72, ef72⟩ : ∃ z : Wd, z = va_up f68 ra (some (.inr (3, [.ref ta, .int (nI a), .int (nI e0), .int vpi, .int vli, .int vnu, .int (bI (t a = 33)), .int vsh, .int (nI (m0c t a)), .int (nI (m0c t a)), .int (nI (m0c t a)), .int vne]))) := ⟨_, rfl⟩
        replace hw : ms G.1 (Af f sz) f72 s H locs := by rw [ef72]; exact hw
        have h73 : f72 ta = some (.inr (1, [.ref tr, .int (nI n)])) := by rw [ef72, va_up_ne _ _ (wne hT71.1 h70 (wd_oo (by decide)))]; exact hT71.1
        have h74 : f72 ra = some (.inr (3, [.ref ta, .int (nI a), .int (nI e0), .int vpi, .int vli, .int vnu, .int (bI (t a = 33)), .int vsh, .int (nI (m0c t a)), .int (nI (m0c t a)), .int (nI (m0c t a)), .int vne])) := by rw [ef72, va_up_self]
        have hT75 : sg G f72 ta tr cap n t := by rw [ef72]; exact sg_up hT71 h70 wd_x
        refine lv_aload_n hx hb d_PieceReader_readClass_91 rfl (lv_at hl 1 rfl) ?_
        refine m_calli hw (m_runV (As := []) (rest := []) hc hE hw (c_PieceReader_readName G l H.size f72 h74 hT75 (b := m0c t a) (by omega) h3) h74 rfl cw_PieceReader_107 se_PieceReader_readName rfl hl.1 rfl (Nat.le_of_ble_eq_true rfl) d_PieceReader_readClass_92 ⟨rfl, rfl, by decide, by decide⟩ ⟨by first | decide | (dsimp only; omega), by first | decide | (dsimp only; omega)⟩) (fun r78 g77 H locs p76 hw => ?_)
        obtain ⟨hfe, hrv⟩ := p76
        have hse : slc t a e0 = e0 := (nI_eq (by omega) (by omega)).mp c54
        have hq : q0c t a e0 = m0c t a := by unfold q0c; rw [pif_t hse]
        have hm : m1c t a e0 = m0c t a := by unfold m1c; rw [pif_t hse]
        exact m_zret hc hr hlk hw ⟨by decide, by decide⟩ d_PieceReader_readClass_95 (by rw [hrv]; exact bI_nar _) ⟨_, _, _, _, _, _, by rw [hfe, ef72, up_uu, ef68, up_uu, ef47, up_uu, ef42, up_uu], by rw [hrv]; exact bI_c ⟨fun z => ⟨fun y => absurd hse y, by rw [hq]; exact z⟩, fun z => by rw [← hq]; exact z.2⟩, fun _ => by rw [hq, hm]; exact ⟨rfl, rfl, rfl, rfl, rfl, rfl⟩⟩
end
section
/-! links of the pools, as the walks ask for them -/
theorem l_PieceReader_22_PieceReader : lnk "StreamFilters$PieceReader" 22 F_PieceReader 12 3 := ⟨by decide, "StreamFilters$PieceReader", Or.inl rfl, Or.inl (tb 110 (by decide +kernel) rfl)⟩
theorem cw_PieceReader_54 : cwk "StreamFilters$PieceReader" 54 y_Signs_length b_Signs_length 1 (some .int) 0 := ⟨Or.inl (tb 214 (by decide +kernel) rfl), (tb 190 (by decide +kernel) rfl), (tb 2 (by decide +kernel) rfl), by decide, by decide, by decide +kernel⟩
theorem cw_PieceReader_68 : cwk "StreamFilters$PieceReader" 68 y_PieceReader_readLimit b_PieceReader_readLimit 2 (some .boolean) 1 := ⟨Or.inl (tb 228 (by decide +kernel) rfl), (tb 231 (by decide +kernel) rfl), (tb 4 (by decide +kernel) rfl), by decide, by decide, by decide +kernel⟩
theorem cw_PieceReader_72 : cwk "StreamFilters$PieceReader" 72 y_PieceReader_readClass b_PieceReader_readClass 2 (some .boolean) 0 := ⟨Or.inl (tb 296 (by decide +kernel) rfl), (tb 299 (by decide +kernel) rfl), (tb 4 (by decide +kernel) rfl), by decide, by decide, by decide +kernel⟩
theorem se_PieceReader_readClass : Cond.instanceMethod y_PieceReader_readClass ∈ TB ∧ Cond.selects "StreamFilters$PieceReader" y_PieceReader_readClass y_PieceReader_readClass ∈ TB := ⟨(tb 298 (by decide +kernel) rfl), (tbs 6 (by decide +kernel) rfl)⟩
theorem se_PieceReader_readLimit : Cond.instanceMethod y_PieceReader_readLimit ∈ TB ∧ Cond.selects "StreamFilters$PieceReader" y_PieceReader_readLimit y_PieceReader_readLimit ∈ TB := ⟨(tb 230 (by decide +kernel) rfl), (tbs 3 (by decide +kernel) rfl)⟩
/-! decode rows -/
theorem d_PieceReader_startOver_0 : decode b_PieceReader_startOver 0 = .ok (.aload_n 0, 1) := by decide +kernel
theorem d_PieceReader_startOver_1 : decode b_PieceReader_startOver 1 = .ok (.iconst (-1), 1) := by decide +kernel
theorem d_PieceReader_startOver_2 : decode b_PieceReader_startOver 2 = .ok (.putfield 51, 3) := by decide +kernel
theorem d_PieceReader_startOver_5 : decode b_PieceReader_startOver 5 = .ok (.iconst 1, 1) := by decide +kernel
theorem d_PieceReader_startOver_6 : decode b_PieceReader_startOver 6 = .ok (.istore_n 1, 1) := by decide +kernel
theorem d_PieceReader_startOver_7 : decode b_PieceReader_startOver 7 = .ok (.iconst 0, 1) := by decide +kernel
theorem d_PieceReader_startOver_8 : decode b_PieceReader_startOver 8 = .ok (.istore_n 2, 1) := by decide +kernel
theorem d_PieceReader_startOver_9 : decode b_PieceReader_startOver 9 = .ok (.iload_n 2, 1) := by decide +kernel
theorem d_PieceReader_startOver_10 : decode b_PieceReader_startOver 10 = .ok (.aload_n 0, 1) := by decide +kernel
theorem d_PieceReader_startOver_11 : decode b_PieceReader_startOver 11 = .ok (.getfield 9, 3) := by decide +kernel
theorem d_PieceReader_startOver_14 : decode b_PieceReader_startOver 14 = .ok (.invokevirtual 54, 3) := by decide +kernel
theorem d_PieceReader_startOver_17 : decode b_PieceReader_startOver 17 = .ok (.if_icmp .ge 25, 3) := by decide +kernel
theorem d_PieceReader_startOver_20 : decode b_PieceReader_startOver 20 = .ok (.aload_n 0, 1) := by decide +kernel
theorem d_PieceReader_startOver_21 : decode b_PieceReader_startOver 21 = .ok (.getfield 9, 3) := by decide +kernel
theorem d_PieceReader_startOver_24 : decode b_PieceReader_startOver 24 = .ok (.iload_n 2, 1) := by decide +kernel
theorem d_PieceReader_startOver_25 : decode b_PieceReader_startOver 25 = .ok (.invokevirtual 57, 3) := by decide +kernel
theorem d_PieceReader_startOver_28 : decode b_PieceReader_startOver 28 = .ok (.bipush 59, 2) := by decide +kernel
theorem d_PieceReader_startOver_30 : decode b_PieceReader_startOver 30 = .ok (.if_icmp .ne 6, 3) := by decide +kernel
theorem d_PieceReader_startOver_33 : decode b_PieceReader_startOver 33 = .ok (.iinc 1 1, 3) := by decide +kernel
theorem d_PieceReader_startOver_36 : decode b_PieceReader_startOver 36 = .ok (.iinc 2 1, 3) := by decide +kernel
theorem d_PieceReader_startOver_39 : decode b_PieceReader_startOver 39 = .ok (.goto (-30), 3) := by decide +kernel
theorem d_PieceReader_startOver_42 : decode b_PieceReader_startOver 42 = .ok (.iload_n 1, 1) := by decide +kernel
theorem d_PieceReader_startOver_43 : decode b_PieceReader_startOver 43 = .ok (.ireturn, 1) := by decide +kernel
theorem d_PieceReader_readNext_0 : decode b_PieceReader_readNext 0 = .ok (.aload_n 0, 1) := by decide +kernel
theorem d_PieceReader_readNext_1 : decode b_PieceReader_readNext 1 = .ok (.aload_n 0, 1) := by decide +kernel
theorem d_PieceReader_readNext_2 : decode b_PieceReader_readNext 2 = .ok (.getfield 51, 3) := by decide +kernel
theorem d_PieceReader_readNext_5 : decode b_PieceReader_readNext 5 = .ok (.iconst 1, 1) := by decide +kernel
theorem d_PieceReader_readNext_6 : decode b_PieceReader_readNext 6 = .ok (.iadd, 1) := by decide +kernel
theorem d_PieceReader_readNext_7 : decode b_PieceReader_readNext 7 = .ok (.putfield 61, 3) := by decide +kernel
theorem d_PieceReader_readNext_10 : decode b_PieceReader_readNext 10 = .ok (.aload_n 0, 1) := by decide +kernel
theorem d_PieceReader_readNext_11 : decode b_PieceReader_readNext 11 = .ok (.aload_n 0, 1) := by decide +kernel
theorem d_PieceReader_readNext_12 : decode b_PieceReader_readNext 12 = .ok (.getfield 9, 3) := by decide +kernel
theorem d_PieceReader_readNext_15 : decode b_PieceReader_readNext 15 = .ok (.bipush 59, 2) := by decide +kernel
theorem d_PieceReader_readNext_17 : decode b_PieceReader_readNext 17 = .ok (.aload_n 0, 1) := by decide +kernel
theorem d_PieceReader_readNext_18 : decode b_PieceReader_readNext 18 = .ok (.getfield 61, 3) := by decide +kernel
theorem d_PieceReader_readNext_21 : decode b_PieceReader_readNext 21 = .ok (.aload_n 0, 1) := by decide +kernel
theorem d_PieceReader_readNext_22 : decode b_PieceReader_readNext 22 = .ok (.getfield 9, 3) := by decide +kernel
theorem d_PieceReader_readNext_25 : decode b_PieceReader_readNext 25 = .ok (.invokevirtual 54, 3) := by decide +kernel
theorem d_PieceReader_readNext_28 : decode b_PieceReader_readNext 28 = .ok (.invokevirtual 64, 3) := by decide +kernel
theorem d_PieceReader_readNext_31 : decode b_PieceReader_readNext 31 = .ok (.putfield 51, 3) := by decide +kernel
theorem d_PieceReader_readNext_34 : decode b_PieceReader_readNext 34 = .ok (.aload_n 0, 1) := by decide +kernel
theorem d_PieceReader_readNext_35 : decode b_PieceReader_readNext 35 = .ok (.getfield 61, 3) := by decide +kernel
theorem d_PieceReader_readNext_38 : decode b_PieceReader_readNext 38 = .ok (.aload_n 0, 1) := by decide +kernel
theorem d_PieceReader_readNext_39 : decode b_PieceReader_readNext 39 = .ok (.getfield 51, 3) := by decide +kernel
theorem d_PieceReader_readNext_42 : decode b_PieceReader_readNext 42 = .ok (.if_icmp .ne 9, 3) := by decide +kernel
theorem d_PieceReader_readNext_45 : decode b_PieceReader_readNext 45 = .ok (.aload_n 0, 1) := by decide +kernel
theorem d_PieceReader_readNext_46 : decode b_PieceReader_readNext 46 = .ok (.iconst 0, 1) := by decide +kernel
theorem d_PieceReader_readNext_47 : decode b_PieceReader_readNext 47 = .ok (.putfield 22, 3) := by decide +kernel
theorem d_PieceReader_readNext_50 : decode b_PieceReader_readNext 50 = .ok (.return_, 1) := by decide +kernel
theorem d_PieceReader_readNext_51 : decode b_PieceReader_readNext 51 = .ok (.aload_n 0, 1) := by decide +kernel
theorem d_PieceReader_readNext_52 : decode b_PieceReader_readNext 52 = .ok (.getfield 9, 3) := by decide +kernel
theorem d_PieceReader_readNext_55 : decode b_PieceReader_readNext 55 = .ok (.bipush 61, 2) := by decide +kernel
theorem d_PieceReader_readNext_57 : decode b_PieceReader_readNext 57 = .ok (.aload_n 0, 1) := by decide +kernel
theorem d_PieceReader_readNext_58 : decode b_PieceReader_readNext 58 = .ok (.getfield 61, 3) := by decide +kernel
theorem d_PieceReader_readNext_61 : decode b_PieceReader_readNext 61 = .ok (.aload_n 0, 1) := by decide +kernel
theorem d_PieceReader_readNext_62 : decode b_PieceReader_readNext 62 = .ok (.getfield 51, 3) := by decide +kernel
theorem d_PieceReader_readNext_65 : decode b_PieceReader_readNext 65 = .ok (.invokevirtual 64, 3) := by decide +kernel
theorem d_PieceReader_readNext_68 : decode b_PieceReader_readNext 68 = .ok (.istore_n 1, 1) := by decide +kernel
theorem d_PieceReader_readNext_69 : decode b_PieceReader_readNext 69 = .ok (.iload_n 1, 1) := by decide +kernel
theorem d_PieceReader_readNext_70 : decode b_PieceReader_readNext 70 = .ok (.aload_n 0, 1) := by decide +kernel
theorem d_PieceReader_readNext_71 : decode b_PieceReader_readNext 71 = .ok (.getfield 51, 3) := by decide +kernel
theorem d_PieceReader_readNext_74 : decode b_PieceReader_readNext 74 = .ok (.if_icmp .ge 23, 3) := by decide +kernel
theorem d_PieceReader_readNext_77 : decode b_PieceReader_readNext 77 = .ok (.aload_n 0, 1) := by decide +kernel
theorem d_PieceReader_readNext_78 : decode b_PieceReader_readNext 78 = .ok (.aload_n 0, 1) := by decide +kernel
theorem d_PieceReader_readNext_79 : decode b_PieceReader_readNext 79 = .ok (.iload_n 1, 1) := by decide +kernel
theorem d_PieceReader_readNext_80 : decode b_PieceReader_readNext 80 = .ok (.invokevirtual 68, 3) := by decide +kernel
theorem d_PieceReader_readNext_83 : decode b_PieceReader_readNext 83 = .ok (.ifCond .eq 7, 3) := by decide +kernel
theorem d_PieceReader_readNext_86 : decode b_PieceReader_readNext 86 = .ok (.iconst 1, 1) := by decide +kernel
theorem d_PieceReader_readNext_87 : decode b_PieceReader_readNext 87 = .ok (.goto 4, 3) := by decide +kernel
theorem d_PieceReader_readNext_90 : decode b_PieceReader_readNext 90 = .ok (.iconst 3, 1) := by decide +kernel
theorem d_PieceReader_readNext_91 : decode b_PieceReader_readNext 91 = .ok (.putfield 22, 3) := by decide +kernel
theorem d_PieceReader_readNext_94 : decode b_PieceReader_readNext 94 = .ok (.goto 19, 3) := by decide +kernel
theorem d_PieceReader_readNext_97 : decode b_PieceReader_readNext 97 = .ok (.aload_n 0, 1) := by decide +kernel
theorem d_PieceReader_readNext_98 : decode b_PieceReader_readNext 98 = .ok (.aload_n 0, 1) := by decide +kernel
theorem d_PieceReader_readNext_99 : decode b_PieceReader_readNext 99 = .ok (.invokevirtual 72, 3) := by decide +kernel
theorem d_PieceReader_readNext_102 : decode b_PieceReader_readNext 102 = .ok (.ifCond .eq 7, 3) := by decide +kernel
theorem d_PieceReader_readNext_105 : decode b_PieceReader_readNext 105 = .ok (.iconst 2, 1) := by decide +kernel
theorem d_PieceReader_readNext_106 : decode b_PieceReader_readNext 106 = .ok (.goto 4, 3) := by decide +kernel
theorem d_PieceReader_readNext_109 : decode b_PieceReader_readNext 109 = .ok (.iconst 3, 1) := by decide +kernel
theorem d_PieceReader_readNext_110 : decode b_PieceReader_readNext 110 = .ok (.putfield 22, 3) := by decide +kernel
theorem d_PieceReader_readNext_113 : decode b_PieceReader_readNext 113 = .ok (.return_, 1) := by decide +kernel
set_option maxHeartbeats 4000000 in
set_option maxRecDepth 100000 in
/-- readNext() -/
theorem c_PieceReader_readNext (G : GG) (l : Launch) (sz : Nat) (f : Wd) {ra ta tr cap n : Nat} {t : Nat → Int32} {vfr ven vpi vli vnu vrj vsh vmf vme vnf vne : Int32} {a : Nat} (hR : f ra = some (.inr (3, [.ref ta, .int vfr, .int ven, .int vpi, .int vli, .int vnu, .int vrj, .int vsh, .int vmf, .int vme, .int vnf, .int vne]))) (hT : sg G f ta tr cap n t) (hv : ven + 1 = nI a) (h1 : a ≤ n) : Cv G l y_PieceReader_readNext b_PieceReader_readNext 2 none ({ frames := 7, cells := 0, slots := 0, locals := 153 }) sz f [.ref ra] (fun f' => ∃ li nu rj sh mf me nf ne : Int32, f' = va_up f ra (some (.inr (3, [.ref ta, .int (nI a), .int (nI (pnx t n a)), .int (nI (pkd t a (pnx t n a))), .int li, .int nu, .int rj, .int sh, .int mf, .int me, .int nf, .int ne]))) ∧ (pkd t a (pnx t n a) = 1 → li = lmV t a (eqc t a (pnx t n a)) ∧ nu = nmb t (eqc t a (pnx t n a) + 1) (pnx t n a - (eqc t a (pnx t n a) + 1))) ∧ (pkd t a (pnx t n a) = 2 → rj = bI (t a = 33) ∧ sh = nI (shp t (q0c t a (pnx t n a)) (pnx t n a)) ∧ mf = nI (m0c t a) ∧ me = nI (m1c t a (pnx t n a)) ∧ nf = nI (q0c t a (pnx t n a)) ∧ ne = nI (nmE t (q0c t a (pnx t n a)) (pnx t n a)))) := by
  refine ct_of (by decide) (Nat.le_of_ble_eq_true rfl) ?_
  intro p e s m below meth c ls H locs hEn
  obtain ⟨hc, hr, hlk, hin, hE, hw, hsz, hl⟩ := hEn
  have hx := hc.1
  have hb := hc.2.1
  have hl : lv_has ls 2 [(0, .ref ra)] := hl
  have hn9 : n ≤ 90 := by have := hT.2.2.1; have := hT.2.2.2.1; omega
  have hpn := pnx_in (t := t) h1
  refine lv_aload_n hx hb d_PieceReader_readNext_0 rfl (lv_at hl 0 rfl) ?_
  refine lv_aload_n hx hb d_PieceReader_readNext_1 rfl (lv_at hl 0 rfl) ?_
  refine m_get hc hE hw hR kc_PieceReader l_PieceReader_51_PieceReader rfl d_PieceReader_readNext_2 ?_
  refine lv_iconst (v := 1) hx hb d_PieceReader_readNext_5 (by decide) ?_
  refine lv_iadd hx hb d_PieceReader_readNext_6 ?_
  refine m_top (y := (nI a)) hv ?_
  refine m_put hc hE hw hR kc_PieceReader l_PieceReader_61_PieceReader rfl ds_PieceReader_1 rfl rfl (Nat.le_of_ble_eq_true rfl) d_PieceReader_readNext_7 (fun H locs hw => ?_)
  obtain ⟨f1, ef1⟩ : ∃ z : Wd, z = va_up f ra (some (.inr (3, [.ref ta, .int (nI a), .int ven, .int vpi, .int vli, .int vnu, .int vrj, .int vsh, .int vmf, .int vme, .int vnf, .int vne]))) := ⟨_, rfl⟩
  replace hw : ms G.1 (Af f sz) f1 s H locs := by rw [ef1]; exact hw
  have h2 : f1 ta = some (.inr (1, [.ref tr, .int (nI n)])) := by rw [ef1, va_up_ne _ _ (wne hT.1 hR (wd_oo (by decide)))]; exact hT.1
  have h3 : f1 ra = some (.inr (3, [.ref ta, .int (nI a), .int ven, .int vpi, .int vli, .int vnu, .int vrj, .int vsh, .int vmf, .int vme, .int vnf, .int vne])) := by rw [ef1, va_up_self]
  have hT4 : sg G f1 ta tr cap n t := by rw [ef1]; exact sg_up hT hR wd_x
  refine lv_aload_n hx hb d_PieceReader_readNext_10 rfl (lv_at hl 0 rfl) ?_
  refine lv_aload_n hx hb d_PieceReader_readNext_11 rfl (lv_at hl 0 rfl) ?_
  refine m_get hc hE hw h3 kc_PieceReader l_PieceReader_9_PieceReader rfl d_PieceReader_readNext_12 ?_
  refine lv_bipush (v := 59) hx hb d_PieceReader_readNext_15 (by decide) ?_
  refine lv_aload_n hx hb d_PieceReader_readNext_17 rfl (lv_at hl 0 rfl) ?_
  refine m_get hc hE hw h3 kc_PieceReader l_PieceReader_61_PieceReader rfl d_PieceReader_readNext_18 ?_
  refine lv_aload_n hx hb d_PieceReader_readNext_21 rfl (lv_at hl 0 rfl) ?_
  refine m_get hc hE hw h3 kc_PieceReader l_PieceReader_9_PieceReader rfl d_PieceReader_readNext_22 ?_
  refine m_calli hw (m_runV (As := []) (rest := [.int (nI a), .int 59, .ref ta, .ref ra]) hc hE hw (c_Signs_length G l H.size f1 hT4) hT4.1 rfl cw_PieceReader_54 se_Signs_length rfl hl.1 rfl (Nat.le_of_ble_eq_true rfl) d_PieceReader_readNext_25 ⟨rfl, rfl, by decide, by decide⟩ ⟨by first | decide | (dsimp only; omega), by first | decide | (dsimp only; omega)⟩) (fun r7 g6 H locs p5 hw => ?_)
  obtain ⟨rfl, p5⟩ := p5
  subst p5
  refine m_calli hw (m_runV (As := [.int 59, .int (nI a), .int (nI n)]) (rest := [.ref ra]) hc hE hw (c_Signs_find G l H.size f1 hT4 59 (i0 := a) (i1 := n) h1 (Nat.le_refl _)) hT4.1 rfl cw_PieceReader_64 se_Signs_find rfl hl.1 rfl (Nat.le_of_ble_eq_true rfl) d_PieceReader_readNext_28 ⟨rfl, rfl, by decide, by decide⟩ ⟨by first | decide | (dsimp only; omega), by first | decide | (dsimp only; omega)⟩) (fun r10 g9 H locs p8 hw => ?_)
  obtain ⟨rfl, p8⟩ := p8
  replace p8 : r10 = nI (pnx t n a) := p8
  subst p8
  refine m_put hc hE hw h3 kc_PieceReader l_PieceReader_51_PieceReader rfl ds_PieceReader_2 rfl rfl (Nat.le_of_ble_eq_true rfl) d_PieceReader_readNext_31 (fun H locs hw => ?_)
  obtain ⟨f11, ef11⟩ : ∃ z : Wd, z = va_up f1 ra (some (.inr (3, [.ref ta, .int (nI a), .int (nI (pnx t n a)), .int vpi, .int vli, .int vnu, .int vrj, .int vsh, .int vmf, .int vme, .int vnf, .int vne]))) := ⟨_, rfl⟩
  replace hw : ms G.1 (Af f sz) f11 s H locs := by rw [ef11]; exact hw
  have h12 : f11 ta = some (.inr (1, [.ref tr, .int (nI n)])) := by rw [ef11, va_up_ne _ _ (wne hT4.1 h3 (wd_oo (by decide)))]; exact hT4.1
  have h13 : f11 ra = some (.inr (3, [.ref ta, .int (nI a), .int (nI (pnx t n a)), .int vpi, .int vli, .int vnu, .int vrj, .int vsh, .int vmf, .int vme, .int vnf, .int vne])) := by rw [ef11, va_up_self]
  have hT14 : sg G f11 ta tr cap n t := by rw [ef11]; exact sg_up hT4 h3 wd_x
  refine lv_aload_n hx hb d_PieceReader_readNext_34 rfl (lv_at hl 0 rfl) ?_
  refine m_get hc hE hw h13 kc_PieceReader l_PieceReader_61_PieceReader rfl d_PieceReader_readNext_35 ?_
  refine lv_aload_n hx hb d_PieceReader_readNext_38 rfl (lv_at hl 0 rfl) ?_
  refine m_get hc hE hw h13 kc_PieceReader l_PieceReader_51_PieceReader rfl d_PieceReader_readNext_39 ?_
  refine lv_icmp_ne (tgt := 51) hx hb d_PieceReader_readNext_42 (by decide) (fun c15 => ?_) (fun c15 => ?_)
  · refine lv_aload_n hx hb d_PieceReader_readNext_51 rfl (lv_at hl 0 rfl) ?_
    refine m_get hc hE hw h13 kc_PieceReader l_PieceReader_9_PieceReader rfl d_PieceReader_readNext_52 ?_
    refine lv_bipush (v := 61) hx hb d_PieceReader_readNext_55 (by decide) ?_
    refine lv_aload_n hx hb d_PieceReader_readNext_57 rfl (lv_at hl 0 rfl) ?_
    refine m_get hc hE hw h13 kc_PieceReader l_PieceReader_61_PieceReader rfl d_PieceReader_readNext_58 ?_
    refine lv_aload_n hx hb d_PieceReader_readNext_61 rfl (lv_at hl 0 rfl) ?_
    refine m_get hc hE hw h13 kc_PieceReader l_PieceReader_51_PieceReader rfl d_PieceReader_readNext_62 ?_
    refine m_calli hw (m_runV (As := [.int 61, .int (nI a), .int (nI (pnx t n a))]) (rest := []) hc hE hw (c_Signs_find G l H.size f11 hT14 61 (i0 := a) (i1 := pnx t n a) hpn.1 hpn.2) hT14.1 rfl cw_PieceReader_64 se_Signs_find rfl hl.1 rfl (Nat.le_of_ble_eq_true rfl) d_PieceReader_readNext_65 ⟨rfl, rfl, by decide, by decide⟩ ⟨by first | decide | (dsimp only; omega), by first | decide | (dsimp only; omega)⟩) (fun r18 g17 H locs p16 hw => ?_)
    obtain ⟨rfl, p16⟩ := p16
    replace p16 : r18 = nI (eqc t a (pnx t n a)) := p16
    subst p16
    have hae : ¬ a = pnx t n a := fun z => c15 (congrArg nI z)
    have hqi : a ≤ eqc t a (pnx t n a) ∧ eqc t a (pnx t n a) ≤ pnx t n a := by have := fnd_in t 61 (pnx t n a - a) a; unfold eqc; omega
    refine lv_istore_n (lv' := [(1, .int (nI (eqc t a (pnx t n a)))), (0, .ref ra)]) hx hb d_PieceReader_readNext_68 rfl hl (by decide) rfl (fun ls hl => ?_)
    refine lv_iload_n hx hb d_PieceReader_readNext_69 rfl (lv_at hl 0 rfl) ?_
    refine lv_aload_n hx hb d_PieceReader_readNext_70 rfl (lv_at hl 1 rfl) ?_
    refine m_get hc hE hw h13 kc_PieceReader l_PieceReader_51_PieceReader rfl d_PieceReader_readNext_71 ?_
    refine lv_icmp_ge (tgt := 97) hx hb d_PieceReader_readNext_74 (by decide) (fun c19 => ?_) (fun c19 => ?_)
    · refine lv_aload_n hx hb d_PieceReader_readNext_97 rfl (lv_at hl 1 rfl) ?_
      refine lv_aload_n hx hb d_PieceReader_readNext_98 rfl (lv_at hl 1 rfl) ?_
      have hql : ¬ eqc t a (pnx t n a) < pnx t n a := fun z => absurd ((nI_leI (by omega) (by omega)).mp c19) (by omega)
      refine m_calli hw (m_runV (As := []) (rest := [.ref ra]) hc hE hw (c_PieceReader_readClass G l H.size f11 h13 hT14 (a := a) (e0 := pnx t n a) (by omega) hpn.2) h13 rfl cw_PieceReader_72 se_PieceReader_readClass rfl hl.1 rfl (Nat.le_of_ble_eq_true rfl) d_PieceReader_readNext_99 ⟨rfl, rfl, by decide, by decide⟩ ⟨by first | decide | (dsimp only; omega), by first | decide | (dsimp only; omega)⟩) (fun r22 g21 H locs p20 hw => ?_)
      obtain ⟨rj, sh, mf, me, nf, ne, hfe, hrv, hcl⟩ := p20
      have g21_r : g21 ra = some (.inr (3, [.ref ta, .int (nI a), .int (nI (pnx t n a)), .int vpi, .int vli, .int vnu, .int rj, .int sh, .int mf, .int me, .int nf, .int ne])) := by rw [hfe, va_up_self]
      have hT23 : sg G g21 ta tr cap n t := by rw [hfe]; exact sg_up hT14 h13 wd_x
      refine lv_if_eq (tgt := 109) hx hb d_PieceReader_readNext_102 (by decide) (fun c24 => ?_) (fun c24 => ?_)
      · refine lv_iconst (v := 3) hx hb d_PieceReader_readNext_109 (by decide) ?_
        refine m_put hc hE hw g21_r kc_PieceReader l_PieceReader_22_PieceReader rfl ds_PieceReader_3 rfl rfl (Nat.le_of_ble_eq_true rfl) d_PieceReader_readNext_110 (fun H locs hw => ?_)
        obtain ⟨f25, ef25⟩ : ∃ z : Wd, z = va_up g21 ra (some (.inr (3, [.ref ta, .int (nI a), .int (nI (pnx t n a)), .int 3, .int vli, .int vnu, .int rj, .int sh, .int mf, .int me, .int nf, .int ne]))) := ⟨_, rfl⟩
        replace hw : ms G.1 (Af f sz) f25 s H locs := by rw [ef25]; exact hw
        have h26 : f25 ta = some (.inr (1, [.ref tr, .int (nI n)])) := by rw [ef25, va_up_ne _ _ (wne hT23.1 g21_r (wd_oo (by decide)))]; exact hT23.1
        have h27 : f25 ra = some (.inr (3, [.ref ta, .int (nI a), .int (nI (pnx t n a)), .int 3, .int vli, .int vnu, .int rj, .int sh, .int mf, .int me, .int nf, .int ne])) := by rw [ef25, va_up_self]
        have hT28 : sg G f25 ta tr cap n t := by rw [ef25]; exact sg_up hT23 g21_r wd_x
        have hpk : pkd t a (pnx t n a) = 3 := by unfold pkd; rw [pif_f hae, pif_f hql, pif_f (bI_0.mp (hrv.symm.trans c24))]
        exact m_vret hc hr hlk hw ⟨by first | decide | (dsimp only; omega), by first | decide | (dsimp only; omega)⟩ d_PieceReader_readNext_113 ⟨_, _, _, _, _, _, _, _, by rw [ef25, hfe, up_uu, ef11, up_uu, ef1, up_uu, hpk]; rfl, fun z => absurd (hpk.symm.trans z) (by decide), fun z => absurd (hpk.symm.trans z) (by decide)⟩
      · refine lv_iconst (v := 2) hx hb d_PieceReader_readNext_105 (by decide) ?_
        refine lv_goto (tgt := 110) hx hb d_PieceReader_readNext_106 (by decide) ?_
        refine m_put hc hE hw g21_r kc_PieceReader l_PieceReader_22_PieceReader rfl ds_PieceReader_3 rfl rfl (Nat.le_of_ble_eq_true rfl) d_PieceReader_readNext_110 (fun H locs hw => ?_)
        obtain ⟨f29, ef29⟩ : ∃ z : Wd, z = va_up g21 ra (some (.inr (3, [.ref ta, .int (nI a), .int (nI (pnx t n a)), .int 2, .int vli, .int vnu, .int rj, .int sh, .int mf, .int me, .int nf, .int ne]))) := ⟨_, rfl⟩
        replace hw : ms G.1 (Af f sz) f29 s H locs := by rw [ef29]; exact hw
        have h30 : f29 ta = some (.inr (1, [.ref tr, .int (nI n)])) := by rw [ef29, va_up_ne _ _ (wne hT23.1 g21_r (wd_oo (by decide)))]; exact hT23.1
        have h31 : f29 ra = some (.inr (3, [.ref ta, .int (nI a), .int (nI (pnx t n a)), .int 2, .int vli, .int vnu, .int rj, .int sh, .int mf, .int me, .int nf, .int ne])) := by rw [ef29, va_up_self]
        have hT32 : sg G f29 ta tr cap n t := by rw [ef29]; exact sg_up hT23 g21_r wd_x
        have hok := bI_n.mp (fun z => c24 (hrv.trans z))
        have hpk : pkd t a (pnx t n a) = 2 := by unfold pkd; rw [pif_f hae, pif_f hql, pif_t hok]
        exact m_vret hc hr hlk hw ⟨by first | decide | (dsimp only; omega), by first | decide | (dsimp only; omega)⟩ d_PieceReader_readNext_113 ⟨_, _, _, _, _, _, _, _, by rw [ef29, hfe, up_uu, ef11, up_uu, ef1, up_uu, hpk]; rfl, fun z => absurd (hpk.symm.trans z) (by decide), fun _ => hcl hok⟩
    · refine lv_aload_n hx hb d_PieceReader_readNext_77 rfl (lv_at hl 1 rfl) ?_
      refine lv_aload_n hx hb d_PieceReader_readNext_78 rfl (lv_at hl 1 rfl) ?_
      refine lv_iload_n hx hb d_PieceReader_readNext_79 rfl (lv_at hl 0 rfl) ?_
      have hql : eqc t a (pnx t n a) < pnx t n a := Nat.not_le.mp (fun z => c19 (nI_le z (by omega)))
      refine m_calli hw (m_runV (As := [.int (nI (eqc t a (pnx t n a)))]) (rest := [.ref ra]) hc hE hw (c_PieceReader_readLimit G l H.size f11 h13 hT14 (a := a) (q := eqc t a (pnx t n a)) (e0 := pnx t n a) hqi.1 hql hpn.2) h13 rfl cw_PieceReader_68 se_PieceReader_readLimit rfl hl.1 rfl (Nat.le_of_ble_eq_true rfl) d_PieceReader_readNext_80 ⟨rfl, rfl, by decide, by decide⟩ ⟨by first | decide | (dsimp only; omega), by first | decide | (dsimp only; omega)⟩) (fun r35 g34 H locs p33 hw => ?_)
      obtain ⟨li, nu, hfe, hrv, hli⟩ := p33
      have g34_r : g34 ra = some (.inr (3, [.ref ta, .int (nI a), .int (nI (pnx t n a)), .int vpi, .int li, .int nu, .int vrj, .int vsh, .int vmf, .int vme, .int vnf, .int vne])) := by rw [hfe, va_up_self]
      have hT36 : sg G g34 ta tr cap n t := by rw [hfe]; exact sg_up hT14 h13 wd_x
      refine lv_if_eq (tgt := 90) hx hb d_PieceReader_readNext_83 (by decide) (fun c37 => ?_) (fun c37 => ?_)
      · refine lv_iconst (v := 3) hx hb d_PieceReader_readNext_90 (by decide) ?_
        refine m_put hc hE hw g34_r kc_PieceReader l_PieceReader_22_PieceReader rfl ds_PieceReader_3 rfl rfl (Nat.le_of_ble_eq_true rfl) d_PieceReader_readNext_91 (fun H locs hw => ?_)
        obtain ⟨f38, ef38⟩ : ∃ z : Wd, z = va_up g34 ra (some (.inr (3, [.ref ta, .int (nI a), .int (nI (pnx t n a)), .int 3, .int li, .int nu, .int vrj, .int vsh, .int vmf, .int vme, .int vnf, .int vne]))) := ⟨_, rfl⟩
        replace hw : ms G.1 (Af f sz) f38 s H locs := by rw [ef38]; exact hw
        have h39 : f38 ta = some (.inr (1, [.ref tr, .int (nI n)])) := by rw [ef38, va_up_ne _ _ (wne hT36.1 g34_r (wd_oo (by decide)))]; exact hT36.1
        have h40 : f38 ra = some (.inr (3, [.ref ta, .int (nI a), .int (nI (pnx t n a)), .int 3, .int li, .int nu, .int vrj, .int vsh, .int vmf, .int vme, .int vnf, .int vne])) := by rw [ef38, va_up_self]
        have hT41 : sg G f38 ta tr cap n t := by rw [ef38]; exact sg_up hT36 g34_r wd_x
        refine lv_goto (tgt := 113) hx hb d_PieceReader_readNext_94 (by decide) ?_
        have hpk : pkd t a (pnx t n a) = 3 := by unfold pkd; rw [pif_f hae, pif_t hql, pif_f (bI_0.mp (hrv.symm.trans c37))]
        exact m_vret hc hr hlk hw ⟨by first | decide | (dsimp only; omega), by first | decide | (dsimp only; omega)⟩ d_PieceReader_readNext_113 ⟨_, _, _, _, _, _, _, _, by rw [ef38, hfe, up_uu, ef11, up_uu, ef1, up_uu, hpk]; rfl, fun z => absurd (hpk.symm.trans z) (by decide), fun z => absurd (hpk.symm.trans z) (by decide)⟩
      · refine lv_iconst (v := 1) hx hb d_PieceReader_readNext_86 (by decide) ?_
        refine lv_goto (tgt := 91) hx hb d_PieceReader_readNext_87 (by decide) ?_
        refine m_put hc hE hw g34_r kc_PieceReader l_PieceReader_22_PieceReader rfl ds_PieceReader_3 rfl rfl (Nat.le_of_ble_eq_true rfl) d_PieceReader_readNext_91 (fun H locs hw => ?_)
        obtain ⟨f42, ef42⟩ : ∃ z : Wd, z = va_up g34 ra (some (.inr (3, [.ref ta, .int (nI a), .int (nI (pnx t n a)), .int 1, .int li, .int nu, .int vrj, .int vsh, .int vmf, .int vme, .int vnf, .int vne]))) := ⟨_, rfl⟩
        replace hw : ms G.1 (Af f sz) f42 s H locs := by rw [ef42]; exact hw
        have h43 : f42 ta = some (.inr (1, [.ref tr, .int (nI n)])) := by rw [ef42, va_up_ne _ _ (wne hT36.1 g34_r (wd_oo (by decide)))]; exact hT36.1
        have h44 : f42 ra = some (.inr (3, [.ref ta, .int (nI a), .int (nI (pnx t n a)), .int 1, .int li, .int nu, .int vrj, .int vsh, .int vmf, .int vme, .int vnf, .int vne])) := by rw [ef42, va_up_self]
        have hT45 : sg G f42 ta tr cap n t := by rw [ef42]; exact sg_up hT36 g34_r wd_x
        refine lv_goto (tgt := 113) hx hb d_PieceReader_readNext_94 (by decide) ?_
        have hok := bI_n.mp (fun z => c37 (hrv.trans z))
        have hpk : pkd t a (pnx t n a) = 1 := by unfold pkd; rw [pif_f hae, pif_t hql, pif_t hok]
        exact m_vret hc hr hlk hw ⟨by first | decide | (dsimp only; omega), by first | decide | (dsimp only; omega)⟩ d_PieceReader_readNext_113 ⟨_, _, _, _, _, _, _, _, by rw [ef42, hfe, up_uu, ef11, up_uu, ef1, up_uu, hpk]; rfl, fun _ => hli hok, fun z => absurd (hpk.symm.trans z) (by decide)⟩
  · refine lv_aload_n hx hb d_PieceReader_readNext_45 rfl (lv_at hl 0 rfl) ?_
    refine lv_iconst (v := 0) hx hb d_PieceReader_readNext_46 (by decide) ?_
    refine m_put hc hE hw h13 kc_PieceReader l_PieceReader_22_PieceReader rfl ds_PieceReader_3 rfl rfl (Nat.le_of_ble_eq_true rfl) d_PieceReader_readNext_47 (fun H locs hw => ?_)
    obtain ⟨f46, ef46⟩ : ∃ z : Wd, z = va_up f11 ra (some (.inr (3, [.ref ta, .int (nI a), .int (nI (pnx t n a)), .int 0, .int vli, .int vnu, .int vrj, .int vsh, .int vmf, .int vme, .int vnf, .int vne]))) := ⟨_, rfl⟩
    replace hw : ms G.1 (Af f sz) f46 s H locs := by rw [ef46]; exact hw
    have h47 : f46 ta = some (.inr (1, [.ref tr, .int (nI n)])) := by rw [ef46, va_up_ne _ _ (wne hT14.1 h13 (wd_oo (by decide)))]; exact hT14.1
    have h48 : f46 ra = some (.inr (3, [.ref ta, .int (nI a), .int (nI (pnx t n a)), .int 0, .int vli, .int vnu, .int vrj, .int vsh, .int vmf, .int vme, .int vnf, .int vne])) := by rw [ef46, va_up_self]
    have hT49 : sg G f46 ta tr cap n t := by rw [ef46]; exact sg_up hT14 h13 wd_x
    have hpk : pkd t a (pnx t n a) = 0 := by unfold pkd; rw [pif_t ((nI_eq (by omega) (by omega)).mp c15)]
    exact m_vret hc hr hlk hw ⟨by first | decide | (dsimp only; omega), by first | decide | (dsimp only; omega)⟩ d_PieceReader_readNext_50 ⟨_, _, _, _, _, _, _, _, by rw [ef46, ef11, up_uu, ef1, up_uu, hpk]; rfl, fun z => absurd (hpk.symm.trans z) (by decide), fun z => absurd (hpk.symm.trans z) (by decide)⟩

set_option maxHeartbeats 4000000 in
set_option maxRecDepth 100000 in
/-- startOver() -/
theorem c_PieceReader_startOver (G : GG) (l : Launch) (sz : Nat) (f : Wd) {ra ta tr cap n : Nat} {t : Nat → Int32} {vfr ven vpi vli vnu vrj vsh vmf vme vnf vne : Int32} (hR : f ra = some (.inr (3, [.ref ta, .int vfr, .int ven, .int vpi, .int vli, .int vnu, .int vrj, .int vsh, .int vmf, .int vme, .int vnf, .int vne]))) (hT : sg G f ta tr cap n t) : Ci G l y_PieceReader_startOver b_PieceReader_startOver 3 (some .int) ({ frames := 1, cells := 0, slots := 0, locals := 21 }) sz f [.ref ra] (fun v f' => f' = va_up f ra (some (.inr (3, [.ref ta, .int vfr, .int (-1), .int vpi, .int vli, .int vnu, .int vrj, .int vsh, .int vmf, .int vme, .int vnf, .int vne]))) ∧ v = nI (npc t n)) := by
  refine ct_of (by decide) (Nat.le_of_ble_eq_true rfl) ?_
  intro p e s m below meth c ls H locs hEn
  obtain ⟨hc, hr, hlk, hin, hE, hw, hsz, hl⟩ := hEn
  have hx := hc.1
  have hb := hc.2.1
  have hl : lv_has ls 3 [(0, .ref ra)] := hl
  have hn9 : n ≤ 90 := by have := hT.2.2.1; have := hT.2.2.2.1; omega
  refine lv_aload_n hx hb d_PieceReader_startOver_0 rfl (lv_at hl 0 rfl) ?_
  refine lv_iconst (v := (-1)) hx hb d_PieceReader_startOver_1 (by decide) ?_
  refine m_put hc hE hw hR kc_PieceReader l_PieceReader_51_PieceReader rfl ds_PieceReader_2 rfl rfl (Nat.le_of_ble_eq_true rfl) d_PieceReader_startOver_2 (fun H locs hw => ?_)
  obtain ⟨f1, ef1⟩ : ∃ z : Wd, z = va_up f ra (some (.inr (3, [.ref ta, .int vfr, .int (-1), .int vpi, .int vli, .int vnu, .int vrj, .int vsh, .int vmf, .int vme, .int vnf, .int vne]))) := ⟨_, rfl⟩
  replace hw : ms G.1 (Af f sz) f1 s H locs := by rw [ef1]; exact hw
  have h2 : f1 ta = some (.inr (1, [.ref tr, .int (nI n)])) := by rw [ef1, va_up_ne _ _ (wne hT.1 hR (wd_oo (by decide)))]; exact hT.1
  have h3 : f1 ra = some (.inr (3, [.ref ta, .int vfr, .int (-1), .int vpi, .int vli, .int vnu, .int vrj, .int vsh, .int vmf, .int vme, .int vnf, .int vne])) := by rw [ef1, va_up_self]
  have hT4 : sg G f1 ta tr cap n t := by rw [ef1]; exact sg_up hT hR wd_x
  refine lv_iconst (v := 1) hx hb d_PieceReader_startOver_5 (by decide) ?_
  refine lv_istore_n (lv' := [(1, .int 1), (0, .ref ra)]) hx hb d_PieceReader_startOver_6 rfl hl (by decide) rfl (fun ls hl => ?_)
  refine lv_iconst (v := 0) hx hb d_PieceReader_startOver_7 (by decide) ?_
  refine lv_istore_n (lv' := [(2, .int 0), (1, .int 1), (0, .ref ra)]) hx hb d_PieceReader_startOver_8 rfl hl (by decide) rfl (fun ls hl => ?_)
  have hcn := npc_le (t := t)
  have loop : ∀ (fu : Nat) (i : Nat) (ls : Array Slot) (H : Heap) (locs : List Loc), n - i < fu → i ≤ n → ms G.1 (Af f sz) f1 s H locs → lv_has ls 3 [(2, .int (nI i)), (1, .int (nI (npc t i))), (0, .ref ra)] → W p l e ({ frames := 1, cells := 0, slots := 0, locals := 21 }) s m ([.ref ra] : List Value).toArray below meth c H locs 0 0 (MQ below (va_Qi (fun v f' => f' = va_up f ra (some (.inr (3, [.ref ta, .int vfr, .int (-1), .int vpi, .int vli, .int vnu, .int vrj, .int vsh, .int vmf, .int vme, .int vnf, .int vne]))) ∧ v = nI (npc t n)) (Bw G f sz) (Af f sz)) ([.ref ra] : List Value).toArray s 0 0 (Af f sz)) (F0 m 9 ls []) := by
    intro fu
    induction fu with
    | zero => intro i ls H locs h0; exact absurd h0 (Nat.not_lt_zero _)
    | succ fu ih =>
      intro i ls H locs hfu hi hw hl
      refine lv_iload_n hx hb d_PieceReader_startOver_9 rfl (lv_at hl 0 rfl) ?_
      refine lv_aload_n hx hb d_PieceReader_startOver_10 rfl (lv_at hl 2 rfl) ?_
      refine m_get hc hE hw h3 kc_PieceReader l_PieceReader_9_PieceReader rfl d_PieceReader_startOver_11 ?_
      refine m_calli hw (m_runV (As := []) (rest := [.int (nI i)]) hc hE hw (c_Signs_length G l H.size f1 hT4) hT4.1 rfl cw_PieceReader_54 se_Signs_length rfl hl.1 rfl (Nat.le_of_ble_eq_true rfl) d_PieceReader_startOver_14 ⟨rfl, rfl, by decide, by decide⟩ ⟨by first | decide | (dsimp only; omega), by first | decide | (dsimp only; omega)⟩) (fun r7 g6 H locs p5 hw => ?_)
      obtain ⟨rfl, p5⟩ := p5
      subst p5
      refine lv_icmp_ge (tgt := 42) hx hb d_PieceReader_startOver_17 (by decide) (fun c8 => ?_) (fun c8 => ?_)
      · refine lv_iload_n hx hb d_PieceReader_startOver_42 rfl (lv_at hl 1 rfl) ?_
        have hin2 : i = n := by have := (nI_leI (by omega) (by omega)).mp c8; omega
        subst hin2
        exact m_iret hc hr hlk hw ⟨by first | decide | (dsimp only; omega), by first | decide | (dsimp only; omega)⟩ d_PieceReader_startOver_43 ⟨ef1, rfl⟩
      · refine lv_aload_n hx hb d_PieceReader_startOver_20 rfl (lv_at hl 2 rfl) ?_
        refine m_get hc hE hw h3 kc_PieceReader l_PieceReader_9_PieceReader rfl d_PieceReader_startOver_21 ?_
        refine lv_iload_n hx hb d_PieceReader_startOver_24 rfl (lv_at hl 0 rfl) ?_
        refine m_calli hw (m_runV (As := [.int (nI i)]) (rest := []) hc hE hw (c_Signs_at G l H.size f1 hT4 (nI i)) hT4.1 rfl cw_PieceReader_57 se_Signs_at rfl hl.1 rfl (Nat.le_of_ble_eq_true rfl) d_PieceReader_startOver_25 ⟨rfl, rfl, by decide, by decide⟩ ⟨by first | decide | (dsimp only; omega), by first | decide | (dsimp only; omega)⟩) (fun r11 g10 H locs p9 hw => ?_)
        obtain ⟨rfl, p9⟩ := p9
        have hlt : i < n := Nat.not_le.mp (fun z => c8 (nI_le z (by omega)))
        rw [atv_in hlt (by omega)] at p9
        subst p9
        refine lv_bipush (v := 59) hx hb d_PieceReader_startOver_28 (by decide) ?_
        refine lv_icmp_ne (tgt := 36) hx hb d_PieceReader_startOver_30 (by decide) (fun c12 => ?_) (fun c12 => ?_)
        · refine lv_iinc (v := (nI (i + 1))) (lv' := [(2, .int (nI (i + 1))), (1, .int (nI (npc t i))), (0, .ref ra)]) hx hb d_PieceReader_startOver_36 hl (k := 0) rfl (nI_1 _) (by decide) rfl (fun ls hl => ?_)
          refine lv_goto (tgt := 9) hx hb d_PieceReader_startOver_39 (by decide) ?_
          have hnp : npc t (i + 1) = npc t i := by unfold npc; show cntS t i + (if t i = 59 then 1 else 0) + 1 = _; rw [if_neg c12]
          exact ih (i + 1) ls H locs (by omega) (by omega) hw (by rw [hnp]; exact (lv_sub hl [0, 1, 2] rfl))
        · refine lv_iinc (v := (nI ((npc t i) + 1))) (lv' := [(1, .int (nI ((npc t i) + 1))), (2, .int (nI i)), (0, .ref ra)]) hx hb d_PieceReader_startOver_33 hl (k := 1) rfl (nI_1 _) (by decide) rfl (fun ls hl => ?_)
          refine lv_iinc (v := (nI (i + 1))) (lv' := [(2, .int (nI (i + 1))), (1, .int (nI ((npc t i) + 1))), (0, .ref ra)]) hx hb d_PieceReader_startOver_36 hl (k := 1) rfl (nI_1 _) (by decide) rfl (fun ls hl => ?_)
          refine lv_goto (tgt := 9) hx hb d_PieceReader_startOver_39 (by decide) ?_
          have hnp : npc t (i + 1) = npc t i + 1 := by unfold npc; show cntS t i + (if t i = 59 then 1 else 0) + 1 = _; rw [if_pos c12]
          exact ih (i + 1) ls H locs (by omega) (by omega) hw (by rw [hnp]; exact (lv_sub hl [0, 1, 2] rfl))
  exact loop (n + 1) 0 ls H locs (by omega) (Nat.zero_le _) hw (lv_sub hl [0, 1, 2] rfl)
end
section
/-! links of the pools, as the walks ask for them -/
theorem cw_PieceReader_15 : cwk "StreamFilters$PieceReader" 15 y_PieceReader_startOver b_PieceReader_startOver 3 (some .int) 0 := ⟨Or.inl (tb 210 (by decide +kernel) rfl), (tb 213 (by decide +kernel) rfl), (tb 4 (by decide +kernel) rfl), by decide, by decide, by decide +kernel⟩
theorem cw_PieceReader_19 : cwk "StreamFilters$PieceReader" 19 y_PieceReader_readNext b_PieceReader_readNext 2 none 0 := ⟨Or.inl (tb 219 (by decide +kernel) rfl), (tb 222 (by decide +kernel) rfl), (tb 4 (by decide +kernel) rfl), by decide, by decide, by decide +kernel⟩
theorem se_PieceReader_readNext : Cond.instanceMethod y_PieceReader_readNext ∈ TB ∧ Cond.selects "StreamFilters$PieceReader" y_PieceReader_readNext y_PieceReader_readNext ∈ TB := ⟨(tb 221 (by decide +kernel) rfl), (tbs 2 (by decide +kernel) rfl)⟩
theorem se_PieceReader_startOver : Cond.instanceMethod y_PieceReader_startOver ∈ TB ∧ Cond.selects "StreamFilters$PieceReader" y_PieceReader_startOver y_PieceReader_startOver ∈ TB := ⟨(tb 212 (by decide +kernel) rfl), (tbs 1 (by decide +kernel) rfl)⟩
/-! decode rows -/
theorem d_PieceReader_firstBroken_0 : decode b_PieceReader_firstBroken 0 = .ok (.aload_n 0, 1) := by decide +kernel
theorem d_PieceReader_firstBroken_1 : decode b_PieceReader_firstBroken 1 = .ok (.invokevirtual 15, 3) := by decide +kernel
theorem d_PieceReader_firstBroken_4 : decode b_PieceReader_firstBroken 4 = .ok (.istore_n 1, 1) := by decide +kernel
theorem d_PieceReader_firstBroken_5 : decode b_PieceReader_firstBroken 5 = .ok (.iconst 0, 1) := by decide +kernel
theorem d_PieceReader_firstBroken_6 : decode b_PieceReader_firstBroken 6 = .ok (.istore_n 2, 1) := by decide +kernel
theorem d_PieceReader_firstBroken_7 : decode b_PieceReader_firstBroken 7 = .ok (.iload_n 2, 1) := by decide +kernel
theorem d_PieceReader_firstBroken_8 : decode b_PieceReader_firstBroken 8 = .ok (.iload_n 1, 1) := by decide +kernel
theorem d_PieceReader_firstBroken_9 : decode b_PieceReader_firstBroken 9 = .ok (.if_icmp .ge 23, 3) := by decide +kernel
theorem d_PieceReader_firstBroken_12 : decode b_PieceReader_firstBroken 12 = .ok (.aload_n 0, 1) := by decide +kernel
theorem d_PieceReader_firstBroken_13 : decode b_PieceReader_firstBroken 13 = .ok (.invokevirtual 19, 3) := by decide +kernel
theorem d_PieceReader_firstBroken_16 : decode b_PieceReader_firstBroken 16 = .ok (.aload_n 0, 1) := by decide +kernel
theorem d_PieceReader_firstBroken_17 : decode b_PieceReader_firstBroken 17 = .ok (.getfield 22, 3) := by decide +kernel
theorem d_PieceReader_firstBroken_20 : decode b_PieceReader_firstBroken 20 = .ok (.iconst 3, 1) := by decide +kernel
theorem d_PieceReader_firstBroken_21 : decode b_PieceReader_firstBroken 21 = .ok (.if_icmp .ne 5, 3) := by decide +kernel
theorem d_PieceReader_firstBroken_24 : decode b_PieceReader_firstBroken 24 = .ok (.iload_n 2, 1) := by decide +kernel
theorem d_PieceReader_firstBroken_25 : decode b_PieceReader_firstBroken 25 = .ok (.ireturn, 1) := by decide +kernel
theorem d_PieceReader_firstBroken_26 : decode b_PieceReader_firstBroken 26 = .ok (.iinc 2 1, 3) := by decide +kernel
theorem d_PieceReader_firstBroken_29 : decode b_PieceReader_firstBroken 29 = .ok (.goto (-22), 3) := by decide +kernel
theorem d_PieceReader_firstBroken_32 : decode b_PieceReader_firstBroken 32 = .ok (.bipush (-2), 2) := by decide +kernel
theorem d_PieceReader_firstBroken_34 : decode b_PieceReader_firstBroken 34 = .ok (.ireturn, 1) := by decide +kernel
theorem d_PieceReader_countClasses_0 : decode b_PieceReader_countClasses 0 = .ok (.iconst 0, 1) := by decide +kernel
theorem d_PieceReader_countClasses_1 : decode b_PieceReader_countClasses 1 = .ok (.istore_n 1, 1) := by decide +kernel
theorem d_PieceReader_countClasses_2 : decode b_PieceReader_countClasses 2 = .ok (.aload_n 0, 1) := by decide +kernel
theorem d_PieceReader_countClasses_3 : decode b_PieceReader_countClasses 3 = .ok (.invokevirtual 15, 3) := by decide +kernel
theorem d_PieceReader_countClasses_6 : decode b_PieceReader_countClasses 6 = .ok (.istore_n 2, 1) := by decide +kernel
theorem d_PieceReader_countClasses_7 : decode b_PieceReader_countClasses 7 = .ok (.iconst 0, 1) := by decide +kernel
theorem d_PieceReader_countClasses_8 : decode b_PieceReader_countClasses 8 = .ok (.istore_n 3, 1) := by decide +kernel
theorem d_PieceReader_countClasses_9 : decode b_PieceReader_countClasses 9 = .ok (.iload_n 3, 1) := by decide +kernel
theorem d_PieceReader_countClasses_10 : decode b_PieceReader_countClasses 10 = .ok (.iload_n 2, 1) := by decide +kernel
theorem d_PieceReader_countClasses_11 : decode b_PieceReader_countClasses 11 = .ok (.if_icmp .ge 24, 3) := by decide +kernel
theorem d_PieceReader_countClasses_14 : decode b_PieceReader_countClasses 14 = .ok (.aload_n 0, 1) := by decide +kernel
theorem d_PieceReader_countClasses_15 : decode b_PieceReader_countClasses 15 = .ok (.invokevirtual 19, 3) := by decide +kernel
theorem d_PieceReader_countClasses_18 : decode b_PieceReader_countClasses 18 = .ok (.aload_n 0, 1) := by decide +kernel
theorem d_PieceReader_countClasses_19 : decode b_PieceReader_countClasses 19 = .ok (.getfield 22, 3) := by decide +kernel
theorem d_PieceReader_countClasses_22 : decode b_PieceReader_countClasses 22 = .ok (.iconst 2, 1) := by decide +kernel
theorem d_PieceReader_countClasses_23 : decode b_PieceReader_countClasses 23 = .ok (.if_icmp .ne 6, 3) := by decide +kernel
theorem d_PieceReader_countClasses_26 : decode b_PieceReader_countClasses 26 = .ok (.iinc 1 1, 3) := by decide +kernel
theorem d_PieceReader_countClasses_29 : decode b_PieceReader_countClasses 29 = .ok (.iinc 3 1, 3) := by decide +kernel
theorem d_PieceReader_countClasses_32 : decode b_PieceReader_countClasses 32 = .ok (.goto (-23), 3) := by decide +kernel
theorem d_PieceReader_countClasses_35 : decode b_PieceReader_countClasses 35 = .ok (.iload_n 1, 1) := by decide +kernel
theorem d_PieceReader_countClasses_36 : decode b_PieceReader_countClasses 36 = .ok (.ireturn, 1) := by decide +kernel
set_option maxHeartbeats 4000000 in
set_option maxRecDepth 100000 in
/-- firstBroken() -/
theorem c_PieceReader_firstBroken (G : GG) (l : Launch) (sz : Nat) (f : Wd) {ra ta tr cap n : Nat} {t : Nat → Int32} {vfr ven vpi vli vnu vrj vsh vmf vme vnf vne : Int32} (hR : f ra = some (.inr (3, [.ref ta, .int vfr, .int ven, .int vpi, .int vli, .int vnu, .int vrj, .int vsh, .int vmf, .int vme, .int vnf, .int vne]))) (hT : sg G f ta tr cap n t) : Ci G l y_PieceReader_firstBroken b_PieceReader_firstBroken 3 (some .int) ({ frames := 8, cells := 0, slots := 0, locals := 174 }) sz f [.ref ra] (fun v f' => ∃ fr en pi li nu rj sh mf me nf ne : Int32, f' = va_up f ra (some (.inr (3, [.ref ta, .int fr, .int en, .int pi, .int li, .int nu, .int rj, .int sh, .int mf, .int me, .int nf, .int ne]))) ∧ v = fbk t n (npc t n) 0) := by
  refine ct_of (by decide) (Nat.le_of_ble_eq_true rfl) ?_
  intro p e s m below meth c ls H locs hEn
  obtain ⟨hc, hr, hlk, hin, hE, hw, hsz, hl⟩ := hEn
  have hx := hc.1
  have hb := hc.2.1
  have hl : lv_has ls 3 [(0, .ref ra)] := hl
  have hn9 : n ≤ 90 := by have := hT.2.2.1; have := hT.2.2.2.1; omega
  have hnp := npc_le (t := t) n
  refine lv_aload_n hx hb d_PieceReader_firstBroken_0 rfl (lv_at hl 0 rfl) ?_
  refine m_calli hw (m_runV (As := []) (rest := []) hc hE hw (c_PieceReader_startOver G l H.size f hR hT) hR rfl cw_PieceReader_15 se_PieceReader_startOver rfl hl.1 rfl (Nat.le_of_ble_eq_true rfl) d_PieceReader_firstBroken_1 ⟨rfl, rfl, by decide, by decide⟩ ⟨by first | decide | (dsimp only; omega), by first | decide | (dsimp only; omega)⟩) (fun r3 g2 H locs p1 hw => ?_)
  obtain ⟨hfs, p1⟩ := p1
  subst p1
  refine lv_istore_n (lv' := [(1, .int (nI (npc t n))), (0, .ref ra)]) hx hb d_PieceReader_firstBroken_4 rfl hl (by decide) rfl (fun ls hl => ?_)
  refine lv_iconst (v := 0) hx hb d_PieceReader_firstBroken_5 (by decide) ?_
  refine lv_istore_n (lv' := [(2, .int 0), (1, .int (nI (npc t n))), (0, .ref ra)]) hx hb d_PieceReader_firstBroken_6 rfl hl (by decide) rfl (fun ls hl => ?_)
  have loop : ∀ (fu : Nat) (i : Nat) (fw : Wd) (fr en pi li nu rj sh mf me nf ne : Int32) (ls : Array Slot) (H : Heap) (locs : List Loc), npc t n - i < fu → i ≤ npc t n → fw = va_up f ra (some (.inr (3, [.ref ta, .int fr, .int en, .int pi, .int li, .int nu, .int rj, .int sh, .int mf, .int me, .int nf, .int ne]))) → (i < npc t n → en + 1 = nI (pst t n i)) → fbk t n (npc t n) 0 = fbk t n (npc t n - i) i → ms G.1 (Af f sz) fw s H locs → lv_has ls 3 [(2, .int (nI i)), (1, .int (nI (npc t n))), (0, .ref ra)] → W p l e ({ frames := 8, cells := 0, slots := 0, locals := 174 }) s m ([.ref ra] : List Value).toArray below meth c H locs 0 0 (MQ below (va_Qi (fun v f' => ∃ fr en pi li nu rj sh mf me nf ne : Int32, f' = va_up f ra (some (.inr (3, [.ref ta, .int fr, .int en, .int pi, .int li, .int nu, .int rj, .int sh, .int mf, .int me, .int nf, .int ne]))) ∧ v = fbk t n (npc t n) 0) (Bw G f sz) (Af f sz)) ([.ref ra] : List Value).toArray s 0 0 (Af f sz)) (F0 m 7 ls []) := by
    intro fu
    induction fu with
    | zero => intro i fw fr en pi li nu rj sh mf me nf ne ls H locs h0; exact absurd h0 (Nat.not_lt_zero _)
    | succ fu ih =>
      intro i fw fr en pi li nu rj sh mf me nf ne ls H locs hfu hi hfw hen hres hw hl
      have hwr : fw ra = some (.inr (3, [.ref ta, .int fr, .int en, .int pi, .int li, .int nu, .int rj, .int sh, .int mf, .int me, .int nf, .int ne])) := by rw [hfw, va_up_self]
      have hwT : sg G fw ta tr cap n t := by rw [hfw]; exact sg_up hT hR wd_x
      refine lv_iload_n hx hb d_PieceReader_firstBroken_7 rfl (lv_at hl 0 rfl) ?_
      refine lv_iload_n hx hb d_PieceReader_firstBroken_8 rfl (lv_at hl 1 rfl) ?_
      refine lv_icmp_ge (tgt := 32) hx hb d_PieceReader_firstBroken_9 (by decide) (fun c4 => ?_) (fun c4 => ?_)
      · refine lv_bipush (v := (-2)) hx hb d_PieceReader_firstBroken_32 (by decide) ?_
        have hin2 : i = npc t n := by have := (nI_leI (by omega) (by omega)).mp c4; omega
        exact m_iret hc hr hlk hw ⟨by first | decide | (dsimp only; omega), by first | decide | (dsimp only; omega)⟩ d_PieceReader_firstBroken_34 ⟨fr, en, pi, li, nu, rj, sh, mf, me, nf, ne, hfw, by rw [hres, hin2, Nat.sub_self]; rfl⟩
      · refine lv_aload_n hx hb d_PieceReader_firstBroken_12 rfl (lv_at hl 2 rfl) ?_
        have hlt : i < npc t n := Nat.not_le.mp (fun z => c4 (nI_le z (by omega)))
        have hps := pst_in (t := t) i hlt
        refine m_callv hw (m_runV (As := []) (rest := []) hc hE hw (c_PieceReader_readNext G l H.size fw hwr hwT (a := pst t n i) (hen hlt) hps.1) hwr rfl cw_PieceReader_19 se_PieceReader_readNext rfl hl.1 rfl (Nat.le_of_ble_eq_true rfl) d_PieceReader_firstBroken_13 ⟨rfl, rfl, by decide, by decide⟩ ⟨by first | decide | (dsimp only; omega), by first | decide | (dsimp only; omega)⟩) (fun g6 H locs p5 hw => ?_)
        obtain ⟨li2, nu2, rj2, sh2, mf2, me2, nf2, ne2, hfe, hp1, hp2⟩ := p5
        have g6_r : g6 ra = some (.inr (3, [.ref ta, .int (nI (pst t n i)), .int (nI (pnx t n (pst t n i))), .int (nI (pk t n i)), .int li2, .int nu2, .int rj2, .int sh2, .int mf2, .int me2, .int nf2, .int ne2])) := by rw [hfe, va_up_self]; rfl
        refine lv_aload_n hx hb d_PieceReader_firstBroken_16 rfl (lv_at hl 2 rfl) ?_
        refine m_get hc hE hw g6_r kc_PieceReader l_PieceReader_22_PieceReader rfl d_PieceReader_firstBroken_17 ?_
        refine lv_iconst (v := 3) hx hb d_PieceReader_firstBroken_20 (by decide) ?_
        refine lv_icmp_ne (tgt := 26) hx hb d_PieceReader_firstBroken_21 (by decide) (fun c7 => ?_) (fun c7 => ?_)
        · refine lv_iinc (v := (nI (i + 1))) (lv' := [(2, .int (nI (i + 1))), (1, .int (nI (npc t n))), (0, .ref ra)]) hx hb d_PieceReader_firstBroken_26 hl (k := 0) rfl (nI_1 _) (by decide) rfl (fun ls hl => ?_)
          refine lv_goto (tgt := 7) hx hb d_PieceReader_firstBroken_29 (by decide) ?_
          have hnx : nI (pnx t n (pst t n i)) + 1 = nI (pst t n (i + 1)) := nI_1 _
          have hpk : ¬ pk t n i = 3 := fun z => c7 (by rw [z]; rfl)
          exact ih (i + 1) g6 _ _ _ _ _ _ _ _ _ _ _ ls H locs (by omega) (by omega) (by rw [hfe, hfw, up_uu]) (fun _ => hnx) (by rw [hres, show npc t n - i = (npc t n - (i + 1)) + 1 by omega]; exact pif_f hpk) hw (lv_sub hl [0, 1, 2] rfl)
        · refine lv_iload_n hx hb d_PieceReader_firstBroken_24 rfl (lv_at hl 0 rfl) ?_
          have hpk : pk t n i = 3 := (nI_eq (b := 3) (by have : pk t n i ≤ 3 := pkd_in t _ _; omega) (by decide)).mp c7
          exact m_iret hc hr hlk hw ⟨by first | decide | (dsimp only; omega), by first | decide | (dsimp only; omega)⟩ d_PieceReader_firstBroken_25 ⟨_, _, _, _, _, _, _, _, _, _, _, by rw [hfe, hfw, up_uu], by rw [hres, show npc t n - i = (npc t n - i - 1) + 1 by omega]; exact (pif_t hpk).symm⟩
  exact loop (npc t n + 1) 0 g2 _ _ _ _ _ _ _ _ _ _ _ ls H locs (by omega) (Nat.zero_le _) hfs (fun _ => (by decide : (-1 : Int32) + 1 = nI 0)) rfl hw (lv_sub hl [0, 1, 2] rfl)

set_option maxHeartbeats 4000000 in
set_option maxRecDepth 100000 in
/-- countClasses() -/
theorem c_PieceReader_countClasses (G : GG) (l : Launch) (sz : Nat) (f : Wd) {ra ta tr cap n : Nat} {t : Nat → Int32} {vfr ven vpi vli vnu vrj vsh vmf vme vnf vne : Int32} (hR : f ra = some (.inr (3, [.ref ta, .int vfr, .int ven, .int vpi, .int vli, .int vnu, .int vrj, .int vsh, .int vmf, .int vme, .int vnf, .int vne]))) (hT : sg G f ta tr cap n t) : Ci G l y_PieceReader_countClasses b_PieceReader_countClasses 4 (some .int) ({ frames := 8, cells := 0, slots := 0, locals := 174 }) sz f [.ref ra] (fun v f' => ∃ fr en pi li nu rj sh mf me nf ne : Int32, f' = va_up f ra (some (.inr (3, [.ref ta, .int fr, .int en, .int pi, .int li, .int nu, .int rj, .int sh, .int mf, .int me, .int nf, .int ne]))) ∧ v = nI (clsU t n (npc t n)).length) := by
  refine ct_of (by decide) (Nat.le_of_ble_eq_true rfl) ?_
  intro p e s m below meth c ls H locs hEn
  obtain ⟨hc, hr, hlk, hin, hE, hw, hsz, hl⟩ := hEn
  have hx := hc.1
  have hb := hc.2.1
  have hl : lv_has ls 4 [(0, .ref ra)] := hl
  have hn9 : n ≤ 90 := by have := hT.2.2.1; have := hT.2.2.2.1; omega
  have hnp := npc_le (t := t) n
  refine lv_iconst (v := 0) hx hb d_PieceReader_countClasses_0 (by decide) ?_
  refine lv_istore_n (lv' := [(1, .int 0), (0, .ref ra)]) hx hb d_PieceReader_countClasses_1 rfl hl (by decide) rfl (fun ls hl => ?_)
  refine lv_aload_n hx hb d_PieceReader_countClasses_2 rfl (lv_at hl 1 rfl) ?_
  refine m_calli hw (m_runV (As := []) (rest := []) hc hE hw (c_PieceReader_startOver G l H.size f hR hT) hR rfl cw_PieceReader_15 se_PieceReader_startOver rfl hl.1 rfl (Nat.le_of_ble_eq_true rfl) d_PieceReader_countClasses_3 ⟨rfl, rfl, by decide, by decide⟩ ⟨by first | decide | (dsimp only; omega), by first | decide | (dsimp only; omega)⟩) (fun r3 g2 H locs p1 hw => ?_)
  obtain ⟨hfs, p1⟩ := p1
  subst p1
  refine lv_istore_n (lv' := [(2, .int (nI (npc t n))), (1, .int 0), (0, .ref ra)]) hx hb d_PieceReader_countClasses_6 rfl hl (by decide) rfl (fun ls hl => ?_)
  refine lv_iconst (v := 0) hx hb d_PieceReader_countClasses_7 (by decide) ?_
  refine lv_istore_n (lv' := [(3, .int 0), (2, .int (nI (npc t n))), (1, .int 0), (0, .ref ra)]) hx hb d_PieceReader_countClasses_8 rfl hl (by decide) rfl (fun ls hl => ?_)
  have loop : ∀ (fu : Nat) (i : Nat) (fw : Wd) (fr en pi li nu rj sh mf me nf ne : Int32) (ls : Array Slot) (H : Heap) (locs : List Loc), npc t n - i < fu → i ≤ npc t n → fw = va_up f ra (some (.inr (3, [.ref ta, .int fr, .int en, .int pi, .int li, .int nu, .int rj, .int sh, .int mf, .int me, .int nf, .int ne]))) → (i < npc t n → en + 1 = nI (pst t n i)) → ms G.1 (Af f sz) fw s H locs → lv_has ls 4 [(3, .int (nI i)), (2, .int (nI (npc t n))), (1, .int (nI (clsU t n i).length)), (0, .ref ra)] → W p l e ({ frames := 8, cells := 0, slots := 0, locals := 174 }) s m ([.ref ra] : List Value).toArray below meth c H locs 0 0 (MQ below (va_Qi (fun v f' => ∃ fr en pi li nu rj sh mf me nf ne : Int32, f' = va_up f ra (some (.inr (3, [.ref ta, .int fr, .int en, .int pi, .int li, .int nu, .int rj, .int sh, .int mf, .int me, .int nf, .int ne]))) ∧ v = nI (clsU t n (npc t n)).length) (Bw G f sz) (Af f sz)) ([.ref ra] : List Value).toArray s 0 0 (Af f sz)) (F0 m 9 ls []) := by
    intro fu
    induction fu with
    | zero => intro i fw fr en pi li nu rj sh mf me nf ne ls H locs h0; exact absurd h0 (Nat.not_lt_zero _)
    | succ fu ih =>
      intro i fw fr en pi li nu rj sh mf me nf ne ls H locs hfu hi hfw hen hw hl
      have hwr : fw ra = some (.inr (3, [.ref ta, .int fr, .int en, .int pi, .int li, .int nu, .int rj, .int sh, .int mf, .int me, .int nf, .int ne])) := by rw [hfw, va_up_self]
      have hwT : sg G fw ta tr cap n t := by rw [hfw]; exact sg_up hT hR wd_x
      refine lv_iload_n hx hb d_PieceReader_countClasses_9 rfl (lv_at hl 0 rfl) ?_
      refine lv_iload_n hx hb d_PieceReader_countClasses_10 rfl (lv_at hl 1 rfl) ?_
      refine lv_icmp_ge (tgt := 35) hx hb d_PieceReader_countClasses_11 (by decide) (fun c4 => ?_) (fun c4 => ?_)
      · refine lv_iload_n hx hb d_PieceReader_countClasses_35 rfl (lv_at hl 2 rfl) ?_
        have hin2 : i = npc t n := by have := (nI_leI (by omega) (by omega)).mp c4; omega
        exact m_iret hc hr hlk hw ⟨by first | decide | (dsimp only; omega), by first | decide | (dsimp only; omega)⟩ d_PieceReader_countClasses_36 ⟨fr, en, pi, li, nu, rj, sh, mf, me, nf, ne, hfw, by rw [hin2]⟩
      · refine lv_aload_n hx hb d_PieceReader_countClasses_14 rfl (lv_at hl 3 rfl) ?_
        have hlt : i < npc t n := Nat.not_le.mp (fun z => c4 (nI_le z (by omega)))
        have hps := pst_in (t := t) i hlt
        refine m_callv hw (m_runV (As := []) (rest := []) hc hE hw (c_PieceReader_readNext G l H.size fw hwr hwT (a := pst t n i) (hen hlt) hps.1) hwr rfl cw_PieceReader_19 se_PieceReader_readNext rfl hl.1 rfl (Nat.le_of_ble_eq_true rfl) d_PieceReader_countClasses_15 ⟨rfl, rfl, by decide, by decide⟩ ⟨by first | decide | (dsimp only; omega), by first | decide | (dsimp only; omega)⟩) (fun g6 H locs p5 hw => ?_)
        obtain ⟨li2, nu2, rj2, sh2, mf2, me2, nf2, ne2, hfe, hp1, hp2⟩ := p5
        have g6_r : g6 ra = some (.inr (3, [.ref ta, .int (nI (pst t n i)), .int (nI (pnx t n (pst t n i))), .int (nI (pk t n i)), .int li2, .int nu2, .int rj2, .int sh2, .int mf2, .int me2, .int nf2, .int ne2])) := by rw [hfe, va_up_self]; rfl
        refine lv_aload_n hx hb d_PieceReader_countClasses_18 rfl (lv_at hl 3 rfl) ?_
        refine m_get hc hE hw g6_r kc_PieceReader l_PieceReader_22_PieceReader rfl d_PieceReader_countClasses_19 ?_
        refine lv_iconst (v := 2) hx hb d_PieceReader_countClasses_22 (by decide) ?_
        refine lv_icmp_ne (tgt := 29) hx hb d_PieceReader_countClasses_23 (by decide) (fun c7 => ?_) (fun c7 => ?_)
        · refine lv_iinc (v := (nI (i + 1))) (lv' := [(3, .int (nI (i + 1))), (2, .int (nI (npc t n))), (1, .int (nI (clsU t n i).length)), (0, .ref ra)]) hx hb d_PieceReader_countClasses_29 hl (k := 0) rfl (nI_1 _) (by decide) rfl (fun ls hl => ?_)
          refine lv_goto (tgt := 9) hx hb d_PieceReader_countClasses_32 (by decide) ?_
          have hnx : nI (pnx t n (pst t n i)) + 1 = nI (pst t n (i + 1)) := nI_1 _
          have hpk : ¬ pk t n i = 2 := fun z => c7 (by rw [z]; rfl)
          have hcl : (clsU t n (i + 1)).length = (clsU t n i).length := congrArg List.length (pif_f hpk)
          exact ih (i + 1) g6 _ _ _ _ _ _ _ _ _ _ _ ls H locs (by omega) (by omega) (by rw [hfe, hfw, up_uu]) (fun _ => hnx) hw (by rw [hcl]; exact (lv_sub hl [0, 1, 2, 3] rfl))
        · refine lv_iinc (v := (nI ((clsU t n i).length + 1))) (lv' := [(1, .int (nI ((clsU t n i).length + 1))), (3, .int (nI i)), (2, .int (nI (npc t n))), (0, .ref ra)]) hx hb d_PieceReader_countClasses_26 hl (k := 2) rfl (nI_1 _) (by decide) rfl (fun ls hl => ?_)
          refine lv_iinc (v := (nI (i + 1))) (lv' := [(3, .int (nI (i + 1))), (1, .int (nI ((clsU t n i).length + 1))), (2, .int (nI (npc t n))), (0, .ref ra)]) hx hb d_PieceReader_countClasses_29 hl (k := 1) rfl (nI_1 _) (by decide) rfl (fun ls hl => ?_)
          refine lv_goto (tgt := 9) hx hb d_PieceReader_countClasses_32 (by decide) ?_
          have hnx : nI (pnx t n (pst t n i)) + 1 = nI (pst t n (i + 1)) := nI_1 _
          have hpk : pk t n i = 2 := (nI_eq (b := 2) (by have : pk t n i ≤ 3 := pkd_in t _ _; omega) (by decide)).mp c7
          have hcl : (clsU t n (i + 1)).length = (clsU t n i).length + 1 := (congrArg List.length (pif_t hpk)).trans (by rw [List.length_append]; rfl)
          exact ih (i + 1) g6 _ _ _ _ _ _ _ _ _ _ _ ls H locs (by omega) (by omega) (by rw [hfe, hfw, up_uu]) (fun _ => hnx) hw (by rw [hcl]; exact (lv_sub hl [0, 2, 1, 3] rfl))
  exact loop (npc t n + 1) 0 g2 _ _ _ _ _ _ _ _ _ _ _ ls H locs (by omega) (Nat.zero_le _) hfs (fun _ => (by decide : (-1 : Int32) + 1 = nI 0)) hw (lv_sub hl [0, 1, 2, 3] rfl)
end
section
/-! filters of any kind; booleans as numbers -/
theorem bz_nar {v : Int32} (h : v = 0 ∨ v = 1) : narrow .boolean (.int v) = .int v := by rcases h with rfl | rfl <;> rfl
theorem bz_fit {v : Int32} (h : v = 0 ∨ v = 1) : fits .boolean (.int v) = true := by rcases h with rfl | rfl <;> rfl
/-- the class numbers of the five kinds of filters -/
def FC (ci : Nat) : Prop := ci = CI_TextFilter ∨ ci = CI_JoinedFilter ∨ ci = CI_StrictFilter ∨ ci = CI_DefaultFilter ∨ ci = CI_OnlyFilter
section MF
variable {p : Program} {l : Launch} {e : Env} {R : Room} {s : State} {m : MethodId} {args : Array Value} {below : List Frame} {meth : Method} {c : Code} {H : Heap} {locs : List Loc} {cells slots : Nat} {Q : State → Prop}
variable {cc : ByteArray} {pc nL : Nat} {ls : Array Slot} {rest : List Value} {G : GG} {A : Nat → Prop} {a : Nat} {f : Wd} {own : String}
theorem m_getF (hc : CallFix p m c cc nL s args TB own) (hE : ev G A s) (hw : ms G.1 A f s H locs) {ci k idx : Nat} {fs : List Value} {v : Value} (he : f a = some (.inr (ci, fs))) (hf : FC ci) (hl : lnk own idx F_TextFilter 6 k ∧ lnk own idx F_JoinedFilter 5 k ∧ lnk own idx F_StrictFilter 5 k ∧ lnk own idx F_DefaultFilter 5 k ∧ lnk own idx F_OnlyFilter 5 k) (hv : fs[k]? = some v) (hdg : decode cc pc = .ok (.getfield idx, 3))
    (kk : W p l e R s m args below meth c H locs cells slots Q (F0 m (pc + 3) ls (v :: rest))) : W p l e R s m args below meth c H locs cells slots Q (F0 m pc ls (.ref a :: rest)) := by
  rcases hf with rfl | rfl | rfl | rfl | rfl
  · exact m_get hc hE hw he kc_TextFilter hl.1 hv hdg kk
  · exact m_get hc hE hw he kc_JoinedFilter hl.2.1 hv hdg kk
  · exact m_get hc hE hw he kc_StrictFilter hl.2.2.1 hv hdg kk
  · exact m_get hc hE hw he kc_DefaultFilter hl.2.2.2.1 hv hdg kk
  · exact m_get hc hE hw he kc_OnlyFilter hl.2.2.2.2 hv hdg kk
end MF
end
section
/-! links of the pools, as the walks ask for them -/
theorem l_ClassPattern_15_PieceReader : lnk "StreamFilters$ClassPattern" 15 F_PieceReader 12 6 := ⟨by decide, "StreamFilters$PieceReader", Or.inl rfl, Or.inl (tb 113 (by decide +kernel) rfl)⟩
theorem l_ClassPattern_22_PieceReader : lnk "StreamFilters$ClassPattern" 22 F_PieceReader 12 7 := ⟨by decide, "StreamFilters$PieceReader", Or.inl rfl, Or.inl (tb 115 (by decide +kernel) rfl)⟩
theorem l_ClassPattern_27_PieceReader : lnk "StreamFilters$ClassPattern" 27 F_PieceReader 12 8 := ⟨by decide, "StreamFilters$PieceReader", Or.inl rfl, Or.inl (tb 117 (by decide +kernel) rfl)⟩
theorem l_ClassPattern_31_PieceReader : lnk "StreamFilters$ClassPattern" 31 F_PieceReader 12 9 := ⟨by decide, "StreamFilters$PieceReader", Or.inl rfl, Or.inl (tb 119 (by decide +kernel) rfl)⟩
theorem l_ClassPattern_35_PieceReader : lnk "StreamFilters$ClassPattern" 35 F_PieceReader 12 10 := ⟨by decide, "StreamFilters$PieceReader", Or.inl rfl, Or.inl (tb 121 (by decide +kernel) rfl)⟩
theorem l_ClassPattern_39_PieceReader : lnk "StreamFilters$ClassPattern" 39 F_PieceReader 12 11 := ⟨by decide, "StreamFilters$PieceReader", Or.inl rfl, Or.inl (tb 123 (by decide +kernel) rfl)⟩
theorem l_Question_23_Question : lnk "StreamFilters$Question" 23 F_Question 11 10 := ⟨by decide, "StreamFilters$Question", Or.inl rfl, Or.inl (tb 75 (by decide +kernel) rfl)⟩
theorem l_Question_27_Question : lnk "StreamFilters$Question" 27 F_Question 11 5 := ⟨by decide, "StreamFilters$Question", Or.inl rfl, Or.inl (tb 62 (by decide +kernel) rfl)⟩
theorem l_Question_30_Question : lnk "StreamFilters$Question" 30 F_Question 11 6 := ⟨by decide, "StreamFilters$Question", Or.inl rfl, Or.inl (tb 65 (by decide +kernel) rfl)⟩
theorem l_Question_33_Question : lnk "StreamFilters$Question" 33 F_Question 11 7 := ⟨by decide, "StreamFilters$Question", Or.inl rfl, Or.inl (tb 67 (by decide +kernel) rfl)⟩
theorem l_Question_36_Question : lnk "StreamFilters$Question" 36 F_Question 11 8 := ⟨by decide, "StreamFilters$Question", Or.inl rfl, Or.inl (tb 69 (by decide +kernel) rfl)⟩
theorem l_Question_39_Question : lnk "StreamFilters$Question" 39 F_Question 11 9 := ⟨by decide, "StreamFilters$Question", Or.inl rfl, Or.inl (tb 72 (by decide +kernel) rfl)⟩
theorem lf_ClassPattern_21_ClassPattern : 1 < 7 ∧ Cond.fieldLink "StreamFilters$ClassPattern" 21 "StreamFilters$ClassPattern" (F_ClassPattern 1).2.1 (F_ClassPattern 1).2.2.1 ∈ TB := ⟨by decide, (tb 333 (by decide +kernel) rfl)⟩
theorem lf_ClassPattern_26_ClassPattern : 2 < 7 ∧ Cond.fieldLink "StreamFilters$ClassPattern" 26 "StreamFilters$ClassPattern" (F_ClassPattern 2).2.1 (F_ClassPattern 2).2.2.1 ∈ TB := ⟨by decide, (tb 334 (by decide +kernel) rfl)⟩
theorem lf_ClassPattern_30_ClassPattern : 3 < 7 ∧ Cond.fieldLink "StreamFilters$ClassPattern" 30 "StreamFilters$ClassPattern" (F_ClassPattern 3).2.1 (F_ClassPattern 3).2.2.1 ∈ TB := ⟨by decide, (tb 335 (by decide +kernel) rfl)⟩
theorem lf_ClassPattern_34_ClassPattern : 4 < 7 ∧ Cond.fieldLink "StreamFilters$ClassPattern" 34 "StreamFilters$ClassPattern" (F_ClassPattern 4).2.1 (F_ClassPattern 4).2.2.1 ∈ TB := ⟨by decide, (tb 336 (by decide +kernel) rfl)⟩
theorem lf_ClassPattern_38_ClassPattern : 5 < 7 ∧ Cond.fieldLink "StreamFilters$ClassPattern" 38 "StreamFilters$ClassPattern" (F_ClassPattern 5).2.1 (F_ClassPattern 5).2.2.1 ∈ TB := ⟨by decide, (tb 337 (by decide +kernel) rfl)⟩
theorem lf_ClassPattern_42_ClassPattern : 6 < 7 ∧ Cond.fieldLink "StreamFilters$ClassPattern" 42 "StreamFilters$ClassPattern" (F_ClassPattern 6).2.1 (F_ClassPattern 6).2.2.1 ∈ TB := ⟨by decide, (tb 338 (by decide +kernel) rfl)⟩
theorem lf_ClassPattern_9_ClassPattern : 0 < 7 ∧ Cond.fieldLink "StreamFilters$ClassPattern" 9 "StreamFilters$ClassPattern" (F_ClassPattern 0).2.1 (F_ClassPattern 0).2.2.1 ∈ TB := ⟨by decide, (tb 332 (by decide +kernel) rfl)⟩
theorem lf_DefaultFilter_16_DefaultFilter : 3 < 5 ∧ Cond.fieldLink "StreamFilters$DefaultFilter" 16 "StreamFilters$DefaultFilter" (F_DefaultFilter 3).2.1 (F_DefaultFilter 3).2.2.1 ∈ TB := ⟨by decide, (tb 460 (by decide +kernel) rfl)⟩
theorem lf_DefaultFilter_22_DefaultFilter : 4 < 5 ∧ Cond.fieldLink "StreamFilters$DefaultFilter" 22 "StreamFilters$DefaultFilter" (F_DefaultFilter 4).2.1 (F_DefaultFilter 4).2.2.1 ∈ TB := ⟨by decide, (tb 461 (by decide +kernel) rfl)⟩
theorem lf_Filter_13_DefaultFilter : 1 < 5 ∧ Cond.fieldLink "StreamFilters$Filter" 13 "StreamFilters$Filter" (F_DefaultFilter 1).2.1 (F_DefaultFilter 1).2.2.1 ∈ TB := ⟨by decide, (tb 375 (by decide +kernel) rfl)⟩
theorem lf_Filter_13_JoinedFilter : 1 < 5 ∧ Cond.fieldLink "StreamFilters$Filter" 13 "StreamFilters$Filter" (F_JoinedFilter 1).2.1 (F_JoinedFilter 1).2.2.1 ∈ TB := ⟨by decide, (tb 375 (by decide +kernel) rfl)⟩
theorem lf_Filter_13_OnlyFilter : 1 < 5 ∧ Cond.fieldLink "StreamFilters$Filter" 13 "StreamFilters$Filter" (F_OnlyFilter 1).2.1 (F_OnlyFilter 1).2.2.1 ∈ TB := ⟨by decide, (tb 375 (by decide +kernel) rfl)⟩
theorem lf_Filter_13_StrictFilter : 1 < 5 ∧ Cond.fieldLink "StreamFilters$Filter" 13 "StreamFilters$Filter" (F_StrictFilter 1).2.1 (F_StrictFilter 1).2.2.1 ∈ TB := ⟨by decide, (tb 375 (by decide +kernel) rfl)⟩
theorem lf_Filter_13_TextFilter : 1 < 6 ∧ Cond.fieldLink "StreamFilters$Filter" 13 "StreamFilters$Filter" (F_TextFilter 1).2.1 (F_TextFilter 1).2.2.1 ∈ TB := ⟨by decide, (tb 375 (by decide +kernel) rfl)⟩
theorem lf_Filter_16_DefaultFilter : 2 < 5 ∧ Cond.fieldLink "StreamFilters$Filter" 16 "StreamFilters$Filter" (F_DefaultFilter 2).2.1 (F_DefaultFilter 2).2.2.1 ∈ TB := ⟨by decide, (tb 381 (by decide +kernel) rfl)⟩
theorem lf_Filter_16_JoinedFilter : 2 < 5 ∧ Cond.fieldLink "StreamFilters$Filter" 16 "StreamFilters$Filter" (F_JoinedFilter 2).2.1 (F_JoinedFilter 2).2.2.1 ∈ TB := ⟨by decide, (tb 381 (by decide +kernel) rfl)⟩
theorem lf_Filter_16_OnlyFilter : 2 < 5 ∧ Cond.fieldLink "StreamFilters$Filter" 16 "StreamFilters$Filter" (F_OnlyFilter 2).2.1 (F_OnlyFilter 2).2.2.1 ∈ TB := ⟨by decide, (tb 381 (by decide +kernel) rfl)⟩
theorem lf_Filter_16_StrictFilter : 2 < 5 ∧ Cond.fieldLink "StreamFilters$Filter" 16 "StreamFilters$Filter" (F_StrictFilter 2).2.1 (F_StrictFilter 2).2.2.1 ∈ TB := ⟨by decide, (tb 381 (by decide +kernel) rfl)⟩
theorem lf_Filter_16_TextFilter : 2 < 6 ∧ Cond.fieldLink "StreamFilters$Filter" 16 "StreamFilters$Filter" (F_TextFilter 2).2.1 (F_TextFilter 2).2.2.1 ∈ TB := ⟨by decide, (tb 381 (by decide +kernel) rfl)⟩
theorem lf_Filter_7_DefaultFilter : 0 < 5 ∧ Cond.fieldLink "StreamFilters$Filter" 7 "StreamFilters$Filter" (F_DefaultFilter 0).2.1 (F_DefaultFilter 0).2.2.1 ∈ TB := ⟨by decide, (tb 369 (by decide +kernel) rfl)⟩
theorem lf_Filter_7_JoinedFilter : 0 < 5 ∧ Cond.fieldLink "StreamFilters$Filter" 7 "StreamFilters$Filter" (F_JoinedFilter 0).2.1 (F_JoinedFilter 0).2.2.1 ∈ TB := ⟨by decide, (tb 369 (by decide +kernel) rfl)⟩
theorem lf_Filter_7_OnlyFilter : 0 < 5 ∧ Cond.fieldLink "StreamFilters$Filter" 7 "StreamFilters$Filter" (F_OnlyFilter 0).2.1 (F_OnlyFilter 0).2.2.1 ∈ TB := ⟨by decide, (tb 369 (by decide +kernel) rfl)⟩
theorem lf_Filter_7_StrictFilter : 0 < 5 ∧ Cond.fieldLink "StreamFilters$Filter" 7 "StreamFilters$Filter" (F_StrictFilter 0).2.1 (F_StrictFilter 0).2.2.1 ∈ TB := ⟨by decide, (tb 369 (by decide +kernel) rfl)⟩
theorem lf_Filter_7_TextFilter : 0 < 6 ∧ Cond.fieldLink "StreamFilters$Filter" 7 "StreamFilters$Filter" (F_TextFilter 0).2.1 (F_TextFilter 0).2.2.1 ∈ TB := ⟨by decide, (tb 369 (by decide +kernel) rfl)⟩
theorem lf_JoinedFilter_22_JoinedFilter : 3 < 5 ∧ Cond.fieldLink "StreamFilters$JoinedFilter" 22 "StreamFilters$JoinedFilter" (F_JoinedFilter 3).2.1 (F_JoinedFilter 3).2.2.1 ∈ TB := ⟨by decide, (tb 420 (by decide +kernel) rfl)⟩
theorem lf_JoinedFilter_28_JoinedFilter : 4 < 5 ∧ Cond.fieldLink "StreamFilters$JoinedFilter" 28 "StreamFilters$JoinedFilter" (F_JoinedFilter 4).2.1 (F_JoinedFilter 4).2.2.1 ∈ TB := ⟨by decide, (tb 421 (by decide +kernel) rfl)⟩
theorem lf_OnlyFilter_16_OnlyFilter : 3 < 5 ∧ Cond.fieldLink "StreamFilters$OnlyFilter" 16 "StreamFilters$OnlyFilter" (F_OnlyFilter 3).2.1 (F_OnlyFilter 3).2.2.1 ∈ TB := ⟨by decide, (tb 481 (by decide +kernel) rfl)⟩
theorem lf_OnlyFilter_22_OnlyFilter : 4 < 5 ∧ Cond.fieldLink "StreamFilters$OnlyFilter" 22 "StreamFilters$OnlyFilter" (F_OnlyFilter 4).2.1 (F_OnlyFilter 4).2.2.1 ∈ TB := ⟨by decide, (tb 482 (by decide +kernel) rfl)⟩
theorem lf_PieceReader_9_PieceReader : 0 < 12 ∧ Cond.fieldLink "StreamFilters$PieceReader" 9 "StreamFilters$PieceReader" (F_PieceReader 0).2.1 (F_PieceReader 0).2.2.1 ∈ TB := ⟨by decide, (tb 107 (by decide +kernel) rfl)⟩
theorem lf_StrictFilter_16_StrictFilter : 3 < 5 ∧ Cond.fieldLink "StreamFilters$StrictFilter" 16 "StreamFilters$StrictFilter" (F_StrictFilter 3).2.1 (F_StrictFilter 3).2.2.1 ∈ TB := ⟨by decide, (tb 440 (by decide +kernel) rfl)⟩
theorem lf_StrictFilter_22_StrictFilter : 4 < 5 ∧ Cond.fieldLink "StreamFilters$StrictFilter" 22 "StreamFilters$StrictFilter" (F_StrictFilter 4).2.1 (F_StrictFilter 4).2.2.1 ∈ TB := ⟨by decide, (tb 441 (by decide +kernel) rfl)⟩
theorem lf_TextFilter_15_TextFilter : 4 < 6 ∧ Cond.fieldLink "StreamFilters$TextFilter" 15 "StreamFilters$TextFilter" (F_TextFilter 4).2.1 (F_TextFilter 4).2.2.1 ∈ TB := ⟨by decide, (tb 367 (by decide +kernel) rfl)⟩
theorem lf_TextFilter_19_TextFilter : 5 < 6 ∧ Cond.fieldLink "StreamFilters$TextFilter" 19 "StreamFilters$TextFilter" (F_TextFilter 5).2.1 (F_TextFilter 5).2.2.1 ∈ TB := ⟨by decide, (tb 368 (by decide +kernel) rfl)⟩
theorem lf_TextFilter_9_TextFilter : 3 < 6 ∧ Cond.fieldLink "StreamFilters$TextFilter" 9 "StreamFilters$TextFilter" (F_TextFilter 3).2.1 (F_TextFilter 3).2.2.1 ∈ TB := ⟨by decide, (tb 365 (by decide +kernel) rfl)⟩
theorem cw_DefaultFilter_12 : cwk "StreamFilters$DefaultFilter" 12 y_Filter_init b_Filter_init 4 none 3 := ⟨Or.inl (tb 459 (by decide +kernel) rfl), (tb 363 (by decide +kernel) rfl), (tb 12 (by decide +kernel) rfl), by decide, by decide, by decide +kernel⟩
theorem cw_JoinedFilter_18 : cwk "StreamFilters$JoinedFilter" 18 y_Filter_init b_Filter_init 4 none 3 := ⟨Or.inl (tb 419 (by decide +kernel) rfl), (tb 363 (by decide +kernel) rfl), (tb 12 (by decide +kernel) rfl), by decide, by decide, by decide +kernel⟩
theorem cw_OnlyFilter_12 : cwk "StreamFilters$OnlyFilter" 12 y_Filter_init b_Filter_init 4 none 3 := ⟨Or.inl (tb 480 (by decide +kernel) rfl), (tb 363 (by decide +kernel) rfl), (tb 12 (by decide +kernel) rfl), by decide, by decide, by decide +kernel⟩
theorem cw_StrictFilter_12 : cwk "StreamFilters$StrictFilter" 12 y_Filter_init b_Filter_init 4 none 3 := ⟨Or.inl (tb 439 (by decide +kernel) rfl), (tb 363 (by decide +kernel) rfl), (tb 12 (by decide +kernel) rfl), by decide, by decide, by decide +kernel⟩
theorem cw_TextFilter_3 : cwk "StreamFilters$TextFilter" 3 y_Filter_init b_Filter_init 4 none 3 := ⟨Or.inl (tb 361 (by decide +kernel) rfl), (tb 363 (by decide +kernel) rfl), (tb 12 (by decide +kernel) rfl), by decide, by decide, by decide +kernel⟩
theorem si_Filter_init : Cond.instanceMethod y_Filter_init ∈ TB := (tb 362 (by decide +kernel) rfl)
theorem oi_ClassPattern_3 : Cond.methodLink "StreamFilters$ClassPattern" 3 Lib.objectInit ∈ TB := (tb 331 (by decide +kernel) rfl)
theorem oi_Filter_1 : Cond.methodLink "StreamFilters$Filter" 1 Lib.objectInit ∈ TB := (tb 364 (by decide +kernel) rfl)
theorem oi_PieceReader_3 : Cond.methodLink "StreamFilters$PieceReader" 3 Lib.objectInit ∈ TB := (tb 106 (by decide +kernel) rfl)
theorem l5_DefaultFilter_3 : lnk "StreamFilters$DefaultFilter" 3 F_TextFilter 6 1 ∧ lnk "StreamFilters$DefaultFilter" 3 F_JoinedFilter 5 1 ∧ lnk "StreamFilters$DefaultFilter" 3 F_StrictFilter 5 1 ∧ lnk "StreamFilters$DefaultFilter" 3 F_DefaultFilter 5 1 ∧ lnk "StreamFilters$DefaultFilter" 3 F_OnlyFilter 5 1 := ⟨⟨by decide, "StreamFilters$Filter", Or.inl rfl, Or.inl (tb 373 (by decide +kernel) rfl)⟩, ⟨by decide, "StreamFilters$Filter", Or.inl rfl, Or.inl (tb 373 (by decide +kernel) rfl)⟩, ⟨by decide, "StreamFilters$Filter", Or.inl rfl, Or.inl (tb 373 (by decide +kernel) rfl)⟩, ⟨by decide, "StreamFilters$Filter", Or.inl rfl, Or.inl (tb 373 (by decide +kernel) rfl)⟩, ⟨by decide, "StreamFilters$Filter", Or.inl rfl, Or.inl (tb 373 (by decide +kernel) rfl)⟩⟩
theorem l5_DefaultFilter_9 : lnk "StreamFilters$DefaultFilter" 9 F_TextFilter 6 2 ∧ lnk "StreamFilters$DefaultFilter" 9 F_JoinedFilter 5 2 ∧ lnk "StreamFilters$DefaultFilter" 9 F_StrictFilter 5 2 ∧ lnk "StreamFilters$DefaultFilter" 9 F_DefaultFilter 5 2 ∧ lnk "StreamFilters$DefaultFilter" 9 F_OnlyFilter 5 2 := ⟨⟨by decide, "StreamFilters$Filter", Or.inl rfl, Or.inl (tb 378 (by decide +kernel) rfl)⟩, ⟨by decide, "StreamFilters$Filter", Or.inl rfl, Or.inl (tb 378 (by decide +kernel) rfl)⟩, ⟨by decide, "StreamFilters$Filter", Or.inl rfl, Or.inl (tb 378 (by decide +kernel) rfl)⟩, ⟨by decide, "StreamFilters$Filter", Or.inl rfl, Or.inl (tb 378 (by decide +kernel) rfl)⟩, ⟨by decide, "StreamFilters$Filter", Or.inl rfl, Or.inl (tb 378 (by decide +kernel) rfl)⟩⟩
theorem l5_JoinedFilter_3 : lnk "StreamFilters$JoinedFilter" 3 F_TextFilter 6 1 ∧ lnk "StreamFilters$JoinedFilter" 3 F_JoinedFilter 5 1 ∧ lnk "StreamFilters$JoinedFilter" 3 F_StrictFilter 5 1 ∧ lnk "StreamFilters$JoinedFilter" 3 F_DefaultFilter 5 1 ∧ lnk "StreamFilters$JoinedFilter" 3 F_OnlyFilter 5 1 := ⟨⟨by decide, "StreamFilters$Filter", Or.inl rfl, Or.inl (tb 371 (by decide +kernel) rfl)⟩, ⟨by decide, "StreamFilters$Filter", Or.inl rfl, Or.inl (tb 371 (by decide +kernel) rfl)⟩, ⟨by decide, "StreamFilters$Filter", Or.inl rfl, Or.inl (tb 371 (by decide +kernel) rfl)⟩, ⟨by decide, "StreamFilters$Filter", Or.inl rfl, Or.inl (tb 371 (by decide +kernel) rfl)⟩, ⟨by decide, "StreamFilters$Filter", Or.inl rfl, Or.inl (tb 371 (by decide +kernel) rfl)⟩⟩
theorem l5_JoinedFilter_9 : lnk "StreamFilters$JoinedFilter" 9 F_TextFilter 6 2 ∧ lnk "StreamFilters$JoinedFilter" 9 F_JoinedFilter 5 2 ∧ lnk "StreamFilters$JoinedFilter" 9 F_StrictFilter 5 2 ∧ lnk "StreamFilters$JoinedFilter" 9 F_DefaultFilter 5 2 ∧ lnk "StreamFilters$JoinedFilter" 9 F_OnlyFilter 5 2 := ⟨⟨by decide, "StreamFilters$Filter", Or.inl rfl, Or.inl (tb 380 (by decide +kernel) rfl)⟩, ⟨by decide, "StreamFilters$Filter", Or.inl rfl, Or.inl (tb 380 (by decide +kernel) rfl)⟩, ⟨by decide, "StreamFilters$Filter", Or.inl rfl, Or.inl (tb 380 (by decide +kernel) rfl)⟩, ⟨by decide, "StreamFilters$Filter", Or.inl rfl, Or.inl (tb 380 (by decide +kernel) rfl)⟩, ⟨by decide, "StreamFilters$Filter", Or.inl rfl, Or.inl (tb 380 (by decide +kernel) rfl)⟩⟩
theorem l5_OnlyFilter_3 : lnk "StreamFilters$OnlyFilter" 3 F_TextFilter 6 1 ∧ lnk "StreamFilters$OnlyFilter" 3 F_JoinedFilter 5 1 ∧ lnk "StreamFilters$OnlyFilter" 3 F_StrictFilter 5 1 ∧ lnk "StreamFilters$OnlyFilter" 3 F_DefaultFilter 5 1 ∧ lnk "StreamFilters$OnlyFilter" 3 F_OnlyFilter 5 1 := ⟨⟨by decide, "StreamFilters$Filter", Or.inl rfl, Or.inl (tb 374 (by decide +kernel) rfl)⟩, ⟨by decide, "StreamFilters$Filter", Or.inl rfl, Or.inl (tb 374 (by decide +kernel) rfl)⟩, ⟨by decide, "StreamFilters$Filter", Or.inl rfl, Or.inl (tb 374 (by decide +kernel) rfl)⟩, ⟨by decide, "StreamFilters$Filter", Or.inl rfl, Or.inl (tb 374 (by decide +kernel) rfl)⟩, ⟨by decide, "StreamFilters$Filter", Or.inl rfl, Or.inl (tb 374 (by decide +kernel) rfl)⟩⟩
theorem l5_OnlyFilter_9 : lnk "StreamFilters$OnlyFilter" 9 F_TextFilter 6 2 ∧ lnk "StreamFilters$OnlyFilter" 9 F_JoinedFilter 5 2 ∧ lnk "StreamFilters$OnlyFilter" 9 F_StrictFilter 5 2 ∧ lnk "StreamFilters$OnlyFilter" 9 F_DefaultFilter 5 2 ∧ lnk "StreamFilters$OnlyFilter" 9 F_OnlyFilter 5 2 := ⟨⟨by decide, "StreamFilters$Filter", Or.inl rfl, Or.inl (tb 379 (by decide +kernel) rfl)⟩, ⟨by decide, "StreamFilters$Filter", Or.inl rfl, Or.inl (tb 379 (by decide +kernel) rfl)⟩, ⟨by decide, "StreamFilters$Filter", Or.inl rfl, Or.inl (tb 379 (by decide +kernel) rfl)⟩, ⟨by decide, "StreamFilters$Filter", Or.inl rfl, Or.inl (tb 379 (by decide +kernel) rfl)⟩, ⟨by decide, "StreamFilters$Filter", Or.inl rfl, Or.inl (tb 379 (by decide +kernel) rfl)⟩⟩
theorem l5_StrictFilter_3 : lnk "StreamFilters$StrictFilter" 3 F_TextFilter 6 1 ∧ lnk "StreamFilters$StrictFilter" 3 F_JoinedFilter 5 1 ∧ lnk "StreamFilters$StrictFilter" 3 F_StrictFilter 5 1 ∧ lnk "StreamFilters$StrictFilter" 3 F_DefaultFilter 5 1 ∧ lnk "StreamFilters$StrictFilter" 3 F_OnlyFilter 5 1 := ⟨⟨by decide, "StreamFilters$Filter", Or.inl rfl, Or.inl (tb 372 (by decide +kernel) rfl)⟩, ⟨by decide, "StreamFilters$Filter", Or.inl rfl, Or.inl (tb 372 (by decide +kernel) rfl)⟩, ⟨by decide, "StreamFilters$Filter", Or.inl rfl, Or.inl (tb 372 (by decide +kernel) rfl)⟩, ⟨by decide, "StreamFilters$Filter", Or.inl rfl, Or.inl (tb 372 (by decide +kernel) rfl)⟩, ⟨by decide, "StreamFilters$Filter", Or.inl rfl, Or.inl (tb 372 (by decide +kernel) rfl)⟩⟩
theorem l5_StrictFilter_9 : lnk "StreamFilters$StrictFilter" 9 F_TextFilter 6 2 ∧ lnk "StreamFilters$StrictFilter" 9 F_JoinedFilter 5 2 ∧ lnk "StreamFilters$StrictFilter" 9 F_StrictFilter 5 2 ∧ lnk "StreamFilters$StrictFilter" 9 F_DefaultFilter 5 2 ∧ lnk "StreamFilters$StrictFilter" 9 F_OnlyFilter 5 2 := ⟨⟨by decide, "StreamFilters$Filter", Or.inl rfl, Or.inl (tb 377 (by decide +kernel) rfl)⟩, ⟨by decide, "StreamFilters$Filter", Or.inl rfl, Or.inl (tb 377 (by decide +kernel) rfl)⟩, ⟨by decide, "StreamFilters$Filter", Or.inl rfl, Or.inl (tb 377 (by decide +kernel) rfl)⟩, ⟨by decide, "StreamFilters$Filter", Or.inl rfl, Or.inl (tb 377 (by decide +kernel) rfl)⟩, ⟨by decide, "StreamFilters$Filter", Or.inl rfl, Or.inl (tb 377 (by decide +kernel) rfl)⟩⟩
theorem mm_JoinedFilter_12 : Cond.methodLink "StreamFilters$JoinedFilter" 12 Lib.Math.max.name ∈ TB := (tb 418 (by decide +kernel) rfl)
/-! decode rows -/
theorem d_PieceReader_init_0 : decode b_PieceReader_init 0 = .ok (.aload_n 0, 1) := by decide +kernel
theorem d_PieceReader_init_1 : decode b_PieceReader_init 1 = .ok (.invokespecial 3, 3) := by decide +kernel
theorem d_PieceReader_init_4 : decode b_PieceReader_init 4 = .ok (.aload_n 0, 1) := by decide +kernel
theorem d_PieceReader_init_5 : decode b_PieceReader_init 5 = .ok (.aload_n 1, 1) := by decide +kernel
theorem d_PieceReader_init_6 : decode b_PieceReader_init 6 = .ok (.putfield 9, 3) := by decide +kernel
theorem d_PieceReader_init_9 : decode b_PieceReader_init 9 = .ok (.return_, 1) := by decide +kernel
theorem d_ClassPattern_init_0 : decode b_ClassPattern_init 0 = .ok (.aload_n 0, 1) := by decide +kernel
theorem d_ClassPattern_init_1 : decode b_ClassPattern_init 1 = .ok (.invokespecial 3, 3) := by decide +kernel
theorem d_ClassPattern_init_4 : decode b_ClassPattern_init 4 = .ok (.aload_n 0, 1) := by decide +kernel
theorem d_ClassPattern_init_5 : decode b_ClassPattern_init 5 = .ok (.aload_n 1, 1) := by decide +kernel
theorem d_ClassPattern_init_6 : decode b_ClassPattern_init 6 = .ok (.putfield 9, 3) := by decide +kernel
theorem d_ClassPattern_init_9 : decode b_ClassPattern_init 9 = .ok (.aload_n 0, 1) := by decide +kernel
theorem d_ClassPattern_init_10 : decode b_ClassPattern_init 10 = .ok (.aload_n 2, 1) := by decide +kernel
theorem d_ClassPattern_init_11 : decode b_ClassPattern_init 11 = .ok (.getfield 15, 3) := by decide +kernel
theorem d_ClassPattern_init_14 : decode b_ClassPattern_init 14 = .ok (.putfield 21, 3) := by decide +kernel
theorem d_ClassPattern_init_17 : decode b_ClassPattern_init 17 = .ok (.aload_n 0, 1) := by decide +kernel
theorem d_ClassPattern_init_18 : decode b_ClassPattern_init 18 = .ok (.aload_n 2, 1) := by decide +kernel
theorem d_ClassPattern_init_19 : decode b_ClassPattern_init 19 = .ok (.getfield 22, 3) := by decide +kernel
theorem d_ClassPattern_init_22 : decode b_ClassPattern_init 22 = .ok (.putfield 26, 3) := by decide +kernel
theorem d_ClassPattern_init_25 : decode b_ClassPattern_init 25 = .ok (.aload_n 0, 1) := by decide +kernel
theorem d_ClassPattern_init_26 : decode b_ClassPattern_init 26 = .ok (.aload_n 2, 1) := by decide +kernel
theorem d_ClassPattern_init_27 : decode b_ClassPattern_init 27 = .ok (.getfield 27, 3) := by decide +kernel
theorem d_ClassPattern_init_30 : decode b_ClassPattern_init 30 = .ok (.putfield 30, 3) := by decide +kernel
theorem d_ClassPattern_init_33 : decode b_ClassPattern_init 33 = .ok (.aload_n 0, 1) := by decide +kernel
theorem d_ClassPattern_init_34 : decode b_ClassPattern_init 34 = .ok (.aload_n 2, 1) := by decide +kernel
theorem d_ClassPattern_init_35 : decode b_ClassPattern_init 35 = .ok (.getfield 31, 3) := by decide +kernel
theorem d_ClassPattern_init_38 : decode b_ClassPattern_init 38 = .ok (.putfield 34, 3) := by decide +kernel
theorem d_ClassPattern_init_41 : decode b_ClassPattern_init 41 = .ok (.aload_n 0, 1) := by decide +kernel
theorem d_ClassPattern_init_42 : decode b_ClassPattern_init 42 = .ok (.aload_n 2, 1) := by decide +kernel
theorem d_ClassPattern_init_43 : decode b_ClassPattern_init 43 = .ok (.getfield 35, 3) := by decide +kernel
theorem d_ClassPattern_init_46 : decode b_ClassPattern_init 46 = .ok (.putfield 38, 3) := by decide +kernel
theorem d_ClassPattern_init_49 : decode b_ClassPattern_init 49 = .ok (.aload_n 0, 1) := by decide +kernel
theorem d_ClassPattern_init_50 : decode b_ClassPattern_init 50 = .ok (.aload_n 2, 1) := by decide +kernel
theorem d_ClassPattern_init_51 : decode b_ClassPattern_init 51 = .ok (.getfield 39, 3) := by decide +kernel
theorem d_ClassPattern_init_54 : decode b_ClassPattern_init 54 = .ok (.putfield 42, 3) := by decide +kernel
theorem d_ClassPattern_init_57 : decode b_ClassPattern_init 57 = .ok (.return_, 1) := by decide +kernel
theorem d_TextFilter_init_0 : decode b_TextFilter_init 0 = .ok (.aload_n 0, 1) := by decide +kernel
theorem d_TextFilter_init_1 : decode b_TextFilter_init 1 = .ok (.iconst 1, 1) := by decide +kernel
theorem d_TextFilter_init_2 : decode b_TextFilter_init 2 = .ok (.iconst 1, 1) := by decide +kernel
theorem d_TextFilter_init_3 : decode b_TextFilter_init 3 = .ok (.iconst 1, 1) := by decide +kernel
theorem d_TextFilter_init_4 : decode b_TextFilter_init 4 = .ok (.invokespecial 3, 3) := by decide +kernel
theorem d_TextFilter_init_7 : decode b_TextFilter_init 7 = .ok (.aload_n 0, 1) := by decide +kernel
theorem d_TextFilter_init_8 : decode b_TextFilter_init 8 = .ok (.iload_n 1, 1) := by decide +kernel
theorem d_TextFilter_init_9 : decode b_TextFilter_init 9 = .ok (.putfield 9, 3) := by decide +kernel
theorem d_TextFilter_init_12 : decode b_TextFilter_init 12 = .ok (.aload_n 0, 1) := by decide +kernel
theorem d_TextFilter_init_13 : decode b_TextFilter_init 13 = .ok (.aload_n 2, 1) := by decide +kernel
theorem d_TextFilter_init_14 : decode b_TextFilter_init 14 = .ok (.putfield 15, 3) := by decide +kernel
theorem d_TextFilter_init_17 : decode b_TextFilter_init 17 = .ok (.aload_n 0, 1) := by decide +kernel
theorem d_TextFilter_init_18 : decode b_TextFilter_init 18 = .ok (.aload_n 3, 1) := by decide +kernel
theorem d_TextFilter_init_19 : decode b_TextFilter_init 19 = .ok (.putfield 19, 3) := by decide +kernel
theorem d_TextFilter_init_22 : decode b_TextFilter_init 22 = .ok (.return_, 1) := by decide +kernel
theorem d_Filter_init_0 : decode b_Filter_init 0 = .ok (.aload_n 0, 1) := by decide +kernel
theorem d_Filter_init_1 : decode b_Filter_init 1 = .ok (.invokespecial 1, 3) := by decide +kernel
theorem d_Filter_init_4 : decode b_Filter_init 4 = .ok (.aload_n 0, 1) := by decide +kernel
theorem d_Filter_init_5 : decode b_Filter_init 5 = .ok (.iload_n 1, 1) := by decide +kernel
theorem d_Filter_init_6 : decode b_Filter_init 6 = .ok (.putfield 7, 3) := by decide +kernel
theorem d_Filter_init_9 : decode b_Filter_init 9 = .ok (.aload_n 0, 1) := by decide +kernel
theorem d_Filter_init_10 : decode b_Filter_init 10 = .ok (.iload_n 2, 1) := by decide +kernel
theorem d_Filter_init_11 : decode b_Filter_init 11 = .ok (.putfield 13, 3) := by decide +kernel
theorem d_Filter_init_14 : decode b_Filter_init 14 = .ok (.aload_n 0, 1) := by decide +kernel
theorem d_Filter_init_15 : decode b_Filter_init 15 = .ok (.iload_n 3, 1) := by decide +kernel
theorem d_Filter_init_16 : decode b_Filter_init 16 = .ok (.putfield 16, 3) := by decide +kernel
theorem d_Filter_init_19 : decode b_Filter_init 19 = .ok (.return_, 1) := by decide +kernel
theorem d_JoinedFilter_init_0 : decode b_JoinedFilter_init 0 = .ok (.aload_n 0, 1) := by decide +kernel
theorem d_JoinedFilter_init_1 : decode b_JoinedFilter_init 1 = .ok (.iconst 2, 1) := by decide +kernel
theorem d_JoinedFilter_init_2 : decode b_JoinedFilter_init 2 = .ok (.aload_n 1, 1) := by decide +kernel
theorem d_JoinedFilter_init_3 : decode b_JoinedFilter_init 3 = .ok (.getfield 3, 3) := by decide +kernel
theorem d_JoinedFilter_init_6 : decode b_JoinedFilter_init 6 = .ok (.aload_n 2, 1) := by decide +kernel
theorem d_JoinedFilter_init_7 : decode b_JoinedFilter_init 7 = .ok (.getfield 3, 3) := by decide +kernel
theorem d_JoinedFilter_init_10 : decode b_JoinedFilter_init 10 = .ok (.iadd, 1) := by decide +kernel
theorem d_JoinedFilter_init_11 : decode b_JoinedFilter_init 11 = .ok (.iconst 1, 1) := by decide +kernel
theorem d_JoinedFilter_init_12 : decode b_JoinedFilter_init 12 = .ok (.aload_n 1, 1) := by decide +kernel
theorem d_JoinedFilter_init_13 : decode b_JoinedFilter_init 13 = .ok (.getfield 9, 3) := by decide +kernel
theorem d_JoinedFilter_init_16 : decode b_JoinedFilter_init 16 = .ok (.aload_n 2, 1) := by decide +kernel
theorem d_JoinedFilter_init_17 : decode b_JoinedFilter_init 17 = .ok (.getfield 9, 3) := by decide +kernel
theorem d_JoinedFilter_init_20 : decode b_JoinedFilter_init 20 = .ok (.invokestatic 12, 3) := by decide +kernel
theorem d_JoinedFilter_init_23 : decode b_JoinedFilter_init 23 = .ok (.iadd, 1) := by decide +kernel
theorem d_JoinedFilter_init_24 : decode b_JoinedFilter_init 24 = .ok (.invokespecial 18, 3) := by decide +kernel
theorem d_JoinedFilter_init_27 : decode b_JoinedFilter_init 27 = .ok (.aload_n 0, 1) := by decide +kernel
theorem d_JoinedFilter_init_28 : decode b_JoinedFilter_init 28 = .ok (.aload_n 1, 1) := by decide +kernel
theorem d_JoinedFilter_init_29 : decode b_JoinedFilter_init 29 = .ok (.putfield 22, 3) := by decide +kernel
theorem d_JoinedFilter_init_32 : decode b_JoinedFilter_init 32 = .ok (.aload_n 0, 1) := by decide +kernel
theorem d_JoinedFilter_init_33 : decode b_JoinedFilter_init 33 = .ok (.aload_n 2, 1) := by decide +kernel
theorem d_JoinedFilter_init_34 : decode b_JoinedFilter_init 34 = .ok (.putfield 28, 3) := by decide +kernel
theorem d_JoinedFilter_init_37 : decode b_JoinedFilter_init 37 = .ok (.return_, 1) := by decide +kernel
theorem d_StrictFilter_init_0 : decode b_StrictFilter_init 0 = .ok (.aload_n 0, 1) := by decide +kernel
theorem d_StrictFilter_init_1 : decode b_StrictFilter_init 1 = .ok (.iconst 3, 1) := by decide +kernel
theorem d_StrictFilter_init_2 : decode b_StrictFilter_init 2 = .ok (.aload_n 1, 1) := by decide +kernel
theorem d_StrictFilter_init_3 : decode b_StrictFilter_init 3 = .ok (.getfield 3, 3) := by decide +kernel
theorem d_StrictFilter_init_6 : decode b_StrictFilter_init 6 = .ok (.iconst 1, 1) := by decide +kernel
theorem d_StrictFilter_init_7 : decode b_StrictFilter_init 7 = .ok (.aload_n 1, 1) := by decide +kernel
theorem d_StrictFilter_init_8 : decode b_StrictFilter_init 8 = .ok (.getfield 9, 3) := by decide +kernel
theorem d_StrictFilter_init_11 : decode b_StrictFilter_init 11 = .ok (.iadd, 1) := by decide +kernel
theorem d_StrictFilter_init_12 : decode b_StrictFilter_init 12 = .ok (.invokespecial 12, 3) := by decide +kernel
theorem d_StrictFilter_init_15 : decode b_StrictFilter_init 15 = .ok (.aload_n 0, 1) := by decide +kernel
theorem d_StrictFilter_init_16 : decode b_StrictFilter_init 16 = .ok (.aload_n 1, 1) := by decide +kernel
theorem d_StrictFilter_init_17 : decode b_StrictFilter_init 17 = .ok (.putfield 16, 3) := by decide +kernel
theorem d_StrictFilter_init_20 : decode b_StrictFilter_init 20 = .ok (.aload_n 0, 1) := by decide +kernel
theorem d_StrictFilter_init_21 : decode b_StrictFilter_init 21 = .ok (.iload_n 2, 1) := by decide +kernel
theorem d_StrictFilter_init_22 : decode b_StrictFilter_init 22 = .ok (.putfield 22, 3) := by decide +kernel
theorem d_StrictFilter_init_25 : decode b_StrictFilter_init 25 = .ok (.return_, 1) := by decide +kernel
theorem d_DefaultFilter_init_0 : decode b_DefaultFilter_init 0 = .ok (.aload_n 0, 1) := by decide +kernel
theorem d_DefaultFilter_init_1 : decode b_DefaultFilter_init 1 = .ok (.iconst 4, 1) := by decide +kernel
theorem d_DefaultFilter_init_2 : decode b_DefaultFilter_init 2 = .ok (.aload_n 1, 1) := by decide +kernel
theorem d_DefaultFilter_init_3 : decode b_DefaultFilter_init 3 = .ok (.getfield 3, 3) := by decide +kernel
theorem d_DefaultFilter_init_6 : decode b_DefaultFilter_init 6 = .ok (.iconst 1, 1) := by decide +kernel
theorem d_DefaultFilter_init_7 : decode b_DefaultFilter_init 7 = .ok (.aload_n 1, 1) := by decide +kernel
theorem d_DefaultFilter_init_8 : decode b_DefaultFilter_init 8 = .ok (.getfield 9, 3) := by decide +kernel
theorem d_DefaultFilter_init_11 : decode b_DefaultFilter_init 11 = .ok (.iadd, 1) := by decide +kernel
theorem d_DefaultFilter_init_12 : decode b_DefaultFilter_init 12 = .ok (.invokespecial 12, 3) := by decide +kernel
theorem d_DefaultFilter_init_15 : decode b_DefaultFilter_init 15 = .ok (.aload_n 0, 1) := by decide +kernel
theorem d_DefaultFilter_init_16 : decode b_DefaultFilter_init 16 = .ok (.aload_n 1, 1) := by decide +kernel
theorem d_DefaultFilter_init_17 : decode b_DefaultFilter_init 17 = .ok (.putfield 16, 3) := by decide +kernel
theorem d_DefaultFilter_init_20 : decode b_DefaultFilter_init 20 = .ok (.aload_n 0, 1) := by decide +kernel
theorem d_DefaultFilter_init_21 : decode b_DefaultFilter_init 21 = .ok (.iload_n 2, 1) := by decide +kernel
theorem d_DefaultFilter_init_22 : decode b_DefaultFilter_init 22 = .ok (.putfield 22, 3) := by decide +kernel
theorem d_DefaultFilter_init_25 : decode b_DefaultFilter_init 25 = .ok (.return_, 1) := by decide +kernel
theorem d_OnlyFilter_init_0 : decode b_OnlyFilter_init 0 = .ok (.aload_n 0, 1) := by decide +kernel
theorem d_OnlyFilter_init_1 : decode b_OnlyFilter_init 1 = .ok (.iconst 5, 1) := by decide +kernel
theorem d_OnlyFilter_init_2 : decode b_OnlyFilter_init 2 = .ok (.aload_n 1, 1) := by decide +kernel
theorem d_OnlyFilter_init_3 : decode b_OnlyFilter_init 3 = .ok (.getfield 3, 3) := by decide +kernel
theorem d_OnlyFilter_init_6 : decode b_OnlyFilter_init 6 = .ok (.iconst 1, 1) := by decide +kernel
theorem d_OnlyFilter_init_7 : decode b_OnlyFilter_init 7 = .ok (.aload_n 1, 1) := by decide +kernel
theorem d_OnlyFilter_init_8 : decode b_OnlyFilter_init 8 = .ok (.getfield 9, 3) := by decide +kernel
theorem d_OnlyFilter_init_11 : decode b_OnlyFilter_init 11 = .ok (.iadd, 1) := by decide +kernel
theorem d_OnlyFilter_init_12 : decode b_OnlyFilter_init 12 = .ok (.invokespecial 12, 3) := by decide +kernel
theorem d_OnlyFilter_init_15 : decode b_OnlyFilter_init 15 = .ok (.aload_n 0, 1) := by decide +kernel
theorem d_OnlyFilter_init_16 : decode b_OnlyFilter_init 16 = .ok (.aload_n 1, 1) := by decide +kernel
theorem d_OnlyFilter_init_17 : decode b_OnlyFilter_init 17 = .ok (.putfield 16, 3) := by decide +kernel
theorem d_OnlyFilter_init_20 : decode b_OnlyFilter_init 20 = .ok (.aload_n 0, 1) := by decide +kernel
theorem d_OnlyFilter_init_21 : decode b_OnlyFilter_init 21 = .ok (.aload_n 2, 1) := by decide +kernel
theorem d_OnlyFilter_init_22 : decode b_OnlyFilter_init 22 = .ok (.putfield 22, 3) := by decide +kernel
theorem d_OnlyFilter_init_25 : decode b_OnlyFilter_init 25 = .ok (.return_, 1) := by decide +kernel
theorem d_Question_begin_0 : decode b_Question_begin 0 = .ok (.aload_n 0, 1) := by decide +kernel
theorem d_Question_begin_1 : decode b_Question_begin 1 = .ok (.iload_n 1, 1) := by decide +kernel
theorem d_Question_begin_2 : decode b_Question_begin 2 = .ok (.putfield 27, 3) := by decide +kernel
theorem d_Question_begin_5 : decode b_Question_begin 5 = .ok (.aload_n 0, 1) := by decide +kernel
theorem d_Question_begin_6 : decode b_Question_begin 6 = .ok (.iload_n 2, 1) := by decide +kernel
theorem d_Question_begin_7 : decode b_Question_begin 7 = .ok (.putfield 30, 3) := by decide +kernel
theorem d_Question_begin_10 : decode b_Question_begin 10 = .ok (.aload_n 0, 1) := by decide +kernel
theorem d_Question_begin_11 : decode b_Question_begin 11 = .ok (.iload_n 3, 1) := by decide +kernel
theorem d_Question_begin_12 : decode b_Question_begin 12 = .ok (.putfield 33, 3) := by decide +kernel
theorem d_Question_begin_15 : decode b_Question_begin 15 = .ok (.aload_n 0, 1) := by decide +kernel
theorem d_Question_begin_16 : decode b_Question_begin 16 = .ok (.iconst 0, 1) := by decide +kernel
theorem d_Question_begin_17 : decode b_Question_begin 17 = .ok (.putfield 36, 3) := by decide +kernel
theorem d_Question_begin_20 : decode b_Question_begin 20 = .ok (.aload_n 0, 1) := by decide +kernel
theorem d_Question_begin_21 : decode b_Question_begin 21 = .ok (.iconst 0, 1) := by decide +kernel
theorem d_Question_begin_22 : decode b_Question_begin 22 = .ok (.putfield 39, 3) := by decide +kernel
theorem d_Question_begin_25 : decode b_Question_begin 25 = .ok (.aload_n 0, 1) := by decide +kernel
theorem d_Question_begin_26 : decode b_Question_begin 26 = .ok (.bipush (-2), 2) := by decide +kernel
theorem d_Question_begin_28 : decode b_Question_begin 28 = .ok (.putfield 23, 3) := by decide +kernel
theorem d_Question_begin_31 : decode b_Question_begin 31 = .ok (.return_, 1) := by decide +kernel
set_option maxHeartbeats 4000000 in
set_option maxRecDepth 100000 in
/-- Filter(k, l, h) on a TextFilter -/
theorem c_Filter_init_TextFilter (G : GG) (l : Launch) (sz : Nat) (f : Wd) {a : Nat} (ha : f a = some (.inr (5, [.int 0, .int 0, .int 0, .int 0, .null, .null]))) (kk ll hh : Int32) : Cv G l y_Filter_init b_Filter_init 4 none ({ frames := 1, cells := 0, slots := 0, locals := 12 }) sz f [.ref a, .int kk, .int ll, .int hh] (fun f' => f' = va_up f a (some (.inr (5, [.int kk, .int ll, .int hh, .int 0, .null, .null])))) := by
  refine ct_of (by decide) (Nat.le_of_ble_eq_true rfl) ?_
  intro p e s m below meth c ls H locs hEn
  obtain ⟨hc, hr, hlk, hin, hE, hw, hsz, hl⟩ := hEn
  have hx := hc.1
  have hb := hc.2.1
  have hl : lv_has ls 4 [(0, .ref a), (1, .int kk), (2, .int ll), (3, .int hh)] := hl
  refine lv_aload_n hx hb d_Filter_init_0 rfl (lv_at hl 0 rfl) ?_
  refine m_objInit hc oi_Filter_1 oi_w hl.1 d_Filter_init_1 (Nat.le_of_ble_eq_true rfl) (Nat.le_of_ble_eq_true rfl) ?_
  refine lv_aload_n hx hb d_Filter_init_4 rfl (lv_at hl 0 rfl) ?_
  refine lv_iload_n hx hb d_Filter_init_5 rfl (lv_at hl 1 rfl) ?_
  refine m_putF hc hE hw hin ha kc_TextFilter lf_Filter_7_TextFilter rfl rfl ds_TextFilter_0 rfl rfl (Nat.le_of_ble_eq_true rfl) d_Filter_init_6 (fun H locs hw => ?_)
  obtain ⟨f1, ef1⟩ : ∃ z : Wd, z = va_up f a (some (.inr (5, [.int kk, .int 0, .int 0, .int 0, .null, .null]))) := ⟨_, rfl⟩
  replace hw : ms G.1 (Af f sz) f1 s H locs := by rw [ef1]; exact hw
  have h2 : f1 a = some (.inr (5, [.int kk, .int 0, .int 0, .int 0, .null, .null])) := by rw [ef1, va_up_self]
  refine lv_aload_n hx hb d_Filter_init_9 rfl (lv_at hl 0 rfl) ?_
  refine lv_iload_n hx hb d_Filter_init_10 rfl (lv_at hl 2 rfl) ?_
  refine m_putF hc hE hw hin h2 kc_TextFilter lf_Filter_13_TextFilter rfl rfl ds_TextFilter_1 rfl rfl (Nat.le_of_ble_eq_true rfl) d_Filter_init_11 (fun H locs hw => ?_)
  obtain ⟨f3, ef3⟩ : ∃ z : Wd, z = va_up f1 a (some (.inr (5, [.int kk, .int ll, .int 0, .int 0, .null, .null]))) := ⟨_, rfl⟩
  replace hw : ms G.1 (Af f sz) f3 s H locs := by rw [ef3]; exact hw
  have h4 : f3 a = some (.inr (5, [.int kk, .int ll, .int 0, .int 0, .null, .null])) := by rw [ef3, va_up_self]
  refine lv_aload_n hx hb d_Filter_init_14 rfl (lv_at hl 0 rfl) ?_
  refine lv_iload_n hx hb d_Filter_init_15 rfl (lv_at hl 3 rfl) ?_
  refine m_putF hc hE hw hin h4 kc_TextFilter lf_Filter_16_TextFilter rfl rfl ds_TextFilter_2 rfl rfl (Nat.le_of_ble_eq_true rfl) d_Filter_init_16 (fun H locs hw => ?_)
  obtain ⟨f5, ef5⟩ : ∃ z : Wd, z = va_up f3 a (some (.inr (5, [.int kk, .int ll, .int hh, .int 0, .null, .null]))) := ⟨_, rfl⟩
  replace hw : ms G.1 (Af f sz) f5 s H locs := by rw [ef5]; exact hw
  have h6 : f5 a = some (.inr (5, [.int kk, .int ll, .int hh, .int 0, .null, .null])) := by rw [ef5, va_up_self]
  exact m_vret hc hr hlk hw ⟨by first | decide | (dsimp only; omega), by first | decide | (dsimp only; omega)⟩ d_Filter_init_19 (by rw [ef5, ef3, up_uu, ef1, up_uu])

set_option maxHeartbeats 4000000 in
set_option maxRecDepth 100000 in
/-- Filter(k, l, h) on a JoinedFilter -/
theorem c_Filter_init_JoinedFilter (G : GG) (l : Launch) (sz : Nat) (f : Wd) {a : Nat} (ha : f a = some (.inr (6, [.int 0, .int 0, .int 0, .null, .null]))) (kk ll hh : Int32) : Cv G l y_Filter_init b_Filter_init 4 none ({ frames := 1, cells := 0, slots := 0, locals := 12 }) sz f [.ref a, .int kk, .int ll, .int hh] (fun f' => f' = va_up f a (some (.inr (6, [.int kk, .int ll, .int hh, .null, .null])))) := by
  refine ct_of (by decide) (Nat.le_of_ble_eq_true rfl) ?_
  intro p e s m below meth c ls H locs hEn
  obtain ⟨hc, hr, hlk, hin, hE, hw, hsz, hl⟩ := hEn
  have hx := hc.1
  have hb := hc.2.1
  have hl : lv_has ls 4 [(0, .ref a), (1, .int kk), (2, .int ll), (3, .int hh)] := hl
  refine lv_aload_n hx hb d_Filter_init_0 rfl (lv_at hl 0 rfl) ?_
  refine m_objInit hc oi_Filter_1 oi_w hl.1 d_Filter_init_1 (Nat.le_of_ble_eq_true rfl) (Nat.le_of_ble_eq_true rfl) ?_
  refine lv_aload_n hx hb d_Filter_init_4 rfl (lv_at hl 0 rfl) ?_
  refine lv_iload_n hx hb d_Filter_init_5 rfl (lv_at hl 1 rfl) ?_
  refine m_putF hc hE hw hin ha kc_JoinedFilter lf_Filter_7_JoinedFilter rfl rfl ds_JoinedFilter_0 rfl rfl (Nat.le_of_ble_eq_true rfl) d_Filter_init_6 (fun H locs hw => ?_)
  obtain ⟨f1, ef1⟩ : ∃ z : Wd, z = va_up f a (some (.inr (6, [.int kk, .int 0, .int 0, .null, .null]))) := ⟨_, rfl⟩
  replace hw : ms G.1 (Af f sz) f1 s H locs := by rw [ef1]; exact hw
  have h2 : f1 a = some (.inr (6, [.int kk, .int 0, .int 0, .null, .null])) := by rw [ef1, va_up_self]
  refine lv_aload_n hx hb d_Filter_init_9 rfl (lv_at hl 0 rfl) ?_
  refine lv_iload_n hx hb d_Filter_init_10 rfl (lv_at hl 2 rfl) ?_
  refine m_putF hc hE hw hin h2 kc_JoinedFilter lf_Filter_13_JoinedFilter rfl rfl ds_JoinedFilter_1 rfl rfl (Nat.le_of_ble_eq_true rfl) d_Filter_init_11 (fun H locs hw => ?_)
  obtain ⟨f3, ef3⟩ : ∃ z : Wd, z = va_up f1 a (some (.inr (6, [.int kk, .int ll, .int 0, .null, .null]))) := ⟨_, rfl⟩
  replace hw : ms G.1 (Af f sz) f3 s H locs := by rw [ef3]; exact hw
  have h4 : f3 a = some (.inr (6, [.int kk, .int ll, .int 0, .null, .null])) := by rw [ef3, va_up_self]
  refine lv_aload_n hx hb d_Filter_init_14 rfl (lv_at hl 0 rfl) ?_
  refine lv_iload_n hx hb d_Filter_init_15 rfl (lv_at hl 3 rfl) ?_
  refine m_putF hc hE hw hin h4 kc_JoinedFilter lf_Filter_16_JoinedFilter rfl rfl ds_JoinedFilter_2 rfl rfl (Nat.le_of_ble_eq_true rfl) d_Filter_init_16 (fun H locs hw => ?_)
  obtain ⟨f5, ef5⟩ : ∃ z : Wd, z = va_up f3 a (some (.inr (6, [.int kk, .int ll, .int hh, .null, .null]))) := ⟨_, rfl⟩
  replace hw : ms G.1 (Af f sz) f5 s H locs := by rw [ef5]; exact hw
  have h6 : f5 a = some (.inr (6, [.int kk, .int ll, .int hh, .null, .null])) := by rw [ef5, va_up_self]
  exact m_vret hc hr hlk hw ⟨by first | decide | (dsimp only; omega), by first | decide | (dsimp only; omega)⟩ d_Filter_init_19 (by rw [ef5, ef3, up_uu, ef1, up_uu])

set_option maxHeartbeats 4000000 in
set_option maxRecDepth 100000 in
/-- Filter(k, l, h) on a StrictFilter -/
theorem c_Filter_init_StrictFilter (G : GG) (l : Launch) (sz : Nat) (f : Wd) {a : Nat} (ha : f a = some (.inr (7, [.int 0, .int 0, .int 0, .null, .int 0]))) (kk ll hh : Int32) : Cv G l y_Filter_init b_Filter_init 4 none ({ frames := 1, cells := 0, slots := 0, locals := 12 }) sz f [.ref a, .int kk, .int ll, .int hh] (fun f' => f' = va_up f a (some (.inr (7, [.int kk, .int ll, .int hh, .null, .int 0])))) := by
  refine ct_of (by decide) (Nat.le_of_ble_eq_true rfl) ?_
  intro p e s m below meth c ls H locs hEn
  obtain ⟨hc, hr, hlk, hin, hE, hw, hsz, hl⟩ := hEn
  have hx := hc.1
  have hb := hc.2.1
  have hl : lv_has ls 4 [(0, .ref a), (1, .int kk), (2, .int ll), (3, .int hh)] := hl
  refine lv_aload_n hx hb d_Filter_init_0 rfl (lv_at hl 0 rfl) ?_
  refine m_objInit hc oi_Filter_1 oi_w hl.1 d_Filter_init_1 (Nat.le_of_ble_eq_true rfl) (Nat.le_of_ble_eq_true rfl) ?_
  refine lv_aload_n hx hb d_Filter_init_4 rfl (lv_at hl 0 rfl) ?_
  refine lv_iload_n hx hb d_Filter_init_5 rfl (lv_at hl 1 rfl) ?_
  refine m_putF hc hE hw hin ha kc_StrictFilter lf_Filter_7_StrictFilter rfl rfl ds_StrictFilter_0 rfl rfl (Nat.le_of_ble_eq_true rfl) d_Filter_init_6 (fun H locs hw => ?_)
  obtain ⟨f1, ef1⟩ : ∃ z : Wd, z = va_up f a (some (.inr (7, [.int kk, .int 0, .int 0, .null, .int 0]))) := ⟨_, rfl⟩
  replace hw : ms G.1 (Af f sz) f1 s H locs := by rw [ef1]; exact hw
  have h2 : f1 a = some (.inr (7, [.int kk, .int 0, .int 0, .null, .int 0])) := by rw [ef1, va_up_self]
  refine lv_aload_n hx hb d_Filter_init_9 rfl (lv_at hl 0 rfl) ?_
  refine lv_iload_n hx hb d_Filter_init_10 rfl (lv_at hl 2 rfl) ?_
  refine m_putF hc hE hw hin h2 kc_StrictFilter lf_Filter_13_StrictFilter rfl rfl ds_StrictFilter_1 rfl rfl (Nat.le_of_ble_eq_true rfl) d_Filter_init_11 (fun H locs hw => ?_)
  obtain ⟨f3, ef3⟩ : ∃ z : Wd, z = va_up f1 a (some (.inr (7, [.int kk, .int ll, .int 0, .null, .int 0]))) := ⟨_, rfl⟩
  replace hw : ms G.1 (Af f sz) f3 s H locs := by rw [ef3]; exact hw
  have h4 : f3 a = some (.inr (7, [.int kk, .int ll, .int 0, .null, .int 0])) := by rw [ef3, va_up_self]
  refine lv_aload_n hx hb d_Filter_init_14 rfl (lv_at hl 0 rfl) ?_
  refine lv_iload_n hx hb d_Filter_init_15 rfl (lv_at hl 3 rfl) ?_
  refine m_putF hc hE hw hin h4 kc_StrictFilter lf_Filter_16_StrictFilter rfl rfl ds_StrictFilter_2 rfl rfl (Nat.le_of_ble_eq_true rfl) d_Filter_init_16 (fun H locs hw => ?_)
  obtain ⟨f5, ef5⟩ : ∃ z : Wd, z = va_up f3 a (some (.inr (7, [.int kk, .int ll, .int hh, .null, .int 0]))) := ⟨_, rfl⟩
  replace hw : ms G.1 (Af f sz) f5 s H locs := by rw [ef5]; exact hw
  have h6 : f5 a = some (.inr (7, [.int kk, .int ll, .int hh, .null, .int 0])) := by rw [ef5, va_up_self]
  exact m_vret hc hr hlk hw ⟨by first | decide | (dsimp only; omega), by first | decide | (dsimp only; omega)⟩ d_Filter_init_19 (by rw [ef5, ef3, up_uu, ef1, up_uu])

set_option maxHeartbeats 4000000 in
set_option maxRecDepth 100000 in
/-- Filter(k, l, h) on a DefaultFilter -/
theorem c_Filter_init_DefaultFilter (G : GG) (l : Launch) (sz : Nat) (f : Wd) {a : Nat} (ha : f a = some (.inr (8, [.int 0, .int 0, .int 0, .null, .int 0]))) (kk ll hh : Int32) : Cv G l y_Filter_init b_Filter_init 4 none ({ frames := 1, cells := 0, slots := 0, locals := 12 }) sz f [.ref a, .int kk, .int ll, .int hh] (fun f' => f' = va_up f a (some (.inr (8, [.int kk, .int ll, .int hh, .null, .int 0])))) := by
  refine ct_of (by decide) (Nat.le_of_ble_eq_true rfl) ?_
  intro p e s m below meth c ls H locs hEn
  obtain ⟨hc, hr, hlk, hin, hE, hw, hsz, hl⟩ := hEn
  have hx := hc.1
  have hb := hc.2.1
  have hl : lv_has ls 4 [(0, .ref a), (1, .int kk), (2, .int ll), (3, .int hh)] := hl
  refine lv_aload_n hx hb d_Filter_init_0 rfl (lv_at hl 0 rfl) ?_
  refine m_objInit hc oi_Filter_1 oi_w hl.1 d_Filter_init_1 (Nat.le_of_ble_eq_true rfl) (Nat.le_of_ble_eq_true rfl) ?_
  refine lv_aload_n hx hb d_Filter_init_4 rfl (lv_at hl 0 rfl) ?_
  refine lv_iload_n hx hb d_Filter_init_5 rfl (lv_at hl 1 rfl) ?_
  refine m_putF hc hE hw hin ha kc_DefaultFilter lf_Filter_7_DefaultFilter rfl rfl ds_DefaultFilter_0 rfl rfl (Nat.le_of_ble_eq_true rfl) d_Filter_init_6 (fun H locs hw => ?_)
  obtain ⟨f1, ef1⟩ : ∃ z : Wd, z = va_up f a (some (.inr (8, [.int kk, .int 0, .int 0, .null, .int 0]))) := ⟨_, rfl⟩
  replace hw : ms G.1 (Af f sz) f1 s H locs := by rw [ef1]; exact hw
  have h2 : f1 a = some (.inr (8, [.int kk, .int 0, .int 0, .null, .int 0])) := by rw [ef1, va_up_self]
  refine lv_aload_n hx hb d_Filter_init_9 rfl (lv_at hl 0 rfl) ?_
  refine lv_iload_n hx hb d_Filter_init_10 rfl (lv_at hl 2 rfl) ?_
  refine m_putF hc hE hw hin h2 kc_DefaultFilter lf_Filter_13_DefaultFilter rfl rfl ds_DefaultFilter_1 rfl rfl (Nat.le_of_ble_eq_true rfl) d_Filter_init_11 (fun H locs hw => ?_)
  obtain ⟨f3, ef3⟩ : ∃ z : Wd, z = va_up f1 a (some (.inr (8, [.int kk, .int ll, .int 0, .null, .int 0]))) := ⟨_, rfl⟩
  replace hw : ms G.1 (Af f sz) f3 s H locs := by rw [ef3]; exact hw
  have h4 : f3 a = some (.inr (8, [.int kk, .int ll, .int 0, .null, .int 0])) := by rw [ef3, va_up_self]
  refine lv_aload_n hx hb d_Filter_init_14 rfl (lv_at hl 0 rfl) ?_
  refine lv_iload_n hx hb d_Filter_init_15 rfl (lv_at hl 3 rfl) ?_
  refine m_putF hc hE hw hin h4 kc_DefaultFilter lf_Filter_16_DefaultFilter rfl rfl ds_DefaultFilter_2 rfl rfl (Nat.le_of_ble_eq_true rfl) d_Filter_init_16 (fun H locs hw => ?_)
  obtain ⟨f5, ef5⟩ : ∃ z : Wd, z = va_up f3 a (some (.inr (8, [.int kk, .int ll, .int hh, .null, .int 0]))) := ⟨_, rfl⟩
  replace hw : ms G.1 (Af f sz) f5 s H locs := by rw [ef5]; exact hw
  have h6 : f5 a = some (.inr (8, [.int kk, .int ll, .int hh, .null, .int 0])) := by rw [ef5, va_up_self]
  exact m_vret hc hr hlk hw ⟨by first | decide | (dsimp only; omega), by first | decide | (dsimp only; omega)⟩ d_Filter_init_19 (by rw [ef5, ef3, up_uu, ef1, up_uu])

set_option maxHeartbeats 4000000 in
set_option maxRecDepth 100000 in
/-- Filter(k, l, h) on a OnlyFilter -/
theorem c_Filter_init_OnlyFilter (G : GG) (l : Launch) (sz : Nat) (f : Wd) {a : Nat} (ha : f a = some (.inr (9, [.int 0, .int 0, .int 0, .null, .null]))) (kk ll hh : Int32) : Cv G l y_Filter_init b_Filter_init 4 none ({ frames := 1, cells := 0, slots := 0, locals := 12 }) sz f [.ref a, .int kk, .int ll, .int hh] (fun f' => f' = va_up f a (some (.inr (9, [.int kk, .int ll, .int hh, .null, .null])))) := by
  refine ct_of (by decide) (Nat.le_of_ble_eq_true rfl) ?_
  intro p e s m below meth c ls H locs hEn
  obtain ⟨hc, hr, hlk, hin, hE, hw, hsz, hl⟩ := hEn
  have hx := hc.1
  have hb := hc.2.1
  have hl : lv_has ls 4 [(0, .ref a), (1, .int kk), (2, .int ll), (3, .int hh)] := hl
  refine lv_aload_n hx hb d_Filter_init_0 rfl (lv_at hl 0 rfl) ?_
  refine m_objInit hc oi_Filter_1 oi_w hl.1 d_Filter_init_1 (Nat.le_of_ble_eq_true rfl) (Nat.le_of_ble_eq_true rfl) ?_
  refine lv_aload_n hx hb d_Filter_init_4 rfl (lv_at hl 0 rfl) ?_
  refine lv_iload_n hx hb d_Filter_init_5 rfl (lv_at hl 1 rfl) ?_
  refine m_putF hc hE hw hin ha kc_OnlyFilter lf_Filter_7_OnlyFilter rfl rfl ds_OnlyFilter_0 rfl rfl (Nat.le_of_ble_eq_true rfl) d_Filter_init_6 (fun H locs hw => ?_)
  obtain ⟨f1, ef1⟩ : ∃ z : Wd, z = va_up f a (some (.inr (9, [.int kk, .int 0, .int 0, .null, .null]))) := ⟨_, rfl⟩
  replace hw : ms G.1 (Af f sz) f1 s H locs := by rw [ef1]; exact hw
  have h2 : f1 a = some (.inr (9, [.int kk, .int 0, .int 0, .null, .null])) := by rw [ef1, va_up_self]
  refine lv_aload_n hx hb d_Filter_init_9 rfl (lv_at hl 0 rfl) ?_
  refine lv_iload_n hx hb d_Filter_init_10 rfl (lv_at hl 2 rfl) ?_
  refine m_putF hc hE hw hin h2 kc_OnlyFilter lf_Filter_13_OnlyFilter rfl rfl ds_OnlyFilter_1 rfl rfl (Nat.le_of_ble_eq_true rfl) d_Filter_init_11 (fun H locs hw => ?_)
  obtain ⟨f3, ef3⟩ : ∃ z : Wd, z = va_up f1 a (some (.inr (9, [.int kk, .int ll, .int 0, .null, .null]))) := ⟨_, rfl⟩
  replace hw : ms G.1 (Af f sz) f3 s H locs := by rw [ef3]; exact hw
  have h4 : f3 a = some (.inr (9, [.int kk, .int ll, .int 0, .null, .null])) := by rw [ef3, va_up_self]
  refine lv_aload_n hx hb d_Filter_init_14 rfl (lv_at hl 0 rfl) ?_
  refine lv_iload_n hx hb d_Filter_init_15 rfl (lv_at hl 3 rfl) ?_
  refine m_putF hc hE hw hin h4 kc_OnlyFilter lf_Filter_16_OnlyFilter rfl rfl ds_OnlyFilter_2 rfl rfl (Nat.le_of_ble_eq_true rfl) d_Filter_init_16 (fun H locs hw => ?_)
  obtain ⟨f5, ef5⟩ : ∃ z : Wd, z = va_up f3 a (some (.inr (9, [.int kk, .int ll, .int hh, .null, .null]))) := ⟨_, rfl⟩
  replace hw : ms G.1 (Af f sz) f5 s H locs := by rw [ef5]; exact hw
  have h6 : f5 a = some (.inr (9, [.int kk, .int ll, .int hh, .null, .null])) := by rw [ef5, va_up_self]
  exact m_vret hc hr hlk hw ⟨by first | decide | (dsimp only; omega), by first | decide | (dsimp only; omega)⟩ d_Filter_init_19 (by rw [ef5, ef3, up_uu, ef1, up_uu])

set_option maxHeartbeats 4000000 in
set_option maxRecDepth 100000 in
/-- TextFilter(bs, la, pa) -/
theorem c_TextFilter_init (G : GG) (l : Launch) (sz : Nat) (f : Wd) {a : Nat} (ha : f a = some (.inr (5, [.int 0, .int 0, .int 0, .int 0, .null, .null]))) {bs : Int32} (h_bs : bs = 0 ∨ bs = 1) (la pa : Nat) : Cv G l y_TextFilter_init b_TextFilter_init 4 none ({ frames := 2, cells := 0, slots := 0, locals := 35 }) sz f [.ref a, .int bs, .ref la, .ref pa] (fun f' => f' = va_up f a (some (.inr (5, [.int 1, .int 1, .int 1, .int bs, .ref la, .ref pa])))) := by
  refine ct_of (by decide) (Nat.le_of_ble_eq_true rfl) ?_
  intro p e s m below meth c ls H locs hEn
  obtain ⟨hc, hr, hlk, hin, hE, hw, hsz, hl⟩ := hEn
  have hx := hc.1
  have hb := hc.2.1
  have hl : lv_has ls 4 [(0, .ref a), (1, .int bs), (2, .ref la), (3, .ref pa)] := hl
  refine lv_aload_n hx hb d_TextFilter_init_0 rfl (lv_at hl 0 rfl) ?_
  refine lv_iconst (v := 1) hx hb d_TextFilter_init_1 (by decide) ?_
  refine lv_iconst (v := 1) hx hb d_TextFilter_init_2 (by decide) ?_
  refine lv_iconst (v := 1) hx hb d_TextFilter_init_3 (by decide) ?_
  refine m_callv hw (m_runI (As := [.int 1, .int 1, .int 1]) (rest := []) hc hE hw (c_Filter_init_TextFilter G l H.size f ha 1 1 1) cw_TextFilter_3 ⟨rfl, si_Filter_init⟩ rfl hl.1 rfl (Nat.le_of_ble_eq_true rfl) d_TextFilter_init_4 ⟨rfl, rfl, by decide, by decide⟩ ⟨by first | decide | (dsimp only; omega), by first | decide | (dsimp only; omega)⟩) (fun g2 H locs p1 hw => ?_)
  have g2_a : g2 a = some (.inr (5, [.int 1, .int 1, .int 1, .int 0, .null, .null])) := by rw [p1, va_up_self]
  refine lv_aload_n hx hb d_TextFilter_init_7 rfl (lv_at hl 0 rfl) ?_
  refine lv_iload_n hx hb d_TextFilter_init_8 rfl (lv_at hl 1 rfl) ?_
  refine m_putF hc hE hw hin g2_a kc_TextFilter lf_TextFilter_9_TextFilter rfl rfl ds_TextFilter_3 (bz_nar h_bs) (bz_fit h_bs) (Nat.le_of_ble_eq_true rfl) d_TextFilter_init_9 (fun H locs hw => ?_)
  obtain ⟨f3, ef3⟩ : ∃ z : Wd, z = va_up g2 a (some (.inr (5, [.int 1, .int 1, .int 1, .int bs, .null, .null]))) := ⟨_, rfl⟩
  replace hw : ms G.1 (Af f sz) f3 s H locs := by rw [ef3]; exact hw
  have h4 : f3 a = some (.inr (5, [.int 1, .int 1, .int 1, .int bs, .null, .null])) := by rw [ef3, va_up_self]
  refine lv_aload_n hx hb d_TextFilter_init_12 rfl (lv_at hl 0 rfl) ?_
  refine lv_aload_n hx hb d_TextFilter_init_13 rfl (lv_at hl 2 rfl) ?_
  refine m_putF hc hE hw hin h4 kc_TextFilter lf_TextFilter_15_TextFilter rfl rfl ds_TextFilter_4 rfl rfl (Nat.le_of_ble_eq_true rfl) d_TextFilter_init_14 (fun H locs hw => ?_)
  obtain ⟨f5, ef5⟩ : ∃ z : Wd, z = va_up f3 a (some (.inr (5, [.int 1, .int 1, .int 1, .int bs, .ref la, .null]))) := ⟨_, rfl⟩
  replace hw : ms G.1 (Af f sz) f5 s H locs := by rw [ef5]; exact hw
  have h6 : f5 a = some (.inr (5, [.int 1, .int 1, .int 1, .int bs, .ref la, .null])) := by rw [ef5, va_up_self]
  refine lv_aload_n hx hb d_TextFilter_init_17 rfl (lv_at hl 0 rfl) ?_
  refine lv_aload_n hx hb d_TextFilter_init_18 rfl (lv_at hl 3 rfl) ?_
  refine m_putF hc hE hw hin h6 kc_TextFilter lf_TextFilter_19_TextFilter rfl rfl ds_TextFilter_5 rfl rfl (Nat.le_of_ble_eq_true rfl) d_TextFilter_init_19 (fun H locs hw => ?_)
  obtain ⟨f7, ef7⟩ : ∃ z : Wd, z = va_up f5 a (some (.inr (5, [.int 1, .int 1, .int 1, .int bs, .ref la, .ref pa]))) := ⟨_, rfl⟩
  replace hw : ms G.1 (Af f sz) f7 s H locs := by rw [ef7]; exact hw
  have h8 : f7 a = some (.inr (5, [.int 1, .int 1, .int 1, .int bs, .ref la, .ref pa])) := by rw [ef7, va_up_self]
  exact m_vret hc hr hlk hw ⟨by first | decide | (dsimp only; omega), by first | decide | (dsimp only; omega)⟩ d_TextFilter_init_22 (by rw [ef7, ef5, up_uu, ef3, up_uu, p1, up_uu])

set_option maxHeartbeats 4000000 in
set_option maxRecDepth 100000 in
/-- StrictFilter(b, al) -/
theorem c_StrictFilter_init (G : GG) (l : Launch) (sz : Nat) (f : Wd) {a : Nat} (ha : f a = some (.inr (7, [.int 0, .int 0, .int 0, .null, .int 0]))) {b cb : Nat} {kb lb gb : Int32} {rb : List Value} (hb0 : f b = some (.inr (cb, .int kb :: .int lb :: .int gb :: rb))) (fb : FC cb) {al : Int32} (h_al : al = 0 ∨ al = 1) : Cv G l y_StrictFilter_init b_StrictFilter_init 3 none ({ frames := 2, cells := 0, slots := 0, locals := 35 }) sz f [.ref a, .ref b, .int al] (fun f' => f' = va_up f a (some (.inr (7, [.int 3, .int lb, .int (1 + gb), .ref b, .int al])))) := by
  refine ct_of (by decide) (Nat.le_of_ble_eq_true rfl) ?_
  intro p e s m below meth c ls H locs hEn
  obtain ⟨hc, hr, hlk, hin, hE, hw, hsz, hl⟩ := hEn
  have hx := hc.1
  have hb := hc.2.1
  have hl : lv_has ls 3 [(0, .ref a), (1, .ref b), (2, .int al)] := hl
  refine lv_aload_n hx hb d_StrictFilter_init_0 rfl (lv_at hl 0 rfl) ?_
  refine lv_iconst (v := 3) hx hb d_StrictFilter_init_1 (by decide) ?_
  refine lv_aload_n hx hb d_StrictFilter_init_2 rfl (lv_at hl 1 rfl) ?_
  refine m_getF hc hE hw hb0 fb l5_StrictFilter_3 rfl d_StrictFilter_init_3 ?_
  refine lv_iconst (v := 1) hx hb d_StrictFilter_init_6 (by decide) ?_
  refine lv_aload_n hx hb d_StrictFilter_init_7 rfl (lv_at hl 1 rfl) ?_
  refine m_getF hc hE hw hb0 fb l5_StrictFilter_9 rfl d_StrictFilter_init_8 ?_
  refine lv_iadd hx hb d_StrictFilter_init_11 ?_
  refine m_callv hw (m_runI (As := [.int 3, .int lb, .int (1 + gb)]) (rest := []) hc hE hw (c_Filter_init_StrictFilter G l H.size f ha 3 lb (1 + gb)) cw_StrictFilter_12 ⟨rfl, si_Filter_init⟩ rfl hl.1 rfl (Nat.le_of_ble_eq_true rfl) d_StrictFilter_init_12 ⟨rfl, rfl, by decide, by decide⟩ ⟨by first | decide | (dsimp only; omega), by first | decide | (dsimp only; omega)⟩) (fun g2 H locs p1 hw => ?_)
  have g2_a : g2 a = some (.inr (7, [.int 3, .int lb, .int (1 + gb), .null, .int 0])) := by rw [p1, va_up_self]
  refine lv_aload_n hx hb d_StrictFilter_init_15 rfl (lv_at hl 0 rfl) ?_
  refine lv_aload_n hx hb d_StrictFilter_init_16 rfl (lv_at hl 1 rfl) ?_
  refine m_putF hc hE hw hin g2_a kc_StrictFilter lf_StrictFilter_16_StrictFilter rfl rfl ds_StrictFilter_3 rfl rfl (Nat.le_of_ble_eq_true rfl) d_StrictFilter_init_17 (fun H locs hw => ?_)
  obtain ⟨f3, ef3⟩ : ∃ z : Wd, z = va_up g2 a (some (.inr (7, [.int 3, .int lb, .int (1 + gb), .ref b, .int 0]))) := ⟨_, rfl⟩
  replace hw : ms G.1 (Af f sz) f3 s H locs := by rw [ef3]; exact hw
  have h4 : f3 a = some (.inr (7, [.int 3, .int lb, .int (1 + gb), .ref b, .int 0])) := by rw [ef3, va_up_self]
  refine lv_aload_n hx hb d_StrictFilter_init_20 rfl (lv_at hl 0 rfl) ?_
  refine lv_iload_n hx hb d_StrictFilter_init_21 rfl (lv_at hl 2 rfl) ?_
  refine m_putF hc hE hw hin h4 kc_StrictFilter lf_StrictFilter_22_StrictFilter rfl rfl ds_StrictFilter_4 (bz_nar h_al) (bz_fit h_al) (Nat.le_of_ble_eq_true rfl) d_StrictFilter_init_22 (fun H locs hw => ?_)
  obtain ⟨f5, ef5⟩ : ∃ z : Wd, z = va_up f3 a (some (.inr (7, [.int 3, .int lb, .int (1 + gb), .ref b, .int al]))) := ⟨_, rfl⟩
  replace hw : ms G.1 (Af f sz) f5 s H locs := by rw [ef5]; exact hw
  have h6 : f5 a = some (.inr (7, [.int 3, .int lb, .int (1 + gb), .ref b, .int al])) := by rw [ef5, va_up_self]
  exact m_vret hc hr hlk hw ⟨by first | decide | (dsimp only; omega), by first | decide | (dsimp only; omega)⟩ d_StrictFilter_init_25 (by rw [ef5, ef3, up_uu, p1, up_uu])

set_option maxHeartbeats 4000000 in
set_option maxRecDepth 100000 in
/-- DefaultFilter(b, gv) -/
theorem c_DefaultFilter_init (G : GG) (l : Launch) (sz : Nat) (f : Wd) {a : Nat} (ha : f a = some (.inr (8, [.int 0, .int 0, .int 0, .null, .int 0]))) {b cb : Nat} {kb lb gb : Int32} {rb : List Value} (hb0 : f b = some (.inr (cb, .int kb :: .int lb :: .int gb :: rb))) (fb : FC cb) (gv : Int32) : Cv G l y_DefaultFilter_init b_DefaultFilter_init 3 none ({ frames := 2, cells := 0, slots := 0, locals := 35 }) sz f [.ref a, .ref b, .int gv] (fun f' => f' = va_up f a (some (.inr (8, [.int 4, .int lb, .int (1 + gb), .ref b, .int gv])))) := by
  refine ct_of (by decide) (Nat.le_of_ble_eq_true rfl) ?_
  intro p e s m below meth c ls H locs hEn
  obtain ⟨hc, hr, hlk, hin, hE, hw, hsz, hl⟩ := hEn
  have hx := hc.1
  have hb := hc.2.1
  have hl : lv_has ls 3 [(0, .ref a), (1, .ref b), (2, .int gv)] := hl
  refine lv_aload_n hx hb d_DefaultFilter_init_0 rfl (lv_at hl 0 rfl) ?_
  refine lv_iconst (v := 4) hx hb d_DefaultFilter_init_1 (by decide) ?_
  refine lv_aload_n hx hb d_DefaultFilter_init_2 rfl (lv_at hl 1 rfl) ?_
  refine m_getF hc hE hw hb0 fb l5_DefaultFilter_3 rfl d_DefaultFilter_init_3 ?_
  refine lv_iconst (v := 1) hx hb d_DefaultFilter_init_6 (by decide) ?_
  refine lv_aload_n hx hb d_DefaultFilter_init_7 rfl (lv_at hl 1 rfl) ?_
  refine m_getF hc hE hw hb0 fb l5_DefaultFilter_9 rfl d_DefaultFilter_init_8 ?_
  refine lv_iadd hx hb d_DefaultFilter_init_11 ?_
  refine m_callv hw (m_runI (As := [.int 4, .int lb, .int (1 + gb)]) (rest := []) hc hE hw (c_Filter_init_DefaultFilter G l H.size f ha 4 lb (1 + gb)) cw_DefaultFilter_12 ⟨rfl, si_Filter_init⟩ rfl hl.1 rfl (Nat.le_of_ble_eq_true rfl) d_DefaultFilter_init_12 ⟨rfl, rfl, by decide, by decide⟩ ⟨by first | decide | (dsimp only; omega), by first | decide | (dsimp only; omega)⟩) (fun g2 H locs p1 hw => ?_)
  have g2_a : g2 a = some (.inr (8, [.int 4, .int lb, .int (1 + gb), .null, .int 0])) := by rw [p1, va_up_self]
  refine lv_aload_n hx hb d_DefaultFilter_init_15 rfl (lv_at hl 0 rfl) ?_
  refine lv_aload_n hx hb d_DefaultFilter_init_16 rfl (lv_at hl 1 rfl) ?_
  refine m_putF hc hE hw hin g2_a kc_DefaultFilter lf_DefaultFilter_16_DefaultFilter rfl rfl ds_DefaultFilter_3 rfl rfl (Nat.le_of_ble_eq_true rfl) d_DefaultFilter_init_17 (fun H locs hw => ?_)
  obtain ⟨f3, ef3⟩ : ∃ z : Wd, z = va_up g2 a (some (.inr (8, [.int 4, .int lb, .int (1 + gb), .ref b, .int 0]))) := ⟨_, rfl⟩
  replace hw : ms G.1 (Af f sz) f3 s H locs := by rw [ef3]; exact hw
  have h4 : f3 a = some (.inr (8, [.int 4, .int lb, .int (1 + gb), .ref b, .int 0])) := by rw [ef3, va_up_self]
  refine lv_aload_n hx hb d_DefaultFilter_init_20 rfl (lv_at hl 0 rfl) ?_
  refine lv_iload_n hx hb d_DefaultFilter_init_21 rfl (lv_at hl 2 rfl) ?_
  refine m_putF hc hE hw hin h4 kc_DefaultFilter lf_DefaultFilter_22_DefaultFilter rfl rfl ds_DefaultFilter_4 rfl rfl (Nat.le_of_ble_eq_true rfl) d_DefaultFilter_init_22 (fun H locs hw => ?_)
  obtain ⟨f5, ef5⟩ : ∃ z : Wd, z = va_up f3 a (some (.inr (8, [.int 4, .int lb, .int (1 + gb), .ref b, .int gv]))) := ⟨_, rfl⟩
  replace hw : ms G.1 (Af f sz) f5 s H locs := by rw [ef5]; exact hw
  have h6 : f5 a = some (.inr (8, [.int 4, .int lb, .int (1 + gb), .ref b, .int gv])) := by rw [ef5, va_up_self]
  exact m_vret hc hr hlk hw ⟨by first | decide | (dsimp only; omega), by first | decide | (dsimp only; omega)⟩ d_DefaultFilter_init_25 (by rw [ef5, ef3, up_uu, p1, up_uu])

set_option maxHeartbeats 4000000 in
set_option maxRecDepth 100000 in
/-- OnlyFilter(b, sa) -/
theorem c_OnlyFilter_init (G : GG) (l : Launch) (sz : Nat) (f : Wd) {a : Nat} (ha : f a = some (.inr (9, [.int 0, .int 0, .int 0, .null, .null]))) {b cb : Nat} {kb lb gb : Int32} {rb : List Value} (hb0 : f b = some (.inr (cb, .int kb :: .int lb :: .int gb :: rb))) (fb : FC cb) (sa : Nat) : Cv G l y_OnlyFilter_init b_OnlyFilter_init 3 none ({ frames := 2, cells := 0, slots := 0, locals := 35 }) sz f [.ref a, .ref b, .ref sa] (fun f' => f' = va_up f a (some (.inr (9, [.int 5, .int lb, .int (1 + gb), .ref b, .ref sa])))) := by
  refine ct_of (by decide) (Nat.le_of_ble_eq_true rfl) ?_
  intro p e s m below meth c ls H locs hEn
  obtain ⟨hc, hr, hlk, hin, hE, hw, hsz, hl⟩ := hEn
  have hx := hc.1
  have hb := hc.2.1
  have hl : lv_has ls 3 [(0, .ref a), (1, .ref b), (2, .ref sa)] := hl
  refine lv_aload_n hx hb d_OnlyFilter_init_0 rfl (lv_at hl 0 rfl) ?_
  refine lv_iconst (v := 5) hx hb d_OnlyFilter_init_1 (by decide) ?_
  refine lv_aload_n hx hb d_OnlyFilter_init_2 rfl (lv_at hl 1 rfl) ?_
  refine m_getF hc hE hw hb0 fb l5_OnlyFilter_3 rfl d_OnlyFilter_init_3 ?_
  refine lv_iconst (v := 1) hx hb d_OnlyFilter_init_6 (by decide) ?_
  refine lv_aload_n hx hb d_OnlyFilter_init_7 rfl (lv_at hl 1 rfl) ?_
  refine m_getF hc hE hw hb0 fb l5_OnlyFilter_9 rfl d_OnlyFilter_init_8 ?_
  refine lv_iadd hx hb d_OnlyFilter_init_11 ?_
  refine m_callv hw (m_runI (As := [.int 5, .int lb, .int (1 + gb)]) (rest := []) hc hE hw (c_Filter_init_OnlyFilter G l H.size f ha 5 lb (1 + gb)) cw_OnlyFilter_12 ⟨rfl, si_Filter_init⟩ rfl hl.1 rfl (Nat.le_of_ble_eq_true rfl) d_OnlyFilter_init_12 ⟨rfl, rfl, by decide, by decide⟩ ⟨by first | decide | (dsimp only; omega), by first | decide | (dsimp only; omega)⟩) (fun g2 H locs p1 hw => ?_)
  have g2_a : g2 a = some (.inr (9, [.int 5, .int lb, .int (1 + gb), .null, .null])) := by rw [p1, va_up_self]
  refine lv_aload_n hx hb d_OnlyFilter_init_15 rfl (lv_at hl 0 rfl) ?_
  refine lv_aload_n hx hb d_OnlyFilter_init_16 rfl (lv_at hl 1 rfl) ?_
  refine m_putF hc hE hw hin g2_a kc_OnlyFilter lf_OnlyFilter_16_OnlyFilter rfl rfl ds_OnlyFilter_3 rfl rfl (Nat.le_of_ble_eq_true rfl) d_OnlyFilter_init_17 (fun H locs hw => ?_)
  obtain ⟨f3, ef3⟩ : ∃ z : Wd, z = va_up g2 a (some (.inr (9, [.int 5, .int lb, .int (1 + gb), .ref b, .null]))) := ⟨_, rfl⟩
  replace hw : ms G.1 (Af f sz) f3 s H locs := by rw [ef3]; exact hw
  have h4 : f3 a = some (.inr (9, [.int 5, .int lb, .int (1 + gb), .ref b, .null])) := by rw [ef3, va_up_self]
  refine lv_aload_n hx hb d_OnlyFilter_init_20 rfl (lv_at hl 0 rfl) ?_
  refine lv_aload_n hx hb d_OnlyFilter_init_21 rfl (lv_at hl 2 rfl) ?_
  refine m_putF hc hE hw hin h4 kc_OnlyFilter lf_OnlyFilter_22_OnlyFilter rfl rfl ds_OnlyFilter_4 rfl rfl (Nat.le_of_ble_eq_true rfl) d_OnlyFilter_init_22 (fun H locs hw => ?_)
  obtain ⟨f5, ef5⟩ : ∃ z : Wd, z = va_up f3 a (some (.inr (9, [.int 5, .int lb, .int (1 + gb), .ref b, .ref sa]))) := ⟨_, rfl⟩
  replace hw : ms G.1 (Af f sz) f5 s H locs := by rw [ef5]; exact hw
  have h6 : f5 a = some (.inr (9, [.int 5, .int lb, .int (1 + gb), .ref b, .ref sa])) := by rw [ef5, va_up_self]
  exact m_vret hc hr hlk hw ⟨by first | decide | (dsimp only; omega), by first | decide | (dsimp only; omega)⟩ d_OnlyFilter_init_25 (by rw [ef5, ef3, up_uu, p1, up_uu])

set_option maxHeartbeats 4000000 in
set_option maxRecDepth 100000 in
/-- JoinedFilter(b, d) -/
theorem c_JoinedFilter_init (G : GG) (l : Launch) (sz : Nat) (f : Wd) {a : Nat} (ha : f a = some (.inr (6, [.int 0, .int 0, .int 0, .null, .null]))) {b cb : Nat} {kb lb gb : Int32} {rb : List Value} (hb0 : f b = some (.inr (cb, .int kb :: .int lb :: .int gb :: rb))) (fb : FC cb) {d cd : Nat} {kd ld gd : Int32} {rd : List Value} (hd0 : f d = some (.inr (cd, .int kd :: .int ld :: .int gd :: rd))) (fd : FC cd) : Cv G l y_JoinedFilter_init b_JoinedFilter_init 3 none ({ frames := 2, cells := 0, slots := 0, locals := 35 }) sz f [.ref a, .ref b, .ref d] (fun f' => f' = va_up f a (some (.inr (6, [.int 2, .int (lb + ld), .int (1 + (if gb < gd then gd else gb)), .ref b, .ref d])))) := by
  refine ct_of (by decide) (Nat.le_of_ble_eq_true rfl) ?_
  intro p e s m below meth c ls H locs hEn
  obtain ⟨hc, hr, hlk, hin, hE, hw, hsz, hl⟩ := hEn
  have hx := hc.1
  have hb := hc.2.1
  have hl : lv_has ls 3 [(0, .ref a), (1, .ref b), (2, .ref d)] := hl
  refine lv_aload_n hx hb d_JoinedFilter_init_0 rfl (lv_at hl 0 rfl) ?_
  refine lv_iconst (v := 2) hx hb d_JoinedFilter_init_1 (by decide) ?_
  refine lv_aload_n hx hb d_JoinedFilter_init_2 rfl (lv_at hl 1 rfl) ?_
  refine m_getF hc hE hw hb0 fb l5_JoinedFilter_3 rfl d_JoinedFilter_init_3 ?_
  refine lv_aload_n hx hb d_JoinedFilter_init_6 rfl (lv_at hl 2 rfl) ?_
  refine m_getF hc hE hw hd0 fd l5_JoinedFilter_3 rfl d_JoinedFilter_init_7 ?_
  refine lv_iadd hx hb d_JoinedFilter_init_10 ?_
  refine lv_iconst (v := 1) hx hb d_JoinedFilter_init_11 (by decide) ?_
  refine lv_aload_n hx hb d_JoinedFilter_init_12 rfl (lv_at hl 1 rfl) ?_
  refine m_getF hc hE hw hb0 fb l5_JoinedFilter_9 rfl d_JoinedFilter_init_13 ?_
  refine lv_aload_n hx hb d_JoinedFilter_init_16 rfl (lv_at hl 2 rfl) ?_
  refine m_getF hc hE hw hd0 fd l5_JoinedFilter_9 rfl d_JoinedFilter_init_17 ?_
  refine m_mmax hc mm_JoinedFilter_12 mm_w hl.1 (Nat.le_of_ble_eq_true rfl) (Nat.le_of_ble_eq_true rfl) ⟨by first | decide | (dsimp only; omega), by first | decide | (dsimp only; omega)⟩ d_JoinedFilter_init_20 ?_
  refine lv_iadd hx hb d_JoinedFilter_init_23 ?_
  refine m_callv hw (m_runI (As := [.int 2, .int (lb + ld), .int (1 + (if gb < gd then gd else gb))]) (rest := []) hc hE hw (c_Filter_init_JoinedFilter G l H.size f ha 2 (lb + ld) (1 + (if gb < gd then gd else gb))) cw_JoinedFilter_18 ⟨rfl, si_Filter_init⟩ rfl hl.1 rfl (Nat.le_of_ble_eq_true rfl) d_JoinedFilter_init_24 ⟨rfl, rfl, by decide, by decide⟩ ⟨by first | decide | (dsimp only; omega), by first | decide | (dsimp only; omega)⟩) (fun g2 H locs p1 hw => ?_)
  have g2_a : g2 a = some (.inr (6, [.int 2, .int (lb + ld), .int (1 + (if gb < gd then gd else gb)), .null, .null])) := by rw [p1, va_up_self]
  refine lv_aload_n hx hb d_JoinedFilter_init_27 rfl (lv_at hl 0 rfl) ?_
  refine lv_aload_n hx hb d_JoinedFilter_init_28 rfl (lv_at hl 1 rfl) ?_
  refine m_putF hc hE hw hin g2_a kc_JoinedFilter lf_JoinedFilter_22_JoinedFilter rfl rfl ds_JoinedFilter_3 rfl rfl (Nat.le_of_ble_eq_true rfl) d_JoinedFilter_init_29 (fun H locs hw => ?_)
  obtain ⟨f3, ef3⟩ : ∃ z : Wd, z = va_up g2 a (some (.inr (6, [.int 2, .int (lb + ld), .int (1 + (if gb < gd then gd else gb)), .ref b, .null]))) := ⟨_, rfl⟩
  replace hw : ms G.1 (Af f sz) f3 s H locs := by rw [ef3]; exact hw
  have h4 : f3 a = some (.inr (6, [.int 2, .int (lb + ld), .int (1 + (if gb < gd then gd else gb)), .ref b, .null])) := by rw [ef3, va_up_self]
  refine lv_aload_n hx hb d_JoinedFilter_init_32 rfl (lv_at hl 0 rfl) ?_
  refine lv_aload_n hx hb d_JoinedFilter_init_33 rfl (lv_at hl 2 rfl) ?_
  refine m_putF hc hE hw hin h4 kc_JoinedFilter lf_JoinedFilter_28_JoinedFilter rfl rfl ds_JoinedFilter_4 rfl rfl (Nat.le_of_ble_eq_true rfl) d_JoinedFilter_init_34 (fun H locs hw => ?_)
  obtain ⟨f5, ef5⟩ : ∃ z : Wd, z = va_up f3 a (some (.inr (6, [.int 2, .int (lb + ld), .int (1 + (if gb < gd then gd else gb)), .ref b, .ref d]))) := ⟨_, rfl⟩
  replace hw : ms G.1 (Af f sz) f5 s H locs := by rw [ef5]; exact hw
  have h6 : f5 a = some (.inr (6, [.int 2, .int (lb + ld), .int (1 + (if gb < gd then gd else gb)), .ref b, .ref d])) := by rw [ef5, va_up_self]
  exact m_vret hc hr hlk hw ⟨by first | decide | (dsimp only; omega), by first | decide | (dsimp only; omega)⟩ d_JoinedFilter_init_37 (by rw [ef5, ef3, up_uu, p1, up_uu])

set_option maxHeartbeats 4000000 in
set_option maxRecDepth 100000 in
/-- ClassPattern(ka, reader) -/
theorem c_ClassPattern_init (G : GG) (l : Launch) (sz : Nat) (f : Wd) {a ra ta : Nat} {P : Prop} {vfr ven vpi vli vnu vsh vmf vme vnf vne : Int32} (ha : f a = some (.inr (4, [.null, .int 0, .int 0, .int 0, .int 0, .int 0, .int 0]))) (hR : f ra = some (.inr (3, [.ref ta, .int vfr, .int ven, .int vpi, .int vli, .int vnu, .int (bI P), .int vsh, .int vmf, .int vme, .int vnf, .int vne]))) (ka : Nat) : Cv G l y_ClassPattern_init b_ClassPattern_init 3 none ({ frames := 1, cells := 0, slots := 0, locals := 12 }) sz f [.ref a, .ref ka, .ref ra] (fun f' => f' = va_up f a (some (.inr (4, [.ref ka, .int (bI P), .int vsh, .int vmf, .int vme, .int vnf, .int vne])))) := by
  refine ct_of (by decide) (Nat.le_of_ble_eq_true rfl) ?_
  intro p e s m below meth c ls H locs hEn
  obtain ⟨hc, hr, hlk, hin, hE, hw, hsz, hl⟩ := hEn
  have hx := hc.1
  have hb := hc.2.1
  have hl : lv_has ls 3 [(0, .ref a), (1, .ref ka), (2, .ref ra)] := hl
  refine lv_aload_n hx hb d_ClassPattern_init_0 rfl (lv_at hl 0 rfl) ?_
  refine m_objInit hc oi_ClassPattern_3 oi_w hl.1 d_ClassPattern_init_1 (Nat.le_of_ble_eq_true rfl) (Nat.le_of_ble_eq_true rfl) ?_
  refine lv_aload_n hx hb d_ClassPattern_init_4 rfl (lv_at hl 0 rfl) ?_
  refine lv_aload_n hx hb d_ClassPattern_init_5 rfl (lv_at hl 1 rfl) ?_
  refine m_putF hc hE hw hin ha kc_ClassPattern lf_ClassPattern_9_ClassPattern rfl rfl ds_ClassPattern_0 rfl rfl (Nat.le_of_ble_eq_true rfl) d_ClassPattern_init_6 (fun H locs hw => ?_)
  obtain ⟨f1, ef1⟩ : ∃ z : Wd, z = va_up f a (some (.inr (4, [.ref ka, .int 0, .int 0, .int 0, .int 0, .int 0, .int 0]))) := ⟨_, rfl⟩
  replace hw : ms G.1 (Af f sz) f1 s H locs := by rw [ef1]; exact hw
  have h2 : f1 ra = some (.inr (3, [.ref ta, .int vfr, .int ven, .int vpi, .int vli, .int vnu, .int (bI P), .int vsh, .int vmf, .int vme, .int vnf, .int vne])) := by rw [ef1, va_up_ne _ _ (wne hR ha (wd_oo (by decide)))]; exact hR
  have h3 : f1 a = some (.inr (4, [.ref ka, .int 0, .int 0, .int 0, .int 0, .int 0, .int 0])) := by rw [ef1, va_up_self]
  refine lv_aload_n hx hb d_ClassPattern_init_9 rfl (lv_at hl 0 rfl) ?_
  refine lv_aload_n hx hb d_ClassPattern_init_10 rfl (lv_at hl 2 rfl) ?_
  refine m_get hc hE hw h2 kc_PieceReader l_ClassPattern_15_PieceReader rfl d_ClassPattern_init_11 ?_
  refine m_putF hc hE hw hin h3 kc_ClassPattern lf_ClassPattern_21_ClassPattern rfl rfl ds_ClassPattern_1 (bI_nar _) (bI_fit _) (Nat.le_of_ble_eq_true rfl) d_ClassPattern_init_14 (fun H locs hw => ?_)
  obtain ⟨f4, ef4⟩ : ∃ z : Wd, z = va_up f1 a (some (.inr (4, [.ref ka, .int (bI P), .int 0, .int 0, .int 0, .int 0, .int 0]))) := ⟨_, rfl⟩
  replace hw : ms G.1 (Af f sz) f4 s H locs := by rw [ef4]; exact hw
  have h5 : f4 ra = some (.inr (3, [.ref ta, .int vfr, .int ven, .int vpi, .int vli, .int vnu, .int (bI P), .int vsh, .int vmf, .int vme, .int vnf, .int vne])) := by rw [ef4, va_up_ne _ _ (wne h2 h3 (wd_oo (by decide)))]; exact h2
  have h6 : f4 a = some (.inr (4, [.ref ka, .int (bI P), .int 0, .int 0, .int 0, .int 0, .int 0])) := by rw [ef4, va_up_self]
  refine lv_aload_n hx hb d_ClassPattern_init_17 rfl (lv_at hl 0 rfl) ?_
  refine lv_aload_n hx hb d_ClassPattern_init_18 rfl (lv_at hl 2 rfl) ?_
  refine m_get hc hE hw h5 kc_PieceReader l_ClassPattern_22_PieceReader rfl d_ClassPattern_init_19 ?_
  refine m_putF hc hE hw hin h6 kc_ClassPattern lf_ClassPattern_26_ClassPattern rfl rfl ds_ClassPattern_2 rfl rfl (Nat.le_of_ble_eq_true rfl) d_ClassPattern_init_22 (fun H locs hw => ?_)
  obtain ⟨f7, ef7⟩ : ∃ z : Wd, z = va_up f4 a (some (.inr (4, [.ref ka, .int (bI P), .int vsh, .int 0, .int 0, .int 0, .int 0]))) := ⟨_, rfl⟩
  replace hw : ms G.1 (Af f sz) f7 s H locs := by rw [ef7]; exact hw
  have h8 : f7 ra = some (.inr (3, [.ref ta, .int vfr, .int ven, .int vpi, .int vli, .int vnu, .int (bI P), .int vsh, .int vmf, .int vme, .int vnf, .int vne])) := by rw [ef7, va_up_ne _ _ (wne h5 h6 (wd_oo (by decide)))]; exact h5
  have h9 : f7 a = some (.inr (4, [.ref ka, .int (bI P), .int vsh, .int 0, .int 0, .int 0, .int 0])) := by rw [ef7, va_up_self]
  refine lv_aload_n hx hb d_ClassPattern_init_25 rfl (lv_at hl 0 rfl) ?_
  refine lv_aload_n hx hb d_ClassPattern_init_26 rfl (lv_at hl 2 rfl) ?_
  refine m_get hc hE hw h8 kc_PieceReader l_ClassPattern_27_PieceReader rfl d_ClassPattern_init_27 ?_
  refine m_putF hc hE hw hin h9 kc_ClassPattern lf_ClassPattern_30_ClassPattern rfl rfl ds_ClassPattern_3 rfl rfl (Nat.le_of_ble_eq_true rfl) d_ClassPattern_init_30 (fun H locs hw => ?_)
  obtain ⟨f10, ef10⟩ : ∃ z : Wd, z = va_up f7 a (some (.inr (4, [.ref ka, .int (bI P), .int vsh, .int vmf, .int 0, .int 0, .int 0]))) := ⟨_, rfl⟩
  replace hw : ms G.1 (Af f sz) f10 s H locs := by rw [ef10]; exact hw
  have h11 : f10 ra = some (.inr (3, [.ref ta, .int vfr, .int ven, .int vpi, .int vli, .int vnu, .int (bI P), .int vsh, .int vmf, .int vme, .int vnf, .int vne])) := by rw [ef10, va_up_ne _ _ (wne h8 h9 (wd_oo (by decide)))]; exact h8
  have h12 : f10 a = some (.inr (4, [.ref ka, .int (bI P), .int vsh, .int vmf, .int 0, .int 0, .int 0])) := by rw [ef10, va_up_self]
  refine lv_aload_n hx hb d_ClassPattern_init_33 rfl (lv_at hl 0 rfl) ?_
  refine lv_aload_n hx hb d_ClassPattern_init_34 rfl (lv_at hl 2 rfl) ?_
  refine m_get hc hE hw h11 kc_PieceReader l_ClassPattern_31_PieceReader rfl d_ClassPattern_init_35 ?_
  refine m_putF hc hE hw hin h12 kc_ClassPattern lf_ClassPattern_34_ClassPattern rfl rfl ds_ClassPattern_4 rfl rfl (Nat.le_of_ble_eq_true rfl) d_ClassPattern_init_38 (fun H locs hw => ?_)
  obtain ⟨f13, ef13⟩ : ∃ z : Wd, z = va_up f10 a (some (.inr (4, [.ref ka, .int (bI P), .int vsh, .int vmf, .int vme, .int 0, .int 0]))) := ⟨_, rfl⟩
  replace hw : ms G.1 (Af f sz) f13 s H locs := by rw [ef13]; exact hw
  have h14 : f13 ra = some (.inr (3, [.ref ta, .int vfr, .int ven, .int vpi, .int vli, .int vnu, .int (bI P), .int vsh, .int vmf, .int vme, .int vnf, .int vne])) := by rw [ef13, va_up_ne _ _ (wne h11 h12 (wd_oo (by decide)))]; exact h11
  have h15 : f13 a = some (.inr (4, [.ref ka, .int (bI P), .int vsh, .int vmf, .int vme, .int 0, .int 0])) := by rw [ef13, va_up_self]
  refine lv_aload_n hx hb d_ClassPattern_init_41 rfl (lv_at hl 0 rfl) ?_
  refine lv_aload_n hx hb d_ClassPattern_init_42 rfl (lv_at hl 2 rfl) ?_
  refine m_get hc hE hw h14 kc_PieceReader l_ClassPattern_35_PieceReader rfl d_ClassPattern_init_43 ?_
  refine m_putF hc hE hw hin h15 kc_ClassPattern lf_ClassPattern_38_ClassPattern rfl rfl ds_ClassPattern_5 rfl rfl (Nat.le_of_ble_eq_true rfl) d_ClassPattern_init_46 (fun H locs hw => ?_)
  obtain ⟨f16, ef16⟩ : ∃ z : Wd, z = va_up f13 a (some (.inr (4, [.ref ka, .int (bI P), .int vsh, .int vmf, .int vme, .int vnf, .int 0]))) := ⟨_, rfl⟩
  replace hw : ms G.1 (Af f sz) f16 s H locs := by rw [ef16]; exact hw
  have h17 : f16 ra = some (.inr (3, [.ref ta, .int vfr, .int ven, .int vpi, .int vli, .int vnu, .int (bI P), .int vsh, .int vmf, .int vme, .int vnf, .int vne])) := by rw [ef16, va_up_ne _ _ (wne h14 h15 (wd_oo (by decide)))]; exact h14
  have h18 : f16 a = some (.inr (4, [.ref ka, .int (bI P), .int vsh, .int vmf, .int vme, .int vnf, .int 0])) := by rw [ef16, va_up_self]
  refine lv_aload_n hx hb d_ClassPattern_init_49 rfl (lv_at hl 0 rfl) ?_
  refine lv_aload_n hx hb d_ClassPattern_init_50 rfl (lv_at hl 2 rfl) ?_
  refine m_get hc hE hw h17 kc_PieceReader l_ClassPattern_39_PieceReader rfl d_ClassPattern_init_51 ?_
  refine m_putF hc hE hw hin h18 kc_ClassPattern lf_ClassPattern_42_ClassPattern rfl rfl ds_ClassPattern_6 rfl rfl (Nat.le_of_ble_eq_true rfl) d_ClassPattern_init_54 (fun H locs hw => ?_)
  obtain ⟨f19, ef19⟩ : ∃ z : Wd, z = va_up f16 a (some (.inr (4, [.ref ka, .int (bI P), .int vsh, .int vmf, .int vme, .int vnf, .int vne]))) := ⟨_, rfl⟩
  replace hw : ms G.1 (Af f sz) f19 s H locs := by rw [ef19]; exact hw
  have h20 : f19 ra = some (.inr (3, [.ref ta, .int vfr, .int ven, .int vpi, .int vli, .int vnu, .int (bI P), .int vsh, .int vmf, .int vme, .int vnf, .int vne])) := by rw [ef19, va_up_ne _ _ (wne h17 h18 (wd_oo (by decide)))]; exact h17
  have h21 : f19 a = some (.inr (4, [.ref ka, .int (bI P), .int vsh, .int vmf, .int vme, .int vnf, .int vne])) := by rw [ef19, va_up_self]
  exact m_vret hc hr hlk hw ⟨by first | decide | (dsimp only; omega), by first | decide | (dsimp only; omega)⟩ d_ClassPattern_init_57 (by rw [ef19, ef16, up_uu, ef13, up_uu, ef10, up_uu, ef7, up_uu, ef4, up_uu, ef1, up_uu])

set_option maxHeartbeats 4000000 in
set_option maxRecDepth 100000 in
/-- PieceReader(ta) -/
theorem c_PieceReader_init (G : GG) (l : Launch) (sz : Nat) (f : Wd) {a : Nat} (ha : f a = some (.inr (3, [.null, .int 0, .int 0, .int 0, .int 0, .int 0, .int 0, .int 0, .int 0, .int 0, .int 0, .int 0]))) (ta : Nat) : Cv G l y_PieceReader_init b_PieceReader_init 2 none ({ frames := 1, cells := 0, slots := 0, locals := 12 }) sz f [.ref a, .ref ta] (fun f' => f' = va_up f a (some (.inr (3, [.ref ta, .int 0, .int 0, .int 0, .int 0, .int 0, .int 0, .int 0, .int 0, .int 0, .int 0, .int 0])))) := by
  refine ct_of (by decide) (Nat.le_of_ble_eq_true rfl) ?_
  intro p e s m below meth c ls H locs hEn
  obtain ⟨hc, hr, hlk, hin, hE, hw, hsz, hl⟩ := hEn
  have hx := hc.1
  have hb := hc.2.1
  have hl : lv_has ls 2 [(0, .ref a), (1, .ref ta)] := hl
  refine lv_aload_n hx hb d_PieceReader_init_0 rfl (lv_at hl 0 rfl) ?_
  refine m_objInit hc oi_PieceReader_3 oi_w hl.1 d_PieceReader_init_1 (Nat.le_of_ble_eq_true rfl) (Nat.le_of_ble_eq_true rfl) ?_
  refine lv_aload_n hx hb d_PieceReader_init_4 rfl (lv_at hl 0 rfl) ?_
  refine lv_aload_n hx hb d_PieceReader_init_5 rfl (lv_at hl 1 rfl) ?_
  refine m_putF hc hE hw hin ha kc_PieceReader lf_PieceReader_9_PieceReader rfl rfl ds_PieceReader_0 rfl rfl (Nat.le_of_ble_eq_true rfl) d_PieceReader_init_6 (fun H locs hw => ?_)
  obtain ⟨f1, ef1⟩ : ∃ z : Wd, z = va_up f a (some (.inr (3, [.ref ta, .int 0, .int 0, .int 0, .int 0, .int 0, .int 0, .int 0, .int 0, .int 0, .int 0, .int 0]))) := ⟨_, rfl⟩
  replace hw : ms G.1 (Af f sz) f1 s H locs := by rw [ef1]; exact hw
  have h2 : f1 a = some (.inr (3, [.ref ta, .int 0, .int 0, .int 0, .int 0, .int 0, .int 0, .int 0, .int 0, .int 0, .int 0, .int 0])) := by rw [ef1, va_up_self]
  exact m_vret hc hr hlk hw ⟨by first | decide | (dsimp only; omega), by first | decide | (dsimp only; omega)⟩ d_PieceReader_init_9 (by rw [ef1])

set_option maxHeartbeats 4000000 in
set_option maxRecDepth 100000 in
/-- begin(i1, i2, i3) -/
theorem c_Question_begin (G : GG) (l : Launch) (sz : Nat) (f : Wd) {a na ma : Nat} {dp rf by_ so di le co tx la : Int32} (ha : f a = some (.inr (2, [.ref na, .ref ma, .int dp, .int rf, .int by_, .int so, .int di, .int le, .int co, .int tx, .int la]))) (i1 i2 i3 : Int32) : Cv G l y_Question_begin b_Question_begin 4 none ({ frames := 0, cells := 0, slots := 0, locals := 0 }) sz f [.ref a, .int i1, .int i2, .int i3] (fun f' => f' = va_up f a (some (.inr (2, [.ref na, .ref ma, .int dp, .int rf, .int by_, .int i1, .int i2, .int i3, .int 0, .int 0, .int (-2)])))) := by
  refine ct_of (by decide) (Nat.le_of_ble_eq_true rfl) ?_
  intro p e s m below meth c ls H locs hEn
  obtain ⟨hc, hr, hlk, hin, hE, hw, hsz, hl⟩ := hEn
  have hx := hc.1
  have hb := hc.2.1
  have hl : lv_has ls 4 [(0, .ref a), (1, .int i1), (2, .int i2), (3, .int i3)] := hl
  refine lv_aload_n hx hb d_Question_begin_0 rfl (lv_at hl 0 rfl) ?_
  refine lv_iload_n hx hb d_Question_begin_1 rfl (lv_at hl 1 rfl) ?_
  refine m_put hc hE hw ha kc_Question l_Question_27_Question rfl ds_Question_5 rfl rfl (Nat.le_of_ble_eq_true rfl) d_Question_begin_2 (fun H locs hw => ?_)
  obtain ⟨f1, ef1⟩ : ∃ z : Wd, z = va_up f a (some (.inr (2, [.ref na, .ref ma, .int dp, .int rf, .int by_, .int i1, .int di, .int le, .int co, .int tx, .int la]))) := ⟨_, rfl⟩
  replace hw : ms G.1 (Af f sz) f1 s H locs := by rw [ef1]; exact hw
  have h2 : f1 a = some (.inr (2, [.ref na, .ref ma, .int dp, .int rf, .int by_, .int i1, .int di, .int le, .int co, .int tx, .int la])) := by rw [ef1, va_up_self]
  refine lv_aload_n hx hb d_Question_begin_5 rfl (lv_at hl 0 rfl) ?_
  refine lv_iload_n hx hb d_Question_begin_6 rfl (lv_at hl 2 rfl) ?_
  refine m_put hc hE hw h2 kc_Question l_Question_30_Question rfl ds_Question_6 rfl rfl (Nat.le_of_ble_eq_true rfl) d_Question_begin_7 (fun H locs hw => ?_)
  obtain ⟨f3, ef3⟩ : ∃ z : Wd, z = va_up f1 a (some (.inr (2, [.ref na, .ref ma, .int dp, .int rf, .int by_, .int i1, .int i2, .int le, .int co, .int tx, .int la]))) := ⟨_, rfl⟩
  replace hw : ms G.1 (Af f sz) f3 s H locs := by rw [ef3]; exact hw
  have h4 : f3 a = some (.inr (2, [.ref na, .ref ma, .int dp, .int rf, .int by_, .int i1, .int i2, .int le, .int co, .int tx, .int la])) := by rw [ef3, va_up_self]
  refine lv_aload_n hx hb d_Question_begin_10 rfl (lv_at hl 0 rfl) ?_
  refine lv_iload_n hx hb d_Question_begin_11 rfl (lv_at hl 3 rfl) ?_
  refine m_put hc hE hw h4 kc_Question l_Question_33_Question rfl ds_Question_7 rfl rfl (Nat.le_of_ble_eq_true rfl) d_Question_begin_12 (fun H locs hw => ?_)
  obtain ⟨f5, ef5⟩ : ∃ z : Wd, z = va_up f3 a (some (.inr (2, [.ref na, .ref ma, .int dp, .int rf, .int by_, .int i1, .int i2, .int i3, .int co, .int tx, .int la]))) := ⟨_, rfl⟩
  replace hw : ms G.1 (Af f sz) f5 s H locs := by rw [ef5]; exact hw
  have h6 : f5 a = some (.inr (2, [.ref na, .ref ma, .int dp, .int rf, .int by_, .int i1, .int i2, .int i3, .int co, .int tx, .int la])) := by rw [ef5, va_up_self]
  refine lv_aload_n hx hb d_Question_begin_15 rfl (lv_at hl 0 rfl) ?_
  refine lv_iconst (v := 0) hx hb d_Question_begin_16 (by decide) ?_
  refine m_put hc hE hw h6 kc_Question l_Question_36_Question rfl ds_Question_8 rfl rfl (Nat.le_of_ble_eq_true rfl) d_Question_begin_17 (fun H locs hw => ?_)
  obtain ⟨f7, ef7⟩ : ∃ z : Wd, z = va_up f5 a (some (.inr (2, [.ref na, .ref ma, .int dp, .int rf, .int by_, .int i1, .int i2, .int i3, .int 0, .int tx, .int la]))) := ⟨_, rfl⟩
  replace hw : ms G.1 (Af f sz) f7 s H locs := by rw [ef7]; exact hw
  have h8 : f7 a = some (.inr (2, [.ref na, .ref ma, .int dp, .int rf, .int by_, .int i1, .int i2, .int i3, .int 0, .int tx, .int la])) := by rw [ef7, va_up_self]
  refine lv_aload_n hx hb d_Question_begin_20 rfl (lv_at hl 0 rfl) ?_
  refine lv_iconst (v := 0) hx hb d_Question_begin_21 (by decide) ?_
  refine m_put hc hE hw h8 kc_Question l_Question_39_Question rfl ds_Question_9 rfl rfl (Nat.le_of_ble_eq_true rfl) d_Question_begin_22 (fun H locs hw => ?_)
  obtain ⟨f9, ef9⟩ : ∃ z : Wd, z = va_up f7 a (some (.inr (2, [.ref na, .ref ma, .int dp, .int rf, .int by_, .int i1, .int i2, .int i3, .int 0, .int 0, .int la]))) := ⟨_, rfl⟩
  replace hw : ms G.1 (Af f sz) f9 s H locs := by rw [ef9]; exact hw
  have h10 : f9 a = some (.inr (2, [.ref na, .ref ma, .int dp, .int rf, .int by_, .int i1, .int i2, .int i3, .int 0, .int 0, .int la])) := by rw [ef9, va_up_self]
  refine lv_aload_n hx hb d_Question_begin_25 rfl (lv_at hl 0 rfl) ?_
  refine lv_bipush (v := (-2)) hx hb d_Question_begin_26 (by decide) ?_
  refine m_put hc hE hw h10 kc_Question l_Question_23_Question rfl ds_Question_10 rfl rfl (Nat.le_of_ble_eq_true rfl) d_Question_begin_28 (fun H locs hw => ?_)
  obtain ⟨f11, ef11⟩ : ∃ z : Wd, z = va_up f9 a (some (.inr (2, [.ref na, .ref ma, .int dp, .int rf, .int by_, .int i1, .int i2, .int i3, .int 0, .int 0, .int (-2)]))) := ⟨_, rfl⟩
  replace hw : ms G.1 (Af f sz) f11 s H locs := by rw [ef11]; exact hw
  have h12 : f11 a = some (.inr (2, [.ref na, .ref ma, .int dp, .int rf, .int by_, .int i1, .int i2, .int i3, .int 0, .int 0, .int (-2)])) := by rw [ef11, va_up_self]
  exact m_vret hc hr hlk hw ⟨by first | decide | (dsimp only; omega), by first | decide | (dsimp only; omega)⟩ d_Question_begin_31 (by rw [ef11, ef9, up_uu, ef7, up_uu, ef5, up_uu, ef3, up_uu, ef1, up_uu])
end
section
/-! FILTERS, purely: a question (name, module, DEPTH, REFS, BYTES, SORT, DIMENSIONS, LENGTH), a trace (COMPARED, asked, matched), an answer -/
abbrev Qn : Type := Nat × (Nat → Int32) × Nat × (Nat → Int32) × Int32 × Int32 × Int32 × Int32 × Int32 × Int32
abbrev Tr : Type := Int32 × Int32 × Int32
abbrev An : Type := Qn → Tr → Int32 × Tr
/-- a number is above a limit -/
def abv (v lim : Int32) : Prop := ¬ lim = -2 ∧ lim < v
/-- patterns compared in order, from i on: what is said, how many were compared, which matched -/
noncomputable def cmpP (M : Nat → Prop) (V : Nat → Int32) : Nat → Nat → Int32 → Int32 → Int32 × Int32 × Int32
  | 0, _, co, la => (0, co, la)
  | m + 1, i, co, la => pif (M i) (V i, co + 1, nI i) (cmpP M V m (i + 1) (co + 1) la)
noncomputable def anT (bs : Int32) (lm : Nat → Int32) (np : Nat) (M : Nat → Nat → (Nat → Int32) → Nat → (Nat → Int32) → Prop) (V : Nat → Int32) : An := fun Q tr =>
  match Q with
  | (nn, nt, mn, mt, dp, rf, by_, so, di, le) =>
    pif (abv dp (lm 0) ∨ abv rf (lm 1) ∨ abv by_ (lm 2)) (2, tr.1, tr.2.1 + 1, tr.2.2)
      (pif (so = 0) (0, tr.1, tr.2.1 + 1, tr.2.2)
        (pif (0 < di ∧ abv le (lm 3)) (2, tr.1, tr.2.1 + 1, tr.2.2)
          (pif (0 < di ∧ bs = 0) (0, tr.1, tr.2.1 + 1, tr.2.2)
            (pif (so = 2) (0, tr.1, tr.2.1 + 1, tr.2.2)
              ((cmpP (fun i => M i nn nt mn mt) V np 0 tr.1 tr.2.2).1, (cmpP (fun i => M i nn nt mn mt) V np 0 tr.1 tr.2.2).2.1, tr.2.1 + 1, (cmpP (fun i => M i nn nt mn mt) V np 0 tr.1 tr.2.2).2.2)))))
noncomputable def anJ (a b : An) : An := fun Q tr =>
  pif ((a Q tr).1 = 2) (2, (a Q tr).2) (pif ((b Q (a Q tr).2).1 = 2) (2, (b Q (a Q tr).2).2) (pif ((a Q tr).1 = 1 ∨ (b Q (a Q tr).2).1 = 1) 1 0, (b Q (a Q tr).2).2))
noncomputable def anS (al : Int32) (a : An) : An := fun Q tr =>
  match Q with
  | (_, _, _, _, _, _, _, so, _, _) => (pif ((a Q tr).1 = 0 ∧ (so = 1 ∨ (so = 0 ∧ ¬ al = 0))) 2 (a Q tr).1, (a Q tr).2)
noncomputable def anD (gv : Int32) (a : An) : An := fun Q tr => (pif ((a Q tr).1 = 0) gv (a Q tr).1, (a Q tr).2)
noncomputable def anO (bn : Nat) (bt : Nat → Int32) (a : An) : An := fun Q tr =>
  match Q with
  | (nn, nt, _, _, _, _, _, so, _, _) => pif (so = 1 ∧ bgn nn nt bt 0 bn) (a Q tr) (0, tr)
/-- a text filter at a in the map g: bases, limits, np patterns: what each says, its shape, when it matches -/
def tf (G : GG) (g : Wd) (a : Nat) (bs : Int32) (lm : Nat → Int32) (np : Nat) (V Sh : Nat → Int32) (M : Nat → Nat → (Nat → Int32) → Nat → (Nat → Int32) → Prop) : Prop :=
  ∃ (la pa : Nat) (pf : Nat → Option Nat), g a = some (.inr (CI_TextFilter, [.int 1, .int 1, .int 1, .int bs, .ref la, .ref pa])) ∧ g la = some (.inl (G.2.1 0, 4, .inl lm)) ∧ g pa = some (.inl (G.2.1 3, np, .inr (.inr (.inr (.inr pf))))) ∧ np ≤ 91 ∧ (bs = 0 ∨ bs = 1) ∧
    ∀ i, i < np → ∃ (pk ta tr tcap tn : Nat) (t : Nat → Int32) (rj : Int32) (sh m0 m1 n0 n1 : Nat), pf i = some pk ∧ cp G g pk ta tr tcap tn t rj sh m0 m1 n0 n1 ∧ V i = vdc rj ∧ Sh i = fsh sh m0 m1 ∧ ∀ nn nt mn mt, M i nn nt mn mt ↔ mat t sh m0 m1 n0 n1 nn nt mn mt
theorem tf.mono {G : GG} {g g' : Wd} {a : Nat} {bs : Int32} {lm : Nat → Int32} {np : Nat} {V Sh : Nat → Int32} {M : Nat → Nat → (Nat → Int32) → Nat → (Nat → Int32) → Prop} (h : tf G g a bs lm np V Sh M) (hg : gle g g') : tf G g' a bs lm np V Sh M := by
  obtain ⟨la, pa, pf, h1, h2, h3, h4, h5, h6⟩ := h
  refine ⟨la, pa, pf, hg _ _ h1, hg _ _ h2, hg _ _ h3, h4, h5, fun i hi => ?_⟩
  obtain ⟨pk, ta, tr, tcap, tn, t, rj, sh, m0, m1, n0, n1, e1, e2, e3, e4, e5⟩ := h6 i hi
  exact ⟨pk, ta, tr, tcap, tn, t, rj, sh, m0, m1, n0, n1, e1, e2.mono hg, e3, e4, e5⟩
theorem gle.upf {g f : Wd} {q : Nat} {e : va_E} (h : gle g f) (hq : g q = none) : gle g (va_up f q (some e)) := fun b x hb => by
  rw [va_up_ne _ _ (wnf hb hq)]
  exact h b x hb
theorem anT_eq {bs : Int32} {lm : Nat → Int32} {np : Nat} {M : Nat → Nat → (Nat → Int32) → Nat → (Nat → Int32) → Prop} {V : Nat → Int32} {nn mn : Nat} {nt mt : Nat → Int32} {dp rf by_ so di le co tx lx : Int32} : anT bs lm np M V (nn, nt, mn, mt, dp, rf, by_, so, di, le) (co, tx, lx) =
    pif (abv dp (lm 0) ∨ abv rf (lm 1) ∨ abv by_ (lm 2)) (2, co, tx + 1, lx)
      (pif (so = 0) (0, co, tx + 1, lx)
        (pif (0 < di ∧ abv le (lm 3)) (2, co, tx + 1, lx)
          (pif (0 < di ∧ bs = 0) (0, co, tx + 1, lx)
            (pif (so = 2) (0, co, tx + 1, lx)
              ((cmpP (fun i => M i nn nt mn mt) V np 0 co lx).1, (cmpP (fun i => M i nn nt mn mt) V np 0 co lx).2.1, tx + 1, (cmpP (fun i => M i nn nt mn mt) V np 0 co lx).2.2))))) := rfl
end
section
/-! links of the pools, as the walks ask for them -/
theorem l_TextFilter_15_TextFilter : lnk "StreamFilters$TextFilter" 15 F_TextFilter 6 4 := ⟨by decide, "StreamFilters$TextFilter", Or.inl rfl, Or.inl (tb 367 (by decide +kernel) rfl)⟩
theorem l_TextFilter_19_TextFilter : lnk "StreamFilters$TextFilter" 19 F_TextFilter 6 5 := ⟨by decide, "StreamFilters$TextFilter", Or.inl rfl, Or.inl (tb 368 (by decide +kernel) rfl)⟩
theorem cw_TextFilter_55 : cwk "StreamFilters$TextFilter" 55 y_TextFilter_limitAt b_TextFilter_limitAt 2 (some .int) 1 := ⟨Or.inl (tb 537 (by decide +kernel) rfl), (tb 540 (by decide +kernel) rfl), (tb 13 (by decide +kernel) rfl), by decide, by decide, by decide +kernel⟩
theorem se_TextFilter_limitAt : Cond.instanceMethod y_TextFilter_limitAt ∈ TB ∧ Cond.selects "StreamFilters$TextFilter" y_TextFilter_limitAt y_TextFilter_limitAt ∈ TB := ⟨(tb 538 (by decide +kernel) rfl), (tb 539 (by decide +kernel) rfl)⟩
/-! decode rows -/
theorem d_TextFilter_countPatterns_0 : decode b_TextFilter_countPatterns 0 = .ok (.aload_n 0, 1) := by decide +kernel
theorem d_TextFilter_countPatterns_1 : decode b_TextFilter_countPatterns 1 = .ok (.getfield 19, 3) := by decide +kernel
theorem d_TextFilter_countPatterns_4 : decode b_TextFilter_countPatterns 4 = .ok (.arraylength, 1) := by decide +kernel
theorem d_TextFilter_countPatterns_5 : decode b_TextFilter_countPatterns 5 = .ok (.ireturn, 1) := by decide +kernel
theorem d_TextFilter_isAbove_0 : decode b_TextFilter_isAbove 0 = .ok (.aload_n 0, 1) := by decide +kernel
theorem d_TextFilter_isAbove_1 : decode b_TextFilter_isAbove 1 = .ok (.iload_n 2, 1) := by decide +kernel
theorem d_TextFilter_isAbove_2 : decode b_TextFilter_isAbove 2 = .ok (.invokevirtual 55, 3) := by decide +kernel
theorem d_TextFilter_isAbove_5 : decode b_TextFilter_isAbove 5 = .ok (.istore_n 3, 1) := by decide +kernel
theorem d_TextFilter_isAbove_6 : decode b_TextFilter_isAbove 6 = .ok (.iload_n 3, 1) := by decide +kernel
theorem d_TextFilter_isAbove_7 : decode b_TextFilter_isAbove 7 = .ok (.bipush (-2), 2) := by decide +kernel
theorem d_TextFilter_isAbove_9 : decode b_TextFilter_isAbove 9 = .ok (.if_icmp .eq 12, 3) := by decide +kernel
theorem d_TextFilter_isAbove_12 : decode b_TextFilter_isAbove 12 = .ok (.iload_n 1, 1) := by decide +kernel
theorem d_TextFilter_isAbove_13 : decode b_TextFilter_isAbove 13 = .ok (.iload_n 3, 1) := by decide +kernel
theorem d_TextFilter_isAbove_14 : decode b_TextFilter_isAbove 14 = .ok (.if_icmp .le 7, 3) := by decide +kernel
theorem d_TextFilter_isAbove_17 : decode b_TextFilter_isAbove 17 = .ok (.iconst 1, 1) := by decide +kernel
theorem d_TextFilter_isAbove_18 : decode b_TextFilter_isAbove 18 = .ok (.goto 4, 3) := by decide +kernel
theorem d_TextFilter_isAbove_21 : decode b_TextFilter_isAbove 21 = .ok (.iconst 0, 1) := by decide +kernel
theorem d_TextFilter_isAbove_22 : decode b_TextFilter_isAbove 22 = .ok (.ireturn, 1) := by decide +kernel
theorem d_TextFilter_limitAt_0 : decode b_TextFilter_limitAt 0 = .ok (.iload_n 1, 1) := by decide +kernel
theorem d_TextFilter_limitAt_1 : decode b_TextFilter_limitAt 1 = .ok (.ifCond .lt 21, 3) := by decide +kernel
theorem d_TextFilter_limitAt_4 : decode b_TextFilter_limitAt 4 = .ok (.iload_n 1, 1) := by decide +kernel
theorem d_TextFilter_limitAt_5 : decode b_TextFilter_limitAt 5 = .ok (.aload_n 0, 1) := by decide +kernel
theorem d_TextFilter_limitAt_6 : decode b_TextFilter_limitAt 6 = .ok (.getfield 15, 3) := by decide +kernel
theorem d_TextFilter_limitAt_9 : decode b_TextFilter_limitAt 9 = .ok (.arraylength, 1) := by decide +kernel
theorem d_TextFilter_limitAt_10 : decode b_TextFilter_limitAt 10 = .ok (.if_icmp .ge 12, 3) := by decide +kernel
theorem d_TextFilter_limitAt_13 : decode b_TextFilter_limitAt 13 = .ok (.aload_n 0, 1) := by decide +kernel
theorem d_TextFilter_limitAt_14 : decode b_TextFilter_limitAt 14 = .ok (.getfield 15, 3) := by decide +kernel
theorem d_TextFilter_limitAt_17 : decode b_TextFilter_limitAt 17 = .ok (.iload_n 1, 1) := by decide +kernel
theorem d_TextFilter_limitAt_18 : decode b_TextFilter_limitAt 18 = .ok (.iaload, 1) := by decide +kernel
theorem d_TextFilter_limitAt_19 : decode b_TextFilter_limitAt 19 = .ok (.goto 5, 3) := by decide +kernel
theorem d_TextFilter_limitAt_22 : decode b_TextFilter_limitAt 22 = .ok (.bipush (-2), 2) := by decide +kernel
theorem d_TextFilter_limitAt_24 : decode b_TextFilter_limitAt 24 = .ok (.ireturn, 1) := by decide +kernel
theorem d_TextFilter_patternAt_0 : decode b_TextFilter_patternAt 0 = .ok (.iload_n 1, 1) := by decide +kernel
theorem d_TextFilter_patternAt_1 : decode b_TextFilter_patternAt 1 = .ok (.ifCond .lt 21, 3) := by decide +kernel
theorem d_TextFilter_patternAt_4 : decode b_TextFilter_patternAt 4 = .ok (.iload_n 1, 1) := by decide +kernel
theorem d_TextFilter_patternAt_5 : decode b_TextFilter_patternAt 5 = .ok (.aload_n 0, 1) := by decide +kernel
theorem d_TextFilter_patternAt_6 : decode b_TextFilter_patternAt 6 = .ok (.getfield 19, 3) := by decide +kernel
theorem d_TextFilter_patternAt_9 : decode b_TextFilter_patternAt 9 = .ok (.arraylength, 1) := by decide +kernel
theorem d_TextFilter_patternAt_10 : decode b_TextFilter_patternAt 10 = .ok (.if_icmp .ge 12, 3) := by decide +kernel
theorem d_TextFilter_patternAt_13 : decode b_TextFilter_patternAt 13 = .ok (.aload_n 0, 1) := by decide +kernel
theorem d_TextFilter_patternAt_14 : decode b_TextFilter_patternAt 14 = .ok (.getfield 19, 3) := by decide +kernel
theorem d_TextFilter_patternAt_17 : decode b_TextFilter_patternAt 17 = .ok (.iload_n 1, 1) := by decide +kernel
theorem d_TextFilter_patternAt_18 : decode b_TextFilter_patternAt 18 = .ok (.aaload, 1) := by decide +kernel
theorem d_TextFilter_patternAt_19 : decode b_TextFilter_patternAt 19 = .ok (.goto 4, 3) := by decide +kernel
theorem d_TextFilter_patternAt_22 : decode b_TextFilter_patternAt 22 = .ok (.aconst_null, 1) := by decide +kernel
theorem d_TextFilter_patternAt_23 : decode b_TextFilter_patternAt 23 = .ok (.areturn, 1) := by decide +kernel
set_option maxHeartbeats 4000000 in
set_option maxRecDepth 100000 in
/-- countPatterns() -/
theorem c_TextFilter_countPatterns (G : GG) (l : Launch) (sz : Nat) (f : Wd) {a : Nat} {bs : Int32} {lm : Nat → Int32} {np : Nat} {V Sh : Nat → Int32} {M : Nat → Nat → (Nat → Int32) → Nat → (Nat → Int32) → Prop} (ht : tf G f a bs lm np V Sh M) : Ci G l y_TextFilter_countPatterns b_TextFilter_countPatterns 1 (some .int) ({ frames := 0, cells := 0, slots := 0, locals := 0 }) sz f [.ref a] (fun v f' => f = f' ∧ v = nI np) := by
  refine ct_of (by decide) (Nat.le_of_ble_eq_true rfl) ?_
  intro p e s m below meth c ls H locs hEn
  obtain ⟨hc, hr, hlk, hin, hE, hw, hsz, hl⟩ := hEn
  have hx := hc.1
  have hb := hc.2.1
  have hl : lv_has ls 1 [(0, .ref a)] := hl
  obtain ⟨la, pa, pf, hta, htl, htp, hnp, hbs, hpat⟩ := ht
  refine lv_aload_n hx hb d_TextFilter_countPatterns_0 rfl (lv_at hl 0 rfl) ?_
  refine m_get hc hE hw hta kc_TextFilter l_TextFilter_19_TextFilter rfl d_TextFilter_countPatterns_1 ?_
  refine m_alen hc hE hw 3 htp rfl d_TextFilter_countPatterns_4 ?_
  exact m_iret hc hr hlk hw ⟨by first | decide | (dsimp only; omega), by first | decide | (dsimp only; omega)⟩ d_TextFilter_countPatterns_5 ⟨rfl, rfl⟩

set_option maxHeartbeats 4000000 in
set_option maxRecDepth 100000 in
/-- limitAt(k) -/
theorem c_TextFilter_limitAt (G : GG) (l : Launch) (sz : Nat) (f : Wd) {a : Nat} {bs : Int32} {lm : Nat → Int32} {np : Nat} {V Sh : Nat → Int32} {M : Nat → Nat → (Nat → Int32) → Nat → (Nat → Int32) → Prop} (ht : tf G f a bs lm np V Sh M) {k : Nat} (hk : k < 4) : Ci G l y_TextFilter_limitAt b_TextFilter_limitAt 2 (some .int) ({ frames := 0, cells := 0, slots := 0, locals := 0 }) sz f [.ref a, .int (nI k)] (fun v f' => f = f' ∧ v = lm k) := by
  refine ct_of (by decide) (Nat.le_of_ble_eq_true rfl) ?_
  intro p e s m below meth c ls H locs hEn
  obtain ⟨hc, hr, hlk, hin, hE, hw, hsz, hl⟩ := hEn
  have hx := hc.1
  have hb := hc.2.1
  have hl : lv_has ls 2 [(0, .ref a), (1, .int (nI k))] := hl
  obtain ⟨la, pa, pf, hta, htl, htp, hnp, hbs, hpat⟩ := ht
  refine lv_iload_n hx hb d_TextFilter_limitAt_0 rfl (lv_at hl 1 rfl) ?_
  refine lv_if_lt (tgt := 22) hx hb d_TextFilter_limitAt_1 (by decide) (fun c1 => ?_) (fun c1 => ?_)
  · refine lv_bipush (v := (-2)) hx hb d_TextFilter_limitAt_22 (by decide) ?_
    exact absurd c1 (nI_pos (by omega))
  · refine lv_iload_n hx hb d_TextFilter_limitAt_4 rfl (lv_at hl 1 rfl) ?_
    refine lv_aload_n hx hb d_TextFilter_limitAt_5 rfl (lv_at hl 0 rfl) ?_
    refine m_get hc hE hw hta kc_TextFilter l_TextFilter_15_TextFilter rfl d_TextFilter_limitAt_6 ?_
    refine m_alen hc hE hw 0 htl rfl d_TextFilter_limitAt_9 ?_
    refine lv_icmp_ge (tgt := 22) hx hb d_TextFilter_limitAt_10 (by decide) (fun c2 => ?_) (fun c2 => ?_)
    · refine lv_bipush (v := (-2)) hx hb d_TextFilter_limitAt_22 (by decide) ?_
      exact absurd ((nI_leI (a := 4) (b := k) (by decide) (by omega)).mp c2) (by omega)
    · refine lv_aload_n hx hb d_TextFilter_limitAt_13 rfl (lv_at hl 0 rfl) ?_
      refine m_get hc hE hw hta kc_TextFilter l_TextFilter_15_TextFilter rfl d_TextFilter_limitAt_14 ?_
      refine lv_iload_n hx hb d_TextFilter_limitAt_17 rfl (lv_at hl 1 rfl) ?_
      refine m_iald hc hE hw 0 htl rfl (vp_in_nI hk (by decide)) d_TextFilter_limitAt_18 ?_
      refine lv_goto (tgt := 24) hx hb d_TextFilter_limitAt_19 (by decide) ?_
      exact m_iret hc hr hlk hw ⟨by first | decide | (dsimp only; omega), by first | decide | (dsimp only; omega)⟩ d_TextFilter_limitAt_24 ⟨rfl, by rw [nI_clamp (by omega)]⟩

set_option maxHeartbeats 4000000 in
set_option maxRecDepth 100000 in
/-- patternAt(i) -/
theorem c_TextFilter_patternAt (G : GG) (l : Launch) (sz : Nat) (f : Wd) {a : Nat} {bs : Int32} {np : Nat} {pf : Nat → Option Nat} {la pa : Nat}  (hta : f a = some (.inr (5, [.int 1, .int 1, .int 1, .int bs, .ref la, .ref pa]))) (htp : f pa = some (.inl (G.2.1 3, np, .inr (.inr (.inr (.inr pf)))))) (hnp : np ≤ 91) (i : Int32) : Cq G l y_TextFilter_patternAt b_TextFilter_patternAt 2 (some (.object "StreamFilters$ClassPattern")) ({ frames := 0, cells := 0, slots := 0, locals := 0 }) sz f [.ref a, .int i] (fun v f' => f = f' ∧ v = pif (0 ≤ i ∧ i < nI np) (pf i.toNatClampNeg) none) := by
  refine ct_of (by decide) (Nat.le_of_ble_eq_true rfl) ?_
  intro p e s m below meth c ls H locs hEn
  obtain ⟨hc, hr, hlk, hin, hE, hw, hsz, hl⟩ := hEn
  have hx := hc.1
  have hb := hc.2.1
  have hl : lv_has ls 2 [(0, .ref a), (1, .int i)] := hl
  refine lv_iload_n hx hb d_TextFilter_patternAt_0 rfl (lv_at hl 1 rfl) ?_
  refine lv_if_lt (tgt := 22) hx hb d_TextFilter_patternAt_1 (by decide) (fun c1 => ?_) (fun c1 => ?_)
  · refine lv_null hx hb d_TextFilter_patternAt_22 ?_
    exact m_aret (r := none) hc hr hlk hw ⟨by first | decide | (dsimp only; omega), by first | decide | (dsimp only; omega)⟩ d_TextFilter_patternAt_23 ⟨rfl, (pif_f (fun z => absurd c1 (Int32.not_lt.mpr z.1))).symm⟩
  · refine lv_iload_n hx hb d_TextFilter_patternAt_4 rfl (lv_at hl 1 rfl) ?_
    refine lv_aload_n hx hb d_TextFilter_patternAt_5 rfl (lv_at hl 0 rfl) ?_
    refine m_get hc hE hw hta kc_TextFilter l_TextFilter_19_TextFilter rfl d_TextFilter_patternAt_6 ?_
    refine m_alen hc hE hw 3 htp rfl d_TextFilter_patternAt_9 ?_
    refine lv_icmp_ge (tgt := 22) hx hb d_TextFilter_patternAt_10 (by decide) (fun c2 => ?_) (fun c2 => ?_)
    · refine lv_null hx hb d_TextFilter_patternAt_22 ?_
      exact m_aret (r := none) hc hr hlk hw ⟨by first | decide | (dsimp only; omega), by first | decide | (dsimp only; omega)⟩ d_TextFilter_patternAt_23 ⟨rfl, (pif_f (fun z => absurd c2 (Int32.not_le.mpr z.2))).symm⟩
    · refine lv_aload_n hx hb d_TextFilter_patternAt_13 rfl (lv_at hl 0 rfl) ?_
      refine m_get hc hE hw hta kc_TextFilter l_TextFilter_19_TextFilter rfl d_TextFilter_patternAt_14 ?_
      refine lv_iload_n hx hb d_TextFilter_patternAt_17 rfl (lv_at hl 1 rfl) ?_
      refine m_aald hc hE hw 3 htp rfl (vin c1 c2 (Nat.le_refl np) (by omega)) d_TextFilter_patternAt_18 ?_
      refine lv_goto (tgt := 23) hx hb d_TextFilter_patternAt_19 (by decide) ?_
      exact m_aret (r := (pf i.toNatClampNeg)) hc hr hlk hw ⟨by first | decide | (dsimp only; omega), by first | decide | (dsimp only; omega)⟩ d_TextFilter_patternAt_23 ⟨rfl, (pif_t ⟨Int32.not_lt.mp c1, Int32.not_le.mp c2⟩).symm⟩

set_option maxHeartbeats 4000000 in
set_option maxRecDepth 100000 in
/-- isAbove(x, k) -/
theorem c_TextFilter_isAbove (G : GG) (l : Launch) (sz : Nat) (f : Wd) {a : Nat} {bs : Int32} {lm : Nat → Int32} {np : Nat} {V Sh : Nat → Int32} {M : Nat → Nat → (Nat → Int32) → Nat → (Nat → Int32) → Prop} (ht : tf G f a bs lm np V Sh M) (x : Int32) {k : Nat} (hk : k < 4) : Ci G l y_TextFilter_isAbove b_TextFilter_isAbove 4 (some .boolean) ({ frames := 1, cells := 0, slots := 0, locals := 21 }) sz f [.ref a, .int x, .int (nI k)] (fun v f' => f = f' ∧ v = bI (abv x (lm k))) := by
  refine ct_of (by decide) (Nat.le_of_ble_eq_true rfl) ?_
  intro p e s m below meth c ls H locs hEn
  obtain ⟨hc, hr, hlk, hin, hE, hw, hsz, hl⟩ := hEn
  have hx := hc.1
  have hb := hc.2.1
  have hl : lv_has ls 4 [(0, .ref a), (1, .int x), (2, .int (nI k))] := hl
  have ht2 := ht
  obtain ⟨la, pa, pf, hta, -⟩ := ht2
  refine lv_aload_n hx hb d_TextFilter_isAbove_0 rfl (lv_at hl 0 rfl) ?_
  refine lv_iload_n hx hb d_TextFilter_isAbove_1 rfl (lv_at hl 2 rfl) ?_
  refine m_calli hw (m_runV (As := [.int (nI k)]) (rest := []) hc hE hw (c_TextFilter_limitAt G l H.size f ht hk) hta rfl cw_TextFilter_55 se_TextFilter_limitAt rfl hl.1 rfl (Nat.le_of_ble_eq_true rfl) d_TextFilter_isAbove_2 ⟨rfl, rfl, by decide, by decide⟩ ⟨by first | decide | (dsimp only; omega), by first | decide | (dsimp only; omega)⟩) (fun r3 g2 H locs p1 hw => ?_)
  obtain ⟨rfl, p1⟩ := p1
  subst p1
  refine lv_istore_n (lv' := [(3, .int (lm k)), (0, .ref a), (1, .int x), (2, .int (nI k))]) hx hb d_TextFilter_isAbove_5 rfl hl (by decide) rfl (fun ls hl => ?_)
  refine lv_iload_n hx hb d_TextFilter_isAbove_6 rfl (lv_at hl 0 rfl) ?_
  refine lv_bipush (v := (-2)) hx hb d_TextFilter_isAbove_7 (by decide) ?_
  refine lv_icmp_eq (tgt := 21) hx hb d_TextFilter_isAbove_9 (by decide) (fun c4 => ?_) (fun c4 => ?_)
  · refine lv_iconst (v := 0) hx hb d_TextFilter_isAbove_21 (by decide) ?_
    exact m_zret hc hr hlk hw ⟨by first | decide | (dsimp only; omega), by first | decide | (dsimp only; omega)⟩ d_TextFilter_isAbove_22 (by decide) ⟨rfl, (bI_f (fun z => z.1 c4)).symm⟩
  · refine lv_iload_n hx hb d_TextFilter_isAbove_12 rfl (lv_at hl 2 rfl) ?_
    refine lv_iload_n hx hb d_TextFilter_isAbove_13 rfl (lv_at hl 0 rfl) ?_
    refine lv_icmp_le (tgt := 21) hx hb d_TextFilter_isAbove_14 (by decide) (fun c5 => ?_) (fun c5 => ?_)
    · refine lv_iconst (v := 0) hx hb d_TextFilter_isAbove_21 (by decide) ?_
      exact m_zret hc hr hlk hw ⟨by first | decide | (dsimp only; omega), by first | decide | (dsimp only; omega)⟩ d_TextFilter_isAbove_22 (by decide) ⟨rfl, (bI_f (fun z => absurd z.2 (Int32.not_lt.mpr c5))).symm⟩
    · refine lv_iconst (v := 1) hx hb d_TextFilter_isAbove_17 (by decide) ?_
      refine lv_goto (tgt := 22) hx hb d_TextFilter_isAbove_18 (by decide) ?_
      exact m_zret hc hr hlk hw ⟨by first | decide | (dsimp only; omega), by first | decide | (dsimp only; omega)⟩ d_TextFilter_isAbove_22 (by decide) ⟨rfl, (bI_t ⟨c4, Int32.not_le.mp c5⟩).symm⟩
end
section
/-! links of the pools, as the walks ask for them -/
theorem l_TextFilter_63_Question : lnk "StreamFilters$TextFilter" 63 F_Question 11 8 := ⟨by decide, "StreamFilters$Question", Or.inl rfl, Or.inl (tb 70 (by decide +kernel) rfl)⟩
theorem l_TextFilter_72_Question : lnk "StreamFilters$TextFilter" 72 F_Question 11 10 := ⟨by decide, "StreamFilters$Question", Or.inl rfl, Or.inl (tb 76 (by decide +kernel) rfl)⟩
theorem cw_TextFilter_59 : cwk "StreamFilters$TextFilter" 59 y_TextFilter_patternAt b_TextFilter_patternAt 2 (some (.object "StreamFilters$ClassPattern")) 1 := ⟨Or.inl (tb 545 (by decide +kernel) rfl), (tb 548 (by decide +kernel) rfl), (tb 13 (by decide +kernel) rfl), by decide, by decide, by decide +kernel⟩
theorem cw_TextFilter_66 : cwk "StreamFilters$TextFilter" 66 y_ClassPattern_matches b_ClassPattern_matches 2 (some .boolean) 1 := ⟨Or.inl (tb 549 (by decide +kernel) rfl), (tb 552 (by decide +kernel) rfl), (tb 11 (by decide +kernel) rfl), by decide, by decide, by decide +kernel⟩
theorem cw_TextFilter_75 : cwk "StreamFilters$TextFilter" 75 y_ClassPattern_verdict b_ClassPattern_verdict 1 (some .int) 0 := ⟨Or.inl (tb 572 (by decide +kernel) rfl), (tb 575 (by decide +kernel) rfl), (tb 11 (by decide +kernel) rfl), by decide, by decide, by decide +kernel⟩
theorem se_ClassPattern_matches : Cond.instanceMethod y_ClassPattern_matches ∈ TB ∧ Cond.selects "StreamFilters$ClassPattern" y_ClassPattern_matches y_ClassPattern_matches ∈ TB := ⟨(tb 550 (by decide +kernel) rfl), (tb 551 (by decide +kernel) rfl)⟩
theorem se_ClassPattern_verdict : Cond.instanceMethod y_ClassPattern_verdict ∈ TB ∧ Cond.selects "StreamFilters$ClassPattern" y_ClassPattern_verdict y_ClassPattern_verdict ∈ TB := ⟨(tb 573 (by decide +kernel) rfl), (tb 574 (by decide +kernel) rfl)⟩
theorem se_TextFilter_patternAt : Cond.instanceMethod y_TextFilter_patternAt ∈ TB ∧ Cond.selects "StreamFilters$TextFilter" y_TextFilter_patternAt y_TextFilter_patternAt ∈ TB := ⟨(tb 546 (by decide +kernel) rfl), (tb 547 (by decide +kernel) rfl)⟩
/-! decode rows -/
theorem d_TextFilter_comparePatterns_0 : decode b_TextFilter_comparePatterns 0 = .ok (.iconst 0, 1) := by decide +kernel
theorem d_TextFilter_comparePatterns_1 : decode b_TextFilter_comparePatterns 1 = .ok (.istore_n 2, 1) := by decide +kernel
theorem d_TextFilter_comparePatterns_2 : decode b_TextFilter_comparePatterns 2 = .ok (.iload_n 2, 1) := by decide +kernel
theorem d_TextFilter_comparePatterns_3 : decode b_TextFilter_comparePatterns 3 = .ok (.aload_n 0, 1) := by decide +kernel
theorem d_TextFilter_comparePatterns_4 : decode b_TextFilter_comparePatterns 4 = .ok (.getfield 19, 3) := by decide +kernel
theorem d_TextFilter_comparePatterns_7 : decode b_TextFilter_comparePatterns 7 = .ok (.arraylength, 1) := by decide +kernel
theorem d_TextFilter_comparePatterns_8 : decode b_TextFilter_comparePatterns 8 = .ok (.if_icmp .ge 47, 3) := by decide +kernel
theorem d_TextFilter_comparePatterns_11 : decode b_TextFilter_comparePatterns 11 = .ok (.aload_n 0, 1) := by decide +kernel
theorem d_TextFilter_comparePatterns_12 : decode b_TextFilter_comparePatterns 12 = .ok (.iload_n 2, 1) := by decide +kernel
theorem d_TextFilter_comparePatterns_13 : decode b_TextFilter_comparePatterns 13 = .ok (.invokevirtual 59, 3) := by decide +kernel
theorem d_TextFilter_comparePatterns_16 : decode b_TextFilter_comparePatterns 16 = .ok (.astore_n 3, 1) := by decide +kernel
theorem d_TextFilter_comparePatterns_17 : decode b_TextFilter_comparePatterns 17 = .ok (.aload_n 1, 1) := by decide +kernel
theorem d_TextFilter_comparePatterns_18 : decode b_TextFilter_comparePatterns 18 = .ok (.dup, 1) := by decide +kernel
theorem d_TextFilter_comparePatterns_19 : decode b_TextFilter_comparePatterns 19 = .ok (.getfield 63, 3) := by decide +kernel
theorem d_TextFilter_comparePatterns_22 : decode b_TextFilter_comparePatterns 22 = .ok (.iconst 1, 1) := by decide +kernel
theorem d_TextFilter_comparePatterns_23 : decode b_TextFilter_comparePatterns 23 = .ok (.iadd, 1) := by decide +kernel
theorem d_TextFilter_comparePatterns_24 : decode b_TextFilter_comparePatterns 24 = .ok (.putfield 63, 3) := by decide +kernel
theorem d_TextFilter_comparePatterns_27 : decode b_TextFilter_comparePatterns 27 = .ok (.aload_n 3, 1) := by decide +kernel
theorem d_TextFilter_comparePatterns_28 : decode b_TextFilter_comparePatterns 28 = .ok (.ifnull 21, 3) := by decide +kernel
theorem d_TextFilter_comparePatterns_31 : decode b_TextFilter_comparePatterns 31 = .ok (.aload_n 3, 1) := by decide +kernel
theorem d_TextFilter_comparePatterns_32 : decode b_TextFilter_comparePatterns 32 = .ok (.aload_n 1, 1) := by decide +kernel
theorem d_TextFilter_comparePatterns_33 : decode b_TextFilter_comparePatterns 33 = .ok (.invokevirtual 66, 3) := by decide +kernel
theorem d_TextFilter_comparePatterns_36 : decode b_TextFilter_comparePatterns 36 = .ok (.ifCond .eq 13, 3) := by decide +kernel
theorem d_TextFilter_comparePatterns_39 : decode b_TextFilter_comparePatterns 39 = .ok (.aload_n 1, 1) := by decide +kernel
theorem d_TextFilter_comparePatterns_40 : decode b_TextFilter_comparePatterns 40 = .ok (.iload_n 2, 1) := by decide +kernel
theorem d_TextFilter_comparePatterns_41 : decode b_TextFilter_comparePatterns 41 = .ok (.putfield 72, 3) := by decide +kernel
theorem d_TextFilter_comparePatterns_44 : decode b_TextFilter_comparePatterns 44 = .ok (.aload_n 3, 1) := by decide +kernel
theorem d_TextFilter_comparePatterns_45 : decode b_TextFilter_comparePatterns 45 = .ok (.invokevirtual 75, 3) := by decide +kernel
theorem d_TextFilter_comparePatterns_48 : decode b_TextFilter_comparePatterns 48 = .ok (.ireturn, 1) := by decide +kernel
theorem d_TextFilter_comparePatterns_49 : decode b_TextFilter_comparePatterns 49 = .ok (.iinc 2 1, 3) := by decide +kernel
theorem d_TextFilter_comparePatterns_52 : decode b_TextFilter_comparePatterns 52 = .ok (.goto (-50), 3) := by decide +kernel
theorem d_TextFilter_comparePatterns_55 : decode b_TextFilter_comparePatterns 55 = .ok (.iconst 0, 1) := by decide +kernel
theorem d_TextFilter_comparePatterns_56 : decode b_TextFilter_comparePatterns 56 = .ok (.ireturn, 1) := by decide +kernel
set_option maxHeartbeats 4000000 in
set_option maxRecDepth 100000 in
/-- comparePatterns(q) -/
theorem c_TextFilter_comparePatterns (G : GG) (l : Launch) (sz : Nat) (f : Wd) {a : Nat} {bs : Int32} {lm : Nat → Int32} {np : Nat} {V Sh : Nat → Int32} {M : Nat → Nat → (Nat → Int32) → Nat → (Nat → Int32) → Prop} {q na nr ncap nn : Nat} {nt : Nat → Int32} {ma mr mcap mn : Nat} {mt : Nat → Int32} {dp rf by_ so di le co tx lx : Int32} (hq : qs G f q na nr ncap nn nt ma mr mcap mn mt dp rf by_ so di le co tx lx) {g : Wd} (hg : gle g f) (hgq : g q = none) (ht : tf G g a bs lm np V Sh M) : Ci G l y_TextFilter_comparePatterns b_TextFilter_comparePatterns 4 (some .int) ({ frames := 4, cells := 0, slots := 0, locals := 95 }) sz f [.ref a, .ref q] (fun v f' => v = (cmpP (fun i => M i nn nt mn mt) V np 0 co lx).1 ∧ f' = va_up f q (some (.inr (2, [.ref na, .ref ma, .int dp, .int rf, .int by_, .int so, .int di, .int le, .int ((cmpP (fun i => M i nn nt mn mt) V np 0 co lx).2.1), .int tx, .int ((cmpP (fun i => M i nn nt mn mt) V np 0 co lx).2.2)])))) := by
  refine ct_of (by decide) (Nat.le_of_ble_eq_true rfl) ?_
  intro p e s m below meth c ls H locs hEn
  obtain ⟨hc, hr, hlk, hin, hE, hw, hsz, hl⟩ := hEn
  have hx := hc.1
  have hb := hc.2.1
  have hl : lv_has ls 4 [(0, .ref a), (1, .ref q)] := hl
  obtain ⟨la, pa, pf, hta, htl, htp, hnp, hbs, hpat⟩ := ht
  obtain ⟨hqc, hqn, hqm⟩ := hq
  have hwd : ∀ (co2 la2 : Int32), gle g (va_up f q (some (.inr (2, [.ref na, .ref ma, .int dp, .int rf, .int by_, .int so, .int di, .int le, .int co2, .int tx, .int la2])))) := fun _ _ => hg.upf hgq
  refine lv_iconst (v := 0) hx hb d_TextFilter_comparePatterns_0 (by decide) ?_
  refine lv_istore_n (lv' := [(2, .int 0), (0, .ref a), (1, .ref q)]) hx hb d_TextFilter_comparePatterns_1 rfl hl (by decide) rfl (fun ls hl => ?_)
  have loop : ∀ (fu : Nat) (i : Nat) (fw : Wd) (co2 : Int32) (ls : Array Slot) (H : Heap) (locs : List Loc), np - i < fu → i ≤ np → fw = va_up f q (some (.inr (2, [.ref na, .ref ma, .int dp, .int rf, .int by_, .int so, .int di, .int le, .int co2, .int tx, .int lx]))) → cmpP (fun i => M i nn nt mn mt) V np 0 co lx = cmpP (fun i => M i nn nt mn mt) V (np - i) i co2 lx → ms G.1 (Af f sz) fw s H locs → lv_has ls 4 [(2, .int (nI i)), (0, .ref a), (1, .ref q)] → W p l e ({ frames := 4, cells := 0, slots := 0, locals := 95 }) s m ([.ref a, .ref q] : List Value).toArray below meth c H locs 0 0 (MQ below (va_Qi (fun v f' => v = (cmpP (fun i => M i nn nt mn mt) V np 0 co lx).1 ∧ f' = va_up f q (some (.inr (2, [.ref na, .ref ma, .int dp, .int rf, .int by_, .int so, .int di, .int le, .int ((cmpP (fun i => M i nn nt mn mt) V np 0 co lx).2.1), .int tx, .int ((cmpP (fun i => M i nn nt mn mt) V np 0 co lx).2.2)])))) (Bw G f sz) (Af f sz)) ([.ref a, .ref q] : List Value).toArray s 0 0 (Af f sz)) (F0 m 2 ls []) := by
    intro fu
    induction fu with
    | zero => intro i fw co2 ls H locs h0; exact absurd h0 (Nat.not_lt_zero _)
    | succ fu ih =>
      intro i fw co2 ls H locs hfu hi hfw hres hw hl
      have hgf : gle g fw := by rw [hfw]; exact hwd _ _
      have hwq : fw q = some (.inr (2, [.ref na, .ref ma, .int dp, .int rf, .int by_, .int so, .int di, .int le, .int co2, .int tx, .int lx])) := by rw [hfw, va_up_self]
      refine lv_iload_n hx hb d_TextFilter_comparePatterns_2 rfl (lv_at hl 0 rfl) ?_
      refine lv_aload_n hx hb d_TextFilter_comparePatterns_3 rfl (lv_at hl 1 rfl) ?_
      refine m_get hc hE hw (hgf _ _ hta) kc_TextFilter l_TextFilter_19_TextFilter rfl d_TextFilter_comparePatterns_4 ?_
      refine m_alen hc hE hw 3 (hgf _ _ htp) rfl d_TextFilter_comparePatterns_7 ?_
      refine lv_icmp_ge (tgt := 55) hx hb d_TextFilter_comparePatterns_8 (by decide) (fun c1 => ?_) (fun c1 => ?_)
      · refine lv_iconst (v := 0) hx hb d_TextFilter_comparePatterns_55 (by decide) ?_
        have hin2 : i = np := by have := (nI_leI (by omega) (by omega)).mp c1; omega
        have hr2 : cmpP (fun i => M i nn nt mn mt) V np 0 co lx = (0, co2, lx) := by rw [hres, hin2, Nat.sub_self]; rfl
        exact m_iret hc hr hlk hw ⟨by first | decide | (dsimp only; omega), by first | decide | (dsimp only; omega)⟩ d_TextFilter_comparePatterns_56 ⟨by rw [hr2], by rw [hr2]; exact hfw⟩
      · refine lv_aload_n hx hb d_TextFilter_comparePatterns_11 rfl (lv_at hl 1 rfl) ?_
        refine lv_iload_n hx hb d_TextFilter_comparePatterns_12 rfl (lv_at hl 0 rfl) ?_
        refine m_callq hw (m_runV (As := [.int (nI i)]) (rest := []) hc hE hw (c_TextFilter_patternAt G l H.size fw (hgf _ _ hta) (hgf _ _ htp) hnp (nI i)) (hgf _ _ hta) rfl cw_TextFilter_59 se_TextFilter_patternAt rfl hl.1 rfl (Nat.le_of_ble_eq_true rfl) d_TextFilter_comparePatterns_13 ⟨rfl, rfl, by decide, by decide⟩ ⟨by first | decide | (dsimp only; omega), by first | decide | (dsimp only; omega)⟩) (fun r4 g3 H locs p2 hw => ?_)
        have hlt : i < np := Nat.not_le.mp (fun z => c1 (nI_le z (by omega)))
        obtain ⟨rfl, p2⟩ := p2
        obtain ⟨pk, ta, tr, tcap, tn, tt, rj, sh, m0, m1, n0, n1, e1, e2, e3, e4, e5⟩ := hpat i hlt
        rw [pif_t ⟨nI_pos' (by omega), nI_lt hlt (by omega)⟩, nI_clamp (by omega), e1] at p2
        subst p2
        refine lv_astore_n (lv' := [(3, .ref pk), (2, .int (nI i)), (0, .ref a), (1, .ref q)]) hx hb d_TextFilter_comparePatterns_16 rfl hl (by decide) rfl (fun ls hl => ?_)
        refine lv_aload_n hx hb d_TextFilter_comparePatterns_17 rfl (lv_at hl 3 rfl) ?_
        refine lv_dup hx hb d_TextFilter_comparePatterns_18 rfl ?_
        refine m_get hc hE hw hwq kc_Question l_TextFilter_63_Question rfl d_TextFilter_comparePatterns_19 ?_
        refine lv_iconst (v := 1) hx hb d_TextFilter_comparePatterns_22 (by decide) ?_
        refine lv_iadd hx hb d_TextFilter_comparePatterns_23 ?_
        refine m_put hc hE hw hwq kc_Question l_TextFilter_63_Question rfl ds_Question_8 rfl rfl (Nat.le_of_ble_eq_true rfl) d_TextFilter_comparePatterns_24 (fun H locs hw => ?_)
        obtain ⟨f5, ef5⟩ : ∃ z : Wd, z = va_up fw q (some (.inr (2, [.ref na, .ref ma, .int dp, .int rf, .int by_, .int so, .int di, .int le, .int (co2 + 1), .int tx, .int lx]))) := ⟨_, rfl⟩
        replace hw : ms G.1 (Af f sz) f5 s H locs := by rw [ef5]; exact hw
        have h6 : f5 q = some (.inr (2, [.ref na, .ref ma, .int dp, .int rf, .int by_, .int so, .int di, .int le, .int (co2 + 1), .int tx, .int lx])) := by rw [ef5, va_up_self]
        have hf_f5 : f5 = va_up f q (some (.inr (2, [.ref na, .ref ma, .int dp, .int rf, .int by_, .int so, .int di, .int le, .int (co2 + 1), .int tx, .int lx]))) := by rw [ef5, hfw, up_uu]
        have hg_f5 : gle g f5 := by rw [hf_f5]; exact hwd _ _
        have hq_f5 : qs G f5 q na nr ncap nn nt ma mr mcap mn mt dp rf by_ so di le (co2 + 1) tx lx := by rw [hf_f5]; exact ⟨va_up_self _ _ _, sg_up hqn hqc wd_x, sg_up hqm hqc wd_x⟩
        refine lv_aload_n hx hb d_TextFilter_comparePatterns_27 rfl (lv_at hl 0 rfl) ?_
        refine lv_ifnull hx hb d_TextFilter_comparePatterns_28 ?_
        refine lv_aload_n hx hb d_TextFilter_comparePatterns_31 rfl (lv_at hl 0 rfl) ?_
        refine lv_aload_n hx hb d_TextFilter_comparePatterns_32 rfl (lv_at hl 3 rfl) ?_
        refine m_calli hw (m_runV (As := [.ref q]) (rest := []) hc hE hw (c_ClassPattern_matches G l H.size f5 (e2.mono hg_f5) hq_f5) (hg_f5 _ _ e2.1) rfl cw_TextFilter_66 se_ClassPattern_matches rfl hl.1 rfl (Nat.le_of_ble_eq_true rfl) d_TextFilter_comparePatterns_33 ⟨rfl, rfl, by decide, by decide⟩ ⟨by first | decide | (dsimp only; omega), by first | decide | (dsimp only; omega)⟩) (fun r9 g8 H locs p7 hw => ?_)
        obtain ⟨rfl, p7⟩ := p7
        refine lv_if_eq (tgt := 49) hx hb d_TextFilter_comparePatterns_36 (by decide) (fun c10 => ?_) (fun c10 => ?_)
        · refine lv_iinc (v := (nI (i + 1))) (lv' := [(2, .int (nI (i + 1))), (3, .ref pk), (0, .ref a), (1, .ref q)]) hx hb d_TextFilter_comparePatterns_49 hl (k := 1) rfl (nI_1 _) (by decide) rfl (fun ls hl => ?_)
          refine lv_goto (tgt := 2) hx hb d_TextFilter_comparePatterns_52 (by decide) ?_
          have hm := bI_0.mp (p7.symm.trans c10)
          exact ih (i + 1) f5 (co2 + 1) ls H locs (by omega) (by omega) hf_f5 (by rw [hres, show np - i = (np - (i + 1)) + 1 by omega]; exact pif_f (fun z => hm ((e5 nn nt mn mt).mp z))) hw (lv_sub hl [0, 2, 3] rfl)
        · refine lv_aload_n hx hb d_TextFilter_comparePatterns_39 rfl (lv_at hl 3 rfl) ?_
          refine lv_iload_n hx hb d_TextFilter_comparePatterns_40 rfl (lv_at hl 1 rfl) ?_
          refine m_put hc hE hw h6 kc_Question l_TextFilter_72_Question rfl ds_Question_10 rfl rfl (Nat.le_of_ble_eq_true rfl) d_TextFilter_comparePatterns_41 (fun H locs hw => ?_)
          obtain ⟨f11, ef11⟩ : ∃ z : Wd, z = va_up f5 q (some (.inr (2, [.ref na, .ref ma, .int dp, .int rf, .int by_, .int so, .int di, .int le, .int (co2 + 1), .int tx, .int (nI i)]))) := ⟨_, rfl⟩
          replace hw : ms G.1 (Af f sz) f11 s H locs := by rw [ef11]; exact hw
          have h12 : f11 q = some (.inr (2, [.ref na, .ref ma, .int dp, .int rf, .int by_, .int so, .int di, .int le, .int (co2 + 1), .int tx, .int (nI i)])) := by rw [ef11, va_up_self]
          have hf_f11 : f11 = va_up f q (some (.inr (2, [.ref na, .ref ma, .int dp, .int rf, .int by_, .int so, .int di, .int le, .int (co2 + 1), .int tx, .int (nI i)]))) := by rw [ef11, ef5, up_uu, hfw, up_uu]
          have hg_f11 : gle g f11 := by rw [hf_f11]; exact hwd _ _
          have hq_f11 : qs G f11 q na nr ncap nn nt ma mr mcap mn mt dp rf by_ so di le (co2 + 1) tx (nI i) := by rw [hf_f11]; exact ⟨va_up_self _ _ _, sg_up hqn hqc wd_x, sg_up hqm hqc wd_x⟩
          refine lv_aload_n hx hb d_TextFilter_comparePatterns_44 rfl (lv_at hl 0 rfl) ?_
          refine m_calli hw (m_runV (As := []) (rest := []) hc hE hw (c_ClassPattern_verdict G l H.size f11 (e2.mono hg_f11)) (hg_f11 _ _ e2.1) rfl cw_TextFilter_75 se_ClassPattern_verdict rfl hl.1 rfl (Nat.le_of_ble_eq_true rfl) d_TextFilter_comparePatterns_45 ⟨rfl, rfl, by decide, by decide⟩ ⟨by first | decide | (dsimp only; omega), by first | decide | (dsimp only; omega)⟩) (fun r15 g14 H locs p13 hw => ?_)
          obtain ⟨rfl, p13⟩ := p13
          have hm := bI_n.mp (fun z => c10 (p7.trans z))
          have hr2 : cmpP (fun i => M i nn nt mn mt) V np 0 co lx = (V i, co2 + 1, nI i) := by rw [hres, show np - i = (np - i - 1) + 1 by omega]; exact pif_t ((e5 nn nt mn mt).mpr hm)
          exact m_iret hc hr hlk hw ⟨by first | decide | (dsimp only; omega), by first | decide | (dsimp only; omega)⟩ d_TextFilter_comparePatterns_48 ⟨by rw [hr2, e3]; exact p13, by rw [hr2]; exact hf_f11⟩
  exact loop (np + 1) 0 f co ls H locs (by omega) (Nat.zero_le _) (up_id hqc).symm rfl hw (lv_sub hl [0, 1, 2] rfl)
end
section
/-! links of the pools, as the walks ask for them -/
theorem l_TextFilter_23_Question : lnk "StreamFilters$TextFilter" 23 F_Question 11 9 := ⟨by decide, "StreamFilters$Question", Or.inl rfl, Or.inl (tb 73 (by decide +kernel) rfl)⟩
theorem l_TextFilter_29_Question : lnk "StreamFilters$TextFilter" 29 F_Question 11 2 := ⟨by decide, "StreamFilters$Question", Or.inl rfl, Or.inl (tb 55 (by decide +kernel) rfl)⟩
theorem l_TextFilter_36_Question : lnk "StreamFilters$TextFilter" 36 F_Question 11 3 := ⟨by decide, "StreamFilters$Question", Or.inl rfl, Or.inl (tb 57 (by decide +kernel) rfl)⟩
theorem l_TextFilter_39_Question : lnk "StreamFilters$TextFilter" 39 F_Question 11 4 := ⟨by decide, "StreamFilters$Question", Or.inl rfl, Or.inl (tb 59 (by decide +kernel) rfl)⟩
theorem l_TextFilter_42_Question : lnk "StreamFilters$TextFilter" 42 F_Question 11 5 := ⟨by decide, "StreamFilters$Question", Or.inl rfl, Or.inl (tb 64 (by decide +kernel) rfl)⟩
theorem l_TextFilter_45_Question : lnk "StreamFilters$TextFilter" 45 F_Question 11 6 := ⟨by decide, "StreamFilters$Question", Or.inl rfl, Or.inl (tb 66 (by decide +kernel) rfl)⟩
theorem l_TextFilter_48_Question : lnk "StreamFilters$TextFilter" 48 F_Question 11 7 := ⟨by decide, "StreamFilters$Question", Or.inl rfl, Or.inl (tb 68 (by decide +kernel) rfl)⟩
theorem l_TextFilter_9_TextFilter : lnk "StreamFilters$TextFilter" 9 F_TextFilter 6 3 := ⟨by decide, "StreamFilters$TextFilter", Or.inl rfl, Or.inl (tb 365 (by decide +kernel) rfl)⟩
theorem cw_TextFilter_32 : cwk "StreamFilters$TextFilter" 32 y_TextFilter_isAbove b_TextFilter_isAbove 4 (some .boolean) 2 := ⟨Or.inl (tb 533 (by decide +kernel) rfl), (tb 536 (by decide +kernel) rfl), (tb 13 (by decide +kernel) rfl), by decide, by decide, by decide +kernel⟩
theorem cw_TextFilter_51 : cwk "StreamFilters$TextFilter" 51 y_TextFilter_comparePatterns b_TextFilter_comparePatterns 4 (some .int) 1 := ⟨Or.inl (tb 541 (by decide +kernel) rfl), (tb 544 (by decide +kernel) rfl), (tb 13 (by decide +kernel) rfl), by decide, by decide, by decide +kernel⟩
theorem se_TextFilter_comparePatterns : Cond.instanceMethod y_TextFilter_comparePatterns ∈ TB ∧ Cond.selects "StreamFilters$TextFilter" y_TextFilter_comparePatterns y_TextFilter_comparePatterns ∈ TB := ⟨(tb 543 (by decide +kernel) rfl), (tbs 11 (by decide +kernel) rfl)⟩
theorem se_TextFilter_isAbove : Cond.instanceMethod y_TextFilter_isAbove ∈ TB ∧ Cond.selects "StreamFilters$TextFilter" y_TextFilter_isAbove y_TextFilter_isAbove ∈ TB := ⟨(tb 535 (by decide +kernel) rfl), (tbs 10 (by decide +kernel) rfl)⟩
/-! decode rows -/
theorem d_TextFilter_answer_0 : decode b_TextFilter_answer 0 = .ok (.aload_n 1, 1) := by decide +kernel
theorem d_TextFilter_answer_1 : decode b_TextFilter_answer 1 = .ok (.dup, 1) := by decide +kernel
theorem d_TextFilter_answer_2 : decode b_TextFilter_answer 2 = .ok (.getfield 23, 3) := by decide +kernel
theorem d_TextFilter_answer_5 : decode b_TextFilter_answer 5 = .ok (.iconst 1, 1) := by decide +kernel
theorem d_TextFilter_answer_6 : decode b_TextFilter_answer 6 = .ok (.iadd, 1) := by decide +kernel
theorem d_TextFilter_answer_7 : decode b_TextFilter_answer 7 = .ok (.putfield 23, 3) := by decide +kernel
theorem d_TextFilter_answer_10 : decode b_TextFilter_answer 10 = .ok (.aload_n 0, 1) := by decide +kernel
theorem d_TextFilter_answer_11 : decode b_TextFilter_answer 11 = .ok (.aload_n 1, 1) := by decide +kernel
theorem d_TextFilter_answer_12 : decode b_TextFilter_answer 12 = .ok (.getfield 29, 3) := by decide +kernel
theorem d_TextFilter_answer_15 : decode b_TextFilter_answer 15 = .ok (.iconst 0, 1) := by decide +kernel
theorem d_TextFilter_answer_16 : decode b_TextFilter_answer 16 = .ok (.invokevirtual 32, 3) := by decide +kernel
theorem d_TextFilter_answer_19 : decode b_TextFilter_answer 19 = .ok (.ifCond .ne 27, 3) := by decide +kernel
theorem d_TextFilter_answer_22 : decode b_TextFilter_answer 22 = .ok (.aload_n 0, 1) := by decide +kernel
theorem d_TextFilter_answer_23 : decode b_TextFilter_answer 23 = .ok (.aload_n 1, 1) := by decide +kernel
theorem d_TextFilter_answer_24 : decode b_TextFilter_answer 24 = .ok (.getfield 36, 3) := by decide +kernel
theorem d_TextFilter_answer_27 : decode b_TextFilter_answer 27 = .ok (.iconst 1, 1) := by decide +kernel
theorem d_TextFilter_answer_28 : decode b_TextFilter_answer 28 = .ok (.invokevirtual 32, 3) := by decide +kernel
theorem d_TextFilter_answer_31 : decode b_TextFilter_answer 31 = .ok (.ifCond .ne 15, 3) := by decide +kernel
theorem d_TextFilter_answer_34 : decode b_TextFilter_answer 34 = .ok (.aload_n 0, 1) := by decide +kernel
theorem d_TextFilter_answer_35 : decode b_TextFilter_answer 35 = .ok (.aload_n 1, 1) := by decide +kernel
theorem d_TextFilter_answer_36 : decode b_TextFilter_answer 36 = .ok (.getfield 39, 3) := by decide +kernel
theorem d_TextFilter_answer_39 : decode b_TextFilter_answer 39 = .ok (.iconst 2, 1) := by decide +kernel
theorem d_TextFilter_answer_40 : decode b_TextFilter_answer 40 = .ok (.invokevirtual 32, 3) := by decide +kernel
theorem d_TextFilter_answer_43 : decode b_TextFilter_answer 43 = .ok (.ifCond .eq 5, 3) := by decide +kernel
theorem d_TextFilter_answer_46 : decode b_TextFilter_answer 46 = .ok (.iconst 2, 1) := by decide +kernel
theorem d_TextFilter_answer_47 : decode b_TextFilter_answer 47 = .ok (.ireturn, 1) := by decide +kernel
theorem d_TextFilter_answer_48 : decode b_TextFilter_answer 48 = .ok (.aload_n 1, 1) := by decide +kernel
theorem d_TextFilter_answer_49 : decode b_TextFilter_answer 49 = .ok (.getfield 42, 3) := by decide +kernel
theorem d_TextFilter_answer_52 : decode b_TextFilter_answer 52 = .ok (.ifCond .ne 5, 3) := by decide +kernel
theorem d_TextFilter_answer_55 : decode b_TextFilter_answer 55 = .ok (.iconst 0, 1) := by decide +kernel
theorem d_TextFilter_answer_56 : decode b_TextFilter_answer 56 = .ok (.ireturn, 1) := by decide +kernel
theorem d_TextFilter_answer_57 : decode b_TextFilter_answer 57 = .ok (.aload_n 1, 1) := by decide +kernel
theorem d_TextFilter_answer_58 : decode b_TextFilter_answer 58 = .ok (.getfield 45, 3) := by decide +kernel
theorem d_TextFilter_answer_61 : decode b_TextFilter_answer 61 = .ok (.ifCond .le 26, 3) := by decide +kernel
theorem d_TextFilter_answer_64 : decode b_TextFilter_answer 64 = .ok (.aload_n 0, 1) := by decide +kernel
theorem d_TextFilter_answer_65 : decode b_TextFilter_answer 65 = .ok (.aload_n 1, 1) := by decide +kernel
theorem d_TextFilter_answer_66 : decode b_TextFilter_answer 66 = .ok (.getfield 48, 3) := by decide +kernel
theorem d_TextFilter_answer_69 : decode b_TextFilter_answer 69 = .ok (.iconst 3, 1) := by decide +kernel
theorem d_TextFilter_answer_70 : decode b_TextFilter_answer 70 = .ok (.invokevirtual 32, 3) := by decide +kernel
theorem d_TextFilter_answer_73 : decode b_TextFilter_answer 73 = .ok (.ifCond .eq 5, 3) := by decide +kernel
theorem d_TextFilter_answer_76 : decode b_TextFilter_answer 76 = .ok (.iconst 2, 1) := by decide +kernel
theorem d_TextFilter_answer_77 : decode b_TextFilter_answer 77 = .ok (.ireturn, 1) := by decide +kernel
theorem d_TextFilter_answer_78 : decode b_TextFilter_answer 78 = .ok (.aload_n 0, 1) := by decide +kernel
theorem d_TextFilter_answer_79 : decode b_TextFilter_answer 79 = .ok (.getfield 9, 3) := by decide +kernel
theorem d_TextFilter_answer_82 : decode b_TextFilter_answer 82 = .ok (.ifCond .ne 5, 3) := by decide +kernel
theorem d_TextFilter_answer_85 : decode b_TextFilter_answer 85 = .ok (.iconst 0, 1) := by decide +kernel
theorem d_TextFilter_answer_86 : decode b_TextFilter_answer 86 = .ok (.ireturn, 1) := by decide +kernel
theorem d_TextFilter_answer_87 : decode b_TextFilter_answer 87 = .ok (.aload_n 1, 1) := by decide +kernel
theorem d_TextFilter_answer_88 : decode b_TextFilter_answer 88 = .ok (.getfield 42, 3) := by decide +kernel
theorem d_TextFilter_answer_91 : decode b_TextFilter_answer 91 = .ok (.iconst 2, 1) := by decide +kernel
theorem d_TextFilter_answer_92 : decode b_TextFilter_answer 92 = .ok (.if_icmp .ne 7, 3) := by decide +kernel
theorem d_TextFilter_answer_95 : decode b_TextFilter_answer 95 = .ok (.iconst 0, 1) := by decide +kernel
theorem d_TextFilter_answer_96 : decode b_TextFilter_answer 96 = .ok (.goto 8, 3) := by decide +kernel
theorem d_TextFilter_answer_99 : decode b_TextFilter_answer 99 = .ok (.aload_n 0, 1) := by decide +kernel
theorem d_TextFilter_answer_100 : decode b_TextFilter_answer 100 = .ok (.aload_n 1, 1) := by decide +kernel
theorem d_TextFilter_answer_101 : decode b_TextFilter_answer 101 = .ok (.invokevirtual 51, 3) := by decide +kernel
theorem d_TextFilter_answer_104 : decode b_TextFilter_answer 104 = .ok (.ireturn, 1) := by decide +kernel
set_option maxHeartbeats 4000000 in
set_option maxRecDepth 100000 in
/-- TextFilter.answer(q) -/
theorem c_TextFilter_answer (G : GG) (l : Launch) (sz : Nat) (f : Wd) {a : Nat} {bs : Int32} {lm : Nat → Int32} {np : Nat} {V Sh : Nat → Int32} {M : Nat → Nat → (Nat → Int32) → Nat → (Nat → Int32) → Prop} {q na nr ncap nn : Nat} {nt : Nat → Int32} {ma mr mcap mn : Nat} {mt : Nat → Int32} {dp rf by_ so di le co tx lx : Int32} (hq : qs G f q na nr ncap nn nt ma mr mcap mn mt dp rf by_ so di le co tx lx) {g : Wd} (hg : gle g f) (hgq : g q = none) (ht : tf G g a bs lm np V Sh M) : Ci G l y_TextFilter_answer b_TextFilter_answer 2 (some .int) ({ frames := 5, cells := 0, slots := 0, locals := 118 }) sz f [.ref a, .ref q] (fun v f' => v = (anT bs lm np M V (nn, nt, mn, mt, dp, rf, by_, so, di, le) (co, tx, lx)).1 ∧ f' = va_up f q (some (.inr (2, [.ref na, .ref ma, .int dp, .int rf, .int by_, .int so, .int di, .int le, .int ((anT bs lm np M V (nn, nt, mn, mt, dp, rf, by_, so, di, le) (co, tx, lx)).2.1), .int ((anT bs lm np M V (nn, nt, mn, mt, dp, rf, by_, so, di, le) (co, tx, lx)).2.2.1), .int ((anT bs lm np M V (nn, nt, mn, mt, dp, rf, by_, so, di, le) (co, tx, lx)).2.2.2)])))) := by
  refine ct_of (by decide) (Nat.le_of_ble_eq_true rfl) ?_
  intro p e s m below meth c ls H locs hEn
  obtain ⟨hc, hr, hlk, hin, hE, hw, hsz, hl⟩ := hEn
  have hx := hc.1
  have hb := hc.2.1
  have hl : lv_has ls 2 [(0, .ref a), (1, .ref q)] := hl
  have ht2 := ht
  obtain ⟨la, pa, pf, hta, htl, htp, hnp, hbs, hpat⟩ := ht2
  obtain ⟨hqc, hqn, hqm⟩ := hq
  refine lv_aload_n hx hb d_TextFilter_answer_0 rfl (lv_at hl 1 rfl) ?_
  refine lv_dup hx hb d_TextFilter_answer_1 rfl ?_
  refine m_get hc hE hw hqc kc_Question l_TextFilter_23_Question rfl d_TextFilter_answer_2 ?_
  refine lv_iconst (v := 1) hx hb d_TextFilter_answer_5 (by decide) ?_
  refine lv_iadd hx hb d_TextFilter_answer_6 ?_
  refine m_put hc hE hw hqc kc_Question l_TextFilter_23_Question rfl ds_Question_9 rfl rfl (Nat.le_of_ble_eq_true rfl) d_TextFilter_answer_7 (fun H locs hw => ?_)
  obtain ⟨f1, ef1⟩ : ∃ z : Wd, z = va_up f q (some (.inr (2, [.ref na, .ref ma, .int dp, .int rf, .int by_, .int so, .int di, .int le, .int co, .int (tx + 1), .int lx]))) := ⟨_, rfl⟩
  replace hw : ms G.1 (Af f sz) f1 s H locs := by rw [ef1]; exact hw
  have h2 : f1 q = some (.inr (2, [.ref na, .ref ma, .int dp, .int rf, .int by_, .int so, .int di, .int le, .int co, .int (tx + 1), .int lx])) := by rw [ef1, va_up_self]
  have hg_f1 : gle g f1 := by rw [ef1]; exact hg.upf hgq
  have hq_f1 : qs G f1 q na nr ncap nn nt ma mr mcap mn mt dp rf by_ so di le co (tx + 1) lx := by rw [ef1]; exact ⟨va_up_self _ _ _, sg_up hqn hqc wd_x, sg_up hqm hqc wd_x⟩
  have ht_f1 := ht.mono hg_f1
  refine lv_aload_n hx hb d_TextFilter_answer_10 rfl (lv_at hl 0 rfl) ?_
  refine lv_aload_n hx hb d_TextFilter_answer_11 rfl (lv_at hl 1 rfl) ?_
  refine m_get hc hE hw h2 kc_Question l_TextFilter_29_Question rfl d_TextFilter_answer_12 ?_
  refine lv_iconst (v := 0) hx hb d_TextFilter_answer_15 (by decide) ?_
  refine m_calli hw (m_runV (As := [.int dp, .int 0]) (rest := []) hc hE hw (c_TextFilter_isAbove G l H.size f1 ht_f1 dp (k := 0) (by decide)) (hg_f1 _ _ hta) rfl cw_TextFilter_32 se_TextFilter_isAbove rfl hl.1 rfl (Nat.le_of_ble_eq_true rfl) d_TextFilter_answer_16 ⟨rfl, rfl, by decide, by decide⟩ ⟨by first | decide | (dsimp only; omega), by first | decide | (dsimp only; omega)⟩) (fun r5 g4 H locs p3 hw => ?_)
  obtain ⟨rfl, p3⟩ := p3
  refine lv_if_ne (tgt := 46) hx hb d_TextFilter_answer_19 (by decide) (fun c6 => ?_) (fun c6 => ?_)
  · refine lv_iconst (v := 2) hx hb d_TextFilter_answer_46 (by decide) ?_
    have hr2 : anT bs lm np M V (nn, nt, mn, mt, dp, rf, by_, so, di, le) (co, tx, lx) = _ := anT_eq.trans (by rw [pif_t (Or.inl (bI_n.mp (fun z => c6 (p3.trans z))))])
    exact m_iret hc hr hlk hw ⟨by first | decide | (dsimp only; omega), by first | decide | (dsimp only; omega)⟩ d_TextFilter_answer_47 ⟨by rw [hr2], by rw [hr2, ef1]⟩
  · refine lv_aload_n hx hb d_TextFilter_answer_22 rfl (lv_at hl 0 rfl) ?_
    refine lv_aload_n hx hb d_TextFilter_answer_23 rfl (lv_at hl 1 rfl) ?_
    refine m_get hc hE hw h2 kc_Question l_TextFilter_36_Question rfl d_TextFilter_answer_24 ?_
    refine lv_iconst (v := 1) hx hb d_TextFilter_answer_27 (by decide) ?_
    refine m_calli hw (m_runV (As := [.int rf, .int 1]) (rest := []) hc hE hw (c_TextFilter_isAbove G l H.size f1 ht_f1 rf (k := 1) (by decide)) (hg_f1 _ _ hta) rfl cw_TextFilter_32 se_TextFilter_isAbove rfl hl.1 rfl (Nat.le_of_ble_eq_true rfl) d_TextFilter_answer_28 ⟨rfl, rfl, by decide, by decide⟩ ⟨by first | decide | (dsimp only; omega), by first | decide | (dsimp only; omega)⟩) (fun r9 g8 H locs p7 hw => ?_)
    obtain ⟨rfl, p7⟩ := p7
    refine lv_if_ne (tgt := 46) hx hb d_TextFilter_answer_31 (by decide) (fun c10 => ?_) (fun c10 => ?_)
    · refine lv_iconst (v := 2) hx hb d_TextFilter_answer_46 (by decide) ?_
      have hr2 : anT bs lm np M V (nn, nt, mn, mt, dp, rf, by_, so, di, le) (co, tx, lx) = _ := anT_eq.trans (by rw [pif_t (Or.inr (Or.inl (bI_n.mp (fun z => c10 (p7.trans z)))))])
      exact m_iret hc hr hlk hw ⟨by first | decide | (dsimp only; omega), by first | decide | (dsimp only; omega)⟩ d_TextFilter_answer_47 ⟨by rw [hr2], by rw [hr2, ef1]⟩
    · refine lv_aload_n hx hb d_TextFilter_answer_34 rfl (lv_at hl 0 rfl) ?_
      refine lv_aload_n hx hb d_TextFilter_answer_35 rfl (lv_at hl 1 rfl) ?_
      refine m_get hc hE hw h2 kc_Question l_TextFilter_39_Question rfl d_TextFilter_answer_36 ?_
      refine lv_iconst (v := 2) hx hb d_TextFilter_answer_39 (by decide) ?_
      refine m_calli hw (m_runV (As := [.int by_, .int 2]) (rest := []) hc hE hw (c_TextFilter_isAbove G l H.size f1 ht_f1 by_ (k := 2) (by decide)) (hg_f1 _ _ hta) rfl cw_TextFilter_32 se_TextFilter_isAbove rfl hl.1 rfl (Nat.le_of_ble_eq_true rfl) d_TextFilter_answer_40 ⟨rfl, rfl, by decide, by decide⟩ ⟨by first | decide | (dsimp only; omega), by first | decide | (dsimp only; omega)⟩) (fun r13 g12 H locs p11 hw => ?_)
      obtain ⟨rfl, p11⟩ := p11
      refine lv_if_eq (tgt := 48) hx hb d_TextFilter_answer_43 (by decide) (fun c14 => ?_) (fun c14 => ?_)
      · refine lv_aload_n hx hb d_TextFilter_answer_48 rfl (lv_at hl 1 rfl) ?_
        refine m_get hc hE hw h2 kc_Question l_TextFilter_42_Question rfl d_TextFilter_answer_49 ?_
        refine lv_if_ne (tgt := 57) hx hb d_TextFilter_answer_52 (by decide) (fun c15 => ?_) (fun c15 => ?_)
        · refine lv_aload_n hx hb d_TextFilter_answer_57 rfl (lv_at hl 1 rfl) ?_
          refine m_get hc hE hw h2 kc_Question l_TextFilter_45_Question rfl d_TextFilter_answer_58 ?_
          refine lv_if_le (tgt := 87) hx hb d_TextFilter_answer_61 (by decide) (fun c16 => ?_) (fun c16 => ?_)
          · refine lv_aload_n hx hb d_TextFilter_answer_87 rfl (lv_at hl 1 rfl) ?_
            refine m_get hc hE hw h2 kc_Question l_TextFilter_42_Question rfl d_TextFilter_answer_88 ?_
            refine lv_iconst (v := 2) hx hb d_TextFilter_answer_91 (by decide) ?_
            refine lv_icmp_ne (tgt := 99) hx hb d_TextFilter_answer_92 (by decide) (fun c17 => ?_) (fun c17 => ?_)
            · refine lv_aload_n hx hb d_TextFilter_answer_99 rfl (lv_at hl 0 rfl) ?_
              refine lv_aload_n hx hb d_TextFilter_answer_100 rfl (lv_at hl 1 rfl) ?_
              refine m_calli hw (m_runV (As := [.ref q]) (rest := []) hc hE hw (c_TextFilter_comparePatterns G l H.size f1 hq_f1 hg_f1 hgq ht) (hg_f1 _ _ hta) rfl cw_TextFilter_51 se_TextFilter_comparePatterns rfl hl.1 rfl (Nat.le_of_ble_eq_true rfl) d_TextFilter_answer_101 ⟨rfl, rfl, by decide, by decide⟩ ⟨by first | decide | (dsimp only; omega), by first | decide | (dsimp only; omega)⟩) (fun r20 g19 H locs p18 hw => ?_)
              obtain ⟨p18, hfe⟩ := p18
              have hr2 : anT bs lm np M V (nn, nt, mn, mt, dp, rf, by_, so, di, le) (co, tx, lx) = _ := anT_eq.trans (by rw [pif_f (fun z => z.elim (bI_0.mp (p3.symm.trans c6)) (fun z => z.elim (bI_0.mp (p7.symm.trans c10)) (bI_0.mp (p11.symm.trans c14)))), pif_f c15, pif_f (fun z => absurd z.1 (Int32.not_lt.mpr c16)), pif_f (fun z => absurd z.1 (Int32.not_lt.mpr c16)), pif_f c17])
              exact m_iret hc hr hlk hw ⟨by first | decide | (dsimp only; omega), by first | decide | (dsimp only; omega)⟩ d_TextFilter_answer_104 ⟨by rw [hr2]; exact p18, by rw [hr2, hfe, ef1, up_uu]⟩
            · refine lv_iconst (v := 0) hx hb d_TextFilter_answer_95 (by decide) ?_
              refine lv_goto (tgt := 104) hx hb d_TextFilter_answer_96 (by decide) ?_
              have hr2 : anT bs lm np M V (nn, nt, mn, mt, dp, rf, by_, so, di, le) (co, tx, lx) = _ := anT_eq.trans (by rw [pif_f (fun z => z.elim (bI_0.mp (p3.symm.trans c6)) (fun z => z.elim (bI_0.mp (p7.symm.trans c10)) (bI_0.mp (p11.symm.trans c14)))), pif_f c15, pif_f (fun z => absurd z.1 (Int32.not_lt.mpr c16)), pif_f (fun z => absurd z.1 (Int32.not_lt.mpr c16)), pif_t c17])
              exact m_iret hc hr hlk hw ⟨by first | decide | (dsimp only; omega), by first | decide | (dsimp only; omega)⟩ d_TextFilter_answer_104 ⟨by rw [hr2], by rw [hr2, ef1]⟩
          · refine lv_aload_n hx hb d_TextFilter_answer_64 rfl (lv_at hl 0 rfl) ?_
            refine lv_aload_n hx hb d_TextFilter_answer_65 rfl (lv_at hl 1 rfl) ?_
            refine m_get hc hE hw h2 kc_Question l_TextFilter_48_Question rfl d_TextFilter_answer_66 ?_
            refine lv_iconst (v := 3) hx hb d_TextFilter_answer_69 (by decide) ?_
            refine m_calli hw (m_runV (As := [.int le, .int 3]) (rest := []) hc hE hw (c_TextFilter_isAbove G l H.size f1 ht_f1 le (k := 3) (by decide)) (hg_f1 _ _ hta) rfl cw_TextFilter_32 se_TextFilter_isAbove rfl hl.1 rfl (Nat.le_of_ble_eq_true rfl) d_TextFilter_answer_70 ⟨rfl, rfl, by decide, by decide⟩ ⟨by first | decide | (dsimp only; omega), by first | decide | (dsimp only; omega)⟩) (fun r23 g22 H locs p21 hw => ?_)
            obtain ⟨rfl, p21⟩ := p21
            refine lv_if_eq (tgt := 78) hx hb d_TextFilter_answer_73 (by decide) (fun c24 => ?_) (fun c24 => ?_)
            · refine lv_aload_n hx hb d_TextFilter_answer_78 rfl (lv_at hl 0 rfl) ?_
              refine m_get hc hE hw (hg_f1 _ _ hta) kc_TextFilter l_TextFilter_9_TextFilter rfl d_TextFilter_answer_79 ?_
              refine lv_if_ne (tgt := 87) hx hb d_TextFilter_answer_82 (by decide) (fun c25 => ?_) (fun c25 => ?_)
              · refine lv_aload_n hx hb d_TextFilter_answer_87 rfl (lv_at hl 1 rfl) ?_
                refine m_get hc hE hw h2 kc_Question l_TextFilter_42_Question rfl d_TextFilter_answer_88 ?_
                refine lv_iconst (v := 2) hx hb d_TextFilter_answer_91 (by decide) ?_
                refine lv_icmp_ne (tgt := 99) hx hb d_TextFilter_answer_92 (by decide) (fun c26 => ?_) (fun c26 => ?_)
                · refine lv_aload_n hx hb d_TextFilter_answer_99 rfl (lv_at hl 0 rfl) ?_
                  refine lv_aload_n hx hb d_TextFilter_answer_100 rfl (lv_at hl 1 rfl) ?_
                  refine m_calli hw (m_runV (As := [.ref q]) (rest := []) hc hE hw (c_TextFilter_comparePatterns G l H.size f1 hq_f1 hg_f1 hgq ht) (hg_f1 _ _ hta) rfl cw_TextFilter_51 se_TextFilter_comparePatterns rfl hl.1 rfl (Nat.le_of_ble_eq_true rfl) d_TextFilter_answer_101 ⟨rfl, rfl, by decide, by decide⟩ ⟨by first | decide | (dsimp only; omega), by first | decide | (dsimp only; omega)⟩) (fun r29 g28 H locs p27 hw => ?_)
                  obtain ⟨p27, hfe⟩ := p27
                  have hr2 : anT bs lm np M V (nn, nt, mn, mt, dp, rf, by_, so, di, le) (co, tx, lx) = _ := anT_eq.trans (by rw [pif_f (fun z => z.elim (bI_0.mp (p3.symm.trans c6)) (fun z => z.elim (bI_0.mp (p7.symm.trans c10)) (bI_0.mp (p11.symm.trans c14)))), pif_f c15, pif_f (fun z => (bI_0.mp (p21.symm.trans c24)) z.2), pif_f (fun z => c25 z.2), pif_f c26])
                  exact m_iret hc hr hlk hw ⟨by first | decide | (dsimp only; omega), by first | decide | (dsimp only; omega)⟩ d_TextFilter_answer_104 ⟨by rw [hr2]; exact p27, by rw [hr2, hfe, ef1, up_uu]⟩
                · refine lv_iconst (v := 0) hx hb d_TextFilter_answer_95 (by decide) ?_
                  refine lv_goto (tgt := 104) hx hb d_TextFilter_answer_96 (by decide) ?_
                  have hr2 : anT bs lm np M V (nn, nt, mn, mt, dp, rf, by_, so, di, le) (co, tx, lx) = _ := anT_eq.trans (by rw [pif_f (fun z => z.elim (bI_0.mp (p3.symm.trans c6)) (fun z => z.elim (bI_0.mp (p7.symm.trans c10)) (bI_0.mp (p11.symm.trans c14)))), pif_f c15, pif_f (fun z => (bI_0.mp (p21.symm.trans c24)) z.2), pif_f (fun z => c25 z.2), pif_t c26])
                  exact m_iret hc hr hlk hw ⟨by first | decide | (dsimp only; omega), by first | decide | (dsimp only; omega)⟩ d_TextFilter_answer_104 ⟨by rw [hr2], by rw [hr2, ef1]⟩
              · refine lv_iconst (v := 0) hx hb d_TextFilter_answer_85 (by decide) ?_
                have hr2 : anT bs lm np M V (nn, nt, mn, mt, dp, rf, by_, so, di, le) (co, tx, lx) = _ := anT_eq.trans (by rw [pif_f (fun z => z.elim (bI_0.mp (p3.symm.trans c6)) (fun z => z.elim (bI_0.mp (p7.symm.trans c10)) (bI_0.mp (p11.symm.trans c14)))), pif_f c15, pif_f (fun z => (bI_0.mp (p21.symm.trans c24)) z.2), pif_t ⟨Int32.not_le.mp c16, c25⟩])
                exact m_iret hc hr hlk hw ⟨by first | decide | (dsimp only; omega), by first | decide | (dsimp only; omega)⟩ d_TextFilter_answer_86 ⟨by rw [hr2], by rw [hr2, ef1]⟩
            · refine lv_iconst (v := 2) hx hb d_TextFilter_answer_76 (by decide) ?_
              have hr2 : anT bs lm np M V (nn, nt, mn, mt, dp, rf, by_, so, di, le) (co, tx, lx) = _ := anT_eq.trans (by rw [pif_f (fun z => z.elim (bI_0.mp (p3.symm.trans c6)) (fun z => z.elim (bI_0.mp (p7.symm.trans c10)) (bI_0.mp (p11.symm.trans c14)))), pif_f c15, pif_t ⟨Int32.not_le.mp c16, (bI_n.mp (fun z => c24 (p21.trans z)))⟩])
              exact m_iret hc hr hlk hw ⟨by first | decide | (dsimp only; omega), by first | decide | (dsimp only; omega)⟩ d_TextFilter_answer_77 ⟨by rw [hr2], by rw [hr2, ef1]⟩
        · refine lv_iconst (v := 0) hx hb d_TextFilter_answer_55 (by decide) ?_
          have hr2 : anT bs lm np M V (nn, nt, mn, mt, dp, rf, by_, so, di, le) (co, tx, lx) = _ := anT_eq.trans (by rw [pif_f (fun z => z.elim (bI_0.mp (p3.symm.trans c6)) (fun z => z.elim (bI_0.mp (p7.symm.trans c10)) (bI_0.mp (p11.symm.trans c14)))), pif_t c15])
          exact m_iret hc hr hlk hw ⟨by first | decide | (dsimp only; omega), by first | decide | (dsimp only; omega)⟩ d_TextFilter_answer_56 ⟨by rw [hr2], by rw [hr2, ef1]⟩
      · refine lv_iconst (v := 2) hx hb d_TextFilter_answer_46 (by decide) ?_
        have hr2 : anT bs lm np M V (nn, nt, mn, mt, dp, rf, by_, so, di, le) (co, tx, lx) = _ := anT_eq.trans (by rw [pif_t (Or.inr (Or.inr (bI_n.mp (fun z => c14 (p11.trans z)))))])
        exact m_iret hc hr hlk hw ⟨by first | decide | (dsimp only; omega), by first | decide | (dsimp only; omega)⟩ d_TextFilter_answer_47 ⟨by rw [hr2], by rw [hr2, ef1]⟩
end
section
/-! links of the pools, as the walks ask for them -/
/-! decode rows -/
/-- a filter's value: kind, LEAVES, HIGH, its answers, and of a text filter how many patterns, limits, bases, what its patterns say, their shapes -/
abbrev FV : Type := Int32 × Int32 × Int32 × An × Nat × (Nat → Int32) × Int32 × (Nat → Int32) × (Nat → Int32)
def TI0 : Nat × (Nat → Int32) × Int32 × (Nat → Int32) × (Nat → Int32) := (0, fun _ => 0, 0, fun _ => 0, fun _ => 0)
/-- the filter at a in the map g has the value v, and is at most d high -/
def RF (G : GG) (g : Wd) : Nat → Nat → FV → Prop
  | 0, _, _ => False
  | d + 1, a, v =>
    (∃ (bs : Int32) (lm : Nat → Int32) (np : Nat) (V Sh : Nat → Int32) (M : Nat → Nat → (Nat → Int32) → Nat → (Nat → Int32) → Prop), tf G g a bs lm np V Sh M ∧ v = (1, 1, 1, anT bs lm np M V, np, lm, bs, V, Sh))
    ∨ (∃ (b c2 : Nat) (vb vc : FV), g a = some (.inr (6, [.int 2, .int (vb.2.1 + vc.2.1), .int (1 + (if vb.2.2.1 < vc.2.2.1 then vc.2.2.1 else vb.2.2.1)), .ref b, .ref c2])) ∧ RF G g d b vb ∧ RF G g d c2 vc ∧ v = (2, (vb.2.1 + vc.2.1), (1 + (if vb.2.2.1 < vc.2.2.1 then vc.2.2.1 else vb.2.2.1)), (anJ vb.2.2.2.1 vc.2.2.2.1), TI0))
    ∨ (∃ (b : Nat) (vb : FV) (al : Int32), g a = some (.inr (7, [.int 3, .int vb.2.1, .int (1 + vb.2.2.1), .ref b, .int al])) ∧ RF G g d b vb ∧ (al = 0 ∨ al = 1) ∧ v = (3, vb.2.1, (1 + vb.2.2.1), (anS al vb.2.2.2.1), TI0))
    ∨ (∃ (b : Nat) (vb : FV) (gv : Int32), g a = some (.inr (8, [.int 4, .int vb.2.1, .int (1 + vb.2.2.1), .ref b, .int gv])) ∧ RF G g d b vb ∧ v = (4, vb.2.1, (1 + vb.2.2.1), (anD gv vb.2.2.2.1), TI0))
    ∨ (∃ (b sa sr scap bn : Nat) (bt : Nat → Int32) (vb : FV), g a = some (.inr (9, [.int 5, .int vb.2.1, .int (1 + vb.2.2.1), .ref b, .ref sa])) ∧ sg G g sa sr scap bn bt ∧ RF G g d b vb ∧ v = (5, vb.2.1, (1 + vb.2.2.1), (anO bn bt vb.2.2.2.1), TI0))
theorem RF.mono {G : GG} {g g' : Wd} (hg : gle g g') : ∀ (d a : Nat) (v : FV), RF G g d a v → RF G g' d a v := by
  intro d
  induction d with
  | zero => intro a v h; exact h.elim
  | succ d ih =>
    intro a v h
    rcases h with ⟨bs, lm, np, V, Sh, M, h1, h2⟩ | ⟨b, c2, vb, vc, h1, h2, h3, h4⟩ | ⟨b, vb, al, h1, h2, h3, h4⟩ | ⟨b, vb, gv, h1, h2, h3⟩ | ⟨b, sa, sr, scap, bn, bt, vb, h1, h2, h3, h4⟩
    · exact Or.inl ⟨bs, lm, np, V, Sh, M, h1.mono hg, h2⟩
    · exact Or.inr (Or.inl ⟨b, c2, vb, vc, hg _ _ h1, ih _ _ h2, ih _ _ h3, h4⟩)
    · exact Or.inr (Or.inr (Or.inl ⟨b, vb, al, hg _ _ h1, ih _ _ h2, h3, h4⟩))
    · exact Or.inr (Or.inr (Or.inr (Or.inl ⟨b, vb, gv, hg _ _ h1, ih _ _ h2, h3⟩)))
    · exact Or.inr (Or.inr (Or.inr (Or.inr ⟨b, sa, sr, scap, bn, bt, vb, hg _ _ h1, h2.mono hg, ih _ _ h3, h4⟩)))
theorem RF.up {G : GG} {g : Wd} : ∀ (d a : Nat) (v : FV), RF G g d a v → RF G g (d + 1) a v := by
  intro d
  induction d with
  | zero => intro a v h; exact h.elim
  | succ d ih =>
    intro a v h
    rcases h with h | ⟨b, c2, vb, vc, h1, h2, h3, h4⟩ | ⟨b, vb, al, h1, h2, h3, h4⟩ | ⟨b, vb, gv, h1, h2, h3⟩ | ⟨b, sa, sr, scap, bn, bt, vb, h1, h2, h3, h4⟩
    · exact Or.inl h
    · exact Or.inr (Or.inl ⟨b, c2, vb, vc, h1, ih _ _ h2, ih _ _ h3, h4⟩)
    · exact Or.inr (Or.inr (Or.inl ⟨b, vb, al, h1, ih _ _ h2, h3, h4⟩))
    · exact Or.inr (Or.inr (Or.inr (Or.inl ⟨b, vb, gv, h1, ih _ _ h2, h3⟩)))
    · exact Or.inr (Or.inr (Or.inr (Or.inr ⟨b, sa, sr, scap, bn, bt, vb, h1, h2, ih _ _ h3, h4⟩)))
/-- what a filter's answer says and does -/
def anP (f : Wd) (q na ma : Nat) (nn : Nat) (nt : Nat → Int32) (mn : Nat) (mt : Nat → Int32) (dp rf by_ so di le co tx lx : Int32) (an : An) : Int32 → Wd → Prop := fun v f' => v = (an (nn, nt, mn, mt, dp, rf, by_, so, di, le) (co, tx, lx)).1 ∧ f' = va_up f q (some (.inr (2, [.ref na, .ref ma, .int dp, .int rf, .int by_, .int so, .int di, .int le, .int ((an (nn, nt, mn, mt, dp, rf, by_, so, di, le) (co, tx, lx)).2.1), .int ((an (nn, nt, mn, mt, dp, rf, by_, so, di, le) (co, tx, lx)).2.2.1), .int ((an (nn, nt, mn, mt, dp, rf, by_, so, di, le) (co, tx, lx)).2.2.2)])))
/-- the contracts of answer, of filters over those at most d high -/
def ANS (G : GG) (l : Launch) (d : Nat) : Prop :=
  (∀ (sz : Nat) (f g : Wd) (a : Nat) (b c2 : Nat) (vb vc : FV) (q na nr ncap nn : Nat) (nt : Nat → Int32) (ma mr mcap mn : Nat) (mt : Nat → Int32) (dp rf by_ so di le co tx lx : Int32), g a = some (.inr (6, [.int 2, .int (vb.2.1 + vc.2.1), .int (1 + (if vb.2.2.1 < vc.2.2.1 then vc.2.2.1 else vb.2.2.1)), .ref b, .ref c2])) → RF G g d b vb → RF G g d c2 vc → qs G f q na nr ncap nn nt ma mr mcap mn mt dp rf by_ so di le co tx lx → gle g f → g q = none → Ci G l y_JoinedFilter_answer b_JoinedFilter_answer 4 (some .int) { frames := 5 + (d + 1), cells := 0, slots := 0, locals := 118 + 30 * (d + 1) } sz f [.ref a, .ref q] (anP f q na ma nn nt mn mt dp rf by_ so di le co tx lx (anJ vb.2.2.2.1 vc.2.2.2.1))) ∧
  (∀ (sz : Nat) (f g : Wd) (a : Nat) (b : Nat) (vb : FV) (al : Int32) (q na nr ncap nn : Nat) (nt : Nat → Int32) (ma mr mcap mn : Nat) (mt : Nat → Int32) (dp rf by_ so di le co tx lx : Int32), g a = some (.inr (7, [.int 3, .int vb.2.1, .int (1 + vb.2.2.1), .ref b, .int al])) → RF G g d b vb → qs G f q na nr ncap nn nt ma mr mcap mn mt dp rf by_ so di le co tx lx → gle g f → g q = none → Ci G l y_StrictFilter_answer b_StrictFilter_answer 4 (some .int) { frames := 5 + (d + 1), cells := 0, slots := 0, locals := 118 + 30 * (d + 1) } sz f [.ref a, .ref q] (anP f q na ma nn nt mn mt dp rf by_ so di le co tx lx (anS al vb.2.2.2.1))) ∧
  (∀ (sz : Nat) (f g : Wd) (a : Nat) (b : Nat) (vb : FV) (gv : Int32) (q na nr ncap nn : Nat) (nt : Nat → Int32) (ma mr mcap mn : Nat) (mt : Nat → Int32) (dp rf by_ so di le co tx lx : Int32), g a = some (.inr (8, [.int 4, .int vb.2.1, .int (1 + vb.2.2.1), .ref b, .int gv])) → RF G g d b vb → qs G f q na nr ncap nn nt ma mr mcap mn mt dp rf by_ so di le co tx lx → gle g f → g q = none → Ci G l y_DefaultFilter_answer b_DefaultFilter_answer 3 (some .int) { frames := 5 + (d + 1), cells := 0, slots := 0, locals := 118 + 30 * (d + 1) } sz f [.ref a, .ref q] (anP f q na ma nn nt mn mt dp rf by_ so di le co tx lx (anD gv vb.2.2.2.1))) ∧
  (∀ (sz : Nat) (f g : Wd) (a : Nat) (b sa sr scap bn : Nat) (bt : Nat → Int32) (vb : FV) (q na nr ncap nn : Nat) (nt : Nat → Int32) (ma mr mcap mn : Nat) (mt : Nat → Int32) (dp rf by_ so di le co tx lx : Int32), g a = some (.inr (9, [.int 5, .int vb.2.1, .int (1 + vb.2.2.1), .ref b, .ref sa])) → sg G g sa sr scap bn bt → RF G g d b vb → qs G f q na nr ncap nn nt ma mr mcap mn mt dp rf by_ so di le co tx lx → gle g f → g q = none → Ci G l y_OnlyFilter_answer b_OnlyFilter_answer 3 (some .int) { frames := 5 + (d + 1), cells := 0, slots := 0, locals := 118 + 30 * (d + 1) } sz f [.ref a, .ref q] (anP f q na ma nn nt mn mt dp rf by_ so di le co tx lx (anO bn bt vb.2.2.2.1)))

def y_Filter_answer : MethodName := ⟨"StreamFilters$Filter", "answer", "(LStreamFilters$Question;)I"⟩
theorem aw_TextFilter : Cond.code y_TextFilter_answer b_TextFilter_answer 2 (some .int) ∈ TB ∧ Cond.initialized y_TextFilter_answer.cls ∈ TB := ⟨(tb 532 (by decide +kernel) rfl), (tb 13 (by decide +kernel) rfl)⟩
theorem as_TextFilter : Cond.sameMethod y_Filter_answer.cls y_Filter_answer.cls y_Filter_answer.name y_Filter_answer.desc ∈ TB ∧ Cond.instanceMethod y_TextFilter_answer ∈ TB ∧ Cond.selects R_TextFilter y_Filter_answer y_TextFilter_answer ∈ TB ∧ Cond.declares y_Filter_answer ∈ EB := ⟨(tb 512 (by decide +kernel) rfl), (tb 531 (by decide +kernel) rfl), (tb 579 (by decide +kernel) rfl), (eb 511 (by decide +kernel) rfl)⟩
theorem aw_JoinedFilter : Cond.code y_JoinedFilter_answer b_JoinedFilter_answer 4 (some .int) ∈ TB ∧ Cond.initialized y_JoinedFilter_answer.cls ∈ TB := ⟨(tb 518 (by decide +kernel) rfl), (tb 14 (by decide +kernel) rfl)⟩
theorem as_JoinedFilter : Cond.sameMethod y_Filter_answer.cls y_Filter_answer.cls y_Filter_answer.name y_Filter_answer.desc ∈ TB ∧ Cond.instanceMethod y_JoinedFilter_answer ∈ TB ∧ Cond.selects R_JoinedFilter y_Filter_answer y_JoinedFilter_answer ∈ TB ∧ Cond.declares y_Filter_answer ∈ EB := ⟨(tb 512 (by decide +kernel) rfl), (tb 517 (by decide +kernel) rfl), (tb 576 (by decide +kernel) rfl), (eb 511 (by decide +kernel) rfl)⟩
theorem aw_StrictFilter : Cond.code y_StrictFilter_answer b_StrictFilter_answer 4 (some .int) ∈ TB ∧ Cond.initialized y_StrictFilter_answer.cls ∈ TB := ⟨(tb 529 (by decide +kernel) rfl), (tb 15 (by decide +kernel) rfl)⟩
theorem as_StrictFilter : Cond.sameMethod y_Filter_answer.cls y_Filter_answer.cls y_Filter_answer.name y_Filter_answer.desc ∈ TB ∧ Cond.instanceMethod y_StrictFilter_answer ∈ TB ∧ Cond.selects R_StrictFilter y_Filter_answer y_StrictFilter_answer ∈ TB ∧ Cond.declares y_Filter_answer ∈ EB := ⟨(tb 512 (by decide +kernel) rfl), (tb 528 (by decide +kernel) rfl), (tb 578 (by decide +kernel) rfl), (eb 511 (by decide +kernel) rfl)⟩
theorem aw_DefaultFilter : Cond.code y_DefaultFilter_answer b_DefaultFilter_answer 3 (some .int) ∈ TB ∧ Cond.initialized y_DefaultFilter_answer.cls ∈ TB := ⟨(tb 515 (by decide +kernel) rfl), (tb 16 (by decide +kernel) rfl)⟩
theorem as_DefaultFilter : Cond.sameMethod y_Filter_answer.cls y_Filter_answer.cls y_Filter_answer.name y_Filter_answer.desc ∈ TB ∧ Cond.instanceMethod y_DefaultFilter_answer ∈ TB ∧ Cond.selects R_DefaultFilter y_Filter_answer y_DefaultFilter_answer ∈ TB ∧ Cond.declares y_Filter_answer ∈ EB := ⟨(tb 512 (by decide +kernel) rfl), (tb 514 (by decide +kernel) rfl), (tb 513 (by decide +kernel) rfl), (eb 511 (by decide +kernel) rfl)⟩
theorem aw_OnlyFilter : Cond.code y_OnlyFilter_answer b_OnlyFilter_answer 3 (some .int) ∈ TB ∧ Cond.initialized y_OnlyFilter_answer.cls ∈ TB := ⟨(tb 521 (by decide +kernel) rfl), (tb 17 (by decide +kernel) rfl)⟩
theorem as_OnlyFilter : Cond.sameMethod y_Filter_answer.cls y_Filter_answer.cls y_Filter_answer.name y_Filter_answer.desc ∈ TB ∧ Cond.instanceMethod y_OnlyFilter_answer ∈ TB ∧ Cond.selects R_OnlyFilter y_Filter_answer y_OnlyFilter_answer ∈ TB ∧ Cond.declares y_Filter_answer ∈ EB := ⟨(tb 512 (by decide +kernel) rfl), (tb 520 (by decide +kernel) rfl), (tb 577 (by decide +kernel) rfl), (eb 511 (by decide +kernel) rfl)⟩
section RA
variable {p : Program} {l : Launch} {e : Env} {R : Room} {s : State} {m : MethodId} {args : Array Value} {below : List Frame} {meth : Method} {c : Code} {H : Heap} {locs : List Loc} {cells slots : Nat}
variable {cc : ByteArray} {pc nL idx : Nat} {ls : Array Slot} {rest : List Value} {G : GG} {A : Nat → Prop} {f g : Wd} {own : String}
set_option maxHeartbeats 4000000 in
theorem run_ans {d : Nat} (hIH : ∀ d', d = d' + 1 → ANS G l d') (hc : CallFix p m c cc nL s args TB own) (hE : ev G A s) (hw : ms G.1 A f s H locs) {b : Nat} {vb : FV} (hrf : RF G g d b vb) {q na nr ncap nn : Nat} {nt : Nat → Int32} {ma mr mcap mn : Nat} {mt : Nat → Int32} {dp rf by_ so di le co tx lx : Int32} (hq : qs G f q na nr ncap nn nt ma mr mcap mn mt dp rf by_ so di le co tx lx) (hg : gle g f) (hgq : g q = none) (hl : Cond.methodLink own idx y_Filter_answer ∈ TB) (hsize : ls.size = nL) (hW : (rest.map fun v => v.category).sum ≤ 8) (hdg : decode cc pc = .ok (.invokevirtual idx, 3)) (hR : 6 + d ≤ R.frames ∧ 141 + 30 * d ≤ R.locals) (hf : cells ≤ R.cells ∧ slots ≤ R.slots) :
    va_Run p l e R s m args below meth c H locs cells slots 0 0 (F0 m pc ls (.ref q :: .ref b :: rest)) rest (va_Qi (anP f q na ma nn nt mn mt dp rf by_ so di le co tx lx vb.2.2.2.1) (Bw G f H.size) (Af f H.size) (Value.ref b :: [Value.ref q]).toArray) (Af f H.size) := by
  cases d with
  | zero => exact hrf.elim
  | succ d =>
    have IH := hIH d rfl
    rcases hrf with ⟨bs, lm, np, V, Sh, M, h1, rfl⟩ | ⟨b1, c2, v1, vc, h1, h2, h3, rfl⟩ | ⟨b1, v1, al, h1, h2, h3, rfl⟩ | ⟨b1, v1, gv, h1, h2, rfl⟩ | ⟨b1, sa, sr, scap, bn, bt, v1, h1, h2, h3, rfl⟩
    · have h0 := h1
      obtain ⟨la, pa, pf, hta, -⟩ := h0
      exact m_runA (As := [.ref q]) (n := 1) hc hE hw (c_TextFilter_answer G l H.size f hq hg hgq h1) (hg _ _ hta) rfl ⟨hl, aw_TextFilter.1, aw_TextFilter.2, by decide, by decide, by decide +kernel⟩ as_TextFilter rfl hsize rfl hW hdg ⟨rfl, rfl, by dsimp only; omega, by dsimp only; omega⟩ ⟨hf.1, hf.2⟩
    · exact m_runA (As := [.ref q]) (n := 1) hc hE hw (IH.1 H.size f g b b1 c2 v1 vc _ _ _ _ _ _ _ _ _ _ _ _ _ _ _ _ _ _ _ _ h1 h2 h3 hq hg hgq) (hg _ _ h1) rfl ⟨hl, aw_JoinedFilter.1, aw_JoinedFilter.2, by decide, by decide, by decide +kernel⟩ as_JoinedFilter rfl hsize rfl hW hdg ⟨rfl, rfl, by dsimp only; omega, by dsimp only; omega⟩ ⟨hf.1, hf.2⟩
    · exact m_runA (As := [.ref q]) (n := 1) hc hE hw (IH.2.1 H.size f g b b1 v1 al _ _ _ _ _ _ _ _ _ _ _ _ _ _ _ _ _ _ _ _ h1 h2 hq hg hgq) (hg _ _ h1) rfl ⟨hl, aw_StrictFilter.1, aw_StrictFilter.2, by decide, by decide, by decide +kernel⟩ as_StrictFilter rfl hsize rfl hW hdg ⟨rfl, rfl, by dsimp only; omega, by dsimp only; omega⟩ ⟨hf.1, hf.2⟩
    · exact m_runA (As := [.ref q]) (n := 1) hc hE hw (IH.2.2.1 H.size f g b b1 v1 gv _ _ _ _ _ _ _ _ _ _ _ _ _ _ _ _ _ _ _ _ h1 h2 hq hg hgq) (hg _ _ h1) rfl ⟨hl, aw_DefaultFilter.1, aw_DefaultFilter.2, by decide, by decide, by decide +kernel⟩ as_DefaultFilter rfl hsize rfl hW hdg ⟨rfl, rfl, by dsimp only; omega, by dsimp only; omega⟩ ⟨hf.1, hf.2⟩
    · exact m_runA (As := [.ref q]) (n := 1) hc hE hw (IH.2.2.2 H.size f g b b1 sa sr scap bn bt v1 _ _ _ _ _ _ _ _ _ _ _ _ _ _ _ _ _ _ _ _ h1 h2 h3 hq hg hgq) (hg _ _ h1) rfl ⟨hl, aw_OnlyFilter.1, aw_OnlyFilter.2, by decide, by decide, by decide +kernel⟩ as_OnlyFilter rfl hsize rfl hW hdg ⟨rfl, rfl, by dsimp only; omega, by dsimp only; omega⟩ ⟨hf.1, hf.2⟩
end RA
end
section
/-! links of the pools, as the walks ask for them -/
theorem l_DefaultFilter_16_DefaultFilter : lnk "StreamFilters$DefaultFilter" 16 F_DefaultFilter 5 3 := ⟨by decide, "StreamFilters$DefaultFilter", Or.inl rfl, Or.inl (tb 460 (by decide +kernel) rfl)⟩
theorem l_DefaultFilter_22_DefaultFilter : lnk "StreamFilters$DefaultFilter" 22 F_DefaultFilter 5 4 := ⟨by decide, "StreamFilters$DefaultFilter", Or.inl rfl, Or.inl (tb 461 (by decide +kernel) rfl)⟩
theorem l_JoinedFilter_22_JoinedFilter : lnk "StreamFilters$JoinedFilter" 22 F_JoinedFilter 5 3 := ⟨by decide, "StreamFilters$JoinedFilter", Or.inl rfl, Or.inl (tb 420 (by decide +kernel) rfl)⟩
theorem l_JoinedFilter_28_JoinedFilter : lnk "StreamFilters$JoinedFilter" 28 F_JoinedFilter 5 4 := ⟨by decide, "StreamFilters$JoinedFilter", Or.inl rfl, Or.inl (tb 421 (by decide +kernel) rfl)⟩
theorem l_OnlyFilter_16_OnlyFilter : lnk "StreamFilters$OnlyFilter" 16 F_OnlyFilter 5 3 := ⟨by decide, "StreamFilters$OnlyFilter", Or.inl rfl, Or.inl (tb 481 (by decide +kernel) rfl)⟩
theorem l_OnlyFilter_22_OnlyFilter : lnk "StreamFilters$OnlyFilter" 22 F_OnlyFilter 5 4 := ⟨by decide, "StreamFilters$OnlyFilter", Or.inl rfl, Or.inl (tb 482 (by decide +kernel) rfl)⟩
theorem l_OnlyFilter_26_Question : lnk "StreamFilters$OnlyFilter" 26 F_Question 11 5 := ⟨by decide, "StreamFilters$Question", Or.inl rfl, Or.inl (tb 61 (by decide +kernel) rfl)⟩
theorem l_OnlyFilter_31_Question : lnk "StreamFilters$OnlyFilter" 31 F_Question 11 0 := ⟨by decide, "StreamFilters$Question", Or.inl rfl, Or.inl (tb 49 (by decide +kernel) rfl)⟩
theorem l_StrictFilter_16_StrictFilter : lnk "StreamFilters$StrictFilter" 16 F_StrictFilter 5 3 := ⟨by decide, "StreamFilters$StrictFilter", Or.inl rfl, Or.inl (tb 440 (by decide +kernel) rfl)⟩
theorem l_StrictFilter_22_StrictFilter : lnk "StreamFilters$StrictFilter" 22 F_StrictFilter 5 4 := ⟨by decide, "StreamFilters$StrictFilter", Or.inl rfl, Or.inl (tb 441 (by decide +kernel) rfl)⟩
theorem l_StrictFilter_30_Question : lnk "StreamFilters$StrictFilter" 30 F_Question 11 5 := ⟨by decide, "StreamFilters$Question", Or.inl rfl, Or.inl (tb 63 (by decide +kernel) rfl)⟩
theorem cw_OnlyFilter_34 : cwk "StreamFilters$OnlyFilter" 34 y_Signs_length b_Signs_length 1 (some .int) 0 := ⟨Or.inl (tb 522 (by decide +kernel) rfl), (tb 190 (by decide +kernel) rfl), (tb 2 (by decide +kernel) rfl), by decide, by decide, by decide +kernel⟩
theorem cw_OnlyFilter_40 : cwk "StreamFilters$OnlyFilter" 40 y_Signs_beginsWithPart b_Signs_beginsWithPart 5 (some .boolean) 3 := ⟨Or.inl (tb 523 (by decide +kernel) rfl), (tb 526 (by decide +kernel) rfl), (tb 2 (by decide +kernel) rfl), by decide, by decide, by decide +kernel⟩
theorem al_DefaultFilter_25 : Cond.methodLink "StreamFilters$DefaultFilter" 25 y_Filter_answer ∈ TB := (tb 516 (by decide +kernel) rfl)
theorem al_JoinedFilter_31 : Cond.methodLink "StreamFilters$JoinedFilter" 31 y_Filter_answer ∈ TB := (tb 519 (by decide +kernel) rfl)
theorem al_OnlyFilter_44 : Cond.methodLink "StreamFilters$OnlyFilter" 44 y_Filter_answer ∈ TB := (tb 527 (by decide +kernel) rfl)
theorem al_StrictFilter_26 : Cond.methodLink "StreamFilters$StrictFilter" 26 y_Filter_answer ∈ TB := (tb 530 (by decide +kernel) rfl)
/-! decode rows -/
theorem d_DefaultFilter_answer_0 : decode b_DefaultFilter_answer 0 = .ok (.aload_n 0, 1) := by decide +kernel
theorem d_DefaultFilter_answer_1 : decode b_DefaultFilter_answer 1 = .ok (.getfield 16, 3) := by decide +kernel
theorem d_DefaultFilter_answer_4 : decode b_DefaultFilter_answer 4 = .ok (.aload_n 1, 1) := by decide +kernel
theorem d_DefaultFilter_answer_5 : decode b_DefaultFilter_answer 5 = .ok (.invokevirtual 25, 3) := by decide +kernel
theorem d_DefaultFilter_answer_8 : decode b_DefaultFilter_answer 8 = .ok (.istore_n 2, 1) := by decide +kernel
theorem d_DefaultFilter_answer_9 : decode b_DefaultFilter_answer 9 = .ok (.iload_n 2, 1) := by decide +kernel
theorem d_DefaultFilter_answer_10 : decode b_DefaultFilter_answer 10 = .ok (.ifCond .ne 10, 3) := by decide +kernel
theorem d_DefaultFilter_answer_13 : decode b_DefaultFilter_answer 13 = .ok (.aload_n 0, 1) := by decide +kernel
theorem d_DefaultFilter_answer_14 : decode b_DefaultFilter_answer 14 = .ok (.getfield 22, 3) := by decide +kernel
theorem d_DefaultFilter_answer_17 : decode b_DefaultFilter_answer 17 = .ok (.goto 4, 3) := by decide +kernel
theorem d_DefaultFilter_answer_20 : decode b_DefaultFilter_answer 20 = .ok (.iload_n 2, 1) := by decide +kernel
theorem d_DefaultFilter_answer_21 : decode b_DefaultFilter_answer 21 = .ok (.ireturn, 1) := by decide +kernel
theorem d_JoinedFilter_answer_0 : decode b_JoinedFilter_answer 0 = .ok (.aload_n 0, 1) := by decide +kernel
theorem d_JoinedFilter_answer_1 : decode b_JoinedFilter_answer 1 = .ok (.getfield 22, 3) := by decide +kernel
theorem d_JoinedFilter_answer_4 : decode b_JoinedFilter_answer 4 = .ok (.aload_n 1, 1) := by decide +kernel
theorem d_JoinedFilter_answer_5 : decode b_JoinedFilter_answer 5 = .ok (.invokevirtual 31, 3) := by decide +kernel
theorem d_JoinedFilter_answer_8 : decode b_JoinedFilter_answer 8 = .ok (.istore_n 2, 1) := by decide +kernel
theorem d_JoinedFilter_answer_9 : decode b_JoinedFilter_answer 9 = .ok (.iload_n 2, 1) := by decide +kernel
theorem d_JoinedFilter_answer_10 : decode b_JoinedFilter_answer 10 = .ok (.iconst 2, 1) := by decide +kernel
theorem d_JoinedFilter_answer_11 : decode b_JoinedFilter_answer 11 = .ok (.if_icmp .ne 5, 3) := by decide +kernel
theorem d_JoinedFilter_answer_14 : decode b_JoinedFilter_answer 14 = .ok (.iconst 2, 1) := by decide +kernel
theorem d_JoinedFilter_answer_15 : decode b_JoinedFilter_answer 15 = .ok (.ireturn, 1) := by decide +kernel
theorem d_JoinedFilter_answer_16 : decode b_JoinedFilter_answer 16 = .ok (.aload_n 0, 1) := by decide +kernel
theorem d_JoinedFilter_answer_17 : decode b_JoinedFilter_answer 17 = .ok (.getfield 28, 3) := by decide +kernel
theorem d_JoinedFilter_answer_20 : decode b_JoinedFilter_answer 20 = .ok (.aload_n 1, 1) := by decide +kernel
theorem d_JoinedFilter_answer_21 : decode b_JoinedFilter_answer 21 = .ok (.invokevirtual 31, 3) := by decide +kernel
theorem d_JoinedFilter_answer_24 : decode b_JoinedFilter_answer 24 = .ok (.istore_n 3, 1) := by decide +kernel
theorem d_JoinedFilter_answer_25 : decode b_JoinedFilter_answer 25 = .ok (.iload_n 3, 1) := by decide +kernel
theorem d_JoinedFilter_answer_26 : decode b_JoinedFilter_answer 26 = .ok (.iconst 2, 1) := by decide +kernel
theorem d_JoinedFilter_answer_27 : decode b_JoinedFilter_answer 27 = .ok (.if_icmp .ne 5, 3) := by decide +kernel
theorem d_JoinedFilter_answer_30 : decode b_JoinedFilter_answer 30 = .ok (.iconst 2, 1) := by decide +kernel
theorem d_JoinedFilter_answer_31 : decode b_JoinedFilter_answer 31 = .ok (.ireturn, 1) := by decide +kernel
theorem d_JoinedFilter_answer_32 : decode b_JoinedFilter_answer 32 = .ok (.iload_n 2, 1) := by decide +kernel
theorem d_JoinedFilter_answer_33 : decode b_JoinedFilter_answer 33 = .ok (.iconst 1, 1) := by decide +kernel
theorem d_JoinedFilter_answer_34 : decode b_JoinedFilter_answer 34 = .ok (.if_icmp .eq 8, 3) := by decide +kernel
theorem d_JoinedFilter_answer_37 : decode b_JoinedFilter_answer 37 = .ok (.iload_n 3, 1) := by decide +kernel
theorem d_JoinedFilter_answer_38 : decode b_JoinedFilter_answer 38 = .ok (.iconst 1, 1) := by decide +kernel
theorem d_JoinedFilter_answer_39 : decode b_JoinedFilter_answer 39 = .ok (.if_icmp .ne 7, 3) := by decide +kernel
theorem d_JoinedFilter_answer_42 : decode b_JoinedFilter_answer 42 = .ok (.iconst 1, 1) := by decide +kernel
theorem d_JoinedFilter_answer_43 : decode b_JoinedFilter_answer 43 = .ok (.goto 4, 3) := by decide +kernel
theorem d_JoinedFilter_answer_46 : decode b_JoinedFilter_answer 46 = .ok (.iconst 0, 1) := by decide +kernel
theorem d_JoinedFilter_answer_47 : decode b_JoinedFilter_answer 47 = .ok (.ireturn, 1) := by decide +kernel
theorem d_OnlyFilter_answer_0 : decode b_OnlyFilter_answer 0 = .ok (.aload_n 1, 1) := by decide +kernel
theorem d_OnlyFilter_answer_1 : decode b_OnlyFilter_answer 1 = .ok (.getfield 26, 3) := by decide +kernel
theorem d_OnlyFilter_answer_4 : decode b_OnlyFilter_answer 4 = .ok (.iconst 1, 1) := by decide +kernel
theorem d_OnlyFilter_answer_5 : decode b_OnlyFilter_answer 5 = .ok (.if_icmp .ne 29, 3) := by decide +kernel
theorem d_OnlyFilter_answer_8 : decode b_OnlyFilter_answer 8 = .ok (.aload_n 1, 1) := by decide +kernel
theorem d_OnlyFilter_answer_9 : decode b_OnlyFilter_answer 9 = .ok (.getfield 31, 3) := by decide +kernel
theorem d_OnlyFilter_answer_12 : decode b_OnlyFilter_answer 12 = .ok (.aload_n 0, 1) := by decide +kernel
theorem d_OnlyFilter_answer_13 : decode b_OnlyFilter_answer 13 = .ok (.getfield 22, 3) := by decide +kernel
theorem d_OnlyFilter_answer_16 : decode b_OnlyFilter_answer 16 = .ok (.iconst 0, 1) := by decide +kernel
theorem d_OnlyFilter_answer_17 : decode b_OnlyFilter_answer 17 = .ok (.aload_n 0, 1) := by decide +kernel
theorem d_OnlyFilter_answer_18 : decode b_OnlyFilter_answer 18 = .ok (.getfield 22, 3) := by decide +kernel
theorem d_OnlyFilter_answer_21 : decode b_OnlyFilter_answer 21 = .ok (.invokevirtual 34, 3) := by decide +kernel
theorem d_OnlyFilter_answer_24 : decode b_OnlyFilter_answer 24 = .ok (.invokevirtual 40, 3) := by decide +kernel
theorem d_OnlyFilter_answer_27 : decode b_OnlyFilter_answer 27 = .ok (.ifCond .eq 7, 3) := by decide +kernel
theorem d_OnlyFilter_answer_30 : decode b_OnlyFilter_answer 30 = .ok (.iconst 1, 1) := by decide +kernel
theorem d_OnlyFilter_answer_31 : decode b_OnlyFilter_answer 31 = .ok (.goto 4, 3) := by decide +kernel
theorem d_OnlyFilter_answer_34 : decode b_OnlyFilter_answer 34 = .ok (.iconst 0, 1) := by decide +kernel
theorem d_OnlyFilter_answer_35 : decode b_OnlyFilter_answer 35 = .ok (.istore_n 2, 1) := by decide +kernel
theorem d_OnlyFilter_answer_36 : decode b_OnlyFilter_answer 36 = .ok (.iload_n 2, 1) := by decide +kernel
theorem d_OnlyFilter_answer_37 : decode b_OnlyFilter_answer 37 = .ok (.ifCond .eq 14, 3) := by decide +kernel
theorem d_OnlyFilter_answer_40 : decode b_OnlyFilter_answer 40 = .ok (.aload_n 0, 1) := by decide +kernel
theorem d_OnlyFilter_answer_41 : decode b_OnlyFilter_answer 41 = .ok (.getfield 16, 3) := by decide +kernel
theorem d_OnlyFilter_answer_44 : decode b_OnlyFilter_answer 44 = .ok (.aload_n 1, 1) := by decide +kernel
theorem d_OnlyFilter_answer_45 : decode b_OnlyFilter_answer 45 = .ok (.invokevirtual 44, 3) := by decide +kernel
theorem d_OnlyFilter_answer_48 : decode b_OnlyFilter_answer 48 = .ok (.goto 4, 3) := by decide +kernel
theorem d_OnlyFilter_answer_51 : decode b_OnlyFilter_answer 51 = .ok (.iconst 0, 1) := by decide +kernel
theorem d_OnlyFilter_answer_52 : decode b_OnlyFilter_answer 52 = .ok (.ireturn, 1) := by decide +kernel
theorem d_StrictFilter_answer_0 : decode b_StrictFilter_answer 0 = .ok (.aload_n 0, 1) := by decide +kernel
theorem d_StrictFilter_answer_1 : decode b_StrictFilter_answer 1 = .ok (.getfield 16, 3) := by decide +kernel
theorem d_StrictFilter_answer_4 : decode b_StrictFilter_answer 4 = .ok (.aload_n 1, 1) := by decide +kernel
theorem d_StrictFilter_answer_5 : decode b_StrictFilter_answer 5 = .ok (.invokevirtual 26, 3) := by decide +kernel
theorem d_StrictFilter_answer_8 : decode b_StrictFilter_answer 8 = .ok (.istore_n 2, 1) := by decide +kernel
theorem d_StrictFilter_answer_9 : decode b_StrictFilter_answer 9 = .ok (.aload_n 1, 1) := by decide +kernel
theorem d_StrictFilter_answer_10 : decode b_StrictFilter_answer 10 = .ok (.getfield 30, 3) := by decide +kernel
theorem d_StrictFilter_answer_13 : decode b_StrictFilter_answer 13 = .ok (.iconst 1, 1) := by decide +kernel
theorem d_StrictFilter_answer_14 : decode b_StrictFilter_answer 14 = .ok (.if_icmp .eq 17, 3) := by decide +kernel
theorem d_StrictFilter_answer_17 : decode b_StrictFilter_answer 17 = .ok (.aload_n 1, 1) := by decide +kernel
theorem d_StrictFilter_answer_18 : decode b_StrictFilter_answer 18 = .ok (.getfield 30, 3) := by decide +kernel
theorem d_StrictFilter_answer_21 : decode b_StrictFilter_answer 21 = .ok (.ifCond .ne 14, 3) := by decide +kernel
theorem d_StrictFilter_answer_24 : decode b_StrictFilter_answer 24 = .ok (.aload_n 0, 1) := by decide +kernel
theorem d_StrictFilter_answer_25 : decode b_StrictFilter_answer 25 = .ok (.getfield 22, 3) := by decide +kernel
theorem d_StrictFilter_answer_28 : decode b_StrictFilter_answer 28 = .ok (.ifCond .eq 7, 3) := by decide +kernel
theorem d_StrictFilter_answer_31 : decode b_StrictFilter_answer 31 = .ok (.iconst 1, 1) := by decide +kernel
theorem d_StrictFilter_answer_32 : decode b_StrictFilter_answer 32 = .ok (.goto 4, 3) := by decide +kernel
theorem d_StrictFilter_answer_35 : decode b_StrictFilter_answer 35 = .ok (.iconst 0, 1) := by decide +kernel
theorem d_StrictFilter_answer_36 : decode b_StrictFilter_answer 36 = .ok (.istore_n 3, 1) := by decide +kernel
theorem d_StrictFilter_answer_37 : decode b_StrictFilter_answer 37 = .ok (.iload_n 2, 1) := by decide +kernel
theorem d_StrictFilter_answer_38 : decode b_StrictFilter_answer 38 = .ok (.ifCond .ne 11, 3) := by decide +kernel
theorem d_StrictFilter_answer_41 : decode b_StrictFilter_answer 41 = .ok (.iload_n 3, 1) := by decide +kernel
theorem d_StrictFilter_answer_42 : decode b_StrictFilter_answer 42 = .ok (.ifCond .eq 7, 3) := by decide +kernel
theorem d_StrictFilter_answer_45 : decode b_StrictFilter_answer 45 = .ok (.iconst 2, 1) := by decide +kernel
theorem d_StrictFilter_answer_46 : decode b_StrictFilter_answer 46 = .ok (.goto 4, 3) := by decide +kernel
theorem d_StrictFilter_answer_49 : decode b_StrictFilter_answer 49 = .ok (.iload_n 2, 1) := by decide +kernel
theorem d_StrictFilter_answer_50 : decode b_StrictFilter_answer 50 = .ok (.ireturn, 1) := by decide +kernel
set_option maxHeartbeats 4000000 in
set_option maxRecDepth 100000 in
/-- JoinedFilter.answer(q) -/
theorem c_JoinedFilter_answer (G : GG) (l : Launch) (sz : Nat) (f : Wd) (d : Nat) (hIH : ∀ d', d = d' + 1 → ANS G l d') (g : Wd) (a : Nat) (b c2 : Nat) (vb vc : FV) (q na nr ncap nn : Nat) (nt : Nat → Int32) (ma mr mcap mn : Nat) (mt : Nat → Int32) (dp rf by_ so di le co tx lx : Int32) (h1 : g a = some (.inr (6, [.int 2, .int (vb.2.1 + vc.2.1), .int (1 + (if vb.2.2.1 < vc.2.2.1 then vc.2.2.1 else vb.2.2.1)), .ref b, .ref c2]))) (hrb : RF G g d b vb) (hrc : RF G g d c2 vc) (hq : qs G f q na nr ncap nn nt ma mr mcap mn mt dp rf by_ so di le co tx lx) (hg : gle g f) (hgq : g q = none) : Ci G l y_JoinedFilter_answer b_JoinedFilter_answer 4 (some .int) ({ frames := 5 + (d + 1), cells := 0, slots := 0, locals := 118 + 30 * (d + 1) }) sz f [.ref a, .ref q] (anP f q na ma nn nt mn mt dp rf by_ so di le co tx lx (anJ vb.2.2.2.1 vc.2.2.2.1)) := by
  refine ct_of (by decide) (Nat.le_of_ble_eq_true rfl) ?_
  intro p e s m below meth c ls H locs hEn
  obtain ⟨hc, hr, hlk, hin, hE, hw, hsz, hl⟩ := hEn
  have hx := hc.1
  have hb := hc.2.1
  have hl : lv_has ls 4 [(0, .ref a), (1, .ref q)] := hl
  have hq0 := hq
  obtain ⟨hqc, hqn, hqm⟩ := hq0
  refine lv_aload_n hx hb d_JoinedFilter_answer_0 rfl (lv_at hl 0 rfl) ?_
  refine m_get hc hE hw (hg _ _ h1) kc_JoinedFilter l_JoinedFilter_22_JoinedFilter rfl d_JoinedFilter_answer_1 ?_
  refine lv_aload_n hx hb d_JoinedFilter_answer_4 rfl (lv_at hl 1 rfl) ?_
  refine m_calli hw (run_ans (rest := []) hIH hc hE hw hrb hq hg hgq al_JoinedFilter_31 hl.1 (Nat.le_of_ble_eq_true rfl) d_JoinedFilter_answer_5 ⟨by dsimp only; omega, by dsimp only; omega⟩ ⟨by dsimp only; omega, by dsimp only; omega⟩) (fun r3 g2 H locs p1 hw => ?_)
  obtain ⟨A1, eA1⟩ : ∃ z, z = vb.2.2.2.1 (nn, nt, mn, mt, dp, rf, by_, so, di, le) (co, tx, lx) := ⟨_, rfl⟩
  obtain ⟨p1, hfe1⟩ := p1
  rw [← eA1] at p1 hfe1
  have hF1 : g2 = va_up f q (some (.inr (2, [.ref na, .ref ma, .int dp, .int rf, .int by_, .int so, .int di, .int le, .int A1.2.1, .int A1.2.2.1, .int A1.2.2.2]))) := hfe1
  have hg1 : gle g g2 := by rw [hF1]; exact hg.upf hgq
  have hq1 : qs G g2 q na nr ncap nn nt ma mr mcap mn mt dp rf by_ so di le A1.2.1 A1.2.2.1 A1.2.2.2 := by rw [hF1]; exact ⟨va_up_self _ _ _, sg_up hqn hqc wd_x, sg_up hqm hqc wd_x⟩
  refine lv_istore_n (lv' := [(2, .int r3), (0, .ref a), (1, .ref q)]) hx hb d_JoinedFilter_answer_8 rfl hl (by decide) rfl (fun ls hl => ?_)
  refine lv_iload_n hx hb d_JoinedFilter_answer_9 rfl (lv_at hl 0 rfl) ?_
  refine lv_iconst (v := 2) hx hb d_JoinedFilter_answer_10 (by decide) ?_
  refine lv_icmp_ne (tgt := 16) hx hb d_JoinedFilter_answer_11 (by decide) (fun c4 => ?_) (fun c4 => ?_)
  · refine lv_aload_n hx hb d_JoinedFilter_answer_16 rfl (lv_at hl 1 rfl) ?_
    refine m_get hc hE hw (hg1 _ _ h1) kc_JoinedFilter l_JoinedFilter_28_JoinedFilter rfl d_JoinedFilter_answer_17 ?_
    refine lv_aload_n hx hb d_JoinedFilter_answer_20 rfl (lv_at hl 2 rfl) ?_
    refine m_calli hw (run_ans (rest := []) hIH hc hE hw hrc hq1 hg1 hgq al_JoinedFilter_31 hl.1 (Nat.le_of_ble_eq_true rfl) d_JoinedFilter_answer_21 ⟨by dsimp only; omega, by dsimp only; omega⟩ ⟨by dsimp only; omega, by dsimp only; omega⟩) (fun r7 g6 H locs p5 hw => ?_)
    obtain ⟨A2, eA2⟩ : ∃ z, z = vc.2.2.2.1 (nn, nt, mn, mt, dp, rf, by_, so, di, le) (A1.2.1, A1.2.2.1, A1.2.2.2) := ⟨_, rfl⟩
    obtain ⟨p5, hfe2⟩ := p5
    rw [← eA2] at p5 hfe2
    have hF2 : g6 = va_up f q (some (.inr (2, [.ref na, .ref ma, .int dp, .int rf, .int by_, .int so, .int di, .int le, .int A2.2.1, .int A2.2.2.1, .int A2.2.2.2]))) := by rw [hfe2, hF1, up_uu]
    have hg2 : gle g g6 := by rw [hF2]; exact hg.upf hgq
    have hq2 : qs G g6 q na nr ncap nn nt ma mr mcap mn mt dp rf by_ so di le A2.2.1 A2.2.2.1 A2.2.2.2 := by rw [hF2]; exact ⟨va_up_self _ _ _, sg_up hqn hqc wd_x, sg_up hqm hqc wd_x⟩
    refine lv_istore_n (lv' := [(3, .int r7), (2, .int r3), (0, .ref a), (1, .ref q)]) hx hb d_JoinedFilter_answer_24 rfl hl (by decide) rfl (fun ls hl => ?_)
    refine lv_iload_n hx hb d_JoinedFilter_answer_25 rfl (lv_at hl 0 rfl) ?_
    refine lv_iconst (v := 2) hx hb d_JoinedFilter_answer_26 (by decide) ?_
    refine lv_icmp_ne (tgt := 32) hx hb d_JoinedFilter_answer_27 (by decide) (fun c8 => ?_) (fun c8 => ?_)
    · refine lv_iload_n hx hb d_JoinedFilter_answer_32 rfl (lv_at hl 1 rfl) ?_
      refine lv_iconst (v := 1) hx hb d_JoinedFilter_answer_33 (by decide) ?_
      refine lv_icmp_eq (tgt := 42) hx hb d_JoinedFilter_answer_34 (by decide) (fun c9 => ?_) (fun c9 => ?_)
      · refine lv_iconst (v := 1) hx hb d_JoinedFilter_answer_42 (by decide) ?_
        refine lv_goto (tgt := 47) hx hb d_JoinedFilter_answer_43 (by decide) ?_
        have hn1 : ¬ (vb.2.2.2.1 (nn, nt, mn, mt, dp, rf, by_, so, di, le) (co, tx, lx)).1 = 2 := by rw [← eA1, ← p1]; exact c4
        have eA2b : A2 = vc.2.2.2.1 (nn, nt, mn, mt, dp, rf, by_, so, di, le) (vb.2.2.2.1 (nn, nt, mn, mt, dp, rf, by_, so, di, le) (co, tx, lx)).2 := by rw [eA2, eA1]
        have hn2 : ¬ (vc.2.2.2.1 (nn, nt, mn, mt, dp, rf, by_, so, di, le) (vb.2.2.2.1 (nn, nt, mn, mt, dp, rf, by_, so, di, le) (co, tx, lx)).2).1 = 2 := by rw [← eA2b, ← p5]; exact c8
        have hr2 : anJ vb.2.2.2.1 vc.2.2.2.1 (nn, nt, mn, mt, dp, rf, by_, so, di, le) (co, tx, lx) = (pif (A1.1 = 1 ∨ A2.1 = 1) 1 0, A2.2) := by rw [eA2b, eA1]; exact (pif_f hn1).trans (pif_f hn2)
        exact m_iret hc hr hlk hw ⟨by first | decide | (dsimp only; omega), by first | decide | (dsimp only; omega)⟩ d_JoinedFilter_answer_47 ⟨by rw [hr2]; exact (pif_t (Or.inl (by rw [← p1]; exact c9))).symm, by rw [hr2]; exact hF2⟩
      · refine lv_iload_n hx hb d_JoinedFilter_answer_37 rfl (lv_at hl 0 rfl) ?_
        refine lv_iconst (v := 1) hx hb d_JoinedFilter_answer_38 (by decide) ?_
        refine lv_icmp_ne (tgt := 46) hx hb d_JoinedFilter_answer_39 (by decide) (fun c10 => ?_) (fun c10 => ?_)
        · refine lv_iconst (v := 0) hx hb d_JoinedFilter_answer_46 (by decide) ?_
          have hn1 : ¬ (vb.2.2.2.1 (nn, nt, mn, mt, dp, rf, by_, so, di, le) (co, tx, lx)).1 = 2 := by rw [← eA1, ← p1]; exact c4
          have eA2b : A2 = vc.2.2.2.1 (nn, nt, mn, mt, dp, rf, by_, so, di, le) (vb.2.2.2.1 (nn, nt, mn, mt, dp, rf, by_, so, di, le) (co, tx, lx)).2 := by rw [eA2, eA1]
          have hn2 : ¬ (vc.2.2.2.1 (nn, nt, mn, mt, dp, rf, by_, so, di, le) (vb.2.2.2.1 (nn, nt, mn, mt, dp, rf, by_, so, di, le) (co, tx, lx)).2).1 = 2 := by rw [← eA2b, ← p5]; exact c8
          have hr2 : anJ vb.2.2.2.1 vc.2.2.2.1 (nn, nt, mn, mt, dp, rf, by_, so, di, le) (co, tx, lx) = (pif (A1.1 = 1 ∨ A2.1 = 1) 1 0, A2.2) := by rw [eA2b, eA1]; exact (pif_f hn1).trans (pif_f hn2)
          exact m_iret hc hr hlk hw ⟨by first | decide | (dsimp only; omega), by first | decide | (dsimp only; omega)⟩ d_JoinedFilter_answer_47 ⟨by rw [hr2]; exact (pif_f (fun z => z.elim (fun z => c9 (by rw [p1]; exact z)) (fun z => c10 (by rw [p5]; exact z)))).symm, by rw [hr2]; exact hF2⟩
        · refine lv_iconst (v := 1) hx hb d_JoinedFilter_answer_42 (by decide) ?_
          refine lv_goto (tgt := 47) hx hb d_JoinedFilter_answer_43 (by decide) ?_
          have hn1 : ¬ (vb.2.2.2.1 (nn, nt, mn, mt, dp, rf, by_, so, di, le) (co, tx, lx)).1 = 2 := by rw [← eA1, ← p1]; exact c4
          have eA2b : A2 = vc.2.2.2.1 (nn, nt, mn, mt, dp, rf, by_, so, di, le) (vb.2.2.2.1 (nn, nt, mn, mt, dp, rf, by_, so, di, le) (co, tx, lx)).2 := by rw [eA2, eA1]
          have hn2 : ¬ (vc.2.2.2.1 (nn, nt, mn, mt, dp, rf, by_, so, di, le) (vb.2.2.2.1 (nn, nt, mn, mt, dp, rf, by_, so, di, le) (co, tx, lx)).2).1 = 2 := by rw [← eA2b, ← p5]; exact c8
          have hr2 : anJ vb.2.2.2.1 vc.2.2.2.1 (nn, nt, mn, mt, dp, rf, by_, so, di, le) (co, tx, lx) = (pif (A1.1 = 1 ∨ A2.1 = 1) 1 0, A2.2) := by rw [eA2b, eA1]; exact (pif_f hn1).trans (pif_f hn2)
          exact m_iret hc hr hlk hw ⟨by first | decide | (dsimp only; omega), by first | decide | (dsimp only; omega)⟩ d_JoinedFilter_answer_47 ⟨by rw [hr2]; exact (pif_t (Or.inr (by rw [← p5]; exact c10))).symm, by rw [hr2]; exact hF2⟩
    · refine lv_iconst (v := 2) hx hb d_JoinedFilter_answer_30 (by decide) ?_
      have hn1 : ¬ (vb.2.2.2.1 (nn, nt, mn, mt, dp, rf, by_, so, di, le) (co, tx, lx)).1 = 2 := by rw [← eA1, ← p1]; exact c4
      have eA2b : A2 = vc.2.2.2.1 (nn, nt, mn, mt, dp, rf, by_, so, di, le) (vb.2.2.2.1 (nn, nt, mn, mt, dp, rf, by_, so, di, le) (co, tx, lx)).2 := by rw [eA2, eA1]
      have hr2 : anJ vb.2.2.2.1 vc.2.2.2.1 (nn, nt, mn, mt, dp, rf, by_, so, di, le) (co, tx, lx) = (2, A2.2) := by rw [eA2b]; exact (pif_f hn1).trans (pif_t (by rw [← eA2b, ← p5]; exact c8))
      exact m_iret hc hr hlk hw ⟨by first | decide | (dsimp only; omega), by first | decide | (dsimp only; omega)⟩ d_JoinedFilter_answer_31 ⟨by rw [hr2], by rw [hr2]; exact hF2⟩
  · refine lv_iconst (v := 2) hx hb d_JoinedFilter_answer_14 (by decide) ?_
    have hr2 : anJ vb.2.2.2.1 vc.2.2.2.1 (nn, nt, mn, mt, dp, rf, by_, so, di, le) (co, tx, lx) = (2, A1.2) := by rw [eA1]; exact pif_t (by rw [← eA1, ← p1]; exact c4)
    exact m_iret hc hr hlk hw ⟨by first | decide | (dsimp only; omega), by first | decide | (dsimp only; omega)⟩ d_JoinedFilter_answer_15 ⟨by rw [hr2], by rw [hr2]; exact hF1⟩

set_option maxHeartbeats 4000000 in
set_option maxRecDepth 100000 in
/-- StrictFilter.answer(q) -/
theorem c_StrictFilter_answer (G : GG) (l : Launch) (sz : Nat) (f : Wd) (d : Nat) (hIH : ∀ d', d = d' + 1 → ANS G l d') (g : Wd) (a : Nat) (b : Nat) (vb : FV) (al : Int32) (q na nr ncap nn : Nat) (nt : Nat → Int32) (ma mr mcap mn : Nat) (mt : Nat → Int32) (dp rf by_ so di le co tx lx : Int32) (h1 : g a = some (.inr (7, [.int 3, .int vb.2.1, .int (1 + vb.2.2.1), .ref b, .int al]))) (hrb : RF G g d b vb) (hq : qs G f q na nr ncap nn nt ma mr mcap mn mt dp rf by_ so di le co tx lx) (hg : gle g f) (hgq : g q = none) : Ci G l y_StrictFilter_answer b_StrictFilter_answer 4 (some .int) ({ frames := 5 + (d + 1), cells := 0, slots := 0, locals := 118 + 30 * (d + 1) }) sz f [.ref a, .ref q] (anP f q na ma nn nt mn mt dp rf by_ so di le co tx lx (anS al vb.2.2.2.1)) := by
  refine ct_of (by decide) (Nat.le_of_ble_eq_true rfl) ?_
  intro p e s m below meth c ls H locs hEn
  obtain ⟨hc, hr, hlk, hin, hE, hw, hsz, hl⟩ := hEn
  have hx := hc.1
  have hb := hc.2.1
  have hl : lv_has ls 4 [(0, .ref a), (1, .ref q)] := hl
  have hq0 := hq
  obtain ⟨hqc, hqn, hqm⟩ := hq0
  refine lv_aload_n hx hb d_StrictFilter_answer_0 rfl (lv_at hl 0 rfl) ?_
  refine m_get hc hE hw (hg _ _ h1) kc_StrictFilter l_StrictFilter_16_StrictFilter rfl d_StrictFilter_answer_1 ?_
  refine lv_aload_n hx hb d_StrictFilter_answer_4 rfl (lv_at hl 1 rfl) ?_
  refine m_calli hw (run_ans (rest := []) hIH hc hE hw hrb hq hg hgq al_StrictFilter_26 hl.1 (Nat.le_of_ble_eq_true rfl) d_StrictFilter_answer_5 ⟨by dsimp only; omega, by dsimp only; omega⟩ ⟨by dsimp only; omega, by dsimp only; omega⟩) (fun r3 g2 H locs p1 hw => ?_)
  obtain ⟨A1, eA1⟩ : ∃ z, z = vb.2.2.2.1 (nn, nt, mn, mt, dp, rf, by_, so, di, le) (co, tx, lx) := ⟨_, rfl⟩
  obtain ⟨p1, hfe1⟩ := p1
  rw [← eA1] at p1 hfe1
  have hF1 : g2 = va_up f q (some (.inr (2, [.ref na, .ref ma, .int dp, .int rf, .int by_, .int so, .int di, .int le, .int A1.2.1, .int A1.2.2.1, .int A1.2.2.2]))) := hfe1
  have hg1 : gle g g2 := by rw [hF1]; exact hg.upf hgq
  have hq1 : qs G g2 q na nr ncap nn nt ma mr mcap mn mt dp rf by_ so di le A1.2.1 A1.2.2.1 A1.2.2.2 := by rw [hF1]; exact ⟨va_up_self _ _ _, sg_up hqn hqc wd_x, sg_up hqm hqc wd_x⟩
  refine lv_istore_n (lv' := [(2, .int r3), (0, .ref a), (1, .ref q)]) hx hb d_StrictFilter_answer_8 rfl hl (by decide) rfl (fun ls hl => ?_)
  refine lv_aload_n hx hb d_StrictFilter_answer_9 rfl (lv_at hl 2 rfl) ?_
  refine m_get hc hE hw hq1.1 kc_Question l_StrictFilter_30_Question rfl d_StrictFilter_answer_10 ?_
  refine lv_iconst (v := 1) hx hb d_StrictFilter_answer_13 (by decide) ?_
  refine lv_icmp_eq (tgt := 31) hx hb d_StrictFilter_answer_14 (by decide) (fun c4 => ?_) (fun c4 => ?_)
  · refine lv_iconst (v := 1) hx hb d_StrictFilter_answer_31 (by decide) ?_
    refine lv_goto (tgt := 36) hx hb d_StrictFilter_answer_32 (by decide) ?_
    refine lv_istore_n (lv' := [(3, .int 1), (2, .int r3), (0, .ref a), (1, .ref q)]) hx hb d_StrictFilter_answer_36 rfl hl (by decide) rfl (fun ls hl => ?_)
    refine lv_iload_n hx hb d_StrictFilter_answer_37 rfl (lv_at hl 1 rfl) ?_
    refine lv_if_ne (tgt := 49) hx hb d_StrictFilter_answer_38 (by decide) (fun c5 => ?_) (fun c5 => ?_)
    · refine lv_iload_n hx hb d_StrictFilter_answer_49 rfl (lv_at hl 1 rfl) ?_
      have hr2 : anS al vb.2.2.2.1 (nn, nt, mn, mt, dp, rf, by_, so, di, le) (co, tx, lx) = (pif (A1.1 = 0 ∧ (so = 1 ∨ (so = 0 ∧ ¬ al = 0))) 2 A1.1, A1.2) := by rw [eA1]; rfl
      exact m_iret hc hr hlk hw ⟨by first | decide | (dsimp only; omega), by first | decide | (dsimp only; omega)⟩ d_StrictFilter_answer_50 ⟨by rw [hr2]; exact p1.trans (pif_f (fun z => c5 (by rw [p1]; exact z.1))).symm, by rw [hr2]; exact hF1⟩
    · refine lv_iload_n hx hb d_StrictFilter_answer_41 rfl (lv_at hl 0 rfl) ?_
      refine lv_if_eq (tgt := 49) hx hb d_StrictFilter_answer_42 (by decide) (fun c6 => ?_) (fun c6 => ?_)
      · refine lv_iload_n hx hb d_StrictFilter_answer_49 rfl (lv_at hl 1 rfl) ?_
        exact absurd c6 (by decide)
      · refine lv_iconst (v := 2) hx hb d_StrictFilter_answer_45 (by decide) ?_
        refine lv_goto (tgt := 50) hx hb d_StrictFilter_answer_46 (by decide) ?_
        have hr2 : anS al vb.2.2.2.1 (nn, nt, mn, mt, dp, rf, by_, so, di, le) (co, tx, lx) = (pif (A1.1 = 0 ∧ (so = 1 ∨ (so = 0 ∧ ¬ al = 0))) 2 A1.1, A1.2) := by rw [eA1]; rfl
        exact m_iret hc hr hlk hw ⟨by first | decide | (dsimp only; omega), by first | decide | (dsimp only; omega)⟩ d_StrictFilter_answer_50 ⟨by rw [hr2]; exact (pif_t ⟨by rw [← p1]; exact c5, Or.inl c4⟩).symm, by rw [hr2]; exact hF1⟩
  · refine lv_aload_n hx hb d_StrictFilter_answer_17 rfl (lv_at hl 2 rfl) ?_
    refine m_get hc hE hw hq1.1 kc_Question l_StrictFilter_30_Question rfl d_StrictFilter_answer_18 ?_
    refine lv_if_ne (tgt := 35) hx hb d_StrictFilter_answer_21 (by decide) (fun c7 => ?_) (fun c7 => ?_)
    · refine lv_iconst (v := 0) hx hb d_StrictFilter_answer_35 (by decide) ?_
      refine lv_istore_n (lv' := [(3, .int 0), (2, .int r3), (0, .ref a), (1, .ref q)]) hx hb d_StrictFilter_answer_36 rfl hl (by decide) rfl (fun ls hl => ?_)
      refine lv_iload_n hx hb d_StrictFilter_answer_37 rfl (lv_at hl 1 rfl) ?_
      refine lv_if_ne (tgt := 49) hx hb d_StrictFilter_answer_38 (by decide) (fun c8 => ?_) (fun c8 => ?_)
      · refine lv_iload_n hx hb d_StrictFilter_answer_49 rfl (lv_at hl 1 rfl) ?_
        have hr2 : anS al vb.2.2.2.1 (nn, nt, mn, mt, dp, rf, by_, so, di, le) (co, tx, lx) = (pif (A1.1 = 0 ∧ (so = 1 ∨ (so = 0 ∧ ¬ al = 0))) 2 A1.1, A1.2) := by rw [eA1]; rfl
        exact m_iret hc hr hlk hw ⟨by first | decide | (dsimp only; omega), by first | decide | (dsimp only; omega)⟩ d_StrictFilter_answer_50 ⟨by rw [hr2]; exact p1.trans (pif_f (fun z => c8 (by rw [p1]; exact z.1))).symm, by rw [hr2]; exact hF1⟩
      · refine lv_iload_n hx hb d_StrictFilter_answer_41 rfl (lv_at hl 0 rfl) ?_
        refine lv_if_eq (tgt := 49) hx hb d_StrictFilter_answer_42 (by decide) (fun c9 => ?_) (fun c9 => ?_)
        · refine lv_iload_n hx hb d_StrictFilter_answer_49 rfl (lv_at hl 1 rfl) ?_
          have hr2 : anS al vb.2.2.2.1 (nn, nt, mn, mt, dp, rf, by_, so, di, le) (co, tx, lx) = (pif (A1.1 = 0 ∧ (so = 1 ∨ (so = 0 ∧ ¬ al = 0))) 2 A1.1, A1.2) := by rw [eA1]; rfl
          exact m_iret hc hr hlk hw ⟨by first | decide | (dsimp only; omega), by first | decide | (dsimp only; omega)⟩ d_StrictFilter_answer_50 ⟨by rw [hr2]; exact p1.trans (pif_f (fun z => z.2.elim c4 (fun z => c7 z.1))).symm, by rw [hr2]; exact hF1⟩
        · refine lv_iconst (v := 2) hx hb d_StrictFilter_answer_45 (by decide) ?_
          refine lv_goto (tgt := 50) hx hb d_StrictFilter_answer_46 (by decide) ?_
          exact absurd rfl c9
    · refine lv_aload_n hx hb d_StrictFilter_answer_24 rfl (lv_at hl 1 rfl) ?_
      refine m_get hc hE hw (hg1 _ _ h1) kc_StrictFilter l_StrictFilter_22_StrictFilter rfl d_StrictFilter_answer_25 ?_
      refine lv_if_eq (tgt := 35) hx hb d_StrictFilter_answer_28 (by decide) (fun c10 => ?_) (fun c10 => ?_)
      · refine lv_iconst (v := 0) hx hb d_StrictFilter_answer_35 (by decide) ?_
        refine lv_istore_n (lv' := [(3, .int 0), (2, .int r3), (0, .ref a), (1, .ref q)]) hx hb d_StrictFilter_answer_36 rfl hl (by decide) rfl (fun ls hl => ?_)
        refine lv_iload_n hx hb d_StrictFilter_answer_37 rfl (lv_at hl 1 rfl) ?_
        refine lv_if_ne (tgt := 49) hx hb d_StrictFilter_answer_38 (by decide) (fun c11 => ?_) (fun c11 => ?_)
        · refine lv_iload_n hx hb d_StrictFilter_answer_49 rfl (lv_at hl 1 rfl) ?_
          have hr2 : anS al vb.2.2.2.1 (nn, nt, mn, mt, dp, rf, by_, so, di, le) (co, tx, lx) = (pif (A1.1 = 0 ∧ (so = 1 ∨ (so = 0 ∧ ¬ al = 0))) 2 A1.1, A1.2) := by rw [eA1]; rfl
          exact m_iret hc hr hlk hw ⟨by first | decide | (dsimp only; omega), by first | decide | (dsimp only; omega)⟩ d_StrictFilter_answer_50 ⟨by rw [hr2]; exact p1.trans (pif_f (fun z => c11 (by rw [p1]; exact z.1))).symm, by rw [hr2]; exact hF1⟩
        · refine lv_iload_n hx hb d_StrictFilter_answer_41 rfl (lv_at hl 0 rfl) ?_
          refine lv_if_eq (tgt := 49) hx hb d_StrictFilter_answer_42 (by decide) (fun c12 => ?_) (fun c12 => ?_)
          · refine lv_iload_n hx hb d_StrictFilter_answer_49 rfl (lv_at hl 1 rfl) ?_
            have hr2 : anS al vb.2.2.2.1 (nn, nt, mn, mt, dp, rf, by_, so, di, le) (co, tx, lx) = (pif (A1.1 = 0 ∧ (so = 1 ∨ (so = 0 ∧ ¬ al = 0))) 2 A1.1, A1.2) := by rw [eA1]; rfl
            exact m_iret hc hr hlk hw ⟨by first | decide | (dsimp only; omega), by first | decide | (dsimp only; omega)⟩ d_StrictFilter_answer_50 ⟨by rw [hr2]; exact p1.trans (pif_f (fun z => z.2.elim c4 (fun z => z.2 c10))).symm, by rw [hr2]; exact hF1⟩
          · refine lv_iconst (v := 2) hx hb d_StrictFilter_answer_45 (by decide) ?_
            refine lv_goto (tgt := 50) hx hb d_StrictFilter_answer_46 (by decide) ?_
            exact absurd rfl c12
      · refine lv_iconst (v := 1) hx hb d_StrictFilter_answer_31 (by decide) ?_
        refine lv_goto (tgt := 36) hx hb d_StrictFilter_answer_32 (by decide) ?_
        refine lv_istore_n (lv' := [(3, .int 1), (2, .int r3), (0, .ref a), (1, .ref q)]) hx hb d_StrictFilter_answer_36 rfl hl (by decide) rfl (fun ls hl => ?_)
        refine lv_iload_n hx hb d_StrictFilter_answer_37 rfl (lv_at hl 1 rfl) ?_
        refine lv_if_ne (tgt := 49) hx hb d_StrictFilter_answer_38 (by decide) (fun c13 => ?_) (fun c13 => ?_)
        · refine lv_iload_n hx hb d_StrictFilter_answer_49 rfl (lv_at hl 1 rfl) ?_
          have hr2 : anS al vb.2.2.2.1 (nn, nt, mn, mt, dp, rf, by_, so, di, le) (co, tx, lx) = (pif (A1.1 = 0 ∧ (so = 1 ∨ (so = 0 ∧ ¬ al = 0))) 2 A1.1, A1.2) := by rw [eA1]; rfl
          exact m_iret hc hr hlk hw ⟨by first | decide | (dsimp only; omega), by first | decide | (dsimp only; omega)⟩ d_StrictFilter_answer_50 ⟨by rw [hr2]; exact p1.trans (pif_f (fun z => c13 (by rw [p1]; exact z.1))).symm, by rw [hr2]; exact hF1⟩
        · refine lv_iload_n hx hb d_StrictFilter_answer_41 rfl (lv_at hl 0 rfl) ?_
          refine lv_if_eq (tgt := 49) hx hb d_StrictFilter_answer_42 (by decide) (fun c14 => ?_) (fun c14 => ?_)
          · refine lv_iload_n hx hb d_StrictFilter_answer_49 rfl (lv_at hl 1 rfl) ?_
            exact absurd c14 (by decide)
          · refine lv_iconst (v := 2) hx hb d_StrictFilter_answer_45 (by decide) ?_
            refine lv_goto (tgt := 50) hx hb d_StrictFilter_answer_46 (by decide) ?_
            have hr2 : anS al vb.2.2.2.1 (nn, nt, mn, mt, dp, rf, by_, so, di, le) (co, tx, lx) = (pif (A1.1 = 0 ∧ (so = 1 ∨ (so = 0 ∧ ¬ al = 0))) 2 A1.1, A1.2) := by rw [eA1]; rfl
            exact m_iret hc hr hlk hw ⟨by first | decide | (dsimp only; omega), by first | decide | (dsimp only; omega)⟩ d_StrictFilter_answer_50 ⟨by rw [hr2]; exact (pif_t ⟨by rw [← p1]; exact c13, Or.inr ⟨c7, c10⟩⟩).symm, by rw [hr2]; exact hF1⟩

set_option maxHeartbeats 4000000 in
set_option maxRecDepth 100000 in
/-- DefaultFilter.answer(q) -/
theorem c_DefaultFilter_answer (G : GG) (l : Launch) (sz : Nat) (f : Wd) (d : Nat) (hIH : ∀ d', d = d' + 1 → ANS G l d') (g : Wd) (a : Nat) (b : Nat) (vb : FV) (gv : Int32) (q na nr ncap nn : Nat) (nt : Nat → Int32) (ma mr mcap mn : Nat) (mt : Nat → Int32) (dp rf by_ so di le co tx lx : Int32) (h1 : g a = some (.inr (8, [.int 4, .int vb.2.1, .int (1 + vb.2.2.1), .ref b, .int gv]))) (hrb : RF G g d b vb) (hq : qs G f q na nr ncap nn nt ma mr mcap mn mt dp rf by_ so di le co tx lx) (hg : gle g f) (hgq : g q = none) : Ci G l y_DefaultFilter_answer b_DefaultFilter_answer 3 (some .int) ({ frames := 5 + (d + 1), cells := 0, slots := 0, locals := 118 + 30 * (d + 1) }) sz f [.ref a, .ref q] (anP f q na ma nn nt mn mt dp rf by_ so di le co tx lx (anD gv vb.2.2.2.1)) := by
  refine ct_of (by decide) (Nat.le_of_ble_eq_true rfl) ?_
  intro p e s m below meth c ls H locs hEn
  obtain ⟨hc, hr, hlk, hin, hE, hw, hsz, hl⟩ := hEn
  have hx := hc.1
  have hb := hc.2.1
  have hl : lv_has ls 3 [(0, .ref a), (1, .ref q)] := hl
  have hq0 := hq
  obtain ⟨hqc, hqn, hqm⟩ := hq0
  refine lv_aload_n hx hb d_DefaultFilter_answer_0 rfl (lv_at hl 0 rfl) ?_
  refine m_get hc hE hw (hg _ _ h1) kc_DefaultFilter l_DefaultFilter_16_DefaultFilter rfl d_DefaultFilter_answer_1 ?_
  refine lv_aload_n hx hb d_DefaultFilter_answer_4 rfl (lv_at hl 1 rfl) ?_
  refine m_calli hw (run_ans (rest := []) hIH hc hE hw hrb hq hg hgq al_DefaultFilter_25 hl.1 (Nat.le_of_ble_eq_true rfl) d_DefaultFilter_answer_5 ⟨by dsimp only; omega, by dsimp only; omega⟩ ⟨by dsimp only; omega, by dsimp only; omega⟩) (fun r3 g2 H locs p1 hw => ?_)
  obtain ⟨A1, eA1⟩ : ∃ z, z = vb.2.2.2.1 (nn, nt, mn, mt, dp, rf, by_, so, di, le) (co, tx, lx) := ⟨_, rfl⟩
  obtain ⟨p1, hfe1⟩ := p1
  rw [← eA1] at p1 hfe1
  have hF1 : g2 = va_up f q (some (.inr (2, [.ref na, .ref ma, .int dp, .int rf, .int by_, .int so, .int di, .int le, .int A1.2.1, .int A1.2.2.1, .int A1.2.2.2]))) := hfe1
  have hg1 : gle g g2 := by rw [hF1]; exact hg.upf hgq
  have hq1 : qs G g2 q na nr ncap nn nt ma mr mcap mn mt dp rf by_ so di le A1.2.1 A1.2.2.1 A1.2.2.2 := by rw [hF1]; exact ⟨va_up_self _ _ _, sg_up hqn hqc wd_x, sg_up hqm hqc wd_x⟩
  refine lv_istore_n (lv' := [(2, .int r3), (0, .ref a), (1, .ref q)]) hx hb d_DefaultFilter_answer_8 rfl hl (by decide) rfl (fun ls hl => ?_)
  refine lv_iload_n hx hb d_DefaultFilter_answer_9 rfl (lv_at hl 0 rfl) ?_
  refine lv_if_ne (tgt := 20) hx hb d_DefaultFilter_answer_10 (by decide) (fun c4 => ?_) (fun c4 => ?_)
  · refine lv_iload_n hx hb d_DefaultFilter_answer_20 rfl (lv_at hl 0 rfl) ?_
    have hr2 : anD gv vb.2.2.2.1 (nn, nt, mn, mt, dp, rf, by_, so, di, le) (co, tx, lx) = (pif (A1.1 = 0) gv A1.1, A1.2) := by rw [eA1]; rfl
    exact m_iret hc hr hlk hw ⟨by first | decide | (dsimp only; omega), by first | decide | (dsimp only; omega)⟩ d_DefaultFilter_answer_21 ⟨by rw [hr2]; exact p1.trans (pif_f (by rw [← p1]; exact c4)).symm, by rw [hr2]; exact hF1⟩
  · refine lv_aload_n hx hb d_DefaultFilter_answer_13 rfl (lv_at hl 1 rfl) ?_
    refine m_get hc hE hw (hg1 _ _ h1) kc_DefaultFilter l_DefaultFilter_22_DefaultFilter rfl d_DefaultFilter_answer_14 ?_
    refine lv_goto (tgt := 21) hx hb d_DefaultFilter_answer_17 (by decide) ?_
    have hr2 : anD gv vb.2.2.2.1 (nn, nt, mn, mt, dp, rf, by_, so, di, le) (co, tx, lx) = (pif (A1.1 = 0) gv A1.1, A1.2) := by rw [eA1]; rfl
    exact m_iret hc hr hlk hw ⟨by first | decide | (dsimp only; omega), by first | decide | (dsimp only; omega)⟩ d_DefaultFilter_answer_21 ⟨by rw [hr2]; exact (pif_t (by rw [← p1]; exact c4)).symm, by rw [hr2]; exact hF1⟩

set_option maxHeartbeats 4000000 in
set_option maxRecDepth 100000 in
/-- OnlyFilter.answer(q) -/
theorem c_OnlyFilter_answer (G : GG) (l : Launch) (sz : Nat) (f : Wd) (d : Nat) (hIH : ∀ d', d = d' + 1 → ANS G l d') (g : Wd) (a : Nat) (b sa sr scap bn : Nat) (bt : Nat → Int32) (vb : FV) (q na nr ncap nn : Nat) (nt : Nat → Int32) (ma mr mcap mn : Nat) (mt : Nat → Int32) (dp rf by_ so di le co tx lx : Int32) (h1 : g a = some (.inr (9, [.int 5, .int vb.2.1, .int (1 + vb.2.2.1), .ref b, .ref sa]))) (hsg : sg G g sa sr scap bn bt) (hrb : RF G g d b vb) (hq : qs G f q na nr ncap nn nt ma mr mcap mn mt dp rf by_ so di le co tx lx) (hg : gle g f) (hgq : g q = none) : Ci G l y_OnlyFilter_answer b_OnlyFilter_answer 3 (some .int) ({ frames := 5 + (d + 1), cells := 0, slots := 0, locals := 118 + 30 * (d + 1) }) sz f [.ref a, .ref q] (anP f q na ma nn nt mn mt dp rf by_ so di le co tx lx (anO bn bt vb.2.2.2.1)) := by
  refine ct_of (by decide) (Nat.le_of_ble_eq_true rfl) ?_
  intro p e s m below meth c ls H locs hEn
  obtain ⟨hc, hr, hlk, hin, hE, hw, hsz, hl⟩ := hEn
  have hx := hc.1
  have hb := hc.2.1
  have hl : lv_has ls 3 [(0, .ref a), (1, .ref q)] := hl
  have hq0 := hq
  obtain ⟨hqc, hqn, hqm⟩ := hq0
  refine lv_aload_n hx hb d_OnlyFilter_answer_0 rfl (lv_at hl 1 rfl) ?_
  refine m_get hc hE hw hqc kc_Question l_OnlyFilter_26_Question rfl d_OnlyFilter_answer_1 ?_
  refine lv_iconst (v := 1) hx hb d_OnlyFilter_answer_4 (by decide) ?_
  refine lv_icmp_ne (tgt := 34) hx hb d_OnlyFilter_answer_5 (by decide) (fun c1 => ?_) (fun c1 => ?_)
  · refine lv_iconst (v := 0) hx hb d_OnlyFilter_answer_34 (by decide) ?_
    refine lv_istore_n (lv' := [(2, .int 0), (0, .ref a), (1, .ref q)]) hx hb d_OnlyFilter_answer_35 rfl hl (by decide) rfl (fun ls hl => ?_)
    refine lv_iload_n hx hb d_OnlyFilter_answer_36 rfl (lv_at hl 0 rfl) ?_
    refine lv_if_eq (tgt := 51) hx hb d_OnlyFilter_answer_37 (by decide) (fun c2 => ?_) (fun c2 => ?_)
    · refine lv_iconst (v := 0) hx hb d_OnlyFilter_answer_51 (by decide) ?_
      have hr2 : anO bn bt vb.2.2.2.1 (nn, nt, mn, mt, dp, rf, by_, so, di, le) (co, tx, lx) = (0, co, tx, lx) := pif_f (fun z => c1 z.1)
      exact m_iret hc hr hlk hw ⟨by first | decide | (dsimp only; omega), by first | decide | (dsimp only; omega)⟩ d_OnlyFilter_answer_52 ⟨by rw [hr2], by rw [hr2]; exact (up_id hqc).symm⟩
    · refine lv_aload_n hx hb d_OnlyFilter_answer_40 rfl (lv_at hl 1 rfl) ?_
      refine m_get hc hE hw (hg _ _ h1) kc_OnlyFilter l_OnlyFilter_16_OnlyFilter rfl d_OnlyFilter_answer_41 ?_
      refine lv_aload_n hx hb d_OnlyFilter_answer_44 rfl (lv_at hl 2 rfl) ?_
      refine m_calli hw (run_ans (rest := []) hIH hc hE hw hrb hq hg hgq al_OnlyFilter_44 hl.1 (Nat.le_of_ble_eq_true rfl) d_OnlyFilter_answer_45 ⟨by dsimp only; omega, by dsimp only; omega⟩ ⟨by dsimp only; omega, by dsimp only; omega⟩) (fun r5 g4 H locs p3 hw => ?_)
      obtain ⟨A1, eA1⟩ : ∃ z, z = vb.2.2.2.1 (nn, nt, mn, mt, dp, rf, by_, so, di, le) (co, tx, lx) := ⟨_, rfl⟩
      obtain ⟨p3, hfe1⟩ := p3
      rw [← eA1] at p3 hfe1
      have hF1 : g4 = va_up f q (some (.inr (2, [.ref na, .ref ma, .int dp, .int rf, .int by_, .int so, .int di, .int le, .int A1.2.1, .int A1.2.2.1, .int A1.2.2.2]))) := hfe1
      have hg1 : gle g g4 := by rw [hF1]; exact hg.upf hgq
      have hq1 : qs G g4 q na nr ncap nn nt ma mr mcap mn mt dp rf by_ so di le A1.2.1 A1.2.2.1 A1.2.2.2 := by rw [hF1]; exact ⟨va_up_self _ _ _, sg_up hqn hqc wd_x, sg_up hqm hqc wd_x⟩
      refine lv_goto (tgt := 52) hx hb d_OnlyFilter_answer_48 (by decide) ?_
      exact absurd rfl c2
  · refine lv_aload_n hx hb d_OnlyFilter_answer_8 rfl (lv_at hl 1 rfl) ?_
    refine m_get hc hE hw hqc kc_Question l_OnlyFilter_31_Question rfl d_OnlyFilter_answer_9 ?_
    refine lv_aload_n hx hb d_OnlyFilter_answer_12 rfl (lv_at hl 0 rfl) ?_
    refine m_get hc hE hw (hg _ _ h1) kc_OnlyFilter l_OnlyFilter_22_OnlyFilter rfl d_OnlyFilter_answer_13 ?_
    refine lv_iconst (v := 0) hx hb d_OnlyFilter_answer_16 (by decide) ?_
    refine lv_aload_n hx hb d_OnlyFilter_answer_17 rfl (lv_at hl 0 rfl) ?_
    refine m_get hc hE hw (hg _ _ h1) kc_OnlyFilter l_OnlyFilter_22_OnlyFilter rfl d_OnlyFilter_answer_18 ?_
    refine m_calli hw (m_runV (As := []) (rest := [.int 0, .ref sa, .ref na]) hc hE hw (c_Signs_length G l H.size f (hsg.mono hg)) (hg _ _ hsg.1) rfl cw_OnlyFilter_34 se_Signs_length rfl hl.1 rfl (Nat.le_of_ble_eq_true rfl) d_OnlyFilter_answer_21 ⟨rfl, rfl, by dsimp only; omega, by dsimp only; omega⟩ ⟨by first | decide | (dsimp only; omega), by first | decide | (dsimp only; omega)⟩) (fun r8 g7 H locs p6 hw => ?_)
    obtain ⟨rfl, p6⟩ := p6
    subst p6
    refine m_calli hw (m_runV (As := [.ref sa, .int 0, .int (nI bn)]) (rest := []) hc hE hw (c_Signs_beginsWithPart G l H.size f hqn (hsg.mono hg) (i0 := 0) (i1 := bn) (Nat.zero_le _) (Nat.le_refl _)) hqn.1 rfl cw_OnlyFilter_40 se_Signs_beginsWithPart rfl hl.1 rfl (Nat.le_of_ble_eq_true rfl) d_OnlyFilter_answer_24 ⟨rfl, rfl, by dsimp only; omega, by dsimp only; omega⟩ ⟨by first | decide | (dsimp only; omega), by first | decide | (dsimp only; omega)⟩) (fun r11 g10 H locs p9 hw => ?_)
    obtain ⟨rfl, p9⟩ := p9
    refine lv_if_eq (tgt := 34) hx hb d_OnlyFilter_answer_27 (by decide) (fun c12 => ?_) (fun c12 => ?_)
    · refine lv_iconst (v := 0) hx hb d_OnlyFilter_answer_34 (by decide) ?_
      refine lv_istore_n (lv' := [(2, .int 0), (0, .ref a), (1, .ref q)]) hx hb d_OnlyFilter_answer_35 rfl hl (by decide) rfl (fun ls hl => ?_)
      refine lv_iload_n hx hb d_OnlyFilter_answer_36 rfl (lv_at hl 0 rfl) ?_
      refine lv_if_eq (tgt := 51) hx hb d_OnlyFilter_answer_37 (by decide) (fun c13 => ?_) (fun c13 => ?_)
      · refine lv_iconst (v := 0) hx hb d_OnlyFilter_answer_51 (by decide) ?_
        have hr2 : anO bn bt vb.2.2.2.1 (nn, nt, mn, mt, dp, rf, by_, so, di, le) (co, tx, lx) = (0, co, tx, lx) := pif_f (fun z => (bI_0.mp (p9.symm.trans c12)) z.2)
        exact m_iret hc hr hlk hw ⟨by first | decide | (dsimp only; omega), by first | decide | (dsimp only; omega)⟩ d_OnlyFilter_answer_52 ⟨by rw [hr2], by rw [hr2]; exact (up_id hqc).symm⟩
      · refine lv_aload_n hx hb d_OnlyFilter_answer_40 rfl (lv_at hl 1 rfl) ?_
        refine m_get hc hE hw (hg _ _ h1) kc_OnlyFilter l_OnlyFilter_16_OnlyFilter rfl d_OnlyFilter_answer_41 ?_
        refine lv_aload_n hx hb d_OnlyFilter_answer_44 rfl (lv_at hl 2 rfl) ?_
        refine m_calli hw (run_ans (rest := []) hIH hc hE hw hrb hq hg hgq al_OnlyFilter_44 hl.1 (Nat.le_of_ble_eq_true rfl) d_OnlyFilter_answer_45 ⟨by dsimp only; omega, by dsimp only; omega⟩ ⟨by dsimp only; omega, by dsimp only; omega⟩) (fun r16 g15 H locs p14 hw => ?_)
        obtain ⟨A1, eA1⟩ : ∃ z, z = vb.2.2.2.1 (nn, nt, mn, mt, dp, rf, by_, so, di, le) (co, tx, lx) := ⟨_, rfl⟩
        obtain ⟨p14, hfe1⟩ := p14
        rw [← eA1] at p14 hfe1
        have hF1 : g15 = va_up f q (some (.inr (2, [.ref na, .ref ma, .int dp, .int rf, .int by_, .int so, .int di, .int le, .int A1.2.1, .int A1.2.2.1, .int A1.2.2.2]))) := hfe1
        have hg1 : gle g g15 := by rw [hF1]; exact hg.upf hgq
        have hq1 : qs G g15 q na nr ncap nn nt ma mr mcap mn mt dp rf by_ so di le A1.2.1 A1.2.2.1 A1.2.2.2 := by rw [hF1]; exact ⟨va_up_self _ _ _, sg_up hqn hqc wd_x, sg_up hqm hqc wd_x⟩
        refine lv_goto (tgt := 52) hx hb d_OnlyFilter_answer_48 (by decide) ?_
        exact absurd rfl c13
    · refine lv_iconst (v := 1) hx hb d_OnlyFilter_answer_30 (by decide) ?_
      refine lv_goto (tgt := 35) hx hb d_OnlyFilter_answer_31 (by decide) ?_
      refine lv_istore_n (lv' := [(2, .int 1), (0, .ref a), (1, .ref q)]) hx hb d_OnlyFilter_answer_35 rfl hl (by decide) rfl (fun ls hl => ?_)
      refine lv_iload_n hx hb d_OnlyFilter_answer_36 rfl (lv_at hl 0 rfl) ?_
      refine lv_if_eq (tgt := 51) hx hb d_OnlyFilter_answer_37 (by decide) (fun c17 => ?_) (fun c17 => ?_)
      · refine lv_iconst (v := 0) hx hb d_OnlyFilter_answer_51 (by decide) ?_
        exact absurd c17 (by decide)
      · refine lv_aload_n hx hb d_OnlyFilter_answer_40 rfl (lv_at hl 1 rfl) ?_
        refine m_get hc hE hw (hg _ _ h1) kc_OnlyFilter l_OnlyFilter_16_OnlyFilter rfl d_OnlyFilter_answer_41 ?_
        refine lv_aload_n hx hb d_OnlyFilter_answer_44 rfl (lv_at hl 2 rfl) ?_
        refine m_calli hw (run_ans (rest := []) hIH hc hE hw hrb hq hg hgq al_OnlyFilter_44 hl.1 (Nat.le_of_ble_eq_true rfl) d_OnlyFilter_answer_45 ⟨by dsimp only; omega, by dsimp only; omega⟩ ⟨by dsimp only; omega, by dsimp only; omega⟩) (fun r20 g19 H locs p18 hw => ?_)
        obtain ⟨A1, eA1⟩ : ∃ z, z = vb.2.2.2.1 (nn, nt, mn, mt, dp, rf, by_, so, di, le) (co, tx, lx) := ⟨_, rfl⟩
        obtain ⟨p18, hfe1⟩ := p18
        rw [← eA1] at p18 hfe1
        have hF1 : g19 = va_up f q (some (.inr (2, [.ref na, .ref ma, .int dp, .int rf, .int by_, .int so, .int di, .int le, .int A1.2.1, .int A1.2.2.1, .int A1.2.2.2]))) := hfe1
        have hg1 : gle g g19 := by rw [hF1]; exact hg.upf hgq
        have hq1 : qs G g19 q na nr ncap nn nt ma mr mcap mn mt dp rf by_ so di le A1.2.1 A1.2.2.1 A1.2.2.2 := by rw [hF1]; exact ⟨va_up_self _ _ _, sg_up hqn hqc wd_x, sg_up hqm hqc wd_x⟩
        refine lv_goto (tgt := 52) hx hb d_OnlyFilter_answer_48 (by decide) ?_
        have hr2 : anO bn bt vb.2.2.2.1 (nn, nt, mn, mt, dp, rf, by_, so, di, le) (co, tx, lx) = A1 := by rw [eA1]; exact pif_t ⟨c1, bI_n.mp (fun z => c12 (p9.trans z))⟩
        exact m_iret hc hr hlk hw ⟨by first | decide | (dsimp only; omega), by first | decide | (dsimp only; omega)⟩ d_OnlyFilter_answer_52 ⟨by rw [hr2]; exact p18, by rw [hr2]; exact hF1⟩

/-- the contracts of answer, at every height -/
theorem ans_all (G : GG) (l : Launch) : ∀ d, ANS G l d := by
  intro d
  induction d with
  | zero => exact ⟨fun sz f g a b c2 vb vc q na nr ncap nn nt ma mr mcap mn mt dp rf by_ so di le co tx lx h1 hrb hrc hq hg hgq => c_JoinedFilter_answer G l sz f 0 (fun d' h => absurd h (by omega)) g a b c2 vb vc q na nr ncap nn nt ma mr mcap mn mt dp rf by_ so di le co tx lx h1 hrb hrc hq hg hgq, fun sz f g a b vb al q na nr ncap nn nt ma mr mcap mn mt dp rf by_ so di le co tx lx h1 hrb hq hg hgq => c_StrictFilter_answer G l sz f 0 (fun d' h => absurd h (by omega)) g a b vb al q na nr ncap nn nt ma mr mcap mn mt dp rf by_ so di le co tx lx h1 hrb hq hg hgq, fun sz f g a b vb gv q na nr ncap nn nt ma mr mcap mn mt dp rf by_ so di le co tx lx h1 hrb hq hg hgq => c_DefaultFilter_answer G l sz f 0 (fun d' h => absurd h (by omega)) g a b vb gv q na nr ncap nn nt ma mr mcap mn mt dp rf by_ so di le co tx lx h1 hrb hq hg hgq, fun sz f g a b sa sr scap bn bt vb q na nr ncap nn nt ma mr mcap mn mt dp rf by_ so di le co tx lx h1 hsg hrb hq hg hgq => c_OnlyFilter_answer G l sz f 0 (fun d' h => absurd h (by omega)) g a b sa sr scap bn bt vb q na nr ncap nn nt ma mr mcap mn mt dp rf by_ so di le co tx lx h1 hsg hrb hq hg hgq⟩
  | succ d IH => exact ⟨fun sz f g a b c2 vb vc q na nr ncap nn nt ma mr mcap mn mt dp rf by_ so di le co tx lx h1 hrb hrc hq hg hgq => c_JoinedFilter_answer G l sz f (d + 1) (fun d' h => by cases h; exact IH) g a b c2 vb vc q na nr ncap nn nt ma mr mcap mn mt dp rf by_ so di le co tx lx h1 hrb hrc hq hg hgq, fun sz f g a b vb al q na nr ncap nn nt ma mr mcap mn mt dp rf by_ so di le co tx lx h1 hrb hq hg hgq => c_StrictFilter_answer G l sz f (d + 1) (fun d' h => by cases h; exact IH) g a b vb al q na nr ncap nn nt ma mr mcap mn mt dp rf by_ so di le co tx lx h1 hrb hq hg hgq, fun sz f g a b vb gv q na nr ncap nn nt ma mr mcap mn mt dp rf by_ so di le co tx lx h1 hrb hq hg hgq => c_DefaultFilter_answer G l sz f (d + 1) (fun d' h => by cases h; exact IH) g a b vb gv q na nr ncap nn nt ma mr mcap mn mt dp rf by_ so di le co tx lx h1 hrb hq hg hgq, fun sz f g a b sa sr scap bn bt vb q na nr ncap nn nt ma mr mcap mn mt dp rf by_ so di le co tx lx h1 hsg hrb hq hg hgq => c_OnlyFilter_answer G l sz f (d + 1) (fun d' h => by cases h; exact IH) g a b sa sr scap bn bt vb q na nr ncap nn nt ma mr mcap mn mt dp rf by_ so di le co tx lx h1 hsg hrb hq hg hgq⟩
end
section
/-! WHAT makeFilter MAKES, purely and as cells -/
/-- the limit k after the first i pieces -/
noncomputable def lmU (t : Nat → Int32) (n : Nat) : Nat → Nat → Int32
  | 0, _ => -2
  | i + 1, k => pif (pk t n i = 1 ∧ lmV t (pst t n i) (eqc t (pst t n i) (pnx t n (pst t n i))) = nI k) (nmb t (eqc t (pst t n i) (pnx t n (pst t n i)) + 1) (pnx t n (pst t n i) - (eqc t (pst t n i) (pnx t n (pst t n i)) + 1))) (lmU t n i k)
/-- the fields of the class pattern that piece k is -/
noncomputable def pcl (t : Nat → Int32) (n ka k : Nat) : List Value := [.ref ka, .int (bI (t (pst t n k) = 33)), .int (nI (shp t (q0c t (pst t n k) (pnx t n (pst t n k))) (pnx t n (pst t n k)))), .int (nI (m0c t (pst t n k))), .int (nI (m1c t (pst t n k) (pnx t n (pst t n k)))), .int (nI (q0c t (pst t n k) (pnx t n (pst t n k)))), .int (nI (nmE t (q0c t (pst t n k) (pnx t n (pst t n k))) (pnx t n (pst t n k))))]
noncomputable def cxi (t : Nat → Int32) (n i : Nat) : Nat := (clsU t n (npc t n)).getD i 0
noncomputable def Vt (t : Nat → Int32) (n i : Nat) : Int32 := vdc (bI (t (pst t n (cxi t n i)) = 33))
noncomputable def Sht (t : Nat → Int32) (n i : Nat) : Int32 := fsh (shp t (q0c t (pst t n (cxi t n i)) (pnx t n (pst t n (cxi t n i)))) (pnx t n (pst t n (cxi t n i)))) (m0c t (pst t n (cxi t n i))) (m1c t (pst t n (cxi t n i)) (pnx t n (pst t n (cxi t n i))))
def Mt (t : Nat → Int32) (n i : Nat) (nn : Nat) (nt : Nat → Int32) (mn : Nat) (mt : Nat → Int32) : Prop := mat t (shp t (q0c t (pst t n (cxi t n i)) (pnx t n (pst t n (cxi t n i)))) (pnx t n (pst t n (cxi t n i)))) (m0c t (pst t n (cxi t n i))) (m1c t (pst t n (cxi t n i)) (pnx t n (pst t n (cxi t n i)))) (q0c t (pst t n (cxi t n i)) (pnx t n (pst t n (cxi t n i)))) (nmE t (q0c t (pst t n (cxi t n i)) (pnx t n (pst t n (cxi t n i)))) (pnx t n (pst t n (cxi t n i)))) nn nt mn mt
/-- the cells of f' that f hasn't -/
def nw (f f' : Wd) : Wd := fun q => if f q = none then f' q else none
theorem nw_of {f f' : Wd} {q : Nat} {e : va_E} (h : f q = none) (h' : f' q = some e) : nw f f' q = some e := by unfold nw; rw [if_pos h]; exact h'
theorem clsU_mem {t : Nat → Int32} {n : Nat} : ∀ i j, j < (clsU t n i).length → (clsU t n i).getD j 0 < i ∧ pk t n ((clsU t n i).getD j 0) = 2 := by
  intro i
  induction i with
  | zero => intro j h; exact absurd h (Nat.not_lt_zero _)
  | succ i ih =>
    intro j h
    by_cases hp : pk t n i = 2
    · have e : clsU t n (i + 1) = clsU t n i ++ [i] := pif_t hp
      rw [e] at h ⊢
      rw [List.length_append] at h
      rcases Nat.lt_or_ge j (clsU t n i).length with q | q
      · have e2 : (clsU t n i ++ [i]).getD j 0 = (clsU t n i).getD j 0 := by
          rw [List.getD_eq_getElem?_getD, List.getD_eq_getElem?_getD, List.getElem?_append_left q]
        rw [e2]
        have := ih j q
        exact ⟨by omega, this.2⟩
      · have h1 : j < (clsU t n i).length + 1 := h
        have e2 : (clsU t n i ++ [i]).getD j 0 = i := by
          rw [List.getD_eq_getElem?_getD, List.getElem?_append_right q, show j - (clsU t n i).length = 0 by omega]
          rfl
        rw [e2]
        exact ⟨by omega, hp⟩
    · have e : clsU t n (i + 1) = clsU t n i := pif_f hp
      rw [e] at h ⊢
      have := ih j h
      exact ⟨by omega, this.2⟩
theorem clsU_grow {t : Nat → Int32} {n i j : Nat} (h : j < (clsU t n i).length) : (clsU t n (i + 1)).getD j 0 = (clsU t n i).getD j 0 ∧ j < (clsU t n (i + 1)).length := by
  by_cases hp : pk t n i = 2
  · have e : clsU t n (i + 1) = clsU t n i ++ [i] := pif_t hp
    rw [e, List.getD_eq_getElem?_getD, List.getD_eq_getElem?_getD, List.getElem?_append_left h, List.length_append]
    exact ⟨rfl, by omega⟩
  · have e : clsU t n (i + 1) = clsU t n i := pif_f hp
    rw [e]
    exact ⟨rfl, h⟩
theorem clsU_lenle {t : Nat → Int32} {n : Nat} : ∀ i k, (clsU t n i).length ≤ (clsU t n (i + k)).length := by
  intro i k
  induction k with
  | zero => exact Nat.le_refl _
  | succ k ih =>
    have : (clsU t n (i + k)).length ≤ (clsU t n (i + k + 1)).length := by
      by_cases hp : pk t n (i + k) = 2
      · have e : clsU t n (i + k + 1) = clsU t n (i + k) ++ [i + k] := pif_t hp
        rw [e, List.length_append]; omega
      · have e : clsU t n (i + k + 1) = clsU t n (i + k) := pif_f hp
        rw [e]; omega
    exact Nat.le_trans ih this
theorem bgn_congr {nn : Nat} {nt t u : Nat → Int32} {n0 n1 : Nat} (h : ∀ j, j < n1 → u j = t j) (h0 : n0 ≤ n1) : bgn nn nt u n0 n1 ↔ bgn nn nt t n0 n1 := by
  unfold bgn
  constructor
  · exact fun z => ⟨z.1, fun j q => by rw [← h (n0 + j) (by omega)]; exact z.2 j q⟩
  · exact fun z => ⟨z.1, fun j q => by rw [h (n0 + j) (by omega)]; exact z.2 j q⟩
theorem isp_congr {nn : Nat} {nt t u : Nat → Int32} {n0 n1 : Nat} (h : ∀ j, j < n1 → u j = t j) (h0 : n0 ≤ n1) : isp nn nt u n0 n1 ↔ isp nn nt t n0 n1 := by
  unfold isp
  constructor
  · exact fun z => ⟨z.1, fun j q => by rw [← h (n0 + j) (by omega)]; exact z.2 j q⟩
  · exact fun z => ⟨z.1, fun j q => by rw [h (n0 + j) (by omega)]; exact z.2 j q⟩
theorem mat_congr {t u : Nat → Int32} {n sh m0 m1 n0 n1 nn mn : Nat} {nt mt : Nat → Int32} (h : ∀ j, j < n → u j = t j) (h1 : m0 ≤ m1) (h2 : m1 ≤ n) (h3 : n0 ≤ n1) (h4 : n1 ≤ n) : mat u sh m0 m1 n0 n1 nn nt mn mt ↔ mat t sh m0 m1 n0 n1 nn nt mn mt := by
  have a1 := isp_congr (nn := mn) (nt := mt) (t := t) (u := u) (fun j q => h j (Nat.lt_of_lt_of_le q h2)) h1
  have a2 := isp_congr (nn := nn) (nt := nt) (t := t) (u := u) (fun j q => h j (Nat.lt_of_lt_of_le q h4)) h3
  have a3 := bgn_congr (nn := nn) (nt := nt) (t := t) (u := u) (fun j q => h j (Nat.lt_of_lt_of_le q h4)) h3
  unfold mat
  rw [a1, a2, a3]
/-- three registers -/
def ad3 (a b c : Nat) : Nat → Nat := fun k => if k = 0 then a else if k = 1 then b else c
def E3 (x y z : va_E) : Nat → va_E := fun k => if k = 0 then x else if k = 1 then y else z
theorem ad3_inj {a b c : Nat} (h1 : a ≠ b) (h2 : a ≠ c) (h3 : b ≠ c) : ∀ i j, i < 3 → j < 3 → ad3 a b c i = ad3 a b c j → i = j := by
  intro i j hi hj
  rcases (show i = 0 ∨ i = 1 ∨ i = 2 by omega) with rfl | rfl | rfl <;> rcases (show j = 0 ∨ j = 1 ∨ j = 2 by omega) with rfl | rfl | rfl <;> intro h <;> first | rfl | exact absurd h h1 | exact absurd h h2 | exact absurd h h3 | exact absurd h (Ne.symm h1) | exact absurd h (Ne.symm h2) | exact absurd h (Ne.symm h3)
/-- all but three cells of a world, as what stays -/
def but3 (f : Wd) (a b c : Nat) : Wd := fun q => if q = a ∨ q = b ∨ q = c then none else f q
theorem but3_of {f : Wd} {a b c q : Nat} {e : va_E} (h : f q = some e) (h1 : q ≠ a) (h2 : q ≠ b) (h3 : q ≠ c) : but3 f a b c q = some e := by
  unfold but3
  rw [if_neg (fun z => z.elim h1 (fun z => z.elim h2 h3))]
  exact h
theorem Rg3 {f : Wd} {a b c : Nat} {x y z : va_E} (h1 : f a = some x) (h2 : f b = some y) (h3 : f c = some z) (n1 : a ≠ b) (n2 : a ≠ c) (n3 : b ≠ c) : Rg 3 (ad3 a b c) (E3 x y z) (but3 f a b c) f := by
  refine ⟨fun k hk => ?_, ad3_inj n1 n2 n3, fun q e h => ?_, fun k hk => ?_⟩
  · rcases (show k = 0 ∨ k = 1 ∨ k = 2 by omega) with rfl | rfl | rfl
    · exact h1
    · exact h2
    · exact h3
  · unfold but3 at h
    by_cases hq : q = a ∨ q = b ∨ q = c
    · rw [if_pos hq] at h; cases h
    · rw [if_neg hq] at h; exact h
  · rcases (show k = 0 ∨ k = 1 ∨ k = 2 by omega) with rfl | rfl | rfl
    · unfold but3; exact if_pos (Or.inl rfl)
    · unfold but3; exact if_pos (Or.inr (Or.inl rfl))
    · unfold but3; exact if_pos (Or.inr (Or.inr rfl))
theorem Rg.E {n : Nat} {ad : Nat → Nat} {E E' : Nat → va_E} {g f : Wd} (h : Rg n ad E g f) (he : ∀ k, k < n → E k = E' k) : Rg n ad E' g f := ⟨fun k hk => by rw [← he k hk]; exact h.1 k hk, h.2⟩
/-- all old cells but one are as they were -/
def hld (f fk : Wd) (ra : Nat) : Prop := ∀ (q : Nat) (e : va_E), f q = some e → q ≠ ra → fk q = some e
theorem hld.rf {f : Wd} {ra : Nat} : hld f f ra := fun _ _ h _ => h
theorem hld.at {f fk : Wd} {ra : Nat} {v : Option va_E} (h : hld f fk ra) : hld f (va_up fk ra v) ra := fun q e h1 h2 => by
  rw [va_up_ne _ _ h2]; exact h q e h1 h2
theorem hld.new {f fk : Wd} {ra x : Nat} {v : Option va_E} (h : hld f fk ra) (hx : f x = none) : hld f (va_up fk x v) ra := fun q e h1 h2 => by
  rw [va_up_ne _ _ (wnf h1 hx)]; exact h q e h1 h2
theorem hld.fresh {f fk : Wd} {ra x : Nat} {e : va_E} (h : hld f fk ra) (hr : fk ra = some e) (hx : fk x = none) : f x = none := by
  cases hf : f x with
  | none => rfl
  | some y =>
    by_cases hq : x = ra
    · subst hq; rw [hr] at hx; cases hx
    · rw [h x y hf hq] at hx; cases hx
theorem pk_lim {t : Nat → Int32} {a e : Nat} (h : pkd t a e = 1) : ∃ k, k < 4 ∧ lmV t a (eqc t a e) = nI k := by
  unfold pkd at h
  by_cases h0 : a = e
  · rw [pif_t h0] at h; omega
  · rw [pif_f h0] at h
    by_cases h1 : eqc t a e < e
    · rw [pif_t h1] at h
      by_cases h2 : lok t a (eqc t a e) e
      · have hn := h2.1
        unfold lmV at hn ⊢
        by_cases w0 : isw t a (eqc t a e) (bytTx.getD 0 [])
        · rw [pif_t w0]; exact ⟨0, by omega, rfl⟩
        · rw [pif_f w0] at hn ⊢
          by_cases w1 : isw t a (eqc t a e) (bytTx.getD 1 [])
          · rw [pif_t w1]; exact ⟨1, by omega, rfl⟩
          · rw [pif_f w1] at hn ⊢
            by_cases w2 : isw t a (eqc t a e) (bytTx.getD 2 [])
            · rw [pif_t w2]; exact ⟨2, by omega, rfl⟩
            · rw [pif_f w2] at hn ⊢
              by_cases w3 : isw t a (eqc t a e) (bytTx.getD 3 [])
              · rw [pif_t w3]; exact ⟨3, by omega, rfl⟩
              · rw [pif_f w3] at hn; exact absurd rfl hn
      · rw [pif_f h2] at h; omega
    · rw [pif_f h1] at h
      by_cases h2 : okC t a e
      · rw [pif_t h2] at h; omega
      · rw [pif_f h2] at h; omega
end
section
/-! links of the pools, as the walks ask for them -/
theorem nw_PieceReader_29 : nwk "StreamFilters$PieceReader" 29 R_ClassPattern 7 := ⟨(tb 318 (by decide +kernel) rfl), (tb 327 (by decide +kernel) rfl), (tb 11 (by decide +kernel) rfl)⟩
theorem nw_PieceReader_46 : nwk "StreamFilters$PieceReader" 46 R_TextFilter 6 := ⟨(tb 356 (by decide +kernel) rfl), (tb 357 (by decide +kernel) rfl), (tb 13 (by decide +kernel) rfl)⟩
theorem cl_PieceReader_29 : Cond.classLink "StreamFilters$PieceReader" 29 "StreamFilters$ClassPattern" ∈ TB := (tb 318 (by decide +kernel) rfl)
theorem cw_PieceReader_26 : cwk "StreamFilters$PieceReader" 26 y_PieceReader_countClasses b_PieceReader_countClasses 4 (some .int) 0 := ⟨Or.inl (tb 314 (by decide +kernel) rfl), (tb 317 (by decide +kernel) rfl), (tb 4 (by decide +kernel) rfl), by decide, by decide, by decide +kernel⟩
theorem cw_PieceReader_31 : cwk "StreamFilters$PieceReader" 31 y_Signs_copy b_Signs_copy 3 (some (.object "StreamFilters$Signs")) 0 := ⟨Or.inl (tb 320 (by decide +kernel) rfl), (tb 323 (by decide +kernel) rfl), (tb 2 (by decide +kernel) rfl), by decide, by decide, by decide +kernel⟩
theorem cw_PieceReader_43 : cwk "StreamFilters$PieceReader" 43 y_ClassPattern_init b_ClassPattern_init 3 none 2 := ⟨Or.inl (tb 328 (by decide +kernel) rfl), (tb 330 (by decide +kernel) rfl), (tb 11 (by decide +kernel) rfl), by decide, by decide, by decide +kernel⟩
theorem cw_PieceReader_48 : cwk "StreamFilters$PieceReader" 48 y_TextFilter_init b_TextFilter_init 4 none 3 := ⟨Or.inl (tb 358 (by decide +kernel) rfl), (tb 360 (by decide +kernel) rfl), (tb 13 (by decide +kernel) rfl), by decide, by decide, by decide +kernel⟩
theorem se_PieceReader_countClasses : Cond.instanceMethod y_PieceReader_countClasses ∈ TB ∧ Cond.selects "StreamFilters$PieceReader" y_PieceReader_countClasses y_PieceReader_countClasses ∈ TB := ⟨(tb 316 (by decide +kernel) rfl), (tbs 8 (by decide +kernel) rfl)⟩
theorem se_Signs_copy : Cond.instanceMethod y_Signs_copy ∈ TB ∧ Cond.selects "StreamFilters$Signs" y_Signs_copy y_Signs_copy ∈ TB := ⟨(tb 321 (by decide +kernel) rfl), (tb 322 (by decide +kernel) rfl)⟩
theorem si_ClassPattern_init : Cond.instanceMethod y_ClassPattern_init ∈ TB := (tb 329 (by decide +kernel) rfl)
theorem si_TextFilter_init : Cond.instanceMethod y_TextFilter_init ∈ TB := (tb 359 (by decide +kernel) rfl)
theorem ar_int : Cond.arrayClass .int ∈ TB := (tb 355 (by decide +kernel) rfl)
theorem ao_ClassPattern : "StreamFilters$ClassPattern" ∈ AOs := by decide
/-! decode rows -/
theorem d_PieceReader_makeFilter_0 : decode b_PieceReader_makeFilter 0 = .ok (.iconst 4, 1) := by decide +kernel
theorem d_PieceReader_makeFilter_1 : decode b_PieceReader_makeFilter 1 = .ok (.newarray .int, 2) := by decide +kernel
theorem d_PieceReader_makeFilter_3 : decode b_PieceReader_makeFilter 3 = .ok (.astore_n 2, 1) := by decide +kernel
theorem d_PieceReader_makeFilter_4 : decode b_PieceReader_makeFilter 4 = .ok (.iconst 0, 1) := by decide +kernel
theorem d_PieceReader_makeFilter_5 : decode b_PieceReader_makeFilter 5 = .ok (.istore_n 3, 1) := by decide +kernel
theorem d_PieceReader_makeFilter_6 : decode b_PieceReader_makeFilter 6 = .ok (.iload_n 3, 1) := by decide +kernel
theorem d_PieceReader_makeFilter_7 : decode b_PieceReader_makeFilter 7 = .ok (.iconst 4, 1) := by decide +kernel
theorem d_PieceReader_makeFilter_8 : decode b_PieceReader_makeFilter 8 = .ok (.if_icmp .ge 14, 3) := by decide +kernel
theorem d_PieceReader_makeFilter_11 : decode b_PieceReader_makeFilter 11 = .ok (.aload_n 2, 1) := by decide +kernel
theorem d_PieceReader_makeFilter_12 : decode b_PieceReader_makeFilter 12 = .ok (.iload_n 3, 1) := by decide +kernel
theorem d_PieceReader_makeFilter_13 : decode b_PieceReader_makeFilter 13 = .ok (.bipush (-2), 2) := by decide +kernel
theorem d_PieceReader_makeFilter_15 : decode b_PieceReader_makeFilter 15 = .ok (.iastore, 1) := by decide +kernel
theorem d_PieceReader_makeFilter_16 : decode b_PieceReader_makeFilter 16 = .ok (.iinc 3 1, 3) := by decide +kernel
theorem d_PieceReader_makeFilter_19 : decode b_PieceReader_makeFilter 19 = .ok (.goto (-13), 3) := by decide +kernel
theorem d_PieceReader_makeFilter_22 : decode b_PieceReader_makeFilter 22 = .ok (.aload_n 0, 1) := by decide +kernel
theorem d_PieceReader_makeFilter_23 : decode b_PieceReader_makeFilter 23 = .ok (.invokevirtual 26, 3) := by decide +kernel
theorem d_PieceReader_makeFilter_26 : decode b_PieceReader_makeFilter 26 = .ok (.anewarray 29, 3) := by decide +kernel
theorem d_PieceReader_makeFilter_29 : decode b_PieceReader_makeFilter 29 = .ok (.astore_n 3, 1) := by decide +kernel
theorem d_PieceReader_makeFilter_30 : decode b_PieceReader_makeFilter 30 = .ok (.aload_n 0, 1) := by decide +kernel
theorem d_PieceReader_makeFilter_31 : decode b_PieceReader_makeFilter 31 = .ok (.getfield 9, 3) := by decide +kernel
theorem d_PieceReader_makeFilter_34 : decode b_PieceReader_makeFilter 34 = .ok (.invokevirtual 31, 3) := by decide +kernel
theorem d_PieceReader_makeFilter_37 : decode b_PieceReader_makeFilter 37 = .ok (.astore 4, 2) := by decide +kernel
theorem d_PieceReader_makeFilter_39 : decode b_PieceReader_makeFilter 39 = .ok (.iconst 0, 1) := by decide +kernel
theorem d_PieceReader_makeFilter_40 : decode b_PieceReader_makeFilter 40 = .ok (.istore 5, 2) := by decide +kernel
theorem d_PieceReader_makeFilter_42 : decode b_PieceReader_makeFilter 42 = .ok (.aload_n 0, 1) := by decide +kernel
theorem d_PieceReader_makeFilter_43 : decode b_PieceReader_makeFilter 43 = .ok (.invokevirtual 15, 3) := by decide +kernel
theorem d_PieceReader_makeFilter_46 : decode b_PieceReader_makeFilter 46 = .ok (.istore 6, 2) := by decide +kernel
theorem d_PieceReader_makeFilter_48 : decode b_PieceReader_makeFilter 48 = .ok (.iconst 0, 1) := by decide +kernel
theorem d_PieceReader_makeFilter_49 : decode b_PieceReader_makeFilter 49 = .ok (.istore 7, 2) := by decide +kernel
theorem d_PieceReader_makeFilter_51 : decode b_PieceReader_makeFilter 51 = .ok (.iload 7, 2) := by decide +kernel
theorem d_PieceReader_makeFilter_53 : decode b_PieceReader_makeFilter 53 = .ok (.iload 6, 2) := by decide +kernel
theorem d_PieceReader_makeFilter_55 : decode b_PieceReader_makeFilter 55 = .ok (.if_icmp .ge 81, 3) := by decide +kernel
theorem d_PieceReader_makeFilter_58 : decode b_PieceReader_makeFilter 58 = .ok (.aload_n 0, 1) := by decide +kernel
theorem d_PieceReader_makeFilter_59 : decode b_PieceReader_makeFilter 59 = .ok (.invokevirtual 19, 3) := by decide +kernel
theorem d_PieceReader_makeFilter_62 : decode b_PieceReader_makeFilter 62 = .ok (.aload_n 0, 1) := by decide +kernel
theorem d_PieceReader_makeFilter_63 : decode b_PieceReader_makeFilter 63 = .ok (.getfield 22, 3) := by decide +kernel
theorem d_PieceReader_makeFilter_66 : decode b_PieceReader_makeFilter 66 = .ok (.iconst 1, 1) := by decide +kernel
theorem d_PieceReader_makeFilter_67 : decode b_PieceReader_makeFilter 67 = .ok (.if_icmp .ne 31, 3) := by decide +kernel
theorem d_PieceReader_makeFilter_70 : decode b_PieceReader_makeFilter 70 = .ok (.aload_n 0, 1) := by decide +kernel
theorem d_PieceReader_makeFilter_71 : decode b_PieceReader_makeFilter 71 = .ok (.getfield 37, 3) := by decide +kernel
theorem d_PieceReader_makeFilter_74 : decode b_PieceReader_makeFilter 74 = .ok (.ifCond .lt 24, 3) := by decide +kernel
theorem d_PieceReader_makeFilter_77 : decode b_PieceReader_makeFilter 77 = .ok (.aload_n 0, 1) := by decide +kernel
theorem d_PieceReader_makeFilter_78 : decode b_PieceReader_makeFilter 78 = .ok (.getfield 37, 3) := by decide +kernel
theorem d_PieceReader_makeFilter_81 : decode b_PieceReader_makeFilter 81 = .ok (.iconst 4, 1) := by decide +kernel
theorem d_PieceReader_makeFilter_82 : decode b_PieceReader_makeFilter 82 = .ok (.if_icmp .ge 16, 3) := by decide +kernel
theorem d_PieceReader_makeFilter_85 : decode b_PieceReader_makeFilter 85 = .ok (.aload_n 2, 1) := by decide +kernel
theorem d_PieceReader_makeFilter_86 : decode b_PieceReader_makeFilter 86 = .ok (.aload_n 0, 1) := by decide +kernel
theorem d_PieceReader_makeFilter_87 : decode b_PieceReader_makeFilter 87 = .ok (.getfield 37, 3) := by decide +kernel
theorem d_PieceReader_makeFilter_90 : decode b_PieceReader_makeFilter 90 = .ok (.aload_n 0, 1) := by decide +kernel
theorem d_PieceReader_makeFilter_91 : decode b_PieceReader_makeFilter 91 = .ok (.getfield 40, 3) := by decide +kernel
theorem d_PieceReader_makeFilter_94 : decode b_PieceReader_makeFilter 94 = .ok (.iastore, 1) := by decide +kernel
theorem d_PieceReader_makeFilter_95 : decode b_PieceReader_makeFilter 95 = .ok (.goto 35, 3) := by decide +kernel
theorem d_PieceReader_makeFilter_98 : decode b_PieceReader_makeFilter 98 = .ok (.aload_n 0, 1) := by decide +kernel
theorem d_PieceReader_makeFilter_99 : decode b_PieceReader_makeFilter 99 = .ok (.getfield 22, 3) := by decide +kernel
theorem d_PieceReader_makeFilter_102 : decode b_PieceReader_makeFilter 102 = .ok (.iconst 2, 1) := by decide +kernel
theorem d_PieceReader_makeFilter_103 : decode b_PieceReader_makeFilter 103 = .ok (.if_icmp .ne 27, 3) := by decide +kernel
theorem d_PieceReader_makeFilter_106 : decode b_PieceReader_makeFilter 106 = .ok (.iload 5, 2) := by decide +kernel
theorem d_PieceReader_makeFilter_108 : decode b_PieceReader_makeFilter 108 = .ok (.aload_n 3, 1) := by decide +kernel
theorem d_PieceReader_makeFilter_109 : decode b_PieceReader_makeFilter 109 = .ok (.arraylength, 1) := by decide +kernel
theorem d_PieceReader_makeFilter_110 : decode b_PieceReader_makeFilter 110 = .ok (.if_icmp .ge 20, 3) := by decide +kernel
theorem d_PieceReader_makeFilter_113 : decode b_PieceReader_makeFilter 113 = .ok (.aload_n 3, 1) := by decide +kernel
theorem d_PieceReader_makeFilter_114 : decode b_PieceReader_makeFilter 114 = .ok (.iload 5, 2) := by decide +kernel
theorem d_PieceReader_makeFilter_116 : decode b_PieceReader_makeFilter 116 = .ok (.new 29, 3) := by decide +kernel
theorem d_PieceReader_makeFilter_119 : decode b_PieceReader_makeFilter 119 = .ok (.dup, 1) := by decide +kernel
theorem d_PieceReader_makeFilter_120 : decode b_PieceReader_makeFilter 120 = .ok (.aload 4, 2) := by decide +kernel
theorem d_PieceReader_makeFilter_122 : decode b_PieceReader_makeFilter 122 = .ok (.aload_n 0, 1) := by decide +kernel
theorem d_PieceReader_makeFilter_123 : decode b_PieceReader_makeFilter 123 = .ok (.invokespecial 43, 3) := by decide +kernel
theorem d_PieceReader_makeFilter_126 : decode b_PieceReader_makeFilter 126 = .ok (.aastore, 1) := by decide +kernel
theorem d_PieceReader_makeFilter_127 : decode b_PieceReader_makeFilter 127 = .ok (.iinc 5 1, 3) := by decide +kernel
theorem d_PieceReader_makeFilter_130 : decode b_PieceReader_makeFilter 130 = .ok (.iinc 7 1, 3) := by decide +kernel
theorem d_PieceReader_makeFilter_133 : decode b_PieceReader_makeFilter 133 = .ok (.goto (-82), 3) := by decide +kernel
theorem d_PieceReader_makeFilter_136 : decode b_PieceReader_makeFilter 136 = .ok (.new 46, 3) := by decide +kernel
theorem d_PieceReader_makeFilter_139 : decode b_PieceReader_makeFilter 139 = .ok (.dup, 1) := by decide +kernel
theorem d_PieceReader_makeFilter_140 : decode b_PieceReader_makeFilter 140 = .ok (.iload_n 1, 1) := by decide +kernel
theorem d_PieceReader_makeFilter_141 : decode b_PieceReader_makeFilter 141 = .ok (.aload_n 2, 1) := by decide +kernel
theorem d_PieceReader_makeFilter_142 : decode b_PieceReader_makeFilter 142 = .ok (.aload_n 3, 1) := by decide +kernel
theorem d_PieceReader_makeFilter_143 : decode b_PieceReader_makeFilter 143 = .ok (.invokespecial 48, 3) := by decide +kernel
theorem d_PieceReader_makeFilter_146 : decode b_PieceReader_makeFilter 146 = .ok (.areturn, 1) := by decide +kernel
set_option maxHeartbeats 4000000 in
set_option maxRecDepth 100000 in
/-- makeFilter(bs) -/
theorem c_PieceReader_makeFilter (G : GG) (l : Launch) (sz : Nat) (f : Wd) {ra ta tr cap n : Nat} {t : Nat → Int32} {vfr ven vpi vli vnu vrj vsh vmf vme vnf vne : Int32} {bs : Int32} (h_bs : bs = 0 ∨ bs = 1) (hR : f ra = some (.inr (3, [.ref ta, .int vfr, .int ven, .int vpi, .int vli, .int vnu, .int vrj, .int vsh, .int vmf, .int vme, .int vnf, .int vne]))) (hT : sg G f ta tr cap n t) : Cq G l y_PieceReader_makeFilter b_PieceReader_makeFilter 8 (some (.object "StreamFilters$TextFilter")) ({ frames := 9, cells := 96, slots := 830, locals := 197 }) sz f [.ref ra, .int bs] (fun v f' => ∃ (a : Nat) (fr en pi li nu rj sh mf me nf ne : Int32) (lm : Nat → Int32), v = some a ∧ f' ra = some (.inr (3, [.ref ta, .int fr, .int en, .int pi, .int li, .int nu, .int rj, .int sh, .int mf, .int me, .int nf, .int ne])) ∧ hld f f' ra ∧ tf G (nw f f') a bs lm (clsU t n (npc t n)).length (Vt t n) (Sht t n) (Mt t n) ∧ ∀ k, k < 4 → lm k = lmU t n (npc t n) k) := by
  refine ct_of (by decide) (Nat.le_of_ble_eq_true rfl) ?_
  intro p e s m below meth c ls H locs hEn
  obtain ⟨hc, hr, hlk, hin, hE, hw, hsz, hl⟩ := hEn
  have hx := hc.1
  have hb := hc.2.1
  have hl : lv_has ls 8 [(0, .ref ra), (1, .int bs)] := hl
  have hn9 : n ≤ 90 := by have := hT.2.2.1; have := hT.2.2.2.1; omega
  have hnp := npc_le (t := t) n
  have hcl : (clsU t n (npc t n)).length ≤ 91 := by have := clsU_len t n (npc t n); omega
  have hold_f : hld f f ra := hld.rf
  refine lv_iconst (v := 4) hx hb d_PieceReader_makeFilter_0 (by decide) ?_
  refine m_newa hc hE hw (N' := 4) (a0 := (4, .inl (fun _ => 0))) ar_int rfl 0 rfl (fun _ => rfl) (by decide) (by decide) (by decide) (by first | decide | (dsimp only; omega)) (by first | decide | (dsimp only; omega)) d_PieceReader_makeFilter_1 (fun q1 H u2 hw => ?_)
  have fr_q1 : f q1 = none := hold_f.fresh hR u2
  obtain ⟨f3, ef3⟩ : ∃ z : Wd, z = va_up f q1 (some (.inl (G.2.1 0, 4, .inl (fun _ => 0)))) := ⟨_, rfl⟩
  replace hw : ms G.1 (Af f sz) f3 s H locs := by rw [ef3]; exact hw
  have n_ra_q1 : ra ≠ q1 := wnf hR u2
  have h4 : f3 ra = some (.inr (3, [.ref ta, .int vfr, .int ven, .int vpi, .int vli, .int vnu, .int vrj, .int vsh, .int vmf, .int vme, .int vnf, .int vne])) := by rw [ef3, va_up_ne _ _ n_ra_q1]; exact hR
  have n_ta_q1 : ta ≠ q1 := wnf hT.1 u2
  have h5 : f3 ta = some (.inr (1, [.ref tr, .int (nI n)])) := by rw [ef3, va_up_ne _ _ n_ta_q1]; exact hT.1
  have n_tr_q1 : tr ≠ q1 := wnf hT.2.1 u2
  have h6 : f3 tr = some (.inl (G.2.1 1, cap, .inl t)) := by rw [ef3, va_up_ne _ _ n_tr_q1]; exact hT.2.1
  have h7 : f3 q1 = some (.inl (G.2.1 0, 4, .inl (fun _ => 0))) := by rw [ef3, va_up_self]
  have hold_f3 : hld f f3 ra := by rw [ef3]; exact hold_f.new fr_q1
  refine lv_astore_n (lv' := [(2, .ref q1), (0, .ref ra), (1, .int bs)]) hx hb d_PieceReader_makeFilter_3 rfl hl (by decide) rfl (fun ls hl => ?_)
  refine lv_iconst (v := 0) hx hb d_PieceReader_makeFilter_4 (by decide) ?_
  refine lv_istore_n (lv' := [(3, .int 0), (2, .ref q1), (0, .ref ra), (1, .int bs)]) hx hb d_PieceReader_makeFilter_5 rfl hl (by decide) rfl (fun ls hl => ?_)
  refine lv_iload_n hx hb d_PieceReader_makeFilter_6 rfl (lv_at hl 0 rfl) ?_
  refine lv_iconst (v := 4) hx hb d_PieceReader_makeFilter_7 (by decide) ?_
  refine lv_icmp_ge (tgt := 22) hx hb d_PieceReader_makeFilter_8 (by decide) (fun z => absurd z (by decide)) (fun _ => ?_)
  refine lv_aload_n hx hb d_PieceReader_makeFilter_11 rfl (lv_at hl 1 rfl) ?_
  refine lv_iload_n hx hb d_PieceReader_makeFilter_12 rfl (lv_at hl 0 rfl) ?_
  refine lv_bipush (v := (-2)) hx hb d_PieceReader_makeFilter_13 (by decide) ?_
  refine m_iast hc hE hw 0 h7 rfl (by first | assumption | (unfold vp_in; decide) | exact vp_in_nI (by omega) (by omega)) d_PieceReader_makeFilter_15 (fun H locs hw => ?_)
  obtain ⟨f8, ef8⟩ : ∃ z : Wd, z = va_up f3 q1 (some (.inl (G.2.1 0, 4, .inl (upd (fun _ => 0) (0 : Int32).toNatClampNeg (-2))))) := ⟨_, rfl⟩
  replace hw : ms G.1 (Af f sz) f8 s H locs := by rw [ef8]; exact hw
  have h9 : f8 ra = some (.inr (3, [.ref ta, .int vfr, .int ven, .int vpi, .int vli, .int vnu, .int vrj, .int vsh, .int vmf, .int vme, .int vnf, .int vne])) := by rw [ef8, va_up_ne _ _ n_ra_q1]; exact h4
  have h10 : f8 ta = some (.inr (1, [.ref tr, .int (nI n)])) := by rw [ef8, va_up_ne _ _ n_ta_q1]; exact h5
  have h11 : f8 tr = some (.inl (G.2.1 1, cap, .inl t)) := by rw [ef8, va_up_ne _ _ n_tr_q1]; exact h6
  have h12 : f8 q1 = some (.inl (G.2.1 0, 4, .inl (upd (fun _ => 0) (0 : Int32).toNatClampNeg (-2)))) := by rw [ef8, va_up_self]
  have hold_f8 : hld f f8 ra := by rw [ef8]; exact hold_f3.new fr_q1
  refine lv_iinc (v := 1) (lv' := [(3, .int 1), (2, .ref q1), (0, .ref ra), (1, .int bs)]) hx hb d_PieceReader_makeFilter_16 hl (k := 0) rfl (by decide) (by decide) rfl (fun ls hl => ?_)
  refine lv_goto (tgt := 6) hx hb d_PieceReader_makeFilter_19 (by decide) ?_
  refine lv_iload_n hx hb d_PieceReader_makeFilter_6 rfl (lv_at hl 0 rfl) ?_
  refine lv_iconst (v := 4) hx hb d_PieceReader_makeFilter_7 (by decide) ?_
  refine lv_icmp_ge (tgt := 22) hx hb d_PieceReader_makeFilter_8 (by decide) (fun z => absurd z (by decide)) (fun _ => ?_)
  refine lv_aload_n hx hb d_PieceReader_makeFilter_11 rfl (lv_at hl 1 rfl) ?_
  refine lv_iload_n hx hb d_PieceReader_makeFilter_12 rfl (lv_at hl 0 rfl) ?_
  refine lv_bipush (v := (-2)) hx hb d_PieceReader_makeFilter_13 (by decide) ?_
  refine m_iast hc hE hw 0 h12 rfl (by first | assumption | (unfold vp_in; decide) | exact vp_in_nI (by omega) (by omega)) d_PieceReader_makeFilter_15 (fun H locs hw => ?_)
  obtain ⟨f13, ef13⟩ : ∃ z : Wd, z = va_up f8 q1 (some (.inl (G.2.1 0, 4, .inl (upd (upd (fun _ => 0) (0 : Int32).toNatClampNeg (-2)) (1 : Int32).toNatClampNeg (-2))))) := ⟨_, rfl⟩
  replace hw : ms G.1 (Af f sz) f13 s H locs := by rw [ef13]; exact hw
  have h14 : f13 ra = some (.inr (3, [.ref ta, .int vfr, .int ven, .int vpi, .int vli, .int vnu, .int vrj, .int vsh, .int vmf, .int vme, .int vnf, .int vne])) := by rw [ef13, va_up_ne _ _ n_ra_q1]; exact h9
  have h15 : f13 ta = some (.inr (1, [.ref tr, .int (nI n)])) := by rw [ef13, va_up_ne _ _ n_ta_q1]; exact h10
  have h16 : f13 tr = some (.inl (G.2.1 1, cap, .inl t)) := by rw [ef13, va_up_ne _ _ n_tr_q1]; exact h11
  have h17 : f13 q1 = some (.inl (G.2.1 0, 4, .inl (upd (upd (fun _ => 0) (0 : Int32).toNatClampNeg (-2)) (1 : Int32).toNatClampNeg (-2)))) := by rw [ef13, va_up_self]
  have hold_f13 : hld f f13 ra := by rw [ef13]; exact hold_f8.new fr_q1
  refine lv_iinc (v := 2) (lv' := [(3, .int 2), (2, .ref q1), (0, .ref ra), (1, .int bs)]) hx hb d_PieceReader_makeFilter_16 hl (k := 0) rfl (by decide) (by decide) rfl (fun ls hl => ?_)
  refine lv_goto (tgt := 6) hx hb d_PieceReader_makeFilter_19 (by decide) ?_
  refine lv_iload_n hx hb d_PieceReader_makeFilter_6 rfl (lv_at hl 0 rfl) ?_
  refine lv_iconst (v := 4) hx hb d_PieceReader_makeFilter_7 (by decide) ?_
  refine lv_icmp_ge (tgt := 22) hx hb d_PieceReader_makeFilter_8 (by decide) (fun z => absurd z (by decide)) (fun _ => ?_)
  refine lv_aload_n hx hb d_PieceReader_makeFilter_11 rfl (lv_at hl 1 rfl) ?_
  refine lv_iload_n hx hb d_PieceReader_makeFilter_12 rfl (lv_at hl 0 rfl) ?_
  refine lv_bipush (v := (-2)) hx hb d_PieceReader_makeFilter_13 (by decide) ?_
  refine m_iast hc hE hw 0 h17 rfl (by first | assumption | (unfold vp_in; decide) | exact vp_in_nI (by omega) (by omega)) d_PieceReader_makeFilter_15 (fun H locs hw => ?_)
  obtain ⟨f18, ef18⟩ : ∃ z : Wd, z = va_up f13 q1 (some (.inl (G.2.1 0, 4, .inl (upd (upd (upd (fun _ => 0) (0 : Int32).toNatClampNeg (-2)) (1 : Int32).toNatClampNeg (-2)) (2 : Int32).toNatClampNeg (-2))))) := ⟨_, rfl⟩
  replace hw : ms G.1 (Af f sz) f18 s H locs := by rw [ef18]; exact hw
  have h19 : f18 ra = some (.inr (3, [.ref ta, .int vfr, .int ven, .int vpi, .int vli, .int vnu, .int vrj, .int vsh, .int vmf, .int vme, .int vnf, .int vne])) := by rw [ef18, va_up_ne _ _ n_ra_q1]; exact h14
  have h20 : f18 ta = some (.inr (1, [.ref tr, .int (nI n)])) := by rw [ef18, va_up_ne _ _ n_ta_q1]; exact h15
  have h21 : f18 tr = some (.inl (G.2.1 1, cap, .inl t)) := by rw [ef18, va_up_ne _ _ n_tr_q1]; exact h16
  have h22 : f18 q1 = some (.inl (G.2.1 0, 4, .inl (upd (upd (upd (fun _ => 0) (0 : Int32).toNatClampNeg (-2)) (1 : Int32).toNatClampNeg (-2)) (2 : Int32).toNatClampNeg (-2)))) := by rw [ef18, va_up_self]
  have hold_f18 : hld f f18 ra := by rw [ef18]; exact hold_f13.new fr_q1
  refine lv_iinc (v := 3) (lv' := [(3, .int 3), (2, .ref q1), (0, .ref ra), (1, .int bs)]) hx hb d_PieceReader_makeFilter_16 hl (k := 0) rfl (by decide) (by decide) rfl (fun ls hl => ?_)
  refine lv_goto (tgt := 6) hx hb d_PieceReader_makeFilter_19 (by decide) ?_
  refine lv_iload_n hx hb d_PieceReader_makeFilter_6 rfl (lv_at hl 0 rfl) ?_
  refine lv_iconst (v := 4) hx hb d_PieceReader_makeFilter_7 (by decide) ?_
  refine lv_icmp_ge (tgt := 22) hx hb d_PieceReader_makeFilter_8 (by decide) (fun z => absurd z (by decide)) (fun _ => ?_)
  refine lv_aload_n hx hb d_PieceReader_makeFilter_11 rfl (lv_at hl 1 rfl) ?_
  refine lv_iload_n hx hb d_PieceReader_makeFilter_12 rfl (lv_at hl 0 rfl) ?_
  refine lv_bipush (v := (-2)) hx hb d_PieceReader_makeFilter_13 (by decide) ?_
  refine m_iast hc hE hw 0 h22 rfl (by first | assumption | (unfold vp_in; decide) | exact vp_in_nI (by omega) (by omega)) d_PieceReader_makeFilter_15 (fun H locs hw => ?_)
  obtain ⟨f23, ef23⟩ : ∃ z : Wd, z = va_up f18 q1 (some (.inl (G.2.1 0, 4, .inl (upd (upd (upd (upd (fun _ => 0) (0 : Int32).toNatClampNeg (-2)) (1 : Int32).toNatClampNeg (-2)) (2 : Int32).toNatClampNeg (-2)) (3 : Int32).toNatClampNeg (-2))))) := ⟨_, rfl⟩
  replace hw : ms G.1 (Af f sz) f23 s H locs := by rw [ef23]; exact hw
  have h24 : f23 ra = some (.inr (3, [.ref ta, .int vfr, .int ven, .int vpi, .int vli, .int vnu, .int vrj, .int vsh, .int vmf, .int vme, .int vnf, .int vne])) := by rw [ef23, va_up_ne _ _ n_ra_q1]; exact h19
  have h25 : f23 ta = some (.inr (1, [.ref tr, .int (nI n)])) := by rw [ef23, va_up_ne _ _ n_ta_q1]; exact h20
  have h26 : f23 tr = some (.inl (G.2.1 1, cap, .inl t)) := by rw [ef23, va_up_ne _ _ n_tr_q1]; exact h21
  have h27 : f23 q1 = some (.inl (G.2.1 0, 4, .inl (upd (upd (upd (upd (fun _ => 0) (0 : Int32).toNatClampNeg (-2)) (1 : Int32).toNatClampNeg (-2)) (2 : Int32).toNatClampNeg (-2)) (3 : Int32).toNatClampNeg (-2)))) := by rw [ef23, va_up_self]
  have hold_f23 : hld f f23 ra := by rw [ef23]; exact hold_f18.new fr_q1
  refine lv_iinc (v := 4) (lv' := [(3, .int 4), (2, .ref q1), (0, .ref ra), (1, .int bs)]) hx hb d_PieceReader_makeFilter_16 hl (k := 0) rfl (by decide) (by decide) rfl (fun ls hl => ?_)
  refine lv_goto (tgt := 6) hx hb d_PieceReader_makeFilter_19 (by decide) ?_
  refine lv_iload_n hx hb d_PieceReader_makeFilter_6 rfl (lv_at hl 0 rfl) ?_
  refine lv_iconst (v := 4) hx hb d_PieceReader_makeFilter_7 (by decide) ?_
  refine lv_icmp_ge (tgt := 22) hx hb d_PieceReader_makeFilter_8 (by decide) (fun _ => ?_) (fun z => absurd z (by decide))
  refine lv_aload_n hx hb d_PieceReader_makeFilter_22 rfl (lv_at hl 2 rfl) ?_
  refine m_calli hw (m_runV (As := []) (rest := []) hc hE hw (c_PieceReader_countClasses G l H.size f23 h24 ⟨h25, h26, hT.2.2⟩) h24 rfl cw_PieceReader_26 se_PieceReader_countClasses rfl hl.1 rfl (Nat.le_of_ble_eq_true rfl) d_PieceReader_makeFilter_23 ⟨rfl, rfl, by decide, by decide⟩ ⟨by first | decide | (dsimp only; omega), by first | decide | (dsimp only; omega)⟩) (fun r30 g29 H locs p28 hw => ?_)
  obtain ⟨fr1, en1, pi1, li1, nu1, rj1, sh1, mf1, me1, nf1, ne1, hfc, p28⟩ := p28
  subst p28
  have h31 : g29 ta = some (.inr (1, [.ref tr, .int (nI n)])) := by rw [hfc, va_up_ne _ _ (wne h25 h24 (wd_oo (by decide)))]; exact h25
  have h32 : g29 tr = some (.inl (G.2.1 1, cap, .inl t)) := by rw [hfc, va_up_ne _ _ (wne h26 h24 wd_ao)]; exact h26
  have h33 : g29 q1 = some (.inl (G.2.1 0, 4, .inl (upd (upd (upd (upd (fun _ => 0) (0 : Int32).toNatClampNeg (-2)) (1 : Int32).toNatClampNeg (-2)) (2 : Int32).toNatClampNeg (-2)) (3 : Int32).toNatClampNeg (-2)))) := by rw [hfc, va_up_ne _ _ (Ne.symm n_ra_q1)]; exact h27
  have h34 : g29 ra = some (.inr (3, [.ref ta, .int fr1, .int en1, .int pi1, .int li1, .int nu1, .int rj1, .int sh1, .int mf1, .int me1, .int nf1, .int ne1])) := by rw [hfc, va_up_self]
  have hold_g29 : hld f g29 ra := by rw [hfc]; exact hold_f23.at
  refine m_newq hc hE hw (N' := (clsU t n (npc t n)).length) cl_PieceReader_29 ao_ClassPattern 3 rfl (nI_pos (by omega)) (nI_clamp (by omega)) (by omega) (by first | decide | (dsimp only; omega)) (by first | decide | (dsimp only; omega)) d_PieceReader_makeFilter_26 (fun q35 H u36 hw => ?_)
  have fr_q35 : f q35 = none := hold_g29.fresh h34 u36
  obtain ⟨f37, ef37⟩ : ∃ z : Wd, z = va_up g29 q35 (some (.inl (G.2.1 3, (clsU t n (npc t n)).length, .inr (.inr (.inr (.inr (fun _ => none))))))) := ⟨_, rfl⟩
  replace hw : ms G.1 (Af f sz) f37 s H locs := by rw [ef37]; exact hw
  have n_ra_q35 : ra ≠ q35 := wnf h34 u36
  have h38 : f37 ra = some (.inr (3, [.ref ta, .int fr1, .int en1, .int pi1, .int li1, .int nu1, .int rj1, .int sh1, .int mf1, .int me1, .int nf1, .int ne1])) := by rw [ef37, va_up_ne _ _ n_ra_q35]; exact h34
  have n_ta_q35 : ta ≠ q35 := wnf h31 u36
  have h39 : f37 ta = some (.inr (1, [.ref tr, .int (nI n)])) := by rw [ef37, va_up_ne _ _ n_ta_q35]; exact h31
  have n_tr_q35 : tr ≠ q35 := wnf h32 u36
  have h40 : f37 tr = some (.inl (G.2.1 1, cap, .inl t)) := by rw [ef37, va_up_ne _ _ n_tr_q35]; exact h32
  have n_q1_q35 : q1 ≠ q35 := wnf h33 u36
  have h41 : f37 q1 = some (.inl (G.2.1 0, 4, .inl (upd (upd (upd (upd (fun _ => 0) (0 : Int32).toNatClampNeg (-2)) (1 : Int32).toNatClampNeg (-2)) (2 : Int32).toNatClampNeg (-2)) (3 : Int32).toNatClampNeg (-2)))) := by rw [ef37, va_up_ne _ _ n_q1_q35]; exact h33
  have h42 : f37 q35 = some (.inl (G.2.1 3, (clsU t n (npc t n)).length, .inr (.inr (.inr (.inr (fun _ => none)))))) := by rw [ef37, va_up_self]
  have hold_f37 : hld f f37 ra := by rw [ef37]; exact hold_g29.new fr_q35
  refine lv_astore_n (lv' := [(3, .ref q35), (2, .ref q1), (0, .ref ra), (1, .int bs)]) hx hb d_PieceReader_makeFilter_29 rfl hl (by decide) rfl (fun ls hl => ?_)
  refine lv_aload_n hx hb d_PieceReader_makeFilter_30 rfl (lv_at hl 2 rfl) ?_
  refine m_get hc hE hw h38 kc_PieceReader l_PieceReader_9_PieceReader rfl d_PieceReader_makeFilter_31 ?_
  refine m_callq hw (m_runV (As := []) (rest := []) hc hE hw (c_Signs_copy G l H.size f37 ⟨h39, h40, hT.2.2⟩) h39 rfl cw_PieceReader_31 se_Signs_copy rfl hl.1 rfl (Nat.le_of_ble_eq_true rfl) d_PieceReader_makeFilter_34 ⟨rfl, rfl, by decide, by decide⟩ ⟨by first | decide | (dsimp only; omega), by first | decide | (dsimp only; omega)⟩) (fun r45 g44 H locs p43 hw => ?_)
  obtain ⟨ka, kr, u, p43, hka, hkr, n_ka_kr, hfk, hu⟩ := p43
  subst p43
  have fr_ka : f ka = none := hold_f37.fresh h38 hka
  have fr_kr : f kr = none := hold_f37.fresh h38 hkr
  have n_ra_ka : ra ≠ ka := wnf h38 hka
  have n_ra_kr : ra ≠ kr := wnf h38 hkr
  have h46 : g44 ra = some (.inr (3, [.ref ta, .int fr1, .int en1, .int pi1, .int li1, .int nu1, .int rj1, .int sh1, .int mf1, .int me1, .int nf1, .int ne1])) := by rw [hfk, va_up_ne _ _ n_ra_ka, va_up_ne _ _ n_ra_kr]; exact h38
  have n_ta_ka : ta ≠ ka := wnf h39 hka
  have n_ta_kr : ta ≠ kr := wnf h39 hkr
  have h47 : g44 ta = some (.inr (1, [.ref tr, .int (nI n)])) := by rw [hfk, va_up_ne _ _ n_ta_ka, va_up_ne _ _ n_ta_kr]; exact h39
  have n_tr_ka : tr ≠ ka := wnf h40 hka
  have n_tr_kr : tr ≠ kr := wnf h40 hkr
  have h48 : g44 tr = some (.inl (G.2.1 1, cap, .inl t)) := by rw [hfk, va_up_ne _ _ n_tr_ka, va_up_ne _ _ n_tr_kr]; exact h40
  have n_q1_ka : q1 ≠ ka := wnf h41 hka
  have n_q1_kr : q1 ≠ kr := wnf h41 hkr
  have h49 : g44 q1 = some (.inl (G.2.1 0, 4, .inl (upd (upd (upd (upd (fun _ => 0) (0 : Int32).toNatClampNeg (-2)) (1 : Int32).toNatClampNeg (-2)) (2 : Int32).toNatClampNeg (-2)) (3 : Int32).toNatClampNeg (-2)))) := by rw [hfk, va_up_ne _ _ n_q1_ka, va_up_ne _ _ n_q1_kr]; exact h41
  have n_q35_ka : q35 ≠ ka := wnf h42 hka
  have n_q35_kr : q35 ≠ kr := wnf h42 hkr
  have h50 : g44 q35 = some (.inl (G.2.1 3, (clsU t n (npc t n)).length, .inr (.inr (.inr (.inr (fun _ => none)))))) := by rw [hfk, va_up_ne _ _ n_q35_ka, va_up_ne _ _ n_q35_kr]; exact h42
  have h51 : g44 kr = some (.inl (G.2.1 1, n, .inl u)) := by rw [hfk, va_up_ne _ _ (Ne.symm n_ka_kr), va_up_self]
  have h52 : g44 ka = some (.inr (1, [.ref kr, .int (nI n)])) := by rw [hfk, va_up_self]
  have hold_g44 : hld f g44 ra := by rw [hfk]; exact (hold_f37.new fr_kr).new fr_ka
  refine lv_astore (lv' := [(4, .ref ka), (3, .ref q35), (2, .ref q1), (0, .ref ra), (1, .int bs)]) hx hb d_PieceReader_makeFilter_37 hl (by decide) rfl (fun ls hl => ?_)
  refine lv_iconst (v := 0) hx hb d_PieceReader_makeFilter_39 (by decide) ?_
  refine lv_istore (lv' := [(5, .int 0), (4, .ref ka), (3, .ref q35), (2, .ref q1), (0, .ref ra), (1, .int bs)]) hx hb d_PieceReader_makeFilter_40 hl (by decide) rfl (fun ls hl => ?_)
  refine lv_aload_n hx hb d_PieceReader_makeFilter_42 rfl (lv_at hl 4 rfl) ?_
  refine m_calli hw (m_runV (As := []) (rest := []) hc hE hw (c_PieceReader_startOver G l H.size g44 h46 ⟨h47, h48, hT.2.2⟩) h46 rfl cw_PieceReader_15 se_PieceReader_startOver rfl hl.1 rfl (Nat.le_of_ble_eq_true rfl) d_PieceReader_makeFilter_43 ⟨rfl, rfl, by decide, by decide⟩ ⟨by first | decide | (dsimp only; omega), by first | decide | (dsimp only; omega)⟩) (fun r55 g54 H locs p53 hw => ?_)
  obtain ⟨hfs, p53⟩ := p53
  subst p53
  have h56 : g54 ta = some (.inr (1, [.ref tr, .int (nI n)])) := by rw [hfs, va_up_ne _ _ (wne h47 h46 (wd_oo (by decide)))]; exact h47
  have h57 : g54 tr = some (.inl (G.2.1 1, cap, .inl t)) := by rw [hfs, va_up_ne _ _ (wne h48 h46 wd_ao)]; exact h48
  have h58 : g54 q1 = some (.inl (G.2.1 0, 4, .inl (upd (upd (upd (upd (fun _ => 0) (0 : Int32).toNatClampNeg (-2)) (1 : Int32).toNatClampNeg (-2)) (2 : Int32).toNatClampNeg (-2)) (3 : Int32).toNatClampNeg (-2)))) := by rw [hfs, va_up_ne _ _ (Ne.symm n_ra_q1)]; exact h49
  have h59 : g54 q35 = some (.inl (G.2.1 3, (clsU t n (npc t n)).length, .inr (.inr (.inr (.inr (fun _ => none)))))) := by rw [hfs, va_up_ne _ _ (Ne.symm n_ra_q35)]; exact h50
  have h60 : g54 kr = some (.inl (G.2.1 1, n, .inl u)) := by rw [hfs, va_up_ne _ _ (Ne.symm n_ra_kr)]; exact h51
  have h61 : g54 ka = some (.inr (1, [.ref kr, .int (nI n)])) := by rw [hfs, va_up_ne _ _ (Ne.symm n_ra_ka)]; exact h52
  have h62 : g54 ra = some (.inr (3, [.ref ta, .int fr1, .int (-1), .int pi1, .int li1, .int nu1, .int rj1, .int sh1, .int mf1, .int me1, .int nf1, .int ne1])) := by rw [hfs, va_up_self]
  have hold_g54 : hld f g54 ra := by rw [hfs]; exact hold_g44.at
  refine lv_istore (lv' := [(6, .int (nI (npc t n))), (5, .int 0), (4, .ref ka), (3, .ref q35), (2, .ref q1), (0, .ref ra), (1, .int bs)]) hx hb d_PieceReader_makeFilter_46 hl (by decide) rfl (fun ls hl => ?_)
  refine lv_iconst (v := 0) hx hb d_PieceReader_makeFilter_48 (by decide) ?_
  refine lv_istore (lv' := [(7, .int 0), (6, .int (nI (npc t n))), (5, .int 0), (4, .ref ka), (3, .ref q35), (2, .ref q1), (0, .ref ra), (1, .int bs)]) hx hb d_PieceReader_makeFilter_49 hl (by decide) rfl (fun ls hl => ?_)
  have hRg0 := Rg3 h62 h58 h59 n_ra_q1 n_ra_q35 n_q1_q35
  have hBta : but3 g54 ra q1 q35 ta = some (.inr (1, [.ref tr, .int (nI n)])) := but3_of h56 (wne h56 h62 (wd_oo (by decide))) n_ta_q1 n_ta_q35
  have hBtr : but3 g54 ra q1 q35 tr = some (.inl (G.2.1 1, cap, .inl t)) := but3_of h57 (wne h57 h62 wd_ao) n_tr_q1 n_tr_q35
  have hBka : but3 g54 ra q1 q35 ka = some (.inr (1, [.ref kr, .int (nI n)])) := but3_of h61 (Ne.symm n_ra_ka) (Ne.symm n_q1_ka) (Ne.symm n_q35_ka)
  have hBkr : but3 g54 ra q1 q35 kr = some (.inl (G.2.1 1, n, .inl u)) := but3_of h60 (Ne.symm n_ra_kr) (Ne.symm n_q1_kr) (Ne.symm n_q35_kr)
  have hlm0 : ∀ k, k < 4 → (upd (upd (upd (upd (fun _ => 0) (0 : Int32).toNatClampNeg (-2)) (1 : Int32).toNatClampNeg (-2)) (2 : Int32).toNatClampNeg (-2)) (3 : Int32).toNatClampNeg (-2)) k = (-2 : Int32) := by decide
  refine W.widen (k := 4) (n := 187) (by first | decide | (dsimp only; omega)) (by first | decide | (dsimp only; omega)) ?_
  have loop : ∀ (fu : Nat) (i : Nat) (fw gg : Wd) (lm : Nat → Int32) (pf : Nat → Option Nat) (fr en pi li nu rj sh mf me nf ne : Int32) (cs ss : Nat) (ls : Array Slot) (H : Heap) (locs : List Loc), npc t n - i < fu → i ≤ npc t n → Rg 3 (ad3 ra q1 q35) (E3 (.inr (3, [.ref ta, .int fr, .int en, .int pi, .int li, .int nu, .int rj, .int sh, .int mf, .int me, .int nf, .int ne])) (.inl (G.2.1 0, 4, .inl lm)) (.inl (G.2.1 3, (clsU t n (npc t n)).length, .inr (.inr (.inr (.inr pf)))))) gg fw → gle (but3 g54 ra q1 q35) gg → hld f fw ra → (i < npc t n → en + 1 = nI (pst t n i)) → (∀ k, k < 4 → lm k = lmU t n i k) → (∀ j, j < (clsU t n i).length → ∃ pk0, pf j = some pk0 ∧ f pk0 = none ∧ gg pk0 = some (.inr (4, pcl t n ka ((clsU t n i).getD j 0)))) → cs ≤ 4 + i ∧ ss ≤ 187 + 7 * i → ms G.1 (Af f sz) fw s H locs → lv_has ls 8 [(7, .int (nI i)), (6, .int (nI (npc t n))), (5, .int (nI (clsU t n i).length)), (4, .ref ka), (3, .ref q35), (2, .ref q1), (0, .ref ra), (1, .int bs)] → W p l e ({ frames := 9, cells := 96, slots := 830, locals := 197 }) s m ([.ref ra, .int bs] : List Value).toArray below meth c H locs cs ss (MQ below (va_Qq (fun v f' => ∃ (a : Nat) (fr en pi li nu rj sh mf me nf ne : Int32) (lm : Nat → Int32), v = some a ∧ f' ra = some (.inr (3, [.ref ta, .int fr, .int en, .int pi, .int li, .int nu, .int rj, .int sh, .int mf, .int me, .int nf, .int ne])) ∧ hld f f' ra ∧ tf G (nw f f') a bs lm (clsU t n (npc t n)).length (Vt t n) (Sht t n) (Mt t n) ∧ ∀ k, k < 4 → lm k = lmU t n (npc t n) k) (Bw G f sz) (Af f sz)) ([.ref ra, .int bs] : List Value).toArray s 96 830 (Af f sz)) (F0 m 51 ls []) := by
    intro fu
    induction fu with
    | zero => intro i fw gg lm pf fr en pi li nu rj sh mf me nf ne cs ss ls H locs h0; exact absurd h0 (Nat.not_lt_zero _)
    | succ fu ih =>
      intro i fw gg lm pf fr en pi li nu rj sh mf me nf ne cs ss ls H locs hfu hi hRg hgg hold hen hlm hpf hcs hw hl
      refine lv_iload hx hb d_PieceReader_makeFilter_51 (lv_at hl 0 rfl) ?_
      refine lv_iload hx hb d_PieceReader_makeFilter_53 (lv_at hl 1 rfl) ?_
      refine lv_icmp_ge (tgt := 136) hx hb d_PieceReader_makeFilter_55 (by decide) (fun c63 => ?_) (fun c63 => ?_)
      · have hin2 : i = npc t n := by have := (nI_leI (by omega) (by omega)).mp c63; omega
        subst hin2
        refine m_new hc hE hw (fs := [.int 0, .int 0, .int 0, .int 0, .null, .null]) kc_TextFilter nw_PieceReader_46 bl_TextFilter (by first | decide | (dsimp only; omega)) (by first | decide | (dsimp only; omega)) d_PieceReader_makeFilter_136 (fun q64 H u65 hw => ?_)
        have fr_q64 : f q64 = none := hold.fresh (hRg.get 0 (by decide) rfl) u65
        have gn_q64 : gg q64 = none := hRg.non u65
        obtain ⟨f66, ef66⟩ : ∃ z : Wd, z = va_up fw q64 (some (.inr (5, [.int 0, .int 0, .int 0, .int 0, .null, .null]))) := ⟨_, rfl⟩
        replace hw : ms G.1 (Af f sz) f66 s H locs := by rw [ef66]; exact hw
        have hRg67 : Rg 3 (ad3 ra q1 q35) (E3 (.inr (3, [.ref ta, .int fr, .int en, .int pi, .int li, .int nu, .int rj, .int sh, .int mf, .int me, .int nf, .int ne])) (.inl (G.2.1 0, 4, .inl lm)) (.inl (G.2.1 3, (clsU t n (npc t n)).length, .inr (.inr (.inr (.inr pf)))))) (va_up gg q64 (some (.inr (5, [.int 0, .int 0, .int 0, .int 0, .null, .null])))) f66 := by rw [ef66]; exact hRg.new _ u65
        have hold68 : hld f f66 ra := by rw [ef66]; exact hold.new fr_q64
        have hgx_q64 : (va_up gg q64 (some (.inr (5, [.int 0, .int 0, .int 0, .int 0, .null, .null])))) q64 = some (.inr (5, [.int 0, .int 0, .int 0, .int 0, .null, .null])) := va_up_self _ _ _
        refine lv_dup hx hb d_PieceReader_makeFilter_139 rfl ?_
        refine lv_iload_n hx hb d_PieceReader_makeFilter_140 rfl (lv_at hl 7 rfl) ?_
        refine lv_aload_n hx hb d_PieceReader_makeFilter_141 rfl (lv_at hl 5 rfl) ?_
        refine lv_aload_n hx hb d_PieceReader_makeFilter_142 rfl (lv_at hl 4 rfl) ?_
        refine m_callv hw (m_runI (As := [.int bs, .ref q1, .ref q35]) (rest := [.ref q64]) hc hE hw (c_TextFilter_init G l H.size f66 (hRg67.2.2.1 _ _ hgx_q64) h_bs q1 q35) cw_PieceReader_48 ⟨rfl, si_TextFilter_init⟩ rfl hl.1 rfl (Nat.le_of_ble_eq_true rfl) d_PieceReader_makeFilter_143 ⟨rfl, rfl, by decide, by decide⟩ ⟨by first | decide | (dsimp only; omega), by first | decide | (dsimp only; omega)⟩) (fun g70 H locs p69 hw => ?_)
        have hRg71 : Rg 3 (ad3 ra q1 q35) (E3 (.inr (3, [.ref ta, .int fr, .int en, .int pi, .int li, .int nu, .int rj, .int sh, .int mf, .int me, .int nf, .int ne])) (.inl (G.2.1 0, 4, .inl lm)) (.inl (G.2.1 3, (clsU t n (npc t n)).length, .inr (.inr (.inr (.inr pf)))))) (va_up (va_up gg q64 (some (.inr (5, [.int 0, .int 0, .int 0, .int 0, .null, .null])))) q64 (some (.inr (5, [.int 1, .int 1, .int 1, .int bs, .ref q1, .ref q35])))) g70 := by rw [p69]; exact hRg67.upG _ hgx_q64
        have hold72 : hld f g70 ra := by rw [p69]; exact hold68.new fr_q64
        have hgx : gle gg g70 := fun x y hx => hRg71.2.2.1 x y (by rw [up_uu]; exact gle.up gn_q64 x y hx)
        have hka2 := hgx _ _ (hgg _ _ hBka)
        have hkr2 := hgx _ _ (hgg _ _ hBkr)
        have hf9 : tf G (nw f g70) q64 bs lm (clsU t n (npc t n)).length (Vt t n) (Sht t n) (Mt t n) := by
          refine ⟨q1, q35, pf, nw_of fr_q64 (hRg71.2.2.1 _ _ (va_up_self _ _ _)), nw_of fr_q1 (hRg71.get 1 (by decide) rfl), nw_of fr_q35 (hRg71.get 2 (by decide) rfl), hcl, h_bs, fun j hj => ?_⟩
          obtain ⟨pk0, a1, a2, a3⟩ := hpf j hj
          obtain ⟨hcm, hcp⟩ := clsU_mem (t := t) (n := n) _ j hj
          have hps := pst_in (t := t) _ hcm
          have hpx := pnx_in (t := t) hps.1
          have hae : pst t n ((clsU t n (npc t n)).getD j 0) < pnx t n (pst t n ((clsU t n (npc t n)).getD j 0)) := by
            rcases Nat.lt_or_ge (pst t n ((clsU t n (npc t n)).getD j 0)) (pnx t n (pst t n ((clsU t n (npc t n)).getD j 0))) with z | z
            · exact z
            · have : pk t n ((clsU t n (npc t n)).getD j 0) = 0 := pif_t (by omega)
              omega
          have hq0 := q0c_in (t := t) hae
          have hm0 := m0c_in (t := t) hae
          have hnm := nmE_in (t := t) hq0.2.1
          refine ⟨pk0, ka, kr, n, n, u, _, _, _, _, _, _, a1, ⟨nw_of a2 (hgx _ _ a3), ⟨nw_of fr_ka hka2, nw_of fr_kr hkr2, Nat.le_refl _, hn9, fun j2 q2 => by rw [hu j2 q2]; exact hT.2.2.2.2 j2 q2⟩, hq0.2.2.1, by omega, hnm.1, by omega, shp_in _ _ _⟩, rfl, rfl, fun nn nt mn mt => (mat_congr hu hq0.2.2.1 (by omega) hnm.1 (by omega)).symm⟩
        exact m_aret (r := (some q64)) hc hr hlk hw ⟨by first | decide | (dsimp only; omega), by first | decide | (dsimp only; omega)⟩ d_PieceReader_makeFilter_146 ⟨q64, _, _, _, _, _, _, _, _, _, _, _, lm, rfl, hRg71.get 0 (by decide) rfl, hold72, hf9, hlm⟩
      · refine lv_aload_n hx hb d_PieceReader_makeFilter_58 rfl (lv_at hl 6 rfl) ?_
        have hlt : i < npc t n := Nat.not_le.mp (fun z => c63 (nI_le z (by omega)))
        have hps := pst_in (t := t) i hlt
        refine m_callv hw (m_runV (As := []) (rest := []) hc hE hw (c_PieceReader_readNext G l H.size fw (hRg.get 0 (by decide) rfl) ⟨hRg.2.2.1 _ _ (hgg _ _ hBta), hRg.2.2.1 _ _ (hgg _ _ hBtr), hT.2.2⟩ (a := pst t n i) (hen hlt) hps.1) (hRg.get 0 (by decide) rfl) rfl cw_PieceReader_19 se_PieceReader_readNext rfl hl.1 rfl (Nat.le_of_ble_eq_true rfl) d_PieceReader_makeFilter_59 ⟨rfl, rfl, by decide, by decide⟩ ⟨by first | decide | (dsimp only; omega), by first | decide | (dsimp only; omega)⟩) (fun g74 H locs p73 hw => ?_)
        obtain ⟨li2, nu2, rj2, sh2, mf2, me2, nf2, ne2, hfe, hp1, hp2⟩ := p73
        have hRg75 : Rg 3 (ad3 ra q1 q35) (E3 (.inr (3, [.ref ta, .int (nI (pst t n i)), .int (nI (pnx t n (pst t n i))), .int (nI (pk t n i)), .int li2, .int nu2, .int rj2, .int sh2, .int mf2, .int me2, .int nf2, .int ne2])) (.inl (G.2.1 0, 4, .inl lm)) (.inl (G.2.1 3, (clsU t n (npc t n)).length, .inr (.inr (.inr (.inr pf)))))) gg g74 := by rw [hfe]; exact (hRg.up 0 (by decide) _).E (fun k hk => by rcases (show k = 0 ∨ k = 1 ∨ k = 2 by omega) with rfl | rfl | rfl <;> rfl)
        have hold76 : hld f g74 ra := by rw [hfe]; exact hold.at
        have hnx : nI (pnx t n (pst t n i)) + 1 = nI (pst t n (i + 1)) := nI_1 _
        have hpk3 : pk t n i ≤ 3 := pkd_in t _ _
        refine lv_aload_n hx hb d_PieceReader_makeFilter_62 rfl (lv_at hl 6 rfl) ?_
        refine m_get hc hE hw (hRg75.get 0 (by decide) rfl) kc_PieceReader l_PieceReader_22_PieceReader rfl d_PieceReader_makeFilter_63 ?_
        refine lv_iconst (v := 1) hx hb d_PieceReader_makeFilter_66 (by decide) ?_
        refine lv_icmp_ne (tgt := 98) hx hb d_PieceReader_makeFilter_67 (by decide) (fun c77 => ?_) (fun c77 => ?_)
        · have hp_1 : ¬ pk t n i = 1 := fun z => c77 (by rw [z]; rfl)
          refine lv_aload_n hx hb d_PieceReader_makeFilter_98 rfl (lv_at hl 6 rfl) ?_
          refine m_get hc hE hw (hRg75.get 0 (by decide) rfl) kc_PieceReader l_PieceReader_22_PieceReader rfl d_PieceReader_makeFilter_99 ?_
          refine lv_iconst (v := 2) hx hb d_PieceReader_makeFilter_102 (by decide) ?_
          refine lv_icmp_ne (tgt := 130) hx hb d_PieceReader_makeFilter_103 (by decide) (fun c78 => ?_) (fun c78 => ?_)
          · refine lv_iinc (v := (nI (i + 1))) (lv' := [(7, .int (nI (i + 1))), (6, .int (nI (npc t n))), (5, .int (nI (clsU t n i).length)), (4, .ref ka), (3, .ref q35), (2, .ref q1), (0, .ref ra), (1, .int bs)]) hx hb d_PieceReader_makeFilter_130 hl (k := 0) rfl (nI_1 _) (by decide) rfl (fun ls hl => ?_)
            refine lv_goto (tgt := 51) hx hb d_PieceReader_makeFilter_133 (by decide) ?_
            have hpk : ¬ pk t n i = 2 := fun z => c78 (by rw [z]; rfl)
            have hcu : clsU t n (i + 1) = clsU t n i := pif_f hpk
            refine ih (i + 1) g74 gg _ _ _ _ _ _ _ _ _ _ _ _ _ cs ss ls H locs (by omega) (by omega) hRg75 hgg hold76 (fun _ => hnx) (fun k hk => ?_) (fun j hj => ?_) ⟨by first | omega | (dsimp only; omega), by first | omega | (dsimp only; omega)⟩ hw (by rw [hcu]; exact (lv_sub hl [0, 1, 2, 3, 4, 5, 6, 7] rfl))
            · exact (hlm k hk).trans (pif_f (fun z => hp_1 z.1)).symm
            · rw [hcu] at hj ⊢; exact hpf j hj
          · refine lv_iload hx hb d_PieceReader_makeFilter_106 (lv_at hl 2 rfl) ?_
            refine lv_aload_n hx hb d_PieceReader_makeFilter_108 rfl (lv_at hl 4 rfl) ?_
            refine m_alen hc hE hw 3 (hRg75.get 2 (by decide) rfl) rfl d_PieceReader_makeFilter_109 ?_
            refine lv_icmp_ge (tgt := 130) hx hb d_PieceReader_makeFilter_110 (by decide) (fun c79 => ?_) (fun c79 => ?_)
            · have hpk : pk t n i = 2 := (nI_eq (b := 2) (by omega) (by decide)).mp c78
              have hc1 : (clsU t n (i + 1)).length = (clsU t n i).length + 1 := (congrArg List.length (pif_t hpk)).trans (by rw [List.length_append]; rfl)
              have hc2 := clsU_lenle (t := t) (n := n) (i + 1) (npc t n - (i + 1))
              rw [show i + 1 + (npc t n - (i + 1)) = npc t n by omega] at hc2
              exact absurd ((nI_leI (by omega) (by omega)).mp c79) (by omega)
            · refine lv_aload_n hx hb d_PieceReader_makeFilter_113 rfl (lv_at hl 4 rfl) ?_
              refine lv_iload hx hb d_PieceReader_makeFilter_114 (lv_at hl 2 rfl) ?_
              have hpk : pk t n i = 2 := (nI_eq (b := 2) (by omega) (by decide)).mp c78
              obtain ⟨hrj, hsh, hmf, hme, hnf, hne⟩ := hp2 hpk
              subst hrj hsh hmf hme hnf hne
              have hcli := clsU_len t n i
              have hmlt : (clsU t n i).length < (clsU t n (npc t n)).length := Nat.not_le.mp (fun z => c79 (nI_le z (by omega)))
              refine m_new hc hE hw (fs := [.null, .int 0, .int 0, .int 0, .int 0, .int 0, .int 0]) kc_ClassPattern nw_PieceReader_29 bl_ClassPattern (by first | decide | (dsimp only; omega)) (by first | decide | (dsimp only; omega)) d_PieceReader_makeFilter_116 (fun q80 H u81 hw => ?_)
              have fr_q80 : f q80 = none := hold76.fresh (hRg75.get 0 (by decide) rfl) u81
              have gn_q80 : gg q80 = none := hRg75.non u81
              obtain ⟨f82, ef82⟩ : ∃ z : Wd, z = va_up g74 q80 (some (.inr (4, [.null, .int 0, .int 0, .int 0, .int 0, .int 0, .int 0]))) := ⟨_, rfl⟩
              replace hw : ms G.1 (Af f sz) f82 s H locs := by rw [ef82]; exact hw
              have hRg83 : Rg 3 (ad3 ra q1 q35) (E3 (.inr (3, [.ref ta, .int (nI (pst t n i)), .int (nI (pnx t n (pst t n i))), .int (nI (pk t n i)), .int li2, .int nu2, .int (bI (t (pst t n i) = 33)), .int (nI (shp t (q0c t (pst t n i) (pnx t n (pst t n i))) (pnx t n (pst t n i)))), .int (nI (m0c t (pst t n i))), .int (nI (m1c t (pst t n i) (pnx t n (pst t n i)))), .int (nI (q0c t (pst t n i) (pnx t n (pst t n i)))), .int (nI (nmE t (q0c t (pst t n i) (pnx t n (pst t n i))) (pnx t n (pst t n i))))])) (.inl (G.2.1 0, 4, .inl lm)) (.inl (G.2.1 3, (clsU t n (npc t n)).length, .inr (.inr (.inr (.inr pf)))))) (va_up gg q80 (some (.inr (4, [.null, .int 0, .int 0, .int 0, .int 0, .int 0, .int 0])))) f82 := by rw [ef82]; exact hRg75.new _ u81
              have hold84 : hld f f82 ra := by rw [ef82]; exact hold76.new fr_q80
              have hgx_q80 : (va_up gg q80 (some (.inr (4, [.null, .int 0, .int 0, .int 0, .int 0, .int 0, .int 0])))) q80 = some (.inr (4, [.null, .int 0, .int 0, .int 0, .int 0, .int 0, .int 0])) := va_up_self _ _ _
              refine lv_dup hx hb d_PieceReader_makeFilter_119 rfl ?_
              refine lv_aload hx hb d_PieceReader_makeFilter_120 (lv_at hl 3 rfl) ?_
              refine lv_aload_n hx hb d_PieceReader_makeFilter_122 rfl (lv_at hl 6 rfl) ?_
              refine m_callv hw (m_runI (As := [.ref ka, .ref ra]) (rest := [.ref q80, .int (nI (clsU t n i).length), .ref q35]) hc hE hw (c_ClassPattern_init G l H.size f82 (hRg83.2.2.1 _ _ hgx_q80) (hRg83.get 0 (by decide) rfl) ka) cw_PieceReader_43 ⟨rfl, si_ClassPattern_init⟩ rfl hl.1 rfl (Nat.le_of_ble_eq_true rfl) d_PieceReader_makeFilter_123 ⟨rfl, rfl, by decide, by decide⟩ ⟨by first | decide | (dsimp only; omega), by first | decide | (dsimp only; omega)⟩) (fun g86 H locs p85 hw => ?_)
              have hRg87 : Rg 3 (ad3 ra q1 q35) (E3 (.inr (3, [.ref ta, .int (nI (pst t n i)), .int (nI (pnx t n (pst t n i))), .int (nI (pk t n i)), .int li2, .int nu2, .int (bI (t (pst t n i) = 33)), .int (nI (shp t (q0c t (pst t n i) (pnx t n (pst t n i))) (pnx t n (pst t n i)))), .int (nI (m0c t (pst t n i))), .int (nI (m1c t (pst t n i) (pnx t n (pst t n i)))), .int (nI (q0c t (pst t n i) (pnx t n (pst t n i)))), .int (nI (nmE t (q0c t (pst t n i) (pnx t n (pst t n i))) (pnx t n (pst t n i))))])) (.inl (G.2.1 0, 4, .inl lm)) (.inl (G.2.1 3, (clsU t n (npc t n)).length, .inr (.inr (.inr (.inr pf)))))) (va_up (va_up gg q80 (some (.inr (4, [.null, .int 0, .int 0, .int 0, .int 0, .int 0, .int 0])))) q80 (some (.inr (4, [.ref ka, .int (bI (t (pst t n i) = 33)), .int (nI (shp t (q0c t (pst t n i) (pnx t n (pst t n i))) (pnx t n (pst t n i)))), .int (nI (m0c t (pst t n i))), .int (nI (m1c t (pst t n i) (pnx t n (pst t n i)))), .int (nI (q0c t (pst t n i) (pnx t n (pst t n i)))), .int (nI (nmE t (q0c t (pst t n i) (pnx t n (pst t n i))) (pnx t n (pst t n i))))])))) g86 := by rw [p85]; exact hRg83.upG _ hgx_q80
              have hold88 : hld f g86 ra := by rw [p85]; exact hold84.new fr_q80
              have hgy_q80 : (va_up (va_up gg q80 (some (.inr (4, [.null, .int 0, .int 0, .int 0, .int 0, .int 0, .int 0])))) q80 (some (.inr (4, [.ref ka, .int (bI (t (pst t n i) = 33)), .int (nI (shp t (q0c t (pst t n i) (pnx t n (pst t n i))) (pnx t n (pst t n i)))), .int (nI (m0c t (pst t n i))), .int (nI (m1c t (pst t n i) (pnx t n (pst t n i)))), .int (nI (q0c t (pst t n i) (pnx t n (pst t n i)))), .int (nI (nmE t (q0c t (pst t n i) (pnx t n (pst t n i))) (pnx t n (pst t n i))))])))) q80 = some (.inr (4, [.ref ka, .int (bI (t (pst t n i) = 33)), .int (nI (shp t (q0c t (pst t n i) (pnx t n (pst t n i))) (pnx t n (pst t n i)))), .int (nI (m0c t (pst t n i))), .int (nI (m1c t (pst t n i) (pnx t n (pst t n i)))), .int (nI (q0c t (pst t n i) (pnx t n (pst t n i)))), .int (nI (nmE t (q0c t (pst t n i) (pnx t n (pst t n i))) (pnx t n (pst t n i))))])) := va_up_self _ _ _
              refine m_aast hc hE hw 3 (hRg87.get 2 (by decide) rfl) rfl (hRg87.2.2.1 _ _ hgy_q80) rfl (Or.inl rfl) (vp_in_nI hmlt (by omega)) d_PieceReader_makeFilter_126 (fun H locs hw => ?_)
              obtain ⟨f89, ef89⟩ : ∃ z : Wd, z = va_up g86 q35 (some (.inl (G.2.1 3, (clsU t n (npc t n)).length, .inr (.inr (.inr (.inr (va_up pf (nI (clsU t n i).length).toNatClampNeg (some q80)))))))) := ⟨_, rfl⟩
              replace hw : ms G.1 (Af f sz) f89 s H locs := by rw [ef89]; exact hw
              have hRg90 : Rg 3 (ad3 ra q1 q35) (E3 (.inr (3, [.ref ta, .int (nI (pst t n i)), .int (nI (pnx t n (pst t n i))), .int (nI (pk t n i)), .int li2, .int nu2, .int (bI (t (pst t n i) = 33)), .int (nI (shp t (q0c t (pst t n i) (pnx t n (pst t n i))) (pnx t n (pst t n i)))), .int (nI (m0c t (pst t n i))), .int (nI (m1c t (pst t n i) (pnx t n (pst t n i)))), .int (nI (q0c t (pst t n i) (pnx t n (pst t n i)))), .int (nI (nmE t (q0c t (pst t n i) (pnx t n (pst t n i))) (pnx t n (pst t n i))))])) (.inl (G.2.1 0, 4, .inl lm)) (.inl (G.2.1 3, (clsU t n (npc t n)).length, .inr (.inr (.inr (.inr (va_up pf (nI (clsU t n i).length).toNatClampNeg (some q80)))))))) (va_up (va_up gg q80 (some (.inr (4, [.null, .int 0, .int 0, .int 0, .int 0, .int 0, .int 0])))) q80 (some (.inr (4, [.ref ka, .int (bI (t (pst t n i) = 33)), .int (nI (shp t (q0c t (pst t n i) (pnx t n (pst t n i))) (pnx t n (pst t n i)))), .int (nI (m0c t (pst t n i))), .int (nI (m1c t (pst t n i) (pnx t n (pst t n i)))), .int (nI (q0c t (pst t n i) (pnx t n (pst t n i)))), .int (nI (nmE t (q0c t (pst t n i) (pnx t n (pst t n i))) (pnx t n (pst t n i))))])))) f89 := by rw [ef89]; exact (hRg87.up 2 (by decide) _).E (fun k hk => by rcases (show k = 0 ∨ k = 1 ∨ k = 2 by omega) with rfl | rfl | rfl <;> rfl)
              have hold91 : hld f f89 ra := by rw [ef89]; exact hold88.new fr_q35
              refine lv_iinc (v := (nI ((clsU t n i).length + 1))) (lv' := [(5, .int (nI ((clsU t n i).length + 1))), (7, .int (nI i)), (6, .int (nI (npc t n))), (4, .ref ka), (3, .ref q35), (2, .ref q1), (0, .ref ra), (1, .int bs)]) hx hb d_PieceReader_makeFilter_127 hl (k := 2) rfl (nI_1 _) (by decide) rfl (fun ls hl => ?_)
              refine lv_iinc (v := (nI (i + 1))) (lv' := [(7, .int (nI (i + 1))), (5, .int (nI ((clsU t n i).length + 1))), (6, .int (nI (npc t n))), (4, .ref ka), (3, .ref q35), (2, .ref q1), (0, .ref ra), (1, .int bs)]) hx hb d_PieceReader_makeFilter_130 hl (k := 1) rfl (nI_1 _) (by decide) rfl (fun ls hl => ?_)
              refine lv_goto (tgt := 51) hx hb d_PieceReader_makeFilter_133 (by decide) ?_
              have hcu : clsU t n (i + 1) = clsU t n i ++ [i] := pif_t hpk
              have hcl2 : (clsU t n (i + 1)).length = (clsU t n i).length + 1 := by rw [hcu, List.length_append]; rfl
              refine ih (i + 1) f89 (va_up (va_up gg q80 (some (.inr (4, [.null, .int 0, .int 0, .int 0, .int 0, .int 0, .int 0])))) q80 (some (.inr (4, [.ref ka, .int (bI (t (pst t n i) = 33)), .int (nI (shp t (q0c t (pst t n i) (pnx t n (pst t n i))) (pnx t n (pst t n i)))), .int (nI (m0c t (pst t n i))), .int (nI (m1c t (pst t n i) (pnx t n (pst t n i)))), .int (nI (q0c t (pst t n i) (pnx t n (pst t n i)))), .int (nI (nmE t (q0c t (pst t n i) (pnx t n (pst t n i))) (pnx t n (pst t n i))))])))) _ _ _ _ _ _ _ _ _ _ _ _ _ _ _ ls H locs (by omega) (by omega) hRg90 (hgg.tr (fun x y hx => by rw [up_uu]; exact gle.up gn_q80 x y hx)) hold91 (fun _ => hnx) (fun k hk => ?_) (fun j hj => ?_) ⟨by dsimp only; omega, by dsimp only; omega⟩ hw (by rw [hcl2]; exact (lv_sub hl [0, 2, 1, 3, 4, 5, 6, 7] rfl))
              · exact (hlm k hk).trans (pif_f (fun z => hp_1 z.1)).symm
              · rw [nI_clamp (by omega)]
                rcases Nat.lt_or_ge j (clsU t n i).length with hq1 | hq1
                · obtain ⟨pk0, a1, a2, a3⟩ := hpf j hq1
                  refine ⟨pk0, by rw [va_up_ne _ _ (by omega)]; exact a1, a2, ?_⟩
                  rw [(clsU_grow hq1).1, up_uu, va_up_ne _ _ (wnf a3 gn_q80)]; exact a3
                · have hj2 : j = (clsU t n i).length := by omega
                  have hgd : (clsU t n (i + 1)).getD j 0 = i := by rw [hcu, List.getD_eq_getElem?_getD, List.getElem?_append_right hq1, hj2, Nat.sub_self]; rfl
                  refine ⟨q80, by rw [hj2, va_up_self], fr_q80, ?_⟩
                  rw [hgd, va_up_self]; rfl
        · refine lv_aload_n hx hb d_PieceReader_makeFilter_70 rfl (lv_at hl 6 rfl) ?_
          refine m_get hc hE hw (hRg75.get 0 (by decide) rfl) kc_PieceReader l_PieceReader_37_PieceReader rfl d_PieceReader_makeFilter_71 ?_
          refine lv_if_lt (tgt := 98) hx hb d_PieceReader_makeFilter_74 (by decide) (fun c92 => ?_) (fun c92 => ?_)
          · have hpk : pk t n i = 1 := (nI_eq (b := 1) (by omega) (by decide)).mp c77
            obtain ⟨k0, hk0, hkl⟩ := pk_lim hpk
            have hli : li2 = nI k0 := (hp1 hpk).1.trans hkl
            exact absurd c92 (by rw [hli]; exact nI_pos (by omega))
          · refine lv_aload_n hx hb d_PieceReader_makeFilter_77 rfl (lv_at hl 6 rfl) ?_
            refine m_get hc hE hw (hRg75.get 0 (by decide) rfl) kc_PieceReader l_PieceReader_37_PieceReader rfl d_PieceReader_makeFilter_78 ?_
            refine lv_iconst (v := 4) hx hb d_PieceReader_makeFilter_81 (by decide) ?_
            refine lv_icmp_ge (tgt := 98) hx hb d_PieceReader_makeFilter_82 (by decide) (fun c93 => ?_) (fun c93 => ?_)
            · have hpk : pk t n i = 1 := (nI_eq (b := 1) (by omega) (by decide)).mp c77
              obtain ⟨k0, hk0, hkl⟩ := pk_lim hpk
              have hli : li2 = nI k0 := (hp1 hpk).1.trans hkl
              exact absurd c93 (by rw [hli]; exact nI_ge (b := 4) hk0 (by decide))
            · refine lv_aload_n hx hb d_PieceReader_makeFilter_85 rfl (lv_at hl 5 rfl) ?_
              refine lv_aload_n hx hb d_PieceReader_makeFilter_86 rfl (lv_at hl 6 rfl) ?_
              refine m_get hc hE hw (hRg75.get 0 (by decide) rfl) kc_PieceReader l_PieceReader_37_PieceReader rfl d_PieceReader_makeFilter_87 ?_
              refine lv_aload_n hx hb d_PieceReader_makeFilter_90 rfl (lv_at hl 6 rfl) ?_
              refine m_get hc hE hw (hRg75.get 0 (by decide) rfl) kc_PieceReader l_PieceReader_40_PieceReader rfl d_PieceReader_makeFilter_91 ?_
              refine m_iast hc hE hw 0 (hRg75.get 1 (by decide) rfl) rfl (vin (n := 4) c92 c93 (Nat.le_refl 4) (by decide)) d_PieceReader_makeFilter_94 (fun H locs hw => ?_)
              obtain ⟨f94, ef94⟩ : ∃ z : Wd, z = va_up g74 q1 (some (.inl (G.2.1 0, 4, .inl (upd lm li2.toNatClampNeg nu2)))) := ⟨_, rfl⟩
              replace hw : ms G.1 (Af f sz) f94 s H locs := by rw [ef94]; exact hw
              have hRg95 : Rg 3 (ad3 ra q1 q35) (E3 (.inr (3, [.ref ta, .int (nI (pst t n i)), .int (nI (pnx t n (pst t n i))), .int (nI (pk t n i)), .int li2, .int nu2, .int rj2, .int sh2, .int mf2, .int me2, .int nf2, .int ne2])) (.inl (G.2.1 0, 4, .inl (upd lm li2.toNatClampNeg nu2))) (.inl (G.2.1 3, (clsU t n (npc t n)).length, .inr (.inr (.inr (.inr pf)))))) gg f94 := by rw [ef94]; exact (hRg75.up 1 (by decide) _).E (fun k hk => by rcases (show k = 0 ∨ k = 1 ∨ k = 2 by omega) with rfl | rfl | rfl <;> rfl)
              have hold96 : hld f f94 ra := by rw [ef94]; exact hold76.new fr_q1
              refine lv_goto (tgt := 130) hx hb d_PieceReader_makeFilter_95 (by decide) ?_
              refine lv_iinc (v := (nI (i + 1))) (lv' := [(7, .int (nI (i + 1))), (6, .int (nI (npc t n))), (5, .int (nI (clsU t n i).length)), (4, .ref ka), (3, .ref q35), (2, .ref q1), (0, .ref ra), (1, .int bs)]) hx hb d_PieceReader_makeFilter_130 hl (k := 0) rfl (nI_1 _) (by decide) rfl (fun ls hl => ?_)
              refine lv_goto (tgt := 51) hx hb d_PieceReader_makeFilter_133 (by decide) ?_
              have hpk : pk t n i = 1 := (nI_eq (b := 1) (by omega) (by decide)).mp c77
              have hcu : clsU t n (i + 1) = clsU t n i := pif_f (by omega)
              obtain ⟨k0, hk0, hkl⟩ := pk_lim hpk
              have hli : li2 = nI k0 := (hp1 hpk).1.trans hkl
              refine ih (i + 1) f94 gg _ _ _ _ _ _ _ _ _ _ _ _ _ cs ss ls H locs (by omega) (by omega) hRg95 hgg hold96 (fun _ => hnx) (fun k hk => ?_) (fun j hj => ?_) ⟨by first | omega | (dsimp only; omega), by first | omega | (dsimp only; omega)⟩ hw (by rw [hcu]; exact (lv_sub hl [0, 1, 2, 3, 4, 5, 6, 7] rfl))
              · rw [hli, nI_clamp (by omega)]
                by_cases hkk : k = k0
                · subst hkk; rw [pk_us]; exact (hp1 hpk).2.trans (pif_t ⟨hpk, hkl⟩).symm
                · rw [pk_un hkk]; exact (hlm k hk).trans (pif_f (fun z => hkk ((nI_eq (by omega) (by omega)).mp (z.2.symm.trans hkl)))).symm
              · rw [hcu] at hj ⊢; exact hpf j hj
  exact loop (npc t n + 1) 0 g54 _ _ _ _ _ _ _ _ _ _ _ _ _ _ 4 187 ls H locs (by omega) (Nat.zero_le _) hRg0 gle.rf hold_g54 (fun _ => (by decide : (-1 : Int32) + 1 = nI 0)) hlm0 (fun j hj => absurd hj (Nat.not_lt_zero _)) ⟨by omega, by omega⟩ hw (lv_sub hl [0, 1, 2, 3, 4, 5, 6, 7] rfl)
end
section
/-! BYTES of a long -/
def uN (x : Int64) : Nat := x.toUInt64.toNat
theorem uN_shr (x : Int64) (s : UInt64) : uN (x.toUInt64 >>> s).toInt64 = uN x / 2 ^ (s.toNat % 64) := by
  show (x.toUInt64 >>> s).toNat = _
  rw [UInt64.toNat_shiftRight, Nat.shiftRight_eq_div_pow]
  rfl
theorem uN_sk (x : Int64) {k : Nat} (hk : k < 64) : uN (x.toUInt64 >>> ((nI k).toInt64.toUInt64 &&& Int64.toUInt64 63)).toInt64 = uN x / 2 ^ k := by
  have h : ((nI k).toInt64.toUInt64 &&& Int64.toUInt64 63).toNat % 64 = k := by
    rw [nI_l (by omega), UInt64.toNat_and]
    have e : (lN k).toUInt64.toNat = k % 2 ^ 64 := rfl
    have e2 : (Int64.toUInt64 63).toNat = 2 ^ 6 - 1 := by decide
    rw [e, e2, Nat.and_two_pow_sub_one_eq_mod]
    omega
  rw [uN_shr, h]
/-- byte k of a long, 0 the lowest -/
def byt (s : Int64) (k : Nat) : Nat := uN s / 2 ^ (8 * k) % 256
theorem byt_lt (s : Int64) (k : Nat) : byt s k < 256 := Nat.mod_lt _ (by decide)
theorem l2i_and (y : Int64) : y.toInt32 &&& 255 = nI (uN y % 256) := by
  rw [pk_and y.toInt32 (m := 255) 8 (by decide)]
  congr 1
  have h : y.toInt32.toBitVec = y.toBitVec.setWidth 32 := by
    rw [Int64.toBitVec_toInt32]
    exact BitVec.signExtend_eq_setWidth_of_le _ (by decide)
  rw [h, BitVec.toNat_setWidth]
  show y.toBitVec.toNat % 2 ^ 32 % 2 ^ 8 = y.toBitVec.toNat % 256
  omega
theorem byt_u (s : Int64) {k : Nat} (hk : k < 8) : ((s.toUInt64 >>> ((nI (8 * k)).toInt64.toUInt64 &&& Int64.toUInt64 63)).toInt64).toInt32 &&& 255 = nI (byt s k) := by
  rw [l2i_and, uN_sk s (by omega)]
  rfl
/-- a byte that is no sign, or one that is -/
def okb (b : Nat) : Prop := b = 0 ∨ (33 ≤ b ∧ b ≤ 126)
/-- how many of the m highest bytes are signs -/
def cnT (s : Int64) : Nat → Nat
  | 0 => 0
  | m + 1 => cnT s m + (if byt s (7 - m) = 0 then 0 else 1)
theorem cnT_le (s : Int64) : ∀ m, cnT s m ≤ m := by
  intro m
  induction m with
  | zero => exact Nat.le_refl _
  | succ m ih =>
    show cnT s m + (if byt s (7 - m) = 0 then 0 else 1) ≤ m + 1
    by_cases h : byt s (7 - m) = 0
    · rw [if_pos h]; omega
    · rw [if_neg h]; omega
/-- the shifts 56, 48 .. 0, -8 -/
def shv (m : Nat) : Int32 := ([56, 48, 40, 32, 24, 16, 8, 0, -8] : List Int32).getD m 0
theorem shv_n : ∀ m, m < 8 → shv m + (-8) = shv (m + 1) := by decide
theorem shv_e : ∀ m, m < 8 → shv m = nI (8 * (7 - m)) := by decide
theorem shv_p : ∀ m, m < 8 → ¬ shv m < 0 := by decide
end
section
/-! links of the pools, as the walks ask for them -/
theorem cw_SF_52 : cwk "StreamFilters" 52 y_SF_byteAt b_SF_byteAt 3 (some .int) 2 := ⟨Or.inl (tb 176 (by decide +kernel) rfl), (tb 178 (by decide +kernel) rfl), (tb 1 (by decide +kernel) rfl), by decide, by decide, by decide +kernel⟩
theorem ss_SF_byteAt : Cond.static y_SF_byteAt ∈ TB := (tb 177 (by decide +kernel) rfl)
/-! decode rows -/
theorem d_SF_countSigns_0 : decode b_SF_countSigns 0 = .ok (.iconst 0, 1) := by decide +kernel
theorem d_SF_countSigns_1 : decode b_SF_countSigns 1 = .ok (.istore_n 2, 1) := by decide +kernel
theorem d_SF_countSigns_2 : decode b_SF_countSigns 2 = .ok (.bipush 56, 2) := by decide +kernel
theorem d_SF_countSigns_4 : decode b_SF_countSigns 4 = .ok (.istore_n 3, 1) := by decide +kernel
theorem d_SF_countSigns_5 : decode b_SF_countSigns 5 = .ok (.iload_n 3, 1) := by decide +kernel
theorem d_SF_countSigns_6 : decode b_SF_countSigns 6 = .ok (.ifCond .lt 40, 3) := by decide +kernel
theorem d_SF_countSigns_9 : decode b_SF_countSigns 9 = .ok (.lload_n 0, 1) := by decide +kernel
theorem d_SF_countSigns_10 : decode b_SF_countSigns 10 = .ok (.iload_n 3, 1) := by decide +kernel
theorem d_SF_countSigns_11 : decode b_SF_countSigns 11 = .ok (.invokestatic 52, 3) := by decide +kernel
theorem d_SF_countSigns_14 : decode b_SF_countSigns 14 = .ok (.istore 4, 2) := by decide +kernel
theorem d_SF_countSigns_16 : decode b_SF_countSigns 16 = .ok (.iload 4, 2) := by decide +kernel
theorem d_SF_countSigns_18 : decode b_SF_countSigns 18 = .ok (.ifCond .eq 22, 3) := by decide +kernel
theorem d_SF_countSigns_21 : decode b_SF_countSigns 21 = .ok (.iload 4, 2) := by decide +kernel
theorem d_SF_countSigns_23 : decode b_SF_countSigns 23 = .ok (.bipush 33, 2) := by decide +kernel
theorem d_SF_countSigns_25 : decode b_SF_countSigns 25 = .ok (.if_icmp .lt 10, 3) := by decide +kernel
theorem d_SF_countSigns_28 : decode b_SF_countSigns 28 = .ok (.iload 4, 2) := by decide +kernel
theorem d_SF_countSigns_30 : decode b_SF_countSigns 30 = .ok (.bipush 126, 2) := by decide +kernel
theorem d_SF_countSigns_32 : decode b_SF_countSigns 32 = .ok (.if_icmp .le 5, 3) := by decide +kernel
theorem d_SF_countSigns_35 : decode b_SF_countSigns 35 = .ok (.iconst (-1), 1) := by decide +kernel
theorem d_SF_countSigns_36 : decode b_SF_countSigns 36 = .ok (.ireturn, 1) := by decide +kernel
theorem d_SF_countSigns_37 : decode b_SF_countSigns 37 = .ok (.iinc 2 1, 3) := by decide +kernel
theorem d_SF_countSigns_40 : decode b_SF_countSigns 40 = .ok (.iinc 3 (-8), 3) := by decide +kernel
theorem d_SF_countSigns_43 : decode b_SF_countSigns 43 = .ok (.goto (-38), 3) := by decide +kernel
theorem d_SF_countSigns_46 : decode b_SF_countSigns 46 = .ok (.iload_n 2, 1) := by decide +kernel
theorem d_SF_countSigns_47 : decode b_SF_countSigns 47 = .ok (.ireturn, 1) := by decide +kernel
theorem d_SF_byteAt_0 : decode b_SF_byteAt 0 = .ok (.lload_n 0, 1) := by decide +kernel
theorem d_SF_byteAt_1 : decode b_SF_byteAt 1 = .ok (.iload_n 2, 1) := by decide +kernel
theorem d_SF_byteAt_2 : decode b_SF_byteAt 2 = .ok (.lushr, 1) := by decide +kernel
theorem d_SF_byteAt_3 : decode b_SF_byteAt 3 = .ok (.l2i, 1) := by decide +kernel
theorem d_SF_byteAt_4 : decode b_SF_byteAt 4 = .ok (.sipush 255, 3) := by decide +kernel
theorem d_SF_byteAt_7 : decode b_SF_byteAt 7 = .ok (.iand, 1) := by decide +kernel
theorem d_SF_byteAt_8 : decode b_SF_byteAt 8 = .ok (.ireturn, 1) := by decide +kernel
theorem d_SF_isPlace_0 : decode b_SF_isPlace 0 = .ok (.iload_n 0, 1) := by decide +kernel
theorem d_SF_isPlace_1 : decode b_SF_isPlace 1 = .ok (.ifCond .lt 13, 3) := by decide +kernel
theorem d_SF_isPlace_4 : decode b_SF_isPlace 4 = .ok (.iload_n 0, 1) := by decide +kernel
theorem d_SF_isPlace_5 : decode b_SF_isPlace 5 = .ok (.bipush 10, 2) := by decide +kernel
theorem d_SF_isPlace_7 : decode b_SF_isPlace 7 = .ok (.if_icmp .ge 7, 3) := by decide +kernel
theorem d_SF_isPlace_10 : decode b_SF_isPlace 10 = .ok (.iconst 1, 1) := by decide +kernel
theorem d_SF_isPlace_11 : decode b_SF_isPlace 11 = .ok (.goto 4, 3) := by decide +kernel
theorem d_SF_isPlace_14 : decode b_SF_isPlace 14 = .ok (.iconst 0, 1) := by decide +kernel
theorem d_SF_isPlace_15 : decode b_SF_isPlace 15 = .ok (.ireturn, 1) := by decide +kernel
theorem d_SF_isQuestion_0 : decode b_SF_isQuestion 0 = .ok (.iload_n 1, 1) := by decide +kernel
theorem d_SF_isQuestion_1 : decode b_SF_isQuestion 1 = .ok (.ifCond .lt 8, 3) := by decide +kernel
theorem d_SF_isQuestion_4 : decode b_SF_isQuestion 4 = .ok (.iload_n 1, 1) := by decide +kernel
theorem d_SF_isQuestion_5 : decode b_SF_isQuestion 5 = .ok (.iconst 3, 1) := by decide +kernel
theorem d_SF_isQuestion_6 : decode b_SF_isQuestion 6 = .ok (.if_icmp .le 5, 3) := by decide +kernel
theorem d_SF_isQuestion_9 : decode b_SF_isQuestion 9 = .ok (.iconst 0, 1) := by decide +kernel
theorem d_SF_isQuestion_10 : decode b_SF_isQuestion 10 = .ok (.ireturn, 1) := by decide +kernel
theorem d_SF_isQuestion_11 : decode b_SF_isQuestion 11 = .ok (.iload_n 0, 1) := by decide +kernel
theorem d_SF_isQuestion_12 : decode b_SF_isQuestion 12 = .ok (.tableswitch 50 0 2 #[28, 38, 40], 28) := by decide +kernel
theorem d_SF_isQuestion_40 : decode b_SF_isQuestion 40 = .ok (.iload_n 1, 1) := by decide +kernel
theorem d_SF_isQuestion_41 : decode b_SF_isQuestion 41 = .ok (.ifCond .ne 7, 3) := by decide +kernel
theorem d_SF_isQuestion_44 : decode b_SF_isQuestion 44 = .ok (.iconst 1, 1) := by decide +kernel
theorem d_SF_isQuestion_45 : decode b_SF_isQuestion 45 = .ok (.goto 4, 3) := by decide +kernel
theorem d_SF_isQuestion_48 : decode b_SF_isQuestion 48 = .ok (.iconst 0, 1) := by decide +kernel
theorem d_SF_isQuestion_49 : decode b_SF_isQuestion 49 = .ok (.ireturn, 1) := by decide +kernel
theorem d_SF_isQuestion_50 : decode b_SF_isQuestion 50 = .ok (.iconst 1, 1) := by decide +kernel
theorem d_SF_isQuestion_51 : decode b_SF_isQuestion 51 = .ok (.ireturn, 1) := by decide +kernel
theorem d_SF_isQuestion_52 : decode b_SF_isQuestion 52 = .ok (.iload_n 1, 1) := by decide +kernel
theorem d_SF_isQuestion_53 : decode b_SF_isQuestion 53 = .ok (.ifCond .le 7, 3) := by decide +kernel
theorem d_SF_isQuestion_56 : decode b_SF_isQuestion 56 = .ok (.iconst 1, 1) := by decide +kernel
theorem d_SF_isQuestion_57 : decode b_SF_isQuestion 57 = .ok (.goto 4, 3) := by decide +kernel
theorem d_SF_isQuestion_60 : decode b_SF_isQuestion 60 = .ok (.iconst 0, 1) := by decide +kernel
theorem d_SF_isQuestion_61 : decode b_SF_isQuestion 61 = .ok (.ireturn, 1) := by decide +kernel
theorem d_SF_isQuestion_62 : decode b_SF_isQuestion 62 = .ok (.iconst 0, 1) := by decide +kernel
theorem d_SF_isQuestion_63 : decode b_SF_isQuestion 63 = .ok (.ireturn, 1) := by decide +kernel
set_option maxHeartbeats 4000000 in
set_option maxRecDepth 100000 in
/-- isPlace(x) -/
theorem c_SF_isPlace (G : GG) (l : Launch) (sz : Nat) (f : Wd) (x : Int32) : Ci G l y_SF_isPlace b_SF_isPlace 1 (some .boolean) ({ frames := 0, cells := 0, slots := 0, locals := 0 }) sz f [.int x] (fun v f' => f = f' ∧ v = bI (¬ x < 0 ∧ ¬ 10 ≤ x)) := by
  refine ct_of (by decide) (Nat.le_of_ble_eq_true rfl) ?_
  intro p e s m below meth c ls H locs hEn
  obtain ⟨hc, hr, hlk, hin, hE, hw, hsz, hl⟩ := hEn
  have hx := hc.1
  have hb := hc.2.1
  have hl : lv_has ls 1 [(0, .int x)] := hl
  refine lv_iload_n hx hb d_SF_isPlace_0 rfl (lv_at hl 0 rfl) ?_
  refine lv_if_lt (tgt := 14) hx hb d_SF_isPlace_1 (by decide) (fun c1 => ?_) (fun c1 => ?_)
  · refine lv_iconst (v := 0) hx hb d_SF_isPlace_14 (by decide) ?_
    exact m_zret hc hr hlk hw ⟨by first | decide | (dsimp only; omega), by first | decide | (dsimp only; omega)⟩ d_SF_isPlace_15 (by decide) ⟨rfl, (bI_f (fun z => z.1 c1)).symm⟩
  · refine lv_iload_n hx hb d_SF_isPlace_4 rfl (lv_at hl 0 rfl) ?_
    refine lv_bipush (v := 10) hx hb d_SF_isPlace_5 (by decide) ?_
    refine lv_icmp_ge (tgt := 14) hx hb d_SF_isPlace_7 (by decide) (fun c2 => ?_) (fun c2 => ?_)
    · refine lv_iconst (v := 0) hx hb d_SF_isPlace_14 (by decide) ?_
      exact m_zret hc hr hlk hw ⟨by first | decide | (dsimp only; omega), by first | decide | (dsimp only; omega)⟩ d_SF_isPlace_15 (by decide) ⟨rfl, (bI_f (fun z => z.2 c2)).symm⟩
    · refine lv_iconst (v := 1) hx hb d_SF_isPlace_10 (by decide) ?_
      refine lv_goto (tgt := 15) hx hb d_SF_isPlace_11 (by decide) ?_
      exact m_zret hc hr hlk hw ⟨by first | decide | (dsimp only; omega), by first | decide | (dsimp only; omega)⟩ d_SF_isPlace_15 (by decide) ⟨rfl, (bI_t ⟨c1, c2⟩).symm⟩

def isQ (so di : Int32) : Prop := ¬ di < 0 ∧ di ≤ 3 ∧ ((so = 0 ∧ di = 0) ∨ so = 1 ∨ (so = 2 ∧ ¬ di ≤ 0))
set_option maxHeartbeats 4000000 in
set_option maxRecDepth 100000 in
/-- isQuestion(so, di) -/
theorem c_SF_isQuestion (G : GG) (l : Launch) (sz : Nat) (f : Wd) (so di : Int32) : Ci G l y_SF_isQuestion b_SF_isQuestion 2 (some .boolean) ({ frames := 0, cells := 0, slots := 0, locals := 0 }) sz f [.int so, .int di] (fun v f' => f = f' ∧ v = bI (isQ so di)) := by
  refine ct_of (by decide) (Nat.le_of_ble_eq_true rfl) ?_
  intro p e s m below meth c ls H locs hEn
  obtain ⟨hc, hr, hlk, hin, hE, hw, hsz, hl⟩ := hEn
  have hx := hc.1
  have hb := hc.2.1
  have hl : lv_has ls 2 [(0, .int so), (1, .int di)] := hl
  refine lv_iload_n hx hb d_SF_isQuestion_0 rfl (lv_at hl 1 rfl) ?_
  refine lv_if_lt (tgt := 9) hx hb d_SF_isQuestion_1 (by decide) (fun c1 => ?_) (fun c1 => ?_)
  · refine lv_iconst (v := 0) hx hb d_SF_isQuestion_9 (by decide) ?_
    exact m_zret hc hr hlk hw ⟨by first | decide | (dsimp only; omega), by first | decide | (dsimp only; omega)⟩ d_SF_isQuestion_10 (by decide) ⟨rfl, (bI_f (fun z => z.1 c1)).symm⟩
  · refine lv_iload_n hx hb d_SF_isQuestion_4 rfl (lv_at hl 1 rfl) ?_
    refine lv_iconst (v := 3) hx hb d_SF_isQuestion_5 (by decide) ?_
    refine lv_icmp_le (tgt := 11) hx hb d_SF_isQuestion_6 (by decide) (fun c2 => ?_) (fun c2 => ?_)
    · refine lv_iload_n hx hb d_SF_isQuestion_11 rfl (lv_at hl 0 rfl) ?_
      by_cases k3 : so = 0
      · refine lv_tableIn (tgt := 40) hx hb d_SF_isQuestion_12 (off := 28) (by rw [k3]; decide) (by rw [k3]; decide) (by rw [k3] <;> rfl) (by decide) ?_
        refine lv_iload_n hx hb d_SF_isQuestion_40 rfl (lv_at hl 1 rfl) ?_
        refine lv_if_ne (tgt := 48) hx hb d_SF_isQuestion_41 (by decide) (fun c4 => ?_) (fun c4 => ?_)
        · refine lv_iconst (v := 0) hx hb d_SF_isQuestion_48 (by decide) ?_
          exact m_zret hc hr hlk hw ⟨by first | decide | (dsimp only; omega), by first | decide | (dsimp only; omega)⟩ d_SF_isQuestion_49 (by decide) ⟨rfl, (bI_f (fun z => z.2.2.elim (fun y => c4 y.2) (fun y => y.elim (fun y => absurd (k3.symm.trans y) (by decide)) (fun y => absurd (k3.symm.trans y.1) (by decide))))).symm⟩
        · refine lv_iconst (v := 1) hx hb d_SF_isQuestion_44 (by decide) ?_
          refine lv_goto (tgt := 49) hx hb d_SF_isQuestion_45 (by decide) ?_
          exact m_zret hc hr hlk hw ⟨by first | decide | (dsimp only; omega), by first | decide | (dsimp only; omega)⟩ d_SF_isQuestion_49 (by decide) ⟨rfl, (bI_t ⟨c1, c2, Or.inl ⟨k3, c4⟩⟩).symm⟩
      by_cases k5 : so = 1
      · refine lv_tableIn (tgt := 50) hx hb d_SF_isQuestion_12 (off := 38) (by rw [k5]; decide) (by rw [k5]; decide) (by rw [k5] <;> rfl) (by decide) ?_
        refine lv_iconst (v := 1) hx hb d_SF_isQuestion_50 (by decide) ?_
        exact m_zret hc hr hlk hw ⟨by first | decide | (dsimp only; omega), by first | decide | (dsimp only; omega)⟩ d_SF_isQuestion_51 (by decide) ⟨rfl, (bI_t ⟨c1, c2, Or.inr (Or.inl k5)⟩).symm⟩
      by_cases k6 : so = 2
      · refine lv_tableIn (tgt := 52) hx hb d_SF_isQuestion_12 (off := 40) (by rw [k6]; decide) (by rw [k6]; decide) (by rw [k6] <;> rfl) (by decide) ?_
        refine lv_iload_n hx hb d_SF_isQuestion_52 rfl (lv_at hl 1 rfl) ?_
        refine lv_if_le (tgt := 60) hx hb d_SF_isQuestion_53 (by decide) (fun c7 => ?_) (fun c7 => ?_)
        · refine lv_iconst (v := 0) hx hb d_SF_isQuestion_60 (by decide) ?_
          exact m_zret hc hr hlk hw ⟨by first | decide | (dsimp only; omega), by first | decide | (dsimp only; omega)⟩ d_SF_isQuestion_61 (by decide) ⟨rfl, (bI_f (fun z => z.2.2.elim (fun y => absurd (k6.symm.trans y.1) (by decide)) (fun y => y.elim (fun y => absurd (k6.symm.trans y) (by decide)) (fun y => y.2 c7)))).symm⟩
        · refine lv_iconst (v := 1) hx hb d_SF_isQuestion_56 (by decide) ?_
          refine lv_goto (tgt := 61) hx hb d_SF_isQuestion_57 (by decide) ?_
          exact m_zret hc hr hlk hw ⟨by first | decide | (dsimp only; omega), by first | decide | (dsimp only; omega)⟩ d_SF_isQuestion_61 (by decide) ⟨rfl, (bI_t ⟨c1, c2, Or.inr (Or.inr ⟨k6, c7⟩)⟩).symm⟩
      refine lv_tableOut (tgt := 62) hx hb d_SF_isQuestion_12 (by have := lv_neT k3 (show (0 : Int32).toInt = 0 by decide); have := lv_neT k5 (show (1 : Int32).toInt = 1 by decide); have := lv_neT k6 (show (2 : Int32).toInt = 2 by decide); omega) (by decide) ?_
      refine lv_iconst (v := 0) hx hb d_SF_isQuestion_62 (by decide) ?_
      exact m_zret hc hr hlk hw ⟨by first | decide | (dsimp only; omega), by first | decide | (dsimp only; omega)⟩ d_SF_isQuestion_63 (by decide) ⟨rfl, (bI_f (fun z => z.2.2.elim (fun y => k3 y.1) (fun y => y.elim k5 (fun y => k6 y.1)))).symm⟩
    · refine lv_iconst (v := 0) hx hb d_SF_isQuestion_9 (by decide) ?_
      exact m_zret hc hr hlk hw ⟨by first | decide | (dsimp only; omega), by first | decide | (dsimp only; omega)⟩ d_SF_isQuestion_10 (by decide) ⟨rfl, (bI_f (fun z => c2 z.2.1)).symm⟩

set_option maxHeartbeats 4000000 in
set_option maxRecDepth 100000 in
/-- byteAt(sg0, 8 k) -/
theorem c_SF_byteAt (G : GG) (l : Launch) (sz : Nat) (f : Wd) (sg0 : Int64) {k : Nat} (hk : k < 8) : Ci G l y_SF_byteAt b_SF_byteAt 3 (some .int) ({ frames := 0, cells := 0, slots := 0, locals := 0 }) sz f [.long sg0, .int (nI (8 * k))] (fun v f' => f = f' ∧ v = nI (byt sg0 k)) := by
  refine ct_of (by decide) (Nat.le_of_ble_eq_true rfl) ?_
  intro p e s m below meth c ls H locs hEn
  obtain ⟨hc, hr, hlk, hin, hE, hw, hsz, hl⟩ := hEn
  have hx := hc.1
  have hb := hc.2.1
  have hl : lv_has ls 3 [(0, .long sg0), (2, .int (nI (8 * k)))] := hl
  refine lv_lload_n hx hb d_SF_byteAt_0 rfl (lv_at hl 0 rfl) ?_
  refine lv_iload_n hx hb d_SF_byteAt_1 rfl (lv_at hl 1 rfl) ?_
  refine lv_lushr hx hb d_SF_byteAt_2 rfl ?_
  refine lv_l2i hx hb d_SF_byteAt_3 rfl ?_
  refine lv_sipush (v := 255) hx hb d_SF_byteAt_4 (by decide) ?_
  refine lv_iand hx hb d_SF_byteAt_7 ?_
  exact m_iret hc hr hlk hw ⟨by first | decide | (dsimp only; omega), by first | decide | (dsimp only; omega)⟩ d_SF_byteAt_8 ⟨rfl, byt_u sg0 hk⟩

set_option maxHeartbeats 4000000 in
set_option maxRecDepth 100000 in
/-- countSigns(sg0) -/
theorem c_SF_countSigns (G : GG) (l : Launch) (sz : Nat) (f : Wd) (sg0 : Int64) : Ci G l y_SF_countSigns b_SF_countSigns 5 (some .int) ({ frames := 1, cells := 0, slots := 0, locals := 22 }) sz f [.long sg0] (fun v f' => f = f' ∧ v = pif (∀ k, k < 8 → okb (byt sg0 k)) (nI (cnT sg0 8)) (-1)) := by
  refine ct_of (by decide) (Nat.le_of_ble_eq_true rfl) ?_
  intro p e s m below meth c ls H locs hEn
  obtain ⟨hc, hr, hlk, hin, hE, hw, hsz, hl⟩ := hEn
  have hx := hc.1
  have hb := hc.2.1
  have hl : lv_has ls 5 [(0, .long sg0)] := hl
  refine lv_iconst (v := 0) hx hb d_SF_countSigns_0 (by decide) ?_
  refine lv_istore_n (lv' := [(2, .int 0), (0, .long sg0)]) hx hb d_SF_countSigns_1 rfl hl (by decide) rfl (fun ls hl => ?_)
  refine lv_bipush (v := 56) hx hb d_SF_countSigns_2 (by decide) ?_
  refine lv_istore_n (lv' := [(3, .int 56), (2, .int 0), (0, .long sg0)]) hx hb d_SF_countSigns_4 rfl hl (by decide) rfl (fun ls hl => ?_)
  have loop : ∀ (fu : Nat) (m0 : Nat) (ls : Array Slot) (H : Heap) (locs : List Loc), 8 - m0 < fu → m0 ≤ 8 → (∀ k, 8 - m0 ≤ k → k < 8 → okb (byt sg0 k)) → ms G.1 (Af f sz) f s H locs → lv_has ls 5 [(3, .int (shv m0)), (2, .int (nI (cnT sg0 m0))), (0, .long sg0)] → W p l e ({ frames := 1, cells := 0, slots := 0, locals := 22 }) s m ([.long sg0] : List Value).toArray below meth c H locs 0 0 (MQ below (va_Qi (fun v f' => f = f' ∧ v = pif (∀ k, k < 8 → okb (byt sg0 k)) (nI (cnT sg0 8)) (-1)) (Bw G f sz) (Af f sz)) ([.long sg0] : List Value).toArray s 0 0 (Af f sz)) (F0 m 5 ls []) := by
    intro fu
    induction fu with
    | zero => intro m0 ls H locs h0; exact absurd h0 (Nat.not_lt_zero _)
    | succ fu ih =>
      intro m0 ls H locs hfu hm hok hw hl
      have hcn := cnT_le sg0 m0
      refine lv_iload_n hx hb d_SF_countSigns_5 rfl (lv_at hl 0 rfl) ?_
      refine lv_if_lt (tgt := 46) hx hb d_SF_countSigns_6 (by decide) (fun c1 => ?_) (fun c1 => ?_)
      · refine lv_iload_n hx hb d_SF_countSigns_46 rfl (lv_at hl 1 rfl) ?_
        have hm9 : m0 = 8 := by
          rcases Nat.lt_or_ge m0 8 with z | z
          · exact absurd c1 (shv_p m0 z)
          · omega
        subst hm9
        exact m_iret hc hr hlk hw ⟨by first | decide | (dsimp only; omega), by first | decide | (dsimp only; omega)⟩ d_SF_countSigns_47 ⟨rfl, (pif_t (fun k q => hok k (by omega) q)).symm⟩
      · have hm8 : m0 < 8 := by
          rcases Nat.lt_or_ge m0 8 with z | z
          · exact z
          · exact absurd (by rw [show m0 = 8 by omega]; decide) c1
        refine lv_lload_n hx hb d_SF_countSigns_9 rfl (lv_at hl 2 rfl) ?_
        refine lv_iload_n hx hb d_SF_countSigns_10 rfl (lv_at hl 0 rfl) ?_
        refine m_top (y := nI (8 * (7 - m0))) (shv_e m0 hm8) ?_
        refine m_calli hw (m_runS (As := [.long sg0, .int (nI (8 * (7 - m0)))]) (rest := []) hc hE hw (c_SF_byteAt G l H.size f sg0 (k := 7 - m0) (by omega)) cw_SF_52 ss_SF_byteAt rfl hl.1 rfl (Nat.le_of_ble_eq_true rfl) d_SF_countSigns_11 ⟨rfl, rfl, by decide, by decide⟩ ⟨by first | decide | (dsimp only; omega), by first | decide | (dsimp only; omega)⟩) (fun r4 g3 H locs p2 hw => ?_)
        obtain ⟨rfl, p2⟩ := p2
        subst p2
        have hbl := byt_lt sg0 (7 - m0)
        refine lv_istore (lv' := [(4, .int (nI (byt sg0 (7 - m0)))), (3, .int (shv m0)), (2, .int (nI (cnT sg0 m0))), (0, .long sg0)]) hx hb d_SF_countSigns_14 hl (by decide) rfl (fun ls hl => ?_)
        refine lv_iload hx hb d_SF_countSigns_16 (lv_at hl 0 rfl) ?_
        refine lv_if_eq (tgt := 40) hx hb d_SF_countSigns_18 (by decide) (fun c5 => ?_) (fun c5 => ?_)
        · refine lv_iinc (v := (shv (m0 + 1))) (lv' := [(3, .int (shv (m0 + 1))), (4, .int (nI (byt sg0 (7 - m0)))), (2, .int (nI (cnT sg0 m0))), (0, .long sg0)]) hx hb d_SF_countSigns_40 hl (k := 1) rfl (shv_n m0 hm8) (by decide) rfl (fun ls hl => ?_)
          refine lv_goto (tgt := 5) hx hb d_SF_countSigns_43 (by decide) ?_
          have hz : byt sg0 (7 - m0) = 0 := (nI_eq (b := 0) (by omega) (by decide)).mp c5
          have hcc : cnT sg0 (m0 + 1) = cnT sg0 m0 := by show cnT sg0 m0 + (if byt sg0 (7 - m0) = 0 then 0 else 1) = _; rw [if_pos hz]; rfl
          have hb0 : okb (byt sg0 (7 - m0)) := Or.inl hz
          exact ih (m0 + 1) ls H locs (by omega) (by omega) (fun k q1 q2 => by rcases Nat.lt_or_ge k (8 - m0) with z | z; rw [show k = 7 - m0 by omega]; exact hb0; exact hok k z q2) hw (by rw [hcc]; exact (lv_sub hl [0, 2, 3] rfl))
        · refine lv_iload hx hb d_SF_countSigns_21 (lv_at hl 0 rfl) ?_
          refine lv_bipush (v := 33) hx hb d_SF_countSigns_23 (by decide) ?_
          refine lv_icmp_lt (tgt := 35) hx hb d_SF_countSigns_25 (by decide) (fun c6 => ?_) (fun c6 => ?_)
          · refine lv_iconst (v := (-1)) hx hb d_SF_countSigns_35 (by decide) ?_
            have hz : ¬ byt sg0 (7 - m0) = 0 := fun z => c5 (by rw [z]; rfl)
            have hno : ¬ okb (byt sg0 (7 - m0)) := fun z => z.elim hz (fun z => absurd ((nI_ltI (b := 33) (by omega) (by decide)).mp c6) (by omega))
            exact m_iret hc hr hlk hw ⟨by first | decide | (dsimp only; omega), by first | decide | (dsimp only; omega)⟩ d_SF_countSigns_36 ⟨rfl, (pif_f (fun z => hno (z (7 - m0) (by omega)))).symm⟩
          · refine lv_iload hx hb d_SF_countSigns_28 (lv_at hl 0 rfl) ?_
            refine lv_bipush (v := 126) hx hb d_SF_countSigns_30 (by decide) ?_
            refine lv_icmp_le (tgt := 37) hx hb d_SF_countSigns_32 (by decide) (fun c7 => ?_) (fun c7 => ?_)
            · refine lv_iinc (v := (nI ((cnT sg0 m0) + 1))) (lv' := [(2, .int (nI ((cnT sg0 m0) + 1))), (4, .int (nI (byt sg0 (7 - m0)))), (3, .int (shv m0)), (0, .long sg0)]) hx hb d_SF_countSigns_37 hl (k := 2) rfl (nI_1 _) (by decide) rfl (fun ls hl => ?_)
              refine lv_iinc (v := (shv (m0 + 1))) (lv' := [(3, .int (shv (m0 + 1))), (2, .int (nI ((cnT sg0 m0) + 1))), (4, .int (nI (byt sg0 (7 - m0)))), (0, .long sg0)]) hx hb d_SF_countSigns_40 hl (k := 2) rfl (shv_n m0 hm8) (by decide) rfl (fun ls hl => ?_)
              refine lv_goto (tgt := 5) hx hb d_SF_countSigns_43 (by decide) ?_
              have hz : ¬ byt sg0 (7 - m0) = 0 := fun z => c5 (by rw [z]; rfl)
              have hcc : cnT sg0 (m0 + 1) = cnT sg0 m0 + 1 := by show cnT sg0 m0 + (if byt sg0 (7 - m0) = 0 then 0 else 1) = _; rw [if_neg hz]
              have hb0 : okb (byt sg0 (7 - m0)) := Or.inr ⟨Nat.not_lt.mp (fun z => c6 (nI_lt (b := 33) z (by decide))), (nI_leI (b := 126) (by omega) (by decide)).mp c7⟩
              exact ih (m0 + 1) ls H locs (by omega) (by omega) (fun k q1 q2 => by rcases Nat.lt_or_ge k (8 - m0) with z | z; rw [show k = 7 - m0 by omega]; exact hb0; exact hok k z q2) hw (by rw [hcc]; exact (lv_sub hl [0, 1, 3] rfl))
            · refine lv_iconst (v := (-1)) hx hb d_SF_countSigns_35 (by decide) ?_
              have hz : ¬ byt sg0 (7 - m0) = 0 := fun z => c5 (by rw [z]; rfl)
              have hno : ¬ okb (byt sg0 (7 - m0)) := fun z => z.elim hz (fun z => c7 (nI_le (b := 126) z.2 (by decide)))
              exact m_iret hc hr hlk hw ⟨by first | decide | (dsimp only; omega), by first | decide | (dsimp only; omega)⟩ d_SF_countSigns_36 ⟨rfl, (pif_f (fun z => hno (z (7 - m0) (by omega)))).symm⟩
  exact loop 9 0 ls H locs (by decide) (by decide) (fun k q1 q2 => absurd q1 (by omega)) hw (lv_sub hl [0, 1, 2] rfl)
end
section
/-! THE CLASS'S STATE over registers: 0, 1 PATTERN and its row; 2 the question; 3, 4 NAME; 5, 6 MODULE; 7 the reader; 8 the filters. The object itself never changes. -/
/-- a value's numbers are in range, and the filter is as high as they say -/
def RH (G : GG) (g : Wd) (a : Nat) (v : FV) : Prop := ∃ l h : Nat, v.2.1 = nI l ∧ v.2.2.1 = nI h ∧ 1 ≤ l ∧ l ≤ 24 ∧ 1 ≤ h ∧ h ≤ 8 ∧ RF G g h a v
theorem RH.mono {G : GG} {g g' : Wd} {a : Nat} {v : FV} (h : RH G g a v) (hg : gle g g') : RH G g' a v := by
  obtain ⟨l, h, h1, h2, h3, h4, h5, h6, h7⟩ := h
  exact ⟨l, h, h1, h2, h3, h4, h5, h6, RF.mono hg _ _ _ h7⟩
/-- the filters' places -/
def FL (G : GG) (g : Wd) (fa : Nat → Option Nat) (fl : Nat → Option FV) : Prop := ∀ k, k < 10 → (fa k = none ∧ fl k = none) ∨ ∃ (a : Nat) (v : FV), fa k = some a ∧ fl k = some v ∧ RH G g a v
theorem FL.mono {G : GG} {g g' : Wd} {fa : Nat → Option Nat} {fl : Nat → Option FV} (h : FL G g fa fl) (hg : gle g g') : FL G g' fa fl := fun k hk => (h k hk).elim Or.inl (fun z => Or.inr (by
  obtain ⟨a, v, h1, h2, h3⟩ := z
  exact ⟨a, v, h1, h2, h3.mono hg⟩))
/-- n signs t of a buffer: registers k (its object) and k + 1 (its row) -/
def BF (G : GG) (ad : Nat → Nat) (E : Nat → va_E) (k cap n : Nat) (t : Nat → Int32) : Prop := E k = .inr (CI_Signs, [.ref (ad (k + 1)), .int (nI n)]) ∧ E (k + 1) = .inl (G.2.1 1, cap, .inl t) ∧ n ≤ cap ∧ ∀ j, j < n → vp_nar .char (t j) = t j
theorem BF.sg {G : GG} {N : Nat} {ad : Nat → Nat} {E : Nat → va_E} {g f : Wd} {k cap n : Nat} {t : Nat → Int32} (h : BF G ad E k cap n t) (hR : Rg N ad E g f) (hk : k + 1 < N) (hc : cap ≤ 90) : sg G f (ad k) (ad (k + 1)) cap n t := ⟨hR.get k (by omega) h.1, hR.get (k + 1) hk h.2.1, h.2.2.1, hc, h.2.2.2⟩
/-- the question's register -/
def QR (ad : Nat → Nat) (E : Nat → va_E) (dp rf by_ co tx lx : Int32) : Prop := ∃ so di le : Int32, E 2 = .inr (CI_Question, [.ref (ad 3), .ref (ad 5), .int dp, .int rf, .int by_, .int so, .int di, .int le, .int co, .int tx, .int lx])
/-- the reader's register -/
def RR (ad : Nat → Nat) (E : Nat → va_E) : Prop := ∃ fr en pi li nu rj sh mf me nf ne : Int32, E 7 = .inr (CI_PieceReader, [.ref (ad 0), .int fr, .int en, .int pi, .int li, .int nu, .int rj, .int sh, .int mf, .int me, .int nf, .int ne])
def SC (G : GG) (ad : Nat → Nat) (E : Nat → va_E) (g : Wd) (root pn : Nat) (pt : Nat → Int32) (nn : Nat) (nt : Nat → Int32) (mn : Nat) (mt : Nat → Int32) (dp rf by_ co tx lx : Int32) (fl : Nat → Option FV) : Prop :=
  g root = some (.inr (CI_SF, [.ref (ad 0), .ref (ad 2), .ref (ad 7), .ref (ad 8)])) ∧ BF G ad E 0 90 pn pt ∧ BF G ad E 3 40 nn nt ∧ BF G ad E 5 12 mn mt ∧ QR ad E dp rf by_ co tx lx ∧ RR ad E ∧ ∃ fa : Nat → Option Nat, E 8 = .inl (G.2.1 2, 10, .inr (.inr (.inr (.inr fa)))) ∧ FL G g fa fl
theorem BF.of {G : GG} {ad : Nat → Nat} {E E' : Nat → va_E} {k cap n : Nat} {t : Nat → Int32} (h : BF G ad E k cap n t) (h1 : E' k = E k) (h2 : E' (k + 1) = E (k + 1)) : BF G ad E' k cap n t := ⟨h1.trans h.1, h2.trans h.2.1, h.2.2⟩
section SCU
variable {G : GG} {ad : Nat → Nat} {E : Nat → va_E} {g : Wd} {root pn nn mn : Nat} {pt nt mt : Nat → Int32} {dp rf by_ co tx lx : Int32} {fl : Nat → Option FV}
/-- the question's register changes -/
theorem SC.q (h : SC G ad E g root pn pt nn nt mn mt dp rf by_ co tx lx fl) (dp2 rf2 by2 so2 di2 le2 co2 tx2 lx2 : Int32) : SC G ad (va_up E 2 (.inr (CI_Question, [.ref (ad 3), .ref (ad 5), .int dp2, .int rf2, .int by2, .int so2, .int di2, .int le2, .int co2, .int tx2, .int lx2]))) g root pn pt nn nt mn mt dp2 rf2 by2 co2 tx2 lx2 fl := by
  obtain ⟨h1, h2, h3, h4, -, ⟨fr, en, pi, li, nu, rj, sh, mf, me, nf, ne, h6⟩, fa, h7, h8⟩ := h
  exact ⟨h1, h2.of rfl rfl, h3.of rfl rfl, h4.of rfl rfl, ⟨so2, di2, le2, rfl⟩, ⟨fr, en, pi, li, nu, rj, sh, mf, me, nf, ne, h6⟩, fa, h7, h8⟩
/-- the reader's register changes -/
theorem SC.r (h : SC G ad E g root pn pt nn nt mn mt dp rf by_ co tx lx fl) (fr en pi li nu rj sh mf me nf ne : Int32) : SC G ad (va_up E 7 (.inr (CI_PieceReader, [.ref (ad 0), .int fr, .int en, .int pi, .int li, .int nu, .int rj, .int sh, .int mf, .int me, .int nf, .int ne]))) g root pn pt nn nt mn mt dp rf by_ co tx lx fl := by
  obtain ⟨h1, h2, h3, h4, ⟨so, di, le, h5⟩, -, fa, h7, h8⟩ := h
  exact ⟨h1, h2.of rfl rfl, h3.of rfl rfl, h4.of rfl rfl, ⟨so, di, le, h5⟩, ⟨fr, en, pi, li, nu, rj, sh, mf, me, nf, ne, rfl⟩, fa, h7, h8⟩
/-- a buffer's two registers change -/
theorem SC.p (h : SC G ad E g root pn pt nn nt mn mt dp rf by_ co tx lx fl) {E' : Nat → va_E} (n2 : Nat) (t2 : Nat → Int32) (hb : BF G ad E' 0 90 n2 t2) (he : ∀ k, k ≠ 0 → k ≠ 1 → E' k = E k) : SC G ad E' g root n2 t2 nn nt mn mt dp rf by_ co tx lx fl := by
  obtain ⟨h1, h2, h3, h4, ⟨so, di, le, h5⟩, ⟨fr, en, pi, li, nu, rj, sh, mf, me, nf, ne, h6⟩, fa, h7, h8⟩ := h
  exact ⟨h1, hb, h3.of (he 3 (by decide) (by decide)) (he 4 (by decide) (by decide)), h4.of (he 5 (by decide) (by decide)) (he 6 (by decide) (by decide)), ⟨so, di, le, (he 2 (by decide) (by decide)).trans h5⟩, ⟨fr, en, pi, li, nu, rj, sh, mf, me, nf, ne, (he 7 (by decide) (by decide)).trans h6⟩, fa, (he 8 (by decide) (by decide)).trans h7, h8⟩
theorem SC.n (h : SC G ad E g root pn pt nn nt mn mt dp rf by_ co tx lx fl) {E' : Nat → va_E} (n2 : Nat) (t2 : Nat → Int32) (hb : BF G ad E' 3 40 n2 t2) (he : ∀ k, k ≠ 3 → k ≠ 4 → E' k = E k) : SC G ad E' g root pn pt n2 t2 mn mt dp rf by_ co tx lx fl := by
  obtain ⟨h1, h2, h3, h4, ⟨so, di, le, h5⟩, ⟨fr, en, pi, li, nu, rj, sh, mf, me, nf, ne, h6⟩, fa, h7, h8⟩ := h
  exact ⟨h1, h2.of (he 0 (by decide) (by decide)) (he 1 (by decide) (by decide)), hb, h4.of (he 5 (by decide) (by decide)) (he 6 (by decide) (by decide)), ⟨so, di, le, (he 2 (by decide) (by decide)).trans h5⟩, ⟨fr, en, pi, li, nu, rj, sh, mf, me, nf, ne, (he 7 (by decide) (by decide)).trans h6⟩, fa, (he 8 (by decide) (by decide)).trans h7, h8⟩
theorem SC.m (h : SC G ad E g root pn pt nn nt mn mt dp rf by_ co tx lx fl) {E' : Nat → va_E} (n2 : Nat) (t2 : Nat → Int32) (hb : BF G ad E' 5 12 n2 t2) (he : ∀ k, k ≠ 5 → k ≠ 6 → E' k = E k) : SC G ad E' g root pn pt nn nt n2 t2 dp rf by_ co tx lx fl := by
  obtain ⟨h1, h2, h3, h4, ⟨so, di, le, h5⟩, ⟨fr, en, pi, li, nu, rj, sh, mf, me, nf, ne, h6⟩, fa, h7, h8⟩ := h
  exact ⟨h1, h2.of (he 0 (by decide) (by decide)) (he 1 (by decide) (by decide)), h3.of (he 3 (by decide) (by decide)) (he 4 (by decide) (by decide)), hb, ⟨so, di, le, (he 2 (by decide) (by decide)).trans h5⟩, ⟨fr, en, pi, li, nu, rj, sh, mf, me, nf, ne, (he 7 (by decide) (by decide)).trans h6⟩, fa, (he 8 (by decide) (by decide)).trans h7, h8⟩
/-- the filters' register changes, and what stays has grown -/
theorem SC.f (h : SC G ad E g root pn pt nn nt mn mt dp rf by_ co tx lx fl) {g' : Wd} (hg : gle g g') (fa : Nat → Option Nat) (fl2 : Nat → Option FV) (hf : FL G g' fa fl2) : SC G ad (va_up E 8 (.inl (G.2.1 2, 10, .inr (.inr (.inr (.inr fa)))))) g' root pn pt nn nt mn mt dp rf by_ co tx lx fl2 := by
  obtain ⟨h1, h2, h3, h4, ⟨so, di, le, h5⟩, ⟨fr, en, pi, li, nu, rj, sh, mf, me, nf, ne, h6⟩, -, -, -⟩ := h
  exact ⟨hg _ _ h1, h2.of rfl rfl, h3.of rfl rfl, h4.of rfl rfl, ⟨so, di, le, h5⟩, ⟨fr, en, pi, li, nu, rj, sh, mf, me, nf, ne, h6⟩, fa, rfl, hf⟩
theorem SC.gr (h : SC G ad E g root pn pt nn nt mn mt dp rf by_ co tx lx fl) {g' : Wd} (hg : gle g g') : SC G ad E g' root pn pt nn nt mn mt dp rf by_ co tx lx fl := by
  obtain ⟨h1, h2, h3, h4, h5, h6, fa, h7, h8⟩ := h
  exact ⟨hg _ _ h1, h2, h3, h4, h5, h6, fa, h7, h8.mono hg⟩
/-- behind a call: the registers from 9 on are as they were, the class's state is the one told -/
def SCR (G : GG) (N : Nat) (ad : Nat → Nat) (E : Nat → va_E) (g : Wd) (root : Nat) (f' : Wd) (pn : Nat) (pt : Nat → Int32) (nn : Nat) (nt : Nat → Int32) (mn : Nat) (mt : Nat → Int32) (dp rf by_ co tx lx : Int32) (fl : Nat → Option FV) : Prop :=
  ∃ (E' : Nat → va_E) (g' : Wd), Rg N ad E' g' f' ∧ gle g g' ∧ (∀ k, 9 ≤ k → E' k = E k) ∧ SC G ad E' g' root pn pt nn nt mn mt dp rf by_ co tx lx fl
end SCU
end
section
/-! links of the pools, as the walks ask for them -/
theorem l_SF_14_SF : lnk "StreamFilters" 14 F_SF 4 0 := ⟨by decide, "StreamFilters", Or.inl rfl, Or.inl (tb 152 (by decide +kernel) rfl)⟩
theorem l_SF_176_Question : lnk "StreamFilters" 176 F_Question 11 0 := ⟨by decide, "StreamFilters$Question", Or.inl rfl, Or.inl (tb 51 (by decide +kernel) rfl)⟩
theorem l_SF_179_Question : lnk "StreamFilters" 179 F_Question 11 1 := ⟨by decide, "StreamFilters$Question", Or.inl rfl, Or.inl (tb 54 (by decide +kernel) rfl)⟩
theorem l_SF_21_SF : lnk "StreamFilters" 21 F_SF 4 1 := ⟨by decide, "StreamFilters", Or.inl rfl, Or.inl (tb 153 (by decide +kernel) rfl)⟩
theorem l_SF_36_SF : lnk "StreamFilters" 36 F_SF 4 3 := ⟨by decide, "StreamFilters", Or.inl rfl, Or.inl (tb 155 (by decide +kernel) rfl)⟩
theorem cw_SF_67 : cwk "StreamFilters" 67 y_SF_isPlace b_SF_isPlace 1 (some .boolean) 1 := ⟨Or.inl (tb 203 (by decide +kernel) rfl), (tb 205 (by decide +kernel) rfl), (tb 1 (by decide +kernel) rfl), by decide, by decide, by decide +kernel⟩
theorem ss_SF_isPlace : Cond.static y_SF_isPlace ∈ TB := (tb 204 (by decide +kernel) rfl)
/-! decode rows -/
theorem d_SF_bufferAt_0 : decode b_SF_bufferAt 0 = .ok (.iload_n 1, 1) := by decide +kernel
theorem d_SF_bufferAt_1 : decode b_SF_bufferAt 1 = .ok (.tableswitch 48 0 2 #[27, 32, 40], 27) := by decide +kernel
theorem d_SF_bufferAt_28 : decode b_SF_bufferAt 28 = .ok (.aload_n 0, 1) := by decide +kernel
theorem d_SF_bufferAt_29 : decode b_SF_bufferAt 29 = .ok (.getfield 14, 3) := by decide +kernel
theorem d_SF_bufferAt_32 : decode b_SF_bufferAt 32 = .ok (.areturn, 1) := by decide +kernel
theorem d_SF_bufferAt_33 : decode b_SF_bufferAt 33 = .ok (.aload_n 0, 1) := by decide +kernel
theorem d_SF_bufferAt_34 : decode b_SF_bufferAt 34 = .ok (.getfield 21, 3) := by decide +kernel
theorem d_SF_bufferAt_37 : decode b_SF_bufferAt 37 = .ok (.getfield 176, 3) := by decide +kernel
theorem d_SF_bufferAt_40 : decode b_SF_bufferAt 40 = .ok (.areturn, 1) := by decide +kernel
theorem d_SF_bufferAt_41 : decode b_SF_bufferAt 41 = .ok (.aload_n 0, 1) := by decide +kernel
theorem d_SF_bufferAt_42 : decode b_SF_bufferAt 42 = .ok (.getfield 21, 3) := by decide +kernel
theorem d_SF_bufferAt_45 : decode b_SF_bufferAt 45 = .ok (.getfield 179, 3) := by decide +kernel
theorem d_SF_bufferAt_48 : decode b_SF_bufferAt 48 = .ok (.areturn, 1) := by decide +kernel
theorem d_SF_bufferAt_49 : decode b_SF_bufferAt 49 = .ok (.aconst_null, 1) := by decide +kernel
theorem d_SF_bufferAt_50 : decode b_SF_bufferAt 50 = .ok (.areturn, 1) := by decide +kernel
theorem d_SF_filterAt_0 : decode b_SF_filterAt 0 = .ok (.iload_n 1, 1) := by decide +kernel
theorem d_SF_filterAt_1 : decode b_SF_filterAt 1 = .ok (.invokestatic 67, 3) := by decide +kernel
theorem d_SF_filterAt_4 : decode b_SF_filterAt 4 = .ok (.ifCond .eq 12, 3) := by decide +kernel
theorem d_SF_filterAt_7 : decode b_SF_filterAt 7 = .ok (.aload_n 0, 1) := by decide +kernel
theorem d_SF_filterAt_8 : decode b_SF_filterAt 8 = .ok (.getfield 36, 3) := by decide +kernel
theorem d_SF_filterAt_11 : decode b_SF_filterAt 11 = .ok (.iload_n 1, 1) := by decide +kernel
theorem d_SF_filterAt_12 : decode b_SF_filterAt 12 = .ok (.aaload, 1) := by decide +kernel
theorem d_SF_filterAt_13 : decode b_SF_filterAt 13 = .ok (.goto 4, 3) := by decide +kernel
theorem d_SF_filterAt_16 : decode b_SF_filterAt 16 = .ok (.aconst_null, 1) := by decide +kernel
theorem d_SF_filterAt_17 : decode b_SF_filterAt 17 = .ok (.areturn, 1) := by decide +kernel
set_option maxHeartbeats 4000000 in
set_option maxRecDepth 100000 in
/-- bufferAt(x) -/
theorem c_SF_bufferAt (G : GG) (l : Launch) (sz : Nat) (f : Wd) {N root pn nn mn : Nat} {ad : Nat → Nat} {E : Nat → va_E} {g : Wd} {pt nt mt : Nat → Int32} {dp rf by_ co tx lx : Int32} {fl : Nat → Option FV} (hN : 9 ≤ N) (hRg : Rg N ad E g f) (hS : SC G ad E g root pn pt nn nt mn mt dp rf by_ co tx lx fl) (x : Int32) : Cq G l y_SF_bufferAt b_SF_bufferAt 2 (some (.object "StreamFilters$Signs")) ({ frames := 0, cells := 0, slots := 0, locals := 0 }) sz f [.ref root, .int x] (fun v f' => f = f' ∧ ((x = 0 ∧ v = some (ad 0)) ∨ (x = 1 ∧ v = some (ad 3)) ∨ (x = 2 ∧ v = some (ad 5)) ∨ (¬ x = 0 ∧ ¬ x = 1 ∧ ¬ x = 2 ∧ v = none))) := by
  refine ct_of (by decide) (Nat.le_of_ble_eq_true rfl) ?_
  intro p e s m below meth c ls H locs hEn
  obtain ⟨hc, hr, hlk, hin, hE, hw, hsz, hl⟩ := hEn
  have hx := hc.1
  have hb := hc.2.1
  have hl : lv_has ls 2 [(0, .ref root), (1, .int x)] := hl
  obtain ⟨hroot, hPB, hNB, hMB, ⟨so, di, le, hQ⟩, ⟨fr, en, pi, li, nu, rj, sh, mf, me, nf, ne, hRd⟩, fa, hF8, hFL⟩ := hS
  obtain ⟨A0, eA0⟩ : ∃ z, z = ad 0 := ⟨_, rfl⟩
  obtain ⟨A1, eA1⟩ : ∃ z, z = ad 1 := ⟨_, rfl⟩
  obtain ⟨A2, eA2⟩ : ∃ z, z = ad 2 := ⟨_, rfl⟩
  obtain ⟨A3, eA3⟩ : ∃ z, z = ad 3 := ⟨_, rfl⟩
  obtain ⟨A4, eA4⟩ : ∃ z, z = ad 4 := ⟨_, rfl⟩
  obtain ⟨A5, eA5⟩ : ∃ z, z = ad 5 := ⟨_, rfl⟩
  obtain ⟨A6, eA6⟩ : ∃ z, z = ad 6 := ⟨_, rfl⟩
  obtain ⟨A7, eA7⟩ : ∃ z, z = ad 7 := ⟨_, rfl⟩
  obtain ⟨A8, eA8⟩ : ∃ z, z = ad 8 := ⟨_, rfl⟩
  have hgf := hRg.2.2.1
  have h0 : f root = some (.inr (0, [.ref A0, .ref A2, .ref A7, .ref A8])) := by rw [eA0, eA2, eA7, eA8]; exact hgf _ _ hroot
  have h2 : f A2 = some (.inr (2, [.ref A3, .ref A5, .int dp, .int rf, .int by_, .int so, .int di, .int le, .int co, .int tx, .int lx])) := by rw [eA2, eA3, eA5]; exact hRg.get 2 (by omega) hQ
  have h8 : f A8 = some (.inl (G.2.1 2, 10, .inr (.inr (.inr (.inr fa))))) := by rw [eA8]; exact hRg.get 8 (by omega) hF8
  have hsP : sg G f A0 A1 90 pn pt := by rw [eA0, eA1]; exact hPB.sg hRg (by omega) (by omega)
  have hsN : sg G f A3 A4 40 nn nt := by rw [eA3, eA4]; exact hNB.sg hRg (by omega) (by omega)
  have hsM : sg G f A5 A6 12 mn mt := by rw [eA5, eA6]; exact hMB.sg hRg (by omega) (by omega)
  refine lv_iload_n hx hb d_SF_bufferAt_0 rfl (lv_at hl 1 rfl) ?_
  by_cases k1 : x = 0
  · refine lv_tableIn (tgt := 28) hx hb d_SF_bufferAt_1 (off := 27) (by rw [k1]; decide) (by rw [k1]; decide) (by rw [k1] <;> rfl) (by decide) ?_
    refine lv_aload_n hx hb d_SF_bufferAt_28 rfl (lv_at hl 0 rfl) ?_
    refine m_get hc hE hw h0 kc_SF l_SF_14_SF rfl d_SF_bufferAt_29 ?_
    exact m_aret (r := (some A0)) hc hr hlk hw ⟨by first | decide | (dsimp only; omega), by first | decide | (dsimp only; omega)⟩ d_SF_bufferAt_32 ⟨rfl, Or.inl ⟨k1, congrArg some eA0⟩⟩
  by_cases k2 : x = 1
  · refine lv_tableIn (tgt := 33) hx hb d_SF_bufferAt_1 (off := 32) (by rw [k2]; decide) (by rw [k2]; decide) (by rw [k2] <;> rfl) (by decide) ?_
    refine lv_aload_n hx hb d_SF_bufferAt_33 rfl (lv_at hl 0 rfl) ?_
    refine m_get hc hE hw h0 kc_SF l_SF_21_SF rfl d_SF_bufferAt_34 ?_
    refine m_get hc hE hw h2 kc_Question l_SF_176_Question rfl d_SF_bufferAt_37 ?_
    exact m_aret (r := (some A3)) hc hr hlk hw ⟨by first | decide | (dsimp only; omega), by first | decide | (dsimp only; omega)⟩ d_SF_bufferAt_40 ⟨rfl, Or.inr (Or.inl ⟨k2, congrArg some eA3⟩)⟩
  by_cases k3 : x = 2
  · refine lv_tableIn (tgt := 41) hx hb d_SF_bufferAt_1 (off := 40) (by rw [k3]; decide) (by rw [k3]; decide) (by rw [k3] <;> rfl) (by decide) ?_
    refine lv_aload_n hx hb d_SF_bufferAt_41 rfl (lv_at hl 0 rfl) ?_
    refine m_get hc hE hw h0 kc_SF l_SF_21_SF rfl d_SF_bufferAt_42 ?_
    refine m_get hc hE hw h2 kc_Question l_SF_179_Question rfl d_SF_bufferAt_45 ?_
    exact m_aret (r := (some A5)) hc hr hlk hw ⟨by first | decide | (dsimp only; omega), by first | decide | (dsimp only; omega)⟩ d_SF_bufferAt_48 ⟨rfl, Or.inr (Or.inr (Or.inl ⟨k3, congrArg some eA5⟩))⟩
  refine lv_tableOut (tgt := 49) hx hb d_SF_bufferAt_1 (by have := lv_neT k1 (show (0 : Int32).toInt = 0 by decide); have := lv_neT k2 (show (1 : Int32).toInt = 1 by decide); have := lv_neT k3 (show (2 : Int32).toInt = 2 by decide); omega) (by decide) ?_
  refine lv_null hx hb d_SF_bufferAt_49 ?_
  exact m_aret (r := none) hc hr hlk hw ⟨by first | decide | (dsimp only; omega), by first | decide | (dsimp only; omega)⟩ d_SF_bufferAt_50 ⟨rfl, Or.inr (Or.inr (Or.inr ⟨k1, k2, k3, rfl⟩))⟩

set_option maxHeartbeats 4000000 in
set_option maxRecDepth 100000 in
/-- filterAt(x) -/
theorem c_SF_filterAt (G : GG) (l : Launch) (sz : Nat) (f : Wd) {N root pn nn mn : Nat} {ad : Nat → Nat} {E : Nat → va_E} {g : Wd} {pt nt mt : Nat → Int32} {dp rf by_ co tx lx : Int32} {fl : Nat → Option FV} (hN : 9 ≤ N) (hRg : Rg N ad E g f) (hS : SC G ad E g root pn pt nn nt mn mt dp rf by_ co tx lx fl) (x : Int32) : Cq G l y_SF_filterAt b_SF_filterAt 2 (some (.object "StreamFilters$Filter")) ({ frames := 1, cells := 0, slots := 0, locals := 20 }) sz f [.ref root, .int x] (fun v f' => f = f' ∧ ((¬ (¬ x < 0 ∧ ¬ 10 ≤ x) ∧ v = none) ∨ ∃ k : Nat, k < 10 ∧ x = nI k ∧ ((v = none ∧ fl k = none) ∨ ∃ (a : Nat) (vv : FV), v = some a ∧ fl k = some vv ∧ RH G g a vv))) := by
  refine ct_of (by decide) (Nat.le_of_ble_eq_true rfl) ?_
  intro p e s m below meth c ls H locs hEn
  obtain ⟨hc, hr, hlk, hin, hE, hw, hsz, hl⟩ := hEn
  have hx := hc.1
  have hb := hc.2.1
  have hl : lv_has ls 2 [(0, .ref root), (1, .int x)] := hl
  obtain ⟨hroot, hPB, hNB, hMB, ⟨so, di, le, hQ⟩, ⟨fr, en, pi, li, nu, rj, sh, mf, me, nf, ne, hRd⟩, fa, hF8, hFL⟩ := hS
  obtain ⟨A0, eA0⟩ : ∃ z, z = ad 0 := ⟨_, rfl⟩
  obtain ⟨A1, eA1⟩ : ∃ z, z = ad 1 := ⟨_, rfl⟩
  obtain ⟨A2, eA2⟩ : ∃ z, z = ad 2 := ⟨_, rfl⟩
  obtain ⟨A3, eA3⟩ : ∃ z, z = ad 3 := ⟨_, rfl⟩
  obtain ⟨A4, eA4⟩ : ∃ z, z = ad 4 := ⟨_, rfl⟩
  obtain ⟨A5, eA5⟩ : ∃ z, z = ad 5 := ⟨_, rfl⟩
  obtain ⟨A6, eA6⟩ : ∃ z, z = ad 6 := ⟨_, rfl⟩
  obtain ⟨A7, eA7⟩ : ∃ z, z = ad 7 := ⟨_, rfl⟩
  obtain ⟨A8, eA8⟩ : ∃ z, z = ad 8 := ⟨_, rfl⟩
  have hgf := hRg.2.2.1
  have h0 : f root = some (.inr (0, [.ref A0, .ref A2, .ref A7, .ref A8])) := by rw [eA0, eA2, eA7, eA8]; exact hgf _ _ hroot
  have h2 : f A2 = some (.inr (2, [.ref A3, .ref A5, .int dp, .int rf, .int by_, .int so, .int di, .int le, .int co, .int tx, .int lx])) := by rw [eA2, eA3, eA5]; exact hRg.get 2 (by omega) hQ
  have h8 : f A8 = some (.inl (G.2.1 2, 10, .inr (.inr (.inr (.inr fa))))) := by rw [eA8]; exact hRg.get 8 (by omega) hF8
  have hsP : sg G f A0 A1 90 pn pt := by rw [eA0, eA1]; exact hPB.sg hRg (by omega) (by omega)
  have hsN : sg G f A3 A4 40 nn nt := by rw [eA3, eA4]; exact hNB.sg hRg (by omega) (by omega)
  have hsM : sg G f A5 A6 12 mn mt := by rw [eA5, eA6]; exact hMB.sg hRg (by omega) (by omega)
  refine lv_iload_n hx hb d_SF_filterAt_0 rfl (lv_at hl 1 rfl) ?_
  refine m_calli hw (m_runS (As := [.int x]) (rest := []) hc hE hw (c_SF_isPlace G l H.size f x) cw_SF_67 ss_SF_isPlace rfl hl.1 rfl (Nat.le_of_ble_eq_true rfl) d_SF_filterAt_1 ⟨rfl, rfl, by decide, by decide⟩ ⟨by first | decide | (dsimp only; omega), by first | decide | (dsimp only; omega)⟩) (fun r3 g2 H locs p1 hw => ?_)
  obtain ⟨rfl, p1⟩ := p1
  refine lv_if_eq (tgt := 16) hx hb d_SF_filterAt_4 (by decide) (fun c4 => ?_) (fun c4 => ?_)
  · refine lv_null hx hb d_SF_filterAt_16 ?_
    exact m_aret (r := none) hc hr hlk hw ⟨by first | decide | (dsimp only; omega), by first | decide | (dsimp only; omega)⟩ d_SF_filterAt_17 ⟨rfl, Or.inl ⟨bI_0.mp (p1.symm.trans c4), rfl⟩⟩
  · have hpl := bI_n.mp (fun z => c4 (p1.trans z))
    obtain ⟨k, hk, hxk⟩ : ∃ k : Nat, k < 10 ∧ x = nI k := vp_in_of (vin (n := 10) hpl.1 hpl.2 (Nat.le_refl 10) (by decide)) (by decide)
    refine lv_aload_n hx hb d_SF_filterAt_7 rfl (lv_at hl 0 rfl) ?_
    refine m_get hc hE hw h0 kc_SF l_SF_36_SF rfl d_SF_filterAt_8 ?_
    refine lv_iload_n hx hb d_SF_filterAt_11 rfl (lv_at hl 1 rfl) ?_
    refine m_aald hc hE hw 2 h8 rfl (vin (n := 10) hpl.1 hpl.2 (Nat.le_refl 10) (by decide)) d_SF_filterAt_12 ?_
    refine lv_goto (tgt := 17) hx hb d_SF_filterAt_13 (by decide) ?_
    have hcl : x.toNatClampNeg = k := by rw [hxk]; exact nI_clamp (by omega)
    exact m_aret (r := (fa x.toNatClampNeg)) hc hr hlk hw ⟨by first | decide | (dsimp only; omega), by first | decide | (dsimp only; omega)⟩ d_SF_filterAt_17 ⟨rfl, Or.inr ⟨k, hk, hxk, by rw [hcl]; exact hFL k hk⟩⟩
end
section
/-! links of the pools, as the walks ask for them -/
theorem l_SF_123_Question : lnk "StreamFilters" 123 F_Question 11 2 := ⟨by decide, "StreamFilters$Question", Or.inl rfl, Or.inl (tb 56 (by decide +kernel) rfl)⟩
theorem l_SF_126_Question : lnk "StreamFilters" 126 F_Question 11 3 := ⟨by decide, "StreamFilters$Question", Or.inl rfl, Or.inl (tb 58 (by decide +kernel) rfl)⟩
theorem l_SF_129_Question : lnk "StreamFilters" 129 F_Question 11 4 := ⟨by decide, "StreamFilters$Question", Or.inl rfl, Or.inl (tb 60 (by decide +kernel) rfl)⟩
theorem l_SF_144_Question : lnk "StreamFilters" 144 F_Question 11 8 := ⟨by decide, "StreamFilters$Question", Or.inl rfl, Or.inl (tb 71 (by decide +kernel) rfl)⟩
theorem l_SF_147_Question : lnk "StreamFilters" 147 F_Question 11 9 := ⟨by decide, "StreamFilters$Question", Or.inl rfl, Or.inl (tb 74 (by decide +kernel) rfl)⟩
theorem l_SF_150_Question : lnk "StreamFilters" 150 F_Question 11 10 := ⟨by decide, "StreamFilters$Question", Or.inl rfl, Or.inl (tb 77 (by decide +kernel) rfl)⟩
theorem cw_SF_172 : cwk "StreamFilters" 172 y_Signs_at b_Signs_at 2 (some .int) 1 := ⟨Or.inl (tb 607 (by decide +kernel) rfl), (tb 218 (by decide +kernel) rfl), (tb 2 (by decide +kernel) rfl), by decide, by decide, by decide +kernel⟩
theorem cw_SF_40 : cwk "StreamFilters" 40 y_SF_bufferAt b_SF_bufferAt 2 (some (.object "StreamFilters$Signs")) 1 := ⟨Or.inl (tb 169 (by decide +kernel) rfl), (tb 172 (by decide +kernel) rfl), (tb 1 (by decide +kernel) rfl), by decide, by decide, by decide +kernel⟩
theorem se_SF_bufferAt : Cond.instanceMethod y_SF_bufferAt ∈ TB ∧ Cond.selects "StreamFilters" y_SF_bufferAt y_SF_bufferAt ∈ TB := ⟨(tb 171 (by decide +kernel) rfl), (tbs 0 (by decide +kernel) rfl)⟩
/-! decode rows -/
theorem d_SF_stream_0 : decode b_SF_stream 0 = .ok (.iload_n 1, 1) := by decide +kernel
theorem d_SF_stream_1 : decode b_SF_stream 1 = .ok (.ifCond .lt 11, 3) := by decide +kernel
theorem d_SF_stream_4 : decode b_SF_stream 4 = .ok (.iload_n 2, 1) := by decide +kernel
theorem d_SF_stream_5 : decode b_SF_stream 5 = .ok (.ifCond .lt 7, 3) := by decide +kernel
theorem d_SF_stream_8 : decode b_SF_stream 8 = .ok (.iload_n 3, 1) := by decide +kernel
theorem d_SF_stream_9 : decode b_SF_stream 9 = .ok (.ifCond .ge 5, 3) := by decide +kernel
theorem d_SF_stream_12 : decode b_SF_stream 12 = .ok (.iconst (-1), 1) := by decide +kernel
theorem d_SF_stream_13 : decode b_SF_stream 13 = .ok (.ireturn, 1) := by decide +kernel
theorem d_SF_stream_14 : decode b_SF_stream 14 = .ok (.aload_n 0, 1) := by decide +kernel
theorem d_SF_stream_15 : decode b_SF_stream 15 = .ok (.getfield 21, 3) := by decide +kernel
theorem d_SF_stream_18 : decode b_SF_stream 18 = .ok (.iload_n 1, 1) := by decide +kernel
theorem d_SF_stream_19 : decode b_SF_stream 19 = .ok (.putfield 123, 3) := by decide +kernel
theorem d_SF_stream_22 : decode b_SF_stream 22 = .ok (.aload_n 0, 1) := by decide +kernel
theorem d_SF_stream_23 : decode b_SF_stream 23 = .ok (.getfield 21, 3) := by decide +kernel
theorem d_SF_stream_26 : decode b_SF_stream 26 = .ok (.iload_n 2, 1) := by decide +kernel
theorem d_SF_stream_27 : decode b_SF_stream 27 = .ok (.putfield 126, 3) := by decide +kernel
theorem d_SF_stream_30 : decode b_SF_stream 30 = .ok (.aload_n 0, 1) := by decide +kernel
theorem d_SF_stream_31 : decode b_SF_stream 31 = .ok (.getfield 21, 3) := by decide +kernel
theorem d_SF_stream_34 : decode b_SF_stream 34 = .ok (.iload_n 3, 1) := by decide +kernel
theorem d_SF_stream_35 : decode b_SF_stream 35 = .ok (.putfield 129, 3) := by decide +kernel
theorem d_SF_stream_38 : decode b_SF_stream 38 = .ok (.iconst 0, 1) := by decide +kernel
theorem d_SF_stream_39 : decode b_SF_stream 39 = .ok (.ireturn, 1) := by decide +kernel
theorem d_SF_trace_0 : decode b_SF_trace 0 = .ok (.iload_n 1, 1) := by decide +kernel
theorem d_SF_trace_1 : decode b_SF_trace 1 = .ok (.tableswitch 51 0 2 #[27, 35, 43], 27) := by decide +kernel
theorem d_SF_trace_28 : decode b_SF_trace 28 = .ok (.aload_n 0, 1) := by decide +kernel
theorem d_SF_trace_29 : decode b_SF_trace 29 = .ok (.getfield 21, 3) := by decide +kernel
theorem d_SF_trace_32 : decode b_SF_trace 32 = .ok (.getfield 144, 3) := by decide +kernel
theorem d_SF_trace_35 : decode b_SF_trace 35 = .ok (.ireturn, 1) := by decide +kernel
theorem d_SF_trace_36 : decode b_SF_trace 36 = .ok (.aload_n 0, 1) := by decide +kernel
theorem d_SF_trace_37 : decode b_SF_trace 37 = .ok (.getfield 21, 3) := by decide +kernel
theorem d_SF_trace_40 : decode b_SF_trace 40 = .ok (.getfield 147, 3) := by decide +kernel
theorem d_SF_trace_43 : decode b_SF_trace 43 = .ok (.ireturn, 1) := by decide +kernel
theorem d_SF_trace_44 : decode b_SF_trace 44 = .ok (.aload_n 0, 1) := by decide +kernel
theorem d_SF_trace_45 : decode b_SF_trace 45 = .ok (.getfield 21, 3) := by decide +kernel
theorem d_SF_trace_48 : decode b_SF_trace 48 = .ok (.getfield 150, 3) := by decide +kernel
theorem d_SF_trace_51 : decode b_SF_trace 51 = .ok (.ireturn, 1) := by decide +kernel
theorem d_SF_trace_52 : decode b_SF_trace 52 = .ok (.iconst (-1), 1) := by decide +kernel
theorem d_SF_trace_53 : decode b_SF_trace 53 = .ok (.ireturn, 1) := by decide +kernel
theorem d_SF_sign_0 : decode b_SF_sign 0 = .ok (.aload_n 0, 1) := by decide +kernel
theorem d_SF_sign_1 : decode b_SF_sign 1 = .ok (.iload_n 1, 1) := by decide +kernel
theorem d_SF_sign_2 : decode b_SF_sign 2 = .ok (.invokevirtual 40, 3) := by decide +kernel
theorem d_SF_sign_5 : decode b_SF_sign 5 = .ok (.astore_n 3, 1) := by decide +kernel
theorem d_SF_sign_6 : decode b_SF_sign 6 = .ok (.aload_n 3, 1) := by decide +kernel
theorem d_SF_sign_7 : decode b_SF_sign 7 = .ok (.ifnonnull 7, 3) := by decide +kernel
theorem d_SF_sign_10 : decode b_SF_sign 10 = .ok (.iconst (-1), 1) := by decide +kernel
theorem d_SF_sign_11 : decode b_SF_sign 11 = .ok (.goto 8, 3) := by decide +kernel
theorem d_SF_sign_14 : decode b_SF_sign 14 = .ok (.aload_n 3, 1) := by decide +kernel
theorem d_SF_sign_15 : decode b_SF_sign 15 = .ok (.iload_n 2, 1) := by decide +kernel
theorem d_SF_sign_16 : decode b_SF_sign 16 = .ok (.invokevirtual 172, 3) := by decide +kernel
theorem d_SF_sign_19 : decode b_SF_sign 19 = .ok (.ireturn, 1) := by decide +kernel
set_option maxHeartbeats 4000000 in
set_option maxRecDepth 100000 in
/-- sign(x, i0) -/
theorem c_SF_sign (G : GG) (l : Launch) (sz : Nat) (f : Wd) {N root pn nn mn : Nat} {ad : Nat → Nat} {E : Nat → va_E} {g : Wd} {pt nt mt : Nat → Int32} {dp rf by_ co tx lx : Int32} {fl : Nat → Option FV} (hN : 9 ≤ N) (hRg : Rg N ad E g f) (hS : SC G ad E g root pn pt nn nt mn mt dp rf by_ co tx lx fl) (x i0 : Int32) : Ci G l y_SF_sign b_SF_sign 4 (some .int) ({ frames := 1, cells := 0, slots := 0, locals := 21 }) sz f [.ref root, .int x, .int i0] (fun v f' => v = pif (x = 0) (atv pn pt i0) (pif (x = 1) (atv nn nt i0) (pif (x = 2) (atv mn mt i0) (-1))) ∧ SCR G N ad E g root f' pn pt nn nt mn mt dp rf by_ co tx lx fl) := by
  refine ct_of (by decide) (Nat.le_of_ble_eq_true rfl) ?_
  intro p e s m below meth c ls H locs hEn
  obtain ⟨hc, hr, hlk, hin, hE, hw, hsz, hl⟩ := hEn
  have hx := hc.1
  have hb := hc.2.1
  have hl : lv_has ls 4 [(0, .ref root), (1, .int x), (2, .int i0)] := hl
  have hS0 := hS
  obtain ⟨hroot, hPB, hNB, hMB, ⟨so, di, le, hQ⟩, ⟨fr, en, pi, li, nu, rj, sh, mf, me, nf, ne, hRd⟩, fa, hF8, hFL⟩ := hS
  obtain ⟨A0, eA0⟩ : ∃ z, z = ad 0 := ⟨_, rfl⟩
  obtain ⟨A1, eA1⟩ : ∃ z, z = ad 1 := ⟨_, rfl⟩
  obtain ⟨A2, eA2⟩ : ∃ z, z = ad 2 := ⟨_, rfl⟩
  obtain ⟨A3, eA3⟩ : ∃ z, z = ad 3 := ⟨_, rfl⟩
  obtain ⟨A4, eA4⟩ : ∃ z, z = ad 4 := ⟨_, rfl⟩
  obtain ⟨A5, eA5⟩ : ∃ z, z = ad 5 := ⟨_, rfl⟩
  obtain ⟨A6, eA6⟩ : ∃ z, z = ad 6 := ⟨_, rfl⟩
  obtain ⟨A7, eA7⟩ : ∃ z, z = ad 7 := ⟨_, rfl⟩
  obtain ⟨A8, eA8⟩ : ∃ z, z = ad 8 := ⟨_, rfl⟩
  have hgf := hRg.2.2.1
  have h0 : f root = some (.inr (0, [.ref A0, .ref A2, .ref A7, .ref A8])) := by rw [eA0, eA2, eA7, eA8]; exact hgf _ _ hroot
  have h2 : f A2 = some (.inr (2, [.ref A3, .ref A5, .int dp, .int rf, .int by_, .int so, .int di, .int le, .int co, .int tx, .int lx])) := by rw [eA2, eA3, eA5]; exact hRg.get 2 (by omega) hQ
  have h8 : f A8 = some (.inl (G.2.1 2, 10, .inr (.inr (.inr (.inr fa))))) := by rw [eA8]; exact hRg.get 8 (by omega) hF8
  have hsP : sg G f A0 A1 90 pn pt := by rw [eA0, eA1]; exact hPB.sg hRg (by omega) (by omega)
  have hsN : sg G f A3 A4 40 nn nt := by rw [eA3, eA4]; exact hNB.sg hRg (by omega) (by omega)
  have hsM : sg G f A5 A6 12 mn mt := by rw [eA5, eA6]; exact hMB.sg hRg (by omega) (by omega)
  refine lv_aload_n hx hb d_SF_sign_0 rfl (lv_at hl 0 rfl) ?_
  refine lv_iload_n hx hb d_SF_sign_1 rfl (lv_at hl 1 rfl) ?_
  refine m_callq hw (m_runV (As := [.int x]) (rest := []) hc hE hw (c_SF_bufferAt G l H.size f hN hRg hS0 x) h0 rfl cw_SF_40 se_SF_bufferAt rfl hl.1 rfl (Nat.le_of_ble_eq_true rfl) d_SF_sign_2 ⟨rfl, rfl, by decide, by decide⟩ ⟨by first | decide | (dsimp only; omega), by first | decide | (dsimp only; omega)⟩) (fun r3 g2 H locs p1 hw => ?_)
  obtain ⟨rfl, hbf⟩ := p1
  rcases hbf with ⟨hbx, hv⟩ | ⟨hbx, hv⟩ | ⟨hbx, hv⟩ | ⟨hx0, hx1, hx2, hv⟩
  · rw [← eA0] at hv; subst hv
    refine lv_astore_n (lv' := [(3, .ref A0), (0, .ref root), (1, .int x), (2, .int i0)]) hx hb d_SF_sign_5 rfl hl (by decide) rfl (fun ls hl => ?_)
    refine lv_aload_n hx hb d_SF_sign_6 rfl (lv_at hl 0 rfl) ?_
    refine lv_ifnonnull (tgt := 14) hx hb d_SF_sign_7 (by decide) ?_
    refine lv_aload_n hx hb d_SF_sign_14 rfl (lv_at hl 0 rfl) ?_
    refine lv_iload_n hx hb d_SF_sign_15 rfl (lv_at hl 3 rfl) ?_
    refine m_calli hw (m_runV (As := [.int i0]) (rest := []) hc hE hw (c_Signs_at G l H.size f hsP i0) hsP.1 rfl cw_SF_172 se_Signs_at rfl hl.1 rfl (Nat.le_of_ble_eq_true rfl) d_SF_sign_16 ⟨rfl, rfl, by decide, by decide⟩ ⟨by first | decide | (dsimp only; omega), by first | decide | (dsimp only; omega)⟩) (fun r6 g5 H locs p4 hw => ?_)
    obtain ⟨rfl, p4⟩ := p4
    exact m_iret hc hr hlk hw ⟨by first | decide | (dsimp only; omega), by first | decide | (dsimp only; omega)⟩ d_SF_sign_19 ⟨by rw [pif_t hbx]; exact p4, ⟨E, g, hRg, gle.rf, fun _ _ => rfl, hS0⟩⟩
  · rw [← eA3] at hv; subst hv
    refine lv_astore_n (lv' := [(3, .ref A3), (0, .ref root), (1, .int x), (2, .int i0)]) hx hb d_SF_sign_5 rfl hl (by decide) rfl (fun ls hl => ?_)
    refine lv_aload_n hx hb d_SF_sign_6 rfl (lv_at hl 0 rfl) ?_
    refine lv_ifnonnull (tgt := 14) hx hb d_SF_sign_7 (by decide) ?_
    refine lv_aload_n hx hb d_SF_sign_14 rfl (lv_at hl 0 rfl) ?_
    refine lv_iload_n hx hb d_SF_sign_15 rfl (lv_at hl 3 rfl) ?_
    refine m_calli hw (m_runV (As := [.int i0]) (rest := []) hc hE hw (c_Signs_at G l H.size f hsN i0) hsN.1 rfl cw_SF_172 se_Signs_at rfl hl.1 rfl (Nat.le_of_ble_eq_true rfl) d_SF_sign_16 ⟨rfl, rfl, by decide, by decide⟩ ⟨by first | decide | (dsimp only; omega), by first | decide | (dsimp only; omega)⟩) (fun r9 g8 H locs p7 hw => ?_)
    obtain ⟨rfl, p7⟩ := p7
    exact m_iret hc hr hlk hw ⟨by first | decide | (dsimp only; omega), by first | decide | (dsimp only; omega)⟩ d_SF_sign_19 ⟨by rw [pif_f (by rw [hbx]; decide), pif_t hbx]; exact p7, ⟨E, g, hRg, gle.rf, fun _ _ => rfl, hS0⟩⟩
  · rw [← eA5] at hv; subst hv
    refine lv_astore_n (lv' := [(3, .ref A5), (0, .ref root), (1, .int x), (2, .int i0)]) hx hb d_SF_sign_5 rfl hl (by decide) rfl (fun ls hl => ?_)
    refine lv_aload_n hx hb d_SF_sign_6 rfl (lv_at hl 0 rfl) ?_
    refine lv_ifnonnull (tgt := 14) hx hb d_SF_sign_7 (by decide) ?_
    refine lv_aload_n hx hb d_SF_sign_14 rfl (lv_at hl 0 rfl) ?_
    refine lv_iload_n hx hb d_SF_sign_15 rfl (lv_at hl 3 rfl) ?_
    refine m_calli hw (m_runV (As := [.int i0]) (rest := []) hc hE hw (c_Signs_at G l H.size f hsM i0) hsM.1 rfl cw_SF_172 se_Signs_at rfl hl.1 rfl (Nat.le_of_ble_eq_true rfl) d_SF_sign_16 ⟨rfl, rfl, by decide, by decide⟩ ⟨by first | decide | (dsimp only; omega), by first | decide | (dsimp only; omega)⟩) (fun r12 g11 H locs p10 hw => ?_)
    obtain ⟨rfl, p10⟩ := p10
    exact m_iret hc hr hlk hw ⟨by first | decide | (dsimp only; omega), by first | decide | (dsimp only; omega)⟩ d_SF_sign_19 ⟨by rw [pif_f (by rw [hbx]; decide), pif_f (by rw [hbx]; decide), pif_t hbx]; exact p10, ⟨E, g, hRg, gle.rf, fun _ _ => rfl, hS0⟩⟩
  · subst hv
    refine lv_astore_nN (lv' := [(3, .null), (0, .ref root), (1, .int x), (2, .int i0)]) hx hb d_SF_sign_5 rfl hl (by decide) rfl (fun ls hl => ?_)
    refine lv_aload_nN hx hb d_SF_sign_6 rfl (lv_at hl 0 rfl) ?_
    refine lv_ifnonnullN hx hb d_SF_sign_7 ?_
    refine lv_iconst (v := (-1)) hx hb d_SF_sign_10 (by decide) ?_
    refine lv_goto (tgt := 19) hx hb d_SF_sign_11 (by decide) ?_
    exact m_iret hc hr hlk hw ⟨by first | decide | (dsimp only; omega), by first | decide | (dsimp only; omega)⟩ d_SF_sign_19 ⟨by rw [pif_f hx0, pif_f hx1, pif_f hx2], ⟨E, g, hRg, gle.rf, fun _ _ => rfl, hS0⟩⟩

set_option maxHeartbeats 4000000 in
set_option maxRecDepth 100000 in
/-- trace(x) -/
theorem c_SF_trace (G : GG) (l : Launch) (sz : Nat) (f : Wd) {N root pn nn mn : Nat} {ad : Nat → Nat} {E : Nat → va_E} {g : Wd} {pt nt mt : Nat → Int32} {dp rf by_ co tx lx : Int32} {fl : Nat → Option FV} (hN : 9 ≤ N) (hRg : Rg N ad E g f) (hS : SC G ad E g root pn pt nn nt mn mt dp rf by_ co tx lx fl) (x : Int32) : Ci G l y_SF_trace b_SF_trace 2 (some .int) ({ frames := 0, cells := 0, slots := 0, locals := 0 }) sz f [.ref root, .int x] (fun v f' => v = pif (x = 0) co (pif (x = 1) tx (pif (x = 2) lx (-1))) ∧ SCR G N ad E g root f' pn pt nn nt mn mt dp rf by_ co tx lx fl) := by
  refine ct_of (by decide) (Nat.le_of_ble_eq_true rfl) ?_
  intro p e s m below meth c ls H locs hEn
  obtain ⟨hc, hr, hlk, hin, hE, hw, hsz, hl⟩ := hEn
  have hx := hc.1
  have hb := hc.2.1
  have hl : lv_has ls 2 [(0, .ref root), (1, .int x)] := hl
  have hS0 := hS
  obtain ⟨hroot, hPB, hNB, hMB, ⟨so, di, le, hQ⟩, ⟨fr, en, pi, li, nu, rj, sh, mf, me, nf, ne, hRd⟩, fa, hF8, hFL⟩ := hS
  obtain ⟨A0, eA0⟩ : ∃ z, z = ad 0 := ⟨_, rfl⟩
  obtain ⟨A1, eA1⟩ : ∃ z, z = ad 1 := ⟨_, rfl⟩
  obtain ⟨A2, eA2⟩ : ∃ z, z = ad 2 := ⟨_, rfl⟩
  obtain ⟨A3, eA3⟩ : ∃ z, z = ad 3 := ⟨_, rfl⟩
  obtain ⟨A4, eA4⟩ : ∃ z, z = ad 4 := ⟨_, rfl⟩
  obtain ⟨A5, eA5⟩ : ∃ z, z = ad 5 := ⟨_, rfl⟩
  obtain ⟨A6, eA6⟩ : ∃ z, z = ad 6 := ⟨_, rfl⟩
  obtain ⟨A7, eA7⟩ : ∃ z, z = ad 7 := ⟨_, rfl⟩
  obtain ⟨A8, eA8⟩ : ∃ z, z = ad 8 := ⟨_, rfl⟩
  have hgf := hRg.2.2.1
  have h0 : f root = some (.inr (0, [.ref A0, .ref A2, .ref A7, .ref A8])) := by rw [eA0, eA2, eA7, eA8]; exact hgf _ _ hroot
  have h2 : f A2 = some (.inr (2, [.ref A3, .ref A5, .int dp, .int rf, .int by_, .int so, .int di, .int le, .int co, .int tx, .int lx])) := by rw [eA2, eA3, eA5]; exact hRg.get 2 (by omega) hQ
  have h8 : f A8 = some (.inl (G.2.1 2, 10, .inr (.inr (.inr (.inr fa))))) := by rw [eA8]; exact hRg.get 8 (by omega) hF8
  have hsP : sg G f A0 A1 90 pn pt := by rw [eA0, eA1]; exact hPB.sg hRg (by omega) (by omega)
  have hsN : sg G f A3 A4 40 nn nt := by rw [eA3, eA4]; exact hNB.sg hRg (by omega) (by omega)
  have hsM : sg G f A5 A6 12 mn mt := by rw [eA5, eA6]; exact hMB.sg hRg (by omega) (by omega)
  refine lv_iload_n hx hb d_SF_trace_0 rfl (lv_at hl 1 rfl) ?_
  by_cases k1 : x = 0
  · refine lv_tableIn (tgt := 28) hx hb d_SF_trace_1 (off := 27) (by rw [k1]; decide) (by rw [k1]; decide) (by rw [k1] <;> rfl) (by decide) ?_
    refine lv_aload_n hx hb d_SF_trace_28 rfl (lv_at hl 0 rfl) ?_
    refine m_get hc hE hw h0 kc_SF l_SF_21_SF rfl d_SF_trace_29 ?_
    refine m_get hc hE hw h2 kc_Question l_SF_144_Question rfl d_SF_trace_32 ?_
    exact m_iret hc hr hlk hw ⟨by first | decide | (dsimp only; omega), by first | decide | (dsimp only; omega)⟩ d_SF_trace_35 ⟨by rw [pif_t k1], ⟨E, g, hRg, gle.rf, fun _ _ => rfl, hS0⟩⟩
  by_cases k2 : x = 1
  · refine lv_tableIn (tgt := 36) hx hb d_SF_trace_1 (off := 35) (by rw [k2]; decide) (by rw [k2]; decide) (by rw [k2] <;> rfl) (by decide) ?_
    refine lv_aload_n hx hb d_SF_trace_36 rfl (lv_at hl 0 rfl) ?_
    refine m_get hc hE hw h0 kc_SF l_SF_21_SF rfl d_SF_trace_37 ?_
    refine m_get hc hE hw h2 kc_Question l_SF_147_Question rfl d_SF_trace_40 ?_
    exact m_iret hc hr hlk hw ⟨by first | decide | (dsimp only; omega), by first | decide | (dsimp only; omega)⟩ d_SF_trace_43 ⟨by rw [pif_f k1, pif_t k2], ⟨E, g, hRg, gle.rf, fun _ _ => rfl, hS0⟩⟩
  by_cases k3 : x = 2
  · refine lv_tableIn (tgt := 44) hx hb d_SF_trace_1 (off := 43) (by rw [k3]; decide) (by rw [k3]; decide) (by rw [k3] <;> rfl) (by decide) ?_
    refine lv_aload_n hx hb d_SF_trace_44 rfl (lv_at hl 0 rfl) ?_
    refine m_get hc hE hw h0 kc_SF l_SF_21_SF rfl d_SF_trace_45 ?_
    refine m_get hc hE hw h2 kc_Question l_SF_150_Question rfl d_SF_trace_48 ?_
    exact m_iret hc hr hlk hw ⟨by first | decide | (dsimp only; omega), by first | decide | (dsimp only; omega)⟩ d_SF_trace_51 ⟨by rw [pif_f k1, pif_f k2, pif_t k3], ⟨E, g, hRg, gle.rf, fun _ _ => rfl, hS0⟩⟩
  refine lv_tableOut (tgt := 52) hx hb d_SF_trace_1 (by have := lv_neT k1 (show (0 : Int32).toInt = 0 by decide); have := lv_neT k2 (show (1 : Int32).toInt = 1 by decide); have := lv_neT k3 (show (2 : Int32).toInt = 2 by decide); omega) (by decide) ?_
  refine lv_iconst (v := (-1)) hx hb d_SF_trace_52 (by decide) ?_
  exact m_iret hc hr hlk hw ⟨by first | decide | (dsimp only; omega), by first | decide | (dsimp only; omega)⟩ d_SF_trace_53 ⟨by rw [pif_f k1, pif_f k2, pif_f k3], ⟨E, g, hRg, gle.rf, fun _ _ => rfl, hS0⟩⟩

set_option maxHeartbeats 4000000 in
set_option maxRecDepth 100000 in
/-- stream(d1, r1, b1) -/
theorem c_SF_stream (G : GG) (l : Launch) (sz : Nat) (f : Wd) {N root pn nn mn : Nat} {ad : Nat → Nat} {E : Nat → va_E} {g : Wd} {pt nt mt : Nat → Int32} {dp rf by_ co tx lx : Int32} {fl : Nat → Option FV} (hN : 9 ≤ N) (hRg : Rg N ad E g f) (hS : SC G ad E g root pn pt nn nt mn mt dp rf by_ co tx lx fl) (d1 r1 b1 : Int32) : Ci G l y_SF_stream b_SF_stream 4 (some .int) ({ frames := 0, cells := 0, slots := 0, locals := 0 }) sz f [.ref root, .int d1, .int r1, .int b1] (fun v f' => (((d1 < 0 ∨ r1 < 0 ∨ b1 < 0) → v = -1 ∧ SCR G N ad E g root f' pn pt nn nt mn mt dp rf by_ co tx lx fl) ∧ (¬ (d1 < 0 ∨ r1 < 0 ∨ b1 < 0) → v = 0 ∧ SCR G N ad E g root f' pn pt nn nt mn mt d1 r1 b1 co tx lx fl))) := by
  refine ct_of (by decide) (Nat.le_of_ble_eq_true rfl) ?_
  intro p e s m below meth c ls H locs hEn
  obtain ⟨hc, hr, hlk, hin, hE, hw, hsz, hl⟩ := hEn
  have hx := hc.1
  have hb := hc.2.1
  have hl : lv_has ls 4 [(0, .ref root), (1, .int d1), (2, .int r1), (3, .int b1)] := hl
  have hS0 := hS
  obtain ⟨hroot, hPB, hNB, hMB, ⟨so, di, le, hQ⟩, ⟨fr, en, pi, li, nu, rj, sh, mf, me, nf, ne, hRd⟩, fa, hF8, hFL⟩ := hS
  obtain ⟨A0, eA0⟩ : ∃ z, z = ad 0 := ⟨_, rfl⟩
  obtain ⟨A1, eA1⟩ : ∃ z, z = ad 1 := ⟨_, rfl⟩
  obtain ⟨A2, eA2⟩ : ∃ z, z = ad 2 := ⟨_, rfl⟩
  obtain ⟨A3, eA3⟩ : ∃ z, z = ad 3 := ⟨_, rfl⟩
  obtain ⟨A4, eA4⟩ : ∃ z, z = ad 4 := ⟨_, rfl⟩
  obtain ⟨A5, eA5⟩ : ∃ z, z = ad 5 := ⟨_, rfl⟩
  obtain ⟨A6, eA6⟩ : ∃ z, z = ad 6 := ⟨_, rfl⟩
  obtain ⟨A7, eA7⟩ : ∃ z, z = ad 7 := ⟨_, rfl⟩
  obtain ⟨A8, eA8⟩ : ∃ z, z = ad 8 := ⟨_, rfl⟩
  have hgf := hRg.2.2.1
  have h0 : f root = some (.inr (0, [.ref A0, .ref A2, .ref A7, .ref A8])) := by rw [eA0, eA2, eA7, eA8]; exact hgf _ _ hroot
  have h2 : f A2 = some (.inr (2, [.ref A3, .ref A5, .int dp, .int rf, .int by_, .int so, .int di, .int le, .int co, .int tx, .int lx])) := by rw [eA2, eA3, eA5]; exact hRg.get 2 (by omega) hQ
  have h8 : f A8 = some (.inl (G.2.1 2, 10, .inr (.inr (.inr (.inr fa))))) := by rw [eA8]; exact hRg.get 8 (by omega) hF8
  have hsP : sg G f A0 A1 90 pn pt := by rw [eA0, eA1]; exact hPB.sg hRg (by omega) (by omega)
  have hsN : sg G f A3 A4 40 nn nt := by rw [eA3, eA4]; exact hNB.sg hRg (by omega) (by omega)
  have hsM : sg G f A5 A6 12 mn mt := by rw [eA5, eA6]; exact hMB.sg hRg (by omega) (by omega)
  refine lv_iload_n hx hb d_SF_stream_0 rfl (lv_at hl 1 rfl) ?_
  refine lv_if_lt (tgt := 12) hx hb d_SF_stream_1 (by decide) (fun c1 => ?_) (fun c1 => ?_)
  · refine lv_iconst (v := (-1)) hx hb d_SF_stream_12 (by decide) ?_
    exact m_iret hc hr hlk hw ⟨by first | decide | (dsimp only; omega), by first | decide | (dsimp only; omega)⟩ d_SF_stream_13 ⟨fun _ => ⟨rfl, ⟨E, g, hRg, gle.rf, fun _ _ => rfl, hS0⟩⟩, fun z => absurd (Or.inl c1) z⟩
  · refine lv_iload_n hx hb d_SF_stream_4 rfl (lv_at hl 2 rfl) ?_
    refine lv_if_lt (tgt := 12) hx hb d_SF_stream_5 (by decide) (fun c2 => ?_) (fun c2 => ?_)
    · refine lv_iconst (v := (-1)) hx hb d_SF_stream_12 (by decide) ?_
      exact m_iret hc hr hlk hw ⟨by first | decide | (dsimp only; omega), by first | decide | (dsimp only; omega)⟩ d_SF_stream_13 ⟨fun _ => ⟨rfl, ⟨E, g, hRg, gle.rf, fun _ _ => rfl, hS0⟩⟩, fun z => absurd (Or.inr (Or.inl c2)) z⟩
    · refine lv_iload_n hx hb d_SF_stream_8 rfl (lv_at hl 3 rfl) ?_
      refine lv_if_ge (tgt := 14) hx hb d_SF_stream_9 (by decide) (fun c3 => ?_) (fun c3 => ?_)
      · refine lv_aload_n hx hb d_SF_stream_14 rfl (lv_at hl 0 rfl) ?_
        refine m_get hc hE hw h0 kc_SF l_SF_21_SF rfl d_SF_stream_15 ?_
        refine lv_iload_n hx hb d_SF_stream_18 rfl (lv_at hl 1 rfl) ?_
        refine m_put hc hE hw h2 kc_Question l_SF_123_Question rfl ds_Question_2 rfl rfl (Nat.le_of_ble_eq_true rfl) d_SF_stream_19 (fun H locs hw => ?_)
        obtain ⟨f4, ef4⟩ : ∃ z : Wd, z = va_up f A2 (some (.inr (2, [.ref A3, .ref A5, .int d1, .int rf, .int by_, .int so, .int di, .int le, .int co, .int tx, .int lx]))) := ⟨_, rfl⟩
        replace hw : ms G.1 (Af f sz) f4 s H locs := by rw [ef4]; exact hw
        have h5 : f4 root = some (.inr (0, [.ref A0, .ref A2, .ref A7, .ref A8])) := by rw [ef4, va_up_ne _ _ (wne h0 h2 (wd_oo (by decide)))]; exact h0
        have h6 : f4 A2 = some (.inr (2, [.ref A3, .ref A5, .int d1, .int rf, .int by_, .int so, .int di, .int le, .int co, .int tx, .int lx])) := by rw [ef4, va_up_self]
        refine lv_aload_n hx hb d_SF_stream_22 rfl (lv_at hl 0 rfl) ?_
        refine m_get hc hE hw h5 kc_SF l_SF_21_SF rfl d_SF_stream_23 ?_
        refine lv_iload_n hx hb d_SF_stream_26 rfl (lv_at hl 2 rfl) ?_
        refine m_put hc hE hw h6 kc_Question l_SF_126_Question rfl ds_Question_3 rfl rfl (Nat.le_of_ble_eq_true rfl) d_SF_stream_27 (fun H locs hw => ?_)
        obtain ⟨f7, ef7⟩ : ∃ z : Wd, z = va_up f4 A2 (some (.inr (2, [.ref A3, .ref A5, .int d1, .int r1, .int by_, .int so, .int di, .int le, .int co, .int tx, .int lx]))) := ⟨_, rfl⟩
        replace hw : ms G.1 (Af f sz) f7 s H locs := by rw [ef7]; exact hw
        have h8 : f7 root = some (.inr (0, [.ref A0, .ref A2, .ref A7, .ref A8])) := by rw [ef7, va_up_ne _ _ (wne h5 h6 (wd_oo (by decide)))]; exact h5
        have h9 : f7 A2 = some (.inr (2, [.ref A3, .ref A5, .int d1, .int r1, .int by_, .int so, .int di, .int le, .int co, .int tx, .int lx])) := by rw [ef7, va_up_self]
        refine lv_aload_n hx hb d_SF_stream_30 rfl (lv_at hl 0 rfl) ?_
        refine m_get hc hE hw h8 kc_SF l_SF_21_SF rfl d_SF_stream_31 ?_
        refine lv_iload_n hx hb d_SF_stream_34 rfl (lv_at hl 3 rfl) ?_
        refine m_put hc hE hw h9 kc_Question l_SF_129_Question rfl ds_Question_4 rfl rfl (Nat.le_of_ble_eq_true rfl) d_SF_stream_35 (fun H locs hw => ?_)
        obtain ⟨f10, ef10⟩ : ∃ z : Wd, z = va_up f7 A2 (some (.inr (2, [.ref A3, .ref A5, .int d1, .int r1, .int b1, .int so, .int di, .int le, .int co, .int tx, .int lx]))) := ⟨_, rfl⟩
        replace hw : ms G.1 (Af f sz) f10 s H locs := by rw [ef10]; exact hw
        have h11 : f10 root = some (.inr (0, [.ref A0, .ref A2, .ref A7, .ref A8])) := by rw [ef10, va_up_ne _ _ (wne h8 h9 (wd_oo (by decide)))]; exact h8
        have h12 : f10 A2 = some (.inr (2, [.ref A3, .ref A5, .int d1, .int r1, .int b1, .int so, .int di, .int le, .int co, .int tx, .int lx])) := by rw [ef10, va_up_self]
        refine lv_iconst (v := 0) hx hb d_SF_stream_38 (by decide) ?_
        have hno : ¬ (d1 < 0 ∨ r1 < 0 ∨ b1 < 0) := fun z => z.elim c1 (fun z => z.elim c2 (Int32.not_lt.mpr c3))
        have hfx : f10 = va_up f (ad 2) (some (.inr (2, [.ref (ad 3), .ref (ad 5), .int d1, .int r1, .int b1, .int so, .int di, .int le, .int co, .int tx, .int lx]))) := by rw [ef10, ef7, up_uu, ef4, up_uu, eA2, eA3, eA5]
        exact m_iret hc hr hlk hw ⟨by first | decide | (dsimp only; omega), by first | decide | (dsimp only; omega)⟩ d_SF_stream_39 ⟨fun z => absurd z hno, fun _ => ⟨rfl, _, g, by rw [hfx]; exact hRg.up 2 (by omega) _, gle.rf, fun k hk => va_up_ne _ _ (by omega), hS0.q d1 r1 b1 so di le co tx lx⟩⟩
      · refine lv_iconst (v := (-1)) hx hb d_SF_stream_12 (by decide) ?_
        exact m_iret hc hr hlk hw ⟨by first | decide | (dsimp only; omega), by first | decide | (dsimp only; omega)⟩ d_SF_stream_13 ⟨fun _ => ⟨rfl, ⟨E, g, hRg, gle.rf, fun _ _ => rfl, hS0⟩⟩, fun z => absurd (Or.inr (Or.inr (Int32.not_le.mp c3))) z⟩
end
section
/-! links of the pools, as the walks ask for them -/
theorem l_SF_30_SF : lnk "StreamFilters" 30 F_SF 4 2 := ⟨by decide, "StreamFilters", Or.inl rfl, Or.inl (tb 154 (by decide +kernel) rfl)⟩
theorem cw_SF_64 : cwk "StreamFilters" 64 y_Signs_takeAll b_Signs_takeAll 2 (some .int) 0 := ⟨Or.inl (tb 195 (by decide +kernel) rfl), (tb 198 (by decide +kernel) rfl), (tb 2 (by decide +kernel) rfl), by decide, by decide, by decide +kernel⟩
theorem cw_SF_70 : cwk "StreamFilters" 70 y_PieceReader_firstBroken b_PieceReader_firstBroken 3 (some .int) 0 := ⟨Or.inl (tb 206 (by decide +kernel) rfl), (tb 209 (by decide +kernel) rfl), (tb 4 (by decide +kernel) rfl), by decide, by decide, by decide +kernel⟩
theorem se_PieceReader_firstBroken : Cond.instanceMethod y_PieceReader_firstBroken ∈ TB ∧ Cond.selects "StreamFilters$PieceReader" y_PieceReader_firstBroken y_PieceReader_firstBroken ∈ TB := ⟨(tb 207 (by decide +kernel) rfl), (tb 208 (by decide +kernel) rfl)⟩
theorem se_Signs_takeAll : Cond.instanceMethod y_Signs_takeAll ∈ TB ∧ Cond.selects "StreamFilters$Signs" y_Signs_takeAll y_Signs_takeAll ∈ TB := ⟨(tb 196 (by decide +kernel) rfl), (tb 197 (by decide +kernel) rfl)⟩
/-! decode rows -/
theorem d_SF_clear_0 : decode b_SF_clear 0 = .ok (.aload_n 0, 1) := by decide +kernel
theorem d_SF_clear_1 : decode b_SF_clear 1 = .ok (.iload_n 1, 1) := by decide +kernel
theorem d_SF_clear_2 : decode b_SF_clear 2 = .ok (.invokevirtual 40, 3) := by decide +kernel
theorem d_SF_clear_5 : decode b_SF_clear 5 = .ok (.astore_n 2, 1) := by decide +kernel
theorem d_SF_clear_6 : decode b_SF_clear 6 = .ok (.aload_n 2, 1) := by decide +kernel
theorem d_SF_clear_7 : decode b_SF_clear 7 = .ok (.ifnonnull 7, 3) := by decide +kernel
theorem d_SF_clear_10 : decode b_SF_clear 10 = .ok (.iconst (-1), 1) := by decide +kernel
theorem d_SF_clear_11 : decode b_SF_clear 11 = .ok (.goto 7, 3) := by decide +kernel
theorem d_SF_clear_14 : decode b_SF_clear 14 = .ok (.aload_n 2, 1) := by decide +kernel
theorem d_SF_clear_15 : decode b_SF_clear 15 = .ok (.invokevirtual 64, 3) := by decide +kernel
theorem d_SF_clear_18 : decode b_SF_clear 18 = .ok (.ireturn, 1) := by decide +kernel
theorem d_SF_fault_0 : decode b_SF_fault 0 = .ok (.aload_n 0, 1) := by decide +kernel
theorem d_SF_fault_1 : decode b_SF_fault 1 = .ok (.getfield 30, 3) := by decide +kernel
theorem d_SF_fault_4 : decode b_SF_fault 4 = .ok (.invokevirtual 70, 3) := by decide +kernel
theorem d_SF_fault_7 : decode b_SF_fault 7 = .ok (.ireturn, 1) := by decide +kernel
set_option maxHeartbeats 4000000 in
set_option maxRecDepth 100000 in
/-- clear(x) -/
theorem c_SF_clear (G : GG) (l : Launch) (sz : Nat) (f : Wd) {N root pn nn mn : Nat} {ad : Nat → Nat} {E : Nat → va_E} {g : Wd} {pt nt mt : Nat → Int32} {dp rf by_ co tx lx : Int32} {fl : Nat → Option FV} (hN : 9 ≤ N) (hRg : Rg N ad E g f) (hS : SC G ad E g root pn pt nn nt mn mt dp rf by_ co tx lx fl) (x : Int32) : Ci G l y_SF_clear b_SF_clear 3 (some .int) ({ frames := 1, cells := 0, slots := 0, locals := 21 }) sz f [.ref root, .int x] (fun v f' => (x = 0 → v = nI pn ∧ SCR G N ad E g root f' 0 pt nn nt mn mt dp rf by_ co tx lx fl) ∧ (x = 1 → v = nI nn ∧ SCR G N ad E g root f' pn pt 0 nt mn mt dp rf by_ co tx lx fl) ∧ (x = 2 → v = nI mn ∧ SCR G N ad E g root f' pn pt nn nt 0 mt dp rf by_ co tx lx fl) ∧ (¬ x = 0 → ¬ x = 1 → ¬ x = 2 → v = -1 ∧ SCR G N ad E g root f' pn pt nn nt mn mt dp rf by_ co tx lx fl)) := by
  refine ct_of (by decide) (Nat.le_of_ble_eq_true rfl) ?_
  intro p e s m below meth c ls H locs hEn
  obtain ⟨hc, hr, hlk, hin, hE, hw, hsz, hl⟩ := hEn
  have hx := hc.1
  have hb := hc.2.1
  have hl : lv_has ls 3 [(0, .ref root), (1, .int x)] := hl
  have hS0 := hS
  obtain ⟨hroot, hPB, hNB, hMB, ⟨so, di, le, hQ⟩, ⟨fr, en, pi, li, nu, rj, sh, mf, me, nf, ne, hRd⟩, fa, hF8, hFL⟩ := hS
  obtain ⟨A0, eA0⟩ : ∃ z, z = ad 0 := ⟨_, rfl⟩
  obtain ⟨A1, eA1⟩ : ∃ z, z = ad 1 := ⟨_, rfl⟩
  obtain ⟨A2, eA2⟩ : ∃ z, z = ad 2 := ⟨_, rfl⟩
  obtain ⟨A3, eA3⟩ : ∃ z, z = ad 3 := ⟨_, rfl⟩
  obtain ⟨A4, eA4⟩ : ∃ z, z = ad 4 := ⟨_, rfl⟩
  obtain ⟨A5, eA5⟩ : ∃ z, z = ad 5 := ⟨_, rfl⟩
  obtain ⟨A6, eA6⟩ : ∃ z, z = ad 6 := ⟨_, rfl⟩
  obtain ⟨A7, eA7⟩ : ∃ z, z = ad 7 := ⟨_, rfl⟩
  obtain ⟨A8, eA8⟩ : ∃ z, z = ad 8 := ⟨_, rfl⟩
  have hgf := hRg.2.2.1
  have h0 : f root = some (.inr (0, [.ref A0, .ref A2, .ref A7, .ref A8])) := by rw [eA0, eA2, eA7, eA8]; exact hgf _ _ hroot
  have h2 : f A2 = some (.inr (2, [.ref A3, .ref A5, .int dp, .int rf, .int by_, .int so, .int di, .int le, .int co, .int tx, .int lx])) := by rw [eA2, eA3, eA5]; exact hRg.get 2 (by omega) hQ
  have h8 : f A8 = some (.inl (G.2.1 2, 10, .inr (.inr (.inr (.inr fa))))) := by rw [eA8]; exact hRg.get 8 (by omega) hF8
  have hsP : sg G f A0 A1 90 pn pt := by rw [eA0, eA1]; exact hPB.sg hRg (by omega) (by omega)
  have hsN : sg G f A3 A4 40 nn nt := by rw [eA3, eA4]; exact hNB.sg hRg (by omega) (by omega)
  have hsM : sg G f A5 A6 12 mn mt := by rw [eA5, eA6]; exact hMB.sg hRg (by omega) (by omega)
  refine lv_aload_n hx hb d_SF_clear_0 rfl (lv_at hl 0 rfl) ?_
  refine lv_iload_n hx hb d_SF_clear_1 rfl (lv_at hl 1 rfl) ?_
  refine m_callq hw (m_runV (As := [.int x]) (rest := []) hc hE hw (c_SF_bufferAt G l H.size f hN hRg hS0 x) h0 rfl cw_SF_40 se_SF_bufferAt rfl hl.1 rfl (Nat.le_of_ble_eq_true rfl) d_SF_clear_2 ⟨rfl, rfl, by decide, by decide⟩ ⟨by first | decide | (dsimp only; omega), by first | decide | (dsimp only; omega)⟩) (fun r3 g2 H locs p1 hw => ?_)
  obtain ⟨rfl, hbf⟩ := p1
  rcases hbf with ⟨hbx, hv⟩ | ⟨hbx, hv⟩ | ⟨hbx, hv⟩ | ⟨hx0, hx1, hx2, hv⟩
  · rw [← eA0] at hv; subst hv
    refine lv_astore_n (lv' := [(2, .ref A0), (0, .ref root), (1, .int x)]) hx hb d_SF_clear_5 rfl hl (by decide) rfl (fun ls hl => ?_)
    refine lv_aload_n hx hb d_SF_clear_6 rfl (lv_at hl 0 rfl) ?_
    refine lv_ifnonnull (tgt := 14) hx hb d_SF_clear_7 (by decide) ?_
    refine lv_aload_n hx hb d_SF_clear_14 rfl (lv_at hl 0 rfl) ?_
    refine m_calli hw (m_runV (As := []) (rest := []) hc hE hw (c_Signs_takeAll G l H.size f hsP) hsP.1 rfl cw_SF_64 se_Signs_takeAll rfl hl.1 rfl (Nat.le_of_ble_eq_true rfl) d_SF_clear_15 ⟨rfl, rfl, by decide, by decide⟩ ⟨by first | decide | (dsimp only; omega), by first | decide | (dsimp only; omega)⟩) (fun r6 g5 H locs p4 hw => ?_)
    obtain ⟨p4, hft⟩ := p4
    subst p4
    have hfx : g5 = va_up f (ad 0) (some (.inr (1, [.ref (ad 1), .int 0]))) := by rw [hft, eA0, eA1]
    have hsc : SCR G N ad E g root g5 0 pt nn nt mn mt dp rf by_ co tx lx fl := ⟨va_up E 0 (.inr (1, [.ref (ad 1), .int 0])), g, by rw [hfx]; exact hRg.up 0 (by omega) _, gle.rf, fun k hk => va_up_ne _ _ (by omega), hS0.p 0 pt ⟨rfl, hPB.2.1, Nat.zero_le _, fun j q => absurd q (Nat.not_lt_zero _)⟩ (fun k h1 h2 => va_up_ne _ _ h1)⟩
    exact m_iret hc hr hlk hw ⟨by first | decide | (dsimp only; omega), by first | decide | (dsimp only; omega)⟩ d_SF_clear_18 ⟨fun _ => ⟨rfl, hsc⟩, fun z => absurd (hbx.symm.trans z) (by decide), fun z => absurd (hbx.symm.trans z) (by decide), fun z0 z1 z2 => absurd hbx z0⟩
  · rw [← eA3] at hv; subst hv
    refine lv_astore_n (lv' := [(2, .ref A3), (0, .ref root), (1, .int x)]) hx hb d_SF_clear_5 rfl hl (by decide) rfl (fun ls hl => ?_)
    refine lv_aload_n hx hb d_SF_clear_6 rfl (lv_at hl 0 rfl) ?_
    refine lv_ifnonnull (tgt := 14) hx hb d_SF_clear_7 (by decide) ?_
    refine lv_aload_n hx hb d_SF_clear_14 rfl (lv_at hl 0 rfl) ?_
    refine m_calli hw (m_runV (As := []) (rest := []) hc hE hw (c_Signs_takeAll G l H.size f hsN) hsN.1 rfl cw_SF_64 se_Signs_takeAll rfl hl.1 rfl (Nat.le_of_ble_eq_true rfl) d_SF_clear_15 ⟨rfl, rfl, by decide, by decide⟩ ⟨by first | decide | (dsimp only; omega), by first | decide | (dsimp only; omega)⟩) (fun r9 g8 H locs p7 hw => ?_)
    obtain ⟨p7, hft⟩ := p7
    subst p7
    have hfx : g8 = va_up f (ad 3) (some (.inr (1, [.ref (ad 4), .int 0]))) := by rw [hft, eA3, eA4]
    have hsc : SCR G N ad E g root g8 pn pt 0 nt mn mt dp rf by_ co tx lx fl := ⟨va_up E 3 (.inr (1, [.ref (ad 4), .int 0])), g, by rw [hfx]; exact hRg.up 3 (by omega) _, gle.rf, fun k hk => va_up_ne _ _ (by omega), hS0.n 0 nt ⟨rfl, hNB.2.1, Nat.zero_le _, fun j q => absurd q (Nat.not_lt_zero _)⟩ (fun k h1 h2 => va_up_ne _ _ h1)⟩
    exact m_iret hc hr hlk hw ⟨by first | decide | (dsimp only; omega), by first | decide | (dsimp only; omega)⟩ d_SF_clear_18 ⟨fun z => absurd (hbx.symm.trans z) (by decide), fun _ => ⟨rfl, hsc⟩, fun z => absurd (hbx.symm.trans z) (by decide), fun z0 z1 z2 => absurd hbx z1⟩
  · rw [← eA5] at hv; subst hv
    refine lv_astore_n (lv' := [(2, .ref A5), (0, .ref root), (1, .int x)]) hx hb d_SF_clear_5 rfl hl (by decide) rfl (fun ls hl => ?_)
    refine lv_aload_n hx hb d_SF_clear_6 rfl (lv_at hl 0 rfl) ?_
    refine lv_ifnonnull (tgt := 14) hx hb d_SF_clear_7 (by decide) ?_
    refine lv_aload_n hx hb d_SF_clear_14 rfl (lv_at hl 0 rfl) ?_
    refine m_calli hw (m_runV (As := []) (rest := []) hc hE hw (c_Signs_takeAll G l H.size f hsM) hsM.1 rfl cw_SF_64 se_Signs_takeAll rfl hl.1 rfl (Nat.le_of_ble_eq_true rfl) d_SF_clear_15 ⟨rfl, rfl, by decide, by decide⟩ ⟨by first | decide | (dsimp only; omega), by first | decide | (dsimp only; omega)⟩) (fun r12 g11 H locs p10 hw => ?_)
    obtain ⟨p10, hft⟩ := p10
    subst p10
    have hfx : g11 = va_up f (ad 5) (some (.inr (1, [.ref (ad 6), .int 0]))) := by rw [hft, eA5, eA6]
    have hsc : SCR G N ad E g root g11 pn pt nn nt 0 mt dp rf by_ co tx lx fl := ⟨va_up E 5 (.inr (1, [.ref (ad 6), .int 0])), g, by rw [hfx]; exact hRg.up 5 (by omega) _, gle.rf, fun k hk => va_up_ne _ _ (by omega), hS0.m 0 mt ⟨rfl, hMB.2.1, Nat.zero_le _, fun j q => absurd q (Nat.not_lt_zero _)⟩ (fun k h1 h2 => va_up_ne _ _ h1)⟩
    exact m_iret hc hr hlk hw ⟨by first | decide | (dsimp only; omega), by first | decide | (dsimp only; omega)⟩ d_SF_clear_18 ⟨fun z => absurd (hbx.symm.trans z) (by decide), fun z => absurd (hbx.symm.trans z) (by decide), fun _ => ⟨rfl, hsc⟩, fun z0 z1 z2 => absurd hbx z2⟩
  · subst hv
    refine lv_astore_nN (lv' := [(2, .null), (0, .ref root), (1, .int x)]) hx hb d_SF_clear_5 rfl hl (by decide) rfl (fun ls hl => ?_)
    refine lv_aload_nN hx hb d_SF_clear_6 rfl (lv_at hl 0 rfl) ?_
    refine lv_ifnonnullN hx hb d_SF_clear_7 ?_
    refine lv_iconst (v := (-1)) hx hb d_SF_clear_10 (by decide) ?_
    refine lv_goto (tgt := 18) hx hb d_SF_clear_11 (by decide) ?_
    exact m_iret hc hr hlk hw ⟨by first | decide | (dsimp only; omega), by first | decide | (dsimp only; omega)⟩ d_SF_clear_18 ⟨fun z => absurd z hx0, fun z => absurd z hx1, fun z => absurd z hx2, fun _ _ _ => ⟨rfl, ⟨E, g, hRg, gle.rf, fun _ _ => rfl, hS0⟩⟩⟩

set_option maxHeartbeats 4000000 in
set_option maxRecDepth 100000 in
/-- fault() -/
theorem c_SF_fault (G : GG) (l : Launch) (sz : Nat) (f : Wd) {N root pn nn mn : Nat} {ad : Nat → Nat} {E : Nat → va_E} {g : Wd} {pt nt mt : Nat → Int32} {dp rf by_ co tx lx : Int32} {fl : Nat → Option FV} (hN : 9 ≤ N) (hRg : Rg N ad E g f) (hS : SC G ad E g root pn pt nn nt mn mt dp rf by_ co tx lx fl) : Ci G l y_SF_fault b_SF_fault 1 (some .int) ({ frames := 9, cells := 0, slots := 0, locals := 196 }) sz f [.ref root] (fun v f' => v = fbk pt pn (npc pt pn) 0 ∧ SCR G N ad E g root f' pn pt nn nt mn mt dp rf by_ co tx lx fl) := by
  refine ct_of (by decide) (Nat.le_of_ble_eq_true rfl) ?_
  intro p e s m below meth c ls H locs hEn
  obtain ⟨hc, hr, hlk, hin, hE, hw, hsz, hl⟩ := hEn
  have hx := hc.1
  have hb := hc.2.1
  have hl : lv_has ls 1 [(0, .ref root)] := hl
  have hS0 := hS
  obtain ⟨hroot, hPB, hNB, hMB, ⟨so, di, le, hQ⟩, ⟨fr, en, pi, li, nu, rj, sh, mf, me, nf, ne, hRd⟩, fa, hF8, hFL⟩ := hS
  obtain ⟨A0, eA0⟩ : ∃ z, z = ad 0 := ⟨_, rfl⟩
  obtain ⟨A1, eA1⟩ : ∃ z, z = ad 1 := ⟨_, rfl⟩
  obtain ⟨A2, eA2⟩ : ∃ z, z = ad 2 := ⟨_, rfl⟩
  obtain ⟨A3, eA3⟩ : ∃ z, z = ad 3 := ⟨_, rfl⟩
  obtain ⟨A4, eA4⟩ : ∃ z, z = ad 4 := ⟨_, rfl⟩
  obtain ⟨A5, eA5⟩ : ∃ z, z = ad 5 := ⟨_, rfl⟩
  obtain ⟨A6, eA6⟩ : ∃ z, z = ad 6 := ⟨_, rfl⟩
  obtain ⟨A7, eA7⟩ : ∃ z, z = ad 7 := ⟨_, rfl⟩
  obtain ⟨A8, eA8⟩ : ∃ z, z = ad 8 := ⟨_, rfl⟩
  have hgf := hRg.2.2.1
  have h0 : f root = some (.inr (0, [.ref A0, .ref A2, .ref A7, .ref A8])) := by rw [eA0, eA2, eA7, eA8]; exact hgf _ _ hroot
  have h2 : f A2 = some (.inr (2, [.ref A3, .ref A5, .int dp, .int rf, .int by_, .int so, .int di, .int le, .int co, .int tx, .int lx])) := by rw [eA2, eA3, eA5]; exact hRg.get 2 (by omega) hQ
  have h8 : f A8 = some (.inl (G.2.1 2, 10, .inr (.inr (.inr (.inr fa))))) := by rw [eA8]; exact hRg.get 8 (by omega) hF8
  have hsP : sg G f A0 A1 90 pn pt := by rw [eA0, eA1]; exact hPB.sg hRg (by omega) (by omega)
  have hsN : sg G f A3 A4 40 nn nt := by rw [eA3, eA4]; exact hNB.sg hRg (by omega) (by omega)
  have hsM : sg G f A5 A6 12 mn mt := by rw [eA5, eA6]; exact hMB.sg hRg (by omega) (by omega)
  have h7 : f A7 = some (.inr (3, [.ref A0, .int fr, .int en, .int pi, .int li, .int nu, .int rj, .int sh, .int mf, .int me, .int nf, .int ne])) := by rw [eA7, eA0]; exact hRg.get 7 (by omega) hRd
  refine lv_aload_n hx hb d_SF_fault_0 rfl (lv_at hl 0 rfl) ?_
  refine m_get hc hE hw h0 kc_SF l_SF_30_SF rfl d_SF_fault_1 ?_
  refine m_calli hw (m_runV (As := []) (rest := []) hc hE hw (c_PieceReader_firstBroken G l H.size f h7 hsP) h7 rfl cw_SF_70 se_PieceReader_firstBroken rfl hl.1 rfl (Nat.le_of_ble_eq_true rfl) d_SF_fault_4 ⟨rfl, rfl, by decide, by decide⟩ ⟨by first | decide | (dsimp only; omega), by first | decide | (dsimp only; omega)⟩) (fun r3 g2 H locs p1 hw => ?_)
  obtain ⟨fr2, en2, pi2, li2, nu2, rj2, sh2, mf2, me2, nf2, ne2, hff, p1⟩ := p1
  have hfx : g2 = va_up f (ad 7) (some (.inr (3, [.ref (ad 0), .int fr2, .int en2, .int pi2, .int li2, .int nu2, .int rj2, .int sh2, .int mf2, .int me2, .int nf2, .int ne2]))) := by rw [hff, eA7, eA0]
  exact m_iret hc hr hlk hw ⟨by first | decide | (dsimp only; omega), by first | decide | (dsimp only; omega)⟩ d_SF_fault_7 ⟨p1, _, g, by rw [hfx]; exact hRg.up 7 (by omega) _, gle.rf, fun k hk => va_up_ne _ _ (by omega), hS0.r fr2 en2 pi2 li2 nu2 rj2 sh2 mf2 me2 nf2 ne2⟩
end
section
/-! PLACES of filters -/
/-- no filter is at the place x (or x is no place) -/
def noF (fl : Nat → Option FV) (x : Int32) : Prop := ∀ k, k < 10 → x = nI k → fl k = none
theorem plc {k : Nat} (h : k < 10) : ¬ nI k < 0 ∧ ¬ 10 ≤ nI k := ⟨nI_pos (by omega), nI_ge (b := 10) h (by decide)⟩
theorem noF_out {fl : Nat → Option FV} {x : Int32} (h : ¬ (¬ x < 0 ∧ ¬ 10 ≤ x)) : noF fl x := fun k hk hx => absurd (by rw [hx]; exact plc hk) h
theorem noF_in {fl : Nat → Option FV} {x : Int32} {k : Nat} (hk : k < 10) (hx : x = nI k) (h : fl k = none) : noF fl x := fun k2 h2 hx2 => by
  have e : k = k2 := (nI_eq (by omega) (by omega)).mp (hx.symm.trans hx2)
  rw [← e]; exact h
theorem FL.put {G : GG} {g : Wd} {fa : Nat → Option Nat} {fl : Nat → Option FV} {k a : Nat} {v : FV} (h : FL G g fa fl) (hr : RH G g a v) : FL G g (va_up fa k (some a)) (va_up fl k (some v)) := fun j hj => by
  by_cases e : j = k
  · subst e; rw [va_up_self, va_up_self]; exact Or.inr ⟨a, v, rfl, rfl, hr⟩
  · rw [va_up_ne _ _ e, va_up_ne _ _ e]; exact h j hj
theorem FL.del {G : GG} {g : Wd} {fa : Nat → Option Nat} {fl : Nat → Option FV} {k : Nat} (h : FL G g fa fl) : FL G g (va_up fa k none) (va_up fl k none) := fun j hj => by
  by_cases e : j = k
  · subst e; rw [va_up_self, va_up_self]; exact Or.inl ⟨rfl, rfl⟩
  · rw [va_up_ne _ _ e, va_up_ne _ _ e]; exact h j hj
theorem RF.head {G : GG} {g : Wd} {d a : Nat} {v : FV} (h : RF G g d a v) : ∃ (ci : Nat) (r : List Value), FC ci ∧ g a = some (.inr (ci, .int v.1 :: .int v.2.1 :: .int v.2.2.1 :: r)) := by
  cases d with
  | zero => exact h.elim
  | succ d =>
    rcases h with ⟨bs, lm, np, V, Sh, M, ⟨la, pa, pf, h1, -⟩, rfl⟩ | ⟨b, c2, vb, vc, h1, h2, h3, rfl⟩ | ⟨b, vb, al, h1, h2, h3, rfl⟩ | ⟨b, vb, gv, h1, h2, rfl⟩ | ⟨b, sa, sr, scap, bn, bt, vb, h1, h2, h3, rfl⟩
    · exact ⟨_, _, Or.inl rfl, h1⟩
    · exact ⟨_, _, Or.inr (Or.inl rfl), h1⟩
    · exact ⟨_, _, Or.inr (Or.inr (Or.inl rfl)), h1⟩
    · exact ⟨_, _, Or.inr (Or.inr (Or.inr (Or.inl rfl))), h1⟩
    · exact ⟨_, _, Or.inr (Or.inr (Or.inr (Or.inr rfl))), h1⟩
end
section
/-! links of the pools, as the walks ask for them -/
theorem cw_SF_82 : cwk "StreamFilters" 82 y_SF_filterAt b_SF_filterAt 2 (some (.object "StreamFilters$Filter")) 1 := ⟨Or.inl (tb 408 (by decide +kernel) rfl), (tb 411 (by decide +kernel) rfl), (tb 1 (by decide +kernel) rfl), by decide, by decide, by decide +kernel⟩
theorem se_SF_filterAt : Cond.instanceMethod y_SF_filterAt ∈ TB ∧ Cond.selects "StreamFilters" y_SF_filterAt y_SF_filterAt ∈ TB := ⟨(tb 410 (by decide +kernel) rfl), (tbs 9 (by decide +kernel) rfl)⟩
/-! decode rows -/
theorem d_SF_drop_0 : decode b_SF_drop 0 = .ok (.aload_n 0, 1) := by decide +kernel
theorem d_SF_drop_1 : decode b_SF_drop 1 = .ok (.iload_n 1, 1) := by decide +kernel
theorem d_SF_drop_2 : decode b_SF_drop 2 = .ok (.invokevirtual 82, 3) := by decide +kernel
theorem d_SF_drop_5 : decode b_SF_drop 5 = .ok (.ifnonnull 5, 3) := by decide +kernel
theorem d_SF_drop_8 : decode b_SF_drop 8 = .ok (.iconst (-1), 1) := by decide +kernel
theorem d_SF_drop_9 : decode b_SF_drop 9 = .ok (.ireturn, 1) := by decide +kernel
theorem d_SF_drop_10 : decode b_SF_drop 10 = .ok (.aload_n 0, 1) := by decide +kernel
theorem d_SF_drop_11 : decode b_SF_drop 11 = .ok (.getfield 36, 3) := by decide +kernel
theorem d_SF_drop_14 : decode b_SF_drop 14 = .ok (.iload_n 1, 1) := by decide +kernel
theorem d_SF_drop_15 : decode b_SF_drop 15 = .ok (.aconst_null, 1) := by decide +kernel
theorem d_SF_drop_16 : decode b_SF_drop 16 = .ok (.aastore, 1) := by decide +kernel
theorem d_SF_drop_17 : decode b_SF_drop 17 = .ok (.iconst 0, 1) := by decide +kernel
theorem d_SF_drop_18 : decode b_SF_drop 18 = .ok (.ireturn, 1) := by decide +kernel
set_option maxHeartbeats 4000000 in
set_option maxRecDepth 100000 in
/-- drop(x) -/
theorem c_SF_drop (G : GG) (l : Launch) (sz : Nat) (f : Wd) {N root pn nn mn : Nat} {ad : Nat → Nat} {E : Nat → va_E} {g : Wd} {pt nt mt : Nat → Int32} {dp rf by_ co tx lx : Int32} {fl : Nat → Option FV} (hN : 9 ≤ N) (hRg : Rg N ad E g f) (hS : SC G ad E g root pn pt nn nt mn mt dp rf by_ co tx lx fl) (x : Int32) : Ci G l y_SF_drop b_SF_drop 2 (some .int) ({ frames := 2, cells := 0, slots := 0, locals := 41 }) sz f [.ref root, .int x] (fun v f' => (noF fl x → v = -1 ∧ SCR G N ad E g root f' pn pt nn nt mn mt dp rf by_ co tx lx fl) ∧ ∀ (k : Nat) (vv : FV), k < 10 → x = nI k → fl k = some vv → v = 0 ∧ SCR G N ad E g root f' pn pt nn nt mn mt dp rf by_ co tx lx (va_up fl k none)) := by
  refine ct_of (by decide) (Nat.le_of_ble_eq_true rfl) ?_
  intro p e s m below meth c ls H locs hEn
  obtain ⟨hc, hr, hlk, hin, hE, hw, hsz, hl⟩ := hEn
  have hx := hc.1
  have hb := hc.2.1
  have hl : lv_has ls 2 [(0, .ref root), (1, .int x)] := hl
  have hS0 := hS
  obtain ⟨hroot, hPB, hNB, hMB, ⟨so, di, le, hQ⟩, ⟨fr, en, pi, li, nu, rj, sh, mf, me, nf, ne, hRd⟩, fa, hF8, hFL⟩ := hS
  obtain ⟨A0, eA0⟩ : ∃ z, z = ad 0 := ⟨_, rfl⟩
  obtain ⟨A1, eA1⟩ : ∃ z, z = ad 1 := ⟨_, rfl⟩
  obtain ⟨A2, eA2⟩ : ∃ z, z = ad 2 := ⟨_, rfl⟩
  obtain ⟨A3, eA3⟩ : ∃ z, z = ad 3 := ⟨_, rfl⟩
  obtain ⟨A4, eA4⟩ : ∃ z, z = ad 4 := ⟨_, rfl⟩
  obtain ⟨A5, eA5⟩ : ∃ z, z = ad 5 := ⟨_, rfl⟩
  obtain ⟨A6, eA6⟩ : ∃ z, z = ad 6 := ⟨_, rfl⟩
  obtain ⟨A7, eA7⟩ : ∃ z, z = ad 7 := ⟨_, rfl⟩
  obtain ⟨A8, eA8⟩ : ∃ z, z = ad 8 := ⟨_, rfl⟩
  have hgf := hRg.2.2.1
  have h0 : f root = some (.inr (0, [.ref A0, .ref A2, .ref A7, .ref A8])) := by rw [eA0, eA2, eA7, eA8]; exact hgf _ _ hroot
  have h2 : f A2 = some (.inr (2, [.ref A3, .ref A5, .int dp, .int rf, .int by_, .int so, .int di, .int le, .int co, .int tx, .int lx])) := by rw [eA2, eA3, eA5]; exact hRg.get 2 (by omega) hQ
  have h8 : f A8 = some (.inl (G.2.1 2, 10, .inr (.inr (.inr (.inr fa))))) := by rw [eA8]; exact hRg.get 8 (by omega) hF8
  have hsP : sg G f A0 A1 90 pn pt := by rw [eA0, eA1]; exact hPB.sg hRg (by omega) (by omega)
  have hsN : sg G f A3 A4 40 nn nt := by rw [eA3, eA4]; exact hNB.sg hRg (by omega) (by omega)
  have hsM : sg G f A5 A6 12 mn mt := by rw [eA5, eA6]; exact hMB.sg hRg (by omega) (by omega)
  refine lv_aload_n hx hb d_SF_drop_0 rfl (lv_at hl 0 rfl) ?_
  refine lv_iload_n hx hb d_SF_drop_1 rfl (lv_at hl 1 rfl) ?_
  refine m_callq hw (m_runV (As := [.int x]) (rest := []) hc hE hw (c_SF_filterAt G l H.size f hN hRg hS0 x) h0 rfl cw_SF_82 se_SF_filterAt rfl hl.1 rfl (Nat.le_of_ble_eq_true rfl) d_SF_drop_2 ⟨rfl, rfl, by decide, by decide⟩ ⟨by first | decide | (dsimp only; omega), by first | decide | (dsimp only; omega)⟩) (fun r3 g2 H locs p1 hw => ?_)
  obtain ⟨rfl, hfla⟩ := p1
  rcases hfla with ⟨hnoa, hva⟩ | ⟨ka, hka, hxka, ⟨hva, hnna⟩ | ⟨Fa, vva, hva, hsma, hrha⟩⟩
  · subst hva
    have hnfa : noF fl x := noF_out hnoa
    refine lv_ifnonnullN hx hb d_SF_drop_5 ?_
    refine lv_iconst (v := (-1)) hx hb d_SF_drop_8 (by decide) ?_
    exact m_iret hc hr hlk hw ⟨by first | decide | (dsimp only; omega), by first | decide | (dsimp only; omega)⟩ d_SF_drop_9 ⟨fun _ => ⟨rfl, ⟨E, g, hRg, gle.rf, fun _ _ => rfl, hS0⟩⟩, fun k vv h1 h2 h3 => absurd ((hnfa k h1 h2).symm.trans h3) (by intro z; cases z)⟩
  · subst hva
    have hnfa : noF fl x := noF_in hka hxka hnna
    refine lv_ifnonnullN hx hb d_SF_drop_5 ?_
    refine lv_iconst (v := (-1)) hx hb d_SF_drop_8 (by decide) ?_
    exact m_iret hc hr hlk hw ⟨by first | decide | (dsimp only; omega), by first | decide | (dsimp only; omega)⟩ d_SF_drop_9 ⟨fun _ => ⟨rfl, ⟨E, g, hRg, gle.rf, fun _ _ => rfl, hS0⟩⟩, fun k vv h1 h2 h3 => absurd ((hnfa k h1 h2).symm.trans h3) (by intro z; cases z)⟩
  · subst hva
    have hrhab := hrha
    refine lv_ifnonnull (tgt := 10) hx hb d_SF_drop_5 (by decide) ?_
    refine lv_aload_n hx hb d_SF_drop_10 rfl (lv_at hl 0 rfl) ?_
    refine m_get hc hE hw h0 kc_SF l_SF_36_SF rfl d_SF_drop_11 ?_
    refine lv_iload_n hx hb d_SF_drop_14 rfl (lv_at hl 1 rfl) ?_
    refine lv_null hx hb d_SF_drop_15 ?_
    refine m_aastN hc hE hw 2 h8 rfl (by rw [hxka]; exact vp_in_nI hka (by decide)) d_SF_drop_16 (fun H locs hw => ?_)
    obtain ⟨f4, ef4⟩ : ∃ z : Wd, z = va_up f A8 (some (.inl (G.2.1 2, 10, .inr (.inr (.inr (.inr (va_up fa x.toNatClampNeg none))))))) := ⟨_, rfl⟩
    replace hw : ms G.1 (Af f sz) f4 s H locs := by rw [ef4]; exact hw
    have h5 : f4 A8 = some (.inl (G.2.1 2, 10, .inr (.inr (.inr (.inr (va_up fa x.toNatClampNeg none)))))) := by rw [ef4, va_up_self]
    refine lv_iconst (v := 0) hx hb d_SF_drop_17 (by decide) ?_
    have hcl : x.toNatClampNeg = ka := by rw [hxka]; exact nI_clamp (by omega)
    have hfx : f4 = va_up f (ad 8) (some (.inl (G.2.1 2, 10, .inr (.inr (.inr (.inr (va_up fa ka none))))))) := by rw [ef4, eA8, hcl]
    exact m_iret hc hr hlk hw ⟨by first | decide | (dsimp only; omega), by first | decide | (dsimp only; omega)⟩ d_SF_drop_18 ⟨fun z => absurd ((z ka hka hxka).symm.trans hsma) (by intro z; cases z), fun k vv h1 h2 h3 => ⟨rfl, by have ek : ka = k := (nI_eq (by omega) (by omega)).mp (hxka.symm.trans h2); subst ek; exact ⟨_, g, by rw [hfx]; exact hRg.up 8 (by omega) _, gle.rf, fun k hk => va_up_ne _ _ (by omega), hS0.f gle.rf _ _ hFL.del⟩⟩⟩
end
section
/-! links of the pools, as the walks ask for them -/
theorem nw_SF_104 : nwk "StreamFilters" 104 R_StrictFilter 5 := ⟨(tb 434 (by decide +kernel) rfl), (tb 435 (by decide +kernel) rfl), (tb 15 (by decide +kernel) rfl)⟩
theorem cw_SF_106 : cwk "StreamFilters" 106 y_StrictFilter_init b_StrictFilter_init 3 none 2 := ⟨Or.inl (tb 436 (by decide +kernel) rfl), (tb 438 (by decide +kernel) rfl), (tb 15 (by decide +kernel) rfl), by decide, by decide, by decide +kernel⟩
theorem si_StrictFilter_init : Cond.instanceMethod y_StrictFilter_init ∈ TB := (tb 437 (by decide +kernel) rfl)
theorem ca_StrictFilter_Filter : Cond.castable R_StrictFilter "StreamFilters$Filter" ∈ EB := (eb 870 (by decide +kernel) rfl)
theorem l5_SF_90 : lnk "StreamFilters" 90 F_TextFilter 6 2 ∧ lnk "StreamFilters" 90 F_JoinedFilter 5 2 ∧ lnk "StreamFilters" 90 F_StrictFilter 5 2 ∧ lnk "StreamFilters" 90 F_DefaultFilter 5 2 ∧ lnk "StreamFilters" 90 F_OnlyFilter 5 2 := ⟨⟨by decide, "StreamFilters$Filter", Or.inl rfl, Or.inl (tb 382 (by decide +kernel) rfl)⟩, ⟨by decide, "StreamFilters$Filter", Or.inl rfl, Or.inl (tb 382 (by decide +kernel) rfl)⟩, ⟨by decide, "StreamFilters$Filter", Or.inl rfl, Or.inl (tb 382 (by decide +kernel) rfl)⟩, ⟨by decide, "StreamFilters$Filter", Or.inl rfl, Or.inl (tb 382 (by decide +kernel) rfl)⟩, ⟨by decide, "StreamFilters$Filter", Or.inl rfl, Or.inl (tb 382 (by decide +kernel) rfl)⟩⟩
/-! decode rows -/
theorem d_SF_strict_0 : decode b_SF_strict 0 = .ok (.aload_n 0, 1) := by decide +kernel
theorem d_SF_strict_1 : decode b_SF_strict 1 = .ok (.iload_n 2, 1) := by decide +kernel
theorem d_SF_strict_2 : decode b_SF_strict 2 = .ok (.invokevirtual 82, 3) := by decide +kernel
theorem d_SF_strict_5 : decode b_SF_strict 5 = .ok (.astore 4, 2) := by decide +kernel
theorem d_SF_strict_7 : decode b_SF_strict 7 = .ok (.iload_n 1, 1) := by decide +kernel
theorem d_SF_strict_8 : decode b_SF_strict 8 = .ok (.invokestatic 67, 3) := by decide +kernel
theorem d_SF_strict_11 : decode b_SF_strict 11 = .ok (.ifCond .eq 8, 3) := by decide +kernel
theorem d_SF_strict_14 : decode b_SF_strict 14 = .ok (.aload 4, 2) := by decide +kernel
theorem d_SF_strict_16 : decode b_SF_strict 16 = .ok (.ifnonnull 5, 3) := by decide +kernel
theorem d_SF_strict_19 : decode b_SF_strict 19 = .ok (.iconst (-1), 1) := by decide +kernel
theorem d_SF_strict_20 : decode b_SF_strict 20 = .ok (.ireturn, 1) := by decide +kernel
theorem d_SF_strict_21 : decode b_SF_strict 21 = .ok (.aload 4, 2) := by decide +kernel
theorem d_SF_strict_23 : decode b_SF_strict 23 = .ok (.getfield 90, 3) := by decide +kernel
theorem d_SF_strict_26 : decode b_SF_strict 26 = .ok (.bipush 8, 2) := by decide +kernel
theorem d_SF_strict_28 : decode b_SF_strict 28 = .ok (.if_icmp .lt 6, 3) := by decide +kernel
theorem d_SF_strict_31 : decode b_SF_strict 31 = .ok (.bipush (-3), 2) := by decide +kernel
theorem d_SF_strict_33 : decode b_SF_strict 33 = .ok (.ireturn, 1) := by decide +kernel
theorem d_SF_strict_34 : decode b_SF_strict 34 = .ok (.aload_n 0, 1) := by decide +kernel
theorem d_SF_strict_35 : decode b_SF_strict 35 = .ok (.getfield 36, 3) := by decide +kernel
theorem d_SF_strict_38 : decode b_SF_strict 38 = .ok (.iload_n 1, 1) := by decide +kernel
theorem d_SF_strict_39 : decode b_SF_strict 39 = .ok (.new 104, 3) := by decide +kernel
theorem d_SF_strict_42 : decode b_SF_strict 42 = .ok (.dup, 1) := by decide +kernel
theorem d_SF_strict_43 : decode b_SF_strict 43 = .ok (.aload 4, 2) := by decide +kernel
theorem d_SF_strict_45 : decode b_SF_strict 45 = .ok (.iload_n 3, 1) := by decide +kernel
theorem d_SF_strict_46 : decode b_SF_strict 46 = .ok (.invokespecial 106, 3) := by decide +kernel
theorem d_SF_strict_49 : decode b_SF_strict 49 = .ok (.aastore, 1) := by decide +kernel
theorem d_SF_strict_50 : decode b_SF_strict 50 = .ok (.iconst 0, 1) := by decide +kernel
theorem d_SF_strict_51 : decode b_SF_strict 51 = .ok (.ireturn, 1) := by decide +kernel
set_option maxHeartbeats 4000000 in
set_option maxRecDepth 100000 in
/-- strict(xt, x, al) -/
theorem c_SF_strict (G : GG) (l : Launch) (sz : Nat) (f : Wd) {N root pn nn mn : Nat} {ad : Nat → Nat} {E : Nat → va_E} {g : Wd} {pt nt mt : Nat → Int32} {dp rf by_ co tx lx : Int32} {fl : Nat → Option FV} (hN : 9 ≤ N) (hRg : Rg N ad E g f) (hS : SC G ad E g root pn pt nn nt mn mt dp rf by_ co tx lx fl) (xt x : Int32) {al : Int32} (h_al : al = 0 ∨ al = 1) : Ci G l y_SF_strict b_SF_strict 5 (some .int) ({ frames := 3, cells := 1, slots := 5, locals := 57 }) sz f [.ref root, .int xt, .int x, .int al] (fun v f' => ((¬ (¬ xt < 0 ∧ ¬ 10 ≤ xt) ∨ noF fl x) → v = -1 ∧ SCR G N ad E g root f' pn pt nn nt mn mt dp rf by_ co tx lx fl) ∧ ∀ (kt k : Nat) (vv : FV), kt < 10 → xt = nI kt → k < 10 → x = nI k → fl k = some vv → (8 ≤ vv.2.2.1 → v = -3 ∧ SCR G N ad E g root f' pn pt nn nt mn mt dp rf by_ co tx lx fl) ∧ (¬ 8 ≤ vv.2.2.1 → v = 0 ∧ SCR G N ad E g root f' pn pt nn nt mn mt dp rf by_ co tx lx (va_up fl kt (some ((3, vv.2.1, 1 + vv.2.2.1, anS al vv.2.2.2.1, TI0) : FV))))) := by
  refine ct_of (by decide) (Nat.le_of_ble_eq_true rfl) ?_
  intro p e s m below meth c ls H locs hEn
  obtain ⟨hc, hr, hlk, hin, hE, hw, hsz, hl⟩ := hEn
  have hx := hc.1
  have hb := hc.2.1
  have hl : lv_has ls 5 [(0, .ref root), (1, .int xt), (2, .int x), (3, .int al)] := hl
  have hS0 := hS
  obtain ⟨hroot, hPB, hNB, hMB, ⟨so, di, le, hQ⟩, ⟨fr, en, pi, li, nu, rj, sh, mf, me, nf, ne, hRd⟩, fa, hF8, hFL⟩ := hS
  obtain ⟨A0, eA0⟩ : ∃ z, z = ad 0 := ⟨_, rfl⟩
  obtain ⟨A1, eA1⟩ : ∃ z, z = ad 1 := ⟨_, rfl⟩
  obtain ⟨A2, eA2⟩ : ∃ z, z = ad 2 := ⟨_, rfl⟩
  obtain ⟨A3, eA3⟩ : ∃ z, z = ad 3 := ⟨_, rfl⟩
  obtain ⟨A4, eA4⟩ : ∃ z, z = ad 4 := ⟨_, rfl⟩
  obtain ⟨A5, eA5⟩ : ∃ z, z = ad 5 := ⟨_, rfl⟩
  obtain ⟨A6, eA6⟩ : ∃ z, z = ad 6 := ⟨_, rfl⟩
  obtain ⟨A7, eA7⟩ : ∃ z, z = ad 7 := ⟨_, rfl⟩
  obtain ⟨A8, eA8⟩ : ∃ z, z = ad 8 := ⟨_, rfl⟩
  have hgf := hRg.2.2.1
  have h0 : f root = some (.inr (0, [.ref A0, .ref A2, .ref A7, .ref A8])) := by rw [eA0, eA2, eA7, eA8]; exact hgf _ _ hroot
  have h2 : f A2 = some (.inr (2, [.ref A3, .ref A5, .int dp, .int rf, .int by_, .int so, .int di, .int le, .int co, .int tx, .int lx])) := by rw [eA2, eA3, eA5]; exact hRg.get 2 (by omega) hQ
  have h8 : f A8 = some (.inl (G.2.1 2, 10, .inr (.inr (.inr (.inr fa))))) := by rw [eA8]; exact hRg.get 8 (by omega) hF8
  have hsP : sg G f A0 A1 90 pn pt := by rw [eA0, eA1]; exact hPB.sg hRg (by omega) (by omega)
  have hsN : sg G f A3 A4 40 nn nt := by rw [eA3, eA4]; exact hNB.sg hRg (by omega) (by omega)
  have hsM : sg G f A5 A6 12 mn mt := by rw [eA5, eA6]; exact hMB.sg hRg (by omega) (by omega)
  refine lv_aload_n hx hb d_SF_strict_0 rfl (lv_at hl 0 rfl) ?_
  refine lv_iload_n hx hb d_SF_strict_1 rfl (lv_at hl 2 rfl) ?_
  refine m_callq hw (m_runV (As := [.int x]) (rest := []) hc hE hw (c_SF_filterAt G l H.size f hN hRg hS0 x) h0 rfl cw_SF_82 se_SF_filterAt rfl hl.1 rfl (Nat.le_of_ble_eq_true rfl) d_SF_strict_2 ⟨rfl, rfl, by decide, by decide⟩ ⟨by first | decide | (dsimp only; omega), by first | decide | (dsimp only; omega)⟩) (fun r3 g2 H locs p1 hw => ?_)
  obtain ⟨rfl, hfla⟩ := p1
  rcases hfla with ⟨hnoa, hva⟩ | ⟨ka, hka, hxka, ⟨hva, hnna⟩ | ⟨Fa, vva, hva, hsma, hrha⟩⟩
  · subst hva
    have hnfa : noF fl x := noF_out hnoa
    refine lv_astoreN (lv' := [(4, .null), (0, .ref root), (1, .int xt), (2, .int x), (3, .int al)]) hx hb d_SF_strict_5 hl (by decide) rfl (fun ls hl => ?_)
    refine lv_iload_n hx hb d_SF_strict_7 rfl (lv_at hl 2 rfl) ?_
    refine m_calli hw (m_runS (As := [.int xt]) (rest := []) hc hE hw (c_SF_isPlace G l H.size f xt) cw_SF_67 ss_SF_isPlace rfl hl.1 rfl (Nat.le_of_ble_eq_true rfl) d_SF_strict_8 ⟨rfl, rfl, by decide, by decide⟩ ⟨by first | decide | (dsimp only; omega), by first | decide | (dsimp only; omega)⟩) (fun r6 g5 H locs p4 hw => ?_)
    obtain ⟨rfl, p4⟩ := p4
    refine lv_if_eq (tgt := 19) hx hb d_SF_strict_11 (by decide) (fun c7 => ?_) (fun c7 => ?_)
    · refine lv_iconst (v := (-1)) hx hb d_SF_strict_19 (by decide) ?_
      exact m_iret hc hr hlk hw ⟨by first | decide | (dsimp only; omega), by first | decide | (dsimp only; omega)⟩ d_SF_strict_20 ⟨fun _ => ⟨rfl, ⟨E, g, hRg, gle.rf, fun _ _ => rfl, hS0⟩⟩, fun kt k vv h1 h2 h3 h4 h5 => absurd (by rw [h2]; exact plc h1) (bI_0.mp (p4.symm.trans c7))⟩
    · have hpl := bI_n.mp (fun z => c7 (p4.trans z))
      obtain ⟨kt, hkt, hxt⟩ : ∃ k : Nat, k < 10 ∧ xt = nI k := vp_in_of (vin (n := 10) hpl.1 hpl.2 (Nat.le_refl 10) (by decide)) (by decide)
      refine lv_aloadN hx hb d_SF_strict_14 (lv_at hl 0 rfl) ?_
      refine lv_ifnonnullN hx hb d_SF_strict_16 ?_
      refine lv_iconst (v := (-1)) hx hb d_SF_strict_19 (by decide) ?_
      exact m_iret hc hr hlk hw ⟨by first | decide | (dsimp only; omega), by first | decide | (dsimp only; omega)⟩ d_SF_strict_20 ⟨fun _ => ⟨rfl, ⟨E, g, hRg, gle.rf, fun _ _ => rfl, hS0⟩⟩, fun kt k vv h1 h2 h3 h4 h5 => absurd ((hnfa k h3 h4).symm.trans h5) (by intro z; cases z)⟩
  · subst hva
    have hnfa : noF fl x := noF_in hka hxka hnna
    refine lv_astoreN (lv' := [(4, .null), (0, .ref root), (1, .int xt), (2, .int x), (3, .int al)]) hx hb d_SF_strict_5 hl (by decide) rfl (fun ls hl => ?_)
    refine lv_iload_n hx hb d_SF_strict_7 rfl (lv_at hl 2 rfl) ?_
    refine m_calli hw (m_runS (As := [.int xt]) (rest := []) hc hE hw (c_SF_isPlace G l H.size f xt) cw_SF_67 ss_SF_isPlace rfl hl.1 rfl (Nat.le_of_ble_eq_true rfl) d_SF_strict_8 ⟨rfl, rfl, by decide, by decide⟩ ⟨by first | decide | (dsimp only; omega), by first | decide | (dsimp only; omega)⟩) (fun r10 g9 H locs p8 hw => ?_)
    obtain ⟨rfl, p8⟩ := p8
    refine lv_if_eq (tgt := 19) hx hb d_SF_strict_11 (by decide) (fun c11 => ?_) (fun c11 => ?_)
    · refine lv_iconst (v := (-1)) hx hb d_SF_strict_19 (by decide) ?_
      exact m_iret hc hr hlk hw ⟨by first | decide | (dsimp only; omega), by first | decide | (dsimp only; omega)⟩ d_SF_strict_20 ⟨fun _ => ⟨rfl, ⟨E, g, hRg, gle.rf, fun _ _ => rfl, hS0⟩⟩, fun kt k vv h1 h2 h3 h4 h5 => absurd (by rw [h2]; exact plc h1) (bI_0.mp (p8.symm.trans c11))⟩
    · have hpl := bI_n.mp (fun z => c11 (p8.trans z))
      obtain ⟨kt, hkt, hxt⟩ : ∃ k : Nat, k < 10 ∧ xt = nI k := vp_in_of (vin (n := 10) hpl.1 hpl.2 (Nat.le_refl 10) (by decide)) (by decide)
      refine lv_aloadN hx hb d_SF_strict_14 (lv_at hl 0 rfl) ?_
      refine lv_ifnonnullN hx hb d_SF_strict_16 ?_
      refine lv_iconst (v := (-1)) hx hb d_SF_strict_19 (by decide) ?_
      exact m_iret hc hr hlk hw ⟨by first | decide | (dsimp only; omega), by first | decide | (dsimp only; omega)⟩ d_SF_strict_20 ⟨fun _ => ⟨rfl, ⟨E, g, hRg, gle.rf, fun _ _ => rfl, hS0⟩⟩, fun kt k vv h1 h2 h3 h4 h5 => absurd ((hnfa k h3 h4).symm.trans h5) (by intro z; cases z)⟩
  · subst hva
    have hrhab := hrha
    obtain ⟨l0a, h0a, hl0a, hh0a, hl1a, hl2a, hh1a, hh2a, hrfa⟩ := hrha
    obtain ⟨cFa, rFa, fcFa, hcFa⟩ := RF.head hrfa
    obtain ⟨kFa, ekFa⟩ : ∃ z, z = vva.1 := ⟨_, rfl⟩
    obtain ⟨lFa, elFa⟩ : ∃ z, z = vva.2.1 := ⟨_, rfl⟩
    obtain ⟨gFa, egFa⟩ : ∃ z, z = vva.2.2.1 := ⟨_, rfl⟩
    have hcella : f Fa = some (.inr (cFa, .int kFa :: .int lFa :: .int gFa :: rFa)) := by rw [ekFa, elFa, egFa]; exact hgf _ _ hcFa
    refine lv_astore (lv' := [(4, .ref Fa), (0, .ref root), (1, .int xt), (2, .int x), (3, .int al)]) hx hb d_SF_strict_5 hl (by decide) rfl (fun ls hl => ?_)
    refine lv_iload_n hx hb d_SF_strict_7 rfl (lv_at hl 2 rfl) ?_
    refine m_calli hw (m_runS (As := [.int xt]) (rest := []) hc hE hw (c_SF_isPlace G l H.size f xt) cw_SF_67 ss_SF_isPlace rfl hl.1 rfl (Nat.le_of_ble_eq_true rfl) d_SF_strict_8 ⟨rfl, rfl, by decide, by decide⟩ ⟨by first | decide | (dsimp only; omega), by first | decide | (dsimp only; omega)⟩) (fun r14 g13 H locs p12 hw => ?_)
    obtain ⟨rfl, p12⟩ := p12
    refine lv_if_eq (tgt := 19) hx hb d_SF_strict_11 (by decide) (fun c15 => ?_) (fun c15 => ?_)
    · refine lv_iconst (v := (-1)) hx hb d_SF_strict_19 (by decide) ?_
      exact m_iret hc hr hlk hw ⟨by first | decide | (dsimp only; omega), by first | decide | (dsimp only; omega)⟩ d_SF_strict_20 ⟨fun _ => ⟨rfl, ⟨E, g, hRg, gle.rf, fun _ _ => rfl, hS0⟩⟩, fun kt k vv h1 h2 h3 h4 h5 => absurd (by rw [h2]; exact plc h1) (bI_0.mp (p12.symm.trans c15))⟩
    · have hpl := bI_n.mp (fun z => c15 (p12.trans z))
      obtain ⟨kt, hkt, hxt⟩ : ∃ k : Nat, k < 10 ∧ xt = nI k := vp_in_of (vin (n := 10) hpl.1 hpl.2 (Nat.le_refl 10) (by decide)) (by decide)
      refine lv_aload hx hb d_SF_strict_14 (lv_at hl 0 rfl) ?_
      refine lv_ifnonnull (tgt := 21) hx hb d_SF_strict_16 (by decide) ?_
      refine lv_aload hx hb d_SF_strict_21 (lv_at hl 0 rfl) ?_
      refine m_getF hc hE hw hcella fcFa l5_SF_90 rfl d_SF_strict_23 ?_
      refine lv_bipush (v := 8) hx hb d_SF_strict_26 (by decide) ?_
      refine lv_icmp_lt (tgt := 34) hx hb d_SF_strict_28 (by decide) (fun c16 => ?_) (fun c16 => ?_)
      · refine lv_aload_n hx hb d_SF_strict_34 rfl (lv_at hl 1 rfl) ?_
        refine m_get hc hE hw h0 kc_SF l_SF_36_SF rfl d_SF_strict_35 ?_
        refine lv_iload_n hx hb d_SF_strict_38 rfl (lv_at hl 2 rfl) ?_
        refine m_new hc hE hw (fs := [.int 0, .int 0, .int 0, .null, .int 0]) kc_StrictFilter nw_SF_104 bl_StrictFilter (by first | decide | (dsimp only; omega)) (by first | decide | (dsimp only; omega)) d_SF_strict_39 (fun q17 H u18 hw => ?_)
        obtain ⟨f19, ef19⟩ : ∃ z : Wd, z = va_up f q17 (some (.inr (7, [.int 0, .int 0, .int 0, .null, .int 0]))) := ⟨_, rfl⟩
        replace hw : ms G.1 (Af f sz) f19 s H locs := by rw [ef19]; exact hw
        have n_root_q17 : root ≠ q17 := wnf h0 u18
        have h20 : f19 root = some (.inr (0, [.ref A0, .ref A2, .ref A7, .ref A8])) := by rw [ef19, va_up_ne _ _ n_root_q17]; exact h0
        have n_A8_q17 : A8 ≠ q17 := wnf h8 u18
        have h21 : f19 A8 = some (.inl (G.2.1 2, 10, .inr (.inr (.inr (.inr fa))))) := by rw [ef19, va_up_ne _ _ n_A8_q17]; exact h8
        have n_Fa_q17 : Fa ≠ q17 := wnf hcella u18
        have h22 : f19 Fa = some (.inr (cFa, .int kFa :: .int lFa :: .int gFa :: rFa)) := by rw [ef19, va_up_ne _ _ n_Fa_q17]; exact hcella
        have h23 : f19 q17 = some (.inr (7, [.int 0, .int 0, .int 0, .null, .int 0])) := by rw [ef19, va_up_self]
        refine lv_dup hx hb d_SF_strict_42 rfl ?_
        refine lv_aload hx hb d_SF_strict_43 (lv_at hl 0 rfl) ?_
        refine lv_iload_n hx hb d_SF_strict_45 rfl (lv_at hl 4 rfl) ?_
        refine m_callv hw (m_runI (As := [.ref Fa, .int al]) (rest := [.ref q17, .int xt, .ref A8]) hc hE hw (c_StrictFilter_init G l H.size f19 h23 h22 fcFa h_al) cw_SF_106 ⟨rfl, si_StrictFilter_init⟩ rfl hl.1 rfl (Nat.le_of_ble_eq_true rfl) d_SF_strict_46 ⟨rfl, rfl, by decide, by decide⟩ ⟨by first | decide | (dsimp only; omega), by first | decide | (dsimp only; omega)⟩) (fun g25 H locs p24 hw => ?_)
        have h26 : g25 root = some (.inr (0, [.ref A0, .ref A2, .ref A7, .ref A8])) := by rw [p24, va_up_ne _ _ n_root_q17]; exact h20
        have h27 : g25 A8 = some (.inl (G.2.1 2, 10, .inr (.inr (.inr (.inr fa))))) := by rw [p24, va_up_ne _ _ n_A8_q17]; exact h21
        have h28 : g25 Fa = some (.inr (cFa, .int kFa :: .int lFa :: .int gFa :: rFa)) := by rw [p24, va_up_ne _ _ n_Fa_q17]; exact h22
        have h29 : g25 q17 = some (.inr (7, [.int 3, .int lFa, .int (1 + gFa), .ref Fa, .int al])) := by rw [p24, va_up_self]
        refine m_aast hc hE hw 2 h27 rfl h29 rfl (Or.inr ca_StrictFilter_Filter) (by rw [hxt]; exact vp_in_nI hkt (by decide)) d_SF_strict_49 (fun H locs hw => ?_)
        obtain ⟨f30, ef30⟩ : ∃ z : Wd, z = va_up g25 A8 (some (.inl (G.2.1 2, 10, .inr (.inr (.inr (.inr (va_up fa xt.toNatClampNeg (some q17)))))))) := ⟨_, rfl⟩
        replace hw : ms G.1 (Af f sz) f30 s H locs := by rw [ef30]; exact hw
        have h31 : f30 root = some (.inr (0, [.ref A0, .ref A2, .ref A7, .ref A8])) := by rw [ef30, va_up_ne _ _ (wne h26 h27 wd_oa)]; exact h26
        have h32 : f30 Fa = some (.inr (cFa, .int kFa :: .int lFa :: .int gFa :: rFa)) := by rw [ef30, va_up_ne _ _ (wne h28 h27 wd_oa)]; exact h28
        have h33 : f30 q17 = some (.inr (7, [.int 3, .int lFa, .int (1 + gFa), .ref Fa, .int al])) := by rw [ef30, va_up_ne _ _ (Ne.symm n_A8_q17)]; exact h29
        have h34 : f30 A8 = some (.inl (G.2.1 2, 10, .inr (.inr (.inr (.inr (va_up fa xt.toNatClampNeg (some q17))))))) := by rw [ef30, va_up_self]
        refine lv_iconst (v := 0) hx hb d_SF_strict_50 (by decide) ?_
        have hbad : ¬ (¬ (¬ xt < 0 ∧ ¬ 10 ≤ xt) ∨ noF fl x) := fun z => z.elim (fun z => z hpl) (fun z => absurd ((z ka hka hxka).symm.trans hsma) (by intro z; cases z))
        have hcl : xt.toNatClampNeg = kt := by rw [hxt]; exact nI_clamp (by omega)
        have hfx : f30 = va_up (va_up f q17 (some (.inr (7, [.int 3, .int lFa, .int (1 + gFa), .ref Fa, .int al])))) (ad 8) (some (.inl (G.2.1 2, 10, .inr (.inr (.inr (.inr (va_up fa kt (some q17)))))))) := by rw [ef30, p24, ef19, up_uu, eA8, hcl]
        have hgl : gle g (va_up g q17 (some (.inr (7, [.int 3, .int lFa, .int (1 + gFa), .ref Fa, .int al])))) := gle.up (hRg.non u18)
        have hlt8 : ¬ 8 ≤ vva.2.2.1 := by rw [← egFa]; exact Int32.not_le.mpr c16
        have hh8 : h0a < 8 := Nat.not_le.mp (fun z => hlt8 (by rw [hh0a]; exact nI_le (a := 8) z (by omega)))
        have hrh9 : RH G (va_up g q17 (some (.inr (7, [.int 3, .int lFa, .int (1 + gFa), .ref Fa, .int al])))) q17 ((3, vva.2.1, 1 + vva.2.2.1, anS al vva.2.2.2.1, TI0) : FV) := ⟨l0a, h0a + 1, hl0a, by show 1 + vva.2.2.1 = _; rw [hh0a, Int32.add_comm]; exact nI_1 h0a, hl1a, hl2a, by omega, by omega, Or.inr (Or.inr (Or.inl ⟨Fa, vva, al, by rw [va_up_self, elFa, egFa], RF.mono hgl _ _ _ hrfa, h_al, rfl⟩))⟩
        exact m_iret hc hr hlk hw ⟨by first | decide | (dsimp only; omega), by first | decide | (dsimp only; omega)⟩ d_SF_strict_51 ⟨fun z => absurd z hbad, fun kt2 k vv h1 h2 h3 h4 h5 => by have ek : ka = k := (nI_eq (by omega) (by omega)).mp (hxka.symm.trans h4); subst ek; have ev2 : vva = vv := Option.some.inj (hsma.symm.trans h5); subst ev2; have et : kt = kt2 := (nI_eq (by omega) (by omega)).mp (hxt.symm.trans h2); subst et; exact ⟨fun z => absurd z hlt8, fun _ => ⟨rfl, _, _, by rw [hfx]; exact (hRg.new _ u18).up 8 (by omega) _, hgl, fun k hk => va_up_ne _ _ (by omega), hS0.f hgl _ _ ((hFL.mono hgl).put hrh9)⟩⟩⟩
      · refine lv_bipush (v := (-3)) hx hb d_SF_strict_31 (by decide) ?_
        have hbad : ¬ (¬ (¬ xt < 0 ∧ ¬ 10 ≤ xt) ∨ noF fl x) := fun z => z.elim (fun z => z hpl) (fun z => absurd ((z ka hka hxka).symm.trans hsma) (by intro z; cases z))
        exact m_iret hc hr hlk hw ⟨by first | decide | (dsimp only; omega), by first | decide | (dsimp only; omega)⟩ d_SF_strict_33 ⟨fun z => absurd z hbad, fun kt2 k vv h1 h2 h3 h4 h5 => by have ek : ka = k := (nI_eq (by omega) (by omega)).mp (hxka.symm.trans h4); subst ek; have ev2 : vva = vv := Option.some.inj (hsma.symm.trans h5); subst ev2; exact ⟨fun _ => ⟨rfl, ⟨E, g, hRg, gle.rf, fun _ _ => rfl, hS0⟩⟩, fun z => absurd (by rw [← egFa]; exact Int32.not_lt.mp c16) z⟩⟩
end
section
/-! links of the pools, as the walks ask for them -/
theorem nw_SF_109 : nwk "StreamFilters" 109 R_DefaultFilter 5 := ⟨(tb 454 (by decide +kernel) rfl), (tb 455 (by decide +kernel) rfl), (tb 16 (by decide +kernel) rfl)⟩
theorem cw_SF_111 : cwk "StreamFilters" 111 y_DefaultFilter_init b_DefaultFilter_init 3 none 2 := ⟨Or.inl (tb 456 (by decide +kernel) rfl), (tb 458 (by decide +kernel) rfl), (tb 16 (by decide +kernel) rfl), by decide, by decide, by decide +kernel⟩
theorem si_DefaultFilter_init : Cond.instanceMethod y_DefaultFilter_init ∈ TB := (tb 457 (by decide +kernel) rfl)
theorem ca_DefaultFilter_Filter : Cond.castable R_DefaultFilter "StreamFilters$Filter" ∈ EB := (eb 867 (by decide +kernel) rfl)
/-! decode rows -/
theorem d_SF_otherwise_0 : decode b_SF_otherwise 0 = .ok (.aload_n 0, 1) := by decide +kernel
theorem d_SF_otherwise_1 : decode b_SF_otherwise 1 = .ok (.iload_n 2, 1) := by decide +kernel
theorem d_SF_otherwise_2 : decode b_SF_otherwise 2 = .ok (.invokevirtual 82, 3) := by decide +kernel
theorem d_SF_otherwise_5 : decode b_SF_otherwise 5 = .ok (.astore 4, 2) := by decide +kernel
theorem d_SF_otherwise_7 : decode b_SF_otherwise 7 = .ok (.iload_n 1, 1) := by decide +kernel
theorem d_SF_otherwise_8 : decode b_SF_otherwise 8 = .ok (.invokestatic 67, 3) := by decide +kernel
theorem d_SF_otherwise_11 : decode b_SF_otherwise 11 = .ok (.ifCond .eq 17, 3) := by decide +kernel
theorem d_SF_otherwise_14 : decode b_SF_otherwise 14 = .ok (.aload 4, 2) := by decide +kernel
theorem d_SF_otherwise_16 : decode b_SF_otherwise 16 = .ok (.ifnull 12, 3) := by decide +kernel
theorem d_SF_otherwise_19 : decode b_SF_otherwise 19 = .ok (.iload_n 3, 1) := by decide +kernel
theorem d_SF_otherwise_20 : decode b_SF_otherwise 20 = .ok (.ifCond .lt 8, 3) := by decide +kernel
theorem d_SF_otherwise_23 : decode b_SF_otherwise 23 = .ok (.iload_n 3, 1) := by decide +kernel
theorem d_SF_otherwise_24 : decode b_SF_otherwise 24 = .ok (.iconst 2, 1) := by decide +kernel
theorem d_SF_otherwise_25 : decode b_SF_otherwise 25 = .ok (.if_icmp .le 5, 3) := by decide +kernel
theorem d_SF_otherwise_28 : decode b_SF_otherwise 28 = .ok (.iconst (-1), 1) := by decide +kernel
theorem d_SF_otherwise_29 : decode b_SF_otherwise 29 = .ok (.ireturn, 1) := by decide +kernel
theorem d_SF_otherwise_30 : decode b_SF_otherwise 30 = .ok (.aload 4, 2) := by decide +kernel
theorem d_SF_otherwise_32 : decode b_SF_otherwise 32 = .ok (.getfield 90, 3) := by decide +kernel
theorem d_SF_otherwise_35 : decode b_SF_otherwise 35 = .ok (.bipush 8, 2) := by decide +kernel
theorem d_SF_otherwise_37 : decode b_SF_otherwise 37 = .ok (.if_icmp .lt 6, 3) := by decide +kernel
theorem d_SF_otherwise_40 : decode b_SF_otherwise 40 = .ok (.bipush (-3), 2) := by decide +kernel
theorem d_SF_otherwise_42 : decode b_SF_otherwise 42 = .ok (.ireturn, 1) := by decide +kernel
theorem d_SF_otherwise_43 : decode b_SF_otherwise 43 = .ok (.aload_n 0, 1) := by decide +kernel
theorem d_SF_otherwise_44 : decode b_SF_otherwise 44 = .ok (.getfield 36, 3) := by decide +kernel
theorem d_SF_otherwise_47 : decode b_SF_otherwise 47 = .ok (.iload_n 1, 1) := by decide +kernel
theorem d_SF_otherwise_48 : decode b_SF_otherwise 48 = .ok (.new 109, 3) := by decide +kernel
theorem d_SF_otherwise_51 : decode b_SF_otherwise 51 = .ok (.dup, 1) := by decide +kernel
theorem d_SF_otherwise_52 : decode b_SF_otherwise 52 = .ok (.aload 4, 2) := by decide +kernel
theorem d_SF_otherwise_54 : decode b_SF_otherwise 54 = .ok (.iload_n 3, 1) := by decide +kernel
theorem d_SF_otherwise_55 : decode b_SF_otherwise 55 = .ok (.invokespecial 111, 3) := by decide +kernel
theorem d_SF_otherwise_58 : decode b_SF_otherwise 58 = .ok (.aastore, 1) := by decide +kernel
theorem d_SF_otherwise_59 : decode b_SF_otherwise 59 = .ok (.iconst 0, 1) := by decide +kernel
theorem d_SF_otherwise_60 : decode b_SF_otherwise 60 = .ok (.ireturn, 1) := by decide +kernel
set_option maxHeartbeats 4000000 in
set_option maxRecDepth 100000 in
/-- otherwise(xt, x, gv) -/
theorem c_SF_otherwise (G : GG) (l : Launch) (sz : Nat) (f : Wd) {N root pn nn mn : Nat} {ad : Nat → Nat} {E : Nat → va_E} {g : Wd} {pt nt mt : Nat → Int32} {dp rf by_ co tx lx : Int32} {fl : Nat → Option FV} (hN : 9 ≤ N) (hRg : Rg N ad E g f) (hS : SC G ad E g root pn pt nn nt mn mt dp rf by_ co tx lx fl) (xt x : Int32) (gv : Int32) : Ci G l y_SF_otherwise b_SF_otherwise 5 (some .int) ({ frames := 3, cells := 1, slots := 5, locals := 57 }) sz f [.ref root, .int xt, .int x, .int gv] (fun v f' => ((¬ (¬ xt < 0 ∧ ¬ 10 ≤ xt) ∨ noF fl x ∨ gv < 0 ∨ ¬ gv ≤ 2) → v = -1 ∧ SCR G N ad E g root f' pn pt nn nt mn mt dp rf by_ co tx lx fl) ∧ ∀ (kt k : Nat) (vv : FV), kt < 10 → xt = nI kt → k < 10 → x = nI k → fl k = some vv → ¬ (gv < 0 ∨ ¬ gv ≤ 2) → (8 ≤ vv.2.2.1 → v = -3 ∧ SCR G N ad E g root f' pn pt nn nt mn mt dp rf by_ co tx lx fl) ∧ (¬ 8 ≤ vv.2.2.1 → v = 0 ∧ SCR G N ad E g root f' pn pt nn nt mn mt dp rf by_ co tx lx (va_up fl kt (some ((4, vv.2.1, 1 + vv.2.2.1, anD gv vv.2.2.2.1, TI0) : FV))))) := by
  refine ct_of (by decide) (Nat.le_of_ble_eq_true rfl) ?_
  intro p e s m below meth c ls H locs hEn
  obtain ⟨hc, hr, hlk, hin, hE, hw, hsz, hl⟩ := hEn
  have hx := hc.1
  have hb := hc.2.1
  have hl : lv_has ls 5 [(0, .ref root), (1, .int xt), (2, .int x), (3, .int gv)] := hl
  have hS0 := hS
  obtain ⟨hroot, hPB, hNB, hMB, ⟨so, di, le, hQ⟩, ⟨fr, en, pi, li, nu, rj, sh, mf, me, nf, ne, hRd⟩, fa, hF8, hFL⟩ := hS
  obtain ⟨A0, eA0⟩ : ∃ z, z = ad 0 := ⟨_, rfl⟩
  obtain ⟨A1, eA1⟩ : ∃ z, z = ad 1 := ⟨_, rfl⟩
  obtain ⟨A2, eA2⟩ : ∃ z, z = ad 2 := ⟨_, rfl⟩
  obtain ⟨A3, eA3⟩ : ∃ z, z = ad 3 := ⟨_, rfl⟩
  obtain ⟨A4, eA4⟩ : ∃ z, z = ad 4 := ⟨_, rfl⟩
  obtain ⟨A5, eA5⟩ : ∃ z, z = ad 5 := ⟨_, rfl⟩
  obtain ⟨A6, eA6⟩ : ∃ z, z = ad 6 := ⟨_, rfl⟩
  obtain ⟨A7, eA7⟩ : ∃ z, z = ad 7 := ⟨_, rfl⟩
  obtain ⟨A8, eA8⟩ : ∃ z, z = ad 8 := ⟨_, rfl⟩
  have hgf := hRg.2.2.1
  have h0 : f root = some (.inr (0, [.ref A0, .ref A2, .ref A7, .ref A8])) := by rw [eA0, eA2, eA7, eA8]; exact hgf _ _ hroot
  have h2 : f A2 = some (.inr (2, [.ref A3, .ref A5, .int dp, .int rf, .int by_, .int so, .int di, .int le, .int co, .int tx, .int lx])) := by rw [eA2, eA3, eA5]; exact hRg.get 2 (by omega) hQ
  have h8 : f A8 = some (.inl (G.2.1 2, 10, .inr (.inr (.inr (.inr fa))))) := by rw [eA8]; exact hRg.get 8 (by omega) hF8
  have hsP : sg G f A0 A1 90 pn pt := by rw [eA0, eA1]; exact hPB.sg hRg (by omega) (by omega)
  have hsN : sg G f A3 A4 40 nn nt := by rw [eA3, eA4]; exact hNB.sg hRg (by omega) (by omega)
  have hsM : sg G f A5 A6 12 mn mt := by rw [eA5, eA6]; exact hMB.sg hRg (by omega) (by omega)
  refine lv_aload_n hx hb d_SF_otherwise_0 rfl (lv_at hl 0 rfl) ?_
  refine lv_iload_n hx hb d_SF_otherwise_1 rfl (lv_at hl 2 rfl) ?_
  refine m_callq hw (m_runV (As := [.int x]) (rest := []) hc hE hw (c_SF_filterAt G l H.size f hN hRg hS0 x) h0 rfl cw_SF_82 se_SF_filterAt rfl hl.1 rfl (Nat.le_of_ble_eq_true rfl) d_SF_otherwise_2 ⟨rfl, rfl, by decide, by decide⟩ ⟨by first | decide | (dsimp only; omega), by first | decide | (dsimp only; omega)⟩) (fun r3 g2 H locs p1 hw => ?_)
  obtain ⟨rfl, hfla⟩ := p1
  rcases hfla with ⟨hnoa, hva⟩ | ⟨ka, hka, hxka, ⟨hva, hnna⟩ | ⟨Fa, vva, hva, hsma, hrha⟩⟩
  · subst hva
    have hnfa : noF fl x := noF_out hnoa
    refine lv_astoreN (lv' := [(4, .null), (0, .ref root), (1, .int xt), (2, .int x), (3, .int gv)]) hx hb d_SF_otherwise_5 hl (by decide) rfl (fun ls hl => ?_)
    refine lv_iload_n hx hb d_SF_otherwise_7 rfl (lv_at hl 2 rfl) ?_
    refine m_calli hw (m_runS (As := [.int xt]) (rest := []) hc hE hw (c_SF_isPlace G l H.size f xt) cw_SF_67 ss_SF_isPlace rfl hl.1 rfl (Nat.le_of_ble_eq_true rfl) d_SF_otherwise_8 ⟨rfl, rfl, by decide, by decide⟩ ⟨by first | decide | (dsimp only; omega), by first | decide | (dsimp only; omega)⟩) (fun r6 g5 H locs p4 hw => ?_)
    obtain ⟨rfl, p4⟩ := p4
    refine lv_if_eq (tgt := 28) hx hb d_SF_otherwise_11 (by decide) (fun c7 => ?_) (fun c7 => ?_)
    · refine lv_iconst (v := (-1)) hx hb d_SF_otherwise_28 (by decide) ?_
      exact m_iret hc hr hlk hw ⟨by first | decide | (dsimp only; omega), by first | decide | (dsimp only; omega)⟩ d_SF_otherwise_29 ⟨fun _ => ⟨rfl, ⟨E, g, hRg, gle.rf, fun _ _ => rfl, hS0⟩⟩, fun kt k vv h1 h2 h3 h4 h5 => absurd (by rw [h2]; exact plc h1) (bI_0.mp (p4.symm.trans c7))⟩
    · have hpl := bI_n.mp (fun z => c7 (p4.trans z))
      obtain ⟨kt, hkt, hxt⟩ : ∃ k : Nat, k < 10 ∧ xt = nI k := vp_in_of (vin (n := 10) hpl.1 hpl.2 (Nat.le_refl 10) (by decide)) (by decide)
      refine lv_aloadN hx hb d_SF_otherwise_14 (lv_at hl 0 rfl) ?_
      refine lv_ifnullN (tgt := 28) hx hb d_SF_otherwise_16 (by decide) ?_
      refine lv_iconst (v := (-1)) hx hb d_SF_otherwise_28 (by decide) ?_
      exact m_iret hc hr hlk hw ⟨by first | decide | (dsimp only; omega), by first | decide | (dsimp only; omega)⟩ d_SF_otherwise_29 ⟨fun _ => ⟨rfl, ⟨E, g, hRg, gle.rf, fun _ _ => rfl, hS0⟩⟩, fun kt k vv h1 h2 h3 h4 h5 => absurd ((hnfa k h3 h4).symm.trans h5) (by intro z; cases z)⟩
  · subst hva
    have hnfa : noF fl x := noF_in hka hxka hnna
    refine lv_astoreN (lv' := [(4, .null), (0, .ref root), (1, .int xt), (2, .int x), (3, .int gv)]) hx hb d_SF_otherwise_5 hl (by decide) rfl (fun ls hl => ?_)
    refine lv_iload_n hx hb d_SF_otherwise_7 rfl (lv_at hl 2 rfl) ?_
    refine m_calli hw (m_runS (As := [.int xt]) (rest := []) hc hE hw (c_SF_isPlace G l H.size f xt) cw_SF_67 ss_SF_isPlace rfl hl.1 rfl (Nat.le_of_ble_eq_true rfl) d_SF_otherwise_8 ⟨rfl, rfl, by decide, by decide⟩ ⟨by first | decide | (dsimp only; omega), by first | decide | (dsimp only; omega)⟩) (fun r10 g9 H locs p8 hw => ?_)
    obtain ⟨rfl, p8⟩ := p8
    refine lv_if_eq (tgt := 28) hx hb d_SF_otherwise_11 (by decide) (fun c11 => ?_) (fun c11 => ?_)
    · refine lv_iconst (v := (-1)) hx hb d_SF_otherwise_28 (by decide) ?_
      exact m_iret hc hr hlk hw ⟨by first | decide | (dsimp only; omega), by first | decide | (dsimp only; omega)⟩ d_SF_otherwise_29 ⟨fun _ => ⟨rfl, ⟨E, g, hRg, gle.rf, fun _ _ => rfl, hS0⟩⟩, fun kt k vv h1 h2 h3 h4 h5 => absurd (by rw [h2]; exact plc h1) (bI_0.mp (p8.symm.trans c11))⟩
    · have hpl := bI_n.mp (fun z => c11 (p8.trans z))
      obtain ⟨kt, hkt, hxt⟩ : ∃ k : Nat, k < 10 ∧ xt = nI k := vp_in_of (vin (n := 10) hpl.1 hpl.2 (Nat.le_refl 10) (by decide)) (by decide)
      refine lv_aloadN hx hb d_SF_otherwise_14 (lv_at hl 0 rfl) ?_
      refine lv_ifnullN (tgt := 28) hx hb d_SF_otherwise_16 (by decide) ?_
      refine lv_iconst (v := (-1)) hx hb d_SF_otherwise_28 (by decide) ?_
      exact m_iret hc hr hlk hw ⟨by first | decide | (dsimp only; omega), by first | decide | (dsimp only; omega)⟩ d_SF_otherwise_29 ⟨fun _ => ⟨rfl, ⟨E, g, hRg, gle.rf, fun _ _ => rfl, hS0⟩⟩, fun kt k vv h1 h2 h3 h4 h5 => absurd ((hnfa k h3 h4).symm.trans h5) (by intro z; cases z)⟩
  · subst hva
    have hrhab := hrha
    obtain ⟨l0a, h0a, hl0a, hh0a, hl1a, hl2a, hh1a, hh2a, hrfa⟩ := hrha
    obtain ⟨cFa, rFa, fcFa, hcFa⟩ := RF.head hrfa
    obtain ⟨kFa, ekFa⟩ : ∃ z, z = vva.1 := ⟨_, rfl⟩
    obtain ⟨lFa, elFa⟩ : ∃ z, z = vva.2.1 := ⟨_, rfl⟩
    obtain ⟨gFa, egFa⟩ : ∃ z, z = vva.2.2.1 := ⟨_, rfl⟩
    have hcella : f Fa = some (.inr (cFa, .int kFa :: .int lFa :: .int gFa :: rFa)) := by rw [ekFa, elFa, egFa]; exact hgf _ _ hcFa
    refine lv_astore (lv' := [(4, .ref Fa), (0, .ref root), (1, .int xt), (2, .int x), (3, .int gv)]) hx hb d_SF_otherwise_5 hl (by decide) rfl (fun ls hl => ?_)
    refine lv_iload_n hx hb d_SF_otherwise_7 rfl (lv_at hl 2 rfl) ?_
    refine m_calli hw (m_runS (As := [.int xt]) (rest := []) hc hE hw (c_SF_isPlace G l H.size f xt) cw_SF_67 ss_SF_isPlace rfl hl.1 rfl (Nat.le_of_ble_eq_true rfl) d_SF_otherwise_8 ⟨rfl, rfl, by decide, by decide⟩ ⟨by first | decide | (dsimp only; omega), by first | decide | (dsimp only; omega)⟩) (fun r14 g13 H locs p12 hw => ?_)
    obtain ⟨rfl, p12⟩ := p12
    refine lv_if_eq (tgt := 28) hx hb d_SF_otherwise_11 (by decide) (fun c15 => ?_) (fun c15 => ?_)
    · refine lv_iconst (v := (-1)) hx hb d_SF_otherwise_28 (by decide) ?_
      exact m_iret hc hr hlk hw ⟨by first | decide | (dsimp only; omega), by first | decide | (dsimp only; omega)⟩ d_SF_otherwise_29 ⟨fun _ => ⟨rfl, ⟨E, g, hRg, gle.rf, fun _ _ => rfl, hS0⟩⟩, fun kt k vv h1 h2 h3 h4 h5 => absurd (by rw [h2]; exact plc h1) (bI_0.mp (p12.symm.trans c15))⟩
    · have hpl := bI_n.mp (fun z => c15 (p12.trans z))
      obtain ⟨kt, hkt, hxt⟩ : ∃ k : Nat, k < 10 ∧ xt = nI k := vp_in_of (vin (n := 10) hpl.1 hpl.2 (Nat.le_refl 10) (by decide)) (by decide)
      refine lv_aload hx hb d_SF_otherwise_14 (lv_at hl 0 rfl) ?_
      refine lv_ifnull hx hb d_SF_otherwise_16 ?_
      refine lv_iload_n hx hb d_SF_otherwise_19 rfl (lv_at hl 4 rfl) ?_
      refine lv_if_lt (tgt := 28) hx hb d_SF_otherwise_20 (by decide) (fun c16 => ?_) (fun c16 => ?_)
      · refine lv_iconst (v := (-1)) hx hb d_SF_otherwise_28 (by decide) ?_
        exact m_iret hc hr hlk hw ⟨by first | decide | (dsimp only; omega), by first | decide | (dsimp only; omega)⟩ d_SF_otherwise_29 ⟨fun _ => ⟨rfl, ⟨E, g, hRg, gle.rf, fun _ _ => rfl, hS0⟩⟩, fun kt k vv h1 h2 h3 h4 h5 => fun hr => absurd (Or.inl c16) hr⟩
      · refine lv_iload_n hx hb d_SF_otherwise_23 rfl (lv_at hl 4 rfl) ?_
        refine lv_iconst (v := 2) hx hb d_SF_otherwise_24 (by decide) ?_
        refine lv_icmp_le (tgt := 30) hx hb d_SF_otherwise_25 (by decide) (fun c17 => ?_) (fun c17 => ?_)
        · refine lv_aload hx hb d_SF_otherwise_30 (lv_at hl 0 rfl) ?_
          refine m_getF hc hE hw hcella fcFa l5_SF_90 rfl d_SF_otherwise_32 ?_
          refine lv_bipush (v := 8) hx hb d_SF_otherwise_35 (by decide) ?_
          refine lv_icmp_lt (tgt := 43) hx hb d_SF_otherwise_37 (by decide) (fun c18 => ?_) (fun c18 => ?_)
          · refine lv_aload_n hx hb d_SF_otherwise_43 rfl (lv_at hl 1 rfl) ?_
            refine m_get hc hE hw h0 kc_SF l_SF_36_SF rfl d_SF_otherwise_44 ?_
            refine lv_iload_n hx hb d_SF_otherwise_47 rfl (lv_at hl 2 rfl) ?_
            refine m_new hc hE hw (fs := [.int 0, .int 0, .int 0, .null, .int 0]) kc_DefaultFilter nw_SF_109 bl_DefaultFilter (by first | decide | (dsimp only; omega)) (by first | decide | (dsimp only; omega)) d_SF_otherwise_48 (fun q19 H u20 hw => ?_)
            obtain ⟨f21, ef21⟩ : ∃ z : Wd, z = va_up f q19 (some (.inr (8, [.int 0, .int 0, .int 0, .null, .int 0]))) := ⟨_, rfl⟩
            replace hw : ms G.1 (Af f sz) f21 s H locs := by rw [ef21]; exact hw
            have n_root_q19 : root ≠ q19 := wnf h0 u20
            have h22 : f21 root = some (.inr (0, [.ref A0, .ref A2, .ref A7, .ref A8])) := by rw [ef21, va_up_ne _ _ n_root_q19]; exact h0
            have n_A8_q19 : A8 ≠ q19 := wnf h8 u20
            have h23 : f21 A8 = some (.inl (G.2.1 2, 10, .inr (.inr (.inr (.inr fa))))) := by rw [ef21, va_up_ne _ _ n_A8_q19]; exact h8
            have n_Fa_q19 : Fa ≠ q19 := wnf hcella u20
            have h24 : f21 Fa = some (.inr (cFa, .int kFa :: .int lFa :: .int gFa :: rFa)) := by rw [ef21, va_up_ne _ _ n_Fa_q19]; exact hcella
            have h25 : f21 q19 = some (.inr (8, [.int 0, .int 0, .int 0, .null, .int 0])) := by rw [ef21, va_up_self]
            refine lv_dup hx hb d_SF_otherwise_51 rfl ?_
            refine lv_aload hx hb d_SF_otherwise_52 (lv_at hl 0 rfl) ?_
            refine lv_iload_n hx hb d_SF_otherwise_54 rfl (lv_at hl 4 rfl) ?_
            refine m_callv hw (m_runI (As := [.ref Fa, .int gv]) (rest := [.ref q19, .int xt, .ref A8]) hc hE hw (c_DefaultFilter_init G l H.size f21 h25 h24 fcFa gv) cw_SF_111 ⟨rfl, si_DefaultFilter_init⟩ rfl hl.1 rfl (Nat.le_of_ble_eq_true rfl) d_SF_otherwise_55 ⟨rfl, rfl, by decide, by decide⟩ ⟨by first | decide | (dsimp only; omega), by first | decide | (dsimp only; omega)⟩) (fun g27 H locs p26 hw => ?_)
            have h28 : g27 root = some (.inr (0, [.ref A0, .ref A2, .ref A7, .ref A8])) := by rw [p26, va_up_ne _ _ n_root_q19]; exact h22
            have h29 : g27 A8 = some (.inl (G.2.1 2, 10, .inr (.inr (.inr (.inr fa))))) := by rw [p26, va_up_ne _ _ n_A8_q19]; exact h23
            have h30 : g27 Fa = some (.inr (cFa, .int kFa :: .int lFa :: .int gFa :: rFa)) := by rw [p26, va_up_ne _ _ n_Fa_q19]; exact h24
            have h31 : g27 q19 = some (.inr (8, [.int 4, .int lFa, .int (1 + gFa), .ref Fa, .int gv])) := by rw [p26, va_up_self]
            refine m_aast hc hE hw 2 h29 rfl h31 rfl (Or.inr ca_DefaultFilter_Filter) (by rw [hxt]; exact vp_in_nI hkt (by decide)) d_SF_otherwise_58 (fun H locs hw => ?_)
            obtain ⟨f32, ef32⟩ : ∃ z : Wd, z = va_up g27 A8 (some (.inl (G.2.1 2, 10, .inr (.inr (.inr (.inr (va_up fa xt.toNatClampNeg (some q19)))))))) := ⟨_, rfl⟩
            replace hw : ms G.1 (Af f sz) f32 s H locs := by rw [ef32]; exact hw
            have h33 : f32 root = some (.inr (0, [.ref A0, .ref A2, .ref A7, .ref A8])) := by rw [ef32, va_up_ne _ _ (wne h28 h29 wd_oa)]; exact h28
            have h34 : f32 Fa = some (.inr (cFa, .int kFa :: .int lFa :: .int gFa :: rFa)) := by rw [ef32, va_up_ne _ _ (wne h30 h29 wd_oa)]; exact h30
            have h35 : f32 q19 = some (.inr (8, [.int 4, .int lFa, .int (1 + gFa), .ref Fa, .int gv])) := by rw [ef32, va_up_ne _ _ (Ne.symm n_A8_q19)]; exact h31
            have h36 : f32 A8 = some (.inl (G.2.1 2, 10, .inr (.inr (.inr (.inr (va_up fa xt.toNatClampNeg (some q19))))))) := by rw [ef32, va_up_self]
            refine lv_iconst (v := 0) hx hb d_SF_otherwise_59 (by decide) ?_
            have hbad : ¬ (¬ (¬ xt < 0 ∧ ¬ 10 ≤ xt) ∨ noF fl x ∨ gv < 0 ∨ ¬ gv ≤ 2) := fun z => z.elim (fun z => z hpl) (fun z => z.elim (fun z => absurd ((z ka hka hxka).symm.trans hsma) (by intro z; cases z)) (fun z => z.elim c16 (fun z => z c17)))
            have hcl : xt.toNatClampNeg = kt := by rw [hxt]; exact nI_clamp (by omega)
            have hfx : f32 = va_up (va_up f q19 (some (.inr (8, [.int 4, .int lFa, .int (1 + gFa), .ref Fa, .int gv])))) (ad 8) (some (.inl (G.2.1 2, 10, .inr (.inr (.inr (.inr (va_up fa kt (some q19)))))))) := by rw [ef32, p26, ef21, up_uu, eA8, hcl]
            have hgl : gle g (va_up g q19 (some (.inr (8, [.int 4, .int lFa, .int (1 + gFa), .ref Fa, .int gv])))) := gle.up (hRg.non u20)
            have hlt8 : ¬ 8 ≤ vva.2.2.1 := by rw [← egFa]; exact Int32.not_le.mpr c18
            have hh8 : h0a < 8 := Nat.not_le.mp (fun z => hlt8 (by rw [hh0a]; exact nI_le (a := 8) z (by omega)))
            have hrh9 : RH G (va_up g q19 (some (.inr (8, [.int 4, .int lFa, .int (1 + gFa), .ref Fa, .int gv])))) q19 ((4, vva.2.1, 1 + vva.2.2.1, anD gv vva.2.2.2.1, TI0) : FV) := ⟨l0a, h0a + 1, hl0a, by show 1 + vva.2.2.1 = _; rw [hh0a, Int32.add_comm]; exact nI_1 h0a, hl1a, hl2a, by omega, by omega, Or.inr (Or.inr (Or.inr (Or.inl ⟨Fa, vva, gv, by rw [va_up_self, elFa, egFa], RF.mono hgl _ _ _ hrfa, rfl⟩)))⟩
            exact m_iret hc hr hlk hw ⟨by first | decide | (dsimp only; omega), by first | decide | (dsimp only; omega)⟩ d_SF_otherwise_60 ⟨fun z => absurd z hbad, fun kt2 k vv h1 h2 h3 h4 h5 _ => by have ek : ka = k := (nI_eq (by omega) (by omega)).mp (hxka.symm.trans h4); subst ek; have ev2 : vva = vv := Option.some.inj (hsma.symm.trans h5); subst ev2; have et : kt = kt2 := (nI_eq (by omega) (by omega)).mp (hxt.symm.trans h2); subst et; exact ⟨fun z => absurd z hlt8, fun _ => ⟨rfl, _, _, by rw [hfx]; exact (hRg.new _ u20).up 8 (by omega) _, hgl, fun k hk => va_up_ne _ _ (by omega), hS0.f hgl _ _ ((hFL.mono hgl).put hrh9)⟩⟩⟩
          · refine lv_bipush (v := (-3)) hx hb d_SF_otherwise_40 (by decide) ?_
            have hbad : ¬ (¬ (¬ xt < 0 ∧ ¬ 10 ≤ xt) ∨ noF fl x ∨ gv < 0 ∨ ¬ gv ≤ 2) := fun z => z.elim (fun z => z hpl) (fun z => z.elim (fun z => absurd ((z ka hka hxka).symm.trans hsma) (by intro z; cases z)) (fun z => z.elim c16 (fun z => z c17)))
            exact m_iret hc hr hlk hw ⟨by first | decide | (dsimp only; omega), by first | decide | (dsimp only; omega)⟩ d_SF_otherwise_42 ⟨fun z => absurd z hbad, fun kt2 k vv h1 h2 h3 h4 h5 _ => by have ek : ka = k := (nI_eq (by omega) (by omega)).mp (hxka.symm.trans h4); subst ek; have ev2 : vva = vv := Option.some.inj (hsma.symm.trans h5); subst ev2; exact ⟨fun _ => ⟨rfl, ⟨E, g, hRg, gle.rf, fun _ _ => rfl, hS0⟩⟩, fun z => absurd (by rw [← egFa]; exact Int32.not_lt.mp c18) z⟩⟩
        · refine lv_iconst (v := (-1)) hx hb d_SF_otherwise_28 (by decide) ?_
          exact m_iret hc hr hlk hw ⟨by first | decide | (dsimp only; omega), by first | decide | (dsimp only; omega)⟩ d_SF_otherwise_29 ⟨fun _ => ⟨rfl, ⟨E, g, hRg, gle.rf, fun _ _ => rfl, hS0⟩⟩, fun kt k vv h1 h2 h3 h4 h5 => fun hr => absurd (Or.inr c17) hr⟩
end
section
/-! links of the pools, as the walks ask for them -/
theorem nw_SF_114 : nwk "StreamFilters" 114 R_OnlyFilter 5 := ⟨(tb 474 (by decide +kernel) rfl), (tb 475 (by decide +kernel) rfl), (tb 17 (by decide +kernel) rfl)⟩
theorem cw_SF_116 : cwk "StreamFilters" 116 y_Signs_copy b_Signs_copy 3 (some (.object "StreamFilters$Signs")) 0 := ⟨Or.inl (tb 476 (by decide +kernel) rfl), (tb 323 (by decide +kernel) rfl), (tb 2 (by decide +kernel) rfl), by decide, by decide, by decide +kernel⟩
theorem cw_SF_120 : cwk "StreamFilters" 120 y_OnlyFilter_init b_OnlyFilter_init 3 none 2 := ⟨Or.inl (tb 477 (by decide +kernel) rfl), (tb 479 (by decide +kernel) rfl), (tb 17 (by decide +kernel) rfl), by decide, by decide, by decide +kernel⟩
theorem si_OnlyFilter_init : Cond.instanceMethod y_OnlyFilter_init ∈ TB := (tb 478 (by decide +kernel) rfl)
theorem ca_OnlyFilter_Filter : Cond.castable R_OnlyFilter "StreamFilters$Filter" ∈ EB := (eb 869 (by decide +kernel) rfl)
/-! decode rows -/
theorem d_SF_only_0 : decode b_SF_only 0 = .ok (.aload_n 0, 1) := by decide +kernel
theorem d_SF_only_1 : decode b_SF_only 1 = .ok (.iload_n 2, 1) := by decide +kernel
theorem d_SF_only_2 : decode b_SF_only 2 = .ok (.invokevirtual 82, 3) := by decide +kernel
theorem d_SF_only_5 : decode b_SF_only 5 = .ok (.astore_n 3, 1) := by decide +kernel
theorem d_SF_only_6 : decode b_SF_only 6 = .ok (.iload_n 1, 1) := by decide +kernel
theorem d_SF_only_7 : decode b_SF_only 7 = .ok (.invokestatic 67, 3) := by decide +kernel
theorem d_SF_only_10 : decode b_SF_only 10 = .ok (.ifCond .eq 7, 3) := by decide +kernel
theorem d_SF_only_13 : decode b_SF_only 13 = .ok (.aload_n 3, 1) := by decide +kernel
theorem d_SF_only_14 : decode b_SF_only 14 = .ok (.ifnonnull 5, 3) := by decide +kernel
theorem d_SF_only_17 : decode b_SF_only 17 = .ok (.iconst (-1), 1) := by decide +kernel
theorem d_SF_only_18 : decode b_SF_only 18 = .ok (.ireturn, 1) := by decide +kernel
theorem d_SF_only_19 : decode b_SF_only 19 = .ok (.aload_n 3, 1) := by decide +kernel
theorem d_SF_only_20 : decode b_SF_only 20 = .ok (.getfield 90, 3) := by decide +kernel
theorem d_SF_only_23 : decode b_SF_only 23 = .ok (.bipush 8, 2) := by decide +kernel
theorem d_SF_only_25 : decode b_SF_only 25 = .ok (.if_icmp .lt 6, 3) := by decide +kernel
theorem d_SF_only_28 : decode b_SF_only 28 = .ok (.bipush (-3), 2) := by decide +kernel
theorem d_SF_only_30 : decode b_SF_only 30 = .ok (.ireturn, 1) := by decide +kernel
theorem d_SF_only_31 : decode b_SF_only 31 = .ok (.aload_n 0, 1) := by decide +kernel
theorem d_SF_only_32 : decode b_SF_only 32 = .ok (.getfield 36, 3) := by decide +kernel
theorem d_SF_only_35 : decode b_SF_only 35 = .ok (.iload_n 1, 1) := by decide +kernel
theorem d_SF_only_36 : decode b_SF_only 36 = .ok (.new 114, 3) := by decide +kernel
theorem d_SF_only_39 : decode b_SF_only 39 = .ok (.dup, 1) := by decide +kernel
theorem d_SF_only_40 : decode b_SF_only 40 = .ok (.aload_n 3, 1) := by decide +kernel
theorem d_SF_only_41 : decode b_SF_only 41 = .ok (.aload_n 0, 1) := by decide +kernel
theorem d_SF_only_42 : decode b_SF_only 42 = .ok (.getfield 14, 3) := by decide +kernel
theorem d_SF_only_45 : decode b_SF_only 45 = .ok (.invokevirtual 116, 3) := by decide +kernel
theorem d_SF_only_48 : decode b_SF_only 48 = .ok (.invokespecial 120, 3) := by decide +kernel
theorem d_SF_only_51 : decode b_SF_only 51 = .ok (.aastore, 1) := by decide +kernel
theorem d_SF_only_52 : decode b_SF_only 52 = .ok (.iconst 0, 1) := by decide +kernel
theorem d_SF_only_53 : decode b_SF_only 53 = .ok (.ireturn, 1) := by decide +kernel
theorem anO_congr {n : Nat} {u t : Nat → Int32} {a : An} (h : ∀ j, j < n → u j = t j) : anO n u a = anO n t a := by
  funext Q tr
  obtain ⟨nn, nt, mn, mt, dp, rf, by_, so, di, le⟩ := Q
  show pif (so = 1 ∧ bgn nn nt u 0 n) _ _ = pif (so = 1 ∧ bgn nn nt t 0 n) _ _
  rw [propext (bgn_congr (nn := nn) (nt := nt) h (Nat.zero_le n))]
set_option maxHeartbeats 4000000 in
set_option maxRecDepth 100000 in
/-- only(xt, x) -/
theorem c_SF_only (G : GG) (l : Launch) (sz : Nat) (f : Wd) {N root pn nn mn : Nat} {ad : Nat → Nat} {E : Nat → va_E} {g : Wd} {pt nt mt : Nat → Int32} {dp rf by_ co tx lx : Int32} {fl : Nat → Option FV} (hN : 9 ≤ N) (hRg : Rg N ad E g f) (hS : SC G ad E g root pn pt nn nt mn mt dp rf by_ co tx lx fl) (xt x : Int32)  : Ci G l y_SF_only b_SF_only 4 (some .int) ({ frames := 3, cells := 3, slots := 97, locals := 57 }) sz f [.ref root, .int xt, .int x] (fun v f' => ((¬ (¬ xt < 0 ∧ ¬ 10 ≤ xt) ∨ noF fl x) → v = -1 ∧ SCR G N ad E g root f' pn pt nn nt mn mt dp rf by_ co tx lx fl) ∧ ∀ (kt k : Nat) (vv : FV), kt < 10 → xt = nI kt → k < 10 → x = nI k → fl k = some vv → (8 ≤ vv.2.2.1 → v = -3 ∧ SCR G N ad E g root f' pn pt nn nt mn mt dp rf by_ co tx lx fl) ∧ (¬ 8 ≤ vv.2.2.1 → v = 0 ∧ SCR G N ad E g root f' pn pt nn nt mn mt dp rf by_ co tx lx (va_up fl kt (some ((5, vv.2.1, 1 + vv.2.2.1, anO pn pt vv.2.2.2.1, TI0) : FV))))) := by
  refine ct_of (by decide) (Nat.le_of_ble_eq_true rfl) ?_
  intro p e s m below meth c ls H locs hEn
  obtain ⟨hc, hr, hlk, hin, hE, hw, hsz, hl⟩ := hEn
  have hx := hc.1
  have hb := hc.2.1
  have hl : lv_has ls 4 [(0, .ref root), (1, .int xt), (2, .int x)] := hl
  have hS0 := hS
  obtain ⟨hroot, hPB, hNB, hMB, ⟨so, di, le, hQ⟩, ⟨fr, en, pi, li, nu, rj, sh, mf, me, nf, ne, hRd⟩, fa, hF8, hFL⟩ := hS
  obtain ⟨A0, eA0⟩ : ∃ z, z = ad 0 := ⟨_, rfl⟩
  obtain ⟨A1, eA1⟩ : ∃ z, z = ad 1 := ⟨_, rfl⟩
  obtain ⟨A2, eA2⟩ : ∃ z, z = ad 2 := ⟨_, rfl⟩
  obtain ⟨A3, eA3⟩ : ∃ z, z = ad 3 := ⟨_, rfl⟩
  obtain ⟨A4, eA4⟩ : ∃ z, z = ad 4 := ⟨_, rfl⟩
  obtain ⟨A5, eA5⟩ : ∃ z, z = ad 5 := ⟨_, rfl⟩
  obtain ⟨A6, eA6⟩ : ∃ z, z = ad 6 := ⟨_, rfl⟩
  obtain ⟨A7, eA7⟩ : ∃ z, z = ad 7 := ⟨_, rfl⟩
  obtain ⟨A8, eA8⟩ : ∃ z, z = ad 8 := ⟨_, rfl⟩
  have hgf := hRg.2.2.1
  have h0 : f root = some (.inr (0, [.ref A0, .ref A2, .ref A7, .ref A8])) := by rw [eA0, eA2, eA7, eA8]; exact hgf _ _ hroot
  have h2 : f A2 = some (.inr (2, [.ref A3, .ref A5, .int dp, .int rf, .int by_, .int so, .int di, .int le, .int co, .int tx, .int lx])) := by rw [eA2, eA3, eA5]; exact hRg.get 2 (by omega) hQ
  have h8 : f A8 = some (.inl (G.2.1 2, 10, .inr (.inr (.inr (.inr fa))))) := by rw [eA8]; exact hRg.get 8 (by omega) hF8
  have hsP : sg G f A0 A1 90 pn pt := by rw [eA0, eA1]; exact hPB.sg hRg (by omega) (by omega)
  have hsN : sg G f A3 A4 40 nn nt := by rw [eA3, eA4]; exact hNB.sg hRg (by omega) (by omega)
  have hsM : sg G f A5 A6 12 mn mt := by rw [eA5, eA6]; exact hMB.sg hRg (by omega) (by omega)
  refine lv_aload_n hx hb d_SF_only_0 rfl (lv_at hl 0 rfl) ?_
  refine lv_iload_n hx hb d_SF_only_1 rfl (lv_at hl 2 rfl) ?_
  refine m_callq hw (m_runV (As := [.int x]) (rest := []) hc hE hw (c_SF_filterAt G l H.size f hN hRg hS0 x) h0 rfl cw_SF_82 se_SF_filterAt rfl hl.1 rfl (Nat.le_of_ble_eq_true rfl) d_SF_only_2 ⟨rfl, rfl, by decide, by decide⟩ ⟨by first | decide | (dsimp only; omega), by first | decide | (dsimp only; omega)⟩) (fun r3 g2 H locs p1 hw => ?_)
  obtain ⟨rfl, hfla⟩ := p1
  rcases hfla with ⟨hnoa, hva⟩ | ⟨ka, hka, hxka, ⟨hva, hnna⟩ | ⟨Fa, vva, hva, hsma, hrha⟩⟩
  · subst hva
    have hnfa : noF fl x := noF_out hnoa
    refine lv_astore_nN (lv' := [(3, .null), (0, .ref root), (1, .int xt), (2, .int x)]) hx hb d_SF_only_5 rfl hl (by decide) rfl (fun ls hl => ?_)
    refine lv_iload_n hx hb d_SF_only_6 rfl (lv_at hl 2 rfl) ?_
    refine m_calli hw (m_runS (As := [.int xt]) (rest := []) hc hE hw (c_SF_isPlace G l H.size f xt) cw_SF_67 ss_SF_isPlace rfl hl.1 rfl (Nat.le_of_ble_eq_true rfl) d_SF_only_7 ⟨rfl, rfl, by decide, by decide⟩ ⟨by first | decide | (dsimp only; omega), by first | decide | (dsimp only; omega)⟩) (fun r6 g5 H locs p4 hw => ?_)
    obtain ⟨rfl, p4⟩ := p4
    refine lv_if_eq (tgt := 17) hx hb d_SF_only_10 (by decide) (fun c7 => ?_) (fun c7 => ?_)
    · refine lv_iconst (v := (-1)) hx hb d_SF_only_17 (by decide) ?_
      exact m_iret hc hr hlk hw ⟨by first | decide | (dsimp only; omega), by first | decide | (dsimp only; omega)⟩ d_SF_only_18 ⟨fun _ => ⟨rfl, ⟨E, g, hRg, gle.rf, fun _ _ => rfl, hS0⟩⟩, fun kt k vv h1 h2 h3 h4 h5 => absurd (by rw [h2]; exact plc h1) (bI_0.mp (p4.symm.trans c7))⟩
    · have hpl := bI_n.mp (fun z => c7 (p4.trans z))
      obtain ⟨kt, hkt, hxt⟩ : ∃ k : Nat, k < 10 ∧ xt = nI k := vp_in_of (vin (n := 10) hpl.1 hpl.2 (Nat.le_refl 10) (by decide)) (by decide)
      refine lv_aload_nN hx hb d_SF_only_13 rfl (lv_at hl 0 rfl) ?_
      refine lv_ifnonnullN hx hb d_SF_only_14 ?_
      refine lv_iconst (v := (-1)) hx hb d_SF_only_17 (by decide) ?_
      exact m_iret hc hr hlk hw ⟨by first | decide | (dsimp only; omega), by first | decide | (dsimp only; omega)⟩ d_SF_only_18 ⟨fun _ => ⟨rfl, ⟨E, g, hRg, gle.rf, fun _ _ => rfl, hS0⟩⟩, fun kt k vv h1 h2 h3 h4 h5 => absurd ((hnfa k h3 h4).symm.trans h5) (by intro z; cases z)⟩
  · subst hva
    have hnfa : noF fl x := noF_in hka hxka hnna
    refine lv_astore_nN (lv' := [(3, .null), (0, .ref root), (1, .int xt), (2, .int x)]) hx hb d_SF_only_5 rfl hl (by decide) rfl (fun ls hl => ?_)
    refine lv_iload_n hx hb d_SF_only_6 rfl (lv_at hl 2 rfl) ?_
    refine m_calli hw (m_runS (As := [.int xt]) (rest := []) hc hE hw (c_SF_isPlace G l H.size f xt) cw_SF_67 ss_SF_isPlace rfl hl.1 rfl (Nat.le_of_ble_eq_true rfl) d_SF_only_7 ⟨rfl, rfl, by decide, by decide⟩ ⟨by first | decide | (dsimp only; omega), by first | decide | (dsimp only; omega)⟩) (fun r10 g9 H locs p8 hw => ?_)
    obtain ⟨rfl, p8⟩ := p8
    refine lv_if_eq (tgt := 17) hx hb d_SF_only_10 (by decide) (fun c11 => ?_) (fun c11 => ?_)
    · refine lv_iconst (v := (-1)) hx hb d_SF_only_17 (by decide) ?_
      exact m_iret hc hr hlk hw ⟨by first | decide | (dsimp only; omega), by first | decide | (dsimp only; omega)⟩ d_SF_only_18 ⟨fun _ => ⟨rfl, ⟨E, g, hRg, gle.rf, fun _ _ => rfl, hS0⟩⟩, fun kt k vv h1 h2 h3 h4 h5 => absurd (by rw [h2]; exact plc h1) (bI_0.mp (p8.symm.trans c11))⟩
    · have hpl := bI_n.mp (fun z => c11 (p8.trans z))
      obtain ⟨kt, hkt, hxt⟩ : ∃ k : Nat, k < 10 ∧ xt = nI k := vp_in_of (vin (n := 10) hpl.1 hpl.2 (Nat.le_refl 10) (by decide)) (by decide)
      refine lv_aload_nN hx hb d_SF_only_13 rfl (lv_at hl 0 rfl) ?_
      refine lv_ifnonnullN hx hb d_SF_only_14 ?_
      refine lv_iconst (v := (-1)) hx hb d_SF_only_17 (by decide) ?_
      exact m_iret hc hr hlk hw ⟨by first | decide | (dsimp only; omega), by first | decide | (dsimp only; omega)⟩ d_SF_only_18 ⟨fun _ => ⟨rfl, ⟨E, g, hRg, gle.rf, fun _ _ => rfl, hS0⟩⟩, fun kt k vv h1 h2 h3 h4 h5 => absurd ((hnfa k h3 h4).symm.trans h5) (by intro z; cases z)⟩
  · subst hva
    have hrhab := hrha
    obtain ⟨l0a, h0a, hl0a, hh0a, hl1a, hl2a, hh1a, hh2a, hrfa⟩ := hrha
    obtain ⟨cFa, rFa, fcFa, hcFa⟩ := RF.head hrfa
    obtain ⟨kFa, ekFa⟩ : ∃ z, z = vva.1 := ⟨_, rfl⟩
    obtain ⟨lFa, elFa⟩ : ∃ z, z = vva.2.1 := ⟨_, rfl⟩
    obtain ⟨gFa, egFa⟩ : ∃ z, z = vva.2.2.1 := ⟨_, rfl⟩
    have hcella : f Fa = some (.inr (cFa, .int kFa :: .int lFa :: .int gFa :: rFa)) := by rw [ekFa, elFa, egFa]; exact hgf _ _ hcFa
    refine lv_astore_n (lv' := [(3, .ref Fa), (0, .ref root), (1, .int xt), (2, .int x)]) hx hb d_SF_only_5 rfl hl (by decide) rfl (fun ls hl => ?_)
    refine lv_iload_n hx hb d_SF_only_6 rfl (lv_at hl 2 rfl) ?_
    refine m_calli hw (m_runS (As := [.int xt]) (rest := []) hc hE hw (c_SF_isPlace G l H.size f xt) cw_SF_67 ss_SF_isPlace rfl hl.1 rfl (Nat.le_of_ble_eq_true rfl) d_SF_only_7 ⟨rfl, rfl, by decide, by decide⟩ ⟨by first | decide | (dsimp only; omega), by first | decide | (dsimp only; omega)⟩) (fun r14 g13 H locs p12 hw => ?_)
    obtain ⟨rfl, p12⟩ := p12
    refine lv_if_eq (tgt := 17) hx hb d_SF_only_10 (by decide) (fun c15 => ?_) (fun c15 => ?_)
    · refine lv_iconst (v := (-1)) hx hb d_SF_only_17 (by decide) ?_
      exact m_iret hc hr hlk hw ⟨by first | decide | (dsimp only; omega), by first | decide | (dsimp only; omega)⟩ d_SF_only_18 ⟨fun _ => ⟨rfl, ⟨E, g, hRg, gle.rf, fun _ _ => rfl, hS0⟩⟩, fun kt k vv h1 h2 h3 h4 h5 => absurd (by rw [h2]; exact plc h1) (bI_0.mp (p12.symm.trans c15))⟩
    · have hpl := bI_n.mp (fun z => c15 (p12.trans z))
      obtain ⟨kt, hkt, hxt⟩ : ∃ k : Nat, k < 10 ∧ xt = nI k := vp_in_of (vin (n := 10) hpl.1 hpl.2 (Nat.le_refl 10) (by decide)) (by decide)
      refine lv_aload_n hx hb d_SF_only_13 rfl (lv_at hl 0 rfl) ?_
      refine lv_ifnonnull (tgt := 19) hx hb d_SF_only_14 (by decide) ?_
      refine lv_aload_n hx hb d_SF_only_19 rfl (lv_at hl 0 rfl) ?_
      refine m_getF hc hE hw hcella fcFa l5_SF_90 rfl d_SF_only_20 ?_
      refine lv_bipush (v := 8) hx hb d_SF_only_23 (by decide) ?_
      refine lv_icmp_lt (tgt := 31) hx hb d_SF_only_25 (by decide) (fun c16 => ?_) (fun c16 => ?_)
      · refine lv_aload_n hx hb d_SF_only_31 rfl (lv_at hl 1 rfl) ?_
        refine m_get hc hE hw h0 kc_SF l_SF_36_SF rfl d_SF_only_32 ?_
        refine lv_iload_n hx hb d_SF_only_35 rfl (lv_at hl 2 rfl) ?_
        refine m_new hc hE hw (fs := [.int 0, .int 0, .int 0, .null, .null]) kc_OnlyFilter nw_SF_114 bl_OnlyFilter (by first | decide | (dsimp only; omega)) (by first | decide | (dsimp only; omega)) d_SF_only_36 (fun q17 H u18 hw => ?_)
        obtain ⟨f19, ef19⟩ : ∃ z : Wd, z = va_up f q17 (some (.inr (9, [.int 0, .int 0, .int 0, .null, .null]))) := ⟨_, rfl⟩
        replace hw : ms G.1 (Af f sz) f19 s H locs := by rw [ef19]; exact hw
        have n_root_q17 : root ≠ q17 := wnf h0 u18
        have h20 : f19 root = some (.inr (0, [.ref A0, .ref A2, .ref A7, .ref A8])) := by rw [ef19, va_up_ne _ _ n_root_q17]; exact h0
        have n_A8_q17 : A8 ≠ q17 := wnf h8 u18
        have h21 : f19 A8 = some (.inl (G.2.1 2, 10, .inr (.inr (.inr (.inr fa))))) := by rw [ef19, va_up_ne _ _ n_A8_q17]; exact h8
        have n_A0_q17 : A0 ≠ q17 := wnf hsP.1 u18
        have h22 : f19 A0 = some (.inr (1, [.ref A1, .int (nI pn)])) := by rw [ef19, va_up_ne _ _ n_A0_q17]; exact hsP.1
        have n_A1_q17 : A1 ≠ q17 := wnf hsP.2.1 u18
        have h23 : f19 A1 = some (.inl (G.2.1 1, 90, .inl pt)) := by rw [ef19, va_up_ne _ _ n_A1_q17]; exact hsP.2.1
        have n_Fa_q17 : Fa ≠ q17 := wnf hcella u18
        have h24 : f19 Fa = some (.inr (cFa, .int kFa :: .int lFa :: .int gFa :: rFa)) := by rw [ef19, va_up_ne _ _ n_Fa_q17]; exact hcella
        have h25 : f19 q17 = some (.inr (9, [.int 0, .int 0, .int 0, .null, .null])) := by rw [ef19, va_up_self]
        refine lv_dup hx hb d_SF_only_39 rfl ?_
        refine lv_aload_n hx hb d_SF_only_40 rfl (lv_at hl 0 rfl) ?_
        refine lv_aload_n hx hb d_SF_only_41 rfl (lv_at hl 1 rfl) ?_
        refine m_get hc hE hw h20 kc_SF l_SF_14_SF rfl d_SF_only_42 ?_
        refine m_callq hw (m_runV (As := []) (rest := [.ref Fa, .ref q17, .ref q17, .int xt, .ref A8]) hc hE hw (c_Signs_copy G l H.size f19 ⟨h22, h23, hsP.2.2⟩) h22 rfl cw_SF_116 se_Signs_copy rfl hl.1 rfl (Nat.le_of_ble_eq_true rfl) d_SF_only_45 ⟨rfl, rfl, by decide, by decide⟩ ⟨by first | decide | (dsimp only; omega), by first | decide | (dsimp only; omega)⟩) (fun r28 g27 H locs p26 hw => ?_)
        obtain ⟨ks, kr, u, p26, hks, hkr, n_ks_kr, hfk, hu⟩ := p26
        subst p26
        have n_root_ks : root ≠ ks := wnf h20 hks
        have n_root_kr : root ≠ kr := wnf h20 hkr
        have h29 : g27 root = some (.inr (0, [.ref A0, .ref A2, .ref A7, .ref A8])) := by rw [hfk, va_up_ne _ _ n_root_ks, va_up_ne _ _ n_root_kr]; exact h20
        have n_A8_ks : A8 ≠ ks := wnf h21 hks
        have n_A8_kr : A8 ≠ kr := wnf h21 hkr
        have h30 : g27 A8 = some (.inl (G.2.1 2, 10, .inr (.inr (.inr (.inr fa))))) := by rw [hfk, va_up_ne _ _ n_A8_ks, va_up_ne _ _ n_A8_kr]; exact h21
        have n_A0_ks : A0 ≠ ks := wnf h22 hks
        have n_A0_kr : A0 ≠ kr := wnf h22 hkr
        have h31 : g27 A0 = some (.inr (1, [.ref A1, .int (nI pn)])) := by rw [hfk, va_up_ne _ _ n_A0_ks, va_up_ne _ _ n_A0_kr]; exact h22
        have n_A1_ks : A1 ≠ ks := wnf h23 hks
        have n_A1_kr : A1 ≠ kr := wnf h23 hkr
        have h32 : g27 A1 = some (.inl (G.2.1 1, 90, .inl pt)) := by rw [hfk, va_up_ne _ _ n_A1_ks, va_up_ne _ _ n_A1_kr]; exact h23
        have n_Fa_ks : Fa ≠ ks := wnf h24 hks
        have n_Fa_kr : Fa ≠ kr := wnf h24 hkr
        have h33 : g27 Fa = some (.inr (cFa, .int kFa :: .int lFa :: .int gFa :: rFa)) := by rw [hfk, va_up_ne _ _ n_Fa_ks, va_up_ne _ _ n_Fa_kr]; exact h24
        have n_q17_ks : q17 ≠ ks := wnf h25 hks
        have n_q17_kr : q17 ≠ kr := wnf h25 hkr
        have h34 : g27 q17 = some (.inr (9, [.int 0, .int 0, .int 0, .null, .null])) := by rw [hfk, va_up_ne _ _ n_q17_ks, va_up_ne _ _ n_q17_kr]; exact h25
        have h35 : g27 kr = some (.inl (G.2.1 1, pn, .inl u)) := by rw [hfk, va_up_ne _ _ (Ne.symm n_ks_kr), va_up_self]
        have h36 : g27 ks = some (.inr (1, [.ref kr, .int (nI pn)])) := by rw [hfk, va_up_self]
        refine m_callv hw (m_runI (As := [.ref Fa, .ref ks]) (rest := [.ref q17, .int xt, .ref A8]) hc hE hw (c_OnlyFilter_init G l H.size g27 h34 h33 fcFa ks) cw_SF_120 ⟨rfl, si_OnlyFilter_init⟩ rfl hl.1 rfl (Nat.le_of_ble_eq_true rfl) d_SF_only_48 ⟨rfl, rfl, by decide, by decide⟩ ⟨by first | decide | (dsimp only; omega), by first | decide | (dsimp only; omega)⟩) (fun g38 H locs p37 hw => ?_)
        have h39 : g38 root = some (.inr (0, [.ref A0, .ref A2, .ref A7, .ref A8])) := by rw [p37, va_up_ne _ _ n_root_q17]; exact h29
        have h40 : g38 A8 = some (.inl (G.2.1 2, 10, .inr (.inr (.inr (.inr fa))))) := by rw [p37, va_up_ne _ _ n_A8_q17]; exact h30
        have h41 : g38 A0 = some (.inr (1, [.ref A1, .int (nI pn)])) := by rw [p37, va_up_ne _ _ n_A0_q17]; exact h31
        have h42 : g38 A1 = some (.inl (G.2.1 1, 90, .inl pt)) := by rw [p37, va_up_ne _ _ n_A1_q17]; exact h32
        have h43 : g38 Fa = some (.inr (cFa, .int kFa :: .int lFa :: .int gFa :: rFa)) := by rw [p37, va_up_ne _ _ n_Fa_q17]; exact h33
        have h44 : g38 kr = some (.inl (G.2.1 1, pn, .inl u)) := by rw [p37, va_up_ne _ _ (Ne.symm n_q17_kr)]; exact h35
        have h45 : g38 ks = some (.inr (1, [.ref kr, .int (nI pn)])) := by rw [p37, va_up_ne _ _ (Ne.symm n_q17_ks)]; exact h36
        have h46 : g38 q17 = some (.inr (9, [.int 5, .int lFa, .int (1 + gFa), .ref Fa, .ref ks])) := by rw [p37, va_up_self]
        refine m_aast hc hE hw 2 h40 rfl h46 rfl (Or.inr ca_OnlyFilter_Filter) (by rw [hxt]; exact vp_in_nI hkt (by decide)) d_SF_only_51 (fun H locs hw => ?_)
        obtain ⟨f47, ef47⟩ : ∃ z : Wd, z = va_up g38 A8 (some (.inl (G.2.1 2, 10, .inr (.inr (.inr (.inr (va_up fa xt.toNatClampNeg (some q17)))))))) := ⟨_, rfl⟩
        replace hw : ms G.1 (Af f sz) f47 s H locs := by rw [ef47]; exact hw
        have h48 : f47 q17 = some (.inr (9, [.int 5, .int lFa, .int (1 + gFa), .ref Fa, .ref ks])) := by rw [ef47, va_up_ne _ _ (Ne.symm n_A8_q17)]; exact h46
        have h49 : f47 A8 = some (.inl (G.2.1 2, 10, .inr (.inr (.inr (.inr (va_up fa xt.toNatClampNeg (some q17))))))) := by rw [ef47, va_up_self]
        refine lv_iconst (v := 0) hx hb d_SF_only_52 (by decide) ?_
        have hbad : ¬ (¬ (¬ xt < 0 ∧ ¬ 10 ≤ xt) ∨ noF fl x) := fun z => z.elim (fun z => z hpl) (fun z => absurd ((z ka hka hxka).symm.trans hsma) (by intro z; cases z))
        have hcl : xt.toNatClampNeg = kt := by rw [hxt]; exact nI_clamp (by omega)
        have hR1 := hRg.new (.inr (9, [.int 0, .int 0, .int 0, .null, .null])) u18
        rw [← ef19] at hR1
        have hR2 := (hR1.new (.inl (G.2.1 1, pn, .inl u)) hkr).new (.inr (1, [.ref kr, .int (nI pn)])) (show va_up _ kr _ ks = none by rw [va_up_ne _ _ n_ks_kr]; exact hks)
        rw [← hfk] at hR2
        have n_ks_q : ks ≠ q17 := Ne.symm (wnf (show f19 q17 = some (.inr (9, [.int 0, .int 0, .int 0, .null, .null])) by rw [ef19, va_up_self]) hks)
        have n_kr_q : kr ≠ q17 := Ne.symm (wnf (show f19 q17 = some (.inr (9, [.int 0, .int 0, .int 0, .null, .null])) by rw [ef19, va_up_self]) hkr)
        obtain ⟨g3, eg3⟩ : ∃ z : Wd, z = va_up (va_up (va_up g q17 (some (.inr (9, [.int 0, .int 0, .int 0, .null, .null])))) kr (some (.inl (G.2.1 1, pn, .inl u)))) ks (some (.inr (1, [.ref kr, .int (nI pn)]))) := ⟨_, rfl⟩
        rw [← eg3] at hR2
        have hg3q : g3 q17 = some (.inr (9, [.int 0, .int 0, .int 0, .null, .null])) := by rw [eg3, va_up_ne _ _ (Ne.symm n_ks_q), va_up_ne _ _ (Ne.symm n_kr_q), va_up_self]
        have hg3s : g3 ks = some (.inr (1, [.ref kr, .int (nI pn)])) := by rw [eg3, va_up_self]
        have hg3r : g3 kr = some (.inl (G.2.1 1, pn, .inl u)) := by rw [eg3, va_up_ne _ _ (Ne.symm n_ks_kr), va_up_self]
        have hR3 := hR2.upG (.inr (9, [.int 5, .int lFa, .int (1 + gFa), .ref Fa, .ref ks])) hg3q
        rw [← p37] at hR3
        have hgq := hRg.non u18
        have hg1r : va_up g q17 (some (.inr (9, [.int 0, .int 0, .int 0, .null, .null]))) kr = none := hR1.non hkr
        have hg1s : va_up g q17 (some (.inr (9, [.int 0, .int 0, .int 0, .null, .null]))) ks = none := hR1.non hks
        have hgl3 : gle g g3 := by rw [eg3]; exact (gle.up hgq).tr ((gle.up hg1r).tr (gle.up (by rw [va_up_ne _ _ n_ks_kr]; exact hg1s)))
        have hgl : gle g (va_up g3 q17 (some (.inr (9, [.int 5, .int lFa, .int (1 + gFa), .ref Fa, .ref ks])))) := hgl3.upf hgq
        have hsgk : sg G (va_up g3 q17 (some (.inr (9, [.int 5, .int lFa, .int (1 + gFa), .ref Fa, .ref ks])))) ks kr pn pn u := ⟨by rw [va_up_ne _ _ n_ks_q]; exact hg3s, by rw [va_up_ne _ _ n_kr_q]; exact hg3r, Nat.le_refl _, Nat.le_trans hPB.2.2.1 (Nat.le_refl _), fun j q => by rw [hu j q]; exact hPB.2.2.2 j q⟩
        have hlt8 : ¬ 8 ≤ vva.2.2.1 := by rw [← egFa]; exact Int32.not_le.mpr c16
        have hh8 : h0a < 8 := Nat.not_le.mp (fun z => hlt8 (by rw [hh0a]; exact nI_le (a := 8) z (by omega)))
        have hrh9 : RH G (va_up g3 q17 (some (.inr (9, [.int 5, .int lFa, .int (1 + gFa), .ref Fa, .ref ks])))) q17 ((5, vva.2.1, 1 + vva.2.2.1, anO pn pt vva.2.2.2.1, TI0) : FV) := ⟨l0a, h0a + 1, hl0a, by show 1 + vva.2.2.1 = _; rw [hh0a, Int32.add_comm]; exact nI_1 h0a, hl1a, hl2a, by omega, by omega, Or.inr (Or.inr (Or.inr (Or.inr ⟨Fa, ks, kr, pn, pn, u, vva, by rw [va_up_self, elFa, egFa], hsgk, RF.mono hgl _ _ _ hrfa, by rw [anO_congr hu]⟩)))⟩
        have hR4 := hR3.up 8 (by omega) (.inl (G.2.1 2, 10, .inr (.inr (.inr (.inr (va_up fa kt (some q17)))))))
        have hfx : f47 = va_up g38 (ad 8) (some (.inl (G.2.1 2, 10, .inr (.inr (.inr (.inr (va_up fa kt (some q17)))))))) := by rw [ef47, eA8, hcl]
        exact m_iret hc hr hlk hw ⟨by first | decide | (dsimp only; omega), by first | decide | (dsimp only; omega)⟩ d_SF_only_53 ⟨fun z => absurd z hbad, fun kt2 k vv h1 h2 h3 h4 h5 => by have ek : ka = k := (nI_eq (by omega) (by omega)).mp (hxka.symm.trans h4); subst ek; have ev2 : vva = vv := Option.some.inj (hsma.symm.trans h5); subst ev2; have et : kt = kt2 := (nI_eq (by omega) (by omega)).mp (hxt.symm.trans h2); subst et; exact ⟨fun z => absurd z hlt8, fun _ => ⟨rfl, _, _, by rw [hfx]; exact hR4, hgl, fun k hk => va_up_ne _ _ (by omega), hS0.f hgl _ _ ((hFL.mono hgl).put hrh9)⟩⟩⟩
      · refine lv_bipush (v := (-3)) hx hb d_SF_only_28 (by decide) ?_
        have hbad : ¬ (¬ (¬ xt < 0 ∧ ¬ 10 ≤ xt) ∨ noF fl x) := fun z => z.elim (fun z => z hpl) (fun z => absurd ((z ka hka hxka).symm.trans hsma) (by intro z; cases z))
        exact m_iret hc hr hlk hw ⟨by first | decide | (dsimp only; omega), by first | decide | (dsimp only; omega)⟩ d_SF_only_30 ⟨fun z => absurd z hbad, fun kt2 k vv h1 h2 h3 h4 h5 => by have ek : ka = k := (nI_eq (by omega) (by omega)).mp (hxka.symm.trans h4); subst ek; have ev2 : vva = vv := Option.some.inj (hsma.symm.trans h5); subst ev2; exact ⟨fun _ => ⟨rfl, ⟨E, g, hRg, gle.rf, fun _ _ => rfl, hS0⟩⟩, fun z => absurd (by rw [← egFa]; exact Int32.not_lt.mp c16) z⟩⟩
end
section
/-! links of the pools, as the walks ask for them -/
theorem nw_SF_99 : nwk "StreamFilters" 99 R_JoinedFilter 5 := ⟨(tb 413 (by decide +kernel) rfl), (tb 414 (by decide +kernel) rfl), (tb 14 (by decide +kernel) rfl)⟩
theorem cw_SF_101 : cwk "StreamFilters" 101 y_JoinedFilter_init b_JoinedFilter_init 3 none 2 := ⟨Or.inl (tb 415 (by decide +kernel) rfl), (tb 417 (by decide +kernel) rfl), (tb 14 (by decide +kernel) rfl), by decide, by decide, by decide +kernel⟩
theorem si_JoinedFilter_init : Cond.instanceMethod y_JoinedFilter_init ∈ TB := (tb 416 (by decide +kernel) rfl)
theorem ca_JoinedFilter_Filter : Cond.castable R_JoinedFilter "StreamFilters$Filter" ∈ EB := (eb 868 (by decide +kernel) rfl)
theorem l5_SF_86 : lnk "StreamFilters" 86 F_TextFilter 6 1 ∧ lnk "StreamFilters" 86 F_JoinedFilter 5 1 ∧ lnk "StreamFilters" 86 F_StrictFilter 5 1 ∧ lnk "StreamFilters" 86 F_DefaultFilter 5 1 ∧ lnk "StreamFilters" 86 F_OnlyFilter 5 1 := ⟨⟨by decide, "StreamFilters$Filter", Or.inl rfl, Or.inl (tb 376 (by decide +kernel) rfl)⟩, ⟨by decide, "StreamFilters$Filter", Or.inl rfl, Or.inl (tb 376 (by decide +kernel) rfl)⟩, ⟨by decide, "StreamFilters$Filter", Or.inl rfl, Or.inl (tb 376 (by decide +kernel) rfl)⟩, ⟨by decide, "StreamFilters$Filter", Or.inl rfl, Or.inl (tb 376 (by decide +kernel) rfl)⟩, ⟨by decide, "StreamFilters$Filter", Or.inl rfl, Or.inl (tb 376 (by decide +kernel) rfl)⟩⟩
theorem mm_SF_93 : Cond.methodLink "StreamFilters" 93 Lib.Math.max.name ∈ TB := (tb 412 (by decide +kernel) rfl)
/-! decode rows -/
theorem d_SF_join_0 : decode b_SF_join 0 = .ok (.aload_n 0, 1) := by decide +kernel
theorem d_SF_join_1 : decode b_SF_join 1 = .ok (.iload_n 2, 1) := by decide +kernel
theorem d_SF_join_2 : decode b_SF_join 2 = .ok (.invokevirtual 82, 3) := by decide +kernel
theorem d_SF_join_5 : decode b_SF_join 5 = .ok (.astore 4, 2) := by decide +kernel
theorem d_SF_join_7 : decode b_SF_join 7 = .ok (.aload_n 0, 1) := by decide +kernel
theorem d_SF_join_8 : decode b_SF_join 8 = .ok (.iload_n 3, 1) := by decide +kernel
theorem d_SF_join_9 : decode b_SF_join 9 = .ok (.invokevirtual 82, 3) := by decide +kernel
theorem d_SF_join_12 : decode b_SF_join 12 = .ok (.astore 5, 2) := by decide +kernel
theorem d_SF_join_14 : decode b_SF_join 14 = .ok (.iload_n 1, 1) := by decide +kernel
theorem d_SF_join_15 : decode b_SF_join 15 = .ok (.invokestatic 67, 3) := by decide +kernel
theorem d_SF_join_18 : decode b_SF_join 18 = .ok (.ifCond .eq 13, 3) := by decide +kernel
theorem d_SF_join_21 : decode b_SF_join 21 = .ok (.aload 4, 2) := by decide +kernel
theorem d_SF_join_23 : decode b_SF_join 23 = .ok (.ifnull 8, 3) := by decide +kernel
theorem d_SF_join_26 : decode b_SF_join 26 = .ok (.aload 5, 2) := by decide +kernel
theorem d_SF_join_28 : decode b_SF_join 28 = .ok (.ifnonnull 5, 3) := by decide +kernel
theorem d_SF_join_31 : decode b_SF_join 31 = .ok (.iconst (-1), 1) := by decide +kernel
theorem d_SF_join_32 : decode b_SF_join 32 = .ok (.ireturn, 1) := by decide +kernel
theorem d_SF_join_33 : decode b_SF_join 33 = .ok (.aload 4, 2) := by decide +kernel
theorem d_SF_join_35 : decode b_SF_join 35 = .ok (.getfield 86, 3) := by decide +kernel
theorem d_SF_join_38 : decode b_SF_join 38 = .ok (.aload 5, 2) := by decide +kernel
theorem d_SF_join_40 : decode b_SF_join 40 = .ok (.getfield 86, 3) := by decide +kernel
theorem d_SF_join_43 : decode b_SF_join 43 = .ok (.iadd, 1) := by decide +kernel
theorem d_SF_join_44 : decode b_SF_join 44 = .ok (.bipush 24, 2) := by decide +kernel
theorem d_SF_join_46 : decode b_SF_join 46 = .ok (.if_icmp .le 6, 3) := by decide +kernel
theorem d_SF_join_49 : decode b_SF_join 49 = .ok (.bipush (-3), 2) := by decide +kernel
theorem d_SF_join_51 : decode b_SF_join 51 = .ok (.ireturn, 1) := by decide +kernel
theorem d_SF_join_52 : decode b_SF_join 52 = .ok (.aload 4, 2) := by decide +kernel
theorem d_SF_join_54 : decode b_SF_join 54 = .ok (.getfield 90, 3) := by decide +kernel
theorem d_SF_join_57 : decode b_SF_join 57 = .ok (.aload 5, 2) := by decide +kernel
theorem d_SF_join_59 : decode b_SF_join 59 = .ok (.getfield 90, 3) := by decide +kernel
theorem d_SF_join_62 : decode b_SF_join 62 = .ok (.invokestatic 93, 3) := by decide +kernel
theorem d_SF_join_65 : decode b_SF_join 65 = .ok (.bipush 8, 2) := by decide +kernel
theorem d_SF_join_67 : decode b_SF_join 67 = .ok (.if_icmp .lt 6, 3) := by decide +kernel
theorem d_SF_join_70 : decode b_SF_join 70 = .ok (.bipush (-3), 2) := by decide +kernel
theorem d_SF_join_72 : decode b_SF_join 72 = .ok (.ireturn, 1) := by decide +kernel
theorem d_SF_join_73 : decode b_SF_join 73 = .ok (.aload_n 0, 1) := by decide +kernel
theorem d_SF_join_74 : decode b_SF_join 74 = .ok (.getfield 36, 3) := by decide +kernel
theorem d_SF_join_77 : decode b_SF_join 77 = .ok (.iload_n 1, 1) := by decide +kernel
theorem d_SF_join_78 : decode b_SF_join 78 = .ok (.new 99, 3) := by decide +kernel
theorem d_SF_join_81 : decode b_SF_join 81 = .ok (.dup, 1) := by decide +kernel
theorem d_SF_join_82 : decode b_SF_join 82 = .ok (.aload 4, 2) := by decide +kernel
theorem d_SF_join_84 : decode b_SF_join 84 = .ok (.aload 5, 2) := by decide +kernel
theorem d_SF_join_86 : decode b_SF_join 86 = .ok (.invokespecial 101, 3) := by decide +kernel
theorem d_SF_join_89 : decode b_SF_join 89 = .ok (.aastore, 1) := by decide +kernel
theorem d_SF_join_90 : decode b_SF_join 90 = .ok (.iconst 0, 1) := by decide +kernel
theorem d_SF_join_91 : decode b_SF_join 91 = .ok (.ireturn, 1) := by decide +kernel
theorem RF.le {G : GG} {g : Wd} {d a : Nat} {v : FV} (h : RF G g d a v) : ∀ k, RF G g (d + k) a v := by
  intro k
  induction k with
  | zero => exact h
  | succ k ih => exact RF.up _ _ _ ih
def mxh (x y : Int32) : Int32 := if x < y then y else x
theorem mxh_n {a b : Nat} (ha : a ≤ 8) (hb : b ≤ 8) : mxh (nI a) (nI b) = nI (max a b) := by
  unfold mxh
  by_cases h : a < b
  · rw [if_pos (nI_lt h (by omega)), show max a b = b by omega]
  · rw [if_neg (nI_nlt (by omega) (by omega)), show max a b = a by omega]
set_option maxHeartbeats 4000000 in
set_option maxRecDepth 100000 in
/-- join(xt, x, y) -/
theorem c_SF_join (G : GG) (l : Launch) (sz : Nat) (f : Wd) {N root pn nn mn : Nat} {ad : Nat → Nat} {E : Nat → va_E} {g : Wd} {pt nt mt : Nat → Int32} {dp rf by_ co tx lx : Int32} {fl : Nat → Option FV} (hN : 9 ≤ N) (hRg : Rg N ad E g f) (hS : SC G ad E g root pn pt nn nt mn mt dp rf by_ co tx lx fl) (xt x y : Int32) : Ci G l y_SF_join b_SF_join 6 (some .int) ({ frames := 3, cells := 1, slots := 5, locals := 57 }) sz f [.ref root, .int xt, .int x, .int y] (fun v f' => ((¬ (¬ xt < 0 ∧ ¬ 10 ≤ xt) ∨ noF fl x ∨ noF fl y) → v = -1 ∧ SCR G N ad E g root f' pn pt nn nt mn mt dp rf by_ co tx lx fl) ∧ ∀ (kt k j : Nat) (vv vw : FV), kt < 10 → xt = nI kt → k < 10 → x = nI k → j < 10 → y = nI j → fl k = some vv → fl j = some vw → ((¬ vv.2.1 + vw.2.1 ≤ 24 ∨ ¬ mxh vv.2.2.1 vw.2.2.1 < 8) → v = -3 ∧ SCR G N ad E g root f' pn pt nn nt mn mt dp rf by_ co tx lx fl) ∧ (¬ (¬ vv.2.1 + vw.2.1 ≤ 24 ∨ ¬ mxh vv.2.2.1 vw.2.2.1 < 8) → v = 0 ∧ SCR G N ad E g root f' pn pt nn nt mn mt dp rf by_ co tx lx (va_up fl kt (some ((2, vv.2.1 + vw.2.1, 1 + mxh vv.2.2.1 vw.2.2.1, anJ vv.2.2.2.1 vw.2.2.2.1, TI0) : FV))))) := by
  refine ct_of (by decide) (Nat.le_of_ble_eq_true rfl) ?_
  intro p e s m below meth c ls H locs hEn
  obtain ⟨hc, hr, hlk, hin, hE, hw, hsz, hl⟩ := hEn
  have hx := hc.1
  have hb := hc.2.1
  have hl : lv_has ls 6 [(0, .ref root), (1, .int xt), (2, .int x), (3, .int y)] := hl
  have hS0 := hS
  obtain ⟨hroot, hPB, hNB, hMB, ⟨so, di, le, hQ⟩, ⟨fr, en, pi, li, nu, rj, sh, mf, me, nf, ne, hRd⟩, fa, hF8, hFL⟩ := hS
  obtain ⟨A0, eA0⟩ : ∃ z, z = ad 0 := ⟨_, rfl⟩
  obtain ⟨A1, eA1⟩ : ∃ z, z = ad 1 := ⟨_, rfl⟩
  obtain ⟨A2, eA2⟩ : ∃ z, z = ad 2 := ⟨_, rfl⟩
  obtain ⟨A3, eA3⟩ : ∃ z, z = ad 3 := ⟨_, rfl⟩
  obtain ⟨A4, eA4⟩ : ∃ z, z = ad 4 := ⟨_, rfl⟩
  obtain ⟨A5, eA5⟩ : ∃ z, z = ad 5 := ⟨_, rfl⟩
  obtain ⟨A6, eA6⟩ : ∃ z, z = ad 6 := ⟨_, rfl⟩
  obtain ⟨A7, eA7⟩ : ∃ z, z = ad 7 := ⟨_, rfl⟩
  obtain ⟨A8, eA8⟩ : ∃ z, z = ad 8 := ⟨_, rfl⟩
  have hgf := hRg.2.2.1
  have h0 : f root = some (.inr (0, [.ref A0, .ref A2, .ref A7, .ref A8])) := by rw [eA0, eA2, eA7, eA8]; exact hgf _ _ hroot
  have h2 : f A2 = some (.inr (2, [.ref A3, .ref A5, .int dp, .int rf, .int by_, .int so, .int di, .int le, .int co, .int tx, .int lx])) := by rw [eA2, eA3, eA5]; exact hRg.get 2 (by omega) hQ
  have h8 : f A8 = some (.inl (G.2.1 2, 10, .inr (.inr (.inr (.inr fa))))) := by rw [eA8]; exact hRg.get 8 (by omega) hF8
  have hsP : sg G f A0 A1 90 pn pt := by rw [eA0, eA1]; exact hPB.sg hRg (by omega) (by omega)
  have hsN : sg G f A3 A4 40 nn nt := by rw [eA3, eA4]; exact hNB.sg hRg (by omega) (by omega)
  have hsM : sg G f A5 A6 12 mn mt := by rw [eA5, eA6]; exact hMB.sg hRg (by omega) (by omega)
  refine lv_aload_n hx hb d_SF_join_0 rfl (lv_at hl 0 rfl) ?_
  refine lv_iload_n hx hb d_SF_join_1 rfl (lv_at hl 2 rfl) ?_
  refine m_callq hw (m_runV (As := [.int x]) (rest := []) hc hE hw (c_SF_filterAt G l H.size f hN hRg hS0 x) h0 rfl cw_SF_82 se_SF_filterAt rfl hl.1 rfl (Nat.le_of_ble_eq_true rfl) d_SF_join_2 ⟨rfl, rfl, by decide, by decide⟩ ⟨by first | decide | (dsimp only; omega), by first | decide | (dsimp only; omega)⟩) (fun r3 g2 H locs p1 hw => ?_)
  obtain ⟨rfl, hfla⟩ := p1
  rcases hfla with ⟨hnoa, hva⟩ | ⟨ka, hka, hxka, ⟨hva, hnna⟩ | ⟨Fa, vva, hva, hsma, hrha⟩⟩
  · subst hva
    have hnfa : noF fl x := noF_out hnoa
    refine lv_astoreN (lv' := [(4, .null), (0, .ref root), (1, .int xt), (2, .int x), (3, .int y)]) hx hb d_SF_join_5 hl (by decide) rfl (fun ls hl => ?_)
    refine lv_aload_n hx hb d_SF_join_7 rfl (lv_at hl 1 rfl) ?_
    refine lv_iload_n hx hb d_SF_join_8 rfl (lv_at hl 4 rfl) ?_
    refine m_callq hw (m_runV (As := [.int y]) (rest := []) hc hE hw (c_SF_filterAt G l H.size f hN hRg hS0 y) h0 rfl cw_SF_82 se_SF_filterAt rfl hl.1 rfl (Nat.le_of_ble_eq_true rfl) d_SF_join_9 ⟨rfl, rfl, by decide, by decide⟩ ⟨by first | decide | (dsimp only; omega), by first | decide | (dsimp only; omega)⟩) (fun r6 g5 H locs p4 hw => ?_)
    obtain ⟨rfl, hflb⟩ := p4
    rcases hflb with ⟨hnob, hvb⟩ | ⟨kb, hkb, hxkb, ⟨hvb, hnnb⟩ | ⟨Fb, vvb, hvb, hsmb, hrhb⟩⟩
    · subst hvb
      have hnfb : noF fl y := noF_out hnob
      refine lv_astoreN (lv' := [(5, .null), (4, .null), (0, .ref root), (1, .int xt), (2, .int x), (3, .int y)]) hx hb d_SF_join_12 hl (by decide) rfl (fun ls hl => ?_)
      refine lv_iload_n hx hb d_SF_join_14 rfl (lv_at hl 3 rfl) ?_
      refine m_calli hw (m_runS (As := [.int xt]) (rest := []) hc hE hw (c_SF_isPlace G l H.size f xt) cw_SF_67 ss_SF_isPlace rfl hl.1 rfl (Nat.le_of_ble_eq_true rfl) d_SF_join_15 ⟨rfl, rfl, by decide, by decide⟩ ⟨by first | decide | (dsimp only; omega), by first | decide | (dsimp only; omega)⟩) (fun r9 g8 H locs p7 hw => ?_)
      obtain ⟨rfl, p7⟩ := p7
      refine lv_if_eq (tgt := 31) hx hb d_SF_join_18 (by decide) (fun c10 => ?_) (fun c10 => ?_)
      · refine lv_iconst (v := (-1)) hx hb d_SF_join_31 (by decide) ?_
        exact m_iret hc hr hlk hw ⟨by first | decide | (dsimp only; omega), by first | decide | (dsimp only; omega)⟩ d_SF_join_32 ⟨fun _ => ⟨rfl, ⟨E, g, hRg, gle.rf, fun _ _ => rfl, hS0⟩⟩, fun kt k j vv vw h1 h2 h3 h4 h5 h6 h7 h8 => absurd (by rw [h2]; exact plc h1) (bI_0.mp (p7.symm.trans c10))⟩
      · have hpl := bI_n.mp (fun z => c10 (p7.trans z))
        obtain ⟨kt, hkt, hxt⟩ : ∃ k : Nat, k < 10 ∧ xt = nI k := vp_in_of (vin (n := 10) hpl.1 hpl.2 (Nat.le_refl 10) (by decide)) (by decide)
        refine lv_aloadN hx hb d_SF_join_21 (lv_at hl 1 rfl) ?_
        refine lv_ifnullN (tgt := 31) hx hb d_SF_join_23 (by decide) ?_
        refine lv_iconst (v := (-1)) hx hb d_SF_join_31 (by decide) ?_
        exact m_iret hc hr hlk hw ⟨by first | decide | (dsimp only; omega), by first | decide | (dsimp only; omega)⟩ d_SF_join_32 ⟨fun _ => ⟨rfl, ⟨E, g, hRg, gle.rf, fun _ _ => rfl, hS0⟩⟩, fun kt k j vv vw h1 h2 h3 h4 h5 h6 h7 h8 => absurd ((hnfa k h3 h4).symm.trans h7) (by intro z; cases z)⟩
    · subst hvb
      have hnfb : noF fl y := noF_in hkb hxkb hnnb
      refine lv_astoreN (lv' := [(5, .null), (4, .null), (0, .ref root), (1, .int xt), (2, .int x), (3, .int y)]) hx hb d_SF_join_12 hl (by decide) rfl (fun ls hl => ?_)
      refine lv_iload_n hx hb d_SF_join_14 rfl (lv_at hl 3 rfl) ?_
      refine m_calli hw (m_runS (As := [.int xt]) (rest := []) hc hE hw (c_SF_isPlace G l H.size f xt) cw_SF_67 ss_SF_isPlace rfl hl.1 rfl (Nat.le_of_ble_eq_true rfl) d_SF_join_15 ⟨rfl, rfl, by decide, by decide⟩ ⟨by first | decide | (dsimp only; omega), by first | decide | (dsimp only; omega)⟩) (fun r13 g12 H locs p11 hw => ?_)
      obtain ⟨rfl, p11⟩ := p11
      refine lv_if_eq (tgt := 31) hx hb d_SF_join_18 (by decide) (fun c14 => ?_) (fun c14 => ?_)
      · refine lv_iconst (v := (-1)) hx hb d_SF_join_31 (by decide) ?_
        exact m_iret hc hr hlk hw ⟨by first | decide | (dsimp only; omega), by first | decide | (dsimp only; omega)⟩ d_SF_join_32 ⟨fun _ => ⟨rfl, ⟨E, g, hRg, gle.rf, fun _ _ => rfl, hS0⟩⟩, fun kt k j vv vw h1 h2 h3 h4 h5 h6 h7 h8 => absurd (by rw [h2]; exact plc h1) (bI_0.mp (p11.symm.trans c14))⟩
      · have hpl := bI_n.mp (fun z => c14 (p11.trans z))
        obtain ⟨kt, hkt, hxt⟩ : ∃ k : Nat, k < 10 ∧ xt = nI k := vp_in_of (vin (n := 10) hpl.1 hpl.2 (Nat.le_refl 10) (by decide)) (by decide)
        refine lv_aloadN hx hb d_SF_join_21 (lv_at hl 1 rfl) ?_
        refine lv_ifnullN (tgt := 31) hx hb d_SF_join_23 (by decide) ?_
        refine lv_iconst (v := (-1)) hx hb d_SF_join_31 (by decide) ?_
        exact m_iret hc hr hlk hw ⟨by first | decide | (dsimp only; omega), by first | decide | (dsimp only; omega)⟩ d_SF_join_32 ⟨fun _ => ⟨rfl, ⟨E, g, hRg, gle.rf, fun _ _ => rfl, hS0⟩⟩, fun kt k j vv vw h1 h2 h3 h4 h5 h6 h7 h8 => absurd ((hnfa k h3 h4).symm.trans h7) (by intro z; cases z)⟩
    · subst hvb
      have hrhbb := hrhb
      obtain ⟨l0b, h0b, hl0b, hh0b, hl1b, hl2b, hh1b, hh2b, hrfb⟩ := hrhb
      obtain ⟨cFb, rFb, fcFb, hcFb⟩ := RF.head hrfb
      obtain ⟨kFb, ekFb⟩ : ∃ z, z = vvb.1 := ⟨_, rfl⟩
      obtain ⟨lFb, elFb⟩ : ∃ z, z = vvb.2.1 := ⟨_, rfl⟩
      obtain ⟨gFb, egFb⟩ : ∃ z, z = vvb.2.2.1 := ⟨_, rfl⟩
      have hcellb : f Fb = some (.inr (cFb, .int kFb :: .int lFb :: .int gFb :: rFb)) := by rw [ekFb, elFb, egFb]; exact hgf _ _ hcFb
      refine lv_astore (lv' := [(5, .ref Fb), (4, .null), (0, .ref root), (1, .int xt), (2, .int x), (3, .int y)]) hx hb d_SF_join_12 hl (by decide) rfl (fun ls hl => ?_)
      refine lv_iload_n hx hb d_SF_join_14 rfl (lv_at hl 3 rfl) ?_
      refine m_calli hw (m_runS (As := [.int xt]) (rest := []) hc hE hw (c_SF_isPlace G l H.size f xt) cw_SF_67 ss_SF_isPlace rfl hl.1 rfl (Nat.le_of_ble_eq_true rfl) d_SF_join_15 ⟨rfl, rfl, by decide, by decide⟩ ⟨by first | decide | (dsimp only; omega), by first | decide | (dsimp only; omega)⟩) (fun r17 g16 H locs p15 hw => ?_)
      obtain ⟨rfl, p15⟩ := p15
      refine lv_if_eq (tgt := 31) hx hb d_SF_join_18 (by decide) (fun c18 => ?_) (fun c18 => ?_)
      · refine lv_iconst (v := (-1)) hx hb d_SF_join_31 (by decide) ?_
        exact m_iret hc hr hlk hw ⟨by first | decide | (dsimp only; omega), by first | decide | (dsimp only; omega)⟩ d_SF_join_32 ⟨fun _ => ⟨rfl, ⟨E, g, hRg, gle.rf, fun _ _ => rfl, hS0⟩⟩, fun kt k j vv vw h1 h2 h3 h4 h5 h6 h7 h8 => absurd (by rw [h2]; exact plc h1) (bI_0.mp (p15.symm.trans c18))⟩
      · have hpl := bI_n.mp (fun z => c18 (p15.trans z))
        obtain ⟨kt, hkt, hxt⟩ : ∃ k : Nat, k < 10 ∧ xt = nI k := vp_in_of (vin (n := 10) hpl.1 hpl.2 (Nat.le_refl 10) (by decide)) (by decide)
        refine lv_aloadN hx hb d_SF_join_21 (lv_at hl 1 rfl) ?_
        refine lv_ifnullN (tgt := 31) hx hb d_SF_join_23 (by decide) ?_
        refine lv_iconst (v := (-1)) hx hb d_SF_join_31 (by decide) ?_
        exact m_iret hc hr hlk hw ⟨by first | decide | (dsimp only; omega), by first | decide | (dsimp only; omega)⟩ d_SF_join_32 ⟨fun _ => ⟨rfl, ⟨E, g, hRg, gle.rf, fun _ _ => rfl, hS0⟩⟩, fun kt k j vv vw h1 h2 h3 h4 h5 h6 h7 h8 => absurd ((hnfa k h3 h4).symm.trans h7) (by intro z; cases z)⟩
  · subst hva
    have hnfa : noF fl x := noF_in hka hxka hnna
    refine lv_astoreN (lv' := [(4, .null), (0, .ref root), (1, .int xt), (2, .int x), (3, .int y)]) hx hb d_SF_join_5 hl (by decide) rfl (fun ls hl => ?_)
    refine lv_aload_n hx hb d_SF_join_7 rfl (lv_at hl 1 rfl) ?_
    refine lv_iload_n hx hb d_SF_join_8 rfl (lv_at hl 4 rfl) ?_
    refine m_callq hw (m_runV (As := [.int y]) (rest := []) hc hE hw (c_SF_filterAt G l H.size f hN hRg hS0 y) h0 rfl cw_SF_82 se_SF_filterAt rfl hl.1 rfl (Nat.le_of_ble_eq_true rfl) d_SF_join_9 ⟨rfl, rfl, by decide, by decide⟩ ⟨by first | decide | (dsimp only; omega), by first | decide | (dsimp only; omega)⟩) (fun r21 g20 H locs p19 hw => ?_)
    obtain ⟨rfl, hflb⟩ := p19
    rcases hflb with ⟨hnob, hvb⟩ | ⟨kb, hkb, hxkb, ⟨hvb, hnnb⟩ | ⟨Fb, vvb, hvb, hsmb, hrhb⟩⟩
    · subst hvb
      have hnfb : noF fl y := noF_out hnob
      refine lv_astoreN (lv' := [(5, .null), (4, .null), (0, .ref root), (1, .int xt), (2, .int x), (3, .int y)]) hx hb d_SF_join_12 hl (by decide) rfl (fun ls hl => ?_)
      refine lv_iload_n hx hb d_SF_join_14 rfl (lv_at hl 3 rfl) ?_
      refine m_calli hw (m_runS (As := [.int xt]) (rest := []) hc hE hw (c_SF_isPlace G l H.size f xt) cw_SF_67 ss_SF_isPlace rfl hl.1 rfl (Nat.le_of_ble_eq_true rfl) d_SF_join_15 ⟨rfl, rfl, by decide, by decide⟩ ⟨by first | decide | (dsimp only; omega), by first | decide | (dsimp only; omega)⟩) (fun r24 g23 H locs p22 hw => ?_)
      obtain ⟨rfl, p22⟩ := p22
      refine lv_if_eq (tgt := 31) hx hb d_SF_join_18 (by decide) (fun c25 => ?_) (fun c25 => ?_)
      · refine lv_iconst (v := (-1)) hx hb d_SF_join_31 (by decide) ?_
        exact m_iret hc hr hlk hw ⟨by first | decide | (dsimp only; omega), by first | decide | (dsimp only; omega)⟩ d_SF_join_32 ⟨fun _ => ⟨rfl, ⟨E, g, hRg, gle.rf, fun _ _ => rfl, hS0⟩⟩, fun kt k j vv vw h1 h2 h3 h4 h5 h6 h7 h8 => absurd (by rw [h2]; exact plc h1) (bI_0.mp (p22.symm.trans c25))⟩
      · have hpl := bI_n.mp (fun z => c25 (p22.trans z))
        obtain ⟨kt, hkt, hxt⟩ : ∃ k : Nat, k < 10 ∧ xt = nI k := vp_in_of (vin (n := 10) hpl.1 hpl.2 (Nat.le_refl 10) (by decide)) (by decide)
        refine lv_aloadN hx hb d_SF_join_21 (lv_at hl 1 rfl) ?_
        refine lv_ifnullN (tgt := 31) hx hb d_SF_join_23 (by decide) ?_
        refine lv_iconst (v := (-1)) hx hb d_SF_join_31 (by decide) ?_
        exact m_iret hc hr hlk hw ⟨by first | decide | (dsimp only; omega), by first | decide | (dsimp only; omega)⟩ d_SF_join_32 ⟨fun _ => ⟨rfl, ⟨E, g, hRg, gle.rf, fun _ _ => rfl, hS0⟩⟩, fun kt k j vv vw h1 h2 h3 h4 h5 h6 h7 h8 => absurd ((hnfa k h3 h4).symm.trans h7) (by intro z; cases z)⟩
    · subst hvb
      have hnfb : noF fl y := noF_in hkb hxkb hnnb
      refine lv_astoreN (lv' := [(5, .null), (4, .null), (0, .ref root), (1, .int xt), (2, .int x), (3, .int y)]) hx hb d_SF_join_12 hl (by decide) rfl (fun ls hl => ?_)
      refine lv_iload_n hx hb d_SF_join_14 rfl (lv_at hl 3 rfl) ?_
      refine m_calli hw (m_runS (As := [.int xt]) (rest := []) hc hE hw (c_SF_isPlace G l H.size f xt) cw_SF_67 ss_SF_isPlace rfl hl.1 rfl (Nat.le_of_ble_eq_true rfl) d_SF_join_15 ⟨rfl, rfl, by decide, by decide⟩ ⟨by first | decide | (dsimp only; omega), by first | decide | (dsimp only; omega)⟩) (fun r28 g27 H locs p26 hw => ?_)
      obtain ⟨rfl, p26⟩ := p26
      refine lv_if_eq (tgt := 31) hx hb d_SF_join_18 (by decide) (fun c29 => ?_) (fun c29 => ?_)
      · refine lv_iconst (v := (-1)) hx hb d_SF_join_31 (by decide) ?_
        exact m_iret hc hr hlk hw ⟨by first | decide | (dsimp only; omega), by first | decide | (dsimp only; omega)⟩ d_SF_join_32 ⟨fun _ => ⟨rfl, ⟨E, g, hRg, gle.rf, fun _ _ => rfl, hS0⟩⟩, fun kt k j vv vw h1 h2 h3 h4 h5 h6 h7 h8 => absurd (by rw [h2]; exact plc h1) (bI_0.mp (p26.symm.trans c29))⟩
      · have hpl := bI_n.mp (fun z => c29 (p26.trans z))
        obtain ⟨kt, hkt, hxt⟩ : ∃ k : Nat, k < 10 ∧ xt = nI k := vp_in_of (vin (n := 10) hpl.1 hpl.2 (Nat.le_refl 10) (by decide)) (by decide)
        refine lv_aloadN hx hb d_SF_join_21 (lv_at hl 1 rfl) ?_
        refine lv_ifnullN (tgt := 31) hx hb d_SF_join_23 (by decide) ?_
        refine lv_iconst (v := (-1)) hx hb d_SF_join_31 (by decide) ?_
        exact m_iret hc hr hlk hw ⟨by first | decide | (dsimp only; omega), by first | decide | (dsimp only; omega)⟩ d_SF_join_32 ⟨fun _ => ⟨rfl, ⟨E, g, hRg, gle.rf, fun _ _ => rfl, hS0⟩⟩, fun kt k j vv vw h1 h2 h3 h4 h5 h6 h7 h8 => absurd ((hnfa k h3 h4).symm.trans h7) (by intro z; cases z)⟩
    · subst hvb
      have hrhbb := hrhb
      obtain ⟨l0b, h0b, hl0b, hh0b, hl1b, hl2b, hh1b, hh2b, hrfb⟩ := hrhb
      obtain ⟨cFb, rFb, fcFb, hcFb⟩ := RF.head hrfb
      obtain ⟨kFb, ekFb⟩ : ∃ z, z = vvb.1 := ⟨_, rfl⟩
      obtain ⟨lFb, elFb⟩ : ∃ z, z = vvb.2.1 := ⟨_, rfl⟩
      obtain ⟨gFb, egFb⟩ : ∃ z, z = vvb.2.2.1 := ⟨_, rfl⟩
      have hcellb : f Fb = some (.inr (cFb, .int kFb :: .int lFb :: .int gFb :: rFb)) := by rw [ekFb, elFb, egFb]; exact hgf _ _ hcFb
      refine lv_astore (lv' := [(5, .ref Fb), (4, .null), (0, .ref root), (1, .int xt), (2, .int x), (3, .int y)]) hx hb d_SF_join_12 hl (by decide) rfl (fun ls hl => ?_)
      refine lv_iload_n hx hb d_SF_join_14 rfl (lv_at hl 3 rfl) ?_
      refine m_calli hw (m_runS (As := [.int xt]) (rest := []) hc hE hw (c_SF_isPlace G l H.size f xt) cw_SF_67 ss_SF_isPlace rfl hl.1 rfl (Nat.le_of_ble_eq_true rfl) d_SF_join_15 ⟨rfl, rfl, by decide, by decide⟩ ⟨by first | decide | (dsimp only; omega), by first | decide | (dsimp only; omega)⟩) (fun r32 g31 H locs p30 hw => ?_)
      obtain ⟨rfl, p30⟩ := p30
      refine lv_if_eq (tgt := 31) hx hb d_SF_join_18 (by decide) (fun c33 => ?_) (fun c33 => ?_)
      · refine lv_iconst (v := (-1)) hx hb d_SF_join_31 (by decide) ?_
        exact m_iret hc hr hlk hw ⟨by first | decide | (dsimp only; omega), by first | decide | (dsimp only; omega)⟩ d_SF_join_32 ⟨fun _ => ⟨rfl, ⟨E, g, hRg, gle.rf, fun _ _ => rfl, hS0⟩⟩, fun kt k j vv vw h1 h2 h3 h4 h5 h6 h7 h8 => absurd (by rw [h2]; exact plc h1) (bI_0.mp (p30.symm.trans c33))⟩
      · have hpl := bI_n.mp (fun z => c33 (p30.trans z))
        obtain ⟨kt, hkt, hxt⟩ : ∃ k : Nat, k < 10 ∧ xt = nI k := vp_in_of (vin (n := 10) hpl.1 hpl.2 (Nat.le_refl 10) (by decide)) (by decide)
        refine lv_aloadN hx hb d_SF_join_21 (lv_at hl 1 rfl) ?_
        refine lv_ifnullN (tgt := 31) hx hb d_SF_join_23 (by decide) ?_
        refine lv_iconst (v := (-1)) hx hb d_SF_join_31 (by decide) ?_
        exact m_iret hc hr hlk hw ⟨by first | decide | (dsimp only; omega), by first | decide | (dsimp only; omega)⟩ d_SF_join_32 ⟨fun _ => ⟨rfl, ⟨E, g, hRg, gle.rf, fun _ _ => rfl, hS0⟩⟩, fun kt k j vv vw h1 h2 h3 h4 h5 h6 h7 h8 => absurd ((hnfa k h3 h4).symm.trans h7) (by intro z; cases z)⟩
  · subst hva
    have hrhab := hrha
    obtain ⟨l0a, h0a, hl0a, hh0a, hl1a, hl2a, hh1a, hh2a, hrfa⟩ := hrha
    obtain ⟨cFa, rFa, fcFa, hcFa⟩ := RF.head hrfa
    obtain ⟨kFa, ekFa⟩ : ∃ z, z = vva.1 := ⟨_, rfl⟩
    obtain ⟨lFa, elFa⟩ : ∃ z, z = vva.2.1 := ⟨_, rfl⟩
    obtain ⟨gFa, egFa⟩ : ∃ z, z = vva.2.2.1 := ⟨_, rfl⟩
    have hcella : f Fa = some (.inr (cFa, .int kFa :: .int lFa :: .int gFa :: rFa)) := by rw [ekFa, elFa, egFa]; exact hgf _ _ hcFa
    refine lv_astore (lv' := [(4, .ref Fa), (0, .ref root), (1, .int xt), (2, .int x), (3, .int y)]) hx hb d_SF_join_5 hl (by decide) rfl (fun ls hl => ?_)
    refine lv_aload_n hx hb d_SF_join_7 rfl (lv_at hl 1 rfl) ?_
    refine lv_iload_n hx hb d_SF_join_8 rfl (lv_at hl 4 rfl) ?_
    refine m_callq hw (m_runV (As := [.int y]) (rest := []) hc hE hw (c_SF_filterAt G l H.size f hN hRg hS0 y) h0 rfl cw_SF_82 se_SF_filterAt rfl hl.1 rfl (Nat.le_of_ble_eq_true rfl) d_SF_join_9 ⟨rfl, rfl, by decide, by decide⟩ ⟨by first | decide | (dsimp only; omega), by first | decide | (dsimp only; omega)⟩) (fun r36 g35 H locs p34 hw => ?_)
    obtain ⟨rfl, hflb⟩ := p34
    rcases hflb with ⟨hnob, hvb⟩ | ⟨kb, hkb, hxkb, ⟨hvb, hnnb⟩ | ⟨Fb, vvb, hvb, hsmb, hrhb⟩⟩
    · subst hvb
      have hnfb : noF fl y := noF_out hnob
      refine lv_astoreN (lv' := [(5, .null), (4, .ref Fa), (0, .ref root), (1, .int xt), (2, .int x), (3, .int y)]) hx hb d_SF_join_12 hl (by decide) rfl (fun ls hl => ?_)
      refine lv_iload_n hx hb d_SF_join_14 rfl (lv_at hl 3 rfl) ?_
      refine m_calli hw (m_runS (As := [.int xt]) (rest := []) hc hE hw (c_SF_isPlace G l H.size f xt) cw_SF_67 ss_SF_isPlace rfl hl.1 rfl (Nat.le_of_ble_eq_true rfl) d_SF_join_15 ⟨rfl, rfl, by decide, by decide⟩ ⟨by first | decide | (dsimp only; omega), by first | decide | (dsimp only; omega)⟩) (fun r39 g38 H locs p37 hw => ?_)
      obtain ⟨rfl, p37⟩ := p37
      refine lv_if_eq (tgt := 31) hx hb d_SF_join_18 (by decide) (fun c40 => ?_) (fun c40 => ?_)
      · refine lv_iconst (v := (-1)) hx hb d_SF_join_31 (by decide) ?_
        exact m_iret hc hr hlk hw ⟨by first | decide | (dsimp only; omega), by first | decide | (dsimp only; omega)⟩ d_SF_join_32 ⟨fun _ => ⟨rfl, ⟨E, g, hRg, gle.rf, fun _ _ => rfl, hS0⟩⟩, fun kt k j vv vw h1 h2 h3 h4 h5 h6 h7 h8 => absurd (by rw [h2]; exact plc h1) (bI_0.mp (p37.symm.trans c40))⟩
      · have hpl := bI_n.mp (fun z => c40 (p37.trans z))
        obtain ⟨kt, hkt, hxt⟩ : ∃ k : Nat, k < 10 ∧ xt = nI k := vp_in_of (vin (n := 10) hpl.1 hpl.2 (Nat.le_refl 10) (by decide)) (by decide)
        refine lv_aload hx hb d_SF_join_21 (lv_at hl 1 rfl) ?_
        refine lv_ifnull hx hb d_SF_join_23 ?_
        refine lv_aloadN hx hb d_SF_join_26 (lv_at hl 0 rfl) ?_
        refine lv_ifnonnullN hx hb d_SF_join_28 ?_
        refine lv_iconst (v := (-1)) hx hb d_SF_join_31 (by decide) ?_
        exact m_iret hc hr hlk hw ⟨by first | decide | (dsimp only; omega), by first | decide | (dsimp only; omega)⟩ d_SF_join_32 ⟨fun _ => ⟨rfl, ⟨E, g, hRg, gle.rf, fun _ _ => rfl, hS0⟩⟩, fun kt k j vv vw h1 h2 h3 h4 h5 h6 h7 h8 => absurd ((hnfb j h5 h6).symm.trans h8) (by intro z; cases z)⟩
    · subst hvb
      have hnfb : noF fl y := noF_in hkb hxkb hnnb
      refine lv_astoreN (lv' := [(5, .null), (4, .ref Fa), (0, .ref root), (1, .int xt), (2, .int x), (3, .int y)]) hx hb d_SF_join_12 hl (by decide) rfl (fun ls hl => ?_)
      refine lv_iload_n hx hb d_SF_join_14 rfl (lv_at hl 3 rfl) ?_
      refine m_calli hw (m_runS (As := [.int xt]) (rest := []) hc hE hw (c_SF_isPlace G l H.size f xt) cw_SF_67 ss_SF_isPlace rfl hl.1 rfl (Nat.le_of_ble_eq_true rfl) d_SF_join_15 ⟨rfl, rfl, by decide, by decide⟩ ⟨by first | decide | (dsimp only; omega), by first | decide | (dsimp only; omega)⟩) (fun r43 g42 H locs p41 hw => ?_)
      obtain ⟨rfl, p41⟩ := p41
      refine lv_if_eq (tgt := 31) hx hb d_SF_join_18 (by decide) (fun c44 => ?_) (fun c44 => ?_)
      · refine lv_iconst (v := (-1)) hx hb d_SF_join_31 (by decide) ?_
        exact m_iret hc hr hlk hw ⟨by first | decide | (dsimp only; omega), by first | decide | (dsimp only; omega)⟩ d_SF_join_32 ⟨fun _ => ⟨rfl, ⟨E, g, hRg, gle.rf, fun _ _ => rfl, hS0⟩⟩, fun kt k j vv vw h1 h2 h3 h4 h5 h6 h7 h8 => absurd (by rw [h2]; exact plc h1) (bI_0.mp (p41.symm.trans c44))⟩
      · have hpl := bI_n.mp (fun z => c44 (p41.trans z))
        obtain ⟨kt, hkt, hxt⟩ : ∃ k : Nat, k < 10 ∧ xt = nI k := vp_in_of (vin (n := 10) hpl.1 hpl.2 (Nat.le_refl 10) (by decide)) (by decide)
        refine lv_aload hx hb d_SF_join_21 (lv_at hl 1 rfl) ?_
        refine lv_ifnull hx hb d_SF_join_23 ?_
        refine lv_aloadN hx hb d_SF_join_26 (lv_at hl 0 rfl) ?_
        refine lv_ifnonnullN hx hb d_SF_join_28 ?_
        refine lv_iconst (v := (-1)) hx hb d_SF_join_31 (by decide) ?_
        exact m_iret hc hr hlk hw ⟨by first | decide | (dsimp only; omega), by first | decide | (dsimp only; omega)⟩ d_SF_join_32 ⟨fun _ => ⟨rfl, ⟨E, g, hRg, gle.rf, fun _ _ => rfl, hS0⟩⟩, fun kt k j vv vw h1 h2 h3 h4 h5 h6 h7 h8 => absurd ((hnfb j h5 h6).symm.trans h8) (by intro z; cases z)⟩
    · subst hvb
      have hrhbb := hrhb
      obtain ⟨l0b, h0b, hl0b, hh0b, hl1b, hl2b, hh1b, hh2b, hrfb⟩ := hrhb
      obtain ⟨cFb, rFb, fcFb, hcFb⟩ := RF.head hrfb
      obtain ⟨kFb, ekFb⟩ : ∃ z, z = vvb.1 := ⟨_, rfl⟩
      obtain ⟨lFb, elFb⟩ : ∃ z, z = vvb.2.1 := ⟨_, rfl⟩
      obtain ⟨gFb, egFb⟩ : ∃ z, z = vvb.2.2.1 := ⟨_, rfl⟩
      have hcellb : f Fb = some (.inr (cFb, .int kFb :: .int lFb :: .int gFb :: rFb)) := by rw [ekFb, elFb, egFb]; exact hgf _ _ hcFb
      refine lv_astore (lv' := [(5, .ref Fb), (4, .ref Fa), (0, .ref root), (1, .int xt), (2, .int x), (3, .int y)]) hx hb d_SF_join_12 hl (by decide) rfl (fun ls hl => ?_)
      refine lv_iload_n hx hb d_SF_join_14 rfl (lv_at hl 3 rfl) ?_
      refine m_calli hw (m_runS (As := [.int xt]) (rest := []) hc hE hw (c_SF_isPlace G l H.size f xt) cw_SF_67 ss_SF_isPlace rfl hl.1 rfl (Nat.le_of_ble_eq_true rfl) d_SF_join_15 ⟨rfl, rfl, by decide, by decide⟩ ⟨by first | decide | (dsimp only; omega), by first | decide | (dsimp only; omega)⟩) (fun r47 g46 H locs p45 hw => ?_)
      obtain ⟨rfl, p45⟩ := p45
      refine lv_if_eq (tgt := 31) hx hb d_SF_join_18 (by decide) (fun c48 => ?_) (fun c48 => ?_)
      · refine lv_iconst (v := (-1)) hx hb d_SF_join_31 (by decide) ?_
        exact m_iret hc hr hlk hw ⟨by first | decide | (dsimp only; omega), by first | decide | (dsimp only; omega)⟩ d_SF_join_32 ⟨fun _ => ⟨rfl, ⟨E, g, hRg, gle.rf, fun _ _ => rfl, hS0⟩⟩, fun kt k j vv vw h1 h2 h3 h4 h5 h6 h7 h8 => absurd (by rw [h2]; exact plc h1) (bI_0.mp (p45.symm.trans c48))⟩
      · have hpl := bI_n.mp (fun z => c48 (p45.trans z))
        obtain ⟨kt, hkt, hxt⟩ : ∃ k : Nat, k < 10 ∧ xt = nI k := vp_in_of (vin (n := 10) hpl.1 hpl.2 (Nat.le_refl 10) (by decide)) (by decide)
        refine lv_aload hx hb d_SF_join_21 (lv_at hl 1 rfl) ?_
        refine lv_ifnull hx hb d_SF_join_23 ?_
        refine lv_aload hx hb d_SF_join_26 (lv_at hl 0 rfl) ?_
        refine lv_ifnonnull (tgt := 33) hx hb d_SF_join_28 (by decide) ?_
        refine lv_aload hx hb d_SF_join_33 (lv_at hl 1 rfl) ?_
        refine m_getF hc hE hw hcella fcFa l5_SF_86 rfl d_SF_join_35 ?_
        refine lv_aload hx hb d_SF_join_38 (lv_at hl 0 rfl) ?_
        refine m_getF hc hE hw hcellb fcFb l5_SF_86 rfl d_SF_join_40 ?_
        refine lv_iadd hx hb d_SF_join_43 ?_
        refine lv_bipush (v := 24) hx hb d_SF_join_44 (by decide) ?_
        refine lv_icmp_le (tgt := 52) hx hb d_SF_join_46 (by decide) (fun c49 => ?_) (fun c49 => ?_)
        · refine lv_aload hx hb d_SF_join_52 (lv_at hl 1 rfl) ?_
          refine m_getF hc hE hw hcella fcFa l5_SF_90 rfl d_SF_join_54 ?_
          refine lv_aload hx hb d_SF_join_57 (lv_at hl 0 rfl) ?_
          refine m_getF hc hE hw hcellb fcFb l5_SF_90 rfl d_SF_join_59 ?_
          refine m_mmax hc mm_SF_93 mm_w hl.1 (Nat.le_of_ble_eq_true rfl) (Nat.le_of_ble_eq_true rfl) ⟨by first | decide | (dsimp only; omega), by first | decide | (dsimp only; omega)⟩ d_SF_join_62 ?_
          refine m_top (y := (mxh gFa gFb)) rfl ?_
          refine lv_bipush (v := 8) hx hb d_SF_join_65 (by decide) ?_
          refine lv_icmp_lt (tgt := 73) hx hb d_SF_join_67 (by decide) (fun c50 => ?_) (fun c50 => ?_)
          · refine lv_aload_n hx hb d_SF_join_73 rfl (lv_at hl 2 rfl) ?_
            refine m_get hc hE hw h0 kc_SF l_SF_36_SF rfl d_SF_join_74 ?_
            refine lv_iload_n hx hb d_SF_join_77 rfl (lv_at hl 3 rfl) ?_
            refine m_new hc hE hw (fs := [.int 0, .int 0, .int 0, .null, .null]) kc_JoinedFilter nw_SF_99 bl_JoinedFilter (by first | decide | (dsimp only; omega)) (by first | decide | (dsimp only; omega)) d_SF_join_78 (fun q51 H u52 hw => ?_)
            obtain ⟨f53, ef53⟩ : ∃ z : Wd, z = va_up f q51 (some (.inr (6, [.int 0, .int 0, .int 0, .null, .null]))) := ⟨_, rfl⟩
            replace hw : ms G.1 (Af f sz) f53 s H locs := by rw [ef53]; exact hw
            have n_root_q51 : root ≠ q51 := wnf h0 u52
            have h54 : f53 root = some (.inr (0, [.ref A0, .ref A2, .ref A7, .ref A8])) := by rw [ef53, va_up_ne _ _ n_root_q51]; exact h0
            have n_A8_q51 : A8 ≠ q51 := wnf h8 u52
            have h55 : f53 A8 = some (.inl (G.2.1 2, 10, .inr (.inr (.inr (.inr fa))))) := by rw [ef53, va_up_ne _ _ n_A8_q51]; exact h8
            have n_Fa_q51 : Fa ≠ q51 := wnf hcella u52
            have h56 : f53 Fa = some (.inr (cFa, .int kFa :: .int lFa :: .int gFa :: rFa)) := by rw [ef53, va_up_ne _ _ n_Fa_q51]; exact hcella
            have n_Fb_q51 : Fb ≠ q51 := wnf hcellb u52
            have h57 : f53 Fb = some (.inr (cFb, .int kFb :: .int lFb :: .int gFb :: rFb)) := by rw [ef53, va_up_ne _ _ n_Fb_q51]; exact hcellb
            have h58 : f53 q51 = some (.inr (6, [.int 0, .int 0, .int 0, .null, .null])) := by rw [ef53, va_up_self]
            refine lv_dup hx hb d_SF_join_81 rfl ?_
            refine lv_aload hx hb d_SF_join_82 (lv_at hl 1 rfl) ?_
            refine lv_aload hx hb d_SF_join_84 (lv_at hl 0 rfl) ?_
            refine m_callv hw (m_runI (As := [.ref Fa, .ref Fb]) (rest := [.ref q51, .int xt, .ref A8]) hc hE hw (c_JoinedFilter_init G l H.size f53 h58 h56 fcFa h57 fcFb) cw_SF_101 ⟨rfl, si_JoinedFilter_init⟩ rfl hl.1 rfl (Nat.le_of_ble_eq_true rfl) d_SF_join_86 ⟨rfl, rfl, by decide, by decide⟩ ⟨by first | decide | (dsimp only; omega), by first | decide | (dsimp only; omega)⟩) (fun g60 H locs p59 hw => ?_)
            have h61 : g60 root = some (.inr (0, [.ref A0, .ref A2, .ref A7, .ref A8])) := by rw [p59, va_up_ne _ _ n_root_q51]; exact h54
            have h62 : g60 A8 = some (.inl (G.2.1 2, 10, .inr (.inr (.inr (.inr fa))))) := by rw [p59, va_up_ne _ _ n_A8_q51]; exact h55
            have h63 : g60 Fa = some (.inr (cFa, .int kFa :: .int lFa :: .int gFa :: rFa)) := by rw [p59, va_up_ne _ _ n_Fa_q51]; exact h56
            have h64 : g60 Fb = some (.inr (cFb, .int kFb :: .int lFb :: .int gFb :: rFb)) := by rw [p59, va_up_ne _ _ n_Fb_q51]; exact h57
            have h65 : g60 q51 = some (.inr (6, [.int 2, .int (lFa + lFb), .int (1 + (if gFa < gFb then gFb else gFa)), .ref Fa, .ref Fb])) := by rw [p59, va_up_self]
            refine m_aast hc hE hw 2 h62 rfl h65 rfl (Or.inr ca_JoinedFilter_Filter) (by rw [hxt]; exact vp_in_nI hkt (by decide)) d_SF_join_89 (fun H locs hw => ?_)
            obtain ⟨f66, ef66⟩ : ∃ z : Wd, z = va_up g60 A8 (some (.inl (G.2.1 2, 10, .inr (.inr (.inr (.inr (va_up fa xt.toNatClampNeg (some q51)))))))) := ⟨_, rfl⟩
            replace hw : ms G.1 (Af f sz) f66 s H locs := by rw [ef66]; exact hw
            have h67 : f66 root = some (.inr (0, [.ref A0, .ref A2, .ref A7, .ref A8])) := by rw [ef66, va_up_ne _ _ (wne h61 h62 wd_oa)]; exact h61
            have h68 : f66 Fa = some (.inr (cFa, .int kFa :: .int lFa :: .int gFa :: rFa)) := by rw [ef66, va_up_ne _ _ (wne h63 h62 wd_oa)]; exact h63
            have h69 : f66 Fb = some (.inr (cFb, .int kFb :: .int lFb :: .int gFb :: rFb)) := by rw [ef66, va_up_ne _ _ (wne h64 h62 wd_oa)]; exact h64
            have h70 : f66 q51 = some (.inr (6, [.int 2, .int (lFa + lFb), .int (1 + (if gFa < gFb then gFb else gFa)), .ref Fa, .ref Fb])) := by rw [ef66, va_up_ne _ _ (Ne.symm n_A8_q51)]; exact h65
            have h71 : f66 A8 = some (.inl (G.2.1 2, 10, .inr (.inr (.inr (.inr (va_up fa xt.toNatClampNeg (some q51))))))) := by rw [ef66, va_up_self]
            refine lv_iconst (v := 0) hx hb d_SF_join_90 (by decide) ?_
            have hbad : ¬ (¬ (¬ xt < 0 ∧ ¬ 10 ≤ xt) ∨ noF fl x ∨ noF fl y) := fun z => z.elim (fun z => z hpl) (fun z => z.elim (fun z => absurd ((z ka hka hxka).symm.trans hsma) (by intro z; cases z)) (fun z => absurd ((z kb hkb hxkb).symm.trans hsmb) (by intro z; cases z)))
            have hcl : xt.toNatClampNeg = kt := by rw [hxt]; exact nI_clamp (by omega)
            have hfx : f66 = va_up (va_up f q51 (some (.inr (6, [.int 2, .int (lFa + lFb), .int (1 + (if gFa < gFb then gFb else gFa)), .ref Fa, .ref Fb])))) (ad 8) (some (.inl (G.2.1 2, 10, .inr (.inr (.inr (.inr (va_up fa kt (some q51)))))))) := by rw [ef66, p59, ef53, up_uu, eA8, hcl]
            have hgl : gle g (va_up g q51 (some (.inr (6, [.int 2, .int (lFa + lFb), .int (1 + (if gFa < gFb then gFb else gFa)), .ref Fa, .ref Fb])))) := gle.up (hRg.non u52)
            have hfull : ¬ (¬ vva.2.1 + vvb.2.1 ≤ 24 ∨ ¬ mxh vva.2.2.1 vvb.2.2.1 < 8) := fun z => z.elim (fun z => z (by rw [← elFa, ← elFb]; exact c49)) (fun z => z (by rw [← egFa, ← egFb]; exact c50))
            have hmx : mxh vva.2.2.1 vvb.2.2.1 = nI (max h0a h0b) := by rw [hh0a, hh0b]; exact mxh_n hh2a hh2b
            have hm8 : max h0a h0b < 8 := by rcases Nat.lt_or_ge (max h0a h0b) 8 with z | z; exact z; exact absurd (Or.inr (by rw [hmx]; exact nI_nlt (b := 8) z (by omega))) hfull
            have hsm : vva.2.1 + vvb.2.1 = nI (l0a + l0b) := by rw [hl0a, hl0b]; exact nI_add _ _
            have hs24 : l0a + l0b ≤ 24 := by rcases Nat.lt_or_ge 24 (l0a + l0b) with z | z; exact absurd (Or.inl (by rw [hsm]; exact nI_ge (a := 24) z (by omega))) hfull; exact z
            have hrh9 : RH G (va_up g q51 (some (.inr (6, [.int 2, .int (lFa + lFb), .int (1 + (if gFa < gFb then gFb else gFa)), .ref Fa, .ref Fb])))) q51 ((2, vva.2.1 + vvb.2.1, 1 + mxh vva.2.2.1 vvb.2.2.1, anJ vva.2.2.2.1 vvb.2.2.2.1, TI0) : FV) := ⟨l0a + l0b, max h0a h0b + 1, hsm, by show 1 + mxh vva.2.2.1 vvb.2.2.1 = _; rw [hmx, Int32.add_comm]; exact nI_1 _, by omega, hs24, by omega, by omega, Or.inr (Or.inl ⟨Fa, Fb, vva, vvb, by rw [va_up_self, elFa, elFb, egFa, egFb], by rw [show max h0a h0b = h0a + (max h0a h0b - h0a) by omega]; exact (RF.mono hgl _ _ _ hrfa).le _, by rw [show max h0a h0b = h0b + (max h0a h0b - h0b) by omega]; exact (RF.mono hgl _ _ _ hrfb).le _, rfl⟩)⟩
            exact m_iret hc hr hlk hw ⟨by first | decide | (dsimp only; omega), by first | decide | (dsimp only; omega)⟩ d_SF_join_91 ⟨fun z => absurd z hbad, fun kt2 k j vv vw h1 h2 h3 h4 h5 h6 h7 h8 => by have ek : ka = k := (nI_eq (by omega) (by omega)).mp (hxka.symm.trans h4); subst ek; have ev2 : vva = vv := Option.some.inj (hsma.symm.trans h7); subst ev2; have ek2 : kb = j := (nI_eq (by omega) (by omega)).mp (hxkb.symm.trans h6); subst ek2; have ev3 : vvb = vw := Option.some.inj (hsmb.symm.trans h8); subst ev3; have et : kt = kt2 := (nI_eq (by omega) (by omega)).mp (hxt.symm.trans h2); subst et; exact ⟨fun z => absurd z hfull, fun _ => ⟨rfl, _, _, by rw [hfx]; exact (hRg.new _ u52).up 8 (by omega) _, hgl, fun k hk => va_up_ne _ _ (by omega), hS0.f hgl _ _ ((hFL.mono hgl).put hrh9)⟩⟩⟩
          · refine lv_bipush (v := (-3)) hx hb d_SF_join_70 (by decide) ?_
            have hbad : ¬ (¬ (¬ xt < 0 ∧ ¬ 10 ≤ xt) ∨ noF fl x ∨ noF fl y) := fun z => z.elim (fun z => z hpl) (fun z => z.elim (fun z => absurd ((z ka hka hxka).symm.trans hsma) (by intro z; cases z)) (fun z => absurd ((z kb hkb hxkb).symm.trans hsmb) (by intro z; cases z)))
            exact m_iret hc hr hlk hw ⟨by first | decide | (dsimp only; omega), by first | decide | (dsimp only; omega)⟩ d_SF_join_72 ⟨fun z => absurd z hbad, fun kt2 k j vv vw h1 h2 h3 h4 h5 h6 h7 h8 => by have ek : ka = k := (nI_eq (by omega) (by omega)).mp (hxka.symm.trans h4); subst ek; have ev2 : vva = vv := Option.some.inj (hsma.symm.trans h7); subst ev2; have ek2 : kb = j := (nI_eq (by omega) (by omega)).mp (hxkb.symm.trans h6); subst ek2; have ev3 : vvb = vw := Option.some.inj (hsmb.symm.trans h8); subst ev3; exact ⟨fun _ => ⟨rfl, ⟨E, g, hRg, gle.rf, fun _ _ => rfl, hS0⟩⟩, fun z => absurd (Or.inr (by rw [← egFa, ← egFb]; exact c50)) z⟩⟩
        · refine lv_bipush (v := (-3)) hx hb d_SF_join_49 (by decide) ?_
          have hbad : ¬ (¬ (¬ xt < 0 ∧ ¬ 10 ≤ xt) ∨ noF fl x ∨ noF fl y) := fun z => z.elim (fun z => z hpl) (fun z => z.elim (fun z => absurd ((z ka hka hxka).symm.trans hsma) (by intro z; cases z)) (fun z => absurd ((z kb hkb hxkb).symm.trans hsmb) (by intro z; cases z)))
          exact m_iret hc hr hlk hw ⟨by first | decide | (dsimp only; omega), by first | decide | (dsimp only; omega)⟩ d_SF_join_51 ⟨fun z => absurd z hbad, fun kt2 k j vv vw h1 h2 h3 h4 h5 h6 h7 h8 => by have ek : ka = k := (nI_eq (by omega) (by omega)).mp (hxka.symm.trans h4); subst ek; have ev2 : vva = vv := Option.some.inj (hsma.symm.trans h7); subst ev2; have ek2 : kb = j := (nI_eq (by omega) (by omega)).mp (hxkb.symm.trans h6); subst ek2; have ev3 : vvb = vw := Option.some.inj (hsmb.symm.trans h8); subst ev3; exact ⟨fun _ => ⟨rfl, ⟨E, g, hRg, gle.rf, fun _ _ => rfl, hS0⟩⟩, fun z => absurd (Or.inl (by rw [← elFa, ← elFb]; exact c49)) z⟩⟩
end
section
/-! links of the pools, as the walks ask for them -/
theorem l_SF_185_TextFilter : lnk "StreamFilters" 185 F_TextFilter 6 3 := ⟨by decide, "StreamFilters$TextFilter", Or.inl rfl, Or.inl (tb 366 (by decide +kernel) rfl)⟩
theorem cl_SF_78 : Cond.classLink "StreamFilters" 78 "StreamFilters$TextFilter" ∈ TB := (tb 588 (by decide +kernel) rfl)
theorem cw_SF_156 : cwk "StreamFilters" 156 y_SF_tellText b_SF_tellText 2 (some .int) 2 := ⟨Or.inl (tb 589 (by decide +kernel) rfl), (tb 591 (by decide +kernel) rfl), (tb 1 (by decide +kernel) rfl), by decide, by decide, by decide +kernel⟩
theorem cw_SF_182 : cwk "StreamFilters" 182 y_TextFilter_limitAt b_TextFilter_limitAt 2 (some .int) 1 := ⟨Or.inl (tb 592 (by decide +kernel) rfl), (tb 540 (by decide +kernel) rfl), (tb 13 (by decide +kernel) rfl), by decide, by decide, by decide +kernel⟩
theorem cw_SF_77 : cwk "StreamFilters" 77 y_TextFilter_countPatterns b_TextFilter_countPatterns 1 (some .int) 0 := ⟨Or.inl (tb 396 (by decide +kernel) rfl), (tb 399 (by decide +kernel) rfl), (tb 13 (by decide +kernel) rfl), by decide, by decide, by decide +kernel⟩
theorem se_TextFilter_countPatterns : Cond.instanceMethod y_TextFilter_countPatterns ∈ TB ∧ Cond.selects "StreamFilters$TextFilter" y_TextFilter_countPatterns y_TextFilter_countPatterns ∈ TB := ⟨(tb 397 (by decide +kernel) rfl), (tb 398 (by decide +kernel) rfl)⟩
theorem ss_SF_tellText : Cond.static y_SF_tellText ∈ TB := (tb 590 (by decide +kernel) rfl)
theorem nc_DefaultFilter_TextFilter : (R_DefaultFilter, "StreamFilters$TextFilter") ∈ NCs := by decide
theorem nc_JoinedFilter_TextFilter : (R_JoinedFilter, "StreamFilters$TextFilter") ∈ NCs := by decide
theorem nc_OnlyFilter_TextFilter : (R_OnlyFilter, "StreamFilters$TextFilter") ∈ NCs := by decide
theorem nc_StrictFilter_TextFilter : (R_StrictFilter, "StreamFilters$TextFilter") ∈ NCs := by decide
theorem l5_SF_153 : lnk "StreamFilters" 153 F_TextFilter 6 0 ∧ lnk "StreamFilters" 153 F_JoinedFilter 5 0 ∧ lnk "StreamFilters" 153 F_StrictFilter 5 0 ∧ lnk "StreamFilters" 153 F_DefaultFilter 5 0 ∧ lnk "StreamFilters" 153 F_OnlyFilter 5 0 := ⟨⟨by decide, "StreamFilters$Filter", Or.inl rfl, Or.inl (tb 370 (by decide +kernel) rfl)⟩, ⟨by decide, "StreamFilters$Filter", Or.inl rfl, Or.inl (tb 370 (by decide +kernel) rfl)⟩, ⟨by decide, "StreamFilters$Filter", Or.inl rfl, Or.inl (tb 370 (by decide +kernel) rfl)⟩, ⟨by decide, "StreamFilters$Filter", Or.inl rfl, Or.inl (tb 370 (by decide +kernel) rfl)⟩, ⟨by decide, "StreamFilters$Filter", Or.inl rfl, Or.inl (tb 370 (by decide +kernel) rfl)⟩⟩
/-! decode rows -/
theorem d_SF_filter_0 : decode b_SF_filter 0 = .ok (.iload_n 1, 1) := by decide +kernel
theorem d_SF_filter_1 : decode b_SF_filter 1 = .ok (.invokestatic 67, 3) := by decide +kernel
theorem d_SF_filter_4 : decode b_SF_filter 4 = .ok (.ifCond .ne 5, 3) := by decide +kernel
theorem d_SF_filter_7 : decode b_SF_filter 7 = .ok (.iconst (-1), 1) := by decide +kernel
theorem d_SF_filter_8 : decode b_SF_filter 8 = .ok (.ireturn, 1) := by decide +kernel
theorem d_SF_filter_9 : decode b_SF_filter 9 = .ok (.aload_n 0, 1) := by decide +kernel
theorem d_SF_filter_10 : decode b_SF_filter 10 = .ok (.getfield 36, 3) := by decide +kernel
theorem d_SF_filter_13 : decode b_SF_filter 13 = .ok (.iload_n 1, 1) := by decide +kernel
theorem d_SF_filter_14 : decode b_SF_filter 14 = .ok (.aaload, 1) := by decide +kernel
theorem d_SF_filter_15 : decode b_SF_filter 15 = .ok (.astore_n 3, 1) := by decide +kernel
theorem d_SF_filter_16 : decode b_SF_filter 16 = .ok (.iload_n 2, 1) := by decide +kernel
theorem d_SF_filter_17 : decode b_SF_filter 17 = .ok (.ifCond .ne 16, 3) := by decide +kernel
theorem d_SF_filter_20 : decode b_SF_filter 20 = .ok (.aload_n 3, 1) := by decide +kernel
theorem d_SF_filter_21 : decode b_SF_filter 21 = .ok (.ifnonnull 7, 3) := by decide +kernel
theorem d_SF_filter_24 : decode b_SF_filter 24 = .ok (.iconst 0, 1) := by decide +kernel
theorem d_SF_filter_25 : decode b_SF_filter 25 = .ok (.goto 7, 3) := by decide +kernel
theorem d_SF_filter_28 : decode b_SF_filter 28 = .ok (.aload_n 3, 1) := by decide +kernel
theorem d_SF_filter_29 : decode b_SF_filter 29 = .ok (.getfield 153, 3) := by decide +kernel
theorem d_SF_filter_32 : decode b_SF_filter 32 = .ok (.ireturn, 1) := by decide +kernel
theorem d_SF_filter_33 : decode b_SF_filter 33 = .ok (.aload_n 3, 1) := by decide +kernel
theorem d_SF_filter_34 : decode b_SF_filter 34 = .ok (.ifnonnull 5, 3) := by decide +kernel
theorem d_SF_filter_37 : decode b_SF_filter 37 = .ok (.iconst (-1), 1) := by decide +kernel
theorem d_SF_filter_38 : decode b_SF_filter 38 = .ok (.ireturn, 1) := by decide +kernel
theorem d_SF_filter_39 : decode b_SF_filter 39 = .ok (.iload_n 2, 1) := by decide +kernel
theorem d_SF_filter_40 : decode b_SF_filter 40 = .ok (.iconst 1, 1) := by decide +kernel
theorem d_SF_filter_41 : decode b_SF_filter 41 = .ok (.if_icmp .ne 8, 3) := by decide +kernel
theorem d_SF_filter_44 : decode b_SF_filter 44 = .ok (.aload_n 3, 1) := by decide +kernel
theorem d_SF_filter_45 : decode b_SF_filter 45 = .ok (.getfield 86, 3) := by decide +kernel
theorem d_SF_filter_48 : decode b_SF_filter 48 = .ok (.ireturn, 1) := by decide +kernel
theorem d_SF_filter_49 : decode b_SF_filter 49 = .ok (.iload_n 2, 1) := by decide +kernel
theorem d_SF_filter_50 : decode b_SF_filter 50 = .ok (.iconst 2, 1) := by decide +kernel
theorem d_SF_filter_51 : decode b_SF_filter 51 = .ok (.if_icmp .ne 8, 3) := by decide +kernel
theorem d_SF_filter_54 : decode b_SF_filter 54 = .ok (.aload_n 3, 1) := by decide +kernel
theorem d_SF_filter_55 : decode b_SF_filter 55 = .ok (.getfield 90, 3) := by decide +kernel
theorem d_SF_filter_58 : decode b_SF_filter 58 = .ok (.ireturn, 1) := by decide +kernel
theorem d_SF_filter_59 : decode b_SF_filter 59 = .ok (.aload_n 3, 1) := by decide +kernel
theorem d_SF_filter_60 : decode b_SF_filter 60 = .ok (.instanceof 78, 3) := by decide +kernel
theorem d_SF_filter_63 : decode b_SF_filter 63 = .ok (.ifCond .eq 18, 3) := by decide +kernel
theorem d_SF_filter_66 : decode b_SF_filter 66 = .ok (.aload_n 3, 1) := by decide +kernel
theorem d_SF_filter_67 : decode b_SF_filter 67 = .ok (.checkcast 78, 3) := by decide +kernel
theorem d_SF_filter_70 : decode b_SF_filter 70 = .ok (.astore 4, 2) := by decide +kernel
theorem d_SF_filter_72 : decode b_SF_filter 72 = .ok (.aload 4, 2) := by decide +kernel
theorem d_SF_filter_74 : decode b_SF_filter 74 = .ok (.iload_n 2, 1) := by decide +kernel
theorem d_SF_filter_75 : decode b_SF_filter 75 = .ok (.invokestatic 156, 3) := by decide +kernel
theorem d_SF_filter_78 : decode b_SF_filter 78 = .ok (.goto 4, 3) := by decide +kernel
theorem d_SF_filter_81 : decode b_SF_filter 81 = .ok (.iconst (-1), 1) := by decide +kernel
theorem d_SF_filter_82 : decode b_SF_filter 82 = .ok (.ireturn, 1) := by decide +kernel
theorem d_SF_tellText_0 : decode b_SF_tellText 0 = .ok (.iload_n 1, 1) := by decide +kernel
theorem d_SF_tellText_1 : decode b_SF_tellText 1 = .ok (.tableswitch 81 3 8 #[39, 44, 50, 56, 62, 68], 39) := by decide +kernel
theorem d_SF_tellText_40 : decode b_SF_tellText 40 = .ok (.aload_n 0, 1) := by decide +kernel
theorem d_SF_tellText_41 : decode b_SF_tellText 41 = .ok (.invokevirtual 77, 3) := by decide +kernel
theorem d_SF_tellText_44 : decode b_SF_tellText 44 = .ok (.ireturn, 1) := by decide +kernel
theorem d_SF_tellText_45 : decode b_SF_tellText 45 = .ok (.aload_n 0, 1) := by decide +kernel
theorem d_SF_tellText_46 : decode b_SF_tellText 46 = .ok (.iconst 0, 1) := by decide +kernel
theorem d_SF_tellText_47 : decode b_SF_tellText 47 = .ok (.invokevirtual 182, 3) := by decide +kernel
theorem d_SF_tellText_50 : decode b_SF_tellText 50 = .ok (.ireturn, 1) := by decide +kernel
theorem d_SF_tellText_51 : decode b_SF_tellText 51 = .ok (.aload_n 0, 1) := by decide +kernel
theorem d_SF_tellText_52 : decode b_SF_tellText 52 = .ok (.iconst 1, 1) := by decide +kernel
theorem d_SF_tellText_53 : decode b_SF_tellText 53 = .ok (.invokevirtual 182, 3) := by decide +kernel
theorem d_SF_tellText_56 : decode b_SF_tellText 56 = .ok (.ireturn, 1) := by decide +kernel
theorem d_SF_tellText_57 : decode b_SF_tellText 57 = .ok (.aload_n 0, 1) := by decide +kernel
theorem d_SF_tellText_58 : decode b_SF_tellText 58 = .ok (.iconst 2, 1) := by decide +kernel
theorem d_SF_tellText_59 : decode b_SF_tellText 59 = .ok (.invokevirtual 182, 3) := by decide +kernel
theorem d_SF_tellText_62 : decode b_SF_tellText 62 = .ok (.ireturn, 1) := by decide +kernel
theorem d_SF_tellText_63 : decode b_SF_tellText 63 = .ok (.aload_n 0, 1) := by decide +kernel
theorem d_SF_tellText_64 : decode b_SF_tellText 64 = .ok (.iconst 3, 1) := by decide +kernel
theorem d_SF_tellText_65 : decode b_SF_tellText 65 = .ok (.invokevirtual 182, 3) := by decide +kernel
theorem d_SF_tellText_68 : decode b_SF_tellText 68 = .ok (.ireturn, 1) := by decide +kernel
theorem d_SF_tellText_69 : decode b_SF_tellText 69 = .ok (.aload_n 0, 1) := by decide +kernel
theorem d_SF_tellText_70 : decode b_SF_tellText 70 = .ok (.getfield 185, 3) := by decide +kernel
theorem d_SF_tellText_73 : decode b_SF_tellText 73 = .ok (.ifCond .eq 7, 3) := by decide +kernel
theorem d_SF_tellText_76 : decode b_SF_tellText 76 = .ok (.iconst 1, 1) := by decide +kernel
theorem d_SF_tellText_77 : decode b_SF_tellText 77 = .ok (.goto 4, 3) := by decide +kernel
theorem d_SF_tellText_80 : decode b_SF_tellText 80 = .ok (.iconst 0, 1) := by decide +kernel
theorem d_SF_tellText_81 : decode b_SF_tellText 81 = .ok (.ireturn, 1) := by decide +kernel
theorem d_SF_tellText_82 : decode b_SF_tellText 82 = .ok (.iconst (-1), 1) := by decide +kernel
theorem d_SF_tellText_83 : decode b_SF_tellText 83 = .ok (.ireturn, 1) := by decide +kernel
/-- what is told of a text filter -/
noncomputable def ttl (np : Nat) (lm : Nat → Int32) (bs x : Int32) : Int32 := pif (x = 3) (nI np) (pif (x = 4) (lm 0) (pif (x = 5) (lm 1) (pif (x = 6) (lm 2) (pif (x = 7) (lm 3) (pif (x = 8) bs (-1))))))
/-- what is told of a filter -/
noncomputable def flv : Option FV → Int32 → Int32
  | none, x => pif (x = 0) 0 (-1)
  | some v, x => pif (x = 0) v.1 (pif (x = 1) v.2.1 (pif (x = 2) v.2.2.1 (pif (v.1 = 1) (ttl v.2.2.2.2.1 v.2.2.2.2.2.1 v.2.2.2.2.2.2.1 x) (-1))))
set_option maxHeartbeats 4000000 in
set_option maxRecDepth 100000 in
/-- tellText(a, x) -/
theorem c_SF_tellText (G : GG) (l : Launch) (sz : Nat) (f : Wd) {a : Nat} {bs : Int32} {lm : Nat → Int32} {np : Nat} {V Sh : Nat → Int32} {M : Nat → Nat → (Nat → Int32) → Nat → (Nat → Int32) → Prop} (ht : tf G f a bs lm np V Sh M) (x : Int32) : Ci G l y_SF_tellText b_SF_tellText 2 (some .int) ({ frames := 1, cells := 0, slots := 0, locals := 21 }) sz f [.ref a, .int x] (fun v f' => f = f' ∧ v = ttl np lm bs x) := by
  refine ct_of (by decide) (Nat.le_of_ble_eq_true rfl) ?_
  intro p e s m below meth c ls H locs hEn
  obtain ⟨hc, hr, hlk, hin, hE, hw, hsz, hl⟩ := hEn
  have hx := hc.1
  have hb := hc.2.1
  have hl : lv_has ls 2 [(0, .ref a), (1, .int x)] := hl
  have ht0 := ht
  obtain ⟨la, pa, pf, ht1, ht2, ht3, ht4, hbs, hpp⟩ := ht
  refine lv_iload_n hx hb d_SF_tellText_0 rfl (lv_at hl 1 rfl) ?_
  by_cases k1 : x = 3
  · refine lv_tableIn (tgt := 40) hx hb d_SF_tellText_1 (off := 39) (by rw [k1]; decide) (by rw [k1]; decide) (by rw [k1] <;> rfl) (by decide) ?_
    refine lv_aload_n hx hb d_SF_tellText_40 rfl (lv_at hl 0 rfl) ?_
    refine m_calli hw (m_runV (As := []) (rest := []) hc hE hw (c_TextFilter_countPatterns G l H.size f ht0) ht1 rfl cw_SF_77 se_TextFilter_countPatterns rfl hl.1 rfl (Nat.le_of_ble_eq_true rfl) d_SF_tellText_41 ⟨rfl, rfl, by decide, by decide⟩ ⟨by first | decide | (dsimp only; omega), by first | decide | (dsimp only; omega)⟩) (fun r4 g3 H locs p2 hw => ?_)
    obtain ⟨rfl, p2⟩ := p2
    exact m_iret hc hr hlk hw ⟨by first | decide | (dsimp only; omega), by first | decide | (dsimp only; omega)⟩ d_SF_tellText_44 ⟨rfl, by unfold ttl; rw [pif_t k1]; exact p2⟩
  by_cases k5 : x = 4
  · refine lv_tableIn (tgt := 45) hx hb d_SF_tellText_1 (off := 44) (by rw [k5]; decide) (by rw [k5]; decide) (by rw [k5] <;> rfl) (by decide) ?_
    refine lv_aload_n hx hb d_SF_tellText_45 rfl (lv_at hl 0 rfl) ?_
    refine lv_iconst (v := 0) hx hb d_SF_tellText_46 (by decide) ?_
    refine m_calli hw (m_runV (As := [.int 0]) (rest := []) hc hE hw (c_TextFilter_limitAt G l H.size f ht0 (k := 0) (by decide)) ht1 rfl cw_SF_182 se_TextFilter_limitAt rfl hl.1 rfl (Nat.le_of_ble_eq_true rfl) d_SF_tellText_47 ⟨rfl, rfl, by decide, by decide⟩ ⟨by first | decide | (dsimp only; omega), by first | decide | (dsimp only; omega)⟩) (fun r8 g7 H locs p6 hw => ?_)
    obtain ⟨rfl, p6⟩ := p6
    exact m_iret hc hr hlk hw ⟨by first | decide | (dsimp only; omega), by first | decide | (dsimp only; omega)⟩ d_SF_tellText_50 ⟨rfl, by unfold ttl; rw [pif_f k1, pif_t k5]; exact p6⟩
  by_cases k9 : x = 5
  · refine lv_tableIn (tgt := 51) hx hb d_SF_tellText_1 (off := 50) (by rw [k9]; decide) (by rw [k9]; decide) (by rw [k9] <;> rfl) (by decide) ?_
    refine lv_aload_n hx hb d_SF_tellText_51 rfl (lv_at hl 0 rfl) ?_
    refine lv_iconst (v := 1) hx hb d_SF_tellText_52 (by decide) ?_
    refine m_calli hw (m_runV (As := [.int 1]) (rest := []) hc hE hw (c_TextFilter_limitAt G l H.size f ht0 (k := 1) (by decide)) ht1 rfl cw_SF_182 se_TextFilter_limitAt rfl hl.1 rfl (Nat.le_of_ble_eq_true rfl) d_SF_tellText_53 ⟨rfl, rfl, by decide, by decide⟩ ⟨by first | decide | (dsimp only; omega), by first | decide | (dsimp only; omega)⟩) (fun r12 g11 H locs p10 hw => ?_)
    obtain ⟨rfl, p10⟩ := p10
    exact m_iret hc hr hlk hw ⟨by first | decide | (dsimp only; omega), by first | decide | (dsimp only; omega)⟩ d_SF_tellText_56 ⟨rfl, by unfold ttl; rw [pif_f k1, pif_f k5, pif_t k9]; exact p10⟩
  by_cases k13 : x = 6
  · refine lv_tableIn (tgt := 57) hx hb d_SF_tellText_1 (off := 56) (by rw [k13]; decide) (by rw [k13]; decide) (by rw [k13] <;> rfl) (by decide) ?_
    refine lv_aload_n hx hb d_SF_tellText_57 rfl (lv_at hl 0 rfl) ?_
    refine lv_iconst (v := 2) hx hb d_SF_tellText_58 (by decide) ?_
    refine m_calli hw (m_runV (As := [.int 2]) (rest := []) hc hE hw (c_TextFilter_limitAt G l H.size f ht0 (k := 2) (by decide)) ht1 rfl cw_SF_182 se_TextFilter_limitAt rfl hl.1 rfl (Nat.le_of_ble_eq_true rfl) d_SF_tellText_59 ⟨rfl, rfl, by decide, by decide⟩ ⟨by first | decide | (dsimp only; omega), by first | decide | (dsimp only; omega)⟩) (fun r16 g15 H locs p14 hw => ?_)
    obtain ⟨rfl, p14⟩ := p14
    exact m_iret hc hr hlk hw ⟨by first | decide | (dsimp only; omega), by first | decide | (dsimp only; omega)⟩ d_SF_tellText_62 ⟨rfl, by unfold ttl; rw [pif_f k1, pif_f k5, pif_f k9, pif_t k13]; exact p14⟩
  by_cases k17 : x = 7
  · refine lv_tableIn (tgt := 63) hx hb d_SF_tellText_1 (off := 62) (by rw [k17]; decide) (by rw [k17]; decide) (by rw [k17] <;> rfl) (by decide) ?_
    refine lv_aload_n hx hb d_SF_tellText_63 rfl (lv_at hl 0 rfl) ?_
    refine lv_iconst (v := 3) hx hb d_SF_tellText_64 (by decide) ?_
    refine m_calli hw (m_runV (As := [.int 3]) (rest := []) hc hE hw (c_TextFilter_limitAt G l H.size f ht0 (k := 3) (by decide)) ht1 rfl cw_SF_182 se_TextFilter_limitAt rfl hl.1 rfl (Nat.le_of_ble_eq_true rfl) d_SF_tellText_65 ⟨rfl, rfl, by decide, by decide⟩ ⟨by first | decide | (dsimp only; omega), by first | decide | (dsimp only; omega)⟩) (fun r20 g19 H locs p18 hw => ?_)
    obtain ⟨rfl, p18⟩ := p18
    exact m_iret hc hr hlk hw ⟨by first | decide | (dsimp only; omega), by first | decide | (dsimp only; omega)⟩ d_SF_tellText_68 ⟨rfl, by unfold ttl; rw [pif_f k1, pif_f k5, pif_f k9, pif_f k13, pif_t k17]; exact p18⟩
  by_cases k21 : x = 8
  · refine lv_tableIn (tgt := 69) hx hb d_SF_tellText_1 (off := 68) (by rw [k21]; decide) (by rw [k21]; decide) (by rw [k21] <;> rfl) (by decide) ?_
    refine lv_aload_n hx hb d_SF_tellText_69 rfl (lv_at hl 0 rfl) ?_
    refine m_get hc hE hw ht1 kc_TextFilter l_SF_185_TextFilter rfl d_SF_tellText_70 ?_
    refine lv_if_eq (tgt := 80) hx hb d_SF_tellText_73 (by decide) (fun c22 => ?_) (fun c22 => ?_)
    · refine lv_iconst (v := 0) hx hb d_SF_tellText_80 (by decide) ?_
      exact m_iret hc hr hlk hw ⟨by first | decide | (dsimp only; omega), by first | decide | (dsimp only; omega)⟩ d_SF_tellText_81 ⟨rfl, by unfold ttl; rw [pif_f k1, pif_f k5, pif_f k9, pif_f k13, pif_f k17, pif_t k21]; exact c22.symm⟩
    · refine lv_iconst (v := 1) hx hb d_SF_tellText_76 (by decide) ?_
      refine lv_goto (tgt := 81) hx hb d_SF_tellText_77 (by decide) ?_
      exact m_iret hc hr hlk hw ⟨by first | decide | (dsimp only; omega), by first | decide | (dsimp only; omega)⟩ d_SF_tellText_81 ⟨rfl, by unfold ttl; rw [pif_f k1, pif_f k5, pif_f k9, pif_f k13, pif_f k17, pif_t k21]; exact (hbs.resolve_left c22).symm⟩
  refine lv_tableOut (tgt := 82) hx hb d_SF_tellText_1 (by have := lv_neT k1 (show (3 : Int32).toInt = 3 by decide); have := lv_neT k5 (show (4 : Int32).toInt = 4 by decide); have := lv_neT k9 (show (5 : Int32).toInt = 5 by decide); have := lv_neT k13 (show (6 : Int32).toInt = 6 by decide); have := lv_neT k17 (show (7 : Int32).toInt = 7 by decide); have := lv_neT k21 (show (8 : Int32).toInt = 8 by decide); omega) (by decide) ?_
  refine lv_iconst (v := (-1)) hx hb d_SF_tellText_82 (by decide) ?_
  exact m_iret hc hr hlk hw ⟨by first | decide | (dsimp only; omega), by first | decide | (dsimp only; omega)⟩ d_SF_tellText_83 ⟨rfl, by unfold ttl; rw [pif_f k1, pif_f k5, pif_f k9, pif_f k13, pif_f k17, pif_f k21]⟩

set_option maxHeartbeats 4000000 in
set_option maxRecDepth 100000 in
/-- filter(x, y) -/
theorem c_SF_filter (G : GG) (l : Launch) (sz : Nat) (f : Wd) {N root pn nn mn : Nat} {ad : Nat → Nat} {E : Nat → va_E} {g : Wd} {pt nt mt : Nat → Int32} {dp rf by_ co tx lx : Int32} {fl : Nat → Option FV} (hN : 9 ≤ N) (hRg : Rg N ad E g f) (hS : SC G ad E g root pn pt nn nt mn mt dp rf by_ co tx lx fl) (x y : Int32) : Ci G l y_SF_filter b_SF_filter 5 (some .int) ({ frames := 2, cells := 0, slots := 0, locals := 43 }) sz f [.ref root, .int x, .int y] (fun v f' => (¬ (¬ x < 0 ∧ ¬ 10 ≤ x) → v = -1) ∧ (∀ k : Nat, k < 10 → x = nI k → v = flv (fl k) y) ∧ SCR G N ad E g root f' pn pt nn nt mn mt dp rf by_ co tx lx fl) := by
  refine ct_of (by decide) (Nat.le_of_ble_eq_true rfl) ?_
  intro p e s m below meth c ls H locs hEn
  obtain ⟨hc, hr, hlk, hin, hE, hw, hsz, hl⟩ := hEn
  have hx := hc.1
  have hb := hc.2.1
  have hl : lv_has ls 5 [(0, .ref root), (1, .int x), (2, .int y)] := hl
  have hS0 := hS
  obtain ⟨hroot, hPB, hNB, hMB, ⟨so, di, le, hQ⟩, ⟨fr, en, pi, li, nu, rj, sh, mf, me, nf, ne, hRd⟩, fa, hF8, hFL⟩ := hS
  obtain ⟨A0, eA0⟩ : ∃ z, z = ad 0 := ⟨_, rfl⟩
  obtain ⟨A1, eA1⟩ : ∃ z, z = ad 1 := ⟨_, rfl⟩
  obtain ⟨A2, eA2⟩ : ∃ z, z = ad 2 := ⟨_, rfl⟩
  obtain ⟨A3, eA3⟩ : ∃ z, z = ad 3 := ⟨_, rfl⟩
  obtain ⟨A4, eA4⟩ : ∃ z, z = ad 4 := ⟨_, rfl⟩
  obtain ⟨A5, eA5⟩ : ∃ z, z = ad 5 := ⟨_, rfl⟩
  obtain ⟨A6, eA6⟩ : ∃ z, z = ad 6 := ⟨_, rfl⟩
  obtain ⟨A7, eA7⟩ : ∃ z, z = ad 7 := ⟨_, rfl⟩
  obtain ⟨A8, eA8⟩ : ∃ z, z = ad 8 := ⟨_, rfl⟩
  have hgf := hRg.2.2.1
  have h0 : f root = some (.inr (0, [.ref A0, .ref A2, .ref A7, .ref A8])) := by rw [eA0, eA2, eA7, eA8]; exact hgf _ _ hroot
  have h2 : f A2 = some (.inr (2, [.ref A3, .ref A5, .int dp, .int rf, .int by_, .int so, .int di, .int le, .int co, .int tx, .int lx])) := by rw [eA2, eA3, eA5]; exact hRg.get 2 (by omega) hQ
  have h8 : f A8 = some (.inl (G.2.1 2, 10, .inr (.inr (.inr (.inr fa))))) := by rw [eA8]; exact hRg.get 8 (by omega) hF8
  have hsP : sg G f A0 A1 90 pn pt := by rw [eA0, eA1]; exact hPB.sg hRg (by omega) (by omega)
  have hsN : sg G f A3 A4 40 nn nt := by rw [eA3, eA4]; exact hNB.sg hRg (by omega) (by omega)
  have hsM : sg G f A5 A6 12 mn mt := by rw [eA5, eA6]; exact hMB.sg hRg (by omega) (by omega)
  refine lv_iload_n hx hb d_SF_filter_0 rfl (lv_at hl 1 rfl) ?_
  refine m_calli hw (m_runS (As := [.int x]) (rest := []) hc hE hw (c_SF_isPlace G l H.size f x) cw_SF_67 ss_SF_isPlace rfl hl.1 rfl (Nat.le_of_ble_eq_true rfl) d_SF_filter_1 ⟨rfl, rfl, by decide, by decide⟩ ⟨by first | decide | (dsimp only; omega), by first | decide | (dsimp only; omega)⟩) (fun r3 g2 H locs p1 hw => ?_)
  obtain ⟨rfl, p1⟩ := p1
  refine lv_if_ne (tgt := 9) hx hb d_SF_filter_4 (by decide) (fun c4 => ?_) (fun c4 => ?_)
  · have hpl := bI_n.mp (fun z => c4 (p1.trans z))
    obtain ⟨k, hk, hxk⟩ : ∃ k : Nat, k < 10 ∧ x = nI k := vp_in_of (vin (n := 10) hpl.1 hpl.2 (Nat.le_refl 10) (by decide)) (by decide)
    refine lv_aload_n hx hb d_SF_filter_9 rfl (lv_at hl 0 rfl) ?_
    refine m_get hc hE hw h0 kc_SF l_SF_36_SF rfl d_SF_filter_10 ?_
    refine lv_iload_n hx hb d_SF_filter_13 rfl (lv_at hl 1 rfl) ?_
    refine m_aald hc hE hw 2 h8 rfl (vin (n := 10) hpl.1 hpl.2 (Nat.le_refl 10) (by decide)) d_SF_filter_14 ?_
    have hcl : x.toNatClampNeg = k := by rw [hxk]; exact nI_clamp (by omega)
    rw [hcl]
    rcases hFL k hk with ⟨hfk, hnn⟩ | ⟨Fa, vva, hfk, hsma, hrha⟩
    · rw [hfk]
      refine lv_astore_nN (lv' := [(3, .null), (0, .ref root), (1, .int x), (2, .int y)]) hx hb d_SF_filter_15 rfl hl (by decide) rfl (fun ls hl => ?_)
      refine lv_iload_n hx hb d_SF_filter_16 rfl (lv_at hl 3 rfl) ?_
      refine lv_if_ne (tgt := 33) hx hb d_SF_filter_17 (by decide) (fun c5 => ?_) (fun c5 => ?_)
      · refine lv_aload_nN hx hb d_SF_filter_33 rfl (lv_at hl 0 rfl) ?_
        refine lv_ifnonnullN hx hb d_SF_filter_34 ?_
        refine lv_iconst (v := (-1)) hx hb d_SF_filter_37 (by decide) ?_
        exact m_iret hc hr hlk hw ⟨by first | decide | (dsimp only; omega), by first | decide | (dsimp only; omega)⟩ d_SF_filter_38 ⟨fun z => absurd hpl z, fun k2 h1 h2 => by have ek : k = k2 := (nI_eq (by omega) (by omega)).mp (hxk.symm.trans h2); subst ek; rw [hnn]; exact (pif_f c5).symm, ⟨E, g, hRg, gle.rf, fun _ _ => rfl, hS0⟩⟩
      · refine lv_aload_nN hx hb d_SF_filter_20 rfl (lv_at hl 0 rfl) ?_
        refine lv_ifnonnullN hx hb d_SF_filter_21 ?_
        refine lv_iconst (v := 0) hx hb d_SF_filter_24 (by decide) ?_
        refine lv_goto (tgt := 32) hx hb d_SF_filter_25 (by decide) ?_
        exact m_iret hc hr hlk hw ⟨by first | decide | (dsimp only; omega), by first | decide | (dsimp only; omega)⟩ d_SF_filter_32 ⟨fun z => absurd hpl z, fun k2 h1 h2 => by have ek : k = k2 := (nI_eq (by omega) (by omega)).mp (hxk.symm.trans h2); subst ek; rw [hnn]; exact (pif_t c5).symm, ⟨E, g, hRg, gle.rf, fun _ _ => rfl, hS0⟩⟩
    · rw [hfk]
      obtain ⟨l0a, h0a, hl0a, hh0a, hl1a, hl2a, hh1a, hh2a, hrfa⟩ := hrha
      obtain ⟨cFa, rFa, fcFa, hcFa⟩ := RF.head hrfa
      obtain ⟨kFa, ekFa⟩ : ∃ z, z = vva.1 := ⟨_, rfl⟩
      obtain ⟨lFa, elFa⟩ : ∃ z, z = vva.2.1 := ⟨_, rfl⟩
      obtain ⟨gFa, egFa⟩ : ∃ z, z = vva.2.2.1 := ⟨_, rfl⟩
      have hcella : f Fa = some (.inr (cFa, .int kFa :: .int lFa :: .int gFa :: rFa)) := by rw [ekFa, elFa, egFa]; exact hgf _ _ hcFa
      refine lv_astore_n (lv' := [(3, .ref Fa), (0, .ref root), (1, .int x), (2, .int y)]) hx hb d_SF_filter_15 rfl hl (by decide) rfl (fun ls hl => ?_)
      refine lv_iload_n hx hb d_SF_filter_16 rfl (lv_at hl 3 rfl) ?_
      refine lv_if_ne (tgt := 33) hx hb d_SF_filter_17 (by decide) (fun c6 => ?_) (fun c6 => ?_)
      · refine lv_aload_n hx hb d_SF_filter_33 rfl (lv_at hl 0 rfl) ?_
        refine lv_ifnonnull (tgt := 39) hx hb d_SF_filter_34 (by decide) ?_
        refine lv_iload_n hx hb d_SF_filter_39 rfl (lv_at hl 3 rfl) ?_
        refine lv_iconst (v := 1) hx hb d_SF_filter_40 (by decide) ?_
        refine lv_icmp_ne (tgt := 49) hx hb d_SF_filter_41 (by decide) (fun c7 => ?_) (fun c7 => ?_)
        · refine lv_iload_n hx hb d_SF_filter_49 rfl (lv_at hl 3 rfl) ?_
          refine lv_iconst (v := 2) hx hb d_SF_filter_50 (by decide) ?_
          refine lv_icmp_ne (tgt := 59) hx hb d_SF_filter_51 (by decide) (fun c8 => ?_) (fun c8 => ?_)
          · obtain ⟨da, eda⟩ : ∃ z, h0a = z + 1 := ⟨h0a - 1, by omega⟩
            have hrfax := hrfa
            rw [eda] at hrfax
            rcases hrfax with ⟨bs, lm, np, V, Sh, M, htf, evv⟩ | ⟨b1, b2, v1, v2, hcx, hr1, hr2, evv⟩ | ⟨b1, v1, al1, hcx, hr1, hal1, evv⟩ | ⟨b1, v1, gv1, hcx, hr1, evv⟩ | ⟨b1, sa1, sr1, scap1, bn1, bt1, v1, hcx, hsg1, hr1, evv⟩
            · have hkd : vva.1 = 1 := by rw [evv]
              have htf0 := htf.mono hgf
              obtain ⟨la, pa, pf, ht1, ht2, ht3, ht4, hbs, hpp⟩ := htf
              have hcf : f Fa = some (.inr (5, [.int 1, .int 1, .int 1, .int bs, .ref la, .ref pa])) := hgf _ _ ht1
              refine lv_aload_n hx hb d_SF_filter_59 rfl (lv_at hl 0 rfl) ?_
              refine m_instY hc hE hw hcf rfl cl_SF_78 (Or.inl rfl) d_SF_filter_60 ?_
              refine lv_if_eq (tgt := 81) hx hb d_SF_filter_63 (by decide) (fun z => absurd z (by decide)) (fun _ => ?_)
              refine lv_aload_n hx hb d_SF_filter_66 rfl (lv_at hl 0 rfl) ?_
              refine m_castY hc hE hw hcf rfl cl_SF_78 (Or.inl rfl) d_SF_filter_67 ?_
              refine lv_astore (lv' := [(4, .ref Fa), (3, .ref Fa), (0, .ref root), (1, .int x), (2, .int y)]) hx hb d_SF_filter_70 hl (by decide) rfl (fun ls hl => ?_)
              refine lv_aload hx hb d_SF_filter_72 (lv_at hl 0 rfl) ?_
              refine lv_iload_n hx hb d_SF_filter_74 rfl (lv_at hl 4 rfl) ?_
              refine m_calli hw (m_runS (As := [.ref Fa, .int y]) (rest := []) hc hE hw (c_SF_tellText G l H.size f htf0 y) cw_SF_156 ss_SF_tellText rfl hl.1 rfl (Nat.le_of_ble_eq_true rfl) d_SF_filter_75 ⟨rfl, rfl, by decide, by decide⟩ ⟨by first | decide | (dsimp only; omega), by first | decide | (dsimp only; omega)⟩) (fun r11 g10 H locs p9 hw => ?_)
              obtain ⟨rfl, p9⟩ := p9
              refine lv_goto (tgt := 82) hx hb d_SF_filter_78 (by decide) ?_
              exact m_iret hc hr hlk hw ⟨by first | decide | (dsimp only; omega), by first | decide | (dsimp only; omega)⟩ d_SF_filter_82 ⟨fun z => absurd hpl z, fun k2 h1 h2 => by have ek : k = k2 := (nI_eq (by omega) (by omega)).mp (hxk.symm.trans h2); subst ek; rw [hsma]; show _ = pif _ _ (pif _ _ (pif _ _ (pif _ _ _))); rw [pif_f c6, pif_f c7, pif_f c8, pif_t hkd, evv]; exact p9, ⟨E, g, hRg, gle.rf, fun _ _ => rfl, hS0⟩⟩
            · have hkd : vva.1 = 2 := by rw [evv]
              have hcf : f Fa = some (.inr (6, [.int 2, .int (v1.2.1 + v2.2.1), .int (1 + (if v1.2.2.1 < v2.2.2.1 then v2.2.2.1 else v1.2.2.1)), .ref b1, .ref b2])) := hgf _ _ hcx
              refine lv_aload_n hx hb d_SF_filter_59 rfl (lv_at hl 0 rfl) ?_
              refine m_instN hc hE hw hcf rfl cl_SF_78 nc_JoinedFilter_TextFilter d_SF_filter_60 ?_
              refine lv_if_eq (tgt := 81) hx hb d_SF_filter_63 (by decide) (fun _ => ?_) (fun z => absurd z (by decide))
              refine lv_iconst (v := (-1)) hx hb d_SF_filter_81 (by decide) ?_
              exact m_iret hc hr hlk hw ⟨by first | decide | (dsimp only; omega), by first | decide | (dsimp only; omega)⟩ d_SF_filter_82 ⟨fun z => absurd hpl z, fun k2 h1 h2 => by have ek : k = k2 := (nI_eq (by omega) (by omega)).mp (hxk.symm.trans h2); subst ek; rw [hsma]; show _ = pif _ _ (pif _ _ (pif _ _ (pif _ _ _))); rw [pif_f c6, pif_f c7, pif_f c8, pif_f (by rw [hkd]; decide)], ⟨E, g, hRg, gle.rf, fun _ _ => rfl, hS0⟩⟩
            · have hkd : vva.1 = 3 := by rw [evv]
              have hcf : f Fa = some (.inr (7, [.int 3, .int v1.2.1, .int (1 + v1.2.2.1), .ref b1, .int al1])) := hgf _ _ hcx
              refine lv_aload_n hx hb d_SF_filter_59 rfl (lv_at hl 0 rfl) ?_
              refine m_instN hc hE hw hcf rfl cl_SF_78 nc_StrictFilter_TextFilter d_SF_filter_60 ?_
              refine lv_if_eq (tgt := 81) hx hb d_SF_filter_63 (by decide) (fun _ => ?_) (fun z => absurd z (by decide))
              refine lv_iconst (v := (-1)) hx hb d_SF_filter_81 (by decide) ?_
              exact m_iret hc hr hlk hw ⟨by first | decide | (dsimp only; omega), by first | decide | (dsimp only; omega)⟩ d_SF_filter_82 ⟨fun z => absurd hpl z, fun k2 h1 h2 => by have ek : k = k2 := (nI_eq (by omega) (by omega)).mp (hxk.symm.trans h2); subst ek; rw [hsma]; show _ = pif _ _ (pif _ _ (pif _ _ (pif _ _ _))); rw [pif_f c6, pif_f c7, pif_f c8, pif_f (by rw [hkd]; decide)], ⟨E, g, hRg, gle.rf, fun _ _ => rfl, hS0⟩⟩
            · have hkd : vva.1 = 4 := by rw [evv]
              have hcf : f Fa = some (.inr (8, [.int 4, .int v1.2.1, .int (1 + v1.2.2.1), .ref b1, .int gv1])) := hgf _ _ hcx
              refine lv_aload_n hx hb d_SF_filter_59 rfl (lv_at hl 0 rfl) ?_
              refine m_instN hc hE hw hcf rfl cl_SF_78 nc_DefaultFilter_TextFilter d_SF_filter_60 ?_
              refine lv_if_eq (tgt := 81) hx hb d_SF_filter_63 (by decide) (fun _ => ?_) (fun z => absurd z (by decide))
              refine lv_iconst (v := (-1)) hx hb d_SF_filter_81 (by decide) ?_
              exact m_iret hc hr hlk hw ⟨by first | decide | (dsimp only; omega), by first | decide | (dsimp only; omega)⟩ d_SF_filter_82 ⟨fun z => absurd hpl z, fun k2 h1 h2 => by have ek : k = k2 := (nI_eq (by omega) (by omega)).mp (hxk.symm.trans h2); subst ek; rw [hsma]; show _ = pif _ _ (pif _ _ (pif _ _ (pif _ _ _))); rw [pif_f c6, pif_f c7, pif_f c8, pif_f (by rw [hkd]; decide)], ⟨E, g, hRg, gle.rf, fun _ _ => rfl, hS0⟩⟩
            · have hkd : vva.1 = 5 := by rw [evv]
              have hcf : f Fa = some (.inr (9, [.int 5, .int v1.2.1, .int (1 + v1.2.2.1), .ref b1, .ref sa1])) := hgf _ _ hcx
              refine lv_aload_n hx hb d_SF_filter_59 rfl (lv_at hl 0 rfl) ?_
              refine m_instN hc hE hw hcf rfl cl_SF_78 nc_OnlyFilter_TextFilter d_SF_filter_60 ?_
              refine lv_if_eq (tgt := 81) hx hb d_SF_filter_63 (by decide) (fun _ => ?_) (fun z => absurd z (by decide))
              refine lv_iconst (v := (-1)) hx hb d_SF_filter_81 (by decide) ?_
              exact m_iret hc hr hlk hw ⟨by first | decide | (dsimp only; omega), by first | decide | (dsimp only; omega)⟩ d_SF_filter_82 ⟨fun z => absurd hpl z, fun k2 h1 h2 => by have ek : k = k2 := (nI_eq (by omega) (by omega)).mp (hxk.symm.trans h2); subst ek; rw [hsma]; show _ = pif _ _ (pif _ _ (pif _ _ (pif _ _ _))); rw [pif_f c6, pif_f c7, pif_f c8, pif_f (by rw [hkd]; decide)], ⟨E, g, hRg, gle.rf, fun _ _ => rfl, hS0⟩⟩
          · refine lv_aload_n hx hb d_SF_filter_54 rfl (lv_at hl 0 rfl) ?_
            refine m_getF hc hE hw hcella fcFa l5_SF_90 rfl d_SF_filter_55 ?_
            exact m_iret hc hr hlk hw ⟨by first | decide | (dsimp only; omega), by first | decide | (dsimp only; omega)⟩ d_SF_filter_58 ⟨fun z => absurd hpl z, fun k2 h1 h2 => by have ek : k = k2 := (nI_eq (by omega) (by omega)).mp (hxk.symm.trans h2); subst ek; rw [hsma]; show _ = pif _ _ (pif _ _ (pif _ _ _)); rw [pif_f c6, pif_f c7, pif_t c8]; exact egFa, ⟨E, g, hRg, gle.rf, fun _ _ => rfl, hS0⟩⟩
        · refine lv_aload_n hx hb d_SF_filter_44 rfl (lv_at hl 0 rfl) ?_
          refine m_getF hc hE hw hcella fcFa l5_SF_86 rfl d_SF_filter_45 ?_
          exact m_iret hc hr hlk hw ⟨by first | decide | (dsimp only; omega), by first | decide | (dsimp only; omega)⟩ d_SF_filter_48 ⟨fun z => absurd hpl z, fun k2 h1 h2 => by have ek : k = k2 := (nI_eq (by omega) (by omega)).mp (hxk.symm.trans h2); subst ek; rw [hsma]; show _ = pif _ _ (pif _ _ _); rw [pif_f c6, pif_t c7]; exact elFa, ⟨E, g, hRg, gle.rf, fun _ _ => rfl, hS0⟩⟩
      · refine lv_aload_n hx hb d_SF_filter_20 rfl (lv_at hl 0 rfl) ?_
        refine lv_ifnonnull (tgt := 28) hx hb d_SF_filter_21 (by decide) ?_
        refine lv_aload_n hx hb d_SF_filter_28 rfl (lv_at hl 0 rfl) ?_
        refine m_getF hc hE hw hcella fcFa l5_SF_153 rfl d_SF_filter_29 ?_
        exact m_iret hc hr hlk hw ⟨by first | decide | (dsimp only; omega), by first | decide | (dsimp only; omega)⟩ d_SF_filter_32 ⟨fun z => absurd hpl z, fun k2 h1 h2 => by have ek : k = k2 := (nI_eq (by omega) (by omega)).mp (hxk.symm.trans h2); subst ek; rw [hsma]; show _ = pif _ _ _; rw [pif_t c6]; exact ekFa, ⟨E, g, hRg, gle.rf, fun _ _ => rfl, hS0⟩⟩
  · refine lv_iconst (v := (-1)) hx hb d_SF_filter_7 (by decide) ?_
    exact m_iret hc hr hlk hw ⟨by first | decide | (dsimp only; omega), by first | decide | (dsimp only; omega)⟩ d_SF_filter_8 ⟨fun _ => rfl, fun k hk hxk => absurd (by rw [hxk]; exact plc hk) (bI_0.mp (p1.symm.trans c4)), ⟨E, g, hRg, gle.rf, fun _ _ => rfl, hS0⟩⟩
end
section
/-! links of the pools, as the walks ask for them -/
theorem cw_SF_160 : cwk "StreamFilters" 160 y_TextFilter_patternAt b_TextFilter_patternAt 2 (some (.object "StreamFilters$ClassPattern")) 1 := ⟨Or.inl (tb 597 (by decide +kernel) rfl), (tb 548 (by decide +kernel) rfl), (tb 13 (by decide +kernel) rfl), by decide, by decide, by decide +kernel⟩
theorem cw_SF_164 : cwk "StreamFilters" 164 y_ClassPattern_fullShape b_ClassPattern_fullShape 1 (some .int) 0 := ⟨Or.inl (tb 598 (by decide +kernel) rfl), (tb 601 (by decide +kernel) rfl), (tb 11 (by decide +kernel) rfl), by decide, by decide, by decide +kernel⟩
theorem cw_SF_169 : cwk "StreamFilters" 169 y_ClassPattern_verdict b_ClassPattern_verdict 1 (some .int) 0 := ⟨Or.inl (tb 602 (by decide +kernel) rfl), (tb 575 (by decide +kernel) rfl), (tb 11 (by decide +kernel) rfl), by decide, by decide, by decide +kernel⟩
theorem se_ClassPattern_fullShape : Cond.instanceMethod y_ClassPattern_fullShape ∈ TB ∧ Cond.selects "StreamFilters$ClassPattern" y_ClassPattern_fullShape y_ClassPattern_fullShape ∈ TB := ⟨(tb 599 (by decide +kernel) rfl), (tb 600 (by decide +kernel) rfl)⟩
/-! decode rows -/
theorem d_SF_pattern_0 : decode b_SF_pattern 0 = .ok (.aload_n 0, 1) := by decide +kernel
theorem d_SF_pattern_1 : decode b_SF_pattern 1 = .ok (.iload_n 1, 1) := by decide +kernel
theorem d_SF_pattern_2 : decode b_SF_pattern 2 = .ok (.invokevirtual 82, 3) := by decide +kernel
theorem d_SF_pattern_5 : decode b_SF_pattern 5 = .ok (.astore 5, 2) := by decide +kernel
theorem d_SF_pattern_7 : decode b_SF_pattern 7 = .ok (.aload 5, 2) := by decide +kernel
theorem d_SF_pattern_9 : decode b_SF_pattern 9 = .ok (.instanceof 78, 3) := by decide +kernel
theorem d_SF_pattern_12 : decode b_SF_pattern 12 = .ok (.ifCond .eq 41, 3) := by decide +kernel
theorem d_SF_pattern_15 : decode b_SF_pattern 15 = .ok (.aload 5, 2) := by decide +kernel
theorem d_SF_pattern_17 : decode b_SF_pattern 17 = .ok (.checkcast 78, 3) := by decide +kernel
theorem d_SF_pattern_20 : decode b_SF_pattern 20 = .ok (.astore 4, 2) := by decide +kernel
theorem d_SF_pattern_22 : decode b_SF_pattern 22 = .ok (.aload 4, 2) := by decide +kernel
theorem d_SF_pattern_24 : decode b_SF_pattern 24 = .ok (.iload_n 2, 1) := by decide +kernel
theorem d_SF_pattern_25 : decode b_SF_pattern 25 = .ok (.invokevirtual 160, 3) := by decide +kernel
theorem d_SF_pattern_28 : decode b_SF_pattern 28 = .ok (.astore 5, 2) := by decide +kernel
theorem d_SF_pattern_30 : decode b_SF_pattern 30 = .ok (.aload 5, 2) := by decide +kernel
theorem d_SF_pattern_32 : decode b_SF_pattern 32 = .ok (.ifnull 21, 3) := by decide +kernel
theorem d_SF_pattern_35 : decode b_SF_pattern 35 = .ok (.iload_n 3, 1) := by decide +kernel
theorem d_SF_pattern_36 : decode b_SF_pattern 36 = .ok (.ifCond .eq 11, 3) := by decide +kernel
theorem d_SF_pattern_39 : decode b_SF_pattern 39 = .ok (.aload 5, 2) := by decide +kernel
theorem d_SF_pattern_41 : decode b_SF_pattern 41 = .ok (.invokevirtual 164, 3) := by decide +kernel
theorem d_SF_pattern_44 : decode b_SF_pattern 44 = .ok (.goto 8, 3) := by decide +kernel
theorem d_SF_pattern_47 : decode b_SF_pattern 47 = .ok (.aload 5, 2) := by decide +kernel
theorem d_SF_pattern_49 : decode b_SF_pattern 49 = .ok (.invokevirtual 169, 3) := by decide +kernel
theorem d_SF_pattern_52 : decode b_SF_pattern 52 = .ok (.ireturn, 1) := by decide +kernel
theorem d_SF_pattern_53 : decode b_SF_pattern 53 = .ok (.iconst (-1), 1) := by decide +kernel
theorem d_SF_pattern_54 : decode b_SF_pattern 54 = .ok (.ireturn, 1) := by decide +kernel
/-- what is told of a filter's pattern -/
noncomputable def ptv (v : FV) (y z : Int32) : Int32 := pif (v.1 = 1 ∧ 0 ≤ y ∧ y < nI v.2.2.2.2.1) (pif (z = 0) (v.2.2.2.2.2.2.2.1 y.toNatClampNeg) (v.2.2.2.2.2.2.2.2 y.toNatClampNeg)) (-1)
set_option maxHeartbeats 4000000 in
set_option maxRecDepth 100000 in
/-- pattern(x, y, al) -/
theorem c_SF_pattern (G : GG) (l : Launch) (sz : Nat) (f : Wd) {N root pn nn mn : Nat} {ad : Nat → Nat} {E : Nat → va_E} {g : Wd} {pt nt mt : Nat → Int32} {dp rf by_ co tx lx : Int32} {fl : Nat → Option FV} (hN : 9 ≤ N) (hRg : Rg N ad E g f) (hS : SC G ad E g root pn pt nn nt mn mt dp rf by_ co tx lx fl) (x y : Int32) {al : Int32} (h_al : al = 0 ∨ al = 1) : Ci G l y_SF_pattern b_SF_pattern 6 (some .int) ({ frames := 2, cells := 0, slots := 0, locals := 43 }) sz f [.ref root, .int x, .int y, .int al] (fun v f' => (noF fl x → v = -1) ∧ (∀ (k : Nat) (vv : FV), k < 10 → x = nI k → fl k = some vv → v = ptv vv y al) ∧ SCR G N ad E g root f' pn pt nn nt mn mt dp rf by_ co tx lx fl) := by
  refine ct_of (by decide) (Nat.le_of_ble_eq_true rfl) ?_
  intro p e s m below meth c ls H locs hEn
  obtain ⟨hc, hr, hlk, hin, hE, hw, hsz, hl⟩ := hEn
  have hx := hc.1
  have hb := hc.2.1
  have hl : lv_has ls 6 [(0, .ref root), (1, .int x), (2, .int y), (3, .int al)] := hl
  have hS0 := hS
  obtain ⟨hroot, hPB, hNB, hMB, ⟨so, di, le, hQ⟩, ⟨fr, en, pi, li, nu, rj, sh, mf, me, nf, ne, hRd⟩, fa, hF8, hFL⟩ := hS
  obtain ⟨A0, eA0⟩ : ∃ z, z = ad 0 := ⟨_, rfl⟩
  obtain ⟨A1, eA1⟩ : ∃ z, z = ad 1 := ⟨_, rfl⟩
  obtain ⟨A2, eA2⟩ : ∃ z, z = ad 2 := ⟨_, rfl⟩
  obtain ⟨A3, eA3⟩ : ∃ z, z = ad 3 := ⟨_, rfl⟩
  obtain ⟨A4, eA4⟩ : ∃ z, z = ad 4 := ⟨_, rfl⟩
  obtain ⟨A5, eA5⟩ : ∃ z, z = ad 5 := ⟨_, rfl⟩
  obtain ⟨A6, eA6⟩ : ∃ z, z = ad 6 := ⟨_, rfl⟩
  obtain ⟨A7, eA7⟩ : ∃ z, z = ad 7 := ⟨_, rfl⟩
  obtain ⟨A8, eA8⟩ : ∃ z, z = ad 8 := ⟨_, rfl⟩
  have hgf := hRg.2.2.1
  have h0 : f root = some (.inr (0, [.ref A0, .ref A2, .ref A7, .ref A8])) := by rw [eA0, eA2, eA7, eA8]; exact hgf _ _ hroot
  have h2 : f A2 = some (.inr (2, [.ref A3, .ref A5, .int dp, .int rf, .int by_, .int so, .int di, .int le, .int co, .int tx, .int lx])) := by rw [eA2, eA3, eA5]; exact hRg.get 2 (by omega) hQ
  have h8 : f A8 = some (.inl (G.2.1 2, 10, .inr (.inr (.inr (.inr fa))))) := by rw [eA8]; exact hRg.get 8 (by omega) hF8
  have hsP : sg G f A0 A1 90 pn pt := by rw [eA0, eA1]; exact hPB.sg hRg (by omega) (by omega)
  have hsN : sg G f A3 A4 40 nn nt := by rw [eA3, eA4]; exact hNB.sg hRg (by omega) (by omega)
  have hsM : sg G f A5 A6 12 mn mt := by rw [eA5, eA6]; exact hMB.sg hRg (by omega) (by omega)
  refine lv_aload_n hx hb d_SF_pattern_0 rfl (lv_at hl 0 rfl) ?_
  refine lv_iload_n hx hb d_SF_pattern_1 rfl (lv_at hl 1 rfl) ?_
  refine m_callq hw (m_runV (As := [.int x]) (rest := []) hc hE hw (c_SF_filterAt G l H.size f hN hRg hS0 x) h0 rfl cw_SF_82 se_SF_filterAt rfl hl.1 rfl (Nat.le_of_ble_eq_true rfl) d_SF_pattern_2 ⟨rfl, rfl, by decide, by decide⟩ ⟨by first | decide | (dsimp only; omega), by first | decide | (dsimp only; omega)⟩) (fun r3 g2 H locs p1 hw => ?_)
  obtain ⟨rfl, hfla⟩ := p1
  rcases hfla with ⟨hnoa, hva⟩ | ⟨ka, hka, hxka, ⟨hva, hnna⟩ | ⟨Fa, vva, hva, hsma, hrha⟩⟩
  · subst hva
    have hnfa : noF fl x := noF_out hnoa
    refine lv_astoreN (lv' := [(5, .null), (0, .ref root), (1, .int x), (2, .int y), (3, .int al)]) hx hb d_SF_pattern_5 hl (by decide) rfl (fun ls hl => ?_)
    refine lv_aloadN hx hb d_SF_pattern_7 (lv_at hl 0 rfl) ?_
    refine lv_instN hx hb d_SF_pattern_9 ?_
    refine lv_if_eq (tgt := 53) hx hb d_SF_pattern_12 (by decide) (fun _ => ?_) (fun z => absurd z (by decide))
    refine lv_iconst (v := (-1)) hx hb d_SF_pattern_53 (by decide) ?_
    exact m_iret hc hr hlk hw ⟨by first | decide | (dsimp only; omega), by first | decide | (dsimp only; omega)⟩ d_SF_pattern_54 ⟨fun _ => rfl, fun k vv h1 h2 h3 => absurd ((hnfa k h1 h2).symm.trans h3) (by intro z; cases z), ⟨E, g, hRg, gle.rf, fun _ _ => rfl, hS0⟩⟩
  · subst hva
    have hnfa : noF fl x := noF_in hka hxka hnna
    refine lv_astoreN (lv' := [(5, .null), (0, .ref root), (1, .int x), (2, .int y), (3, .int al)]) hx hb d_SF_pattern_5 hl (by decide) rfl (fun ls hl => ?_)
    refine lv_aloadN hx hb d_SF_pattern_7 (lv_at hl 0 rfl) ?_
    refine lv_instN hx hb d_SF_pattern_9 ?_
    refine lv_if_eq (tgt := 53) hx hb d_SF_pattern_12 (by decide) (fun _ => ?_) (fun z => absurd z (by decide))
    refine lv_iconst (v := (-1)) hx hb d_SF_pattern_53 (by decide) ?_
    exact m_iret hc hr hlk hw ⟨by first | decide | (dsimp only; omega), by first | decide | (dsimp only; omega)⟩ d_SF_pattern_54 ⟨fun _ => rfl, fun k vv h1 h2 h3 => absurd ((hnfa k h1 h2).symm.trans h3) (by intro z; cases z), ⟨E, g, hRg, gle.rf, fun _ _ => rfl, hS0⟩⟩
  · subst hva
    have hrhab := hrha
    obtain ⟨l0a, h0a, hl0a, hh0a, hl1a, hl2a, hh1a, hh2a, hrfa⟩ := hrha
    obtain ⟨cFa, rFa, fcFa, hcFa⟩ := RF.head hrfa
    obtain ⟨kFa, ekFa⟩ : ∃ z, z = vva.1 := ⟨_, rfl⟩
    obtain ⟨lFa, elFa⟩ : ∃ z, z = vva.2.1 := ⟨_, rfl⟩
    obtain ⟨gFa, egFa⟩ : ∃ z, z = vva.2.2.1 := ⟨_, rfl⟩
    have hcella : f Fa = some (.inr (cFa, .int kFa :: .int lFa :: .int gFa :: rFa)) := by rw [ekFa, elFa, egFa]; exact hgf _ _ hcFa
    refine lv_astore (lv' := [(5, .ref Fa), (0, .ref root), (1, .int x), (2, .int y), (3, .int al)]) hx hb d_SF_pattern_5 hl (by decide) rfl (fun ls hl => ?_)
    obtain ⟨da, eda⟩ : ∃ z, h0a = z + 1 := ⟨h0a - 1, by omega⟩
    have hrfax := hrfa
    rw [eda] at hrfax
    rcases hrfax with ⟨bs, lm, np, V, Sh, M, htf, evv⟩ | ⟨b1, b2, v1, v2, hcx, hr1, hr2, evv⟩ | ⟨b1, v1, al1, hcx, hr1, hal1, evv⟩ | ⟨b1, v1, gv1, hcx, hr1, evv⟩ | ⟨b1, sa1, sr1, scap1, bn1, bt1, v1, hcx, hsg1, hr1, evv⟩
    · have hkd : vva.1 = 1 := by rw [evv]
      have htf0 := htf.mono hgf
      obtain ⟨la, pa, pf, ht1, ht2, ht3, ht4, hbs, hpp⟩ := htf
      have hcf : f Fa = some (.inr (5, [.int 1, .int 1, .int 1, .int bs, .ref la, .ref pa])) := hgf _ _ ht1
      refine lv_aload hx hb d_SF_pattern_7 (lv_at hl 0 rfl) ?_
      refine m_instY hc hE hw hcf rfl cl_SF_78 (Or.inl rfl) d_SF_pattern_9 ?_
      refine lv_if_eq (tgt := 53) hx hb d_SF_pattern_12 (by decide) (fun z => absurd z (by decide)) (fun _ => ?_)
      refine lv_aload hx hb d_SF_pattern_15 (lv_at hl 0 rfl) ?_
      refine m_castY hc hE hw hcf rfl cl_SF_78 (Or.inl rfl) d_SF_pattern_17 ?_
      refine lv_astore (lv' := [(4, .ref Fa), (5, .ref Fa), (0, .ref root), (1, .int x), (2, .int y), (3, .int al)]) hx hb d_SF_pattern_20 hl (by decide) rfl (fun ls hl => ?_)
      refine lv_aload hx hb d_SF_pattern_22 (lv_at hl 0 rfl) ?_
      refine lv_iload_n hx hb d_SF_pattern_24 rfl (lv_at hl 4 rfl) ?_
      refine m_callq hw (m_runV (As := [.int y]) (rest := []) hc hE hw (c_TextFilter_patternAt G l H.size f hcf (hgf _ _ ht3) ht4 y) hcf rfl cw_SF_160 se_TextFilter_patternAt rfl hl.1 rfl (Nat.le_of_ble_eq_true rfl) d_SF_pattern_25 ⟨rfl, rfl, by decide, by decide⟩ ⟨by first | decide | (dsimp only; omega), by first | decide | (dsimp only; omega)⟩) (fun r6 g5 H locs p4 hw => ?_)
      obtain ⟨rfl, hv9⟩ := p4
      by_cases hin9 : 0 ≤ y ∧ y < nI np
      · rw [pif_t hin9] at hv9
        obtain ⟨j9, hj9, hyj9⟩ : ∃ j : Nat, j < np ∧ y = nI j := vp_in_of (vin (n := np) (Int32.not_lt.mpr hin9.1) (Int32.not_le.mpr hin9.2) (Nat.le_refl np) (by omega)) (by omega)
        have hyc : y.toNatClampNeg = j9 := by rw [hyj9]; exact nI_clamp (by omega)
        rw [hyc] at hv9
        obtain ⟨pk9, ta9, tr9, tcap9, tn9, t9, rj9, sh9, m09, m19, n09, n19, e1, e2, e3, e4, e5⟩ := hpp j9 hj9
        rw [e1] at hv9; subst hv9
        have hcp9 := e2.mono hgf
        refine lv_astore (lv' := [(5, .ref pk9), (4, .ref Fa), (0, .ref root), (1, .int x), (2, .int y), (3, .int al)]) hx hb d_SF_pattern_28 hl (by decide) rfl (fun ls hl => ?_)
        refine lv_aload hx hb d_SF_pattern_30 (lv_at hl 0 rfl) ?_
        refine lv_ifnull hx hb d_SF_pattern_32 ?_
        refine lv_iload_n hx hb d_SF_pattern_35 rfl (lv_at hl 5 rfl) ?_
        refine lv_if_eq (tgt := 47) hx hb d_SF_pattern_36 (by decide) (fun c7 => ?_) (fun c7 => ?_)
        · refine lv_aload hx hb d_SF_pattern_47 (lv_at hl 0 rfl) ?_
          refine m_calli hw (m_runV (As := []) (rest := []) hc hE hw (c_ClassPattern_verdict G l H.size f hcp9) hcp9.1 rfl cw_SF_169 se_ClassPattern_verdict rfl hl.1 rfl (Nat.le_of_ble_eq_true rfl) d_SF_pattern_49 ⟨rfl, rfl, by decide, by decide⟩ ⟨by first | decide | (dsimp only; omega), by first | decide | (dsimp only; omega)⟩) (fun r10 g9 H locs p8 hw => ?_)
          obtain ⟨rfl, p8⟩ := p8
          exact m_iret hc hr hlk hw ⟨by first | decide | (dsimp only; omega), by first | decide | (dsimp only; omega)⟩ d_SF_pattern_52 ⟨fun z => absurd ((z ka hka hxka).symm.trans hsma) (by intro z; cases z), fun k vv h1 h2 h3 => by have ek : ka = k := (nI_eq (by omega) (by omega)).mp (hxka.symm.trans h2); subst ek; have ev2 : vva = vv := Option.some.inj (hsma.symm.trans h3); subst ev2; unfold ptv; rw [pif_t ⟨hkd, by rw [evv]; exact hin9⟩, pif_t c7, evv, hyc]; exact p8.trans e3.symm, ⟨E, g, hRg, gle.rf, fun _ _ => rfl, hS0⟩⟩
        · refine lv_aload hx hb d_SF_pattern_39 (lv_at hl 0 rfl) ?_
          refine m_calli hw (m_runV (As := []) (rest := []) hc hE hw (c_ClassPattern_fullShape G l H.size f hcp9) hcp9.1 rfl cw_SF_164 se_ClassPattern_fullShape rfl hl.1 rfl (Nat.le_of_ble_eq_true rfl) d_SF_pattern_41 ⟨rfl, rfl, by decide, by decide⟩ ⟨by first | decide | (dsimp only; omega), by first | decide | (dsimp only; omega)⟩) (fun r13 g12 H locs p11 hw => ?_)
          obtain ⟨rfl, p11⟩ := p11
          refine lv_goto (tgt := 52) hx hb d_SF_pattern_44 (by decide) ?_
          exact m_iret hc hr hlk hw ⟨by first | decide | (dsimp only; omega), by first | decide | (dsimp only; omega)⟩ d_SF_pattern_52 ⟨fun z => absurd ((z ka hka hxka).symm.trans hsma) (by intro z; cases z), fun k vv h1 h2 h3 => by have ek : ka = k := (nI_eq (by omega) (by omega)).mp (hxka.symm.trans h2); subst ek; have ev2 : vva = vv := Option.some.inj (hsma.symm.trans h3); subst ev2; unfold ptv; rw [pif_t ⟨hkd, by rw [evv]; exact hin9⟩, pif_f c7, evv, hyc]; exact p11.trans e4.symm, ⟨E, g, hRg, gle.rf, fun _ _ => rfl, hS0⟩⟩
      · rw [pif_f hin9] at hv9; subst hv9
        refine lv_astoreN (lv' := [(5, .null), (4, .ref Fa), (0, .ref root), (1, .int x), (2, .int y), (3, .int al)]) hx hb d_SF_pattern_28 hl (by decide) rfl (fun ls hl => ?_)
        refine lv_aloadN hx hb d_SF_pattern_30 (lv_at hl 0 rfl) ?_
        refine lv_ifnullN (tgt := 53) hx hb d_SF_pattern_32 (by decide) ?_
        refine lv_iconst (v := (-1)) hx hb d_SF_pattern_53 (by decide) ?_
        exact m_iret hc hr hlk hw ⟨by first | decide | (dsimp only; omega), by first | decide | (dsimp only; omega)⟩ d_SF_pattern_54 ⟨fun z => absurd ((z ka hka hxka).symm.trans hsma) (by intro z; cases z), fun k vv h1 h2 h3 => by have ek : ka = k := (nI_eq (by omega) (by omega)).mp (hxka.symm.trans h2); subst ek; have ev2 : vva = vv := Option.some.inj (hsma.symm.trans h3); subst ev2; exact (pif_f (fun z => hin9 (by rw [evv] at z; exact z.2))).symm, ⟨E, g, hRg, gle.rf, fun _ _ => rfl, hS0⟩⟩
    · have hkd : vva.1 = 2 := by rw [evv]
      have hcf : f Fa = some (.inr (6, [.int 2, .int (v1.2.1 + v2.2.1), .int (1 + (if v1.2.2.1 < v2.2.2.1 then v2.2.2.1 else v1.2.2.1)), .ref b1, .ref b2])) := hgf _ _ hcx
      refine lv_aload hx hb d_SF_pattern_7 (lv_at hl 0 rfl) ?_
      refine m_instN hc hE hw hcf rfl cl_SF_78 nc_JoinedFilter_TextFilter d_SF_pattern_9 ?_
      refine lv_if_eq (tgt := 53) hx hb d_SF_pattern_12 (by decide) (fun _ => ?_) (fun z => absurd z (by decide))
      refine lv_iconst (v := (-1)) hx hb d_SF_pattern_53 (by decide) ?_
      exact m_iret hc hr hlk hw ⟨by first | decide | (dsimp only; omega), by first | decide | (dsimp only; omega)⟩ d_SF_pattern_54 ⟨fun z => absurd ((z ka hka hxka).symm.trans hsma) (by intro z; cases z), fun k vv h1 h2 h3 => by have ek : ka = k := (nI_eq (by omega) (by omega)).mp (hxka.symm.trans h2); subst ek; have ev2 : vva = vv := Option.some.inj (hsma.symm.trans h3); subst ev2; exact (pif_f (fun z => absurd (hkd.symm.trans z.1) (by decide))).symm, ⟨E, g, hRg, gle.rf, fun _ _ => rfl, hS0⟩⟩
    · have hkd : vva.1 = 3 := by rw [evv]
      have hcf : f Fa = some (.inr (7, [.int 3, .int v1.2.1, .int (1 + v1.2.2.1), .ref b1, .int al1])) := hgf _ _ hcx
      refine lv_aload hx hb d_SF_pattern_7 (lv_at hl 0 rfl) ?_
      refine m_instN hc hE hw hcf rfl cl_SF_78 nc_StrictFilter_TextFilter d_SF_pattern_9 ?_
      refine lv_if_eq (tgt := 53) hx hb d_SF_pattern_12 (by decide) (fun _ => ?_) (fun z => absurd z (by decide))
      refine lv_iconst (v := (-1)) hx hb d_SF_pattern_53 (by decide) ?_
      exact m_iret hc hr hlk hw ⟨by first | decide | (dsimp only; omega), by first | decide | (dsimp only; omega)⟩ d_SF_pattern_54 ⟨fun z => absurd ((z ka hka hxka).symm.trans hsma) (by intro z; cases z), fun k vv h1 h2 h3 => by have ek : ka = k := (nI_eq (by omega) (by omega)).mp (hxka.symm.trans h2); subst ek; have ev2 : vva = vv := Option.some.inj (hsma.symm.trans h3); subst ev2; exact (pif_f (fun z => absurd (hkd.symm.trans z.1) (by decide))).symm, ⟨E, g, hRg, gle.rf, fun _ _ => rfl, hS0⟩⟩
    · have hkd : vva.1 = 4 := by rw [evv]
      have hcf : f Fa = some (.inr (8, [.int 4, .int v1.2.1, .int (1 + v1.2.2.1), .ref b1, .int gv1])) := hgf _ _ hcx
      refine lv_aload hx hb d_SF_pattern_7 (lv_at hl 0 rfl) ?_
      refine m_instN hc hE hw hcf rfl cl_SF_78 nc_DefaultFilter_TextFilter d_SF_pattern_9 ?_
      refine lv_if_eq (tgt := 53) hx hb d_SF_pattern_12 (by decide) (fun _ => ?_) (fun z => absurd z (by decide))
      refine lv_iconst (v := (-1)) hx hb d_SF_pattern_53 (by decide) ?_
      exact m_iret hc hr hlk hw ⟨by first | decide | (dsimp only; omega), by first | decide | (dsimp only; omega)⟩ d_SF_pattern_54 ⟨fun z => absurd ((z ka hka hxka).symm.trans hsma) (by intro z; cases z), fun k vv h1 h2 h3 => by have ek : ka = k := (nI_eq (by omega) (by omega)).mp (hxka.symm.trans h2); subst ek; have ev2 : vva = vv := Option.some.inj (hsma.symm.trans h3); subst ev2; exact (pif_f (fun z => absurd (hkd.symm.trans z.1) (by decide))).symm, ⟨E, g, hRg, gle.rf, fun _ _ => rfl, hS0⟩⟩
    · have hkd : vva.1 = 5 := by rw [evv]
      have hcf : f Fa = some (.inr (9, [.int 5, .int v1.2.1, .int (1 + v1.2.2.1), .ref b1, .ref sa1])) := hgf _ _ hcx
      refine lv_aload hx hb d_SF_pattern_7 (lv_at hl 0 rfl) ?_
      refine m_instN hc hE hw hcf rfl cl_SF_78 nc_OnlyFilter_TextFilter d_SF_pattern_9 ?_
      refine lv_if_eq (tgt := 53) hx hb d_SF_pattern_12 (by decide) (fun _ => ?_) (fun z => absurd z (by decide))
      refine lv_iconst (v := (-1)) hx hb d_SF_pattern_53 (by decide) ?_
      exact m_iret hc hr hlk hw ⟨by first | decide | (dsimp only; omega), by first | decide | (dsimp only; omega)⟩ d_SF_pattern_54 ⟨fun z => absurd ((z ka hka hxka).symm.trans hsma) (by intro z; cases z), fun k vv h1 h2 h3 => by have ek : ka = k := (nI_eq (by omega) (by omega)).mp (hxka.symm.trans h2); subst ek; have ev2 : vva = vv := Option.some.inj (hsma.symm.trans h3); subst ev2; exact (pif_f (fun z => absurd (hkd.symm.trans z.1) (by decide))).symm, ⟨E, g, hRg, gle.rf, fun _ _ => rfl, hS0⟩⟩
end
section
/-! links of the pools, as the walks ask for them -/
theorem cw_SF_132 : cwk "StreamFilters" 132 y_SF_isQuestion b_SF_isQuestion 2 (some .boolean) 2 := ⟨Or.inl (tb 503 (by decide +kernel) rfl), (tb 505 (by decide +kernel) rfl), (tb 1 (by decide +kernel) rfl), by decide, by decide, by decide +kernel⟩
theorem cw_SF_136 : cwk "StreamFilters" 136 y_Question_begin b_Question_begin 4 none 3 := ⟨Or.inl (tb 506 (by decide +kernel) rfl), (tb 509 (by decide +kernel) rfl), (tb 3 (by decide +kernel) rfl), by decide, by decide, by decide +kernel⟩
theorem se_Question_begin : Cond.instanceMethod y_Question_begin ∈ TB ∧ Cond.selects "StreamFilters$Question" y_Question_begin y_Question_begin ∈ TB := ⟨(tb 507 (by decide +kernel) rfl), (tb 508 (by decide +kernel) rfl)⟩
theorem ss_SF_isQuestion : Cond.static y_SF_isQuestion ∈ TB := (tb 504 (by decide +kernel) rfl)
theorem al_SF_140 : Cond.methodLink "StreamFilters" 140 y_Filter_answer ∈ TB := (tb 510 (by decide +kernel) rfl)
/-! decode rows -/
theorem d_SF_ask_0 : decode b_SF_ask 0 = .ok (.aload_n 0, 1) := by decide +kernel
theorem d_SF_ask_1 : decode b_SF_ask 1 = .ok (.iload_n 1, 1) := by decide +kernel
theorem d_SF_ask_2 : decode b_SF_ask 2 = .ok (.invokevirtual 82, 3) := by decide +kernel
theorem d_SF_ask_5 : decode b_SF_ask 5 = .ok (.astore 5, 2) := by decide +kernel
theorem d_SF_ask_7 : decode b_SF_ask 7 = .ok (.aload 5, 2) := by decide +kernel
theorem d_SF_ask_9 : decode b_SF_ask 9 = .ok (.ifnull 11, 3) := by decide +kernel
theorem d_SF_ask_12 : decode b_SF_ask 12 = .ok (.iload_n 2, 1) := by decide +kernel
theorem d_SF_ask_13 : decode b_SF_ask 13 = .ok (.iload_n 3, 1) := by decide +kernel
theorem d_SF_ask_14 : decode b_SF_ask 14 = .ok (.invokestatic 132, 3) := by decide +kernel
theorem d_SF_ask_17 : decode b_SF_ask 17 = .ok (.ifCond .ne 5, 3) := by decide +kernel
theorem d_SF_ask_20 : decode b_SF_ask 20 = .ok (.iconst (-1), 1) := by decide +kernel
theorem d_SF_ask_21 : decode b_SF_ask 21 = .ok (.ireturn, 1) := by decide +kernel
theorem d_SF_ask_22 : decode b_SF_ask 22 = .ok (.aload_n 0, 1) := by decide +kernel
theorem d_SF_ask_23 : decode b_SF_ask 23 = .ok (.getfield 21, 3) := by decide +kernel
theorem d_SF_ask_26 : decode b_SF_ask 26 = .ok (.iload_n 2, 1) := by decide +kernel
theorem d_SF_ask_27 : decode b_SF_ask 27 = .ok (.iload_n 3, 1) := by decide +kernel
theorem d_SF_ask_28 : decode b_SF_ask 28 = .ok (.iload 4, 2) := by decide +kernel
theorem d_SF_ask_30 : decode b_SF_ask 30 = .ok (.invokevirtual 136, 3) := by decide +kernel
theorem d_SF_ask_33 : decode b_SF_ask 33 = .ok (.aload 5, 2) := by decide +kernel
theorem d_SF_ask_35 : decode b_SF_ask 35 = .ok (.aload_n 0, 1) := by decide +kernel
theorem d_SF_ask_36 : decode b_SF_ask 36 = .ok (.getfield 21, 3) := by decide +kernel
theorem d_SF_ask_39 : decode b_SF_ask 39 = .ok (.invokevirtual 140, 3) := by decide +kernel
theorem d_SF_ask_42 : decode b_SF_ask 42 = .ok (.ireturn, 1) := by decide +kernel
set_option maxHeartbeats 4000000 in
set_option maxRecDepth 100000 in
/-- ask(x, so1, di1, le1) -/
theorem c_SF_ask (G : GG) (l : Launch) (sz : Nat) (f : Wd) {N root pn nn mn : Nat} {ad : Nat → Nat} {E : Nat → va_E} {g : Wd} {pt nt mt : Nat → Int32} {dp rf by_ co tx lx : Int32} {fl : Nat → Option FV} (hN : 9 ≤ N) (hRg : Rg N ad E g f) (hS : SC G ad E g root pn pt nn nt mn mt dp rf by_ co tx lx fl) (x so1 di1 le1 : Int32) : Ci G l y_SF_ask b_SF_ask 6 (some .int) ({ frames := 14, cells := 0, slots := 0, locals := 381 }) sz f [.ref root, .int x, .int so1, .int di1, .int le1] (fun v f' => (noF fl x ∨ ¬ isQ so1 di1 → v = -1 ∧ SCR G N ad E g root f' pn pt nn nt mn mt dp rf by_ co tx lx fl) ∧ ∀ (k : Nat) (vv : FV), k < 10 → x = nI k → fl k = some vv → isQ so1 di1 → v = (vv.2.2.2.1 (nn, nt, mn, mt, dp, rf, by_, so1, di1, le1) (0, 0, -2)).1 ∧ SCR G N ad E g root f' pn pt nn nt mn mt dp rf by_ ((vv.2.2.2.1 (nn, nt, mn, mt, dp, rf, by_, so1, di1, le1) (0, 0, -2)).2.1) ((vv.2.2.2.1 (nn, nt, mn, mt, dp, rf, by_, so1, di1, le1) (0, 0, -2)).2.2.1) ((vv.2.2.2.1 (nn, nt, mn, mt, dp, rf, by_, so1, di1, le1) (0, 0, -2)).2.2.2) fl) := by
  refine ct_of (by decide) (Nat.le_of_ble_eq_true rfl) ?_
  intro p e s m below meth c ls H locs hEn
  obtain ⟨hc, hr, hlk, hin, hE, hw, hsz, hl⟩ := hEn
  have hx := hc.1
  have hb := hc.2.1
  have hl : lv_has ls 6 [(0, .ref root), (1, .int x), (2, .int so1), (3, .int di1), (4, .int le1)] := hl
  have hS0 := hS
  obtain ⟨hroot, hPB, hNB, hMB, ⟨so, di, le, hQ⟩, ⟨fr, en, pi, li, nu, rj, sh, mf, me, nf, ne, hRd⟩, fa, hF8, hFL⟩ := hS
  obtain ⟨A0, eA0⟩ : ∃ z, z = ad 0 := ⟨_, rfl⟩
  obtain ⟨A1, eA1⟩ : ∃ z, z = ad 1 := ⟨_, rfl⟩
  obtain ⟨A2, eA2⟩ : ∃ z, z = ad 2 := ⟨_, rfl⟩
  obtain ⟨A3, eA3⟩ : ∃ z, z = ad 3 := ⟨_, rfl⟩
  obtain ⟨A4, eA4⟩ : ∃ z, z = ad 4 := ⟨_, rfl⟩
  obtain ⟨A5, eA5⟩ : ∃ z, z = ad 5 := ⟨_, rfl⟩
  obtain ⟨A6, eA6⟩ : ∃ z, z = ad 6 := ⟨_, rfl⟩
  obtain ⟨A7, eA7⟩ : ∃ z, z = ad 7 := ⟨_, rfl⟩
  obtain ⟨A8, eA8⟩ : ∃ z, z = ad 8 := ⟨_, rfl⟩
  have hgf := hRg.2.2.1
  have h0 : f root = some (.inr (0, [.ref A0, .ref A2, .ref A7, .ref A8])) := by rw [eA0, eA2, eA7, eA8]; exact hgf _ _ hroot
  have h2 : f A2 = some (.inr (2, [.ref A3, .ref A5, .int dp, .int rf, .int by_, .int so, .int di, .int le, .int co, .int tx, .int lx])) := by rw [eA2, eA3, eA5]; exact hRg.get 2 (by omega) hQ
  have h8 : f A8 = some (.inl (G.2.1 2, 10, .inr (.inr (.inr (.inr fa))))) := by rw [eA8]; exact hRg.get 8 (by omega) hF8
  have hsP : sg G f A0 A1 90 pn pt := by rw [eA0, eA1]; exact hPB.sg hRg (by omega) (by omega)
  have hsN : sg G f A3 A4 40 nn nt := by rw [eA3, eA4]; exact hNB.sg hRg (by omega) (by omega)
  have hsM : sg G f A5 A6 12 mn mt := by rw [eA5, eA6]; exact hMB.sg hRg (by omega) (by omega)
  refine lv_aload_n hx hb d_SF_ask_0 rfl (lv_at hl 0 rfl) ?_
  refine lv_iload_n hx hb d_SF_ask_1 rfl (lv_at hl 1 rfl) ?_
  refine m_callq hw (m_runV (As := [.int x]) (rest := []) hc hE hw (c_SF_filterAt G l H.size f hN hRg hS0 x) h0 rfl cw_SF_82 se_SF_filterAt rfl hl.1 rfl (Nat.le_of_ble_eq_true rfl) d_SF_ask_2 ⟨rfl, rfl, by decide, by decide⟩ ⟨by first | decide | (dsimp only; omega), by first | decide | (dsimp only; omega)⟩) (fun r3 g2 H locs p1 hw => ?_)
  obtain ⟨rfl, hfla⟩ := p1
  rcases hfla with ⟨hnoa, hva⟩ | ⟨ka, hka, hxka, ⟨hva, hnna⟩ | ⟨Fa, vva, hva, hsma, hrha⟩⟩
  · subst hva
    have hnfa : noF fl x := noF_out hnoa
    refine lv_astoreN (lv' := [(5, .null), (0, .ref root), (1, .int x), (2, .int so1), (3, .int di1), (4, .int le1)]) hx hb d_SF_ask_5 hl (by decide) rfl (fun ls hl => ?_)
    refine lv_aloadN hx hb d_SF_ask_7 (lv_at hl 0 rfl) ?_
    refine lv_ifnullN (tgt := 20) hx hb d_SF_ask_9 (by decide) ?_
    refine lv_iconst (v := (-1)) hx hb d_SF_ask_20 (by decide) ?_
    exact m_iret hc hr hlk hw ⟨by first | decide | (dsimp only; omega), by first | decide | (dsimp only; omega)⟩ d_SF_ask_21 ⟨fun _ => ⟨rfl, ⟨E, g, hRg, gle.rf, fun _ _ => rfl, hS0⟩⟩, fun k vv h1 h2 h3 => absurd ((hnfa k h1 h2).symm.trans h3) (by intro z; cases z)⟩
  · subst hva
    have hnfa : noF fl x := noF_in hka hxka hnna
    refine lv_astoreN (lv' := [(5, .null), (0, .ref root), (1, .int x), (2, .int so1), (3, .int di1), (4, .int le1)]) hx hb d_SF_ask_5 hl (by decide) rfl (fun ls hl => ?_)
    refine lv_aloadN hx hb d_SF_ask_7 (lv_at hl 0 rfl) ?_
    refine lv_ifnullN (tgt := 20) hx hb d_SF_ask_9 (by decide) ?_
    refine lv_iconst (v := (-1)) hx hb d_SF_ask_20 (by decide) ?_
    exact m_iret hc hr hlk hw ⟨by first | decide | (dsimp only; omega), by first | decide | (dsimp only; omega)⟩ d_SF_ask_21 ⟨fun _ => ⟨rfl, ⟨E, g, hRg, gle.rf, fun _ _ => rfl, hS0⟩⟩, fun k vv h1 h2 h3 => absurd ((hnfa k h1 h2).symm.trans h3) (by intro z; cases z)⟩
  · subst hva
    have hrhab := hrha
    obtain ⟨l0a, h0a, hl0a, hh0a, hl1a, hl2a, hh1a, hh2a, hrfa⟩ := hrha
    obtain ⟨cFa, rFa, fcFa, hcFa⟩ := RF.head hrfa
    obtain ⟨kFa, ekFa⟩ : ∃ z, z = vva.1 := ⟨_, rfl⟩
    obtain ⟨lFa, elFa⟩ : ∃ z, z = vva.2.1 := ⟨_, rfl⟩
    obtain ⟨gFa, egFa⟩ : ∃ z, z = vva.2.2.1 := ⟨_, rfl⟩
    have hcella : f Fa = some (.inr (cFa, .int kFa :: .int lFa :: .int gFa :: rFa)) := by rw [ekFa, elFa, egFa]; exact hgf _ _ hcFa
    refine lv_astore (lv' := [(5, .ref Fa), (0, .ref root), (1, .int x), (2, .int so1), (3, .int di1), (4, .int le1)]) hx hb d_SF_ask_5 hl (by decide) rfl (fun ls hl => ?_)
    refine lv_aload hx hb d_SF_ask_7 (lv_at hl 0 rfl) ?_
    refine lv_ifnull hx hb d_SF_ask_9 ?_
    refine lv_iload_n hx hb d_SF_ask_12 rfl (lv_at hl 3 rfl) ?_
    refine lv_iload_n hx hb d_SF_ask_13 rfl (lv_at hl 4 rfl) ?_
    refine m_calli hw (m_runS (As := [.int so1, .int di1]) (rest := []) hc hE hw (c_SF_isQuestion G l H.size f so1 di1) cw_SF_132 ss_SF_isQuestion rfl hl.1 rfl (Nat.le_of_ble_eq_true rfl) d_SF_ask_14 ⟨rfl, rfl, by decide, by decide⟩ ⟨by first | decide | (dsimp only; omega), by first | decide | (dsimp only; omega)⟩) (fun r6 g5 H locs p4 hw => ?_)
    obtain ⟨rfl, p4⟩ := p4
    refine lv_if_ne (tgt := 22) hx hb d_SF_ask_17 (by decide) (fun c7 => ?_) (fun c7 => ?_)
    · have hnq : g A2 = none := by rw [eA2]; exact hRg.2.2.2 2 (by omega)
      have hiq : isQ so1 di1 := bI_n.mp (fun z => c7 (p4.trans z))
      refine lv_aload_n hx hb d_SF_ask_22 rfl (lv_at hl 1 rfl) ?_
      refine m_get hc hE hw h0 kc_SF l_SF_21_SF rfl d_SF_ask_23 ?_
      refine lv_iload_n hx hb d_SF_ask_26 rfl (lv_at hl 3 rfl) ?_
      refine lv_iload_n hx hb d_SF_ask_27 rfl (lv_at hl 4 rfl) ?_
      refine lv_iload hx hb d_SF_ask_28 (lv_at hl 5 rfl) ?_
      refine m_callv hw (m_runV (As := [.int so1, .int di1, .int le1]) (rest := []) hc hE hw (c_Question_begin G l H.size f h2 so1 di1 le1) h2 rfl cw_SF_136 se_Question_begin rfl hl.1 rfl (Nat.le_of_ble_eq_true rfl) d_SF_ask_30 ⟨rfl, rfl, by decide, by decide⟩ ⟨by first | decide | (dsimp only; omega), by first | decide | (dsimp only; omega)⟩) (fun g9 H locs p8 hw => ?_)
      have hsN2 := sg_up (e := .inr (2, [.ref A3, .ref A5, .int dp, .int rf, .int by_, .int so1, .int di1, .int le1, .int 0, .int 0, .int (-2)])) hsN h2 wd_x
      have hsM2 := sg_up (e := .inr (2, [.ref A3, .ref A5, .int dp, .int rf, .int by_, .int so1, .int di1, .int le1, .int 0, .int 0, .int (-2)])) hsM h2 wd_x
      rw [← p8] at hsN2 hsM2
      have hgf2 : gle g g9 := by rw [p8]; exact hgf.upf hnq
      have h10 : g9 root = some (.inr (0, [.ref A0, .ref A2, .ref A7, .ref A8])) := by rw [p8, va_up_ne _ _ (wne h0 h2 (wd_oo (by decide)))]; exact h0
      have h11 : g9 A2 = some (.inr (2, [.ref A3, .ref A5, .int dp, .int rf, .int by_, .int so1, .int di1, .int le1, .int 0, .int 0, .int (-2)])) := by rw [p8, va_up_self]
      refine lv_aload hx hb d_SF_ask_33 (lv_at hl 0 rfl) ?_
      refine lv_aload_n hx hb d_SF_ask_35 rfl (lv_at hl 1 rfl) ?_
      refine m_get hc hE hw h10 kc_SF l_SF_21_SF rfl d_SF_ask_36 ?_
      refine m_calli hw (run_ans (rest := []) (fun d' _ => ans_all G l d') hc hE hw hrfa ⟨h11, hsN2, hsM2⟩ hgf2 hnq al_SF_140 hl.1 (Nat.le_of_ble_eq_true rfl) d_SF_ask_39 ⟨by dsimp only; omega, by dsimp only; omega⟩ ⟨by decide, by decide⟩) (fun r14 g13 H locs p12 hw => ?_)
      obtain ⟨p12, hfa9⟩ := p12
      have hfx : g13 = va_up f (ad 2) (some (.inr (2, [.ref (ad 3), .ref (ad 5), .int dp, .int rf, .int by_, .int so1, .int di1, .int le1, .int ((vva.2.2.2.1 (nn, nt, mn, mt, dp, rf, by_, so1, di1, le1) (0, 0, -2)).2.1), .int ((vva.2.2.2.1 (nn, nt, mn, mt, dp, rf, by_, so1, di1, le1) (0, 0, -2)).2.2.1), .int ((vva.2.2.2.1 (nn, nt, mn, mt, dp, rf, by_, so1, di1, le1) (0, 0, -2)).2.2.2)]))) := by rw [hfa9, p8, up_uu, eA2, eA3, eA5]
      exact m_iret hc hr hlk hw ⟨by first | decide | (dsimp only; omega), by first | decide | (dsimp only; omega)⟩ d_SF_ask_42 ⟨fun z => z.elim (fun z => absurd ((z ka hka hxka).symm.trans hsma) (by intro z; cases z)) (fun z => absurd hiq z), fun k vv h1 h2 h3 h4 => by have ek : ka = k := (nI_eq (by omega) (by omega)).mp (hxka.symm.trans h2); subst ek; have ev2 : vva = vv := Option.some.inj (hsma.symm.trans h3); subst ev2; exact ⟨p12, _, g, by rw [hfx]; exact hRg.up 2 (by omega) _, gle.rf, fun k hk => va_up_ne _ _ (by omega), hS0.q dp rf by_ so1 di1 le1 _ _ _⟩⟩
    · refine lv_iconst (v := (-1)) hx hb d_SF_ask_20 (by decide) ?_
      exact m_iret hc hr hlk hw ⟨by first | decide | (dsimp only; omega), by first | decide | (dsimp only; omega)⟩ d_SF_ask_21 ⟨fun _ => ⟨rfl, ⟨E, g, hRg, gle.rf, fun _ _ => rfl, hS0⟩⟩, fun k vv h1 h2 h3 h4 => absurd h4 (bI_0.mp (p4.symm.trans c7))⟩
end
