theorem zt_1 {w : Cond} (h : w ∈ tables_1_1) : w ∈ lw_tbl := List.mem_append_right _ (show w ∈ tables_1 from (by unfold tables_1; exact List.mem_append_left _ h))
theorem zt_2 {w : Cond} (h : w ∈ tables_1_2) : w ∈ lw_tbl := List.mem_append_right _ (show w ∈ tables_1 from (by unfold tables_1; exact List.mem_append_right _ (List.mem_append_left _ h)))
theorem zt_3 {w : Cond} (h : w ∈ tables_1_3) : w ∈ lw_tbl := List.mem_append_right _ (show w ∈ tables_1 from (by unfold tables_1; exact List.mem_append_right _ (List.mem_append_right _ (List.mem_append_left _ h))))
theorem zt_4 {w : Cond} (h : w ∈ tables_1_4) : w ∈ lw_tbl := List.mem_append_right _ (show w ∈ tables_1 from (by unfold tables_1; exact List.mem_append_right _ (List.mem_append_right _ (List.mem_append_right _ (List.mem_append_left _ h)))))
theorem zt_5 {w : Cond} (h : w ∈ tables_1_5) : w ∈ lw_tbl := List.mem_append_right _ (show w ∈ tables_1 from (by unfold tables_1; exact List.mem_append_right _ (List.mem_append_right _ (List.mem_append_right _ (List.mem_append_right _ (List.mem_append_left _ h))))))
theorem zt_6 {w : Cond} (h : w ∈ tables_1_6) : w ∈ lw_tbl := List.mem_append_right _ (show w ∈ tables_1 from (by unfold tables_1; exact List.mem_append_right _ (List.mem_append_right _ (List.mem_append_right _ (List.mem_append_right _ (List.mem_append_right _ (List.mem_append_left _ h)))))))
theorem zt_7 {w : Cond} (h : w ∈ tables_1_7) : w ∈ lw_tbl := List.mem_append_right _ (show w ∈ tables_1 from (by unfold tables_1; exact List.mem_append_right _ (List.mem_append_right _ (List.mem_append_right _ (List.mem_append_right _ (List.mem_append_right _ (List.mem_append_right _ (List.mem_append_left _ h))))))))
theorem zt_8 {w : Cond} (h : w ∈ tables_1_8) : w ∈ lw_tbl := List.mem_append_right _ (show w ∈ tables_1 from (by unfold tables_1; exact List.mem_append_right _ (List.mem_append_right _ (List.mem_append_right _ (List.mem_append_right _ (List.mem_append_right _ (List.mem_append_right _ (List.mem_append_right _ (List.mem_append_left _ h)))))))))
theorem zt_9 {w : Cond} (h : w ∈ tables_1_9) : w ∈ lw_tbl := List.mem_append_right _ (show w ∈ tables_1 from (by unfold tables_1; exact List.mem_append_right _ (List.mem_append_right _ (List.mem_append_right _ (List.mem_append_right _ (List.mem_append_right _ (List.mem_append_right _ (List.mem_append_right _ (List.mem_append_right _ (h))))))))))
def zR : Nat → String
  | 0 => "TroupeSums"
  | 1 => "TroupeSums$Tokens"
  | 2 => "TroupeSums$IntRow"
  | 3 => "TroupeSums$Reader"
  | 4 => "TroupeSums$Troupe"
  | 5 => "TroupeSums$Group"
  | 6 => "TroupeSums$Sorts"
  | 7 => "TroupeSums$Sums"
  | 8 => "TroupeSums$LongRow"
  | 9 => "TroupeSums$Units"
  | 10 => "TroupeSums$Calculator"
  | 11 => "TroupeSumsModel"
  | 12 => "TroupeSumsLaw"
  | 13 => "java/lang/Math"
  | 14 => "java/lang/Integer"
  | 15 => "java/lang/String"
  | 16 => "java/lang/StringLatin1"
  | 17 => "jdk/internal/util/Preconditions"
  | 18 => "java/lang/StringUTF16"
  | _ => "java/lang/Object"
def zT : Nat → u_T
  | 0 => fun k => match k with
    | 0 => ("TroupeSums", "tape", "LTroupeSums$Tokens;", true)
    | 1 => ("TroupeSums", "reader", "LTroupeSums$Reader;", true)
    | 2 => ("TroupeSums", "now", "LTroupeSums$Troupe;", false)
    | _ => ("TroupeSums", "spare", "LTroupeSums$Troupe;", false)
  | 1 => fun k => match k with
    | 0 => ("TroupeSums$Tokens", "bytes", "LTroupeSums$IntRow;", true)
    | 1 => ("TroupeSums$Tokens", "length", "I", false)
    | 2 => ("TroupeSums$Tokens", "start", "I", false)
    | 3 => ("TroupeSums$Tokens", "next", "I", false)
    | 4 => ("TroupeSums$Tokens", "kind", "I", false)
    | _ => ("TroupeSums$Tokens", "value", "I", false)
  | 2 => fun k => match k with
    | _ => ("TroupeSums$IntRow", "cells", "[I", true)
  | 3 => fun k => match k with
    | 0 => ("TroupeSums$Reader", "tokens", "LTroupeSums$Tokens;", true)
    | 1 => ("TroupeSums$Reader", "unitCount", "I", false)
    | 2 => ("TroupeSums$Reader", "faultKind", "I", false)
    | _ => ("TroupeSums$Reader", "faultPlace", "I", false)
  | 4 => fun k => match k with
    | 0 => ("TroupeSums$Troupe", "group", "LTroupeSums$Group;", true)
    | 1 => ("TroupeSums$Troupe", "sorts", "LTroupeSums$Sorts;", true)
    | 2 => ("TroupeSums$Troupe", "sums", "LTroupeSums$Sums;", true)
    | 3 => ("TroupeSums$Troupe", "units", "LTroupeSums$Units;", true)
    | 4 => ("TroupeSums$Troupe", "calculator", "LTroupeSums$Calculator;", true)
    | 5 => ("TroupeSums$Troupe", "nameWords", "LTroupeSums$IntRow;", true)
    | 6 => ("TroupeSums$Troupe", "nameCount", "I", false)
    | 7 => ("TroupeSums$Troupe", "keptCount", "I", false)
    | _ => ("TroupeSums$Troupe", "keptNext", "I", false)
  | 5 => fun k => match k with
    | 0 => ("TroupeSums$Group", "moveCodes", "LTroupeSums$IntRow;", true)
    | 1 => ("TroupeSums$Group", "codes", "LTroupeSums$IntRow;", true)
    | 2 => ("TroupeSums$Group", "table", "LTroupeSums$IntRow;", true)
    | 3 => ("TroupeSums$Group", "undoers", "LTroupeSums$IntRow;", true)
    | 4 => ("TroupeSums$Group", "found", "LTroupeSums$IntRow;", true)
    | 5 => ("TroupeSums$Group", "places", "I", false)
    | 6 => ("TroupeSums$Group", "moveCount", "I", false)
    | _ => ("TroupeSums$Group", "size", "I", false)
  | 6 => fun k => match k with
    | 0 => ("TroupeSums$Sorts", "group", "LTroupeSums$Group;", true)
    | 1 => ("TroupeSums$Sorts", "subgroups", "LTroupeSums$IntRow;", true)
    | 2 => ("TroupeSums$Sorts", "sortsOfSubgroups", "LTroupeSums$IntRow;", true)
    | 3 => ("TroupeSums$Sorts", "moebiusRow", "LTroupeSums$IntRow;", true)
    | 4 => ("TroupeSums$Sorts", "firsts", "LTroupeSums$IntRow;", true)
    | 5 => ("TroupeSums$Sorts", "table", "LTroupeSums$IntRow;", true)
    | 6 => ("TroupeSums$Sorts", "subgroupCount", "I", false)
    | _ => ("TroupeSums$Sorts", "count", "I", false)
  | 7 => fun k => match k with
    | 0 => ("TroupeSums$Sums", "sorts", "LTroupeSums$Sorts;", true)
    | 1 => ("TroupeSums$Sums", "numbers", "LTroupeSums$LongRow;", true)
    | _ => ("TroupeSums$Sums", "marks", "LTroupeSums$LongRow;", true)
  | 8 => fun k => match k with
    | _ => ("TroupeSums$LongRow", "cells", "[J", true)
  | 9 => fun k => match k with
    | 0 => ("TroupeSums$Units", "sorts", "LTroupeSums$Sorts;", true)
    | 1 => ("TroupeSums$Units", "basis", "LTroupeSums$IntRow;", true)
    | 2 => ("TroupeSums$Units", "joined", "LTroupeSums$IntRow;", true)
    | 3 => ("TroupeSums$Units", "dimension", "I", false)
    | _ => ("TroupeSums$Units", "known", "Z", false)
  | 10 => fun k => match k with
    | 0 => ("TroupeSums$Calculator", "sums", "LTroupeSums$Sums;", true)
    | 1 => ("TroupeSums$Calculator", "signs", "LTroupeSums$IntRow;", true)
    | 2 => ("TroupeSums$Calculator", "signCount", "I", false)
    | 3 => ("TroupeSums$Calculator", "valueCount", "I", false)
    | 4 => ("TroupeSums$Calculator", "around", "I", false)
    | 5 => ("TroupeSums$Calculator", "brackets", "I", false)
    | _ => ("TroupeSums$Calculator", "tooLarge", "Z", false)
  | 11 => fun k => match k with
    | 0 => ("TroupeSumsModel", "tape", "[I", true)
    | 1 => ("TroupeSumsModel", "taped", "I", false)
    | 2 => ("TroupeSumsModel", "bytes", "I", false)
    | 3 => ("TroupeSumsModel", "at", "I", false)
    | 4 => ("TroupeSumsModel", "place", "I", false)
    | 5 => ("TroupeSumsModel", "sort", "I", false)
    | 6 => ("TroupeSumsModel", "value", "I", false)
    | 7 => ("TroupeSumsModel", "fault", "I", false)
    | 8 => ("TroupeSumsModel", "faultPlace", "I", false)
    | 9 => ("TroupeSumsModel", "toldFault", "I", false)
    | 10 => ("TroupeSumsModel", "toldPlace", "I", false)
    | 11 => ("TroupeSumsModel", "word", "J", false)
    | 12 => ("TroupeSumsModel", "rPlaces", "I", false)
    | 13 => ("TroupeSumsModel", "rMoves", "I", false)
    | 14 => ("TroupeSumsModel", "rNames", "I", false)
    | 15 => ("TroupeSumsModel", "rMove", "[I", true)
    | 16 => ("TroupeSumsModel", "places", "I", false)
    | 17 => ("TroupeSumsModel", "moves", "I", false)
    | 18 => ("TroupeSumsModel", "names", "I", false)
    | 19 => ("TroupeSumsModel", "move", "[I", true)
    | 20 => ("TroupeSumsModel", "order", "I", false)
    | 21 => ("TroupeSumsModel", "member", "[I", true)
    | 22 => ("TroupeSumsModel", "coming", "[I", true)
    | 23 => ("TroupeSumsModel", "product", "[I", true)
    | 24 => ("TroupeSumsModel", "undoes", "[I", true)
    | 25 => ("TroupeSumsModel", "subMany", "I", false)
    | 26 => ("TroupeSumsModel", "sortMany", "I", false)
    | 27 => ("TroupeSumsModel", "sub", "[I", true)
    | 28 => ("TroupeSumsModel", "subSort", "[I", true)
    | 29 => ("TroupeSumsModel", "first", "[I", true)
    | 30 => ("TroupeSumsModel", "subsOf", "[I", true)
    | 31 => ("TroupeSumsModel", "mark", "[I", true)
    | 32 => ("TroupeSumsModel", "cosetOf", "[I", true)
    | 33 => ("TroupeSumsModel", "pile", "[J", true)
    | 34 => ("TroupeSumsModel", "mulA", "[J", true)
    | 35 => ("TroupeSumsModel", "mulB", "[J", true)
    | 36 => ("TroupeSumsModel", "its", "[J", true)
    | 37 => ("TroupeSumsModel", "itsMarks", "[J", true)
    | 38 => ("TroupeSumsModel", "high", "I", false)
    | 39 => ("TroupeSumsModel", "isBig", "Z", false)
    | 40 => ("TroupeSumsModel", "waits", "[I", true)
    | 41 => ("TroupeSumsModel", "waiting", "I", false)
    | 42 => ("TroupeSumsModel", "deep", "I", false)
    | 43 => ("TroupeSumsModel", "units", "I", false)
    | 44 => ("TroupeSumsModel", "rName", "[J", true)
    | 45 => ("TroupeSumsModel", "rSum", "[J", true)
    | 46 => ("TroupeSumsModel", "name", "[J", true)
    | 47 => ("TroupeSumsModel", "sum", "[J", true)
    | 48 => ("TroupeSumsModel", "worked", "[J", true)
    | 49 => ("TroupeSumsModel", "moebius", "[I", true)
    | 50 => ("TroupeSumsModel", "above", "[J", true)
    | 51 => ("TroupeSumsModel", "below", "[J", true)
    | 52 => ("TroupeSumsModel", "sumAbove", "J", false)
    | 53 => ("TroupeSumsModel", "sumBelow", "J", false)
    | 54 => ("TroupeSumsModel", "madeOf", "[I", true)
    | 55 => ("TroupeSumsModel", "madeMany", "I", false)
    | 56 => ("TroupeSumsModel", "unitSet", "[I", true)
    | 57 => ("TroupeSumsModel", "unitMany", "I", false)
    | 58 => ("TroupeSumsModel", "areUnits", "Z", false)
    | 59 => ("TroupeSumsModel", "past", "[J", true)
    | 60 => ("TroupeSumsModel", "acts", "I", false)
    | 61 => ("TroupeSumsModel", "partOf", "[I", true)
    | 62 => ("TroupeSumsModel", "many", "[I", true)
    | 63 => ("TroupeSumsModel", "partMany", "I", false)
    | 64 => ("TroupeSumsModel", "numberAt", "I", false)
    | _ => ("TroupeSumsModel", "numberMany", "I", false)
  | _ => fun _ => ("", "", "", false)
def zN : Nat → Nat
  | 0 => 4
  | 1 => 6
  | 2 => 1
  | 3 => 4
  | 4 => 9
  | 5 => 8
  | 6 => 8
  | 7 => 3
  | 8 => 1
  | 9 => 5
  | 10 => 7
  | 11 => 66
  | _ => 0
def zY : Nat → Nat → FieldType
  | 0 => fun k => match k with
    | 0 => .object "TroupeSums$Tokens"
    | 1 => .object "TroupeSums$Reader"
    | 2 => .object "TroupeSums$Troupe"
    | _ => .object "TroupeSums$Troupe"
  | 1 => fun k => match k with
    | 0 => .object "TroupeSums$IntRow"
    | 1 => .int
    | 2 => .int
    | 3 => .int
    | 4 => .int
    | _ => .int
  | 2 => fun k => match k with
    | _ => .array .int
  | 3 => fun k => match k with
    | 0 => .object "TroupeSums$Tokens"
    | 1 => .int
    | 2 => .int
    | _ => .int
  | 4 => fun k => match k with
    | 0 => .object "TroupeSums$Group"
    | 1 => .object "TroupeSums$Sorts"
    | 2 => .object "TroupeSums$Sums"
    | 3 => .object "TroupeSums$Units"
    | 4 => .object "TroupeSums$Calculator"
    | 5 => .object "TroupeSums$IntRow"
    | 6 => .int
    | 7 => .int
    | _ => .int
  | 5 => fun k => match k with
    | 0 => .object "TroupeSums$IntRow"
    | 1 => .object "TroupeSums$IntRow"
    | 2 => .object "TroupeSums$IntRow"
    | 3 => .object "TroupeSums$IntRow"
    | 4 => .object "TroupeSums$IntRow"
    | 5 => .int
    | 6 => .int
    | _ => .int
  | 6 => fun k => match k with
    | 0 => .object "TroupeSums$Group"
    | 1 => .object "TroupeSums$IntRow"
    | 2 => .object "TroupeSums$IntRow"
    | 3 => .object "TroupeSums$IntRow"
    | 4 => .object "TroupeSums$IntRow"
    | 5 => .object "TroupeSums$IntRow"
    | 6 => .int
    | _ => .int
  | 7 => fun k => match k with
    | 0 => .object "TroupeSums$Sorts"
    | 1 => .object "TroupeSums$LongRow"
    | _ => .object "TroupeSums$LongRow"
  | 8 => fun k => match k with
    | _ => .array .long
  | 9 => fun k => match k with
    | 0 => .object "TroupeSums$Sorts"
    | 1 => .object "TroupeSums$IntRow"
    | 2 => .object "TroupeSums$IntRow"
    | 3 => .int
    | _ => .boolean
  | 10 => fun k => match k with
    | 0 => .object "TroupeSums$Sums"
    | 1 => .object "TroupeSums$IntRow"
    | 2 => .int
    | 3 => .int
    | 4 => .int
    | 5 => .int
    | _ => .boolean
  | 11 => fun k => match k with
    | 0 => .array .int
    | 1 => .int
    | 2 => .int
    | 3 => .int
    | 4 => .int
    | 5 => .int
    | 6 => .int
    | 7 => .int
    | 8 => .int
    | 9 => .int
    | 10 => .int
    | 11 => .long
    | 12 => .int
    | 13 => .int
    | 14 => .int
    | 15 => .array .int
    | 16 => .int
    | 17 => .int
    | 18 => .int
    | 19 => .array .int
    | 20 => .int
    | 21 => .array .int
    | 22 => .array .int
    | 23 => .array .int
    | 24 => .array .int
    | 25 => .int
    | 26 => .int
    | 27 => .array .int
    | 28 => .array .int
    | 29 => .array .int
    | 30 => .array .int
    | 31 => .array .int
    | 32 => .array .int
    | 33 => .array .long
    | 34 => .array .long
    | 35 => .array .long
    | 36 => .array .long
    | 37 => .array .long
    | 38 => .int
    | 39 => .boolean
    | 40 => .array .int
    | 41 => .int
    | 42 => .int
    | 43 => .int
    | 44 => .array .long
    | 45 => .array .long
    | 46 => .array .long
    | 47 => .array .long
    | 48 => .array .long
    | 49 => .array .int
    | 50 => .array .long
    | 51 => .array .long
    | 52 => .long
    | 53 => .long
    | 54 => .array .int
    | 55 => .int
    | 56 => .array .int
    | 57 => .int
    | 58 => .boolean
    | 59 => .array .long
    | 60 => .int
    | 61 => .array .int
    | 62 => .array .int
    | 63 => .int
    | 64 => .int
    | _ => .int
  | _ => fun _ => .int
def zG : Nat → Nat → Nat
  | 0 => fun k => match k with
    | 0 => 2
    | 1 => 2
    | 2 => 2
    | _ => 2
  | 1 => fun k => match k with
    | 0 => 2
    | 1 => 0
    | 2 => 0
    | 3 => 0
    | 4 => 0
    | _ => 0
  | 2 => fun k => match k with
    | _ => 2
  | 3 => fun k => match k with
    | 0 => 2
    | 1 => 0
    | 2 => 0
    | _ => 0
  | 4 => fun k => match k with
    | 0 => 2
    | 1 => 2
    | 2 => 2
    | 3 => 2
    | 4 => 2
    | 5 => 2
    | 6 => 0
    | 7 => 0
    | _ => 0
  | 5 => fun k => match k with
    | 0 => 2
    | 1 => 2
    | 2 => 2
    | 3 => 2
    | 4 => 2
    | 5 => 0
    | 6 => 0
    | _ => 0
  | 6 => fun k => match k with
    | 0 => 2
    | 1 => 2
    | 2 => 2
    | 3 => 2
    | 4 => 2
    | 5 => 2
    | 6 => 0
    | _ => 0
  | 7 => fun k => match k with
    | 0 => 2
    | 1 => 2
    | _ => 2
  | 8 => fun k => match k with
    | _ => 2
  | 9 => fun k => match k with
    | 0 => 2
    | 1 => 2
    | 2 => 2
    | 3 => 0
    | _ => 0
  | 10 => fun k => match k with
    | 0 => 2
    | 1 => 2
    | 2 => 0
    | 3 => 0
    | 4 => 0
    | 5 => 0
    | _ => 0
  | 11 => fun k => match k with
    | 0 => 2
    | 1 => 0
    | 2 => 0
    | 3 => 0
    | 4 => 0
    | 5 => 0
    | 6 => 0
    | 7 => 0
    | 8 => 0
    | 9 => 0
    | 10 => 0
    | 11 => 1
    | 12 => 0
    | 13 => 0
    | 14 => 0
    | 15 => 2
    | 16 => 0
    | 17 => 0
    | 18 => 0
    | 19 => 2
    | 20 => 0
    | 21 => 2
    | 22 => 2
    | 23 => 2
    | 24 => 2
    | 25 => 0
    | 26 => 0
    | 27 => 2
    | 28 => 2
    | 29 => 2
    | 30 => 2
    | 31 => 2
    | 32 => 2
    | 33 => 2
    | 34 => 2
    | 35 => 2
    | 36 => 2
    | 37 => 2
    | 38 => 0
    | 39 => 0
    | 40 => 2
    | 41 => 0
    | 42 => 0
    | 43 => 0
    | 44 => 2
    | 45 => 2
    | 46 => 2
    | 47 => 2
    | 48 => 2
    | 49 => 2
    | 50 => 2
    | 51 => 2
    | 52 => 1
    | 53 => 1
    | 54 => 2
    | 55 => 0
    | 56 => 2
    | 57 => 0
    | 58 => 0
    | 59 => 2
    | 60 => 0
    | 61 => 2
    | 62 => 2
    | 63 => 0
    | 64 => 0
    | _ => 0
  | _ => fun _ => 0
def zcl : List vw_C := [(zR 0, zT 0, zN 0), (zR 1, zT 1, zN 1), (zR 2, zT 2, zN 2), (zR 3, zT 3, zN 3), (zR 4, zT 4, zN 4), (zR 5, zT 5, zN 5), (zR 6, zT 6, zN 6), (zR 7, zT 7, zN 7), (zR 8, zT 8, zN 8), (zR 9, zT 9, zN 9), (zR 10, zT 10, zN 10), (zR 11, zT 11, zN 11)]
theorem z_cl : ∀ ci, ci < 12 → zcl[ci]? = some (zR ci, zT ci, zN ci) := by
  intro ci h
  match ci, h with
  | 0, _ => rfl
  | 1, _ => rfl
  | 2, _ => rfl
  | 3, _ => rfl
  | 4, _ => rfl
  | 5, _ => rfl
  | 6, _ => rfl
  | 7, _ => rfl
  | 8, _ => rfl
  | 9, _ => rfl
  | 10, _ => rfl
  | 11, _ => rfl
  | n + 12, h => exact absurd h (by omega)
def z_okw (w : Cond) : Bool := (w.onTables && w.keeps) || (match w with | .arrayClass _ => true | _ => false)
def z_tbl : List Cond := lw_tbl.filter z_okw
def z_isN (w : Cond) : Bool := match w with | .fieldLinkNest .. => true | .methodLinkNest .. => true | _ => false
def z_nst : List Cond := lw_tbl.filter z_isN
theorem z_memN {w : Cond} (h : w ∈ lw_tbl) (k : z_isN w = true) : w ∈ z_nst := List.mem_filter.mpr ⟨h, k⟩
theorem z_mem {w : Cond} (h : w ∈ lw_tbl) (k : z_okw w = true) : w ∈ z_tbl := List.mem_filter.mpr ⟨h, k⟩
theorem z_okw_of {w : Cond} (h : z_okw w = true) : (w.onTables && w.keeps) = true ∨ ∃ ty, w = .arrayClass ty := by
  unfold z_okw at h
  rcases Bool.or_eq_true_iff.mp h with h | h
  · exact Or.inl h
  · right
    split at h
    · exact ⟨_, rfl⟩
    · cases h
theorem z_good : GoodIn z_tbl z_tbl := fun w hw => ⟨hw, z_okw_of (List.mem_filter.mp hw).2⟩
theorem z_in_0 : ∀ w ∈ u_ws (zR 0) (zT 0) (zN 0), w ∈ z_tbl := by
  intro w hw
  obtain ⟨k, hk, rfl⟩ := List.mem_map.mp hw
  have hk : k < 4 := List.mem_range.mp hk
  match k, hk with
  | 0, _ => exact z_mem (zt_2 (List.mem_of_getElem? (i := 194) (by decide +kernel))) rfl
  | 1, _ => exact z_mem (zt_2 (List.mem_of_getElem? (i := 196) (by decide +kernel))) rfl
  | 2, _ => exact z_mem (zt_2 (List.mem_of_getElem? (i := 198) (by decide +kernel))) rfl
  | 3, _ => exact z_mem (zt_2 (List.mem_of_getElem? (i := 200) (by decide +kernel))) rfl
  | n + 4, h => exact absurd h (by omega)
theorem z_in_1 : ∀ w ∈ u_ws (zR 1) (zT 1) (zN 1), w ∈ z_tbl := by
  intro w hw
  obtain ⟨k, hk, rfl⟩ := List.mem_map.mp hw
  have hk : k < 6 := List.mem_range.mp hk
  match k, hk with
  | 0, _ => exact z_mem (zt_1 (List.mem_of_getElem? (i := 59) (by decide +kernel))) rfl
  | 1, _ => exact z_mem (zt_1 (List.mem_of_getElem? (i := 61) (by decide +kernel))) rfl
  | 2, _ => exact z_mem (zt_1 (List.mem_of_getElem? (i := 63) (by decide +kernel))) rfl
  | 3, _ => exact z_mem (zt_1 (List.mem_of_getElem? (i := 65) (by decide +kernel))) rfl
  | 4, _ => exact z_mem (zt_1 (List.mem_of_getElem? (i := 67) (by decide +kernel))) rfl
  | 5, _ => exact z_mem (zt_1 (List.mem_of_getElem? (i := 69) (by decide +kernel))) rfl
  | n + 6, h => exact absurd h (by omega)
theorem z_in_2 : ∀ w ∈ u_ws (zR 2) (zT 2) (zN 2), w ∈ z_tbl := by
  intro w hw
  obtain ⟨k, hk, rfl⟩ := List.mem_map.mp hw
  have hk : k < 1 := List.mem_range.mp hk
  match k, hk with
  | 0, _ => exact z_mem (zt_1 (List.mem_of_getElem? (i := 43) (by decide +kernel))) rfl
  | n + 1, h => exact absurd h (by omega)
theorem z_in_3 : ∀ w ∈ u_ws (zR 3) (zT 3) (zN 3), w ∈ z_tbl := by
  intro w hw
  obtain ⟨k, hk, rfl⟩ := List.mem_map.mp hw
  have hk : k < 4 := List.mem_range.mp hk
  match k, hk with
  | 0, _ => exact z_mem (zt_1 (List.mem_of_getElem? (i := 84) (by decide +kernel))) rfl
  | 1, _ => exact z_mem (zt_1 (List.mem_of_getElem? (i := 86) (by decide +kernel))) rfl
  | 2, _ => exact z_mem (zt_1 (List.mem_of_getElem? (i := 88) (by decide +kernel))) rfl
  | 3, _ => exact z_mem (zt_1 (List.mem_of_getElem? (i := 90) (by decide +kernel))) rfl
  | n + 4, h => exact absurd h (by omega)
theorem z_in_4 : ∀ w ∈ u_ws (zR 4) (zT 4) (zN 4), w ∈ z_tbl := by
  intro w hw
  obtain ⟨k, hk, rfl⟩ := List.mem_map.mp hw
  have hk : k < 9 := List.mem_range.mp hk
  match k, hk with
  | 0, _ => exact z_mem (zt_2 (List.mem_of_getElem? (i := 51) (by decide +kernel))) rfl
  | 1, _ => exact z_mem (zt_2 (List.mem_of_getElem? (i := 53) (by decide +kernel))) rfl
  | 2, _ => exact z_mem (zt_2 (List.mem_of_getElem? (i := 55) (by decide +kernel))) rfl
  | 3, _ => exact z_mem (zt_2 (List.mem_of_getElem? (i := 57) (by decide +kernel))) rfl
  | 4, _ => exact z_mem (zt_2 (List.mem_of_getElem? (i := 59) (by decide +kernel))) rfl
  | 5, _ => exact z_mem (zt_2 (List.mem_of_getElem? (i := 61) (by decide +kernel))) rfl
  | 6, _ => exact z_mem (zt_2 (List.mem_of_getElem? (i := 63) (by decide +kernel))) rfl
  | 7, _ => exact z_mem (zt_2 (List.mem_of_getElem? (i := 65) (by decide +kernel))) rfl
  | 8, _ => exact z_mem (zt_2 (List.mem_of_getElem? (i := 67) (by decide +kernel))) rfl
  | n + 9, h => exact absurd h (by omega)
theorem z_in_5 : ∀ w ∈ u_ws (zR 5) (zT 5) (zN 5), w ∈ z_tbl := by
  intro w hw
  obtain ⟨k, hk, rfl⟩ := List.mem_map.mp hw
  have hk : k < 8 := List.mem_range.mp hk
  match k, hk with
  | 0, _ => exact z_mem (zt_1 (List.mem_of_getElem? (i := 123) (by decide +kernel))) rfl
  | 1, _ => exact z_mem (zt_1 (List.mem_of_getElem? (i := 125) (by decide +kernel))) rfl
  | 2, _ => exact z_mem (zt_1 (List.mem_of_getElem? (i := 127) (by decide +kernel))) rfl
  | 3, _ => exact z_mem (zt_1 (List.mem_of_getElem? (i := 129) (by decide +kernel))) rfl
  | 4, _ => exact z_mem (zt_1 (List.mem_of_getElem? (i := 131) (by decide +kernel))) rfl
  | 5, _ => exact z_mem (zt_1 (List.mem_of_getElem? (i := 133) (by decide +kernel))) rfl
  | 6, _ => exact z_mem (zt_1 (List.mem_of_getElem? (i := 135) (by decide +kernel))) rfl
  | 7, _ => exact z_mem (zt_1 (List.mem_of_getElem? (i := 137) (by decide +kernel))) rfl
  | n + 8, h => exact absurd h (by omega)
theorem z_in_6 : ∀ w ∈ u_ws (zR 6) (zT 6) (zN 6), w ∈ z_tbl := by
  intro w hw
  obtain ⟨k, hk, rfl⟩ := List.mem_map.mp hw
  have hk : k < 8 := List.mem_range.mp hk
  match k, hk with
  | 0, _ => exact z_mem (zt_1 (List.mem_of_getElem? (i := 166) (by decide +kernel))) rfl
  | 1, _ => exact z_mem (zt_1 (List.mem_of_getElem? (i := 168) (by decide +kernel))) rfl
  | 2, _ => exact z_mem (zt_1 (List.mem_of_getElem? (i := 170) (by decide +kernel))) rfl
  | 3, _ => exact z_mem (zt_1 (List.mem_of_getElem? (i := 172) (by decide +kernel))) rfl
  | 4, _ => exact z_mem (zt_1 (List.mem_of_getElem? (i := 174) (by decide +kernel))) rfl
  | 5, _ => exact z_mem (zt_1 (List.mem_of_getElem? (i := 176) (by decide +kernel))) rfl
  | 6, _ => exact z_mem (zt_1 (List.mem_of_getElem? (i := 178) (by decide +kernel))) rfl
  | 7, _ => exact z_mem (zt_1 (List.mem_of_getElem? (i := 180) (by decide +kernel))) rfl
  | n + 8, h => exact absurd h (by omega)
theorem z_in_7 : ∀ w ∈ u_ws (zR 7) (zT 7) (zN 7), w ∈ z_tbl := by
  intro w hw
  obtain ⟨k, hk, rfl⟩ := List.mem_map.mp hw
  have hk : k < 3 := List.mem_range.mp hk
  match k, hk with
  | 0, _ => exact z_mem (zt_1 (List.mem_of_getElem? (i := 206) (by decide +kernel))) rfl
  | 1, _ => exact z_mem (zt_1 (List.mem_of_getElem? (i := 208) (by decide +kernel))) rfl
  | 2, _ => exact z_mem (zt_1 (List.mem_of_getElem? (i := 210) (by decide +kernel))) rfl
  | n + 3, h => exact absurd h (by omega)
theorem z_in_8 : ∀ w ∈ u_ws (zR 8) (zT 8) (zN 8), w ∈ z_tbl := by
  intro w hw
  obtain ⟨k, hk, rfl⟩ := List.mem_map.mp hw
  have hk : k < 1 := List.mem_range.mp hk
  match k, hk with
  | 0, _ => exact z_mem (zt_1 (List.mem_of_getElem? (i := 197) (by decide +kernel))) rfl
  | n + 1, h => exact absurd h (by omega)
theorem z_in_9 : ∀ w ∈ u_ws (zR 9) (zT 9) (zN 9), w ∈ z_tbl := by
  intro w hw
  obtain ⟨k, hk, rfl⟩ := List.mem_map.mp hw
  have hk : k < 5 := List.mem_range.mp hk
  match k, hk with
  | 0, _ => exact z_mem (zt_1 (List.mem_of_getElem? (i := 226) (by decide +kernel))) rfl
  | 1, _ => exact z_mem (zt_1 (List.mem_of_getElem? (i := 228) (by decide +kernel))) rfl
  | 2, _ => exact z_mem (zt_1 (List.mem_of_getElem? (i := 230) (by decide +kernel))) rfl
  | 3, _ => exact z_mem (zt_1 (List.mem_of_getElem? (i := 232) (by decide +kernel))) rfl
  | 4, _ => exact z_mem (zt_1 (List.mem_of_getElem? (i := 234) (by decide +kernel))) rfl
  | n + 5, h => exact absurd h (by omega)
theorem z_in_10 : ∀ w ∈ u_ws (zR 10) (zT 10) (zN 10), w ∈ z_tbl := by
  intro w hw
  obtain ⟨k, hk, rfl⟩ := List.mem_map.mp hw
  have hk : k < 7 := List.mem_range.mp hk
  match k, hk with
  | 0, _ => exact z_mem (zt_2 (List.mem_of_getElem? (i := 15) (by decide +kernel))) rfl
  | 1, _ => exact z_mem (zt_2 (List.mem_of_getElem? (i := 17) (by decide +kernel))) rfl
  | 2, _ => exact z_mem (zt_2 (List.mem_of_getElem? (i := 19) (by decide +kernel))) rfl
  | 3, _ => exact z_mem (zt_2 (List.mem_of_getElem? (i := 21) (by decide +kernel))) rfl
  | 4, _ => exact z_mem (zt_2 (List.mem_of_getElem? (i := 23) (by decide +kernel))) rfl
  | 5, _ => exact z_mem (zt_2 (List.mem_of_getElem? (i := 25) (by decide +kernel))) rfl
  | 6, _ => exact z_mem (zt_2 (List.mem_of_getElem? (i := 27) (by decide +kernel))) rfl
  | n + 7, h => exact absurd h (by omega)
theorem z_in_11 : ∀ w ∈ u_ws (zR 11) (zT 11) (zN 11), w ∈ z_tbl := by
  intro w hw
  obtain ⟨k, hk, rfl⟩ := List.mem_map.mp hw
  have hk : k < 66 := List.mem_range.mp hk
  match k, hk with
  | 0, _ => exact z_mem (zt_6 (List.mem_of_getElem? (i := 147) (by decide +kernel))) rfl
  | 1, _ => exact z_mem (zt_6 (List.mem_of_getElem? (i := 149) (by decide +kernel))) rfl
  | 2, _ => exact z_mem (zt_6 (List.mem_of_getElem? (i := 151) (by decide +kernel))) rfl
  | 3, _ => exact z_mem (zt_6 (List.mem_of_getElem? (i := 153) (by decide +kernel))) rfl
  | 4, _ => exact z_mem (zt_6 (List.mem_of_getElem? (i := 155) (by decide +kernel))) rfl
  | 5, _ => exact z_mem (zt_6 (List.mem_of_getElem? (i := 157) (by decide +kernel))) rfl
  | 6, _ => exact z_mem (zt_6 (List.mem_of_getElem? (i := 159) (by decide +kernel))) rfl
  | 7, _ => exact z_mem (zt_6 (List.mem_of_getElem? (i := 161) (by decide +kernel))) rfl
  | 8, _ => exact z_mem (zt_6 (List.mem_of_getElem? (i := 163) (by decide +kernel))) rfl
  | 9, _ => exact z_mem (zt_6 (List.mem_of_getElem? (i := 165) (by decide +kernel))) rfl
  | 10, _ => exact z_mem (zt_6 (List.mem_of_getElem? (i := 167) (by decide +kernel))) rfl
  | 11, _ => exact z_mem (zt_6 (List.mem_of_getElem? (i := 169) (by decide +kernel))) rfl
  | 12, _ => exact z_mem (zt_6 (List.mem_of_getElem? (i := 171) (by decide +kernel))) rfl
  | 13, _ => exact z_mem (zt_6 (List.mem_of_getElem? (i := 173) (by decide +kernel))) rfl
  | 14, _ => exact z_mem (zt_6 (List.mem_of_getElem? (i := 175) (by decide +kernel))) rfl
  | 15, _ => exact z_mem (zt_6 (List.mem_of_getElem? (i := 177) (by decide +kernel))) rfl
  | 16, _ => exact z_mem (zt_6 (List.mem_of_getElem? (i := 179) (by decide +kernel))) rfl
  | 17, _ => exact z_mem (zt_6 (List.mem_of_getElem? (i := 181) (by decide +kernel))) rfl
  | 18, _ => exact z_mem (zt_6 (List.mem_of_getElem? (i := 183) (by decide +kernel))) rfl
  | 19, _ => exact z_mem (zt_6 (List.mem_of_getElem? (i := 185) (by decide +kernel))) rfl
  | 20, _ => exact z_mem (zt_6 (List.mem_of_getElem? (i := 187) (by decide +kernel))) rfl
  | 21, _ => exact z_mem (zt_6 (List.mem_of_getElem? (i := 189) (by decide +kernel))) rfl
  | 22, _ => exact z_mem (zt_6 (List.mem_of_getElem? (i := 191) (by decide +kernel))) rfl
  | 23, _ => exact z_mem (zt_6 (List.mem_of_getElem? (i := 193) (by decide +kernel))) rfl
  | 24, _ => exact z_mem (zt_6 (List.mem_of_getElem? (i := 195) (by decide +kernel))) rfl
  | 25, _ => exact z_mem (zt_6 (List.mem_of_getElem? (i := 197) (by decide +kernel))) rfl
  | 26, _ => exact z_mem (zt_6 (List.mem_of_getElem? (i := 199) (by decide +kernel))) rfl
  | 27, _ => exact z_mem (zt_6 (List.mem_of_getElem? (i := 201) (by decide +kernel))) rfl
  | 28, _ => exact z_mem (zt_6 (List.mem_of_getElem? (i := 203) (by decide +kernel))) rfl
  | 29, _ => exact z_mem (zt_6 (List.mem_of_getElem? (i := 205) (by decide +kernel))) rfl
  | 30, _ => exact z_mem (zt_6 (List.mem_of_getElem? (i := 207) (by decide +kernel))) rfl
  | 31, _ => exact z_mem (zt_6 (List.mem_of_getElem? (i := 209) (by decide +kernel))) rfl
  | 32, _ => exact z_mem (zt_6 (List.mem_of_getElem? (i := 211) (by decide +kernel))) rfl
  | 33, _ => exact z_mem (zt_6 (List.mem_of_getElem? (i := 213) (by decide +kernel))) rfl
  | 34, _ => exact z_mem (zt_6 (List.mem_of_getElem? (i := 215) (by decide +kernel))) rfl
  | 35, _ => exact z_mem (zt_6 (List.mem_of_getElem? (i := 217) (by decide +kernel))) rfl
  | 36, _ => exact z_mem (zt_6 (List.mem_of_getElem? (i := 219) (by decide +kernel))) rfl
  | 37, _ => exact z_mem (zt_6 (List.mem_of_getElem? (i := 221) (by decide +kernel))) rfl
  | 38, _ => exact z_mem (zt_6 (List.mem_of_getElem? (i := 223) (by decide +kernel))) rfl
  | 39, _ => exact z_mem (zt_6 (List.mem_of_getElem? (i := 225) (by decide +kernel))) rfl
  | 40, _ => exact z_mem (zt_6 (List.mem_of_getElem? (i := 227) (by decide +kernel))) rfl
  | 41, _ => exact z_mem (zt_6 (List.mem_of_getElem? (i := 229) (by decide +kernel))) rfl
  | 42, _ => exact z_mem (zt_6 (List.mem_of_getElem? (i := 231) (by decide +kernel))) rfl
  | 43, _ => exact z_mem (zt_6 (List.mem_of_getElem? (i := 233) (by decide +kernel))) rfl
  | 44, _ => exact z_mem (zt_6 (List.mem_of_getElem? (i := 235) (by decide +kernel))) rfl
  | 45, _ => exact z_mem (zt_6 (List.mem_of_getElem? (i := 237) (by decide +kernel))) rfl
  | 46, _ => exact z_mem (zt_6 (List.mem_of_getElem? (i := 239) (by decide +kernel))) rfl
  | 47, _ => exact z_mem (zt_7 (List.mem_of_getElem? (i := 1) (by decide +kernel))) rfl
  | 48, _ => exact z_mem (zt_7 (List.mem_of_getElem? (i := 3) (by decide +kernel))) rfl
  | 49, _ => exact z_mem (zt_7 (List.mem_of_getElem? (i := 5) (by decide +kernel))) rfl
  | 50, _ => exact z_mem (zt_7 (List.mem_of_getElem? (i := 7) (by decide +kernel))) rfl
  | 51, _ => exact z_mem (zt_7 (List.mem_of_getElem? (i := 9) (by decide +kernel))) rfl
  | 52, _ => exact z_mem (zt_7 (List.mem_of_getElem? (i := 11) (by decide +kernel))) rfl
  | 53, _ => exact z_mem (zt_7 (List.mem_of_getElem? (i := 13) (by decide +kernel))) rfl
  | 54, _ => exact z_mem (zt_7 (List.mem_of_getElem? (i := 15) (by decide +kernel))) rfl
  | 55, _ => exact z_mem (zt_7 (List.mem_of_getElem? (i := 17) (by decide +kernel))) rfl
  | 56, _ => exact z_mem (zt_7 (List.mem_of_getElem? (i := 19) (by decide +kernel))) rfl
  | 57, _ => exact z_mem (zt_7 (List.mem_of_getElem? (i := 21) (by decide +kernel))) rfl
  | 58, _ => exact z_mem (zt_7 (List.mem_of_getElem? (i := 23) (by decide +kernel))) rfl
  | 59, _ => exact z_mem (zt_7 (List.mem_of_getElem? (i := 25) (by decide +kernel))) rfl
  | 60, _ => exact z_mem (zt_7 (List.mem_of_getElem? (i := 27) (by decide +kernel))) rfl
  | 61, _ => exact z_mem (zt_7 (List.mem_of_getElem? (i := 29) (by decide +kernel))) rfl
  | 62, _ => exact z_mem (zt_7 (List.mem_of_getElem? (i := 31) (by decide +kernel))) rfl
  | 63, _ => exact z_mem (zt_7 (List.mem_of_getElem? (i := 33) (by decide +kernel))) rfl
  | 64, _ => exact z_mem (zt_7 (List.mem_of_getElem? (i := 35) (by decide +kernel))) rfl
  | 65, _ => exact z_mem (zt_7 (List.mem_of_getElem? (i := 37) (by decide +kernel))) rfl
  | n + 66, h => exact absurd h (by omega)
theorem z_in : ∀ ci, ci < 12 → ∀ w ∈ u_ws (zR ci) (zT ci) (zN ci), w ∈ z_tbl := by
  intro ci h
  match ci, h with
  | 0, _ => exact z_in_0
  | 1, _ => exact z_in_1
  | 2, _ => exact z_in_2
  | 3, _ => exact z_in_3
  | 4, _ => exact z_in_4
  | 5, _ => exact z_in_5
  | 6, _ => exact z_in_6
  | 7, _ => exact z_in_7
  | 8, _ => exact z_in_8
  | 9, _ => exact z_in_9
  | 10, _ => exact z_in_10
  | 11, _ => exact z_in_11
  | n + 12, h => exact absurd h (by omega)
theorem z_ty : ∀ ci, ci < 12 → ∀ k, k < zN ci → parseFieldDescriptor (zT ci k).2.2.1 = some (zY ci k) := by decide +kernel
theorem z_nm : ∀ ci, ci < 12 → ∀ a, a < zN ci → ∀ b, b < zN ci → a ≠ b → (zT ci a).2.1 ≠ (zT ci b).2.1 := by decide +kernel
theorem z_own : ∀ ci, ci < 12 → ∀ k, k < zN ci → (zT ci k).1 = zR ci := by decide +kernel
theorem z_ia : ∀ ci, ci < 12 → Cond.instantiable (zR ci) (zN ci) ∈ z_tbl := by
  intro ci h
  match ci, h with
  | 0, _ => exact z_mem (zt_1 (List.mem_of_getElem? (i := 20) (by decide +kernel))) rfl
  | 1, _ => exact z_mem (zt_1 (List.mem_of_getElem? (i := 28) (by decide +kernel))) rfl
  | 2, _ => exact z_mem (zt_1 (List.mem_of_getElem? (i := 34) (by decide +kernel))) rfl
  | 3, _ => exact z_mem (zt_1 (List.mem_of_getElem? (i := 73) (by decide +kernel))) rfl
  | 4, _ => exact z_mem (zt_1 (List.mem_of_getElem? (i := 94) (by decide +kernel))) rfl
  | 5, _ => exact z_mem (zt_1 (List.mem_of_getElem? (i := 100) (by decide +kernel))) rfl
  | 6, _ => exact z_mem (zt_1 (List.mem_of_getElem? (i := 141) (by decide +kernel))) rfl
  | 7, _ => exact z_mem (zt_1 (List.mem_of_getElem? (i := 184) (by decide +kernel))) rfl
  | 8, _ => exact z_mem (zt_1 (List.mem_of_getElem? (i := 190) (by decide +kernel))) rfl
  | 9, _ => exact z_mem (zt_1 (List.mem_of_getElem? (i := 214) (by decide +kernel))) rfl
  | 10, _ => exact z_mem (zt_1 (List.mem_of_getElem? (i := 238) (by decide +kernel))) rfl
  | 11, _ => exact z_mem (zt_6 (List.mem_of_getElem? (i := 6) (by decide +kernel))) rfl
  | n + 12, h => exact absurd h (by omega)
theorem z_ini : ∀ ci, ci < 19 → Cond.initialized (zR ci) ∈ z_tbl := by
  intro ci h
  match ci, h with
  | 0, _ => exact z_mem (zt_1 (List.mem_of_getElem? (i := 1) (by decide +kernel))) rfl
  | 1, _ => exact z_mem (zt_1 (List.mem_of_getElem? (i := 2) (by decide +kernel))) rfl
  | 2, _ => exact z_mem (zt_1 (List.mem_of_getElem? (i := 3) (by decide +kernel))) rfl
  | 3, _ => exact z_mem (zt_1 (List.mem_of_getElem? (i := 5) (by decide +kernel))) rfl
  | 4, _ => exact z_mem (zt_1 (List.mem_of_getElem? (i := 6) (by decide +kernel))) rfl
  | 5, _ => exact z_mem (zt_1 (List.mem_of_getElem? (i := 7) (by decide +kernel))) rfl
  | 6, _ => exact z_mem (zt_1 (List.mem_of_getElem? (i := 8) (by decide +kernel))) rfl
  | 7, _ => exact z_mem (zt_1 (List.mem_of_getElem? (i := 9) (by decide +kernel))) rfl
  | 8, _ => exact z_mem (zt_1 (List.mem_of_getElem? (i := 10) (by decide +kernel))) rfl
  | 9, _ => exact z_mem (zt_1 (List.mem_of_getElem? (i := 11) (by decide +kernel))) rfl
  | 10, _ => exact z_mem (zt_1 (List.mem_of_getElem? (i := 12) (by decide +kernel))) rfl
  | 11, _ => exact z_mem (zt_1 (List.mem_of_getElem? (i := 14) (by decide +kernel))) rfl
  | 12, _ => exact z_mem (zt_1 (List.mem_of_getElem? (i := 0) (by decide +kernel))) rfl
  | 13, _ => exact z_mem (zt_1 (List.mem_of_getElem? (i := 4) (by decide +kernel))) rfl
  | 14, _ => exact z_mem (zt_1 (List.mem_of_getElem? (i := 13) (by decide +kernel))) rfl
  | 15, _ => exact z_mem (zt_1 (List.mem_of_getElem? (i := 15) (by decide +kernel))) rfl
  | 16, _ => exact z_mem (zt_1 (List.mem_of_getElem? (i := 16) (by decide +kernel))) rfl
  | 17, _ => exact z_mem (zt_1 (List.mem_of_getElem? (i := 17) (by decide +kernel))) rfl
  | 18, _ => exact z_mem (zt_1 (List.mem_of_getElem? (i := 18) (by decide +kernel))) rfl
  | n + 19, h => exact absurd h (by omega)
theorem z_ac : Cond.arrayClass .int ∈ z_tbl ∧ Cond.arrayClass .long ∈ z_tbl := ⟨z_mem (zt_1 (List.mem_of_getElem? (i := 46) (by decide +kernel))) rfl, z_mem (zt_1 (List.mem_of_getElem? (i := 200) (by decide +kernel))) rfl⟩
def zFL (own ix ci k : Nat) : Prop := ci < 12 ∧ k < zN ci ∧ (Cond.fieldLink (zR own) ix (zR ci) (zT ci k).2.1 (zT ci k).2.2.1 ∈ z_tbl ∨ ∃ host, Cond.fieldLinkNest (zR own) ix (zR ci) (zT ci k).2.1 (zT ci k).2.2.1 host ∈ z_nst)
theorem f_T_10 : zFL 0 10 0 0 := ⟨by decide, by decide +kernel, Or.inl (z_mem (zt_2 (List.mem_of_getElem? (i := 190) (by decide +kernel))) rfl)⟩
theorem f_T_21 : zFL 0 21 0 1 := ⟨by decide, by decide +kernel, Or.inl (z_mem (zt_2 (List.mem_of_getElem? (i := 191) (by decide +kernel))) rfl)⟩
theorem f_T_28 : zFL 0 28 0 2 := ⟨by decide, by decide +kernel, Or.inl (z_mem (zt_2 (List.mem_of_getElem? (i := 192) (by decide +kernel))) rfl)⟩
theorem f_T_32 : zFL 0 32 0 3 := ⟨by decide, by decide +kernel, Or.inl (z_mem (zt_2 (List.mem_of_getElem? (i := 193) (by decide +kernel))) rfl)⟩
theorem f_T_42 : zFL 0 42 1 1 := ⟨by decide, by decide +kernel, Or.inr ⟨"TroupeSums", z_memN (zt_1 (List.mem_of_getElem? (i := 49) (by decide +kernel))) rfl⟩⟩
theorem f_T_61 : zFL 0 61 4 0 := ⟨by decide, by decide +kernel, Or.inr ⟨"TroupeSums", z_memN (zt_2 (List.mem_of_getElem? (i := 33) (by decide +kernel))) rfl⟩⟩
theorem f_T_65 : zFL 0 65 5 7 := ⟨by decide, by decide +kernel, Or.inr ⟨"TroupeSums", z_memN (zt_1 (List.mem_of_getElem? (i := 121) (by decide +kernel))) rfl⟩⟩
theorem f_T_70 : zFL 0 70 3 2 := ⟨by decide, by decide +kernel, Or.inr ⟨"TroupeSums", z_memN (zt_1 (List.mem_of_getElem? (i := 81) (by decide +kernel))) rfl⟩⟩
theorem f_T_73 : zFL 0 73 3 3 := ⟨by decide, by decide +kernel, Or.inr ⟨"TroupeSums", z_memN (zt_1 (List.mem_of_getElem? (i := 83) (by decide +kernel))) rfl⟩⟩
theorem f_T_76 : zFL 0 76 5 5 := ⟨by decide, by decide +kernel, Or.inr ⟨"TroupeSums", z_memN (zt_1 (List.mem_of_getElem? (i := 114) (by decide +kernel))) rfl⟩⟩
theorem f_T_79 : zFL 0 79 5 6 := ⟨by decide, by decide +kernel, Or.inr ⟨"TroupeSums", z_memN (zt_1 (List.mem_of_getElem? (i := 117) (by decide +kernel))) rfl⟩⟩
theorem f_T_82 : zFL 0 82 4 6 := ⟨by decide, by decide +kernel, Or.inr ⟨"TroupeSums", z_memN (zt_2 (List.mem_of_getElem? (i := 46) (by decide +kernel))) rfl⟩⟩
theorem f_T_85 : zFL 0 85 4 1 := ⟨by decide, by decide +kernel, Or.inr ⟨"TroupeSums", z_memN (zt_2 (List.mem_of_getElem? (i := 36) (by decide +kernel))) rfl⟩⟩
theorem f_T_89 : zFL 0 89 6 6 := ⟨by decide, by decide +kernel, Or.inr ⟨"TroupeSums", z_memN (zt_1 (List.mem_of_getElem? (i := 159) (by decide +kernel))) rfl⟩⟩
theorem f_T_94 : zFL 0 94 6 7 := ⟨by decide, by decide +kernel, Or.inr ⟨"TroupeSums", z_memN (zt_1 (List.mem_of_getElem? (i := 162) (by decide +kernel))) rfl⟩⟩
theorem f_T_105 : zFL 0 105 4 7 := ⟨by decide, by decide +kernel, Or.inr ⟨"TroupeSums", z_memN (zt_2 (List.mem_of_getElem? (i := 49) (by decide +kernel))) rfl⟩⟩
theorem f_T_114 : zFL 0 114 5 1 := ⟨by decide, by decide +kernel, Or.inr ⟨"TroupeSums", z_memN (zt_1 (List.mem_of_getElem? (i := 109) (by decide +kernel))) rfl⟩⟩
theorem f_T_146 : zFL 0 146 6 4 := ⟨by decide, by decide +kernel, Or.inr ⟨"TroupeSums", z_memN (zt_1 (List.mem_of_getElem? (i := 155) (by decide +kernel))) rfl⟩⟩
theorem f_T_169 : zFL 0 169 4 2 := ⟨by decide, by decide +kernel, Or.inr ⟨"TroupeSums", z_memN (zt_2 (List.mem_of_getElem? (i := 39) (by decide +kernel))) rfl⟩⟩
theorem f_T_227 : zFL 0 227 4 3 := ⟨by decide, by decide +kernel, Or.inr ⟨"TroupeSums", z_memN (zt_2 (List.mem_of_getElem? (i := 41) (by decide +kernel))) rfl⟩⟩
theorem f_T_262 : zFL 0 262 7 2 := ⟨by decide, by decide +kernel, Or.inr ⟨"TroupeSums", z_memN (zt_1 (List.mem_of_getElem? (i := 205) (by decide +kernel))) rfl⟩⟩
theorem f_Tokens_14 : zFL 1 14 1 0 := ⟨by decide, by decide +kernel, Or.inl (z_mem (zt_1 (List.mem_of_getElem? (i := 47) (by decide +kernel))) rfl)⟩
theorem f_Tokens_20 : zFL 1 20 1 1 := ⟨by decide, by decide +kernel, Or.inl (z_mem (zt_1 (List.mem_of_getElem? (i := 50) (by decide +kernel))) rfl)⟩
theorem f_Tokens_28 : zFL 1 28 1 3 := ⟨by decide, by decide +kernel, Or.inl (z_mem (zt_1 (List.mem_of_getElem? (i := 54) (by decide +kernel))) rfl)⟩
theorem f_Tokens_38 : zFL 1 38 1 2 := ⟨by decide, by decide +kernel, Or.inl (z_mem (zt_1 (List.mem_of_getElem? (i := 53) (by decide +kernel))) rfl)⟩
theorem f_Tokens_41 : zFL 1 41 1 5 := ⟨by decide, by decide +kernel, Or.inl (z_mem (zt_1 (List.mem_of_getElem? (i := 57) (by decide +kernel))) rfl)⟩
theorem f_Tokens_44 : zFL 1 44 1 4 := ⟨by decide, by decide +kernel, Or.inl (z_mem (zt_1 (List.mem_of_getElem? (i := 56) (by decide +kernel))) rfl)⟩
theorem f_IntRow_13 : zFL 2 13 2 0 := ⟨by decide, by decide +kernel, Or.inl (z_mem (zt_1 (List.mem_of_getElem? (i := 42) (by decide +kernel))) rfl)⟩
theorem f_Reader_9 : zFL 3 9 3 3 := ⟨by decide, by decide +kernel, Or.inl (z_mem (zt_1 (List.mem_of_getElem? (i := 82) (by decide +kernel))) rfl)⟩
theorem f_Reader_15 : zFL 3 15 3 0 := ⟨by decide, by decide +kernel, Or.inl (z_mem (zt_1 (List.mem_of_getElem? (i := 78) (by decide +kernel))) rfl)⟩
theorem f_Reader_19 : zFL 3 19 3 2 := ⟨by decide, by decide +kernel, Or.inl (z_mem (zt_1 (List.mem_of_getElem? (i := 80) (by decide +kernel))) rfl)⟩
theorem f_Reader_27 : zFL 3 27 1 4 := ⟨by decide, by decide +kernel, Or.inr ⟨"TroupeSums", z_memN (zt_1 (List.mem_of_getElem? (i := 55) (by decide +kernel))) rfl⟩⟩
theorem f_Reader_30 : zFL 3 30 1 2 := ⟨by decide, by decide +kernel, Or.inr ⟨"TroupeSums", z_memN (zt_1 (List.mem_of_getElem? (i := 52) (by decide +kernel))) rfl⟩⟩
theorem f_Reader_57 : zFL 3 57 1 5 := ⟨by decide, by decide +kernel, Or.inr ⟨"TroupeSums", z_memN (zt_1 (List.mem_of_getElem? (i := 58) (by decide +kernel))) rfl⟩⟩
theorem f_Reader_71 : zFL 3 71 4 0 := ⟨by decide, by decide +kernel, Or.inr ⟨"TroupeSums", z_memN (zt_2 (List.mem_of_getElem? (i := 34) (by decide +kernel))) rfl⟩⟩
theorem f_Reader_75 : zFL 3 75 5 6 := ⟨by decide, by decide +kernel, Or.inr ⟨"TroupeSums", z_memN (zt_1 (List.mem_of_getElem? (i := 118) (by decide +kernel))) rfl⟩⟩
theorem f_Reader_80 : zFL 3 80 5 5 := ⟨by decide, by decide +kernel, Or.inr ⟨"TroupeSums", z_memN (zt_1 (List.mem_of_getElem? (i := 115) (by decide +kernel))) rfl⟩⟩
theorem f_Reader_98 : zFL 3 98 4 6 := ⟨by decide, by decide +kernel, Or.inr ⟨"TroupeSums", z_memN (zt_2 (List.mem_of_getElem? (i := 47) (by decide +kernel))) rfl⟩⟩
theorem f_Reader_111 : zFL 3 111 4 4 := ⟨by decide, by decide +kernel, Or.inr ⟨"TroupeSums", z_memN (zt_2 (List.mem_of_getElem? (i := 43) (by decide +kernel))) rfl⟩⟩
theorem f_Reader_115 : zFL 3 115 10 6 := ⟨by decide, by decide +kernel, Or.inr ⟨"TroupeSums", z_memN (zt_2 (List.mem_of_getElem? (i := 14) (by decide +kernel))) rfl⟩⟩
theorem f_Reader_126 : zFL 3 126 3 1 := ⟨by decide, by decide +kernel, Or.inl (z_mem (zt_1 (List.mem_of_getElem? (i := 79) (by decide +kernel))) rfl)⟩
theorem f_Reader_142 : zFL 3 142 10 5 := ⟨by decide, by decide +kernel, Or.inr ⟨"TroupeSums", z_memN (zt_2 (List.mem_of_getElem? (i := 12) (by decide +kernel))) rfl⟩⟩
theorem f_Reader_149 : zFL 3 149 10 4 := ⟨by decide, by decide +kernel, Or.inr ⟨"TroupeSums", z_memN (zt_2 (List.mem_of_getElem? (i := 10) (by decide +kernel))) rfl⟩⟩
theorem f_Reader_158 : zFL 3 158 4 1 := ⟨by decide, by decide +kernel, Or.inr ⟨"TroupeSums", z_memN (zt_2 (List.mem_of_getElem? (i := 37) (by decide +kernel))) rfl⟩⟩
theorem f_Reader_162 : zFL 3 162 6 7 := ⟨by decide, by decide +kernel, Or.inr ⟨"TroupeSums", z_memN (zt_1 (List.mem_of_getElem? (i := 165) (by decide +kernel))) rfl⟩⟩
theorem f_Reader_191 : zFL 3 191 1 1 := ⟨by decide, by decide +kernel, Or.inr ⟨"TroupeSums", z_memN (zt_1 (List.mem_of_getElem? (i := 51) (by decide +kernel))) rfl⟩⟩
theorem f_Reader_194 : zFL 3 194 1 0 := ⟨by decide, by decide +kernel, Or.inr ⟨"TroupeSums", z_memN (zt_1 (List.mem_of_getElem? (i := 48) (by decide +kernel))) rfl⟩⟩
theorem f_Troupe_12 : zFL 4 12 4 0 := ⟨by decide, by decide +kernel, Or.inl (z_mem (zt_2 (List.mem_of_getElem? (i := 32) (by decide +kernel))) rfl)⟩
theorem f_Troupe_23 : zFL 4 23 4 1 := ⟨by decide, by decide +kernel, Or.inl (z_mem (zt_2 (List.mem_of_getElem? (i := 35) (by decide +kernel))) rfl)⟩
theorem f_Troupe_32 : zFL 4 32 4 2 := ⟨by decide, by decide +kernel, Or.inl (z_mem (zt_2 (List.mem_of_getElem? (i := 38) (by decide +kernel))) rfl)⟩
theorem f_Troupe_39 : zFL 4 39 4 3 := ⟨by decide, by decide +kernel, Or.inl (z_mem (zt_2 (List.mem_of_getElem? (i := 40) (by decide +kernel))) rfl)⟩
theorem f_Troupe_57 : zFL 4 57 4 5 := ⟨by decide, by decide +kernel, Or.inl (z_mem (zt_2 (List.mem_of_getElem? (i := 44) (by decide +kernel))) rfl)⟩
theorem f_Troupe_64 : zFL 4 64 4 6 := ⟨by decide, by decide +kernel, Or.inl (z_mem (zt_2 (List.mem_of_getElem? (i := 45) (by decide +kernel))) rfl)⟩
theorem f_Troupe_68 : zFL 4 68 4 7 := ⟨by decide, by decide +kernel, Or.inl (z_mem (zt_2 (List.mem_of_getElem? (i := 48) (by decide +kernel))) rfl)⟩
theorem f_Troupe_71 : zFL 4 71 4 8 := ⟨by decide, by decide +kernel, Or.inl (z_mem (zt_2 (List.mem_of_getElem? (i := 50) (by decide +kernel))) rfl)⟩
theorem f_Group_14 : zFL 5 14 5 0 := ⟨by decide, by decide +kernel, Or.inl (z_mem (zt_1 (List.mem_of_getElem? (i := 107) (by decide +kernel))) rfl)⟩
theorem f_Group_20 : zFL 5 20 5 1 := ⟨by decide, by decide +kernel, Or.inl (z_mem (zt_1 (List.mem_of_getElem? (i := 108) (by decide +kernel))) rfl)⟩
theorem f_Group_23 : zFL 5 23 5 2 := ⟨by decide, by decide +kernel, Or.inl (z_mem (zt_1 (List.mem_of_getElem? (i := 110) (by decide +kernel))) rfl)⟩
theorem f_Group_26 : zFL 5 26 5 3 := ⟨by decide, by decide +kernel, Or.inl (z_mem (zt_1 (List.mem_of_getElem? (i := 111) (by decide +kernel))) rfl)⟩
theorem f_Group_29 : zFL 5 29 5 4 := ⟨by decide, by decide +kernel, Or.inl (z_mem (zt_1 (List.mem_of_getElem? (i := 112) (by decide +kernel))) rfl)⟩
theorem f_Group_32 : zFL 5 32 5 5 := ⟨by decide, by decide +kernel, Or.inl (z_mem (zt_1 (List.mem_of_getElem? (i := 113) (by decide +kernel))) rfl)⟩
theorem f_Group_36 : zFL 5 36 5 6 := ⟨by decide, by decide +kernel, Or.inl (z_mem (zt_1 (List.mem_of_getElem? (i := 116) (by decide +kernel))) rfl)⟩
theorem f_Group_39 : zFL 5 39 5 7 := ⟨by decide, by decide +kernel, Or.inl (z_mem (zt_1 (List.mem_of_getElem? (i := 119) (by decide +kernel))) rfl)⟩
theorem f_Sorts_14 : zFL 6 14 6 1 := ⟨by decide, by decide +kernel, Or.inl (z_mem (zt_1 (List.mem_of_getElem? (i := 150) (by decide +kernel))) rfl)⟩
theorem f_Sorts_20 : zFL 6 20 6 2 := ⟨by decide, by decide +kernel, Or.inl (z_mem (zt_1 (List.mem_of_getElem? (i := 151) (by decide +kernel))) rfl)⟩
theorem f_Sorts_23 : zFL 6 23 6 3 := ⟨by decide, by decide +kernel, Or.inl (z_mem (zt_1 (List.mem_of_getElem? (i := 152) (by decide +kernel))) rfl)⟩
theorem f_Sorts_26 : zFL 6 26 6 4 := ⟨by decide, by decide +kernel, Or.inl (z_mem (zt_1 (List.mem_of_getElem? (i := 153) (by decide +kernel))) rfl)⟩
theorem f_Sorts_29 : zFL 6 29 6 5 := ⟨by decide, by decide +kernel, Or.inl (z_mem (zt_1 (List.mem_of_getElem? (i := 156) (by decide +kernel))) rfl)⟩
theorem f_Sorts_32 : zFL 6 32 6 0 := ⟨by decide, by decide +kernel, Or.inl (z_mem (zt_1 (List.mem_of_getElem? (i := 148) (by decide +kernel))) rfl)⟩
theorem f_Sorts_36 : zFL 6 36 6 6 := ⟨by decide, by decide +kernel, Or.inl (z_mem (zt_1 (List.mem_of_getElem? (i := 158) (by decide +kernel))) rfl)⟩
theorem f_Sorts_44 : zFL 6 44 5 7 := ⟨by decide, by decide +kernel, Or.inr ⟨"TroupeSums", z_memN (zt_1 (List.mem_of_getElem? (i := 120) (by decide +kernel))) rfl⟩⟩
theorem f_Sorts_83 : zFL 6 83 6 7 := ⟨by decide, by decide +kernel, Or.inl (z_mem (zt_1 (List.mem_of_getElem? (i := 163) (by decide +kernel))) rfl)⟩
theorem f_Sums_16 : zFL 7 16 7 1 := ⟨by decide, by decide +kernel, Or.inl (z_mem (zt_1 (List.mem_of_getElem? (i := 203) (by decide +kernel))) rfl)⟩
theorem f_Sums_20 : zFL 7 20 7 2 := ⟨by decide, by decide +kernel, Or.inl (z_mem (zt_1 (List.mem_of_getElem? (i := 204) (by decide +kernel))) rfl)⟩
theorem f_Sums_23 : zFL 7 23 7 0 := ⟨by decide, by decide +kernel, Or.inl (z_mem (zt_1 (List.mem_of_getElem? (i := 201) (by decide +kernel))) rfl)⟩
theorem f_Sums_35 : zFL 7 35 6 7 := ⟨by decide, by decide +kernel, Or.inr ⟨"TroupeSums", z_memN (zt_1 (List.mem_of_getElem? (i := 160) (by decide +kernel))) rfl⟩⟩
theorem f_Sums_41 : zFL 7 41 6 5 := ⟨by decide, by decide +kernel, Or.inr ⟨"TroupeSums", z_memN (zt_1 (List.mem_of_getElem? (i := 157) (by decide +kernel))) rfl⟩⟩
theorem f_LongRow_13 : zFL 8 13 8 0 := ⟨by decide, by decide +kernel, Or.inl (z_mem (zt_1 (List.mem_of_getElem? (i := 196) (by decide +kernel))) rfl)⟩
theorem f_Units_14 : zFL 9 14 9 1 := ⟨by decide, by decide +kernel, Or.inl (z_mem (zt_1 (List.mem_of_getElem? (i := 222) (by decide +kernel))) rfl)⟩
theorem f_Units_20 : zFL 9 20 9 2 := ⟨by decide, by decide +kernel, Or.inl (z_mem (zt_1 (List.mem_of_getElem? (i := 223) (by decide +kernel))) rfl)⟩
theorem f_Units_23 : zFL 9 23 9 0 := ⟨by decide, by decide +kernel, Or.inl (z_mem (zt_1 (List.mem_of_getElem? (i := 221) (by decide +kernel))) rfl)⟩
theorem f_Units_27 : zFL 9 27 9 4 := ⟨by decide, by decide +kernel, Or.inl (z_mem (zt_1 (List.mem_of_getElem? (i := 225) (by decide +kernel))) rfl)⟩
theorem f_Units_31 : zFL 9 31 9 3 := ⟨by decide, by decide +kernel, Or.inl (z_mem (zt_1 (List.mem_of_getElem? (i := 224) (by decide +kernel))) rfl)⟩
theorem f_Units_35 : zFL 9 35 6 7 := ⟨by decide, by decide +kernel, Or.inr ⟨"TroupeSums", z_memN (zt_1 (List.mem_of_getElem? (i := 161) (by decide +kernel))) rfl⟩⟩
theorem f_Units_50 : zFL 9 50 6 0 := ⟨by decide, by decide +kernel, Or.inr ⟨"TroupeSums", z_memN (zt_1 (List.mem_of_getElem? (i := 149) (by decide +kernel))) rfl⟩⟩
theorem f_Units_54 : zFL 9 54 6 4 := ⟨by decide, by decide +kernel, Or.inr ⟨"TroupeSums", z_memN (zt_1 (List.mem_of_getElem? (i := 154) (by decide +kernel))) rfl⟩⟩
theorem f_Units_66 : zFL 9 66 5 7 := ⟨by decide, by decide +kernel, Or.inr ⟨"TroupeSums", z_memN (zt_1 (List.mem_of_getElem? (i := 122) (by decide +kernel))) rfl⟩⟩
theorem f_Calc_14 : zFL 10 14 10 1 := ⟨by decide, by decide +kernel, Or.inl (z_mem (zt_2 (List.mem_of_getElem? (i := 6) (by decide +kernel))) rfl)⟩
theorem f_Calc_20 : zFL 10 20 10 0 := ⟨by decide, by decide +kernel, Or.inl (z_mem (zt_2 (List.mem_of_getElem? (i := 5) (by decide +kernel))) rfl)⟩
theorem f_Calc_24 : zFL 10 24 10 2 := ⟨by decide, by decide +kernel, Or.inl (z_mem (zt_2 (List.mem_of_getElem? (i := 7) (by decide +kernel))) rfl)⟩
theorem f_Calc_28 : zFL 10 28 10 3 := ⟨by decide, by decide +kernel, Or.inl (z_mem (zt_2 (List.mem_of_getElem? (i := 8) (by decide +kernel))) rfl)⟩
theorem f_Calc_31 : zFL 10 31 10 4 := ⟨by decide, by decide +kernel, Or.inl (z_mem (zt_2 (List.mem_of_getElem? (i := 9) (by decide +kernel))) rfl)⟩
theorem f_Calc_34 : zFL 10 34 10 5 := ⟨by decide, by decide +kernel, Or.inl (z_mem (zt_2 (List.mem_of_getElem? (i := 11) (by decide +kernel))) rfl)⟩
theorem f_Calc_37 : zFL 10 37 10 6 := ⟨by decide, by decide +kernel, Or.inl (z_mem (zt_2 (List.mem_of_getElem? (i := 13) (by decide +kernel))) rfl)⟩
theorem f_Calc_68 : zFL 10 68 7 0 := ⟨by decide, by decide +kernel, Or.inr ⟨"TroupeSums", z_memN (zt_1 (List.mem_of_getElem? (i := 202) (by decide +kernel))) rfl⟩⟩
theorem f_Calc_72 : zFL 10 72 6 7 := ⟨by decide, by decide +kernel, Or.inr ⟨"TroupeSums", z_memN (zt_1 (List.mem_of_getElem? (i := 164) (by decide +kernel))) rfl⟩⟩
theorem f_M_7 : zFL 11 7 11 0 := ⟨by decide, by decide +kernel, Or.inl (z_mem (zt_6 (List.mem_of_getElem? (i := 81) (by decide +kernel))) rfl)⟩
theorem f_M_13 : zFL 11 13 11 8 := ⟨by decide, by decide +kernel, Or.inl (z_mem (zt_6 (List.mem_of_getElem? (i := 89) (by decide +kernel))) rfl)⟩
theorem f_M_17 : zFL 11 17 11 10 := ⟨by decide, by decide +kernel, Or.inl (z_mem (zt_6 (List.mem_of_getElem? (i := 91) (by decide +kernel))) rfl)⟩
theorem f_M_20 : zFL 11 20 11 15 := ⟨by decide, by decide +kernel, Or.inl (z_mem (zt_6 (List.mem_of_getElem? (i := 96) (by decide +kernel))) rfl)⟩
theorem f_M_23 : zFL 11 23 11 19 := ⟨by decide, by decide +kernel, Or.inl (z_mem (zt_6 (List.mem_of_getElem? (i := 100) (by decide +kernel))) rfl)⟩
theorem f_M_26 : zFL 11 26 11 21 := ⟨by decide, by decide +kernel, Or.inl (z_mem (zt_6 (List.mem_of_getElem? (i := 102) (by decide +kernel))) rfl)⟩
theorem f_M_29 : zFL 11 29 11 22 := ⟨by decide, by decide +kernel, Or.inl (z_mem (zt_6 (List.mem_of_getElem? (i := 103) (by decide +kernel))) rfl)⟩
theorem f_M_32 : zFL 11 32 11 23 := ⟨by decide, by decide +kernel, Or.inl (z_mem (zt_6 (List.mem_of_getElem? (i := 104) (by decide +kernel))) rfl)⟩
theorem f_M_35 : zFL 11 35 11 24 := ⟨by decide, by decide +kernel, Or.inl (z_mem (zt_6 (List.mem_of_getElem? (i := 105) (by decide +kernel))) rfl)⟩
theorem f_M_38 : zFL 11 38 11 27 := ⟨by decide, by decide +kernel, Or.inl (z_mem (zt_6 (List.mem_of_getElem? (i := 108) (by decide +kernel))) rfl)⟩
theorem f_M_41 : zFL 11 41 11 28 := ⟨by decide, by decide +kernel, Or.inl (z_mem (zt_6 (List.mem_of_getElem? (i := 109) (by decide +kernel))) rfl)⟩
theorem f_M_44 : zFL 11 44 11 29 := ⟨by decide, by decide +kernel, Or.inl (z_mem (zt_6 (List.mem_of_getElem? (i := 110) (by decide +kernel))) rfl)⟩
theorem f_M_47 : zFL 11 47 11 30 := ⟨by decide, by decide +kernel, Or.inl (z_mem (zt_6 (List.mem_of_getElem? (i := 111) (by decide +kernel))) rfl)⟩
theorem f_M_50 : zFL 11 50 11 31 := ⟨by decide, by decide +kernel, Or.inl (z_mem (zt_6 (List.mem_of_getElem? (i := 112) (by decide +kernel))) rfl)⟩
theorem f_M_53 : zFL 11 53 11 32 := ⟨by decide, by decide +kernel, Or.inl (z_mem (zt_6 (List.mem_of_getElem? (i := 113) (by decide +kernel))) rfl)⟩
theorem f_M_56 : zFL 11 56 11 33 := ⟨by decide, by decide +kernel, Or.inl (z_mem (zt_6 (List.mem_of_getElem? (i := 114) (by decide +kernel))) rfl)⟩
theorem f_M_60 : zFL 11 60 11 34 := ⟨by decide, by decide +kernel, Or.inl (z_mem (zt_6 (List.mem_of_getElem? (i := 115) (by decide +kernel))) rfl)⟩
theorem f_M_63 : zFL 11 63 11 35 := ⟨by decide, by decide +kernel, Or.inl (z_mem (zt_6 (List.mem_of_getElem? (i := 116) (by decide +kernel))) rfl)⟩
theorem f_M_66 : zFL 11 66 11 36 := ⟨by decide, by decide +kernel, Or.inl (z_mem (zt_6 (List.mem_of_getElem? (i := 117) (by decide +kernel))) rfl)⟩
theorem f_M_69 : zFL 11 69 11 37 := ⟨by decide, by decide +kernel, Or.inl (z_mem (zt_6 (List.mem_of_getElem? (i := 118) (by decide +kernel))) rfl)⟩
theorem f_M_72 : zFL 11 72 11 40 := ⟨by decide, by decide +kernel, Or.inl (z_mem (zt_6 (List.mem_of_getElem? (i := 121) (by decide +kernel))) rfl)⟩
theorem f_M_75 : zFL 11 75 11 44 := ⟨by decide, by decide +kernel, Or.inl (z_mem (zt_6 (List.mem_of_getElem? (i := 125) (by decide +kernel))) rfl)⟩
theorem f_M_78 : zFL 11 78 11 45 := ⟨by decide, by decide +kernel, Or.inl (z_mem (zt_6 (List.mem_of_getElem? (i := 126) (by decide +kernel))) rfl)⟩
theorem f_M_81 : zFL 11 81 11 46 := ⟨by decide, by decide +kernel, Or.inl (z_mem (zt_6 (List.mem_of_getElem? (i := 127) (by decide +kernel))) rfl)⟩
theorem f_M_84 : zFL 11 84 11 47 := ⟨by decide, by decide +kernel, Or.inl (z_mem (zt_6 (List.mem_of_getElem? (i := 128) (by decide +kernel))) rfl)⟩
theorem f_M_87 : zFL 11 87 11 48 := ⟨by decide, by decide +kernel, Or.inl (z_mem (zt_6 (List.mem_of_getElem? (i := 129) (by decide +kernel))) rfl)⟩
theorem f_M_90 : zFL 11 90 11 49 := ⟨by decide, by decide +kernel, Or.inl (z_mem (zt_6 (List.mem_of_getElem? (i := 130) (by decide +kernel))) rfl)⟩
theorem f_M_93 : zFL 11 93 11 50 := ⟨by decide, by decide +kernel, Or.inl (z_mem (zt_6 (List.mem_of_getElem? (i := 131) (by decide +kernel))) rfl)⟩
theorem f_M_96 : zFL 11 96 11 51 := ⟨by decide, by decide +kernel, Or.inl (z_mem (zt_6 (List.mem_of_getElem? (i := 132) (by decide +kernel))) rfl)⟩
theorem f_M_99 : zFL 11 99 11 54 := ⟨by decide, by decide +kernel, Or.inl (z_mem (zt_6 (List.mem_of_getElem? (i := 135) (by decide +kernel))) rfl)⟩
theorem f_M_103 : zFL 11 103 11 56 := ⟨by decide, by decide +kernel, Or.inl (z_mem (zt_6 (List.mem_of_getElem? (i := 137) (by decide +kernel))) rfl)⟩
theorem f_M_106 : zFL 11 106 11 59 := ⟨by decide, by decide +kernel, Or.inl (z_mem (zt_6 (List.mem_of_getElem? (i := 140) (by decide +kernel))) rfl)⟩
theorem f_M_109 : zFL 11 109 11 61 := ⟨by decide, by decide +kernel, Or.inl (z_mem (zt_6 (List.mem_of_getElem? (i := 142) (by decide +kernel))) rfl)⟩
theorem f_M_112 : zFL 11 112 11 62 := ⟨by decide, by decide +kernel, Or.inl (z_mem (zt_6 (List.mem_of_getElem? (i := 143) (by decide +kernel))) rfl)⟩
theorem f_M_115 : zFL 11 115 11 12 := ⟨by decide, by decide +kernel, Or.inl (z_mem (zt_6 (List.mem_of_getElem? (i := 93) (by decide +kernel))) rfl)⟩
theorem f_M_124 : zFL 11 124 11 1 := ⟨by decide, by decide +kernel, Or.inl (z_mem (zt_6 (List.mem_of_getElem? (i := 82) (by decide +kernel))) rfl)⟩
theorem f_M_135 : zFL 11 135 11 3 := ⟨by decide, by decide +kernel, Or.inl (z_mem (zt_6 (List.mem_of_getElem? (i := 84) (by decide +kernel))) rfl)⟩
theorem f_M_138 : zFL 11 138 11 2 := ⟨by decide, by decide +kernel, Or.inl (z_mem (zt_6 (List.mem_of_getElem? (i := 83) (by decide +kernel))) rfl)⟩
theorem f_M_145 : zFL 11 145 11 4 := ⟨by decide, by decide +kernel, Or.inl (z_mem (zt_6 (List.mem_of_getElem? (i := 85) (by decide +kernel))) rfl)⟩
theorem f_M_148 : zFL 11 148 11 11 := ⟨by decide, by decide +kernel, Or.inl (z_mem (zt_6 (List.mem_of_getElem? (i := 92) (by decide +kernel))) rfl)⟩
theorem f_M_152 : zFL 11 152 11 6 := ⟨by decide, by decide +kernel, Or.inl (z_mem (zt_6 (List.mem_of_getElem? (i := 87) (by decide +kernel))) rfl)⟩
theorem f_M_155 : zFL 11 155 11 5 := ⟨by decide, by decide +kernel, Or.inl (z_mem (zt_6 (List.mem_of_getElem? (i := 86) (by decide +kernel))) rfl)⟩
theorem f_M_172 : zFL 11 172 11 7 := ⟨by decide, by decide +kernel, Or.inl (z_mem (zt_6 (List.mem_of_getElem? (i := 88) (by decide +kernel))) rfl)⟩
theorem f_M_196 : zFL 11 196 11 20 := ⟨by decide, by decide +kernel, Or.inl (z_mem (zt_6 (List.mem_of_getElem? (i := 101) (by decide +kernel))) rfl)⟩
theorem f_M_199 : zFL 11 199 11 13 := ⟨by decide, by decide +kernel, Or.inl (z_mem (zt_6 (List.mem_of_getElem? (i := 94) (by decide +kernel))) rfl)⟩
theorem f_M_220 : zFL 11 220 11 25 := ⟨by decide, by decide +kernel, Or.inl (z_mem (zt_6 (List.mem_of_getElem? (i := 106) (by decide +kernel))) rfl)⟩
theorem f_M_235 : zFL 11 235 11 26 := ⟨by decide, by decide +kernel, Or.inl (z_mem (zt_6 (List.mem_of_getElem? (i := 107) (by decide +kernel))) rfl)⟩
theorem f_M_268 : zFL 11 268 11 38 := ⟨by decide, by decide +kernel, Or.inl (z_mem (zt_6 (List.mem_of_getElem? (i := 119) (by decide +kernel))) rfl)⟩
theorem f_M_275 : zFL 11 275 11 39 := ⟨by decide, by decide +kernel, Or.inl (z_mem (zt_6 (List.mem_of_getElem? (i := 120) (by decide +kernel))) rfl)⟩
theorem f_M_293 : zFL 11 293 11 43 := ⟨by decide, by decide +kernel, Or.inl (z_mem (zt_6 (List.mem_of_getElem? (i := 124) (by decide +kernel))) rfl)⟩
theorem f_M_296 : zFL 11 296 11 42 := ⟨by decide, by decide +kernel, Or.inl (z_mem (zt_6 (List.mem_of_getElem? (i := 123) (by decide +kernel))) rfl)⟩
theorem f_M_299 : zFL 11 299 11 14 := ⟨by decide, by decide +kernel, Or.inl (z_mem (zt_6 (List.mem_of_getElem? (i := 95) (by decide +kernel))) rfl)⟩
theorem f_M_305 : zFL 11 305 11 41 := ⟨by decide, by decide +kernel, Or.inl (z_mem (zt_6 (List.mem_of_getElem? (i := 122) (by decide +kernel))) rfl)⟩
theorem f_M_379 : zFL 11 379 11 9 := ⟨by decide, by decide +kernel, Or.inl (z_mem (zt_6 (List.mem_of_getElem? (i := 90) (by decide +kernel))) rfl)⟩
theorem f_M_382 : zFL 11 382 11 16 := ⟨by decide, by decide +kernel, Or.inl (z_mem (zt_6 (List.mem_of_getElem? (i := 97) (by decide +kernel))) rfl)⟩
theorem f_M_385 : zFL 11 385 11 17 := ⟨by decide, by decide +kernel, Or.inl (z_mem (zt_6 (List.mem_of_getElem? (i := 98) (by decide +kernel))) rfl)⟩
theorem f_M_388 : zFL 11 388 11 18 := ⟨by decide, by decide +kernel, Or.inl (z_mem (zt_6 (List.mem_of_getElem? (i := 99) (by decide +kernel))) rfl)⟩
theorem f_M_391 : zFL 11 391 11 60 := ⟨by decide, by decide +kernel, Or.inl (z_mem (zt_6 (List.mem_of_getElem? (i := 141) (by decide +kernel))) rfl)⟩
theorem f_M_394 : zFL 11 394 11 58 := ⟨by decide, by decide +kernel, Or.inl (z_mem (zt_6 (List.mem_of_getElem? (i := 139) (by decide +kernel))) rfl)⟩
theorem f_M_436 : zFL 11 436 11 52 := ⟨by decide, by decide +kernel, Or.inl (z_mem (zt_6 (List.mem_of_getElem? (i := 133) (by decide +kernel))) rfl)⟩
theorem f_M_439 : zFL 11 439 11 53 := ⟨by decide, by decide +kernel, Or.inl (z_mem (zt_6 (List.mem_of_getElem? (i := 134) (by decide +kernel))) rfl)⟩
theorem f_M_453 : zFL 11 453 11 55 := ⟨by decide, by decide +kernel, Or.inl (z_mem (zt_6 (List.mem_of_getElem? (i := 136) (by decide +kernel))) rfl)⟩
theorem f_M_459 : zFL 11 459 11 57 := ⟨by decide, by decide +kernel, Or.inl (z_mem (zt_6 (List.mem_of_getElem? (i := 138) (by decide +kernel))) rfl)⟩
theorem f_M_487 : zFL 11 487 11 63 := ⟨by decide, by decide +kernel, Or.inl (z_mem (zt_6 (List.mem_of_getElem? (i := 144) (by decide +kernel))) rfl)⟩
theorem f_M_504 : zFL 11 504 11 64 := ⟨by decide, by decide +kernel, Or.inl (z_mem (zt_6 (List.mem_of_getElem? (i := 145) (by decide +kernel))) rfl)⟩
theorem f_M_511 : zFL 11 511 11 65 := ⟨by decide, by decide +kernel, Or.inl (z_mem (zt_6 (List.mem_of_getElem? (i := 146) (by decide +kernel))) rfl)⟩
