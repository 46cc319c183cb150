/-! ===== BEGIN words of one list among another's, by their places ===== -/
theorem goodIn_r {big : List Cond} (ws : List Cond) (ps : List Nat) (hp : ws = ps.filterMap (fun i => big[i]?)) (h : ws.all goodWord = true) : GoodIn big ws := by
  intro w hw
  have h1 := List.all_eq_true.mp h w hw
  rw [hp] at hw
  obtain ⟨i, -, hi⟩ := List.mem_filterMap.mp hw
  have hm : w ∈ big := by first | exact List.mem_of_getElem? hi | exact List.getElem?_mem hi
  exact ⟨hm, good_of_word h1⟩
theorem goodIn_app {big a b : List Cond} (ha : GoodIn big a) (hb : GoodIn big b) : GoodIn big (a ++ b) := fun w h => (List.mem_append.mp h).elim (ha w) (hb w)
theorem goodIn_ca {big a b : List Cond} {c : Cond} (ha : GoodIn big (c :: a)) (hb : GoodIn big b) : GoodIn big (c :: (a ++ b)) := fun w h => (List.mem_cons.mp h).elim (fun e => ha w (List.mem_cons.mpr (Or.inl e))) (fun h => (List.mem_append.mp h).elim (fun h => ha w (List.mem_cons.mpr (Or.inr h))) (hb w))
theorem goodIn_sub {big ws : List Cond} (hm : ∀ w ∈ ws, w ∈ big) (h : ws.all goodWord = true) : GoodIn big ws := fun w hw => ⟨hm w hw, good_of_word (List.all_eq_true.mp h w hw)⟩
/-! ===== END ===== -/

/-! ===== BEGIN printed: names, fields, word lists, decode rows ===== -/
def RX0 : String := "FragmentHouse$Datagram"
def TX0 : u_T := fun k => match k with
  | 0 => ("FragmentHouse$Datagram", "cells", "[I", true)
  | 1 => ("FragmentHouse$Datagram", "inMaking", "Z", false)
  | 2 => ("FragmentHouse$Datagram", "sender", "I", false)
  | 3 => ("FragmentHouse$Datagram", "identification", "I", false)
  | 4 => ("FragmentHouse$Datagram", "protocol", "I", false)
  | 5 => ("FragmentHouse$Datagram", "firstTime", "I", false)
  | 6 => ("FragmentHouse$Datagram", "knownEnd", "I", false)
  | 7 => ("FragmentHouse$Datagram", "farthestReach", "I", false)
  | _ => ("FragmentHouse$Datagram", "presentCount", "I", false)
def tyX0 : Nat → FieldType := fun k => match k with
  | 0 => .array .int
  | 1 => .boolean
  | 2 => .int
  | 3 => .int
  | 4 => .int
  | 5 => .int
  | 6 => .int
  | 7 => .int
  | _ => .int
abbrev wsX00 : List Cond := u_ws RX0 TX0 9
theorem nmX0 : ∀ a, a < 9 → ∀ b, b < 9 → a ≠ b → (TX0 a).2.1 ≠ (TX0 b).2.1 := by decide +kernel
theorem tyX0_ok : ∀ k, k < 9 → parseFieldDescriptor (TX0 k).2.2.1 = some (tyX0 k) := by decide +kernel
abbrev cX0_init : ByteArray := prog_2_method_1_code
def yX0_init : MethodName := ⟨RX0, "<init>", "()V"⟩
abbrev cX0_begin : ByteArray := prog_2_method_2_code
def yX0_begin : MethodName := ⟨RX0, "begin", "(IIII)V"⟩
abbrev cX0_isOf : ByteArray := prog_2_method_3_code
def yX0_isOf : MethodName := ⟨RX0, "isOf", "(III)Z"⟩
abbrev cX0_isContradictedBy : ByteArray := prog_2_method_4_code
def yX0_isContradictedBy : MethodName := ⟨RX0, "isContradictedBy", "(IZ)Z"⟩
abbrev cX0_noteReach : ByteArray := prog_2_method_5_code
def yX0_noteReach : MethodName := ⟨RX0, "noteReach", "(IZ)V"⟩
abbrev cX0_putIn : ByteArray := prog_2_method_6_code
def yX0_putIn : MethodName := ⟨RX0, "putIn", "([III)V"⟩
abbrev cX0_isWhole : ByteArray := prog_2_method_7_code
def yX0_isWhole : MethodName := ⟨RX0, "isWhole", "()Z"⟩
def RX1 : String := "FragmentHouse"
def TX1 : u_T := fun k => match k with
  | 0 => ("FragmentHouse", "tray", "[I", true)
  | 1 => ("FragmentHouse", "slots", "[LFragmentHouse$Datagram;", true)
  | 2 => ("FragmentHouse", "latestWhole", "LFragmentHouse$Datagram;", false)
  | 3 => ("FragmentHouse", "trayCount", "I", false)
  | 4 => ("FragmentHouse", "wholeCount", "I", false)
  | _ => ("FragmentHouse", "now", "I", false)
def tyX1 : Nat → FieldType := fun k => match k with
  | 0 => .array .int
  | 1 => .array (.object "FragmentHouse$Datagram")
  | 2 => .object "FragmentHouse$Datagram"
  | 3 => .int
  | 4 => .int
  | _ => .int
abbrev wsX10 : List Cond := u_ws RX1 TX1 6
theorem nmX1 : ∀ a, a < 6 → ∀ b, b < 6 → a ≠ b → (TX1 a).2.1 ≠ (TX1 b).2.1 := by decide +kernel
theorem tyX1_ok : ∀ k, k < 6 → parseFieldDescriptor (TX1 k).2.2.1 = some (tyX1 k) := by decide +kernel
abbrev cX1_init : ByteArray := prog_1_method_1_code
def yX1_init : MethodName := ⟨RX1, "<init>", "()V"⟩
abbrev cX1_feed : ByteArray := prog_1_method_2_code
def yX1_feed : MethodName := ⟨RX1, "feed", "(IIIII)I"⟩
abbrev cX1_end : ByteArray := prog_1_method_3_code
def yX1_end : MethodName := ⟨RX1, "end", "(I)I"⟩
abbrev cX1_take : ByteArray := prog_1_method_4_code
def yX1_take : MethodName := ⟨RX1, "take", "(IIIIZ)I"⟩
abbrev cX1_pass : ByteArray := prog_1_method_5_code
def yX1_pass : MethodName := ⟨RX1, "pass", "(I)I"⟩
abbrev cX1_making : ByteArray := prog_1_method_6_code
def yX1_making : MethodName := ⟨RX1, "making", "()I"⟩
abbrev cX1_made : ByteArray := prog_1_method_7_code
def yX1_made : MethodName := ⟨RX1, "made", "()I"⟩
abbrev cX1_length : ByteArray := prog_1_method_8_code
def yX1_length : MethodName := ⟨RX1, "length", "()I"⟩
abbrev cX1_at : ByteArray := prog_1_method_9_code
def yX1_at : MethodName := ⟨RX1, "at", "(I)I"⟩
abbrev cX1_putWord : ByteArray := prog_1_method_10_code
def yX1_putWord : MethodName := ⟨RX1, "putWord", "(II)V"⟩
abbrev cX1_isSound : ByteArray := prog_1_method_11_code
def yX1_isSound : MethodName := ⟨RX1, "isSound", "(IIZ)Z"⟩
abbrev cX1_slotFor : ByteArray := prog_1_method_12_code
def yX1_slotFor : MethodName := ⟨RX1, "slotFor", "(III)I"⟩
abbrev cX1_join : ByteArray := prog_1_method_13_code
def yX1_join : MethodName := ⟨RX1, "join", "(IIIZ)I"⟩
abbrev cX1_showWhole : ByteArray := prog_1_method_14_code
def yX1_showWhole : MethodName := ⟨RX1, "showWhole", "(I)V"⟩
def RX2 : String := "FragmentHouseModel"
def TX2 : u_T := fun k => match k with
  | 0 => ("FragmentHouseModel", "tray", "[B", true)
  | 1 => ("FragmentHouseModel", "trayed", "I", false)
  | 2 => ("FragmentHouseModel", "senders", "[I", true)
  | 3 => ("FragmentHouseModel", "identifications", "[I", true)
  | 4 => ("FragmentHouseModel", "protocols", "[I", true)
  | 5 => ("FragmentHouseModel", "ends", "[I", true)
  | 6 => ("FragmentHouseModel", "begun", "[I", true)
  | 7 => ("FragmentHouseModel", "there", "[Z", true)
  | 8 => ("FragmentHouseModel", "bytes", "[I", true)
  | 9 => ("FragmentHouseModel", "whole", "[I", true)
  | 10 => ("FragmentHouseModel", "length", "I", false)
  | 11 => ("FragmentHouseModel", "made", "I", false)
  | _ => ("FragmentHouseModel", "now", "I", false)
def tyX2 : Nat → FieldType := fun k => match k with
  | 0 => .array .byte
  | 1 => .int
  | 2 => .array .int
  | 3 => .array .int
  | 4 => .array .int
  | 5 => .array .int
  | 6 => .array .int
  | 7 => .array .boolean
  | 8 => .array .int
  | 9 => .array .int
  | 10 => .int
  | 11 => .int
  | _ => .int
abbrev wsX20 : List Cond := u_ws RX2 TX2 13
theorem nmX2 : ∀ a, a < 13 → ∀ b, b < 13 → a ≠ b → (TX2 a).2.1 ≠ (TX2 b).2.1 := by decide +kernel
theorem tyX2_ok : ∀ k, k < 13 → parseFieldDescriptor (TX2 k).2.2.1 = some (tyX2 k) := by decide +kernel
abbrev cX2_init : ByteArray := prog_4_method_1_code
def yX2_init : MethodName := ⟨RX2, "<init>", "()V"⟩
abbrev cX2_feed : ByteArray := prog_4_method_3_code
def yX2_feed : MethodName := ⟨RX2, "feed", "(IIIII)I"⟩
abbrev cX2_word : ByteArray := prog_4_method_4_code
def yX2_word : MethodName := ⟨RX2, "word", "(I)V"⟩
abbrev cX2_end : ByteArray := prog_4_method_5_code
def yX2_end : MethodName := ⟨RX2, "end", "(I)I"⟩
abbrev cX2_find : ByteArray := prog_4_method_6_code
def yX2_find : MethodName := ⟨RX2, "find", "(III)I"⟩
abbrev cX2_begin : ByteArray := prog_4_method_7_code
def yX2_begin : MethodName := ⟨RX2, "begin", "(III)I"⟩
abbrev cX2_take : ByteArray := prog_4_method_8_code
def yX2_take : MethodName := ⟨RX2, "take", "(IIIIZ)I"⟩
abbrev cX2_pass : ByteArray := prog_4_method_9_code
def yX2_pass : MethodName := ⟨RX2, "pass", "(I)I"⟩
abbrev cX2_making : ByteArray := prog_4_method_10_code
def yX2_making : MethodName := ⟨RX2, "making", "()I"⟩
abbrev cX2_made : ByteArray := prog_4_method_11_code
def yX2_made : MethodName := ⟨RX2, "made", "()I"⟩
abbrev cX2_length : ByteArray := prog_4_method_12_code
def yX2_length : MethodName := ⟨RX2, "length", "()I"⟩
abbrev cX2_at : ByteArray := prog_4_method_13_code
def yX2_at : MethodName := ⟨RX2, "at", "(I)I"⟩
def RJ9 : String := "java/lang/Math"
def TJ9 : u_T := fun k => match k with
  | _ => ("", "", "", false)
def tyJ9 : Nat → FieldType := fun k => match k with
  | _ => .int
abbrev wsJ90 : List Cond := u_ws RJ9 TJ9 0
theorem nmJ9 : ∀ a, a < 0 → ∀ b, b < 0 → a ≠ b → (TJ9 a).2.1 ≠ (TJ9 b).2.1 := by decide +kernel
theorem tyJ9_ok : ∀ k, k < 0 → parseFieldDescriptor (TJ9 k).2.2.1 = some (tyJ9 k) := by decide +kernel
abbrev cJ9_max_7cf53 : ByteArray := prog_5_method_65_code
def yJ9_max_7cf53 : MethodName := ⟨RJ9, "max", "(II)I"⟩
def RJ7 : String := "java/util/Arrays"
def TJ7 : u_T := fun k => match k with
  | _ => ("", "", "", false)
def tyJ7 : Nat → FieldType := fun k => match k with
  | _ => .int
abbrev wsJ70 : List Cond := u_ws RJ7 TJ7 0
theorem nmJ7 : ∀ a, a < 0 → ∀ b, b < 0 → a ≠ b → (TJ7 a).2.1 ≠ (TJ7 b).2.1 := by decide +kernel
theorem tyJ7_ok : ∀ k, k < 0 → parseFieldDescriptor (TJ7 k).2.2.1 = some (tyJ7 k) := by decide +kernel
abbrev cJ7_fill_53178 : ByteArray := prog_6_method_103_code
def yJ7_fill_53178 : MethodName := ⟨RJ7, "fill", "([II)V"⟩
def RL : String := "FragmentHouseLaw"
abbrev cL_law : ByteArray := code
def yL_law : MethodName := ⟨RL, "law", "([I)Z"⟩
def wsX0_init : List Cond := .code yX0_init cX0_init 1 none :: ([.methodLink RX0 3 objectInit, .instanceMethod objectInit, .code objectInit ⟨#[0xb1]⟩ 1 none, .arrayClass .int, .fieldLink RX0 9 "FragmentHouse$Datagram" "cells" "[I", .fieldLink RX0 15 "FragmentHouse$Datagram" "inMaking" "Z", .fieldLink RX0 19 "FragmentHouse$Datagram" "knownEnd" "I"] ++ wsX00)
def wsJ7_fill_53178 : List Cond := .code yJ7_fill_53178 cJ7_fill_53178 4 none :: ([])
def wsX0_begin : List Cond := .code yX0_begin cX0_begin 5 none :: ([.fieldLink RX0 9 "FragmentHouse$Datagram" "cells" "[I", .fieldLink RX0 15 "FragmentHouse$Datagram" "inMaking" "Z", .fieldLink RX0 29 "FragmentHouse$Datagram" "sender" "I", .fieldLink RX0 32 "FragmentHouse$Datagram" "identification" "I", .fieldLink RX0 35 "FragmentHouse$Datagram" "protocol" "I", .fieldLink RX0 38 "FragmentHouse$Datagram" "firstTime" "I", .fieldLink RX0 19 "FragmentHouse$Datagram" "knownEnd" "I", .fieldLink RX0 41 "FragmentHouse$Datagram" "farthestReach" "I", .fieldLink RX0 44 "FragmentHouse$Datagram" "presentCount" "I", .methodLink RX0 23 yJ7_fill_53178, .static yJ7_fill_53178, .initialized RJ7, .code yJ7_fill_53178 cJ7_fill_53178 4 none] ++ wsX00)
def wsX0_isOf : List Cond := .code yX0_isOf cX0_isOf 4 (some .boolean) :: ([.fieldLink RX0 29 "FragmentHouse$Datagram" "sender" "I", .fieldLink RX0 32 "FragmentHouse$Datagram" "identification" "I", .fieldLink RX0 35 "FragmentHouse$Datagram" "protocol" "I"] ++ wsX00)
def wsX0_isContradictedBy : List Cond := .code yX0_isContradictedBy cX0_isContradictedBy 3 (some .boolean) :: ([.fieldLink RX0 19 "FragmentHouse$Datagram" "knownEnd" "I", .fieldLink RX0 41 "FragmentHouse$Datagram" "farthestReach" "I"] ++ wsX00)
def wsX0_noteReach : List Cond := .code yX0_noteReach cX0_noteReach 3 none :: ([.fieldLink RX0 41 "FragmentHouse$Datagram" "farthestReach" "I", .methodLink RX0 47 Lib.Math.max.name, .static Lib.Math.max.name, .initialized "java/lang/Math", .code Lib.Math.max.name Lib.Math.max.code 2 (some .int), .fieldLink RX0 19 "FragmentHouse$Datagram" "knownEnd" "I"] ++ wsX00)
def wsX0_putIn : List Cond := .code yX0_putIn cX0_putIn 5 none :: ([.fieldLink RX0 9 "FragmentHouse$Datagram" "cells" "[I", .fieldLink RX0 44 "FragmentHouse$Datagram" "presentCount" "I"] ++ wsX00)
def wsX0_isWhole : List Cond := .code yX0_isWhole cX0_isWhole 1 (some .boolean) :: ([.fieldLink RX0 19 "FragmentHouse$Datagram" "knownEnd" "I", .fieldLink RX0 44 "FragmentHouse$Datagram" "presentCount" "I"] ++ wsX00)
def wsX1_init : List Cond := .code yX1_init cX1_init 2 none :: ([.methodLink RX1 1 objectInit, .instanceMethod objectInit, .code objectInit ⟨#[0xb1]⟩ 1 none, .arrayClass .int, .fieldLink RX1 9 "FragmentHouse" "tray" "[I", .classLink RX1 13 RX0, .fieldLink RX1 15 "FragmentHouse" "slots" "[LFragmentHouse$Datagram;", .instantiable RX0 9, .initialized RX0, .fieldLink RX1 20 "FragmentHouse" "latestWhole" "LFragmentHouse$Datagram;", .fieldLink RX1 24 "FragmentHouse" "trayCount" "I", .fieldLink RX1 28 "FragmentHouse" "wholeCount" "I", .fieldLink RX1 31 "FragmentHouse" "now" "I", .methodLink RX1 19 yX0_init, .instanceMethod yX0_init, .code yX0_init cX0_init 1 none, .methodLink RX0 3 objectInit, .fieldLink RX0 9 "FragmentHouse$Datagram" "cells" "[I", .fieldLink RX0 15 "FragmentHouse$Datagram" "inMaking" "Z", .fieldLink RX0 19 "FragmentHouse$Datagram" "knownEnd" "I"] ++ wsX10 ++ wsX00)
def wsX1_putWord : List Cond := .code yX1_putWord cX1_putWord 4 none :: ([.fieldLink RX1 9 "FragmentHouse" "tray" "[I"] ++ wsX10)
def wsX1_feed : List Cond := .code yX1_feed cX1_feed 6 (some .int) :: ([.fieldLink RX1 24 "FragmentHouse" "trayCount" "I", .methodLink RX1 34 yX1_putWord, .instanceMethod yX1_putWord, .selects RX1 yX1_putWord yX1_putWord, .initialized RX1, .code yX1_putWord cX1_putWord 4 none, .fieldLink RX1 9 "FragmentHouse" "tray" "[I"] ++ wsX10)
def wsX1_end : List Cond := .code yX1_end cX1_end 2 (some .int) :: ([.fieldLink RX1 24 "FragmentHouse" "trayCount" "I"] ++ wsX10)
def wsX1_isSound : List Cond := .code yX1_isSound cX1_isSound 3 (some .boolean) :: ([])
def wsX1_slotFor_r1 : List Cond := [Cond.fieldLink RX1 15 "FragmentHouse" "slots" "[LFragmentHouse$Datagram;", Cond.fieldLink RX1 51 "FragmentHouse$Datagram" "inMaking" "Z", Cond.fieldLink RX1 31 "FragmentHouse" "now" "I", Cond.methodLink RX1 64 yX0_isOf, Cond.instanceMethod yX0_isOf, Cond.selects RX0 yX0_isOf yX0_isOf, Cond.initialized RX0, Cond.code yX0_isOf cX0_isOf 4 (some .boolean), Cond.fieldLink RX0 29 "FragmentHouse$Datagram" "sender" "I", Cond.fieldLink RX0 32 "FragmentHouse$Datagram" "identification" "I", Cond.fieldLink RX0 35 "FragmentHouse$Datagram" "protocol" "I", Cond.methodLink RX1 68 yX0_begin, Cond.instanceMethod yX0_begin, Cond.selects RX0 yX0_begin yX0_begin, Cond.code yX0_begin cX0_begin 5 none, Cond.fieldLink RX0 9 "FragmentHouse$Datagram" "cells" "[I", Cond.fieldLink RX0 15 "FragmentHouse$Datagram" "inMaking" "Z", Cond.fieldLink RX0 38 "FragmentHouse$Datagram" "firstTime" "I", Cond.fieldLink RX0 19 "FragmentHouse$Datagram" "knownEnd" "I", Cond.fieldLink RX0 41 "FragmentHouse$Datagram" "farthestReach" "I", Cond.fieldLink RX0 44 "FragmentHouse$Datagram" "presentCount" "I", Cond.methodLink RX0 23 yJ7_fill_53178, Cond.static yJ7_fill_53178, Cond.initialized RJ7]
def wsX1_slotFor_r2 : List Cond := [Cond.code yJ7_fill_53178 cJ7_fill_53178 4 none]
def wsX1_slotFor : List Cond := .code yX1_slotFor cX1_slotFor 6 (some .int) :: ((wsX1_slotFor_r1 ++ wsX1_slotFor_r2) ++ wsX10 ++ wsX00)
def wsX1_showWhole : List Cond := .code yX1_showWhole cX1_showWhole 3 none :: ([.fieldLink RX1 15 "FragmentHouse" "slots" "[LFragmentHouse$Datagram;", .fieldLink RX1 51 "FragmentHouse$Datagram" "inMaking" "Z", .fieldLink RX1 20 "FragmentHouse" "latestWhole" "LFragmentHouse$Datagram;", .fieldLink RX1 28 "FragmentHouse" "wholeCount" "I"] ++ wsX10 ++ wsX00)
def wsX1_join_r1 : List Cond := [Cond.fieldLink RX1 15 "FragmentHouse" "slots" "[LFragmentHouse$Datagram;", Cond.fieldLink RX1 51 "FragmentHouse$Datagram" "inMaking" "Z", Cond.fieldLink RX1 9 "FragmentHouse" "tray" "[I", Cond.fieldLink RX1 20 "FragmentHouse" "latestWhole" "LFragmentHouse$Datagram;", Cond.fieldLink RX1 58 "FragmentHouse$Datagram" "knownEnd" "I", Cond.methodLink RX1 72 yX0_isContradictedBy, Cond.instanceMethod yX0_isContradictedBy, Cond.selects RX0 yX0_isContradictedBy yX0_isContradictedBy, Cond.initialized RX0, Cond.code yX0_isContradictedBy cX0_isContradictedBy 3 (some .boolean), Cond.fieldLink RX0 19 "FragmentHouse$Datagram" "knownEnd" "I", Cond.fieldLink RX0 41 "FragmentHouse$Datagram" "farthestReach" "I", Cond.methodLink RX1 76 yX0_noteReach, Cond.instanceMethod yX0_noteReach, Cond.selects RX0 yX0_noteReach yX0_noteReach, Cond.code yX0_noteReach cX0_noteReach 3 none, Cond.methodLink RX0 47 Lib.Math.max.name, Cond.static Lib.Math.max.name, Cond.initialized "java/lang/Math", Cond.code Lib.Math.max.name Lib.Math.max.code 2 (some .int), Cond.methodLink RX1 80 yX0_putIn, Cond.instanceMethod yX0_putIn, Cond.selects RX0 yX0_putIn yX0_putIn, Cond.code yX0_putIn cX0_putIn 5 none]
def wsX1_join_r2 : List Cond := [Cond.fieldLink RX0 9 "FragmentHouse$Datagram" "cells" "[I", Cond.fieldLink RX0 44 "FragmentHouse$Datagram" "presentCount" "I", Cond.methodLink RX1 84 yX0_isWhole, Cond.instanceMethod yX0_isWhole, Cond.selects RX0 yX0_isWhole yX0_isWhole, Cond.code yX0_isWhole cX0_isWhole 1 (some .boolean), Cond.methodLink RX1 88 yX1_showWhole, Cond.instanceMethod yX1_showWhole, Cond.selects RX1 yX1_showWhole yX1_showWhole, Cond.initialized RX1, Cond.code yX1_showWhole cX1_showWhole 3 none, Cond.fieldLink RX1 28 "FragmentHouse" "wholeCount" "I"]
def wsX1_join : List Cond := .code yX1_join cX1_join 7 (some .int) :: ((wsX1_join_r1 ++ wsX1_join_r2) ++ wsX10 ++ wsX00)
def wsX1_take_r1 : List Cond := [Cond.fieldLink RX1 24 "FragmentHouse" "trayCount" "I", Cond.methodLink RX1 38 yX1_isSound, Cond.static yX1_isSound, Cond.initialized RX1, Cond.code yX1_isSound cX1_isSound 3 (some .boolean), Cond.methodLink RX1 42 yX1_slotFor, Cond.instanceMethod yX1_slotFor, Cond.selects RX1 yX1_slotFor yX1_slotFor, Cond.code yX1_slotFor cX1_slotFor 6 (some .int), Cond.fieldLink RX1 15 "FragmentHouse" "slots" "[LFragmentHouse$Datagram;", Cond.fieldLink RX1 51 "FragmentHouse$Datagram" "inMaking" "Z", Cond.fieldLink RX1 31 "FragmentHouse" "now" "I", Cond.methodLink RX1 64 yX0_isOf, Cond.instanceMethod yX0_isOf, Cond.selects RX0 yX0_isOf yX0_isOf, Cond.initialized RX0, Cond.code yX0_isOf cX0_isOf 4 (some .boolean), Cond.fieldLink RX0 29 "FragmentHouse$Datagram" "sender" "I", Cond.fieldLink RX0 32 "FragmentHouse$Datagram" "identification" "I", Cond.fieldLink RX0 35 "FragmentHouse$Datagram" "protocol" "I", Cond.methodLink RX1 68 yX0_begin, Cond.instanceMethod yX0_begin, Cond.selects RX0 yX0_begin yX0_begin, Cond.code yX0_begin cX0_begin 5 none]
def wsX1_take_r2 : List Cond := [Cond.fieldLink RX0 9 "FragmentHouse$Datagram" "cells" "[I", Cond.fieldLink RX0 15 "FragmentHouse$Datagram" "inMaking" "Z", Cond.fieldLink RX0 38 "FragmentHouse$Datagram" "firstTime" "I", Cond.fieldLink RX0 19 "FragmentHouse$Datagram" "knownEnd" "I", Cond.fieldLink RX0 41 "FragmentHouse$Datagram" "farthestReach" "I", Cond.fieldLink RX0 44 "FragmentHouse$Datagram" "presentCount" "I", Cond.methodLink RX0 23 yJ7_fill_53178, Cond.static yJ7_fill_53178, Cond.initialized RJ7, Cond.code yJ7_fill_53178 cJ7_fill_53178 4 none, Cond.methodLink RX1 46 yX1_join, Cond.instanceMethod yX1_join, Cond.selects RX1 yX1_join yX1_join, Cond.code yX1_join cX1_join 7 (some .int), Cond.fieldLink RX1 9 "FragmentHouse" "tray" "[I", Cond.fieldLink RX1 20 "FragmentHouse" "latestWhole" "LFragmentHouse$Datagram;", Cond.fieldLink RX1 58 "FragmentHouse$Datagram" "knownEnd" "I", Cond.methodLink RX1 72 yX0_isContradictedBy, Cond.instanceMethod yX0_isContradictedBy, Cond.selects RX0 yX0_isContradictedBy yX0_isContradictedBy, Cond.code yX0_isContradictedBy cX0_isContradictedBy 3 (some .boolean), Cond.methodLink RX1 76 yX0_noteReach, Cond.instanceMethod yX0_noteReach, Cond.selects RX0 yX0_noteReach yX0_noteReach]
def wsX1_take_r3 : List Cond := [Cond.code yX0_noteReach cX0_noteReach 3 none, Cond.methodLink RX0 47 Lib.Math.max.name, Cond.static Lib.Math.max.name, Cond.initialized "java/lang/Math", Cond.code Lib.Math.max.name Lib.Math.max.code 2 (some .int), Cond.methodLink RX1 80 yX0_putIn, Cond.instanceMethod yX0_putIn, Cond.selects RX0 yX0_putIn yX0_putIn, Cond.code yX0_putIn cX0_putIn 5 none, Cond.methodLink RX1 84 yX0_isWhole, Cond.instanceMethod yX0_isWhole, Cond.selects RX0 yX0_isWhole yX0_isWhole, Cond.code yX0_isWhole cX0_isWhole 1 (some .boolean), Cond.methodLink RX1 88 yX1_showWhole, Cond.instanceMethod yX1_showWhole, Cond.selects RX1 yX1_showWhole yX1_showWhole, Cond.code yX1_showWhole cX1_showWhole 3 none, Cond.fieldLink RX1 28 "FragmentHouse" "wholeCount" "I"]
def wsX1_take : List Cond := .code yX1_take cX1_take 9 (some .int) :: ((wsX1_take_r1 ++ (wsX1_take_r2 ++ wsX1_take_r3)) ++ wsX10 ++ wsX00)
def wsX1_pass : List Cond := .code yX1_pass cX1_pass 4 (some .int) :: ([.fieldLink RX1 31 "FragmentHouse" "now" "I", .constant RX1 50 (2000000000), .fieldLink RX1 15 "FragmentHouse" "slots" "[LFragmentHouse$Datagram;", .fieldLink RX1 51 "FragmentHouse$Datagram" "inMaking" "Z", .fieldLink RX1 55 "FragmentHouse$Datagram" "firstTime" "I"] ++ wsX10 ++ wsX00)
def wsX1_making : List Cond := .code yX1_making cX1_making 3 (some .int) :: ([.fieldLink RX1 15 "FragmentHouse" "slots" "[LFragmentHouse$Datagram;", .fieldLink RX1 51 "FragmentHouse$Datagram" "inMaking" "Z"] ++ wsX10 ++ wsX00)
def wsX1_made : List Cond := .code yX1_made cX1_made 1 (some .int) :: ([.fieldLink RX1 28 "FragmentHouse" "wholeCount" "I"] ++ wsX10)
def wsX1_length : List Cond := .code yX1_length cX1_length 1 (some .int) :: ([.fieldLink RX1 20 "FragmentHouse" "latestWhole" "LFragmentHouse$Datagram;", .fieldLink RX1 58 "FragmentHouse$Datagram" "knownEnd" "I"] ++ wsX10 ++ wsX00)
def wsX1_at : List Cond := .code yX1_at cX1_at 2 (some .int) :: ([.fieldLink RX1 20 "FragmentHouse" "latestWhole" "LFragmentHouse$Datagram;", .fieldLink RX1 58 "FragmentHouse$Datagram" "knownEnd" "I", .fieldLink RX1 61 "FragmentHouse$Datagram" "cells" "[I"] ++ wsX10 ++ wsX00)
def wsX2_init : List Cond := .code yX2_init cX2_init 1 none :: ([.methodLink RX2 1 objectInit, .instanceMethod objectInit, .code objectInit ⟨#[0xb1]⟩ 1 none, .arrayClass .byte, .fieldLink RX2 9 "FragmentHouseModel" "tray" "[B", .arrayClass .int, .fieldLink RX2 13 "FragmentHouseModel" "senders" "[I", .fieldLink RX2 17 "FragmentHouseModel" "identifications" "[I", .fieldLink RX2 20 "FragmentHouseModel" "protocols" "[I", .fieldLink RX2 23 "FragmentHouseModel" "ends" "[I", .fieldLink RX2 26 "FragmentHouseModel" "begun" "[I", .arrayClass .boolean, .fieldLink RX2 29 "FragmentHouseModel" "there" "[Z", .fieldLink RX2 33 "FragmentHouseModel" "bytes" "[I", .fieldLink RX2 36 "FragmentHouseModel" "whole" "[I", .fieldLink RX2 39 "FragmentHouseModel" "length" "I"] ++ wsX20)
def wsX2_word : List Cond := .code yX2_word cX2_word 3 none :: ([.fieldLink RX2 9 "FragmentHouseModel" "tray" "[B", .fieldLink RX2 43 "FragmentHouseModel" "trayed" "I"] ++ wsX20)
def wsX2_feed : List Cond := .code yX2_feed cX2_feed 6 (some .int) :: ([.fieldLink RX2 43 "FragmentHouseModel" "trayed" "I", .methodLink RX2 46 yX2_word, .instanceMethod yX2_word, .selects RX2 yX2_word yX2_word, .initialized RX2, .code yX2_word cX2_word 3 none, .fieldLink RX2 9 "FragmentHouseModel" "tray" "[B"] ++ wsX20)
def wsX2_end : List Cond := .code yX2_end cX2_end 2 (some .int) :: ([.fieldLink RX2 43 "FragmentHouseModel" "trayed" "I"] ++ wsX20)
def wsX2_find : List Cond := .code yX2_find cX2_find 5 (some .int) :: ([.fieldLink RX2 29 "FragmentHouseModel" "there" "[Z", .fieldLink RX2 13 "FragmentHouseModel" "senders" "[I", .fieldLink RX2 17 "FragmentHouseModel" "identifications" "[I", .fieldLink RX2 20 "FragmentHouseModel" "protocols" "[I"] ++ wsX20)
def wsX2_begin : List Cond := .code yX2_begin cX2_begin 6 (some .int) :: ([.fieldLink RX2 29 "FragmentHouseModel" "there" "[Z", .fieldLink RX2 13 "FragmentHouseModel" "senders" "[I", .fieldLink RX2 17 "FragmentHouseModel" "identifications" "[I", .fieldLink RX2 20 "FragmentHouseModel" "protocols" "[I", .fieldLink RX2 23 "FragmentHouseModel" "ends" "[I", .fieldLink RX2 26 "FragmentHouseModel" "begun" "[I", .fieldLink RX2 50 "FragmentHouseModel" "now" "I", .fieldLink RX2 33 "FragmentHouseModel" "bytes" "[I"] ++ wsX20)
def wsX2_take : List Cond := .code yX2_take cX2_take 12 (some .int) :: ([.fieldLink RX2 43 "FragmentHouseModel" "trayed" "I", .fieldLink RX2 23 "FragmentHouseModel" "ends" "[I", .fieldLink RX2 33 "FragmentHouseModel" "bytes" "[I", .fieldLink RX2 29 "FragmentHouseModel" "there" "[Z", .fieldLink RX2 9 "FragmentHouseModel" "tray" "[B", .fieldLink RX2 39 "FragmentHouseModel" "length" "I", .fieldLink RX2 36 "FragmentHouseModel" "whole" "[I", .fieldLink RX2 60 "FragmentHouseModel" "made" "I", .methodLink RX2 53 yX2_find, .instanceMethod yX2_find, .selects RX2 yX2_find yX2_find, .initialized RX2, .code yX2_find cX2_find 5 (some .int), .fieldLink RX2 13 "FragmentHouseModel" "senders" "[I", .fieldLink RX2 17 "FragmentHouseModel" "identifications" "[I", .fieldLink RX2 20 "FragmentHouseModel" "protocols" "[I", .methodLink RX2 57 yX2_begin, .instanceMethod yX2_begin, .selects RX2 yX2_begin yX2_begin, .code yX2_begin cX2_begin 6 (some .int), .fieldLink RX2 26 "FragmentHouseModel" "begun" "[I", .fieldLink RX2 50 "FragmentHouseModel" "now" "I"] ++ wsX20)
def wsX2_pass : List Cond := .code yX2_pass cX2_pass 4 (some .int) :: ([.fieldLink RX2 50 "FragmentHouseModel" "now" "I", .constant RX2 63 (2000000000), .fieldLink RX2 29 "FragmentHouseModel" "there" "[Z", .fieldLink RX2 26 "FragmentHouseModel" "begun" "[I"] ++ wsX20)
def wsX2_making : List Cond := .code yX2_making cX2_making 3 (some .int) :: ([.fieldLink RX2 29 "FragmentHouseModel" "there" "[Z"] ++ wsX20)
def wsX2_made : List Cond := .code yX2_made cX2_made 1 (some .int) :: ([.fieldLink RX2 60 "FragmentHouseModel" "made" "I"] ++ wsX20)
def wsX2_length : List Cond := .code yX2_length cX2_length 1 (some .int) :: ([.fieldLink RX2 39 "FragmentHouseModel" "length" "I"] ++ wsX20)
def wsX2_at : List Cond := .code yX2_at cX2_at 2 (some .int) :: ([.fieldLink RX2 39 "FragmentHouseModel" "length" "I", .fieldLink RX2 36 "FragmentHouseModel" "whole" "[I"] ++ wsX20)
def wsJ9_max_7cf53 : List Cond := .code yJ9_max_7cf53 cJ9_max_7cf53 2 (some .int) :: ([])
def wsL_law_r1 : List Cond := [Cond.classLink RL 7 RX1, Cond.instantiable RX1 6, Cond.initialized RX1, Cond.classLink RL 10 RX2, Cond.instantiable RX2 13, Cond.initialized RX2, Cond.methodLink RL 9 yX1_init, Cond.instanceMethod yX1_init, Cond.code yX1_init cX1_init 2 none, Cond.methodLink RX1 1 objectInit, Cond.instanceMethod objectInit, Cond.code objectInit ⟨#[0xb1]⟩ 1 none, Cond.arrayClass .int, Cond.fieldLink RX1 9 "FragmentHouse" "tray" "[I", Cond.classLink RX1 13 RX0, Cond.fieldLink RX1 15 "FragmentHouse" "slots" "[LFragmentHouse$Datagram;", Cond.instantiable RX0 9, Cond.initialized RX0, Cond.fieldLink RX1 20 "FragmentHouse" "latestWhole" "LFragmentHouse$Datagram;", Cond.fieldLink RX1 24 "FragmentHouse" "trayCount" "I", Cond.fieldLink RX1 28 "FragmentHouse" "wholeCount" "I", Cond.fieldLink RX1 31 "FragmentHouse" "now" "I", Cond.methodLink RX1 19 yX0_init, Cond.instanceMethod yX0_init]
def wsL_law_r2 : List Cond := [Cond.code yX0_init cX0_init 1 none, Cond.methodLink RX0 3 objectInit, Cond.fieldLink RX0 9 "FragmentHouse$Datagram" "cells" "[I", Cond.fieldLink RX0 15 "FragmentHouse$Datagram" "inMaking" "Z", Cond.fieldLink RX0 19 "FragmentHouse$Datagram" "knownEnd" "I", Cond.methodLink RL 12 yX2_init, Cond.instanceMethod yX2_init, Cond.code yX2_init cX2_init 1 none, Cond.methodLink RX2 1 objectInit, Cond.arrayClass .byte, Cond.fieldLink RX2 9 "FragmentHouseModel" "tray" "[B", Cond.fieldLink RX2 13 "FragmentHouseModel" "senders" "[I", Cond.fieldLink RX2 17 "FragmentHouseModel" "identifications" "[I", Cond.fieldLink RX2 20 "FragmentHouseModel" "protocols" "[I", Cond.fieldLink RX2 23 "FragmentHouseModel" "ends" "[I", Cond.fieldLink RX2 26 "FragmentHouseModel" "begun" "[I", Cond.arrayClass .boolean, Cond.fieldLink RX2 29 "FragmentHouseModel" "there" "[Z", Cond.fieldLink RX2 33 "FragmentHouseModel" "bytes" "[I", Cond.fieldLink RX2 36 "FragmentHouseModel" "whole" "[I", Cond.fieldLink RX2 39 "FragmentHouseModel" "length" "I", Cond.methodLink RL 13 yX1_feed, Cond.instanceMethod yX1_feed, Cond.selects RX1 yX1_feed yX1_feed]
def wsL_law_r3 : List Cond := [Cond.code yX1_feed cX1_feed 6 (some .int), Cond.methodLink RX1 34 yX1_putWord, Cond.instanceMethod yX1_putWord, Cond.selects RX1 yX1_putWord yX1_putWord, Cond.code yX1_putWord cX1_putWord 4 none, Cond.methodLink RL 17 yX2_feed, Cond.instanceMethod yX2_feed, Cond.selects RX2 yX2_feed yX2_feed, Cond.code yX2_feed cX2_feed 6 (some .int), Cond.fieldLink RX2 43 "FragmentHouseModel" "trayed" "I", Cond.methodLink RX2 46 yX2_word, Cond.instanceMethod yX2_word, Cond.selects RX2 yX2_word yX2_word, Cond.code yX2_word cX2_word 3 none, Cond.methodLink RL 18 yX1_end, Cond.instanceMethod yX1_end, Cond.selects RX1 yX1_end yX1_end, Cond.code yX1_end cX1_end 2 (some .int), Cond.methodLink RL 22 yX2_end, Cond.instanceMethod yX2_end, Cond.selects RX2 yX2_end yX2_end, Cond.code yX2_end cX2_end 2 (some .int), Cond.methodLink RL 23 yX1_take, Cond.instanceMethod yX1_take]
def wsL_law_r4 : List Cond := [Cond.selects RX1 yX1_take yX1_take, Cond.code yX1_take cX1_take 9 (some .int), Cond.methodLink RX1 38 yX1_isSound, Cond.static yX1_isSound, Cond.code yX1_isSound cX1_isSound 3 (some .boolean), Cond.methodLink RX1 42 yX1_slotFor, Cond.instanceMethod yX1_slotFor, Cond.selects RX1 yX1_slotFor yX1_slotFor, Cond.code yX1_slotFor cX1_slotFor 6 (some .int), Cond.fieldLink RX1 51 "FragmentHouse$Datagram" "inMaking" "Z", Cond.methodLink RX1 64 yX0_isOf, Cond.instanceMethod yX0_isOf, Cond.selects RX0 yX0_isOf yX0_isOf, Cond.code yX0_isOf cX0_isOf 4 (some .boolean), Cond.fieldLink RX0 29 "FragmentHouse$Datagram" "sender" "I", Cond.fieldLink RX0 32 "FragmentHouse$Datagram" "identification" "I", Cond.fieldLink RX0 35 "FragmentHouse$Datagram" "protocol" "I", Cond.methodLink RX1 68 yX0_begin, Cond.instanceMethod yX0_begin, Cond.selects RX0 yX0_begin yX0_begin, Cond.code yX0_begin cX0_begin 5 none, Cond.fieldLink RX0 38 "FragmentHouse$Datagram" "firstTime" "I", Cond.fieldLink RX0 41 "FragmentHouse$Datagram" "farthestReach" "I", Cond.fieldLink RX0 44 "FragmentHouse$Datagram" "presentCount" "I"]
def wsL_law_r5 : List Cond := [Cond.methodLink RX0 23 yJ7_fill_53178, Cond.static yJ7_fill_53178, Cond.initialized RJ7, Cond.code yJ7_fill_53178 cJ7_fill_53178 4 none, Cond.methodLink RX1 46 yX1_join, Cond.instanceMethod yX1_join, Cond.selects RX1 yX1_join yX1_join, Cond.code yX1_join cX1_join 7 (some .int), Cond.fieldLink RX1 58 "FragmentHouse$Datagram" "knownEnd" "I", Cond.methodLink RX1 72 yX0_isContradictedBy, Cond.instanceMethod yX0_isContradictedBy, Cond.selects RX0 yX0_isContradictedBy yX0_isContradictedBy, Cond.code yX0_isContradictedBy cX0_isContradictedBy 3 (some .boolean), Cond.methodLink RX1 76 yX0_noteReach, Cond.instanceMethod yX0_noteReach, Cond.selects RX0 yX0_noteReach yX0_noteReach, Cond.code yX0_noteReach cX0_noteReach 3 none, Cond.methodLink RX0 47 Lib.Math.max.name, Cond.static Lib.Math.max.name, Cond.initialized "java/lang/Math", Cond.code Lib.Math.max.name Lib.Math.max.code 2 (some .int), Cond.methodLink RX1 80 yX0_putIn, Cond.instanceMethod yX0_putIn, Cond.selects RX0 yX0_putIn yX0_putIn]
def wsL_law_r6 : List Cond := [Cond.code yX0_putIn cX0_putIn 5 none, Cond.methodLink RX1 84 yX0_isWhole, Cond.instanceMethod yX0_isWhole, Cond.selects RX0 yX0_isWhole yX0_isWhole, Cond.code yX0_isWhole cX0_isWhole 1 (some .boolean), Cond.methodLink RX1 88 yX1_showWhole, Cond.instanceMethod yX1_showWhole, Cond.selects RX1 yX1_showWhole yX1_showWhole, Cond.code yX1_showWhole cX1_showWhole 3 none, Cond.methodLink RL 27 yX2_take, Cond.instanceMethod yX2_take, Cond.selects RX2 yX2_take yX2_take, Cond.code yX2_take cX2_take 12 (some .int), Cond.fieldLink RX2 60 "FragmentHouseModel" "made" "I", Cond.methodLink RX2 53 yX2_find, Cond.instanceMethod yX2_find, Cond.selects RX2 yX2_find yX2_find, Cond.code yX2_find cX2_find 5 (some .int), Cond.methodLink RX2 57 yX2_begin, Cond.instanceMethod yX2_begin, Cond.selects RX2 yX2_begin yX2_begin, Cond.code yX2_begin cX2_begin 6 (some .int), Cond.fieldLink RX2 50 "FragmentHouseModel" "now" "I", Cond.methodLink RL 28 yX1_pass]
def wsL_law_r7 : List Cond := [Cond.instanceMethod yX1_pass, Cond.selects RX1 yX1_pass yX1_pass, Cond.code yX1_pass cX1_pass 4 (some .int), Cond.constant RX1 50 (2000000000), Cond.fieldLink RX1 55 "FragmentHouse$Datagram" "firstTime" "I", Cond.methodLink RL 31 yX2_pass, Cond.instanceMethod yX2_pass, Cond.selects RX2 yX2_pass yX2_pass, Cond.code yX2_pass cX2_pass 4 (some .int), Cond.constant RX2 63 (2000000000), Cond.methodLink RL 32 yX1_making, Cond.instanceMethod yX1_making, Cond.selects RX1 yX1_making yX1_making, Cond.code yX1_making cX1_making 3 (some .int), Cond.methodLink RL 36 yX2_making, Cond.instanceMethod yX2_making, Cond.selects RX2 yX2_making yX2_making, Cond.code yX2_making cX2_making 3 (some .int), Cond.methodLink RL 37 yX1_made, Cond.instanceMethod yX1_made, Cond.selects RX1 yX1_made yX1_made, Cond.code yX1_made cX1_made 1 (some .int), Cond.methodLink RL 40 yX2_made, Cond.instanceMethod yX2_made]
def wsL_law_r8 : List Cond := [Cond.selects RX2 yX2_made yX2_made, Cond.code yX2_made cX2_made 1 (some .int), Cond.methodLink RL 41 yX1_length, Cond.instanceMethod yX1_length, Cond.selects RX1 yX1_length yX1_length, Cond.code yX1_length cX1_length 1 (some .int), Cond.methodLink RL 44 yX2_length, Cond.instanceMethod yX2_length, Cond.selects RX2 yX2_length yX2_length, Cond.code yX2_length cX2_length 1 (some .int), Cond.methodLink RL 45 yX1_at, Cond.instanceMethod yX1_at, Cond.selects RX1 yX1_at yX1_at, Cond.code yX1_at cX1_at 2 (some .int), Cond.fieldLink RX1 61 "FragmentHouse$Datagram" "cells" "[I", Cond.methodLink RL 48 yX2_at, Cond.instanceMethod yX2_at, Cond.selects RX2 yX2_at yX2_at, Cond.code yX2_at cX2_at 2 (some .int)]
def wsL_law : List Cond := (wsL_law_r1 ++ (wsL_law_r2 ++ (wsL_law_r3 ++ (wsL_law_r4 ++ (wsL_law_r5 ++ (wsL_law_r6 ++ (wsL_law_r7 ++ wsL_law_r8))))))) ++ wsX10 ++ wsX20 ++ wsX00 ++ ([] : List Cond)
set_option maxRecDepth 20000 in
theorem wsL_law_in : ∀ w ∈ wsL_law, w ∈ lw_tbl := fun w h => (goodIn_p wsL_law [17, 20, 26, 166, 83, 87, 213, 217, 91, 221, 95, 98, 102, 106, 110, 113, 117, 121, 125, 128, 132, 136, 140, 225, 229, 233, 144, 237, 149, 242, 153, 246, 157, 250, 161, 254] (by decide +kernel) (by decide +kernel) w h).1
theorem inlX0 : ∀ w ∈ wsX00, w ∈ wsL_law := fun _ h => List.mem_append_left _ (List.mem_append_right _ h)
theorem inX0 : ∀ w ∈ wsX00, w ∈ lw_tbl := fun w h => wsL_law_in w (inlX0 w h)
theorem inlX1 : ∀ w ∈ wsX10, w ∈ wsL_law := fun _ h => List.mem_append_left _ (List.mem_append_left _ (List.mem_append_left _ (List.mem_append_right _ h)))
theorem inX1 : ∀ w ∈ wsX10, w ∈ lw_tbl := fun w h => wsL_law_in w (inlX1 w h)
theorem inlX2 : ∀ w ∈ wsX20, w ∈ wsL_law := fun _ h => List.mem_append_left _ (List.mem_append_left _ (List.mem_append_right _ h))
theorem inX2 : ∀ w ∈ wsX20, w ∈ lw_tbl := fun w h => wsL_law_in w (inlX2 w h)
theorem inJ9 : ∀ w ∈ wsJ90, w ∈ lw_tbl := by decide +kernel
theorem inJ7 : ∀ w ∈ wsJ70, w ∈ lw_tbl := by decide +kernel
abbrev vwCl : List vw_C := [(RX0, TX0, 9), (RX1, TX1, 6), (RX2, TX2, 13)]
/-! ===== END printed: names ===== -/
