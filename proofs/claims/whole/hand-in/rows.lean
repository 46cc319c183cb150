section
-- ===== PART A: goes FIRST, ahead of the names: the tables' words, and 'selects' of the private methods out of them =====
/-- a private method of a class that the tables say can be made, by its rows of tables_1 -/
def lw_okq (q : MethodName × Nat) : Prop := (q.1.cls ≠ "java/lang/invoke/MethodHandle" ∧ q.1.cls ≠ "java/lang/invoke/VarHandle") ∧ Cond.instantiable q.1.cls q.2 ∈ tables_1 ∧ Cond.privateMethod q.1 ∈ tables_1 ∧ Cond.instanceMethod q.1 ∈ tables_1
theorem lw_p0 : lw_okq (⟨"FragmentHouse", "putWord", "(II)V"⟩, 6) := ⟨⟨by decide +kernel, by decide +kernel⟩, List.mem_of_getElem? (i := 7) (by decide +kernel), List.mem_of_getElem? (i := 78) (by decide +kernel), List.mem_of_getElem? (i := 79) (by decide +kernel)⟩
theorem lw_p1 : lw_okq (⟨"FragmentHouse", "slotFor", "(III)I"⟩, 6) := ⟨⟨by decide +kernel, by decide +kernel⟩, List.mem_of_getElem? (i := 7) (by decide +kernel), List.mem_of_getElem? (i := 93) (by decide +kernel), List.mem_of_getElem? (i := 94) (by decide +kernel)⟩
theorem lw_p2 : lw_okq (⟨"FragmentHouse", "join", "(IIIZ)I"⟩, 6) := ⟨⟨by decide +kernel, by decide +kernel⟩, List.mem_of_getElem? (i := 7) (by decide +kernel), List.mem_of_getElem? (i := 108) (by decide +kernel), List.mem_of_getElem? (i := 109) (by decide +kernel)⟩
theorem lw_p3 : lw_okq (⟨"FragmentHouse", "showWhole", "(I)V"⟩, 6) := ⟨⟨by decide +kernel, by decide +kernel⟩, List.mem_of_getElem? (i := 7) (by decide +kernel), List.mem_of_getElem? (i := 131) (by decide +kernel), List.mem_of_getElem? (i := 132) (by decide +kernel)⟩
theorem lw_p4 : lw_okq (⟨"FragmentHouseModel", "word", "(I)V"⟩, 13) := ⟨⟨by decide +kernel, by decide +kernel⟩, List.mem_of_getElem? (i := 156) (by decide +kernel), List.mem_of_getElem? (i := 208) (by decide +kernel), List.mem_of_getElem? (i := 209) (by decide +kernel)⟩
theorem lw_p5 : lw_okq (⟨"FragmentHouseModel", "find", "(III)I"⟩, 13) := ⟨⟨by decide +kernel, by decide +kernel⟩, List.mem_of_getElem? (i := 156) (by decide +kernel), List.mem_of_getElem? (i := 220) (by decide +kernel), List.mem_of_getElem? (i := 221) (by decide +kernel)⟩
theorem lw_p6 : lw_okq (⟨"FragmentHouseModel", "begin", "(III)I"⟩, 13) := ⟨⟨by decide +kernel, by decide +kernel⟩, List.mem_of_getElem? (i := 156) (by decide +kernel), List.mem_of_getElem? (i := 224) (by decide +kernel), List.mem_of_getElem? (i := 225) (by decide +kernel)⟩
def lw_privs_1 : List (MethodName × Nat) := [(⟨"FragmentHouse", "putWord", "(II)V"⟩, 6), (⟨"FragmentHouse", "slotFor", "(III)I"⟩, 6), (⟨"FragmentHouse", "join", "(IIIZ)I"⟩, 6), (⟨"FragmentHouse", "showWhole", "(I)V"⟩, 6), (⟨"FragmentHouseModel", "word", "(I)V"⟩, 13), (⟨"FragmentHouseModel", "find", "(III)I"⟩, 13), (⟨"FragmentHouseModel", "begin", "(III)I"⟩, 13)]
theorem lw_r1 : ∀ q ∈ lw_privs_1, lw_okq q := List.forall_mem_cons.mpr ⟨lw_p0, List.forall_mem_cons.mpr ⟨lw_p1, List.forall_mem_cons.mpr ⟨lw_p2, List.forall_mem_cons.mpr ⟨lw_p3, List.forall_mem_cons.mpr ⟨lw_p4, List.forall_mem_cons.mpr ⟨lw_p5, List.forall_mem_cons.mpr ⟨lw_p6, fun _ h => absurd h List.not_mem_nil⟩⟩⟩⟩⟩⟩⟩
def lw_privs : List (MethodName × Nat) := lw_privs_1
def lw_tbl : List Cond := k2_sels lw_privs ++ tables_1
theorem lw_privs_ok : ∀ q ∈ lw_privs, lw_okq q := lw_r1
end
section
/-! ===== BEGIN words of one list among another's, by their places ===== -/
theorem goodIn_r {big : List Cond} (ws : List Cond) (ps : List Nat) (hp : ws = ps.filterMap (fun i => big[i]?)) (h : ws.all goodWord = true) : GoodIn big ws := by
  intro w hw
  have h1 := List.all_eq_true.mp h w hw
  rw [hp] at hw
  obtain ⟨i, -, hi⟩ := List.mem_filterMap.mp hw
  have hm : w ∈ big := by first | exact List.mem_of_getElem? hi | exact List.getElem?_mem hi
  exact ⟨hm, good_of_word h1⟩
theorem goodIn_app {big a b : List Cond} (ha : GoodIn big a) (hb : GoodIn big b) : GoodIn big (a ++ b) := fun w h => (List.mem_append.mp h).elim (ha w) (hb w)
theorem goodIn_ca {big a b : List Cond} {c : Cond} (ha : GoodIn big (c :: a)) (hb : GoodIn big b) : GoodIn big (c :: (a ++ b)) := fun w h => (List.mem_cons.mp h).elim (fun e => ha w (List.mem_cons.mpr (Or.inl e))) (fun h => (List.mem_append.mp h).elim (fun h => ha w (List.mem_cons.mpr (Or.inr h))) (hb w))
theorem goodIn_sub {big ws : List Cond} (hm : ∀ w ∈ ws, w ∈ big) (h : ws.all goodWord = true) : GoodIn big ws := fun w hw => ⟨hm w hw, good_of_word (List.all_eq_true.mp h w hw)⟩
/-! ===== END ===== -/

/-! ===== BEGIN printed: names, fields, word lists, decode rows ===== -/
def RX0 : String := "FragmentHouse$Datagram"
def TX0 : u_T := fun k => match k with
  | 0 => ("FragmentHouse$Datagram", "cells", "[I", true)
  | 1 => ("FragmentHouse$Datagram", "inMaking", "Z", false)
  | 2 => ("FragmentHouse$Datagram", "sender", "I", false)
  | 3 => ("FragmentHouse$Datagram", "identification", "I", false)
  | 4 => ("FragmentHouse$Datagram", "protocol", "I", false)
  | 5 => ("FragmentHouse$Datagram", "firstTime", "I", false)
  | 6 => ("FragmentHouse$Datagram", "knownEnd", "I", false)
  | 7 => ("FragmentHouse$Datagram", "farthestReach", "I", false)
  | _ => ("FragmentHouse$Datagram", "presentCount", "I", false)
def tyX0 : Nat → FieldType := fun k => match k with
  | 0 => .array .int
  | 1 => .boolean
  | 2 => .int
  | 3 => .int
  | 4 => .int
  | 5 => .int
  | 6 => .int
  | 7 => .int
  | _ => .int
abbrev wsX00 : List Cond := u_ws RX0 TX0 9
theorem nmX0 : ∀ a, a < 9 → ∀ b, b < 9 → a ≠ b → (TX0 a).2.1 ≠ (TX0 b).2.1 := by decide +kernel
theorem tyX0_ok : ∀ k, k < 9 → parseFieldDescriptor (TX0 k).2.2.1 = some (tyX0 k) := by decide +kernel
abbrev cX0_init : ByteArray := prog_2_method_1_code
def yX0_init : MethodName := ⟨RX0, "<init>", "()V"⟩
abbrev cX0_begin : ByteArray := prog_2_method_2_code
def yX0_begin : MethodName := ⟨RX0, "begin", "(IIII)V"⟩
abbrev cX0_isOf : ByteArray := prog_2_method_3_code
def yX0_isOf : MethodName := ⟨RX0, "isOf", "(III)Z"⟩
abbrev cX0_isContradictedBy : ByteArray := prog_2_method_4_code
def yX0_isContradictedBy : MethodName := ⟨RX0, "isContradictedBy", "(IZ)Z"⟩
abbrev cX0_noteReach : ByteArray := prog_2_method_5_code
def yX0_noteReach : MethodName := ⟨RX0, "noteReach", "(IZ)V"⟩
abbrev cX0_putIn : ByteArray := prog_2_method_6_code
def yX0_putIn : MethodName := ⟨RX0, "putIn", "([III)V"⟩
abbrev cX0_isWhole : ByteArray := prog_2_method_7_code
def yX0_isWhole : MethodName := ⟨RX0, "isWhole", "()Z"⟩
def RX1 : String := "FragmentHouse"
def TX1 : u_T := fun k => match k with
  | 0 => ("FragmentHouse", "tray", "[I", true)
  | 1 => ("FragmentHouse", "slots", "[LFragmentHouse$Datagram;", true)
  | 2 => ("FragmentHouse", "latestWhole", "LFragmentHouse$Datagram;", false)
  | 3 => ("FragmentHouse", "trayCount", "I", false)
  | 4 => ("FragmentHouse", "wholeCount", "I", false)
  | _ => ("FragmentHouse", "now", "I", false)
def tyX1 : Nat → FieldType := fun k => match k with
  | 0 => .array .int
  | 1 => .array (.object "FragmentHouse$Datagram")
  | 2 => .object "FragmentHouse$Datagram"
  | 3 => .int
  | 4 => .int
  | _ => .int
abbrev wsX10 : List Cond := u_ws RX1 TX1 6
theorem nmX1 : ∀ a, a < 6 → ∀ b, b < 6 → a ≠ b → (TX1 a).2.1 ≠ (TX1 b).2.1 := by decide +kernel
theorem tyX1_ok : ∀ k, k < 6 → parseFieldDescriptor (TX1 k).2.2.1 = some (tyX1 k) := by decide +kernel
abbrev cX1_init : ByteArray := prog_1_method_1_code
def yX1_init : MethodName := ⟨RX1, "<init>", "()V"⟩
abbrev cX1_feed : ByteArray := prog_1_method_2_code
def yX1_feed : MethodName := ⟨RX1, "feed", "(IIIII)I"⟩
abbrev cX1_end : ByteArray := prog_1_method_3_code
def yX1_end : MethodName := ⟨RX1, "end", "(I)I"⟩
abbrev cX1_take : ByteArray := prog_1_method_4_code
def yX1_take : MethodName := ⟨RX1, "take", "(IIIIZ)I"⟩
abbrev cX1_pass : ByteArray := prog_1_method_5_code
def yX1_pass : MethodName := ⟨RX1, "pass", "(I)I"⟩
abbrev cX1_making : ByteArray := prog_1_method_6_code
def yX1_making : MethodName := ⟨RX1, "making", "()I"⟩
abbrev cX1_made : ByteArray := prog_1_method_7_code
def yX1_made : MethodName := ⟨RX1, "made", "()I"⟩
abbrev cX1_length : ByteArray := prog_1_method_8_code
def yX1_length : MethodName := ⟨RX1, "length", "()I"⟩
abbrev cX1_at : ByteArray := prog_1_method_9_code
def yX1_at : MethodName := ⟨RX1, "at", "(I)I"⟩
abbrev cX1_putWord : ByteArray := prog_1_method_10_code
def yX1_putWord : MethodName := ⟨RX1, "putWord", "(II)V"⟩
abbrev cX1_isSound : ByteArray := prog_1_method_11_code
def yX1_isSound : MethodName := ⟨RX1, "isSound", "(IIZ)Z"⟩
abbrev cX1_slotFor : ByteArray := prog_1_method_12_code
def yX1_slotFor : MethodName := ⟨RX1, "slotFor", "(III)I"⟩
abbrev cX1_join : ByteArray := prog_1_method_13_code
def yX1_join : MethodName := ⟨RX1, "join", "(IIIZ)I"⟩
abbrev cX1_showWhole : ByteArray := prog_1_method_14_code
def yX1_showWhole : MethodName := ⟨RX1, "showWhole", "(I)V"⟩
def RX2 : String := "FragmentHouseModel"
def TX2 : u_T := fun k => match k with
  | 0 => ("FragmentHouseModel", "tray", "[B", true)
  | 1 => ("FragmentHouseModel", "trayed", "I", false)
  | 2 => ("FragmentHouseModel", "senders", "[I", true)
  | 3 => ("FragmentHouseModel", "identifications", "[I", true)
  | 4 => ("FragmentHouseModel", "protocols", "[I", true)
  | 5 => ("FragmentHouseModel", "ends", "[I", true)
  | 6 => ("FragmentHouseModel", "begun", "[I", true)
  | 7 => ("FragmentHouseModel", "there", "[Z", true)
  | 8 => ("FragmentHouseModel", "bytes", "[I", true)
  | 9 => ("FragmentHouseModel", "whole", "[I", true)
  | 10 => ("FragmentHouseModel", "length", "I", false)
  | 11 => ("FragmentHouseModel", "made", "I", false)
  | _ => ("FragmentHouseModel", "now", "I", false)
def tyX2 : Nat → FieldType := fun k => match k with
  | 0 => .array .byte
  | 1 => .int
  | 2 => .array .int
  | 3 => .array .int
  | 4 => .array .int
  | 5 => .array .int
  | 6 => .array .int
  | 7 => .array .boolean
  | 8 => .array .int
  | 9 => .array .int
  | 10 => .int
  | 11 => .int
  | _ => .int
abbrev wsX20 : List Cond := u_ws RX2 TX2 13
theorem nmX2 : ∀ a, a < 13 → ∀ b, b < 13 → a ≠ b → (TX2 a).2.1 ≠ (TX2 b).2.1 := by decide +kernel
theorem tyX2_ok : ∀ k, k < 13 → parseFieldDescriptor (TX2 k).2.2.1 = some (tyX2 k) := by decide +kernel
abbrev cX2_init : ByteArray := prog_4_method_1_code
def yX2_init : MethodName := ⟨RX2, "<init>", "()V"⟩
abbrev cX2_feed : ByteArray := prog_4_method_3_code
def yX2_feed : MethodName := ⟨RX2, "feed", "(IIIII)I"⟩
abbrev cX2_word : ByteArray := prog_4_method_4_code
def yX2_word : MethodName := ⟨RX2, "word", "(I)V"⟩
abbrev cX2_end : ByteArray := prog_4_method_5_code
def yX2_end : MethodName := ⟨RX2, "end", "(I)I"⟩
abbrev cX2_find : ByteArray := prog_4_method_6_code
def yX2_find : MethodName := ⟨RX2, "find", "(III)I"⟩
abbrev cX2_begin : ByteArray := prog_4_method_7_code
def yX2_begin : MethodName := ⟨RX2, "begin", "(III)I"⟩
abbrev cX2_take : ByteArray := prog_4_method_8_code
def yX2_take : MethodName := ⟨RX2, "take", "(IIIIZ)I"⟩
abbrev cX2_pass : ByteArray := prog_4_method_9_code
def yX2_pass : MethodName := ⟨RX2, "pass", "(I)I"⟩
abbrev cX2_making : ByteArray := prog_4_method_10_code
def yX2_making : MethodName := ⟨RX2, "making", "()I"⟩
abbrev cX2_made : ByteArray := prog_4_method_11_code
def yX2_made : MethodName := ⟨RX2, "made", "()I"⟩
abbrev cX2_length : ByteArray := prog_4_method_12_code
def yX2_length : MethodName := ⟨RX2, "length", "()I"⟩
abbrev cX2_at : ByteArray := prog_4_method_13_code
def yX2_at : MethodName := ⟨RX2, "at", "(I)I"⟩
def RJ9 : String := "java/lang/Math"
def TJ9 : u_T := fun k => match k with
  | _ => ("", "", "", false)
def tyJ9 : Nat → FieldType := fun k => match k with
  | _ => .int
abbrev wsJ90 : List Cond := u_ws RJ9 TJ9 0
theorem nmJ9 : ∀ a, a < 0 → ∀ b, b < 0 → a ≠ b → (TJ9 a).2.1 ≠ (TJ9 b).2.1 := by decide +kernel
theorem tyJ9_ok : ∀ k, k < 0 → parseFieldDescriptor (TJ9 k).2.2.1 = some (tyJ9 k) := by decide +kernel
abbrev cJ9_max_7cf53 : ByteArray := prog_5_method_65_code
def yJ9_max_7cf53 : MethodName := ⟨RJ9, "max", "(II)I"⟩
def RJ7 : String := "java/util/Arrays"
def TJ7 : u_T := fun k => match k with
  | _ => ("", "", "", false)
def tyJ7 : Nat → FieldType := fun k => match k with
  | _ => .int
abbrev wsJ70 : List Cond := u_ws RJ7 TJ7 0
theorem nmJ7 : ∀ a, a < 0 → ∀ b, b < 0 → a ≠ b → (TJ7 a).2.1 ≠ (TJ7 b).2.1 := by decide +kernel
theorem tyJ7_ok : ∀ k, k < 0 → parseFieldDescriptor (TJ7 k).2.2.1 = some (tyJ7 k) := by decide +kernel
abbrev cJ7_fill_53178 : ByteArray := prog_6_method_103_code
def yJ7_fill_53178 : MethodName := ⟨RJ7, "fill", "([II)V"⟩
def RL : String := "FragmentHouseLaw"
abbrev cL_law : ByteArray := code
def yL_law : MethodName := ⟨RL, "law", "([I)Z"⟩
def wsX0_init : List Cond := .code yX0_init cX0_init 1 none :: ([.methodLink RX0 3 objectInit, .instanceMethod objectInit, .code objectInit ⟨#[0xb1]⟩ 1 none, .arrayClass .int, .fieldLink RX0 9 "FragmentHouse$Datagram" "cells" "[I", .fieldLink RX0 15 "FragmentHouse$Datagram" "inMaking" "Z", .fieldLink RX0 19 "FragmentHouse$Datagram" "knownEnd" "I"] ++ wsX00)
def wsJ7_fill_53178 : List Cond := .code yJ7_fill_53178 cJ7_fill_53178 4 none :: ([])
def wsX0_begin : List Cond := .code yX0_begin cX0_begin 5 none :: ([.fieldLink RX0 9 "FragmentHouse$Datagram" "cells" "[I", .fieldLink RX0 15 "FragmentHouse$Datagram" "inMaking" "Z", .fieldLink RX0 29 "FragmentHouse$Datagram" "sender" "I", .fieldLink RX0 32 "FragmentHouse$Datagram" "identification" "I", .fieldLink RX0 35 "FragmentHouse$Datagram" "protocol" "I", .fieldLink RX0 38 "FragmentHouse$Datagram" "firstTime" "I", .fieldLink RX0 19 "FragmentHouse$Datagram" "knownEnd" "I", .fieldLink RX0 41 "FragmentHouse$Datagram" "farthestReach" "I", .fieldLink RX0 44 "FragmentHouse$Datagram" "presentCount" "I", .methodLink RX0 23 yJ7_fill_53178, .static yJ7_fill_53178, .initialized RJ7, .code yJ7_fill_53178 cJ7_fill_53178 4 none] ++ wsX00)
def wsX0_isOf : List Cond := .code yX0_isOf cX0_isOf 4 (some .boolean) :: ([.fieldLink RX0 29 "FragmentHouse$Datagram" "sender" "I", .fieldLink RX0 32 "FragmentHouse$Datagram" "identification" "I", .fieldLink RX0 35 "FragmentHouse$Datagram" "protocol" "I"] ++ wsX00)
def wsX0_isContradictedBy : List Cond := .code yX0_isContradictedBy cX0_isContradictedBy 3 (some .boolean) :: ([.fieldLink RX0 19 "FragmentHouse$Datagram" "knownEnd" "I", .fieldLink RX0 41 "FragmentHouse$Datagram" "farthestReach" "I"] ++ wsX00)
def wsX0_noteReach : List Cond := .code yX0_noteReach cX0_noteReach 3 none :: ([.fieldLink RX0 41 "FragmentHouse$Datagram" "farthestReach" "I", .methodLink RX0 47 Lib.Math.max.name, .static Lib.Math.max.name, .initialized "java/lang/Math", .code Lib.Math.max.name Lib.Math.max.code 2 (some .int), .fieldLink RX0 19 "FragmentHouse$Datagram" "knownEnd" "I"] ++ wsX00)
def wsX0_putIn : List Cond := .code yX0_putIn cX0_putIn 5 none :: ([.fieldLink RX0 9 "FragmentHouse$Datagram" "cells" "[I", .fieldLink RX0 44 "FragmentHouse$Datagram" "presentCount" "I"] ++ wsX00)
def wsX0_isWhole : List Cond := .code yX0_isWhole cX0_isWhole 1 (some .boolean) :: ([.fieldLink RX0 19 "FragmentHouse$Datagram" "knownEnd" "I", .fieldLink RX0 44 "FragmentHouse$Datagram" "presentCount" "I"] ++ wsX00)
def wsX1_init : List Cond := .code yX1_init cX1_init 2 none :: ([.methodLink RX1 1 objectInit, .instanceMethod objectInit, .code objectInit ⟨#[0xb1]⟩ 1 none, .arrayClass .int, .fieldLink RX1 9 "FragmentHouse" "tray" "[I", .classLink RX1 13 RX0, .fieldLink RX1 15 "FragmentHouse" "slots" "[LFragmentHouse$Datagram;", .instantiable RX0 9, .initialized RX0, .fieldLink RX1 20 "FragmentHouse" "latestWhole" "LFragmentHouse$Datagram;", .fieldLink RX1 24 "FragmentHouse" "trayCount" "I", .fieldLink RX1 28 "FragmentHouse" "wholeCount" "I", .fieldLink RX1 31 "FragmentHouse" "now" "I", .methodLink RX1 19 yX0_init, .instanceMethod yX0_init, .code yX0_init cX0_init 1 none, .methodLink RX0 3 objectInit, .fieldLink RX0 9 "FragmentHouse$Datagram" "cells" "[I", .fieldLink RX0 15 "FragmentHouse$Datagram" "inMaking" "Z", .fieldLink RX0 19 "FragmentHouse$Datagram" "knownEnd" "I"] ++ wsX10 ++ wsX00)
def wsX1_putWord : List Cond := .code yX1_putWord cX1_putWord 4 none :: ([.fieldLink RX1 9 "FragmentHouse" "tray" "[I"] ++ wsX10)
def wsX1_feed : List Cond := .code yX1_feed cX1_feed 6 (some .int) :: ([.fieldLink RX1 24 "FragmentHouse" "trayCount" "I", .methodLink RX1 34 yX1_putWord, .instanceMethod yX1_putWord, .selects RX1 yX1_putWord yX1_putWord, .initialized RX1, .code yX1_putWord cX1_putWord 4 none, .fieldLink RX1 9 "FragmentHouse" "tray" "[I"] ++ wsX10)
def wsX1_end : List Cond := .code yX1_end cX1_end 2 (some .int) :: ([.fieldLink RX1 24 "FragmentHouse" "trayCount" "I"] ++ wsX10)
def wsX1_isSound : List Cond := .code yX1_isSound cX1_isSound 3 (some .boolean) :: ([])
def wsX1_slotFor_r1 : List Cond := [Cond.fieldLink RX1 15 "FragmentHouse" "slots" "[LFragmentHouse$Datagram;", Cond.fieldLink RX1 51 "FragmentHouse$Datagram" "inMaking" "Z", Cond.fieldLink RX1 31 "FragmentHouse" "now" "I", Cond.methodLink RX1 64 yX0_isOf, Cond.instanceMethod yX0_isOf, Cond.selects RX0 yX0_isOf yX0_isOf, Cond.initialized RX0, Cond.code yX0_isOf cX0_isOf 4 (some .boolean), Cond.fieldLink RX0 29 "FragmentHouse$Datagram" "sender" "I", Cond.fieldLink RX0 32 "FragmentHouse$Datagram" "identification" "I", Cond.fieldLink RX0 35 "FragmentHouse$Datagram" "protocol" "I", Cond.methodLink RX1 68 yX0_begin, Cond.instanceMethod yX0_begin, Cond.selects RX0 yX0_begin yX0_begin, Cond.code yX0_begin cX0_begin 5 none, Cond.fieldLink RX0 9 "FragmentHouse$Datagram" "cells" "[I", Cond.fieldLink RX0 15 "FragmentHouse$Datagram" "inMaking" "Z", Cond.fieldLink RX0 38 "FragmentHouse$Datagram" "firstTime" "I", Cond.fieldLink RX0 19 "FragmentHouse$Datagram" "knownEnd" "I", Cond.fieldLink RX0 41 "FragmentHouse$Datagram" "farthestReach" "I", Cond.fieldLink RX0 44 "FragmentHouse$Datagram" "presentCount" "I", Cond.methodLink RX0 23 yJ7_fill_53178, Cond.static yJ7_fill_53178, Cond.initialized RJ7]
def wsX1_slotFor_r2 : List Cond := [Cond.code yJ7_fill_53178 cJ7_fill_53178 4 none]
def wsX1_slotFor : List Cond := .code yX1_slotFor cX1_slotFor 6 (some .int) :: ((wsX1_slotFor_r1 ++ wsX1_slotFor_r2) ++ wsX10 ++ wsX00)
def wsX1_showWhole : List Cond := .code yX1_showWhole cX1_showWhole 3 none :: ([.fieldLink RX1 15 "FragmentHouse" "slots" "[LFragmentHouse$Datagram;", .fieldLink RX1 51 "FragmentHouse$Datagram" "inMaking" "Z", .fieldLink RX1 20 "FragmentHouse" "latestWhole" "LFragmentHouse$Datagram;", .fieldLink RX1 28 "FragmentHouse" "wholeCount" "I"] ++ wsX10 ++ wsX00)
def wsX1_join_r1 : List Cond := [Cond.fieldLink RX1 15 "FragmentHouse" "slots" "[LFragmentHouse$Datagram;", Cond.fieldLink RX1 51 "FragmentHouse$Datagram" "inMaking" "Z", Cond.fieldLink RX1 9 "FragmentHouse" "tray" "[I", Cond.fieldLink RX1 20 "FragmentHouse" "latestWhole" "LFragmentHouse$Datagram;", Cond.fieldLink RX1 58 "FragmentHouse$Datagram" "knownEnd" "I", Cond.methodLink RX1 72 yX0_isContradictedBy, Cond.instanceMethod yX0_isContradictedBy, Cond.selects RX0 yX0_isContradictedBy yX0_isContradictedBy, Cond.initialized RX0, Cond.code yX0_isContradictedBy cX0_isContradictedBy 3 (some .boolean), Cond.fieldLink RX0 19 "FragmentHouse$Datagram" "knownEnd" "I", Cond.fieldLink RX0 41 "FragmentHouse$Datagram" "farthestReach" "I", Cond.methodLink RX1 76 yX0_noteReach, Cond.instanceMethod yX0_noteReach, Cond.selects RX0 yX0_noteReach yX0_noteReach, Cond.code yX0_noteReach cX0_noteReach 3 none, Cond.methodLink RX0 47 Lib.Math.max.name, Cond.static Lib.Math.max.name, Cond.initialized "java/lang/Math", Cond.code Lib.Math.max.name Lib.Math.max.code 2 (some .int), Cond.methodLink RX1 80 yX0_putIn, Cond.instanceMethod yX0_putIn, Cond.selects RX0 yX0_putIn yX0_putIn, Cond.code yX0_putIn cX0_putIn 5 none]
def wsX1_join_r2 : List Cond := [Cond.fieldLink RX0 9 "FragmentHouse$Datagram" "cells" "[I", Cond.fieldLink RX0 44 "FragmentHouse$Datagram" "presentCount" "I", Cond.methodLink RX1 84 yX0_isWhole, Cond.instanceMethod yX0_isWhole, Cond.selects RX0 yX0_isWhole yX0_isWhole, Cond.code yX0_isWhole cX0_isWhole 1 (some .boolean), Cond.methodLink RX1 88 yX1_showWhole, Cond.instanceMethod yX1_showWhole, Cond.selects RX1 yX1_showWhole yX1_showWhole, Cond.initialized RX1, Cond.code yX1_showWhole cX1_showWhole 3 none, Cond.fieldLink RX1 28 "FragmentHouse" "wholeCount" "I"]
def wsX1_join : List Cond := .code yX1_join cX1_join 7 (some .int) :: ((wsX1_join_r1 ++ wsX1_join_r2) ++ wsX10 ++ wsX00)
def wsX1_take_r1 : List Cond := [Cond.fieldLink RX1 24 "FragmentHouse" "trayCount" "I", Cond.methodLink RX1 38 yX1_isSound, Cond.static yX1_isSound, Cond.initialized RX1, Cond.code yX1_isSound cX1_isSound 3 (some .boolean), Cond.methodLink RX1 42 yX1_slotFor, Cond.instanceMethod yX1_slotFor, Cond.selects RX1 yX1_slotFor yX1_slotFor, Cond.code yX1_slotFor cX1_slotFor 6 (some .int), Cond.fieldLink RX1 15 "FragmentHouse" "slots" "[LFragmentHouse$Datagram;", Cond.fieldLink RX1 51 "FragmentHouse$Datagram" "inMaking" "Z", Cond.fieldLink RX1 31 "FragmentHouse" "now" "I", Cond.methodLink RX1 64 yX0_isOf, Cond.instanceMethod yX0_isOf, Cond.selects RX0 yX0_isOf yX0_isOf, Cond.initialized RX0, Cond.code yX0_isOf cX0_isOf 4 (some .boolean), Cond.fieldLink RX0 29 "FragmentHouse$Datagram" "sender" "I", Cond.fieldLink RX0 32 "FragmentHouse$Datagram" "identification" "I", Cond.fieldLink RX0 35 "FragmentHouse$Datagram" "protocol" "I", Cond.methodLink RX1 68 yX0_begin, Cond.instanceMethod yX0_begin, Cond.selects RX0 yX0_begin yX0_begin, Cond.code yX0_begin cX0_begin 5 none]
def wsX1_take_r2 : List Cond := [Cond.fieldLink RX0 9 "FragmentHouse$Datagram" "cells" "[I", Cond.fieldLink RX0 15 "FragmentHouse$Datagram" "inMaking" "Z", Cond.fieldLink RX0 38 "FragmentHouse$Datagram" "firstTime" "I", Cond.fieldLink RX0 19 "FragmentHouse$Datagram" "knownEnd" "I", Cond.fieldLink RX0 41 "FragmentHouse$Datagram" "farthestReach" "I", Cond.fieldLink RX0 44 "FragmentHouse$Datagram" "presentCount" "I", Cond.methodLink RX0 23 yJ7_fill_53178, Cond.static yJ7_fill_53178, Cond.initialized RJ7, Cond.code yJ7_fill_53178 cJ7_fill_53178 4 none, Cond.methodLink RX1 46 yX1_join, Cond.instanceMethod yX1_join, Cond.selects RX1 yX1_join yX1_join, Cond.code yX1_join cX1_join 7 (some .int), Cond.fieldLink RX1 9 "FragmentHouse" "tray" "[I", Cond.fieldLink RX1 20 "FragmentHouse" "latestWhole" "LFragmentHouse$Datagram;", Cond.fieldLink RX1 58 "FragmentHouse$Datagram" "knownEnd" "I", Cond.methodLink RX1 72 yX0_isContradictedBy, Cond.instanceMethod yX0_isContradictedBy, Cond.selects RX0 yX0_isContradictedBy yX0_isContradictedBy, Cond.code yX0_isContradictedBy cX0_isContradictedBy 3 (some .boolean), Cond.methodLink RX1 76 yX0_noteReach, Cond.instanceMethod yX0_noteReach, Cond.selects RX0 yX0_noteReach yX0_noteReach]
def wsX1_take_r3 : List Cond := [Cond.code yX0_noteReach cX0_noteReach 3 none, Cond.methodLink RX0 47 Lib.Math.max.name, Cond.static Lib.Math.max.name, Cond.initialized "java/lang/Math", Cond.code Lib.Math.max.name Lib.Math.max.code 2 (some .int), Cond.methodLink RX1 80 yX0_putIn, Cond.instanceMethod yX0_putIn, Cond.selects RX0 yX0_putIn yX0_putIn, Cond.code yX0_putIn cX0_putIn 5 none, Cond.methodLink RX1 84 yX0_isWhole, Cond.instanceMethod yX0_isWhole, Cond.selects RX0 yX0_isWhole yX0_isWhole, Cond.code yX0_isWhole cX0_isWhole 1 (some .boolean), Cond.methodLink RX1 88 yX1_showWhole, Cond.instanceMethod yX1_showWhole, Cond.selects RX1 yX1_showWhole yX1_showWhole, Cond.code yX1_showWhole cX1_showWhole 3 none, Cond.fieldLink RX1 28 "FragmentHouse" "wholeCount" "I"]
def wsX1_take : List Cond := .code yX1_take cX1_take 9 (some .int) :: ((wsX1_take_r1 ++ (wsX1_take_r2 ++ wsX1_take_r3)) ++ wsX10 ++ wsX00)
def wsX1_pass : List Cond := .code yX1_pass cX1_pass 4 (some .int) :: ([.fieldLink RX1 31 "FragmentHouse" "now" "I", .constant RX1 50 (2000000000), .fieldLink RX1 15 "FragmentHouse" "slots" "[LFragmentHouse$Datagram;", .fieldLink RX1 51 "FragmentHouse$Datagram" "inMaking" "Z", .fieldLink RX1 55 "FragmentHouse$Datagram" "firstTime" "I"] ++ wsX10 ++ wsX00)
def wsX1_making : List Cond := .code yX1_making cX1_making 3 (some .int) :: ([.fieldLink RX1 15 "FragmentHouse" "slots" "[LFragmentHouse$Datagram;", .fieldLink RX1 51 "FragmentHouse$Datagram" "inMaking" "Z"] ++ wsX10 ++ wsX00)
def wsX1_made : List Cond := .code yX1_made cX1_made 1 (some .int) :: ([.fieldLink RX1 28 "FragmentHouse" "wholeCount" "I"] ++ wsX10)
def wsX1_length : List Cond := .code yX1_length cX1_length 1 (some .int) :: ([.fieldLink RX1 20 "FragmentHouse" "latestWhole" "LFragmentHouse$Datagram;", .fieldLink RX1 58 "FragmentHouse$Datagram" "knownEnd" "I"] ++ wsX10 ++ wsX00)
def wsX1_at : List Cond := .code yX1_at cX1_at 2 (some .int) :: ([.fieldLink RX1 20 "FragmentHouse" "latestWhole" "LFragmentHouse$Datagram;", .fieldLink RX1 58 "FragmentHouse$Datagram" "knownEnd" "I", .fieldLink RX1 61 "FragmentHouse$Datagram" "cells" "[I"] ++ wsX10 ++ wsX00)
def wsX2_init : List Cond := .code yX2_init cX2_init 1 none :: ([.methodLink RX2 1 objectInit, .instanceMethod objectInit, .code objectInit ⟨#[0xb1]⟩ 1 none, .arrayClass .byte, .fieldLink RX2 9 "FragmentHouseModel" "tray" "[B", .arrayClass .int, .fieldLink RX2 13 "FragmentHouseModel" "senders" "[I", .fieldLink RX2 17 "FragmentHouseModel" "identifications" "[I", .fieldLink RX2 20 "FragmentHouseModel" "protocols" "[I", .fieldLink RX2 23 "FragmentHouseModel" "ends" "[I", .fieldLink RX2 26 "FragmentHouseModel" "begun" "[I", .arrayClass .boolean, .fieldLink RX2 29 "FragmentHouseModel" "there" "[Z", .fieldLink RX2 33 "FragmentHouseModel" "bytes" "[I", .fieldLink RX2 36 "FragmentHouseModel" "whole" "[I", .fieldLink RX2 39 "FragmentHouseModel" "length" "I"] ++ wsX20)
def wsX2_word : List Cond := .code yX2_word cX2_word 3 none :: ([.fieldLink RX2 9 "FragmentHouseModel" "tray" "[B", .fieldLink RX2 43 "FragmentHouseModel" "trayed" "I"] ++ wsX20)
def wsX2_feed : List Cond := .code yX2_feed cX2_feed 6 (some .int) :: ([.fieldLink RX2 43 "FragmentHouseModel" "trayed" "I", .methodLink RX2 46 yX2_word, .instanceMethod yX2_word, .selects RX2 yX2_word yX2_word, .initialized RX2, .code yX2_word cX2_word 3 none, .fieldLink RX2 9 "FragmentHouseModel" "tray" "[B"] ++ wsX20)
def wsX2_end : List Cond := .code yX2_end cX2_end 2 (some .int) :: ([.fieldLink RX2 43 "FragmentHouseModel" "trayed" "I"] ++ wsX20)
def wsX2_find : List Cond := .code yX2_find cX2_find 5 (some .int) :: ([.fieldLink RX2 29 "FragmentHouseModel" "there" "[Z", .fieldLink RX2 13 "FragmentHouseModel" "senders" "[I", .fieldLink RX2 17 "FragmentHouseModel" "identifications" "[I", .fieldLink RX2 20 "FragmentHouseModel" "protocols" "[I"] ++ wsX20)
def wsX2_begin : List Cond := .code yX2_begin cX2_begin 6 (some .int) :: ([.fieldLink RX2 29 "FragmentHouseModel" "there" "[Z", .fieldLink RX2 13 "FragmentHouseModel" "senders" "[I", .fieldLink RX2 17 "FragmentHouseModel" "identifications" "[I", .fieldLink RX2 20 "FragmentHouseModel" "protocols" "[I", .fieldLink RX2 23 "FragmentHouseModel" "ends" "[I", .fieldLink RX2 26 "FragmentHouseModel" "begun" "[I", .fieldLink RX2 50 "FragmentHouseModel" "now" "I", .fieldLink RX2 33 "FragmentHouseModel" "bytes" "[I"] ++ wsX20)
def wsX2_take : List Cond := .code yX2_take cX2_take 12 (some .int) :: ([.fieldLink RX2 43 "FragmentHouseModel" "trayed" "I", .fieldLink RX2 23 "FragmentHouseModel" "ends" "[I", .fieldLink RX2 33 "FragmentHouseModel" "bytes" "[I", .fieldLink RX2 29 "FragmentHouseModel" "there" "[Z", .fieldLink RX2 9 "FragmentHouseModel" "tray" "[B", .fieldLink RX2 39 "FragmentHouseModel" "length" "I", .fieldLink RX2 36 "FragmentHouseModel" "whole" "[I", .fieldLink RX2 60 "FragmentHouseModel" "made" "I", .methodLink RX2 53 yX2_find, .instanceMethod yX2_find, .selects RX2 yX2_find yX2_find, .initialized RX2, .code yX2_find cX2_find 5 (some .int), .fieldLink RX2 13 "FragmentHouseModel" "senders" "[I", .fieldLink RX2 17 "FragmentHouseModel" "identifications" "[I", .fieldLink RX2 20 "FragmentHouseModel" "protocols" "[I", .methodLink RX2 57 yX2_begin, .instanceMethod yX2_begin, .selects RX2 yX2_begin yX2_begin, .code yX2_begin cX2_begin 6 (some .int), .fieldLink RX2 26 "FragmentHouseModel" "begun" "[I", .fieldLink RX2 50 "FragmentHouseModel" "now" "I"] ++ wsX20)
def wsX2_pass : List Cond := .code yX2_pass cX2_pass 4 (some .int) :: ([.fieldLink RX2 50 "FragmentHouseModel" "now" "I", .constant RX2 63 (2000000000), .fieldLink RX2 29 "FragmentHouseModel" "there" "[Z", .fieldLink RX2 26 "FragmentHouseModel" "begun" "[I"] ++ wsX20)
def wsX2_making : List Cond := .code yX2_making cX2_making 3 (some .int) :: ([.fieldLink RX2 29 "FragmentHouseModel" "there" "[Z"] ++ wsX20)
def wsX2_made : List Cond := .code yX2_made cX2_made 1 (some .int) :: ([.fieldLink RX2 60 "FragmentHouseModel" "made" "I"] ++ wsX20)
def wsX2_length : List Cond := .code yX2_length cX2_length 1 (some .int) :: ([.fieldLink RX2 39 "FragmentHouseModel" "length" "I"] ++ wsX20)
def wsX2_at : List Cond := .code yX2_at cX2_at 2 (some .int) :: ([.fieldLink RX2 39 "FragmentHouseModel" "length" "I", .fieldLink RX2 36 "FragmentHouseModel" "whole" "[I"] ++ wsX20)
def wsJ9_max_7cf53 : List Cond := .code yJ9_max_7cf53 cJ9_max_7cf53 2 (some .int) :: ([])
def wsL_law_r1 : List Cond := [Cond.classLink RL 7 RX1, Cond.instantiable RX1 6, Cond.initialized RX1, Cond.classLink RL 10 RX2, Cond.instantiable RX2 13, Cond.initialized RX2, Cond.methodLink RL 9 yX1_init, Cond.instanceMethod yX1_init, Cond.code yX1_init cX1_init 2 none, Cond.methodLink RX1 1 objectInit, Cond.instanceMethod objectInit, Cond.code objectInit ⟨#[0xb1]⟩ 1 none, Cond.arrayClass .int, Cond.fieldLink RX1 9 "FragmentHouse" "tray" "[I", Cond.classLink RX1 13 RX0, Cond.fieldLink RX1 15 "FragmentHouse" "slots" "[LFragmentHouse$Datagram;", Cond.instantiable RX0 9, Cond.initialized RX0, Cond.fieldLink RX1 20 "FragmentHouse" "latestWhole" "LFragmentHouse$Datagram;", Cond.fieldLink RX1 24 "FragmentHouse" "trayCount" "I", Cond.fieldLink RX1 28 "FragmentHouse" "wholeCount" "I", Cond.fieldLink RX1 31 "FragmentHouse" "now" "I", Cond.methodLink RX1 19 yX0_init, Cond.instanceMethod yX0_init]
def wsL_law_r2 : List Cond := [Cond.code yX0_init cX0_init 1 none, Cond.methodLink RX0 3 objectInit, Cond.fieldLink RX0 9 "FragmentHouse$Datagram" "cells" "[I", Cond.fieldLink RX0 15 "FragmentHouse$Datagram" "inMaking" "Z", Cond.fieldLink RX0 19 "FragmentHouse$Datagram" "knownEnd" "I", Cond.methodLink RL 12 yX2_init, Cond.instanceMethod yX2_init, Cond.code yX2_init cX2_init 1 none, Cond.methodLink RX2 1 objectInit, Cond.arrayClass .byte, Cond.fieldLink RX2 9 "FragmentHouseModel" "tray" "[B", Cond.fieldLink RX2 13 "FragmentHouseModel" "senders" "[I", Cond.fieldLink RX2 17 "FragmentHouseModel" "identifications" "[I", Cond.fieldLink RX2 20 "FragmentHouseModel" "protocols" "[I", Cond.fieldLink RX2 23 "FragmentHouseModel" "ends" "[I", Cond.fieldLink RX2 26 "FragmentHouseModel" "begun" "[I", Cond.arrayClass .boolean, Cond.fieldLink RX2 29 "FragmentHouseModel" "there" "[Z", Cond.fieldLink RX2 33 "FragmentHouseModel" "bytes" "[I", Cond.fieldLink RX2 36 "FragmentHouseModel" "whole" "[I", Cond.fieldLink RX2 39 "FragmentHouseModel" "length" "I", Cond.methodLink RL 13 yX1_feed, Cond.instanceMethod yX1_feed, Cond.selects RX1 yX1_feed yX1_feed]
def wsL_law_r3 : List Cond := [Cond.code yX1_feed cX1_feed 6 (some .int), Cond.methodLink RX1 34 yX1_putWord, Cond.instanceMethod yX1_putWord, Cond.selects RX1 yX1_putWord yX1_putWord, Cond.code yX1_putWord cX1_putWord 4 none, Cond.methodLink RL 17 yX2_feed, Cond.instanceMethod yX2_feed, Cond.selects RX2 yX2_feed yX2_feed, Cond.code yX2_feed cX2_feed 6 (some .int), Cond.fieldLink RX2 43 "FragmentHouseModel" "trayed" "I", Cond.methodLink RX2 46 yX2_word, Cond.instanceMethod yX2_word, Cond.selects RX2 yX2_word yX2_word, Cond.code yX2_word cX2_word 3 none, Cond.methodLink RL 18 yX1_end, Cond.instanceMethod yX1_end, Cond.selects RX1 yX1_end yX1_end, Cond.code yX1_end cX1_end 2 (some .int), Cond.methodLink RL 22 yX2_end, Cond.instanceMethod yX2_end, Cond.selects RX2 yX2_end yX2_end, Cond.code yX2_end cX2_end 2 (some .int), Cond.methodLink RL 23 yX1_take, Cond.instanceMethod yX1_take]
def wsL_law_r4 : List Cond := [Cond.selects RX1 yX1_take yX1_take, Cond.code yX1_take cX1_take 9 (some .int), Cond.methodLink RX1 38 yX1_isSound, Cond.static yX1_isSound, Cond.code yX1_isSound cX1_isSound 3 (some .boolean), Cond.methodLink RX1 42 yX1_slotFor, Cond.instanceMethod yX1_slotFor, Cond.selects RX1 yX1_slotFor yX1_slotFor, Cond.code yX1_slotFor cX1_slotFor 6 (some .int), Cond.fieldLink RX1 51 "FragmentHouse$Datagram" "inMaking" "Z", Cond.methodLink RX1 64 yX0_isOf, Cond.instanceMethod yX0_isOf, Cond.selects RX0 yX0_isOf yX0_isOf, Cond.code yX0_isOf cX0_isOf 4 (some .boolean), Cond.fieldLink RX0 29 "FragmentHouse$Datagram" "sender" "I", Cond.fieldLink RX0 32 "FragmentHouse$Datagram" "identification" "I", Cond.fieldLink RX0 35 "FragmentHouse$Datagram" "protocol" "I", Cond.methodLink RX1 68 yX0_begin, Cond.instanceMethod yX0_begin, Cond.selects RX0 yX0_begin yX0_begin, Cond.code yX0_begin cX0_begin 5 none, Cond.fieldLink RX0 38 "FragmentHouse$Datagram" "firstTime" "I", Cond.fieldLink RX0 41 "FragmentHouse$Datagram" "farthestReach" "I", Cond.fieldLink RX0 44 "FragmentHouse$Datagram" "presentCount" "I"]
def wsL_law_r5 : List Cond := [Cond.methodLink RX0 23 yJ7_fill_53178, Cond.static yJ7_fill_53178, Cond.initialized RJ7, Cond.code yJ7_fill_53178 cJ7_fill_53178 4 none, Cond.methodLink RX1 46 yX1_join, Cond.instanceMethod yX1_join, Cond.selects RX1 yX1_join yX1_join, Cond.code yX1_join cX1_join 7 (some .int), Cond.fieldLink RX1 58 "FragmentHouse$Datagram" "knownEnd" "I", Cond.methodLink RX1 72 yX0_isContradictedBy, Cond.instanceMethod yX0_isContradictedBy, Cond.selects RX0 yX0_isContradictedBy yX0_isContradictedBy, Cond.code yX0_isContradictedBy cX0_isContradictedBy 3 (some .boolean), Cond.methodLink RX1 76 yX0_noteReach, Cond.instanceMethod yX0_noteReach, Cond.selects RX0 yX0_noteReach yX0_noteReach, Cond.code yX0_noteReach cX0_noteReach 3 none, Cond.methodLink RX0 47 Lib.Math.max.name, Cond.static Lib.Math.max.name, Cond.initialized "java/lang/Math", Cond.code Lib.Math.max.name Lib.Math.max.code 2 (some .int), Cond.methodLink RX1 80 yX0_putIn, Cond.instanceMethod yX0_putIn, Cond.selects RX0 yX0_putIn yX0_putIn]
def wsL_law_r6 : List Cond := [Cond.code yX0_putIn cX0_putIn 5 none, Cond.methodLink RX1 84 yX0_isWhole, Cond.instanceMethod yX0_isWhole, Cond.selects RX0 yX0_isWhole yX0_isWhole, Cond.code yX0_isWhole cX0_isWhole 1 (some .boolean), Cond.methodLink RX1 88 yX1_showWhole, Cond.instanceMethod yX1_showWhole, Cond.selects RX1 yX1_showWhole yX1_showWhole, Cond.code yX1_showWhole cX1_showWhole 3 none, Cond.methodLink RL 27 yX2_take, Cond.instanceMethod yX2_take, Cond.selects RX2 yX2_take yX2_take, Cond.code yX2_take cX2_take 12 (some .int), Cond.fieldLink RX2 60 "FragmentHouseModel" "made" "I", Cond.methodLink RX2 53 yX2_find, Cond.instanceMethod yX2_find, Cond.selects RX2 yX2_find yX2_find, Cond.code yX2_find cX2_find 5 (some .int), Cond.methodLink RX2 57 yX2_begin, Cond.instanceMethod yX2_begin, Cond.selects RX2 yX2_begin yX2_begin, Cond.code yX2_begin cX2_begin 6 (some .int), Cond.fieldLink RX2 50 "FragmentHouseModel" "now" "I", Cond.methodLink RL 28 yX1_pass]
def wsL_law_r7 : List Cond := [Cond.instanceMethod yX1_pass, Cond.selects RX1 yX1_pass yX1_pass, Cond.code yX1_pass cX1_pass 4 (some .int), Cond.constant RX1 50 (2000000000), Cond.fieldLink RX1 55 "FragmentHouse$Datagram" "firstTime" "I", Cond.methodLink RL 31 yX2_pass, Cond.instanceMethod yX2_pass, Cond.selects RX2 yX2_pass yX2_pass, Cond.code yX2_pass cX2_pass 4 (some .int), Cond.constant RX2 63 (2000000000), Cond.methodLink RL 32 yX1_making, Cond.instanceMethod yX1_making, Cond.selects RX1 yX1_making yX1_making, Cond.code yX1_making cX1_making 3 (some .int), Cond.methodLink RL 36 yX2_making, Cond.instanceMethod yX2_making, Cond.selects RX2 yX2_making yX2_making, Cond.code yX2_making cX2_making 3 (some .int), Cond.methodLink RL 37 yX1_made, Cond.instanceMethod yX1_made, Cond.selects RX1 yX1_made yX1_made, Cond.code yX1_made cX1_made 1 (some .int), Cond.methodLink RL 40 yX2_made, Cond.instanceMethod yX2_made]
def wsL_law_r8 : List Cond := [Cond.selects RX2 yX2_made yX2_made, Cond.code yX2_made cX2_made 1 (some .int), Cond.methodLink RL 41 yX1_length, Cond.instanceMethod yX1_length, Cond.selects RX1 yX1_length yX1_length, Cond.code yX1_length cX1_length 1 (some .int), Cond.methodLink RL 44 yX2_length, Cond.instanceMethod yX2_length, Cond.selects RX2 yX2_length yX2_length, Cond.code yX2_length cX2_length 1 (some .int), Cond.methodLink RL 45 yX1_at, Cond.instanceMethod yX1_at, Cond.selects RX1 yX1_at yX1_at, Cond.code yX1_at cX1_at 2 (some .int), Cond.fieldLink RX1 61 "FragmentHouse$Datagram" "cells" "[I", Cond.methodLink RL 48 yX2_at, Cond.instanceMethod yX2_at, Cond.selects RX2 yX2_at yX2_at, Cond.code yX2_at cX2_at 2 (some .int)]
def wsL_law : List Cond := (wsL_law_r1 ++ (wsL_law_r2 ++ (wsL_law_r3 ++ (wsL_law_r4 ++ (wsL_law_r5 ++ (wsL_law_r6 ++ (wsL_law_r7 ++ wsL_law_r8))))))) ++ wsX10 ++ wsX20 ++ wsX00 ++ ([] : List Cond)
set_option maxRecDepth 20000 in
theorem wsL_law_in : ∀ w ∈ wsL_law, w ∈ lw_tbl := fun w h => (goodIn_p wsL_law [17, 20, 26, 166, 83, 87, 213, 217, 91, 221, 95, 98, 102, 106, 110, 113, 117, 121, 125, 128, 132, 136, 140, 225, 229, 233, 144, 237, 149, 242, 153, 246, 157, 250, 161, 254] (by decide +kernel) (by decide +kernel) w h).1
theorem inlX0 : ∀ w ∈ wsX00, w ∈ wsL_law := fun _ h => List.mem_append_left _ (List.mem_append_right _ h)
theorem inX0 : ∀ w ∈ wsX00, w ∈ lw_tbl := fun w h => wsL_law_in w (inlX0 w h)
theorem inlX1 : ∀ w ∈ wsX10, w ∈ wsL_law := fun _ h => List.mem_append_left _ (List.mem_append_left _ (List.mem_append_left _ (List.mem_append_right _ h)))
theorem inX1 : ∀ w ∈ wsX10, w ∈ lw_tbl := fun w h => wsL_law_in w (inlX1 w h)
theorem inlX2 : ∀ w ∈ wsX20, w ∈ wsL_law := fun _ h => List.mem_append_left _ (List.mem_append_left _ (List.mem_append_right _ h))
theorem inX2 : ∀ w ∈ wsX20, w ∈ lw_tbl := fun w h => wsL_law_in w (inlX2 w h)
theorem inJ9 : ∀ w ∈ wsJ90, w ∈ lw_tbl := by decide +kernel
theorem inJ7 : ∀ w ∈ wsJ70, w ∈ lw_tbl := by decide +kernel
abbrev vwCl : List vw_C := [(RX0, TX0, 9), (RX1, TX1, 6), (RX2, TX2, 13)]
/-! ===== END printed: names ===== -/
end
section
theorem dX0_init_0 : decode cX0_init 0 = .ok (.aload_n 0, 1) := by decide +kernel
theorem dX0_init_1 : decode cX0_init 1 = .ok (.invokespecial 3, 3) := by decide +kernel
theorem dX0_init_4 : decode cX0_init 4 = .ok (.aload_n 0, 1) := by decide +kernel
theorem dX0_init_5 : decode cX0_init 5 = .ok (.sipush 4096, 3) := by decide +kernel
theorem dX0_init_8 : decode cX0_init 8 = .ok (.newarray .int, 2) := by decide +kernel
theorem dX0_init_10 : decode cX0_init 10 = .ok (.putfield 9, 3) := by decide +kernel
theorem dX0_init_13 : decode cX0_init 13 = .ok (.aload_n 0, 1) := by decide +kernel
theorem dX0_init_14 : decode cX0_init 14 = .ok (.iconst 0, 1) := by decide +kernel
theorem dX0_init_15 : decode cX0_init 15 = .ok (.putfield 15, 3) := by decide +kernel
theorem dX0_init_18 : decode cX0_init 18 = .ok (.aload_n 0, 1) := by decide +kernel
theorem dX0_init_19 : decode cX0_init 19 = .ok (.iconst (-1), 1) := by decide +kernel
theorem dX0_init_20 : decode cX0_init 20 = .ok (.putfield 19, 3) := by decide +kernel
theorem dX0_init_23 : decode cX0_init 23 = .ok (.return_, 1) := by decide +kernel
set_option maxRecDepth 20000 in
theorem ggX0_begin_J7_fill_53178 : GoodIn wsX0_begin wsJ7_fill_53178 := goodIn_r _ [13] (by decide +kernel) (by decide +kernel)
set_option maxRecDepth 20000 in
theorem gX0_begin_J7_fill_53178 : GoodIn wsX0_begin (va_wsS RX0 23 yJ7_fill_53178 wsJ7_fill_53178) := goodIn_app (goodIn_of _ (by decide +kernel)) ggX0_begin_J7_fill_53178
theorem dX0_begin_0 : decode cX0_begin 0 = .ok (.aload_n 0, 1) := by decide +kernel
theorem dX0_begin_1 : decode cX0_begin 1 = .ok (.getfield 9, 3) := by decide +kernel
theorem dX0_begin_4 : decode cX0_begin 4 = .ok (.iconst (-1), 1) := by decide +kernel
theorem dX0_begin_5 : decode cX0_begin 5 = .ok (.invokestatic 23, 3) := by decide +kernel
theorem dX0_begin_8 : decode cX0_begin 8 = .ok (.aload_n 0, 1) := by decide +kernel
theorem dX0_begin_9 : decode cX0_begin 9 = .ok (.iconst 1, 1) := by decide +kernel
theorem dX0_begin_10 : decode cX0_begin 10 = .ok (.putfield 15, 3) := by decide +kernel
theorem dX0_begin_13 : decode cX0_begin 13 = .ok (.aload_n 0, 1) := by decide +kernel
theorem dX0_begin_14 : decode cX0_begin 14 = .ok (.iload_n 1, 1) := by decide +kernel
theorem dX0_begin_15 : decode cX0_begin 15 = .ok (.putfield 29, 3) := by decide +kernel
theorem dX0_begin_18 : decode cX0_begin 18 = .ok (.aload_n 0, 1) := by decide +kernel
theorem dX0_begin_19 : decode cX0_begin 19 = .ok (.iload_n 2, 1) := by decide +kernel
theorem dX0_begin_20 : decode cX0_begin 20 = .ok (.putfield 32, 3) := by decide +kernel
theorem dX0_begin_23 : decode cX0_begin 23 = .ok (.aload_n 0, 1) := by decide +kernel
theorem dX0_begin_24 : decode cX0_begin 24 = .ok (.iload_n 3, 1) := by decide +kernel
theorem dX0_begin_25 : decode cX0_begin 25 = .ok (.putfield 35, 3) := by decide +kernel
theorem dX0_begin_28 : decode cX0_begin 28 = .ok (.aload_n 0, 1) := by decide +kernel
theorem dX0_begin_29 : decode cX0_begin 29 = .ok (.iload 4, 2) := by decide +kernel
theorem dX0_begin_31 : decode cX0_begin 31 = .ok (.putfield 38, 3) := by decide +kernel
theorem dX0_begin_34 : decode cX0_begin 34 = .ok (.aload_n 0, 1) := by decide +kernel
theorem dX0_begin_35 : decode cX0_begin 35 = .ok (.iconst (-1), 1) := by decide +kernel
theorem dX0_begin_36 : decode cX0_begin 36 = .ok (.putfield 19, 3) := by decide +kernel
theorem dX0_begin_39 : decode cX0_begin 39 = .ok (.aload_n 0, 1) := by decide +kernel
theorem dX0_begin_40 : decode cX0_begin 40 = .ok (.iconst 0, 1) := by decide +kernel
theorem dX0_begin_41 : decode cX0_begin 41 = .ok (.putfield 41, 3) := by decide +kernel
theorem dX0_begin_44 : decode cX0_begin 44 = .ok (.aload_n 0, 1) := by decide +kernel
theorem dX0_begin_45 : decode cX0_begin 45 = .ok (.iconst 0, 1) := by decide +kernel
theorem dX0_begin_46 : decode cX0_begin 46 = .ok (.putfield 44, 3) := by decide +kernel
theorem dX0_begin_49 : decode cX0_begin 49 = .ok (.return_, 1) := by decide +kernel
theorem dX0_isOf_0 : decode cX0_isOf 0 = .ok (.aload_n 0, 1) := by decide +kernel
theorem dX0_isOf_1 : decode cX0_isOf 1 = .ok (.getfield 29, 3) := by decide +kernel
theorem dX0_isOf_4 : decode cX0_isOf 4 = .ok (.iload_n 1, 1) := by decide +kernel
theorem dX0_isOf_5 : decode cX0_isOf 5 = .ok (.if_icmp .ne 23, 3) := by decide +kernel
theorem dX0_isOf_8 : decode cX0_isOf 8 = .ok (.aload_n 0, 1) := by decide +kernel
theorem dX0_isOf_9 : decode cX0_isOf 9 = .ok (.getfield 32, 3) := by decide +kernel
theorem dX0_isOf_12 : decode cX0_isOf 12 = .ok (.iload_n 2, 1) := by decide +kernel
theorem dX0_isOf_13 : decode cX0_isOf 13 = .ok (.if_icmp .ne 15, 3) := by decide +kernel
theorem dX0_isOf_16 : decode cX0_isOf 16 = .ok (.aload_n 0, 1) := by decide +kernel
theorem dX0_isOf_17 : decode cX0_isOf 17 = .ok (.getfield 35, 3) := by decide +kernel
theorem dX0_isOf_20 : decode cX0_isOf 20 = .ok (.iload_n 3, 1) := by decide +kernel
theorem dX0_isOf_21 : decode cX0_isOf 21 = .ok (.if_icmp .ne 7, 3) := by decide +kernel
theorem dX0_isOf_24 : decode cX0_isOf 24 = .ok (.iconst 1, 1) := by decide +kernel
theorem dX0_isOf_25 : decode cX0_isOf 25 = .ok (.goto 4, 3) := by decide +kernel
theorem dX0_isOf_28 : decode cX0_isOf 28 = .ok (.iconst 0, 1) := by decide +kernel
theorem dX0_isOf_29 : decode cX0_isOf 29 = .ok (.ireturn, 1) := by decide +kernel
theorem dX0_isContradictedBy_0 : decode cX0_isContradictedBy 0 = .ok (.aload_n 0, 1) := by decide +kernel
theorem dX0_isContradictedBy_1 : decode cX0_isContradictedBy 1 = .ok (.getfield 19, 3) := by decide +kernel
theorem dX0_isContradictedBy_4 : decode cX0_isContradictedBy 4 = .ok (.iconst (-1), 1) := by decide +kernel
theorem dX0_isContradictedBy_5 : decode cX0_isContradictedBy 5 = .ok (.if_icmp .eq 25, 3) := by decide +kernel
theorem dX0_isContradictedBy_8 : decode cX0_isContradictedBy 8 = .ok (.iload_n 1, 1) := by decide +kernel
theorem dX0_isContradictedBy_9 : decode cX0_isContradictedBy 9 = .ok (.aload_n 0, 1) := by decide +kernel
theorem dX0_isContradictedBy_10 : decode cX0_isContradictedBy 10 = .ok (.getfield 19, 3) := by decide +kernel
theorem dX0_isContradictedBy_13 : decode cX0_isContradictedBy 13 = .ok (.if_icmp .gt 15, 3) := by decide +kernel
theorem dX0_isContradictedBy_16 : decode cX0_isContradictedBy 16 = .ok (.iload_n 2, 1) := by decide +kernel
theorem dX0_isContradictedBy_17 : decode cX0_isContradictedBy 17 = .ok (.ifCond .eq 13, 3) := by decide +kernel
theorem dX0_isContradictedBy_20 : decode cX0_isContradictedBy 20 = .ok (.iload_n 1, 1) := by decide +kernel
theorem dX0_isContradictedBy_21 : decode cX0_isContradictedBy 21 = .ok (.aload_n 0, 1) := by decide +kernel
theorem dX0_isContradictedBy_22 : decode cX0_isContradictedBy 22 = .ok (.getfield 19, 3) := by decide +kernel
theorem dX0_isContradictedBy_25 : decode cX0_isContradictedBy 25 = .ok (.if_icmp .eq 5, 3) := by decide +kernel
theorem dX0_isContradictedBy_28 : decode cX0_isContradictedBy 28 = .ok (.iconst 1, 1) := by decide +kernel
theorem dX0_isContradictedBy_29 : decode cX0_isContradictedBy 29 = .ok (.ireturn, 1) := by decide +kernel
theorem dX0_isContradictedBy_30 : decode cX0_isContradictedBy 30 = .ok (.iload_n 2, 1) := by decide +kernel
theorem dX0_isContradictedBy_31 : decode cX0_isContradictedBy 31 = .ok (.ifCond .eq 15, 3) := by decide +kernel
theorem dX0_isContradictedBy_34 : decode cX0_isContradictedBy 34 = .ok (.aload_n 0, 1) := by decide +kernel
theorem dX0_isContradictedBy_35 : decode cX0_isContradictedBy 35 = .ok (.getfield 41, 3) := by decide +kernel
theorem dX0_isContradictedBy_38 : decode cX0_isContradictedBy 38 = .ok (.iload_n 1, 1) := by decide +kernel
theorem dX0_isContradictedBy_39 : decode cX0_isContradictedBy 39 = .ok (.if_icmp .le 7, 3) := by decide +kernel
theorem dX0_isContradictedBy_42 : decode cX0_isContradictedBy 42 = .ok (.iconst 1, 1) := by decide +kernel
theorem dX0_isContradictedBy_43 : decode cX0_isContradictedBy 43 = .ok (.goto 4, 3) := by decide +kernel
theorem dX0_isContradictedBy_46 : decode cX0_isContradictedBy 46 = .ok (.iconst 0, 1) := by decide +kernel
theorem dX0_isContradictedBy_47 : decode cX0_isContradictedBy 47 = .ok (.ireturn, 1) := by decide +kernel
theorem dX0_noteReach_0 : decode cX0_noteReach 0 = .ok (.aload_n 0, 1) := by decide +kernel
theorem dX0_noteReach_1 : decode cX0_noteReach 1 = .ok (.aload_n 0, 1) := by decide +kernel
theorem dX0_noteReach_2 : decode cX0_noteReach 2 = .ok (.getfield 41, 3) := by decide +kernel
theorem dX0_noteReach_5 : decode cX0_noteReach 5 = .ok (.iload_n 1, 1) := by decide +kernel
theorem dX0_noteReach_6 : decode cX0_noteReach 6 = .ok (.invokestatic 47, 3) := by decide +kernel
theorem dX0_noteReach_9 : decode cX0_noteReach 9 = .ok (.putfield 41, 3) := by decide +kernel
theorem dX0_noteReach_12 : decode cX0_noteReach 12 = .ok (.iload_n 2, 1) := by decide +kernel
theorem dX0_noteReach_13 : decode cX0_noteReach 13 = .ok (.ifCond .eq 8, 3) := by decide +kernel
theorem dX0_noteReach_16 : decode cX0_noteReach 16 = .ok (.aload_n 0, 1) := by decide +kernel
theorem dX0_noteReach_17 : decode cX0_noteReach 17 = .ok (.iload_n 1, 1) := by decide +kernel
theorem dX0_noteReach_18 : decode cX0_noteReach 18 = .ok (.putfield 19, 3) := by decide +kernel
theorem dX0_noteReach_21 : decode cX0_noteReach 21 = .ok (.return_, 1) := by decide +kernel
theorem dX0_putIn_0 : decode cX0_putIn 0 = .ok (.iconst 0, 1) := by decide +kernel
theorem dX0_putIn_1 : decode cX0_putIn 1 = .ok (.istore 4, 2) := by decide +kernel
theorem dX0_putIn_3 : decode cX0_putIn 3 = .ok (.iload 4, 2) := by decide +kernel
theorem dX0_putIn_5 : decode cX0_putIn 5 = .ok (.iload_n 2, 1) := by decide +kernel
theorem dX0_putIn_6 : decode cX0_putIn 6 = .ok (.if_icmp .ge 45, 3) := by decide +kernel
theorem dX0_putIn_9 : decode cX0_putIn 9 = .ok (.aload_n 0, 1) := by decide +kernel
theorem dX0_putIn_10 : decode cX0_putIn 10 = .ok (.getfield 9, 3) := by decide +kernel
theorem dX0_putIn_13 : decode cX0_putIn 13 = .ok (.iload_n 3, 1) := by decide +kernel
theorem dX0_putIn_14 : decode cX0_putIn 14 = .ok (.iload 4, 2) := by decide +kernel
theorem dX0_putIn_16 : decode cX0_putIn 16 = .ok (.iadd, 1) := by decide +kernel
theorem dX0_putIn_17 : decode cX0_putIn 17 = .ok (.iaload, 1) := by decide +kernel
theorem dX0_putIn_18 : decode cX0_putIn 18 = .ok (.iconst (-1), 1) := by decide +kernel
theorem dX0_putIn_19 : decode cX0_putIn 19 = .ok (.if_icmp .ne 26, 3) := by decide +kernel
theorem dX0_putIn_22 : decode cX0_putIn 22 = .ok (.aload_n 0, 1) := by decide +kernel
theorem dX0_putIn_23 : decode cX0_putIn 23 = .ok (.getfield 9, 3) := by decide +kernel
theorem dX0_putIn_26 : decode cX0_putIn 26 = .ok (.iload_n 3, 1) := by decide +kernel
theorem dX0_putIn_27 : decode cX0_putIn 27 = .ok (.iload 4, 2) := by decide +kernel
theorem dX0_putIn_29 : decode cX0_putIn 29 = .ok (.iadd, 1) := by decide +kernel
theorem dX0_putIn_30 : decode cX0_putIn 30 = .ok (.aload_n 1, 1) := by decide +kernel
theorem dX0_putIn_31 : decode cX0_putIn 31 = .ok (.iload 4, 2) := by decide +kernel
theorem dX0_putIn_33 : decode cX0_putIn 33 = .ok (.iaload, 1) := by decide +kernel
theorem dX0_putIn_34 : decode cX0_putIn 34 = .ok (.iastore, 1) := by decide +kernel
theorem dX0_putIn_35 : decode cX0_putIn 35 = .ok (.aload_n 0, 1) := by decide +kernel
theorem dX0_putIn_36 : decode cX0_putIn 36 = .ok (.dup, 1) := by decide +kernel
theorem dX0_putIn_37 : decode cX0_putIn 37 = .ok (.getfield 44, 3) := by decide +kernel
theorem dX0_putIn_40 : decode cX0_putIn 40 = .ok (.iconst 1, 1) := by decide +kernel
theorem dX0_putIn_41 : decode cX0_putIn 41 = .ok (.iadd, 1) := by decide +kernel
theorem dX0_putIn_42 : decode cX0_putIn 42 = .ok (.putfield 44, 3) := by decide +kernel
theorem dX0_putIn_45 : decode cX0_putIn 45 = .ok (.iinc 4 1, 3) := by decide +kernel
theorem dX0_putIn_48 : decode cX0_putIn 48 = .ok (.goto (-45), 3) := by decide +kernel
theorem dX0_putIn_51 : decode cX0_putIn 51 = .ok (.return_, 1) := by decide +kernel
theorem dX0_isWhole_0 : decode cX0_isWhole 0 = .ok (.aload_n 0, 1) := by decide +kernel
theorem dX0_isWhole_1 : decode cX0_isWhole 1 = .ok (.getfield 19, 3) := by decide +kernel
theorem dX0_isWhole_4 : decode cX0_isWhole 4 = .ok (.iconst (-1), 1) := by decide +kernel
theorem dX0_isWhole_5 : decode cX0_isWhole 5 = .ok (.if_icmp .eq 18, 3) := by decide +kernel
theorem dX0_isWhole_8 : decode cX0_isWhole 8 = .ok (.aload_n 0, 1) := by decide +kernel
theorem dX0_isWhole_9 : decode cX0_isWhole 9 = .ok (.getfield 44, 3) := by decide +kernel
theorem dX0_isWhole_12 : decode cX0_isWhole 12 = .ok (.aload_n 0, 1) := by decide +kernel
theorem dX0_isWhole_13 : decode cX0_isWhole 13 = .ok (.getfield 19, 3) := by decide +kernel
theorem dX0_isWhole_16 : decode cX0_isWhole 16 = .ok (.if_icmp .ne 7, 3) := by decide +kernel
theorem dX0_isWhole_19 : decode cX0_isWhole 19 = .ok (.iconst 1, 1) := by decide +kernel
theorem dX0_isWhole_20 : decode cX0_isWhole 20 = .ok (.goto 4, 3) := by decide +kernel
theorem dX0_isWhole_23 : decode cX0_isWhole 23 = .ok (.iconst 0, 1) := by decide +kernel
theorem dX0_isWhole_24 : decode cX0_isWhole 24 = .ok (.ireturn, 1) := by decide +kernel
set_option maxRecDepth 20000 in
theorem ggX1_init_X0_init : GoodIn wsX1_init wsX0_init := goodIn_r _ [16, 17, 2, 3, 4, 18, 19, 20, 27, 28, 29, 30, 31, 32, 33, 34, 35] (by decide +kernel) (by decide +kernel)
set_option maxRecDepth 20000 in
theorem gX1_init_X0_init : GoodIn wsX1_init (wsX0_init) := ggX1_init_X0_init
theorem dX1_init_0 : decode cX1_init 0 = .ok (.aload_n 0, 1) := by decide +kernel
theorem dX1_init_1 : decode cX1_init 1 = .ok (.invokespecial 1, 3) := by decide +kernel
theorem dX1_init_4 : decode cX1_init 4 = .ok (.aload_n 0, 1) := by decide +kernel
theorem dX1_init_5 : decode cX1_init 5 = .ok (.sipush 1480, 3) := by decide +kernel
theorem dX1_init_8 : decode cX1_init 8 = .ok (.newarray .int, 2) := by decide +kernel
theorem dX1_init_10 : decode cX1_init 10 = .ok (.putfield 9, 3) := by decide +kernel
theorem dX1_init_13 : decode cX1_init 13 = .ok (.aload_n 0, 1) := by decide +kernel
theorem dX1_init_14 : decode cX1_init 14 = .ok (.iconst 4, 1) := by decide +kernel
theorem dX1_init_15 : decode cX1_init 15 = .ok (.anewarray 13, 3) := by decide +kernel
theorem dX1_init_18 : decode cX1_init 18 = .ok (.putfield 15, 3) := by decide +kernel
theorem dX1_init_21 : decode cX1_init 21 = .ok (.iconst 0, 1) := by decide +kernel
theorem dX1_init_22 : decode cX1_init 22 = .ok (.istore_n 1, 1) := by decide +kernel
theorem dX1_init_23 : decode cX1_init 23 = .ok (.iload_n 1, 1) := by decide +kernel
theorem dX1_init_24 : decode cX1_init 24 = .ok (.iconst 4, 1) := by decide +kernel
theorem dX1_init_25 : decode cX1_init 25 = .ok (.if_icmp .ge 22, 3) := by decide +kernel
theorem dX1_init_28 : decode cX1_init 28 = .ok (.aload_n 0, 1) := by decide +kernel
theorem dX1_init_29 : decode cX1_init 29 = .ok (.getfield 15, 3) := by decide +kernel
theorem dX1_init_32 : decode cX1_init 32 = .ok (.iload_n 1, 1) := by decide +kernel
theorem dX1_init_33 : decode cX1_init 33 = .ok (.new 13, 3) := by decide +kernel
theorem dX1_init_36 : decode cX1_init 36 = .ok (.dup, 1) := by decide +kernel
theorem dX1_init_37 : decode cX1_init 37 = .ok (.invokespecial 19, 3) := by decide +kernel
theorem dX1_init_40 : decode cX1_init 40 = .ok (.aastore, 1) := by decide +kernel
theorem dX1_init_41 : decode cX1_init 41 = .ok (.iinc 1 1, 3) := by decide +kernel
theorem dX1_init_44 : decode cX1_init 44 = .ok (.goto (-21), 3) := by decide +kernel
theorem dX1_init_47 : decode cX1_init 47 = .ok (.aload_n 0, 1) := by decide +kernel
theorem dX1_init_48 : decode cX1_init 48 = .ok (.new 13, 3) := by decide +kernel
theorem dX1_init_51 : decode cX1_init 51 = .ok (.dup, 1) := by decide +kernel
theorem dX1_init_52 : decode cX1_init 52 = .ok (.invokespecial 19, 3) := by decide +kernel
theorem dX1_init_55 : decode cX1_init 55 = .ok (.putfield 20, 3) := by decide +kernel
theorem dX1_init_58 : decode cX1_init 58 = .ok (.aload_n 0, 1) := by decide +kernel
theorem dX1_init_59 : decode cX1_init 59 = .ok (.iconst 0, 1) := by decide +kernel
theorem dX1_init_60 : decode cX1_init 60 = .ok (.putfield 24, 3) := by decide +kernel
theorem dX1_init_63 : decode cX1_init 63 = .ok (.aload_n 0, 1) := by decide +kernel
theorem dX1_init_64 : decode cX1_init 64 = .ok (.iconst 0, 1) := by decide +kernel
theorem dX1_init_65 : decode cX1_init 65 = .ok (.putfield 28, 3) := by decide +kernel
theorem dX1_init_68 : decode cX1_init 68 = .ok (.aload_n 0, 1) := by decide +kernel
theorem dX1_init_69 : decode cX1_init 69 = .ok (.iconst 0, 1) := by decide +kernel
theorem dX1_init_70 : decode cX1_init 70 = .ok (.putfield 31, 3) := by decide +kernel
theorem dX1_init_73 : decode cX1_init 73 = .ok (.return_, 1) := by decide +kernel
set_option maxRecDepth 20000 in
theorem ggX1_feed_X1_putWord : GoodIn wsX1_feed wsX1_putWord := goodIn_r _ [6, 7, 8, 9, 10, 11, 12, 13] (by decide +kernel) (by decide +kernel)
set_option maxRecDepth 20000 in
theorem gX1_feed_X1_putWord : GoodIn wsX1_feed (wsV RX1 34 RX1 yX1_putWord wsX1_putWord) := goodIn_app (goodIn_of _ (by decide +kernel)) ggX1_feed_X1_putWord
theorem dX1_feed_0 : decode cX1_feed 0 = .ok (.aload_n 0, 1) := by decide +kernel
theorem dX1_feed_1 : decode cX1_feed 1 = .ok (.getfield 24, 3) := by decide +kernel
theorem dX1_feed_4 : decode cX1_feed 4 = .ok (.sipush 1460, 3) := by decide +kernel
theorem dX1_feed_7 : decode cX1_feed 7 = .ok (.if_icmp .le 5, 3) := by decide +kernel
theorem dX1_feed_10 : decode cX1_feed 10 = .ok (.iconst (-1), 1) := by decide +kernel
theorem dX1_feed_11 : decode cX1_feed 11 = .ok (.ireturn, 1) := by decide +kernel
theorem dX1_feed_12 : decode cX1_feed 12 = .ok (.aload_n 0, 1) := by decide +kernel
theorem dX1_feed_13 : decode cX1_feed 13 = .ok (.iload_n 1, 1) := by decide +kernel
theorem dX1_feed_14 : decode cX1_feed 14 = .ok (.aload_n 0, 1) := by decide +kernel
theorem dX1_feed_15 : decode cX1_feed 15 = .ok (.getfield 24, 3) := by decide +kernel
theorem dX1_feed_18 : decode cX1_feed 18 = .ok (.invokevirtual 34, 3) := by decide +kernel
theorem dX1_feed_21 : decode cX1_feed 21 = .ok (.aload_n 0, 1) := by decide +kernel
theorem dX1_feed_22 : decode cX1_feed 22 = .ok (.iload_n 2, 1) := by decide +kernel
theorem dX1_feed_23 : decode cX1_feed 23 = .ok (.aload_n 0, 1) := by decide +kernel
theorem dX1_feed_24 : decode cX1_feed 24 = .ok (.getfield 24, 3) := by decide +kernel
theorem dX1_feed_27 : decode cX1_feed 27 = .ok (.iconst 4, 1) := by decide +kernel
theorem dX1_feed_28 : decode cX1_feed 28 = .ok (.iadd, 1) := by decide +kernel
theorem dX1_feed_29 : decode cX1_feed 29 = .ok (.invokevirtual 34, 3) := by decide +kernel
theorem dX1_feed_32 : decode cX1_feed 32 = .ok (.aload_n 0, 1) := by decide +kernel
theorem dX1_feed_33 : decode cX1_feed 33 = .ok (.iload_n 3, 1) := by decide +kernel
theorem dX1_feed_34 : decode cX1_feed 34 = .ok (.aload_n 0, 1) := by decide +kernel
theorem dX1_feed_35 : decode cX1_feed 35 = .ok (.getfield 24, 3) := by decide +kernel
theorem dX1_feed_38 : decode cX1_feed 38 = .ok (.bipush 8, 2) := by decide +kernel
theorem dX1_feed_40 : decode cX1_feed 40 = .ok (.iadd, 1) := by decide +kernel
theorem dX1_feed_41 : decode cX1_feed 41 = .ok (.invokevirtual 34, 3) := by decide +kernel
theorem dX1_feed_44 : decode cX1_feed 44 = .ok (.aload_n 0, 1) := by decide +kernel
theorem dX1_feed_45 : decode cX1_feed 45 = .ok (.iload 4, 2) := by decide +kernel
theorem dX1_feed_47 : decode cX1_feed 47 = .ok (.aload_n 0, 1) := by decide +kernel
theorem dX1_feed_48 : decode cX1_feed 48 = .ok (.getfield 24, 3) := by decide +kernel
theorem dX1_feed_51 : decode cX1_feed 51 = .ok (.bipush 12, 2) := by decide +kernel
theorem dX1_feed_53 : decode cX1_feed 53 = .ok (.iadd, 1) := by decide +kernel
theorem dX1_feed_54 : decode cX1_feed 54 = .ok (.invokevirtual 34, 3) := by decide +kernel
theorem dX1_feed_57 : decode cX1_feed 57 = .ok (.aload_n 0, 1) := by decide +kernel
theorem dX1_feed_58 : decode cX1_feed 58 = .ok (.iload 5, 2) := by decide +kernel
theorem dX1_feed_60 : decode cX1_feed 60 = .ok (.aload_n 0, 1) := by decide +kernel
theorem dX1_feed_61 : decode cX1_feed 61 = .ok (.getfield 24, 3) := by decide +kernel
theorem dX1_feed_64 : decode cX1_feed 64 = .ok (.bipush 16, 2) := by decide +kernel
theorem dX1_feed_66 : decode cX1_feed 66 = .ok (.iadd, 1) := by decide +kernel
theorem dX1_feed_67 : decode cX1_feed 67 = .ok (.invokevirtual 34, 3) := by decide +kernel
theorem dX1_feed_70 : decode cX1_feed 70 = .ok (.aload_n 0, 1) := by decide +kernel
theorem dX1_feed_71 : decode cX1_feed 71 = .ok (.dup, 1) := by decide +kernel
theorem dX1_feed_72 : decode cX1_feed 72 = .ok (.getfield 24, 3) := by decide +kernel
theorem dX1_feed_75 : decode cX1_feed 75 = .ok (.bipush 20, 2) := by decide +kernel
theorem dX1_feed_77 : decode cX1_feed 77 = .ok (.iadd, 1) := by decide +kernel
theorem dX1_feed_78 : decode cX1_feed 78 = .ok (.putfield 24, 3) := by decide +kernel
theorem dX1_feed_81 : decode cX1_feed 81 = .ok (.aload_n 0, 1) := by decide +kernel
theorem dX1_feed_82 : decode cX1_feed 82 = .ok (.getfield 24, 3) := by decide +kernel
theorem dX1_feed_85 : decode cX1_feed 85 = .ok (.ireturn, 1) := by decide +kernel
theorem dX1_end_0 : decode cX1_end 0 = .ok (.iload_n 1, 1) := by decide +kernel
theorem dX1_end_1 : decode cX1_end 1 = .ok (.ifCond .lt 11, 3) := by decide +kernel
theorem dX1_end_4 : decode cX1_end 4 = .ok (.iload_n 1, 1) := by decide +kernel
theorem dX1_end_5 : decode cX1_end 5 = .ok (.aload_n 0, 1) := by decide +kernel
theorem dX1_end_6 : decode cX1_end 6 = .ok (.getfield 24, 3) := by decide +kernel
theorem dX1_end_9 : decode cX1_end 9 = .ok (.if_icmp .le 5, 3) := by decide +kernel
theorem dX1_end_12 : decode cX1_end 12 = .ok (.iconst (-1), 1) := by decide +kernel
theorem dX1_end_13 : decode cX1_end 13 = .ok (.ireturn, 1) := by decide +kernel
theorem dX1_end_14 : decode cX1_end 14 = .ok (.aload_n 0, 1) := by decide +kernel
theorem dX1_end_15 : decode cX1_end 15 = .ok (.iload_n 1, 1) := by decide +kernel
theorem dX1_end_16 : decode cX1_end 16 = .ok (.putfield 24, 3) := by decide +kernel
theorem dX1_end_19 : decode cX1_end 19 = .ok (.iload_n 1, 1) := by decide +kernel
theorem dX1_end_20 : decode cX1_end 20 = .ok (.ireturn, 1) := by decide +kernel
set_option maxRecDepth 20000 in
theorem ggX1_take_X1_isSound : GoodIn wsX1_take wsX1_isSound := goodIn_r _ [5] (by decide +kernel) (by decide +kernel)
set_option maxRecDepth 20000 in
theorem gX1_take_X1_isSound : GoodIn wsX1_take (va_wsS RX1 38 yX1_isSound wsX1_isSound) := goodIn_app (goodIn_of _ (by decide +kernel)) ggX1_take_X1_isSound
set_option maxRecDepth 20000 in
theorem ggX1_take_X1_slotFor : GoodIn wsX1_take wsX1_slotFor := goodIn_r _ [9, 10, 11, 12, 13, 14, 15, 16, 17, 18, 19, 20, 21, 22, 23, 24, 25, 26, 27, 28, 29, 30, 31, 32, 33, 34, 67, 68, 69, 70, 71, 72, 73, 74, 75, 76, 77, 78, 79, 80, 81] (by decide +kernel) (by decide +kernel)
set_option maxRecDepth 20000 in
theorem gX1_take_X1_slotFor : GoodIn wsX1_take (wsV RX1 42 RX1 yX1_slotFor wsX1_slotFor) := goodIn_app (goodIn_of _ (by decide +kernel)) ggX1_take_X1_slotFor
set_option maxRecDepth 20000 in
theorem ggX1_take_X1_join : GoodIn wsX1_take wsX1_join := goodIn_r _ [38, 10, 11, 39, 40, 41, 42, 43, 44, 16, 45, 28, 29, 46, 47, 48, 49, 50, 51, 52, 53, 54, 55, 56, 57, 25, 30, 58, 59, 60, 61, 62, 63, 64, 4, 65, 66, 67, 68, 69, 70, 71, 72, 73, 74, 75, 76, 77, 78, 79, 80, 81] (by decide +kernel) (by decide +kernel)
set_option maxRecDepth 20000 in
theorem gX1_take_X1_join : GoodIn wsX1_take (wsV RX1 46 RX1 yX1_join wsX1_join) := goodIn_app (goodIn_of _ (by decide +kernel)) ggX1_take_X1_join
theorem dX1_take_0 : decode cX1_take 0 = .ok (.iload 4, 2) := by decide +kernel
theorem dX1_take_2 : decode cX1_take 2 = .ok (.ifCond .lt 11, 3) := by decide +kernel
theorem dX1_take_5 : decode cX1_take 5 = .ok (.iload 4, 2) := by decide +kernel
theorem dX1_take_7 : decode cX1_take 7 = .ok (.sipush 8191, 3) := by decide +kernel
theorem dX1_take_10 : decode cX1_take 10 = .ok (.if_icmp .le 6, 3) := by decide +kernel
theorem dX1_take_13 : decode cX1_take 13 = .ok (.bipush (-4), 2) := by decide +kernel
theorem dX1_take_15 : decode cX1_take 15 = .ok (.ireturn, 1) := by decide +kernel
theorem dX1_take_16 : decode cX1_take 16 = .ok (.aload_n 0, 1) := by decide +kernel
theorem dX1_take_17 : decode cX1_take 17 = .ok (.getfield 24, 3) := by decide +kernel
theorem dX1_take_20 : decode cX1_take 20 = .ok (.istore 6, 2) := by decide +kernel
theorem dX1_take_22 : decode cX1_take 22 = .ok (.aload_n 0, 1) := by decide +kernel
theorem dX1_take_23 : decode cX1_take 23 = .ok (.iconst 0, 1) := by decide +kernel
theorem dX1_take_24 : decode cX1_take 24 = .ok (.putfield 24, 3) := by decide +kernel
theorem dX1_take_27 : decode cX1_take 27 = .ok (.iload 4, 2) := by decide +kernel
theorem dX1_take_29 : decode cX1_take 29 = .ok (.bipush 8, 2) := by decide +kernel
theorem dX1_take_31 : decode cX1_take 31 = .ok (.imul, 1) := by decide +kernel
theorem dX1_take_32 : decode cX1_take 32 = .ok (.istore 7, 2) := by decide +kernel
theorem dX1_take_34 : decode cX1_take 34 = .ok (.iload 7, 2) := by decide +kernel
theorem dX1_take_36 : decode cX1_take 36 = .ok (.iload 6, 2) := by decide +kernel
theorem dX1_take_38 : decode cX1_take 38 = .ok (.iload 5, 2) := by decide +kernel
theorem dX1_take_40 : decode cX1_take 40 = .ok (.invokestatic 38, 3) := by decide +kernel
theorem dX1_take_43 : decode cX1_take 43 = .ok (.ifCond .ne 6, 3) := by decide +kernel
theorem dX1_take_46 : decode cX1_take 46 = .ok (.bipush (-2), 2) := by decide +kernel
theorem dX1_take_48 : decode cX1_take 48 = .ok (.ireturn, 1) := by decide +kernel
theorem dX1_take_49 : decode cX1_take 49 = .ok (.aload_n 0, 1) := by decide +kernel
theorem dX1_take_50 : decode cX1_take 50 = .ok (.iload_n 1, 1) := by decide +kernel
theorem dX1_take_51 : decode cX1_take 51 = .ok (.iload_n 2, 1) := by decide +kernel
theorem dX1_take_52 : decode cX1_take 52 = .ok (.iload_n 3, 1) := by decide +kernel
theorem dX1_take_53 : decode cX1_take 53 = .ok (.invokevirtual 42, 3) := by decide +kernel
theorem dX1_take_56 : decode cX1_take 56 = .ok (.istore 8, 2) := by decide +kernel
theorem dX1_take_58 : decode cX1_take 58 = .ok (.iload 8, 2) := by decide +kernel
theorem dX1_take_60 : decode cX1_take 60 = .ok (.iconst (-1), 1) := by decide +kernel
theorem dX1_take_61 : decode cX1_take 61 = .ok (.if_icmp .ne 6, 3) := by decide +kernel
theorem dX1_take_64 : decode cX1_take 64 = .ok (.bipush (-2), 2) := by decide +kernel
theorem dX1_take_66 : decode cX1_take 66 = .ok (.ireturn, 1) := by decide +kernel
theorem dX1_take_67 : decode cX1_take 67 = .ok (.aload_n 0, 1) := by decide +kernel
theorem dX1_take_68 : decode cX1_take 68 = .ok (.iload 8, 2) := by decide +kernel
theorem dX1_take_70 : decode cX1_take 70 = .ok (.iload 7, 2) := by decide +kernel
theorem dX1_take_72 : decode cX1_take 72 = .ok (.iload 6, 2) := by decide +kernel
theorem dX1_take_74 : decode cX1_take 74 = .ok (.iload 5, 2) := by decide +kernel
theorem dX1_take_76 : decode cX1_take 76 = .ok (.invokevirtual 46, 3) := by decide +kernel
theorem dX1_take_79 : decode cX1_take 79 = .ok (.ireturn, 1) := by decide +kernel
theorem dX1_pass_0 : decode cX1_pass 0 = .ok (.iload_n 1, 1) := by decide +kernel
theorem dX1_pass_1 : decode cX1_pass 1 = .ok (.aload_n 0, 1) := by decide +kernel
theorem dX1_pass_2 : decode cX1_pass 2 = .ok (.getfield 31, 3) := by decide +kernel
theorem dX1_pass_5 : decode cX1_pass 5 = .ok (.if_icmp .lt 9, 3) := by decide +kernel
theorem dX1_pass_8 : decode cX1_pass 8 = .ok (.iload_n 1, 1) := by decide +kernel
theorem dX1_pass_9 : decode cX1_pass 9 = .ok (.ldc 50, 2) := by decide +kernel
theorem dX1_pass_11 : decode cX1_pass 11 = .ok (.if_icmp .le 5, 3) := by decide +kernel
theorem dX1_pass_14 : decode cX1_pass 14 = .ok (.iconst (-1), 1) := by decide +kernel
theorem dX1_pass_15 : decode cX1_pass 15 = .ok (.ireturn, 1) := by decide +kernel
theorem dX1_pass_16 : decode cX1_pass 16 = .ok (.aload_n 0, 1) := by decide +kernel
theorem dX1_pass_17 : decode cX1_pass 17 = .ok (.iload_n 1, 1) := by decide +kernel
theorem dX1_pass_18 : decode cX1_pass 18 = .ok (.putfield 31, 3) := by decide +kernel
theorem dX1_pass_21 : decode cX1_pass 21 = .ok (.iconst 0, 1) := by decide +kernel
theorem dX1_pass_22 : decode cX1_pass 22 = .ok (.istore_n 2, 1) := by decide +kernel
theorem dX1_pass_23 : decode cX1_pass 23 = .ok (.iconst 0, 1) := by decide +kernel
theorem dX1_pass_24 : decode cX1_pass 24 = .ok (.istore_n 3, 1) := by decide +kernel
theorem dX1_pass_25 : decode cX1_pass 25 = .ok (.iload_n 3, 1) := by decide +kernel
theorem dX1_pass_26 : decode cX1_pass 26 = .ok (.iconst 4, 1) := by decide +kernel
theorem dX1_pass_27 : decode cX1_pass 27 = .ok (.if_icmp .ge 54, 3) := by decide +kernel
theorem dX1_pass_30 : decode cX1_pass 30 = .ok (.aload_n 0, 1) := by decide +kernel
theorem dX1_pass_31 : decode cX1_pass 31 = .ok (.getfield 15, 3) := by decide +kernel
theorem dX1_pass_34 : decode cX1_pass 34 = .ok (.iload_n 3, 1) := by decide +kernel
theorem dX1_pass_35 : decode cX1_pass 35 = .ok (.aaload, 1) := by decide +kernel
theorem dX1_pass_36 : decode cX1_pass 36 = .ok (.getfield 51, 3) := by decide +kernel
theorem dX1_pass_39 : decode cX1_pass 39 = .ok (.ifCond .eq 36, 3) := by decide +kernel
theorem dX1_pass_42 : decode cX1_pass 42 = .ok (.aload_n 0, 1) := by decide +kernel
theorem dX1_pass_43 : decode cX1_pass 43 = .ok (.getfield 15, 3) := by decide +kernel
theorem dX1_pass_46 : decode cX1_pass 46 = .ok (.iload_n 3, 1) := by decide +kernel
theorem dX1_pass_47 : decode cX1_pass 47 = .ok (.aaload, 1) := by decide +kernel
theorem dX1_pass_48 : decode cX1_pass 48 = .ok (.getfield 55, 3) := by decide +kernel
theorem dX1_pass_51 : decode cX1_pass 51 = .ok (.sipush 15000, 3) := by decide +kernel
theorem dX1_pass_54 : decode cX1_pass 54 = .ok (.iadd, 1) := by decide +kernel
theorem dX1_pass_55 : decode cX1_pass 55 = .ok (.aload_n 0, 1) := by decide +kernel
theorem dX1_pass_56 : decode cX1_pass 56 = .ok (.getfield 31, 3) := by decide +kernel
theorem dX1_pass_59 : decode cX1_pass 59 = .ok (.if_icmp .gt 16, 3) := by decide +kernel
theorem dX1_pass_62 : decode cX1_pass 62 = .ok (.aload_n 0, 1) := by decide +kernel
theorem dX1_pass_63 : decode cX1_pass 63 = .ok (.getfield 15, 3) := by decide +kernel
theorem dX1_pass_66 : decode cX1_pass 66 = .ok (.iload_n 3, 1) := by decide +kernel
theorem dX1_pass_67 : decode cX1_pass 67 = .ok (.aaload, 1) := by decide +kernel
theorem dX1_pass_68 : decode cX1_pass 68 = .ok (.iconst 0, 1) := by decide +kernel
theorem dX1_pass_69 : decode cX1_pass 69 = .ok (.putfield 51, 3) := by decide +kernel
theorem dX1_pass_72 : decode cX1_pass 72 = .ok (.iinc 2 1, 3) := by decide +kernel
theorem dX1_pass_75 : decode cX1_pass 75 = .ok (.iinc 3 1, 3) := by decide +kernel
theorem dX1_pass_78 : decode cX1_pass 78 = .ok (.goto (-53), 3) := by decide +kernel
end
section
theorem dX1_pass_81 : decode cX1_pass 81 = .ok (.iload_n 2, 1) := by decide +kernel
theorem dX1_pass_82 : decode cX1_pass 82 = .ok (.ireturn, 1) := by decide +kernel
theorem dX1_making_0 : decode cX1_making 0 = .ok (.iconst 0, 1) := by decide +kernel
theorem dX1_making_1 : decode cX1_making 1 = .ok (.istore_n 1, 1) := by decide +kernel
theorem dX1_making_2 : decode cX1_making 2 = .ok (.iconst 0, 1) := by decide +kernel
theorem dX1_making_3 : decode cX1_making 3 = .ok (.istore_n 2, 1) := by decide +kernel
theorem dX1_making_4 : decode cX1_making 4 = .ok (.iload_n 2, 1) := by decide +kernel
theorem dX1_making_5 : decode cX1_making 5 = .ok (.iconst 4, 1) := by decide +kernel
theorem dX1_making_6 : decode cX1_making 6 = .ok (.if_icmp .ge 24, 3) := by decide +kernel
theorem dX1_making_9 : decode cX1_making 9 = .ok (.aload_n 0, 1) := by decide +kernel
theorem dX1_making_10 : decode cX1_making 10 = .ok (.getfield 15, 3) := by decide +kernel
theorem dX1_making_13 : decode cX1_making 13 = .ok (.iload_n 2, 1) := by decide +kernel
theorem dX1_making_14 : decode cX1_making 14 = .ok (.aaload, 1) := by decide +kernel
theorem dX1_making_15 : decode cX1_making 15 = .ok (.getfield 51, 3) := by decide +kernel
theorem dX1_making_18 : decode cX1_making 18 = .ok (.ifCond .eq 6, 3) := by decide +kernel
theorem dX1_making_21 : decode cX1_making 21 = .ok (.iinc 1 1, 3) := by decide +kernel
theorem dX1_making_24 : decode cX1_making 24 = .ok (.iinc 2 1, 3) := by decide +kernel
theorem dX1_making_27 : decode cX1_making 27 = .ok (.goto (-23), 3) := by decide +kernel
theorem dX1_making_30 : decode cX1_making 30 = .ok (.iload_n 1, 1) := by decide +kernel
theorem dX1_making_31 : decode cX1_making 31 = .ok (.ireturn, 1) := by decide +kernel
theorem dX1_made_0 : decode cX1_made 0 = .ok (.aload_n 0, 1) := by decide +kernel
theorem dX1_made_1 : decode cX1_made 1 = .ok (.getfield 28, 3) := by decide +kernel
theorem dX1_made_4 : decode cX1_made 4 = .ok (.ireturn, 1) := by decide +kernel
theorem dX1_length_0 : decode cX1_length 0 = .ok (.aload_n 0, 1) := by decide +kernel
theorem dX1_length_1 : decode cX1_length 1 = .ok (.getfield 20, 3) := by decide +kernel
theorem dX1_length_4 : decode cX1_length 4 = .ok (.getfield 58, 3) := by decide +kernel
theorem dX1_length_7 : decode cX1_length 7 = .ok (.ireturn, 1) := by decide +kernel
theorem dX1_at_0 : decode cX1_at 0 = .ok (.iload_n 1, 1) := by decide +kernel
theorem dX1_at_1 : decode cX1_at 1 = .ok (.ifCond .lt 14, 3) := by decide +kernel
theorem dX1_at_4 : decode cX1_at 4 = .ok (.iload_n 1, 1) := by decide +kernel
theorem dX1_at_5 : decode cX1_at 5 = .ok (.aload_n 0, 1) := by decide +kernel
theorem dX1_at_6 : decode cX1_at 6 = .ok (.getfield 20, 3) := by decide +kernel
theorem dX1_at_9 : decode cX1_at 9 = .ok (.getfield 58, 3) := by decide +kernel
theorem dX1_at_12 : decode cX1_at 12 = .ok (.if_icmp .lt 5, 3) := by decide +kernel
theorem dX1_at_15 : decode cX1_at 15 = .ok (.iconst (-1), 1) := by decide +kernel
theorem dX1_at_16 : decode cX1_at 16 = .ok (.ireturn, 1) := by decide +kernel
theorem dX1_at_17 : decode cX1_at 17 = .ok (.aload_n 0, 1) := by decide +kernel
theorem dX1_at_18 : decode cX1_at 18 = .ok (.getfield 20, 3) := by decide +kernel
theorem dX1_at_21 : decode cX1_at 21 = .ok (.getfield 61, 3) := by decide +kernel
theorem dX1_at_24 : decode cX1_at 24 = .ok (.iload_n 1, 1) := by decide +kernel
theorem dX1_at_25 : decode cX1_at 25 = .ok (.iaload, 1) := by decide +kernel
theorem dX1_at_26 : decode cX1_at 26 = .ok (.ireturn, 1) := by decide +kernel
theorem dX1_putWord_0 : decode cX1_putWord 0 = .ok (.iconst 0, 1) := by decide +kernel
theorem dX1_putWord_1 : decode cX1_putWord 1 = .ok (.istore_n 3, 1) := by decide +kernel
theorem dX1_putWord_2 : decode cX1_putWord 2 = .ok (.iload_n 3, 1) := by decide +kernel
theorem dX1_putWord_3 : decode cX1_putWord 3 = .ok (.iconst 4, 1) := by decide +kernel
theorem dX1_putWord_4 : decode cX1_putWord 4 = .ok (.if_icmp .ge 30, 3) := by decide +kernel
theorem dX1_putWord_7 : decode cX1_putWord 7 = .ok (.aload_n 0, 1) := by decide +kernel
theorem dX1_putWord_8 : decode cX1_putWord 8 = .ok (.getfield 9, 3) := by decide +kernel
theorem dX1_putWord_11 : decode cX1_putWord 11 = .ok (.iload_n 2, 1) := by decide +kernel
theorem dX1_putWord_12 : decode cX1_putWord 12 = .ok (.iload_n 3, 1) := by decide +kernel
theorem dX1_putWord_13 : decode cX1_putWord 13 = .ok (.iadd, 1) := by decide +kernel
theorem dX1_putWord_14 : decode cX1_putWord 14 = .ok (.iload_n 1, 1) := by decide +kernel
theorem dX1_putWord_15 : decode cX1_putWord 15 = .ok (.bipush 24, 2) := by decide +kernel
theorem dX1_putWord_17 : decode cX1_putWord 17 = .ok (.bipush 8, 2) := by decide +kernel
theorem dX1_putWord_19 : decode cX1_putWord 19 = .ok (.iload_n 3, 1) := by decide +kernel
theorem dX1_putWord_20 : decode cX1_putWord 20 = .ok (.imul, 1) := by decide +kernel
theorem dX1_putWord_21 : decode cX1_putWord 21 = .ok (.isub, 1) := by decide +kernel
theorem dX1_putWord_22 : decode cX1_putWord 22 = .ok (.iushr, 1) := by decide +kernel
theorem dX1_putWord_23 : decode cX1_putWord 23 = .ok (.sipush 255, 3) := by decide +kernel
theorem dX1_putWord_26 : decode cX1_putWord 26 = .ok (.iand, 1) := by decide +kernel
theorem dX1_putWord_27 : decode cX1_putWord 27 = .ok (.iastore, 1) := by decide +kernel
theorem dX1_putWord_28 : decode cX1_putWord 28 = .ok (.iinc 3 1, 3) := by decide +kernel
theorem dX1_putWord_31 : decode cX1_putWord 31 = .ok (.goto (-29), 3) := by decide +kernel
theorem dX1_putWord_34 : decode cX1_putWord 34 = .ok (.return_, 1) := by decide +kernel
theorem dX1_isSound_0 : decode cX1_isSound 0 = .ok (.iload_n 0, 1) := by decide +kernel
theorem dX1_isSound_1 : decode cX1_isSound 1 = .ok (.iload_n 1, 1) := by decide +kernel
theorem dX1_isSound_2 : decode cX1_isSound 2 = .ok (.iadd, 1) := by decide +kernel
theorem dX1_isSound_3 : decode cX1_isSound 3 = .ok (.sipush 4096, 3) := by decide +kernel
theorem dX1_isSound_6 : decode cX1_isSound 6 = .ok (.if_icmp .le 5, 3) := by decide +kernel
theorem dX1_isSound_9 : decode cX1_isSound 9 = .ok (.iconst 0, 1) := by decide +kernel
theorem dX1_isSound_10 : decode cX1_isSound 10 = .ok (.ireturn, 1) := by decide +kernel
theorem dX1_isSound_11 : decode cX1_isSound 11 = .ok (.iload_n 2, 1) := by decide +kernel
theorem dX1_isSound_12 : decode cX1_isSound 12 = .ok (.ifCond .ne 14, 3) := by decide +kernel
theorem dX1_isSound_15 : decode cX1_isSound 15 = .ok (.iload_n 1, 1) := by decide +kernel
theorem dX1_isSound_16 : decode cX1_isSound 16 = .ok (.ifCond .le 14, 3) := by decide +kernel
theorem dX1_isSound_19 : decode cX1_isSound 19 = .ok (.iload_n 1, 1) := by decide +kernel
theorem dX1_isSound_20 : decode cX1_isSound 20 = .ok (.bipush 8, 2) := by decide +kernel
theorem dX1_isSound_22 : decode cX1_isSound 22 = .ok (.irem, 1) := by decide +kernel
theorem dX1_isSound_23 : decode cX1_isSound 23 = .ok (.ifCond .ne 7, 3) := by decide +kernel
theorem dX1_isSound_26 : decode cX1_isSound 26 = .ok (.iconst 1, 1) := by decide +kernel
theorem dX1_isSound_27 : decode cX1_isSound 27 = .ok (.goto 4, 3) := by decide +kernel
theorem dX1_isSound_30 : decode cX1_isSound 30 = .ok (.iconst 0, 1) := by decide +kernel
theorem dX1_isSound_31 : decode cX1_isSound 31 = .ok (.ireturn, 1) := by decide +kernel
set_option maxRecDepth 20000 in
theorem ggX1_slotFor_X0_isOf : GoodIn wsX1_slotFor wsX0_isOf := goodIn_r _ [8, 9, 10, 11, 32, 33, 34, 35, 36, 37, 38, 39, 40] (by decide +kernel) (by decide +kernel)
set_option maxRecDepth 20000 in
theorem gX1_slotFor_X0_isOf : GoodIn wsX1_slotFor (wsV RX1 64 RX0 yX0_isOf wsX0_isOf) := goodIn_app (goodIn_of _ (by decide +kernel)) ggX1_slotFor_X0_isOf
set_option maxRecDepth 20000 in
theorem ggX1_slotFor_X0_begin : GoodIn wsX1_slotFor wsX0_begin := goodIn_r _ [15, 16, 17, 9, 10, 11, 18, 19, 20, 21, 22, 23, 24, 25, 32, 33, 34, 35, 36, 37, 38, 39, 40] (by decide +kernel) (by decide +kernel)
set_option maxRecDepth 20000 in
theorem gX1_slotFor_X0_begin : GoodIn wsX1_slotFor (wsV RX1 68 RX0 yX0_begin wsX0_begin) := goodIn_app (goodIn_of _ (by decide +kernel)) ggX1_slotFor_X0_begin
theorem dX1_slotFor_0 : decode cX1_slotFor 0 = .ok (.iconst (-1), 1) := by decide +kernel
theorem dX1_slotFor_1 : decode cX1_slotFor 1 = .ok (.istore 4, 2) := by decide +kernel
theorem dX1_slotFor_3 : decode cX1_slotFor 3 = .ok (.iconst 0, 1) := by decide +kernel
theorem dX1_slotFor_4 : decode cX1_slotFor 4 = .ok (.istore 5, 2) := by decide +kernel
theorem dX1_slotFor_6 : decode cX1_slotFor 6 = .ok (.iload 5, 2) := by decide +kernel
theorem dX1_slotFor_8 : decode cX1_slotFor 8 = .ok (.iconst 4, 1) := by decide +kernel
theorem dX1_slotFor_9 : decode cX1_slotFor 9 = .ok (.if_icmp .ge 48, 3) := by decide +kernel
theorem dX1_slotFor_12 : decode cX1_slotFor 12 = .ok (.aload_n 0, 1) := by decide +kernel
theorem dX1_slotFor_13 : decode cX1_slotFor 13 = .ok (.getfield 15, 3) := by decide +kernel
theorem dX1_slotFor_16 : decode cX1_slotFor 16 = .ok (.iload 5, 2) := by decide +kernel
theorem dX1_slotFor_18 : decode cX1_slotFor 18 = .ok (.aaload, 1) := by decide +kernel
theorem dX1_slotFor_19 : decode cX1_slotFor 19 = .ok (.getfield 51, 3) := by decide +kernel
theorem dX1_slotFor_22 : decode cX1_slotFor 22 = .ok (.ifCond .ne 10, 3) := by decide +kernel
theorem dX1_slotFor_25 : decode cX1_slotFor 25 = .ok (.iload 5, 2) := by decide +kernel
theorem dX1_slotFor_27 : decode cX1_slotFor 27 = .ok (.istore 4, 2) := by decide +kernel
theorem dX1_slotFor_29 : decode cX1_slotFor 29 = .ok (.goto 22, 3) := by decide +kernel
theorem dX1_slotFor_32 : decode cX1_slotFor 32 = .ok (.aload_n 0, 1) := by decide +kernel
theorem dX1_slotFor_33 : decode cX1_slotFor 33 = .ok (.getfield 15, 3) := by decide +kernel
theorem dX1_slotFor_36 : decode cX1_slotFor 36 = .ok (.iload 5, 2) := by decide +kernel
theorem dX1_slotFor_38 : decode cX1_slotFor 38 = .ok (.aaload, 1) := by decide +kernel
theorem dX1_slotFor_39 : decode cX1_slotFor 39 = .ok (.iload_n 1, 1) := by decide +kernel
theorem dX1_slotFor_40 : decode cX1_slotFor 40 = .ok (.iload_n 2, 1) := by decide +kernel
theorem dX1_slotFor_41 : decode cX1_slotFor 41 = .ok (.iload_n 3, 1) := by decide +kernel
theorem dX1_slotFor_42 : decode cX1_slotFor 42 = .ok (.invokevirtual 64, 3) := by decide +kernel
theorem dX1_slotFor_45 : decode cX1_slotFor 45 = .ok (.ifCond .eq 6, 3) := by decide +kernel
theorem dX1_slotFor_48 : decode cX1_slotFor 48 = .ok (.iload 5, 2) := by decide +kernel
theorem dX1_slotFor_50 : decode cX1_slotFor 50 = .ok (.ireturn, 1) := by decide +kernel
theorem dX1_slotFor_51 : decode cX1_slotFor 51 = .ok (.iinc 5 1, 3) := by decide +kernel
theorem dX1_slotFor_54 : decode cX1_slotFor 54 = .ok (.goto (-48), 3) := by decide +kernel
theorem dX1_slotFor_57 : decode cX1_slotFor 57 = .ok (.iload 4, 2) := by decide +kernel
theorem dX1_slotFor_59 : decode cX1_slotFor 59 = .ok (.iconst (-1), 1) := by decide +kernel
theorem dX1_slotFor_60 : decode cX1_slotFor 60 = .ok (.if_icmp .eq 20, 3) := by decide +kernel
theorem dX1_slotFor_63 : decode cX1_slotFor 63 = .ok (.aload_n 0, 1) := by decide +kernel
theorem dX1_slotFor_64 : decode cX1_slotFor 64 = .ok (.getfield 15, 3) := by decide +kernel
theorem dX1_slotFor_67 : decode cX1_slotFor 67 = .ok (.iload 4, 2) := by decide +kernel
theorem dX1_slotFor_69 : decode cX1_slotFor 69 = .ok (.aaload, 1) := by decide +kernel
theorem dX1_slotFor_70 : decode cX1_slotFor 70 = .ok (.iload_n 1, 1) := by decide +kernel
theorem dX1_slotFor_71 : decode cX1_slotFor 71 = .ok (.iload_n 2, 1) := by decide +kernel
theorem dX1_slotFor_72 : decode cX1_slotFor 72 = .ok (.iload_n 3, 1) := by decide +kernel
theorem dX1_slotFor_73 : decode cX1_slotFor 73 = .ok (.aload_n 0, 1) := by decide +kernel
theorem dX1_slotFor_74 : decode cX1_slotFor 74 = .ok (.getfield 31, 3) := by decide +kernel
theorem dX1_slotFor_77 : decode cX1_slotFor 77 = .ok (.invokevirtual 68, 3) := by decide +kernel
theorem dX1_slotFor_80 : decode cX1_slotFor 80 = .ok (.iload 4, 2) := by decide +kernel
theorem dX1_slotFor_82 : decode cX1_slotFor 82 = .ok (.ireturn, 1) := by decide +kernel
set_option maxRecDepth 20000 in
theorem ggX1_join_X0_isContradictedBy : GoodIn wsX1_join wsX0_isContradictedBy := goodIn_r _ [10, 11, 12, 43, 44, 45, 46, 47, 48, 49, 50, 51] (by decide +kernel) (by decide +kernel)
set_option maxRecDepth 20000 in
theorem gX1_join_X0_isContradictedBy : GoodIn wsX1_join (wsV RX1 72 RX0 yX0_isContradictedBy wsX0_isContradictedBy) := goodIn_app (goodIn_of _ (by decide +kernel)) ggX1_join_X0_isContradictedBy
set_option maxRecDepth 20000 in
theorem ggX1_join_X0_noteReach : GoodIn wsX1_join wsX0_noteReach := goodIn_r _ [16, 12, 17, 18, 19, 20, 11, 43, 44, 45, 46, 47, 48, 49, 50, 51] (by decide +kernel) (by decide +kernel)
set_option maxRecDepth 20000 in
theorem gX1_join_X0_noteReach : GoodIn wsX1_join (wsV RX1 76 RX0 yX0_noteReach wsX0_noteReach) := goodIn_app (goodIn_of _ (by decide +kernel)) ggX1_join_X0_noteReach
set_option maxRecDepth 20000 in
theorem ggX1_join_X0_putIn : GoodIn wsX1_join wsX0_putIn := goodIn_r _ [24, 25, 26, 43, 44, 45, 46, 47, 48, 49, 50, 51] (by decide +kernel) (by decide +kernel)
set_option maxRecDepth 20000 in
theorem gX1_join_X0_putIn : GoodIn wsX1_join (wsV RX1 80 RX0 yX0_putIn wsX0_putIn) := goodIn_app (goodIn_of _ (by decide +kernel)) ggX1_join_X0_putIn
set_option maxRecDepth 20000 in
theorem ggX1_join_X0_isWhole : GoodIn wsX1_join wsX0_isWhole := goodIn_r _ [30, 11, 26, 43, 44, 45, 46, 47, 48, 49, 50, 51] (by decide +kernel) (by decide +kernel)
set_option maxRecDepth 20000 in
theorem gX1_join_X0_isWhole : GoodIn wsX1_join (wsV RX1 84 RX0 yX0_isWhole wsX0_isWhole) := goodIn_app (goodIn_of _ (by decide +kernel)) ggX1_join_X0_isWhole
set_option maxRecDepth 20000 in
theorem ggX1_join_X1_showWhole : GoodIn wsX1_join wsX1_showWhole := goodIn_r _ [35, 1, 2, 4, 36, 37, 38, 39, 40, 41, 42, 43, 44, 45, 46, 47, 48, 49, 50, 51] (by decide +kernel) (by decide +kernel)
set_option maxRecDepth 20000 in
theorem gX1_join_X1_showWhole : GoodIn wsX1_join (wsV RX1 88 RX1 yX1_showWhole wsX1_showWhole) := goodIn_app (goodIn_of _ (by decide +kernel)) ggX1_join_X1_showWhole
theorem dX1_join_0 : decode cX1_join 0 = .ok (.aload_n 0, 1) := by decide +kernel
theorem dX1_join_1 : decode cX1_join 1 = .ok (.getfield 15, 3) := by decide +kernel
theorem dX1_join_4 : decode cX1_join 4 = .ok (.iload_n 1, 1) := by decide +kernel
theorem dX1_join_5 : decode cX1_join 5 = .ok (.aaload, 1) := by decide +kernel
theorem dX1_join_6 : decode cX1_join 6 = .ok (.astore 5, 2) := by decide +kernel
theorem dX1_join_8 : decode cX1_join 8 = .ok (.iload_n 2, 1) := by decide +kernel
theorem dX1_join_9 : decode cX1_join 9 = .ok (.iload_n 3, 1) := by decide +kernel
theorem dX1_join_10 : decode cX1_join 10 = .ok (.iadd, 1) := by decide +kernel
theorem dX1_join_11 : decode cX1_join 11 = .ok (.istore 6, 2) := by decide +kernel
theorem dX1_join_13 : decode cX1_join 13 = .ok (.aload 5, 2) := by decide +kernel
theorem dX1_join_15 : decode cX1_join 15 = .ok (.iload 6, 2) := by decide +kernel
theorem dX1_join_17 : decode cX1_join 17 = .ok (.iload 4, 2) := by decide +kernel
theorem dX1_join_19 : decode cX1_join 19 = .ok (.invokevirtual 72, 3) := by decide +kernel
theorem dX1_join_22 : decode cX1_join 22 = .ok (.ifCond .eq 12, 3) := by decide +kernel
theorem dX1_join_25 : decode cX1_join 25 = .ok (.aload 5, 2) := by decide +kernel
theorem dX1_join_27 : decode cX1_join 27 = .ok (.iconst 0, 1) := by decide +kernel
theorem dX1_join_28 : decode cX1_join 28 = .ok (.putfield 51, 3) := by decide +kernel
theorem dX1_join_31 : decode cX1_join 31 = .ok (.bipush (-3), 2) := by decide +kernel
theorem dX1_join_33 : decode cX1_join 33 = .ok (.ireturn, 1) := by decide +kernel
theorem dX1_join_34 : decode cX1_join 34 = .ok (.aload 5, 2) := by decide +kernel
theorem dX1_join_36 : decode cX1_join 36 = .ok (.iload 6, 2) := by decide +kernel
theorem dX1_join_38 : decode cX1_join 38 = .ok (.iload 4, 2) := by decide +kernel
theorem dX1_join_40 : decode cX1_join 40 = .ok (.invokevirtual 76, 3) := by decide +kernel
theorem dX1_join_43 : decode cX1_join 43 = .ok (.aload 5, 2) := by decide +kernel
theorem dX1_join_45 : decode cX1_join 45 = .ok (.aload_n 0, 1) := by decide +kernel
theorem dX1_join_46 : decode cX1_join 46 = .ok (.getfield 9, 3) := by decide +kernel
theorem dX1_join_49 : decode cX1_join 49 = .ok (.iload_n 3, 1) := by decide +kernel
theorem dX1_join_50 : decode cX1_join 50 = .ok (.iload_n 2, 1) := by decide +kernel
theorem dX1_join_51 : decode cX1_join 51 = .ok (.invokevirtual 80, 3) := by decide +kernel
theorem dX1_join_54 : decode cX1_join 54 = .ok (.aload 5, 2) := by decide +kernel
theorem dX1_join_56 : decode cX1_join 56 = .ok (.invokevirtual 84, 3) := by decide +kernel
theorem dX1_join_59 : decode cX1_join 59 = .ok (.ifCond .ne 5, 3) := by decide +kernel
theorem dX1_join_62 : decode cX1_join 62 = .ok (.iconst (-1), 1) := by decide +kernel
theorem dX1_join_63 : decode cX1_join 63 = .ok (.ireturn, 1) := by decide +kernel
theorem dX1_join_64 : decode cX1_join 64 = .ok (.aload_n 0, 1) := by decide +kernel
theorem dX1_join_65 : decode cX1_join 65 = .ok (.iload_n 1, 1) := by decide +kernel
theorem dX1_join_66 : decode cX1_join 66 = .ok (.invokevirtual 88, 3) := by decide +kernel
theorem dX1_join_69 : decode cX1_join 69 = .ok (.aload_n 0, 1) := by decide +kernel
theorem dX1_join_70 : decode cX1_join 70 = .ok (.getfield 20, 3) := by decide +kernel
theorem dX1_join_73 : decode cX1_join 73 = .ok (.getfield 58, 3) := by decide +kernel
theorem dX1_join_76 : decode cX1_join 76 = .ok (.ireturn, 1) := by decide +kernel
theorem dX1_showWhole_0 : decode cX1_showWhole 0 = .ok (.aload_n 0, 1) := by decide +kernel
theorem dX1_showWhole_1 : decode cX1_showWhole 1 = .ok (.getfield 15, 3) := by decide +kernel
theorem dX1_showWhole_4 : decode cX1_showWhole 4 = .ok (.iload_n 1, 1) := by decide +kernel
theorem dX1_showWhole_5 : decode cX1_showWhole 5 = .ok (.aaload, 1) := by decide +kernel
theorem dX1_showWhole_6 : decode cX1_showWhole 6 = .ok (.astore_n 2, 1) := by decide +kernel
theorem dX1_showWhole_7 : decode cX1_showWhole 7 = .ok (.aload_n 2, 1) := by decide +kernel
theorem dX1_showWhole_8 : decode cX1_showWhole 8 = .ok (.iconst 0, 1) := by decide +kernel
theorem dX1_showWhole_9 : decode cX1_showWhole 9 = .ok (.putfield 51, 3) := by decide +kernel
theorem dX1_showWhole_12 : decode cX1_showWhole 12 = .ok (.aload_n 0, 1) := by decide +kernel
theorem dX1_showWhole_13 : decode cX1_showWhole 13 = .ok (.getfield 15, 3) := by decide +kernel
theorem dX1_showWhole_16 : decode cX1_showWhole 16 = .ok (.iload_n 1, 1) := by decide +kernel
theorem dX1_showWhole_17 : decode cX1_showWhole 17 = .ok (.aload_n 0, 1) := by decide +kernel
theorem dX1_showWhole_18 : decode cX1_showWhole 18 = .ok (.getfield 20, 3) := by decide +kernel
theorem dX1_showWhole_21 : decode cX1_showWhole 21 = .ok (.aastore, 1) := by decide +kernel
theorem dX1_showWhole_22 : decode cX1_showWhole 22 = .ok (.aload_n 0, 1) := by decide +kernel
theorem dX1_showWhole_23 : decode cX1_showWhole 23 = .ok (.aload_n 2, 1) := by decide +kernel
theorem dX1_showWhole_24 : decode cX1_showWhole 24 = .ok (.putfield 20, 3) := by decide +kernel
theorem dX1_showWhole_27 : decode cX1_showWhole 27 = .ok (.aload_n 0, 1) := by decide +kernel
theorem dX1_showWhole_28 : decode cX1_showWhole 28 = .ok (.dup, 1) := by decide +kernel
theorem dX1_showWhole_29 : decode cX1_showWhole 29 = .ok (.getfield 28, 3) := by decide +kernel
theorem dX1_showWhole_32 : decode cX1_showWhole 32 = .ok (.iconst 1, 1) := by decide +kernel
theorem dX1_showWhole_33 : decode cX1_showWhole 33 = .ok (.iadd, 1) := by decide +kernel
theorem dX1_showWhole_34 : decode cX1_showWhole 34 = .ok (.putfield 28, 3) := by decide +kernel
theorem dX1_showWhole_37 : decode cX1_showWhole 37 = .ok (.return_, 1) := by decide +kernel
theorem dX2_init_0 : decode cX2_init 0 = .ok (.aload_n 0, 1) := by decide +kernel
theorem dX2_init_1 : decode cX2_init 1 = .ok (.invokespecial 1, 3) := by decide +kernel
theorem dX2_init_4 : decode cX2_init 4 = .ok (.aload_n 0, 1) := by decide +kernel
theorem dX2_init_5 : decode cX2_init 5 = .ok (.sipush 1480, 3) := by decide +kernel
theorem dX2_init_8 : decode cX2_init 8 = .ok (.newarray .byte, 2) := by decide +kernel
theorem dX2_init_10 : decode cX2_init 10 = .ok (.putfield 9, 3) := by decide +kernel
theorem dX2_init_13 : decode cX2_init 13 = .ok (.aload_n 0, 1) := by decide +kernel
theorem dX2_init_14 : decode cX2_init 14 = .ok (.iconst 4, 1) := by decide +kernel
theorem dX2_init_15 : decode cX2_init 15 = .ok (.newarray .int, 2) := by decide +kernel
theorem dX2_init_17 : decode cX2_init 17 = .ok (.putfield 13, 3) := by decide +kernel
theorem dX2_init_20 : decode cX2_init 20 = .ok (.aload_n 0, 1) := by decide +kernel
theorem dX2_init_21 : decode cX2_init 21 = .ok (.iconst 4, 1) := by decide +kernel
theorem dX2_init_22 : decode cX2_init 22 = .ok (.newarray .int, 2) := by decide +kernel
theorem dX2_init_24 : decode cX2_init 24 = .ok (.putfield 17, 3) := by decide +kernel
theorem dX2_init_27 : decode cX2_init 27 = .ok (.aload_n 0, 1) := by decide +kernel
theorem dX2_init_28 : decode cX2_init 28 = .ok (.iconst 4, 1) := by decide +kernel
theorem dX2_init_29 : decode cX2_init 29 = .ok (.newarray .int, 2) := by decide +kernel
theorem dX2_init_31 : decode cX2_init 31 = .ok (.putfield 20, 3) := by decide +kernel
theorem dX2_init_34 : decode cX2_init 34 = .ok (.aload_n 0, 1) := by decide +kernel
theorem dX2_init_35 : decode cX2_init 35 = .ok (.iconst 4, 1) := by decide +kernel
theorem dX2_init_36 : decode cX2_init 36 = .ok (.newarray .int, 2) := by decide +kernel
theorem dX2_init_38 : decode cX2_init 38 = .ok (.putfield 23, 3) := by decide +kernel
theorem dX2_init_41 : decode cX2_init 41 = .ok (.aload_n 0, 1) := by decide +kernel
theorem dX2_init_42 : decode cX2_init 42 = .ok (.iconst 4, 1) := by decide +kernel
theorem dX2_init_43 : decode cX2_init 43 = .ok (.newarray .int, 2) := by decide +kernel
theorem dX2_init_45 : decode cX2_init 45 = .ok (.putfield 26, 3) := by decide +kernel
theorem dX2_init_48 : decode cX2_init 48 = .ok (.aload_n 0, 1) := by decide +kernel
theorem dX2_init_49 : decode cX2_init 49 = .ok (.iconst 4, 1) := by decide +kernel
theorem dX2_init_50 : decode cX2_init 50 = .ok (.newarray .boolean, 2) := by decide +kernel
theorem dX2_init_52 : decode cX2_init 52 = .ok (.putfield 29, 3) := by decide +kernel
theorem dX2_init_55 : decode cX2_init 55 = .ok (.aload_n 0, 1) := by decide +kernel
theorem dX2_init_56 : decode cX2_init 56 = .ok (.sipush 16384, 3) := by decide +kernel
theorem dX2_init_59 : decode cX2_init 59 = .ok (.newarray .int, 2) := by decide +kernel
theorem dX2_init_61 : decode cX2_init 61 = .ok (.putfield 33, 3) := by decide +kernel
theorem dX2_init_64 : decode cX2_init 64 = .ok (.aload_n 0, 1) := by decide +kernel
theorem dX2_init_65 : decode cX2_init 65 = .ok (.sipush 4096, 3) := by decide +kernel
theorem dX2_init_68 : decode cX2_init 68 = .ok (.newarray .int, 2) := by decide +kernel
theorem dX2_init_70 : decode cX2_init 70 = .ok (.putfield 36, 3) := by decide +kernel
theorem dX2_init_73 : decode cX2_init 73 = .ok (.aload_n 0, 1) := by decide +kernel
theorem dX2_init_74 : decode cX2_init 74 = .ok (.iconst (-1), 1) := by decide +kernel
theorem dX2_init_75 : decode cX2_init 75 = .ok (.putfield 39, 3) := by decide +kernel
theorem dX2_init_78 : decode cX2_init 78 = .ok (.return_, 1) := by decide +kernel
set_option maxRecDepth 20000 in
theorem ggX2_feed_X2_word : GoodIn wsX2_feed wsX2_word := goodIn_r _ [6, 7, 1, 8, 9, 10, 11, 12, 13, 14, 15, 16, 17, 18, 19, 20] (by decide +kernel) (by decide +kernel)
set_option maxRecDepth 20000 in
theorem gX2_feed_X2_word : GoodIn wsX2_feed (wsV RX2 46 RX2 yX2_word wsX2_word) := goodIn_app (goodIn_of _ (by decide +kernel)) ggX2_feed_X2_word
theorem dX2_feed_0 : decode cX2_feed 0 = .ok (.aload_n 0, 1) := by decide +kernel
theorem dX2_feed_1 : decode cX2_feed 1 = .ok (.getfield 43, 3) := by decide +kernel
theorem dX2_feed_4 : decode cX2_feed 4 = .ok (.bipush 20, 2) := by decide +kernel
theorem dX2_feed_6 : decode cX2_feed 6 = .ok (.iadd, 1) := by decide +kernel
theorem dX2_feed_7 : decode cX2_feed 7 = .ok (.sipush 1480, 3) := by decide +kernel
theorem dX2_feed_10 : decode cX2_feed 10 = .ok (.if_icmp .le 5, 3) := by decide +kernel
theorem dX2_feed_13 : decode cX2_feed 13 = .ok (.iconst (-1), 1) := by decide +kernel
theorem dX2_feed_14 : decode cX2_feed 14 = .ok (.ireturn, 1) := by decide +kernel
theorem dX2_feed_15 : decode cX2_feed 15 = .ok (.aload_n 0, 1) := by decide +kernel
theorem dX2_feed_16 : decode cX2_feed 16 = .ok (.iload_n 1, 1) := by decide +kernel
theorem dX2_feed_17 : decode cX2_feed 17 = .ok (.invokevirtual 46, 3) := by decide +kernel
theorem dX2_feed_20 : decode cX2_feed 20 = .ok (.aload_n 0, 1) := by decide +kernel
theorem dX2_feed_21 : decode cX2_feed 21 = .ok (.iload_n 2, 1) := by decide +kernel
theorem dX2_feed_22 : decode cX2_feed 22 = .ok (.invokevirtual 46, 3) := by decide +kernel
theorem dX2_feed_25 : decode cX2_feed 25 = .ok (.aload_n 0, 1) := by decide +kernel
theorem dX2_feed_26 : decode cX2_feed 26 = .ok (.iload_n 3, 1) := by decide +kernel
theorem dX2_feed_27 : decode cX2_feed 27 = .ok (.invokevirtual 46, 3) := by decide +kernel
theorem dX2_feed_30 : decode cX2_feed 30 = .ok (.aload_n 0, 1) := by decide +kernel
theorem dX2_feed_31 : decode cX2_feed 31 = .ok (.iload 4, 2) := by decide +kernel
theorem dX2_feed_33 : decode cX2_feed 33 = .ok (.invokevirtual 46, 3) := by decide +kernel
theorem dX2_feed_36 : decode cX2_feed 36 = .ok (.aload_n 0, 1) := by decide +kernel
theorem dX2_feed_37 : decode cX2_feed 37 = .ok (.iload 5, 2) := by decide +kernel
theorem dX2_feed_39 : decode cX2_feed 39 = .ok (.invokevirtual 46, 3) := by decide +kernel
theorem dX2_feed_42 : decode cX2_feed 42 = .ok (.aload_n 0, 1) := by decide +kernel
theorem dX2_feed_43 : decode cX2_feed 43 = .ok (.getfield 43, 3) := by decide +kernel
theorem dX2_feed_46 : decode cX2_feed 46 = .ok (.ireturn, 1) := by decide +kernel
theorem dX2_word_0 : decode cX2_word 0 = .ok (.iconst 0, 1) := by decide +kernel
theorem dX2_word_1 : decode cX2_word 1 = .ok (.istore_n 2, 1) := by decide +kernel
theorem dX2_word_2 : decode cX2_word 2 = .ok (.iload_n 2, 1) := by decide +kernel
theorem dX2_word_3 : decode cX2_word 3 = .ok (.iconst 4, 1) := by decide +kernel
theorem dX2_word_4 : decode cX2_word 4 = .ok (.if_icmp .ge 38, 3) := by decide +kernel
theorem dX2_word_7 : decode cX2_word 7 = .ok (.aload_n 0, 1) := by decide +kernel
theorem dX2_word_8 : decode cX2_word 8 = .ok (.getfield 9, 3) := by decide +kernel
theorem dX2_word_11 : decode cX2_word 11 = .ok (.aload_n 0, 1) := by decide +kernel
theorem dX2_word_12 : decode cX2_word 12 = .ok (.getfield 43, 3) := by decide +kernel
theorem dX2_word_15 : decode cX2_word 15 = .ok (.iload_n 1, 1) := by decide +kernel
theorem dX2_word_16 : decode cX2_word 16 = .ok (.bipush 24, 2) := by decide +kernel
theorem dX2_word_18 : decode cX2_word 18 = .ok (.bipush 8, 2) := by decide +kernel
theorem dX2_word_20 : decode cX2_word 20 = .ok (.iload_n 2, 1) := by decide +kernel
theorem dX2_word_21 : decode cX2_word 21 = .ok (.imul, 1) := by decide +kernel
theorem dX2_word_22 : decode cX2_word 22 = .ok (.isub, 1) := by decide +kernel
theorem dX2_word_23 : decode cX2_word 23 = .ok (.ishr, 1) := by decide +kernel
theorem dX2_word_24 : decode cX2_word 24 = .ok (.i2b, 1) := by decide +kernel
theorem dX2_word_25 : decode cX2_word 25 = .ok (.bastore, 1) := by decide +kernel
theorem dX2_word_26 : decode cX2_word 26 = .ok (.aload_n 0, 1) := by decide +kernel
theorem dX2_word_27 : decode cX2_word 27 = .ok (.dup, 1) := by decide +kernel
theorem dX2_word_28 : decode cX2_word 28 = .ok (.getfield 43, 3) := by decide +kernel
theorem dX2_word_31 : decode cX2_word 31 = .ok (.iconst 1, 1) := by decide +kernel
theorem dX2_word_32 : decode cX2_word 32 = .ok (.iadd, 1) := by decide +kernel
theorem dX2_word_33 : decode cX2_word 33 = .ok (.putfield 43, 3) := by decide +kernel
theorem dX2_word_36 : decode cX2_word 36 = .ok (.iinc 2 1, 3) := by decide +kernel
theorem dX2_word_39 : decode cX2_word 39 = .ok (.goto (-37), 3) := by decide +kernel
theorem dX2_word_42 : decode cX2_word 42 = .ok (.return_, 1) := by decide +kernel
theorem dX2_end_0 : decode cX2_end 0 = .ok (.iload_n 1, 1) := by decide +kernel
theorem dX2_end_1 : decode cX2_end 1 = .ok (.ifCond .lt 11, 3) := by decide +kernel
theorem dX2_end_4 : decode cX2_end 4 = .ok (.iload_n 1, 1) := by decide +kernel
theorem dX2_end_5 : decode cX2_end 5 = .ok (.aload_n 0, 1) := by decide +kernel
theorem dX2_end_6 : decode cX2_end 6 = .ok (.getfield 43, 3) := by decide +kernel
theorem dX2_end_9 : decode cX2_end 9 = .ok (.if_icmp .le 5, 3) := by decide +kernel
theorem dX2_end_12 : decode cX2_end 12 = .ok (.iconst (-1), 1) := by decide +kernel
theorem dX2_end_13 : decode cX2_end 13 = .ok (.ireturn, 1) := by decide +kernel
theorem dX2_end_14 : decode cX2_end 14 = .ok (.aload_n 0, 1) := by decide +kernel
theorem dX2_end_15 : decode cX2_end 15 = .ok (.iload_n 1, 1) := by decide +kernel
theorem dX2_end_16 : decode cX2_end 16 = .ok (.putfield 43, 3) := by decide +kernel
theorem dX2_end_19 : decode cX2_end 19 = .ok (.iload_n 1, 1) := by decide +kernel
theorem dX2_end_20 : decode cX2_end 20 = .ok (.ireturn, 1) := by decide +kernel
theorem dX2_find_0 : decode cX2_find 0 = .ok (.iconst 0, 1) := by decide +kernel
theorem dX2_find_1 : decode cX2_find 1 = .ok (.istore 4, 2) := by decide +kernel
theorem dX2_find_3 : decode cX2_find 3 = .ok (.iload 4, 2) := by decide +kernel
theorem dX2_find_5 : decode cX2_find 5 = .ok (.iconst 4, 1) := by decide +kernel
theorem dX2_find_6 : decode cX2_find 6 = .ok (.if_icmp .ge 55, 3) := by decide +kernel
theorem dX2_find_9 : decode cX2_find 9 = .ok (.aload_n 0, 1) := by decide +kernel
theorem dX2_find_10 : decode cX2_find 10 = .ok (.getfield 29, 3) := by decide +kernel
theorem dX2_find_13 : decode cX2_find 13 = .ok (.iload 4, 2) := by decide +kernel
theorem dX2_find_15 : decode cX2_find 15 = .ok (.baload, 1) := by decide +kernel
theorem dX2_find_16 : decode cX2_find 16 = .ok (.ifCond .eq 39, 3) := by decide +kernel
theorem dX2_find_19 : decode cX2_find 19 = .ok (.aload_n 0, 1) := by decide +kernel
theorem dX2_find_20 : decode cX2_find 20 = .ok (.getfield 13, 3) := by decide +kernel
theorem dX2_find_23 : decode cX2_find 23 = .ok (.iload 4, 2) := by decide +kernel
theorem dX2_find_25 : decode cX2_find 25 = .ok (.iaload, 1) := by decide +kernel
theorem dX2_find_26 : decode cX2_find 26 = .ok (.iload_n 1, 1) := by decide +kernel
theorem dX2_find_27 : decode cX2_find 27 = .ok (.if_icmp .ne 28, 3) := by decide +kernel
theorem dX2_find_30 : decode cX2_find 30 = .ok (.aload_n 0, 1) := by decide +kernel
end
section
theorem dX2_find_31 : decode cX2_find 31 = .ok (.getfield 17, 3) := by decide +kernel
theorem dX2_find_34 : decode cX2_find 34 = .ok (.iload 4, 2) := by decide +kernel
theorem dX2_find_36 : decode cX2_find 36 = .ok (.iaload, 1) := by decide +kernel
theorem dX2_find_37 : decode cX2_find 37 = .ok (.iload_n 2, 1) := by decide +kernel
theorem dX2_find_38 : decode cX2_find 38 = .ok (.if_icmp .ne 17, 3) := by decide +kernel
theorem dX2_find_41 : decode cX2_find 41 = .ok (.aload_n 0, 1) := by decide +kernel
theorem dX2_find_42 : decode cX2_find 42 = .ok (.getfield 20, 3) := by decide +kernel
theorem dX2_find_45 : decode cX2_find 45 = .ok (.iload 4, 2) := by decide +kernel
theorem dX2_find_47 : decode cX2_find 47 = .ok (.iaload, 1) := by decide +kernel
theorem dX2_find_48 : decode cX2_find 48 = .ok (.iload_n 3, 1) := by decide +kernel
theorem dX2_find_49 : decode cX2_find 49 = .ok (.if_icmp .ne 6, 3) := by decide +kernel
theorem dX2_find_52 : decode cX2_find 52 = .ok (.iload 4, 2) := by decide +kernel
theorem dX2_find_54 : decode cX2_find 54 = .ok (.ireturn, 1) := by decide +kernel
theorem dX2_find_55 : decode cX2_find 55 = .ok (.iinc 4 1, 3) := by decide +kernel
theorem dX2_find_58 : decode cX2_find 58 = .ok (.goto (-55), 3) := by decide +kernel
theorem dX2_find_61 : decode cX2_find 61 = .ok (.iconst (-1), 1) := by decide +kernel
theorem dX2_find_62 : decode cX2_find 62 = .ok (.ireturn, 1) := by decide +kernel
theorem dX2_begin_0 : decode cX2_begin 0 = .ok (.iconst 0, 1) := by decide +kernel
theorem dX2_begin_1 : decode cX2_begin 1 = .ok (.istore 4, 2) := by decide +kernel
theorem dX2_begin_3 : decode cX2_begin 3 = .ok (.iload 4, 2) := by decide +kernel
theorem dX2_begin_5 : decode cX2_begin 5 = .ok (.iconst 4, 1) := by decide +kernel
theorem dX2_begin_6 : decode cX2_begin 6 = .ok (.if_icmp .ge 105, 3) := by decide +kernel
theorem dX2_begin_9 : decode cX2_begin 9 = .ok (.aload_n 0, 1) := by decide +kernel
theorem dX2_begin_10 : decode cX2_begin 10 = .ok (.getfield 29, 3) := by decide +kernel
theorem dX2_begin_13 : decode cX2_begin 13 = .ok (.iload 4, 2) := by decide +kernel
theorem dX2_begin_15 : decode cX2_begin 15 = .ok (.baload, 1) := by decide +kernel
theorem dX2_begin_16 : decode cX2_begin 16 = .ok (.ifCond .ne 89, 3) := by decide +kernel
theorem dX2_begin_19 : decode cX2_begin 19 = .ok (.aload_n 0, 1) := by decide +kernel
theorem dX2_begin_20 : decode cX2_begin 20 = .ok (.getfield 29, 3) := by decide +kernel
theorem dX2_begin_23 : decode cX2_begin 23 = .ok (.iload 4, 2) := by decide +kernel
theorem dX2_begin_25 : decode cX2_begin 25 = .ok (.iconst 1, 1) := by decide +kernel
theorem dX2_begin_26 : decode cX2_begin 26 = .ok (.bastore, 1) := by decide +kernel
theorem dX2_begin_27 : decode cX2_begin 27 = .ok (.aload_n 0, 1) := by decide +kernel
theorem dX2_begin_28 : decode cX2_begin 28 = .ok (.getfield 13, 3) := by decide +kernel
theorem dX2_begin_31 : decode cX2_begin 31 = .ok (.iload 4, 2) := by decide +kernel
theorem dX2_begin_33 : decode cX2_begin 33 = .ok (.iload_n 1, 1) := by decide +kernel
theorem dX2_begin_34 : decode cX2_begin 34 = .ok (.iastore, 1) := by decide +kernel
theorem dX2_begin_35 : decode cX2_begin 35 = .ok (.aload_n 0, 1) := by decide +kernel
theorem dX2_begin_36 : decode cX2_begin 36 = .ok (.getfield 17, 3) := by decide +kernel
theorem dX2_begin_39 : decode cX2_begin 39 = .ok (.iload 4, 2) := by decide +kernel
theorem dX2_begin_41 : decode cX2_begin 41 = .ok (.iload_n 2, 1) := by decide +kernel
theorem dX2_begin_42 : decode cX2_begin 42 = .ok (.iastore, 1) := by decide +kernel
theorem dX2_begin_43 : decode cX2_begin 43 = .ok (.aload_n 0, 1) := by decide +kernel
theorem dX2_begin_44 : decode cX2_begin 44 = .ok (.getfield 20, 3) := by decide +kernel
theorem dX2_begin_47 : decode cX2_begin 47 = .ok (.iload 4, 2) := by decide +kernel
theorem dX2_begin_49 : decode cX2_begin 49 = .ok (.iload_n 3, 1) := by decide +kernel
theorem dX2_begin_50 : decode cX2_begin 50 = .ok (.iastore, 1) := by decide +kernel
theorem dX2_begin_51 : decode cX2_begin 51 = .ok (.aload_n 0, 1) := by decide +kernel
theorem dX2_begin_52 : decode cX2_begin 52 = .ok (.getfield 23, 3) := by decide +kernel
theorem dX2_begin_55 : decode cX2_begin 55 = .ok (.iload 4, 2) := by decide +kernel
theorem dX2_begin_57 : decode cX2_begin 57 = .ok (.iconst (-1), 1) := by decide +kernel
theorem dX2_begin_58 : decode cX2_begin 58 = .ok (.iastore, 1) := by decide +kernel
theorem dX2_begin_59 : decode cX2_begin 59 = .ok (.aload_n 0, 1) := by decide +kernel
theorem dX2_begin_60 : decode cX2_begin 60 = .ok (.getfield 26, 3) := by decide +kernel
theorem dX2_begin_63 : decode cX2_begin 63 = .ok (.iload 4, 2) := by decide +kernel
theorem dX2_begin_65 : decode cX2_begin 65 = .ok (.aload_n 0, 1) := by decide +kernel
theorem dX2_begin_66 : decode cX2_begin 66 = .ok (.getfield 50, 3) := by decide +kernel
theorem dX2_begin_69 : decode cX2_begin 69 = .ok (.iastore, 1) := by decide +kernel
theorem dX2_begin_70 : decode cX2_begin 70 = .ok (.iconst 0, 1) := by decide +kernel
theorem dX2_begin_71 : decode cX2_begin 71 = .ok (.istore 5, 2) := by decide +kernel
theorem dX2_begin_73 : decode cX2_begin 73 = .ok (.iload 5, 2) := by decide +kernel
theorem dX2_begin_75 : decode cX2_begin 75 = .ok (.sipush 4096, 3) := by decide +kernel
theorem dX2_begin_78 : decode cX2_begin 78 = .ok (.if_icmp .ge 24, 3) := by decide +kernel
theorem dX2_begin_81 : decode cX2_begin 81 = .ok (.aload_n 0, 1) := by decide +kernel
theorem dX2_begin_82 : decode cX2_begin 82 = .ok (.getfield 33, 3) := by decide +kernel
theorem dX2_begin_85 : decode cX2_begin 85 = .ok (.iload 4, 2) := by decide +kernel
theorem dX2_begin_87 : decode cX2_begin 87 = .ok (.sipush 4096, 3) := by decide +kernel
theorem dX2_begin_90 : decode cX2_begin 90 = .ok (.imul, 1) := by decide +kernel
theorem dX2_begin_91 : decode cX2_begin 91 = .ok (.iload 5, 2) := by decide +kernel
theorem dX2_begin_93 : decode cX2_begin 93 = .ok (.iadd, 1) := by decide +kernel
theorem dX2_begin_94 : decode cX2_begin 94 = .ok (.iconst 0, 1) := by decide +kernel
theorem dX2_begin_95 : decode cX2_begin 95 = .ok (.iastore, 1) := by decide +kernel
theorem dX2_begin_96 : decode cX2_begin 96 = .ok (.iinc 5 1, 3) := by decide +kernel
theorem dX2_begin_99 : decode cX2_begin 99 = .ok (.goto (-26), 3) := by decide +kernel
theorem dX2_begin_102 : decode cX2_begin 102 = .ok (.iload 4, 2) := by decide +kernel
theorem dX2_begin_104 : decode cX2_begin 104 = .ok (.ireturn, 1) := by decide +kernel
theorem dX2_begin_105 : decode cX2_begin 105 = .ok (.iinc 4 1, 3) := by decide +kernel
theorem dX2_begin_108 : decode cX2_begin 108 = .ok (.goto (-105), 3) := by decide +kernel
theorem dX2_begin_111 : decode cX2_begin 111 = .ok (.iconst (-1), 1) := by decide +kernel
theorem dX2_begin_112 : decode cX2_begin 112 = .ok (.ireturn, 1) := by decide +kernel
set_option maxRecDepth 20000 in
theorem ggX2_take_X2_find : GoodIn wsX2_take wsX2_find := goodIn_r _ [13, 4, 14, 15, 16, 23, 24, 25, 26, 27, 28, 29, 30, 31, 32, 33, 34, 35] (by decide +kernel) (by decide +kernel)
set_option maxRecDepth 20000 in
theorem gX2_take_X2_find : GoodIn wsX2_take (wsV RX2 53 RX2 yX2_find wsX2_find) := goodIn_app (goodIn_of _ (by decide +kernel)) ggX2_take_X2_find
set_option maxRecDepth 20000 in
theorem ggX2_take_X2_begin : GoodIn wsX2_take wsX2_begin := goodIn_r _ [20, 4, 14, 15, 16, 2, 21, 22, 3, 23, 24, 25, 26, 27, 28, 29, 30, 31, 32, 33, 34, 35] (by decide +kernel) (by decide +kernel)
set_option maxRecDepth 20000 in
theorem gX2_take_X2_begin : GoodIn wsX2_take (wsV RX2 57 RX2 yX2_begin wsX2_begin) := goodIn_app (goodIn_of _ (by decide +kernel)) ggX2_take_X2_begin
theorem dX2_take_0 : decode cX2_take 0 = .ok (.iload 4, 2) := by decide +kernel
theorem dX2_take_2 : decode cX2_take 2 = .ok (.ifCond .lt 11, 3) := by decide +kernel
theorem dX2_take_5 : decode cX2_take 5 = .ok (.iload 4, 2) := by decide +kernel
theorem dX2_take_7 : decode cX2_take 7 = .ok (.sipush 8191, 3) := by decide +kernel
theorem dX2_take_10 : decode cX2_take 10 = .ok (.if_icmp .le 6, 3) := by decide +kernel
theorem dX2_take_13 : decode cX2_take 13 = .ok (.bipush (-4), 2) := by decide +kernel
theorem dX2_take_15 : decode cX2_take 15 = .ok (.ireturn, 1) := by decide +kernel
theorem dX2_take_16 : decode cX2_take 16 = .ok (.aload_n 0, 1) := by decide +kernel
theorem dX2_take_17 : decode cX2_take 17 = .ok (.getfield 43, 3) := by decide +kernel
theorem dX2_take_20 : decode cX2_take 20 = .ok (.istore 6, 2) := by decide +kernel
theorem dX2_take_22 : decode cX2_take 22 = .ok (.aload_n 0, 1) := by decide +kernel
theorem dX2_take_23 : decode cX2_take 23 = .ok (.iconst 0, 1) := by decide +kernel
theorem dX2_take_24 : decode cX2_take 24 = .ok (.putfield 43, 3) := by decide +kernel
theorem dX2_take_27 : decode cX2_take 27 = .ok (.bipush 8, 2) := by decide +kernel
theorem dX2_take_29 : decode cX2_take 29 = .ok (.iload 4, 2) := by decide +kernel
theorem dX2_take_31 : decode cX2_take 31 = .ok (.imul, 1) := by decide +kernel
theorem dX2_take_32 : decode cX2_take 32 = .ok (.istore 7, 2) := by decide +kernel
theorem dX2_take_34 : decode cX2_take 34 = .ok (.iload 7, 2) := by decide +kernel
theorem dX2_take_36 : decode cX2_take 36 = .ok (.iload 6, 2) := by decide +kernel
theorem dX2_take_38 : decode cX2_take 38 = .ok (.iadd, 1) := by decide +kernel
theorem dX2_take_39 : decode cX2_take 39 = .ok (.istore 8, 2) := by decide +kernel
theorem dX2_take_41 : decode cX2_take 41 = .ok (.iload 8, 2) := by decide +kernel
theorem dX2_take_43 : decode cX2_take 43 = .ok (.sipush 4096, 3) := by decide +kernel
theorem dX2_take_46 : decode cX2_take 46 = .ok (.if_icmp .gt 21, 3) := by decide +kernel
theorem dX2_take_49 : decode cX2_take 49 = .ok (.iload 5, 2) := by decide +kernel
theorem dX2_take_51 : decode cX2_take 51 = .ok (.ifCond .ne 19, 3) := by decide +kernel
theorem dX2_take_54 : decode cX2_take 54 = .ok (.iload 6, 2) := by decide +kernel
theorem dX2_take_56 : decode cX2_take 56 = .ok (.ifCond .eq 11, 3) := by decide +kernel
theorem dX2_take_59 : decode cX2_take 59 = .ok (.iload 6, 2) := by decide +kernel
theorem dX2_take_61 : decode cX2_take 61 = .ok (.bipush 8, 2) := by decide +kernel
theorem dX2_take_63 : decode cX2_take 63 = .ok (.irem, 1) := by decide +kernel
theorem dX2_take_64 : decode cX2_take 64 = .ok (.ifCond .eq 6, 3) := by decide +kernel
theorem dX2_take_67 : decode cX2_take 67 = .ok (.bipush (-2), 2) := by decide +kernel
theorem dX2_take_69 : decode cX2_take 69 = .ok (.ireturn, 1) := by decide +kernel
theorem dX2_take_70 : decode cX2_take 70 = .ok (.aload_n 0, 1) := by decide +kernel
theorem dX2_take_71 : decode cX2_take 71 = .ok (.iload_n 1, 1) := by decide +kernel
theorem dX2_take_72 : decode cX2_take 72 = .ok (.iload_n 2, 1) := by decide +kernel
theorem dX2_take_73 : decode cX2_take 73 = .ok (.iload_n 3, 1) := by decide +kernel
theorem dX2_take_74 : decode cX2_take 74 = .ok (.invokevirtual 53, 3) := by decide +kernel
theorem dX2_take_77 : decode cX2_take 77 = .ok (.istore 9, 2) := by decide +kernel
theorem dX2_take_79 : decode cX2_take 79 = .ok (.iload 9, 2) := by decide +kernel
theorem dX2_take_81 : decode cX2_take 81 = .ok (.ifCond .ge 12, 3) := by decide +kernel
theorem dX2_take_84 : decode cX2_take 84 = .ok (.aload_n 0, 1) := by decide +kernel
theorem dX2_take_85 : decode cX2_take 85 = .ok (.iload_n 1, 1) := by decide +kernel
theorem dX2_take_86 : decode cX2_take 86 = .ok (.iload_n 2, 1) := by decide +kernel
theorem dX2_take_87 : decode cX2_take 87 = .ok (.iload_n 3, 1) := by decide +kernel
theorem dX2_take_88 : decode cX2_take 88 = .ok (.invokevirtual 57, 3) := by decide +kernel
theorem dX2_take_91 : decode cX2_take 91 = .ok (.istore 9, 2) := by decide +kernel
theorem dX2_take_93 : decode cX2_take 93 = .ok (.iload 9, 2) := by decide +kernel
theorem dX2_take_95 : decode cX2_take 95 = .ok (.ifCond .ge 6, 3) := by decide +kernel
theorem dX2_take_98 : decode cX2_take 98 = .ok (.bipush (-2), 2) := by decide +kernel
theorem dX2_take_100 : decode cX2_take 100 = .ok (.ireturn, 1) := by decide +kernel
theorem dX2_take_101 : decode cX2_take 101 = .ok (.aload_n 0, 1) := by decide +kernel
theorem dX2_take_102 : decode cX2_take 102 = .ok (.getfield 23, 3) := by decide +kernel
theorem dX2_take_105 : decode cX2_take 105 = .ok (.iload 9, 2) := by decide +kernel
theorem dX2_take_107 : decode cX2_take 107 = .ok (.iaload, 1) := by decide +kernel
theorem dX2_take_108 : decode cX2_take 108 = .ok (.ifCond .lt 36, 3) := by decide +kernel
theorem dX2_take_111 : decode cX2_take 111 = .ok (.iload 8, 2) := by decide +kernel
theorem dX2_take_113 : decode cX2_take 113 = .ok (.aload_n 0, 1) := by decide +kernel
theorem dX2_take_114 : decode cX2_take 114 = .ok (.getfield 23, 3) := by decide +kernel
theorem dX2_take_117 : decode cX2_take 117 = .ok (.iload 9, 2) := by decide +kernel
theorem dX2_take_119 : decode cX2_take 119 = .ok (.iaload, 1) := by decide +kernel
theorem dX2_take_120 : decode cX2_take 120 = .ok (.if_icmp .gt 20, 3) := by decide +kernel
theorem dX2_take_123 : decode cX2_take 123 = .ok (.iload 5, 2) := by decide +kernel
theorem dX2_take_125 : decode cX2_take 125 = .ok (.ifCond .eq 19, 3) := by decide +kernel
theorem dX2_take_128 : decode cX2_take 128 = .ok (.iload 8, 2) := by decide +kernel
theorem dX2_take_130 : decode cX2_take 130 = .ok (.aload_n 0, 1) := by decide +kernel
theorem dX2_take_131 : decode cX2_take 131 = .ok (.getfield 23, 3) := by decide +kernel
theorem dX2_take_134 : decode cX2_take 134 = .ok (.iload 9, 2) := by decide +kernel
theorem dX2_take_136 : decode cX2_take 136 = .ok (.iaload, 1) := by decide +kernel
theorem dX2_take_137 : decode cX2_take 137 = .ok (.if_icmp .eq 7, 3) := by decide +kernel
theorem dX2_take_140 : decode cX2_take 140 = .ok (.iconst 1, 1) := by decide +kernel
theorem dX2_take_141 : decode cX2_take 141 = .ok (.goto 4, 3) := by decide +kernel
theorem dX2_take_144 : decode cX2_take 144 = .ok (.iconst 0, 1) := by decide +kernel
theorem dX2_take_145 : decode cX2_take 145 = .ok (.istore 10, 2) := by decide +kernel
theorem dX2_take_147 : decode cX2_take 147 = .ok (.iload 8, 2) := by decide +kernel
theorem dX2_take_149 : decode cX2_take 149 = .ok (.istore 11, 2) := by decide +kernel
theorem dX2_take_151 : decode cX2_take 151 = .ok (.iload 11, 2) := by decide +kernel
theorem dX2_take_153 : decode cX2_take 153 = .ok (.sipush 4096, 3) := by decide +kernel
theorem dX2_take_156 : decode cX2_take 156 = .ok (.if_icmp .ge 43, 3) := by decide +kernel
theorem dX2_take_159 : decode cX2_take 159 = .ok (.iload 5, 2) := by decide +kernel
theorem dX2_take_161 : decode cX2_take 161 = .ok (.ifCond .eq 38, 3) := by decide +kernel
theorem dX2_take_164 : decode cX2_take 164 = .ok (.iload 10, 2) := by decide +kernel
theorem dX2_take_166 : decode cX2_take 166 = .ok (.ifCond .ne 20, 3) := by decide +kernel
theorem dX2_take_169 : decode cX2_take 169 = .ok (.aload_n 0, 1) := by decide +kernel
theorem dX2_take_170 : decode cX2_take 170 = .ok (.getfield 33, 3) := by decide +kernel
theorem dX2_take_173 : decode cX2_take 173 = .ok (.iload 9, 2) := by decide +kernel
theorem dX2_take_175 : decode cX2_take 175 = .ok (.sipush 4096, 3) := by decide +kernel
theorem dX2_take_178 : decode cX2_take 178 = .ok (.imul, 1) := by decide +kernel
theorem dX2_take_179 : decode cX2_take 179 = .ok (.iload 11, 2) := by decide +kernel
theorem dX2_take_181 : decode cX2_take 181 = .ok (.iadd, 1) := by decide +kernel
theorem dX2_take_182 : decode cX2_take 182 = .ok (.iaload, 1) := by decide +kernel
theorem dX2_take_183 : decode cX2_take 183 = .ok (.ifCond .le 7, 3) := by decide +kernel
theorem dX2_take_186 : decode cX2_take 186 = .ok (.iconst 1, 1) := by decide +kernel
theorem dX2_take_187 : decode cX2_take 187 = .ok (.goto 4, 3) := by decide +kernel
theorem dX2_take_190 : decode cX2_take 190 = .ok (.iconst 0, 1) := by decide +kernel
theorem dX2_take_191 : decode cX2_take 191 = .ok (.istore 10, 2) := by decide +kernel
theorem dX2_take_193 : decode cX2_take 193 = .ok (.iinc 11 1, 3) := by decide +kernel
theorem dX2_take_196 : decode cX2_take 196 = .ok (.goto (-45), 3) := by decide +kernel
theorem dX2_take_199 : decode cX2_take 199 = .ok (.iload 10, 2) := by decide +kernel
theorem dX2_take_201 : decode cX2_take 201 = .ok (.ifCond .eq 14, 3) := by decide +kernel
theorem dX2_take_204 : decode cX2_take 204 = .ok (.aload_n 0, 1) := by decide +kernel
theorem dX2_take_205 : decode cX2_take 205 = .ok (.getfield 29, 3) := by decide +kernel
theorem dX2_take_208 : decode cX2_take 208 = .ok (.iload 9, 2) := by decide +kernel
theorem dX2_take_210 : decode cX2_take 210 = .ok (.iconst 0, 1) := by decide +kernel
theorem dX2_take_211 : decode cX2_take 211 = .ok (.bastore, 1) := by decide +kernel
theorem dX2_take_212 : decode cX2_take 212 = .ok (.bipush (-3), 2) := by decide +kernel
theorem dX2_take_214 : decode cX2_take 214 = .ok (.ireturn, 1) := by decide +kernel
theorem dX2_take_215 : decode cX2_take 215 = .ok (.iload 5, 2) := by decide +kernel
theorem dX2_take_217 : decode cX2_take 217 = .ok (.ifCond .eq 12, 3) := by decide +kernel
theorem dX2_take_220 : decode cX2_take 220 = .ok (.aload_n 0, 1) := by decide +kernel
theorem dX2_take_221 : decode cX2_take 221 = .ok (.getfield 23, 3) := by decide +kernel
theorem dX2_take_224 : decode cX2_take 224 = .ok (.iload 9, 2) := by decide +kernel
theorem dX2_take_226 : decode cX2_take 226 = .ok (.iload 8, 2) := by decide +kernel
theorem dX2_take_228 : decode cX2_take 228 = .ok (.iastore, 1) := by decide +kernel
theorem dX2_take_229 : decode cX2_take 229 = .ok (.iconst 0, 1) := by decide +kernel
theorem dX2_take_230 : decode cX2_take 230 = .ok (.istore 11, 2) := by decide +kernel
theorem dX2_take_232 : decode cX2_take 232 = .ok (.iload 11, 2) := by decide +kernel
theorem dX2_take_234 : decode cX2_take 234 = .ok (.iload 6, 2) := by decide +kernel
theorem dX2_take_236 : decode cX2_take 236 = .ok (.if_icmp .ge 59, 3) := by decide +kernel
theorem dX2_take_239 : decode cX2_take 239 = .ok (.aload_n 0, 1) := by decide +kernel
theorem dX2_take_240 : decode cX2_take 240 = .ok (.getfield 33, 3) := by decide +kernel
theorem dX2_take_243 : decode cX2_take 243 = .ok (.iload 9, 2) := by decide +kernel
theorem dX2_take_245 : decode cX2_take 245 = .ok (.sipush 4096, 3) := by decide +kernel
theorem dX2_take_248 : decode cX2_take 248 = .ok (.imul, 1) := by decide +kernel
theorem dX2_take_249 : decode cX2_take 249 = .ok (.iload 7, 2) := by decide +kernel
theorem dX2_take_251 : decode cX2_take 251 = .ok (.iadd, 1) := by decide +kernel
theorem dX2_take_252 : decode cX2_take 252 = .ok (.iload 11, 2) := by decide +kernel
theorem dX2_take_254 : decode cX2_take 254 = .ok (.iadd, 1) := by decide +kernel
theorem dX2_take_255 : decode cX2_take 255 = .ok (.iaload, 1) := by decide +kernel
theorem dX2_take_256 : decode cX2_take 256 = .ok (.ifCond .ne 33, 3) := by decide +kernel
theorem dX2_take_259 : decode cX2_take 259 = .ok (.aload_n 0, 1) := by decide +kernel
theorem dX2_take_260 : decode cX2_take 260 = .ok (.getfield 33, 3) := by decide +kernel
theorem dX2_take_263 : decode cX2_take 263 = .ok (.iload 9, 2) := by decide +kernel
theorem dX2_take_265 : decode cX2_take 265 = .ok (.sipush 4096, 3) := by decide +kernel
theorem dX2_take_268 : decode cX2_take 268 = .ok (.imul, 1) := by decide +kernel
theorem dX2_take_269 : decode cX2_take 269 = .ok (.iload 7, 2) := by decide +kernel
theorem dX2_take_271 : decode cX2_take 271 = .ok (.iadd, 1) := by decide +kernel
theorem dX2_take_272 : decode cX2_take 272 = .ok (.iload 11, 2) := by decide +kernel
theorem dX2_take_274 : decode cX2_take 274 = .ok (.iadd, 1) := by decide +kernel
theorem dX2_take_275 : decode cX2_take 275 = .ok (.aload_n 0, 1) := by decide +kernel
theorem dX2_take_276 : decode cX2_take 276 = .ok (.getfield 9, 3) := by decide +kernel
theorem dX2_take_279 : decode cX2_take 279 = .ok (.iload 11, 2) := by decide +kernel
theorem dX2_take_281 : decode cX2_take 281 = .ok (.baload, 1) := by decide +kernel
theorem dX2_take_282 : decode cX2_take 282 = .ok (.sipush 255, 3) := by decide +kernel
theorem dX2_take_285 : decode cX2_take 285 = .ok (.iand, 1) := by decide +kernel
theorem dX2_take_286 : decode cX2_take 286 = .ok (.iconst 1, 1) := by decide +kernel
theorem dX2_take_287 : decode cX2_take 287 = .ok (.iadd, 1) := by decide +kernel
theorem dX2_take_288 : decode cX2_take 288 = .ok (.iastore, 1) := by decide +kernel
theorem dX2_take_289 : decode cX2_take 289 = .ok (.iinc 11 1, 3) := by decide +kernel
theorem dX2_take_292 : decode cX2_take 292 = .ok (.goto (-60), 3) := by decide +kernel
theorem dX2_take_295 : decode cX2_take 295 = .ok (.aload_n 0, 1) := by decide +kernel
theorem dX2_take_296 : decode cX2_take 296 = .ok (.getfield 23, 3) := by decide +kernel
theorem dX2_take_299 : decode cX2_take 299 = .ok (.iload 9, 2) := by decide +kernel
theorem dX2_take_301 : decode cX2_take 301 = .ok (.iaload, 1) := by decide +kernel
theorem dX2_take_302 : decode cX2_take 302 = .ok (.ifCond .ge 5, 3) := by decide +kernel
theorem dX2_take_305 : decode cX2_take 305 = .ok (.iconst (-1), 1) := by decide +kernel
theorem dX2_take_306 : decode cX2_take 306 = .ok (.ireturn, 1) := by decide +kernel
theorem dX2_take_307 : decode cX2_take 307 = .ok (.iconst 0, 1) := by decide +kernel
theorem dX2_take_308 : decode cX2_take 308 = .ok (.istore 11, 2) := by decide +kernel
theorem dX2_take_310 : decode cX2_take 310 = .ok (.iload 11, 2) := by decide +kernel
theorem dX2_take_312 : decode cX2_take 312 = .ok (.aload_n 0, 1) := by decide +kernel
theorem dX2_take_313 : decode cX2_take 313 = .ok (.getfield 23, 3) := by decide +kernel
theorem dX2_take_316 : decode cX2_take 316 = .ok (.iload 9, 2) := by decide +kernel
theorem dX2_take_318 : decode cX2_take 318 = .ok (.iaload, 1) := by decide +kernel
theorem dX2_take_319 : decode cX2_take 319 = .ok (.if_icmp .ge 28, 3) := by decide +kernel
theorem dX2_take_322 : decode cX2_take 322 = .ok (.aload_n 0, 1) := by decide +kernel
theorem dX2_take_323 : decode cX2_take 323 = .ok (.getfield 33, 3) := by decide +kernel
theorem dX2_take_326 : decode cX2_take 326 = .ok (.iload 9, 2) := by decide +kernel
theorem dX2_take_328 : decode cX2_take 328 = .ok (.sipush 4096, 3) := by decide +kernel
theorem dX2_take_331 : decode cX2_take 331 = .ok (.imul, 1) := by decide +kernel
theorem dX2_take_332 : decode cX2_take 332 = .ok (.iload 11, 2) := by decide +kernel
theorem dX2_take_334 : decode cX2_take 334 = .ok (.iadd, 1) := by decide +kernel
theorem dX2_take_335 : decode cX2_take 335 = .ok (.iaload, 1) := by decide +kernel
theorem dX2_take_336 : decode cX2_take 336 = .ok (.ifCond .ne 5, 3) := by decide +kernel
theorem dX2_take_339 : decode cX2_take 339 = .ok (.iconst (-1), 1) := by decide +kernel
theorem dX2_take_340 : decode cX2_take 340 = .ok (.ireturn, 1) := by decide +kernel
theorem dX2_take_341 : decode cX2_take 341 = .ok (.iinc 11 1, 3) := by decide +kernel
theorem dX2_take_344 : decode cX2_take 344 = .ok (.goto (-34), 3) := by decide +kernel
theorem dX2_take_347 : decode cX2_take 347 = .ok (.aload_n 0, 1) := by decide +kernel
theorem dX2_take_348 : decode cX2_take 348 = .ok (.aload_n 0, 1) := by decide +kernel
theorem dX2_take_349 : decode cX2_take 349 = .ok (.getfield 23, 3) := by decide +kernel
theorem dX2_take_352 : decode cX2_take 352 = .ok (.iload 9, 2) := by decide +kernel
theorem dX2_take_354 : decode cX2_take 354 = .ok (.iaload, 1) := by decide +kernel
theorem dX2_take_355 : decode cX2_take 355 = .ok (.putfield 39, 3) := by decide +kernel
theorem dX2_take_358 : decode cX2_take 358 = .ok (.iconst 0, 1) := by decide +kernel
theorem dX2_take_359 : decode cX2_take 359 = .ok (.istore 11, 2) := by decide +kernel
theorem dX2_take_361 : decode cX2_take 361 = .ok (.iload 11, 2) := by decide +kernel
theorem dX2_take_363 : decode cX2_take 363 = .ok (.aload_n 0, 1) := by decide +kernel
theorem dX2_take_364 : decode cX2_take 364 = .ok (.getfield 39, 3) := by decide +kernel
theorem dX2_take_367 : decode cX2_take 367 = .ok (.if_icmp .ge 32, 3) := by decide +kernel
theorem dX2_take_370 : decode cX2_take 370 = .ok (.aload_n 0, 1) := by decide +kernel
theorem dX2_take_371 : decode cX2_take 371 = .ok (.getfield 36, 3) := by decide +kernel
theorem dX2_take_374 : decode cX2_take 374 = .ok (.iload 11, 2) := by decide +kernel
theorem dX2_take_376 : decode cX2_take 376 = .ok (.aload_n 0, 1) := by decide +kernel
theorem dX2_take_377 : decode cX2_take 377 = .ok (.getfield 33, 3) := by decide +kernel
theorem dX2_take_380 : decode cX2_take 380 = .ok (.iload 9, 2) := by decide +kernel
theorem dX2_take_382 : decode cX2_take 382 = .ok (.sipush 4096, 3) := by decide +kernel
theorem dX2_take_385 : decode cX2_take 385 = .ok (.imul, 1) := by decide +kernel
theorem dX2_take_386 : decode cX2_take 386 = .ok (.iload 11, 2) := by decide +kernel
theorem dX2_take_388 : decode cX2_take 388 = .ok (.iadd, 1) := by decide +kernel
theorem dX2_take_389 : decode cX2_take 389 = .ok (.iaload, 1) := by decide +kernel
theorem dX2_take_390 : decode cX2_take 390 = .ok (.iconst 1, 1) := by decide +kernel
theorem dX2_take_391 : decode cX2_take 391 = .ok (.isub, 1) := by decide +kernel
theorem dX2_take_392 : decode cX2_take 392 = .ok (.iastore, 1) := by decide +kernel
theorem dX2_take_393 : decode cX2_take 393 = .ok (.iinc 11 1, 3) := by decide +kernel
theorem dX2_take_396 : decode cX2_take 396 = .ok (.goto (-35), 3) := by decide +kernel
theorem dX2_take_399 : decode cX2_take 399 = .ok (.aload_n 0, 1) := by decide +kernel
theorem dX2_take_400 : decode cX2_take 400 = .ok (.getfield 29, 3) := by decide +kernel
theorem dX2_take_403 : decode cX2_take 403 = .ok (.iload 9, 2) := by decide +kernel
theorem dX2_take_405 : decode cX2_take 405 = .ok (.iconst 0, 1) := by decide +kernel
theorem dX2_take_406 : decode cX2_take 406 = .ok (.bastore, 1) := by decide +kernel
theorem dX2_take_407 : decode cX2_take 407 = .ok (.aload_n 0, 1) := by decide +kernel
theorem dX2_take_408 : decode cX2_take 408 = .ok (.dup, 1) := by decide +kernel
theorem dX2_take_409 : decode cX2_take 409 = .ok (.getfield 60, 3) := by decide +kernel
theorem dX2_take_412 : decode cX2_take 412 = .ok (.iconst 1, 1) := by decide +kernel
theorem dX2_take_413 : decode cX2_take 413 = .ok (.iadd, 1) := by decide +kernel
theorem dX2_take_414 : decode cX2_take 414 = .ok (.putfield 60, 3) := by decide +kernel
theorem dX2_take_417 : decode cX2_take 417 = .ok (.aload_n 0, 1) := by decide +kernel
theorem dX2_take_418 : decode cX2_take 418 = .ok (.getfield 39, 3) := by decide +kernel
theorem dX2_take_421 : decode cX2_take 421 = .ok (.ireturn, 1) := by decide +kernel
theorem dX2_pass_0 : decode cX2_pass 0 = .ok (.iload_n 1, 1) := by decide +kernel
theorem dX2_pass_1 : decode cX2_pass 1 = .ok (.aload_n 0, 1) := by decide +kernel
theorem dX2_pass_2 : decode cX2_pass 2 = .ok (.getfield 50, 3) := by decide +kernel
theorem dX2_pass_5 : decode cX2_pass 5 = .ok (.if_icmp .lt 9, 3) := by decide +kernel
theorem dX2_pass_8 : decode cX2_pass 8 = .ok (.iload_n 1, 1) := by decide +kernel
theorem dX2_pass_9 : decode cX2_pass 9 = .ok (.ldc 63, 2) := by decide +kernel
theorem dX2_pass_11 : decode cX2_pass 11 = .ok (.if_icmp .le 5, 3) := by decide +kernel
theorem dX2_pass_14 : decode cX2_pass 14 = .ok (.iconst (-1), 1) := by decide +kernel
theorem dX2_pass_15 : decode cX2_pass 15 = .ok (.ireturn, 1) := by decide +kernel
theorem dX2_pass_16 : decode cX2_pass 16 = .ok (.aload_n 0, 1) := by decide +kernel
theorem dX2_pass_17 : decode cX2_pass 17 = .ok (.iload_n 1, 1) := by decide +kernel
theorem dX2_pass_18 : decode cX2_pass 18 = .ok (.putfield 50, 3) := by decide +kernel
theorem dX2_pass_21 : decode cX2_pass 21 = .ok (.iconst 0, 1) := by decide +kernel
theorem dX2_pass_22 : decode cX2_pass 22 = .ok (.istore_n 2, 1) := by decide +kernel
theorem dX2_pass_23 : decode cX2_pass 23 = .ok (.iconst 0, 1) := by decide +kernel
theorem dX2_pass_24 : decode cX2_pass 24 = .ok (.istore_n 3, 1) := by decide +kernel
theorem dX2_pass_25 : decode cX2_pass 25 = .ok (.iload_n 3, 1) := by decide +kernel
theorem dX2_pass_26 : decode cX2_pass 26 = .ok (.iconst 4, 1) := by decide +kernel
theorem dX2_pass_27 : decode cX2_pass 27 = .ok (.if_icmp .ge 42, 3) := by decide +kernel
theorem dX2_pass_30 : decode cX2_pass 30 = .ok (.aload_n 0, 1) := by decide +kernel
theorem dX2_pass_31 : decode cX2_pass 31 = .ok (.getfield 29, 3) := by decide +kernel
theorem dX2_pass_34 : decode cX2_pass 34 = .ok (.iload_n 3, 1) := by decide +kernel
theorem dX2_pass_35 : decode cX2_pass 35 = .ok (.baload, 1) := by decide +kernel
theorem dX2_pass_36 : decode cX2_pass 36 = .ok (.ifCond .eq 27, 3) := by decide +kernel
theorem dX2_pass_39 : decode cX2_pass 39 = .ok (.iload_n 1, 1) := by decide +kernel
theorem dX2_pass_40 : decode cX2_pass 40 = .ok (.aload_n 0, 1) := by decide +kernel
theorem dX2_pass_41 : decode cX2_pass 41 = .ok (.getfield 26, 3) := by decide +kernel
theorem dX2_pass_44 : decode cX2_pass 44 = .ok (.iload_n 3, 1) := by decide +kernel
theorem dX2_pass_45 : decode cX2_pass 45 = .ok (.iaload, 1) := by decide +kernel
theorem dX2_pass_46 : decode cX2_pass 46 = .ok (.isub, 1) := by decide +kernel
theorem dX2_pass_47 : decode cX2_pass 47 = .ok (.sipush 15000, 3) := by decide +kernel
theorem dX2_pass_50 : decode cX2_pass 50 = .ok (.if_icmp .lt 13, 3) := by decide +kernel
theorem dX2_pass_53 : decode cX2_pass 53 = .ok (.aload_n 0, 1) := by decide +kernel
theorem dX2_pass_54 : decode cX2_pass 54 = .ok (.getfield 29, 3) := by decide +kernel
theorem dX2_pass_57 : decode cX2_pass 57 = .ok (.iload_n 3, 1) := by decide +kernel
theorem dX2_pass_58 : decode cX2_pass 58 = .ok (.iconst 0, 1) := by decide +kernel
theorem dX2_pass_59 : decode cX2_pass 59 = .ok (.bastore, 1) := by decide +kernel
theorem dX2_pass_60 : decode cX2_pass 60 = .ok (.iinc 2 1, 3) := by decide +kernel
theorem dX2_pass_63 : decode cX2_pass 63 = .ok (.iinc 3 1, 3) := by decide +kernel
theorem dX2_pass_66 : decode cX2_pass 66 = .ok (.goto (-41), 3) := by decide +kernel
theorem dX2_pass_69 : decode cX2_pass 69 = .ok (.iload_n 2, 1) := by decide +kernel
end
section
theorem dX2_pass_70 : decode cX2_pass 70 = .ok (.ireturn, 1) := by decide +kernel
theorem dX2_making_0 : decode cX2_making 0 = .ok (.iconst 0, 1) := by decide +kernel
theorem dX2_making_1 : decode cX2_making 1 = .ok (.istore_n 1, 1) := by decide +kernel
theorem dX2_making_2 : decode cX2_making 2 = .ok (.iconst 0, 1) := by decide +kernel
theorem dX2_making_3 : decode cX2_making 3 = .ok (.istore_n 2, 1) := by decide +kernel
theorem dX2_making_4 : decode cX2_making 4 = .ok (.iload_n 2, 1) := by decide +kernel
theorem dX2_making_5 : decode cX2_making 5 = .ok (.iconst 4, 1) := by decide +kernel
theorem dX2_making_6 : decode cX2_making 6 = .ok (.if_icmp .ge 21, 3) := by decide +kernel
theorem dX2_making_9 : decode cX2_making 9 = .ok (.aload_n 0, 1) := by decide +kernel
theorem dX2_making_10 : decode cX2_making 10 = .ok (.getfield 29, 3) := by decide +kernel
theorem dX2_making_13 : decode cX2_making 13 = .ok (.iload_n 2, 1) := by decide +kernel
theorem dX2_making_14 : decode cX2_making 14 = .ok (.baload, 1) := by decide +kernel
theorem dX2_making_15 : decode cX2_making 15 = .ok (.ifCond .eq 6, 3) := by decide +kernel
theorem dX2_making_18 : decode cX2_making 18 = .ok (.iinc 1 1, 3) := by decide +kernel
theorem dX2_making_21 : decode cX2_making 21 = .ok (.iinc 2 1, 3) := by decide +kernel
theorem dX2_making_24 : decode cX2_making 24 = .ok (.goto (-20), 3) := by decide +kernel
theorem dX2_making_27 : decode cX2_making 27 = .ok (.iload_n 1, 1) := by decide +kernel
theorem dX2_making_28 : decode cX2_making 28 = .ok (.ireturn, 1) := by decide +kernel
theorem dX2_made_0 : decode cX2_made 0 = .ok (.aload_n 0, 1) := by decide +kernel
theorem dX2_made_1 : decode cX2_made 1 = .ok (.getfield 60, 3) := by decide +kernel
theorem dX2_made_4 : decode cX2_made 4 = .ok (.ireturn, 1) := by decide +kernel
theorem dX2_length_0 : decode cX2_length 0 = .ok (.aload_n 0, 1) := by decide +kernel
theorem dX2_length_1 : decode cX2_length 1 = .ok (.getfield 39, 3) := by decide +kernel
theorem dX2_length_4 : decode cX2_length 4 = .ok (.ireturn, 1) := by decide +kernel
theorem dX2_at_0 : decode cX2_at 0 = .ok (.iload_n 1, 1) := by decide +kernel
theorem dX2_at_1 : decode cX2_at 1 = .ok (.ifCond .lt 20, 3) := by decide +kernel
theorem dX2_at_4 : decode cX2_at 4 = .ok (.iload_n 1, 1) := by decide +kernel
theorem dX2_at_5 : decode cX2_at 5 = .ok (.aload_n 0, 1) := by decide +kernel
theorem dX2_at_6 : decode cX2_at 6 = .ok (.getfield 39, 3) := by decide +kernel
theorem dX2_at_9 : decode cX2_at 9 = .ok (.if_icmp .ge 12, 3) := by decide +kernel
theorem dX2_at_12 : decode cX2_at 12 = .ok (.aload_n 0, 1) := by decide +kernel
theorem dX2_at_13 : decode cX2_at 13 = .ok (.getfield 36, 3) := by decide +kernel
theorem dX2_at_16 : decode cX2_at 16 = .ok (.iload_n 1, 1) := by decide +kernel
theorem dX2_at_17 : decode cX2_at 17 = .ok (.iaload, 1) := by decide +kernel
theorem dX2_at_18 : decode cX2_at 18 = .ok (.goto 4, 3) := by decide +kernel
theorem dX2_at_21 : decode cX2_at 21 = .ok (.iconst (-1), 1) := by decide +kernel
theorem dX2_at_22 : decode cX2_at 22 = .ok (.ireturn, 1) := by decide +kernel
theorem dJ9_max_7cf53_0 : decode cJ9_max_7cf53 0 = .ok (.iload_n 0, 1) := by decide +kernel
theorem dJ9_max_7cf53_1 : decode cJ9_max_7cf53 1 = .ok (.iload_n 1, 1) := by decide +kernel
theorem dJ9_max_7cf53_2 : decode cJ9_max_7cf53 2 = .ok (.if_icmp .lt 7, 3) := by decide +kernel
theorem dJ9_max_7cf53_5 : decode cJ9_max_7cf53 5 = .ok (.iload_n 0, 1) := by decide +kernel
theorem dJ9_max_7cf53_6 : decode cJ9_max_7cf53 6 = .ok (.goto 4, 3) := by decide +kernel
theorem dJ9_max_7cf53_9 : decode cJ9_max_7cf53 9 = .ok (.iload_n 1, 1) := by decide +kernel
theorem dJ9_max_7cf53_10 : decode cJ9_max_7cf53 10 = .ok (.ireturn, 1) := by decide +kernel
theorem dJ7_fill_53178_0 : decode cJ7_fill_53178 0 = .ok (.iconst 0, 1) := by decide +kernel
theorem dJ7_fill_53178_1 : decode cJ7_fill_53178 1 = .ok (.istore_n 2, 1) := by decide +kernel
theorem dJ7_fill_53178_2 : decode cJ7_fill_53178 2 = .ok (.aload_n 0, 1) := by decide +kernel
theorem dJ7_fill_53178_3 : decode cJ7_fill_53178 3 = .ok (.arraylength, 1) := by decide +kernel
theorem dJ7_fill_53178_4 : decode cJ7_fill_53178 4 = .ok (.istore_n 3, 1) := by decide +kernel
theorem dJ7_fill_53178_5 : decode cJ7_fill_53178 5 = .ok (.iload_n 2, 1) := by decide +kernel
theorem dJ7_fill_53178_6 : decode cJ7_fill_53178 6 = .ok (.iload_n 3, 1) := by decide +kernel
theorem dJ7_fill_53178_7 : decode cJ7_fill_53178 7 = .ok (.if_icmp .ge 13, 3) := by decide +kernel
theorem dJ7_fill_53178_10 : decode cJ7_fill_53178 10 = .ok (.aload_n 0, 1) := by decide +kernel
theorem dJ7_fill_53178_11 : decode cJ7_fill_53178 11 = .ok (.iload_n 2, 1) := by decide +kernel
theorem dJ7_fill_53178_12 : decode cJ7_fill_53178 12 = .ok (.iload_n 1, 1) := by decide +kernel
theorem dJ7_fill_53178_13 : decode cJ7_fill_53178 13 = .ok (.iastore, 1) := by decide +kernel
theorem dJ7_fill_53178_14 : decode cJ7_fill_53178 14 = .ok (.iinc 2 1, 3) := by decide +kernel
theorem dJ7_fill_53178_17 : decode cJ7_fill_53178 17 = .ok (.goto (-12), 3) := by decide +kernel
theorem dJ7_fill_53178_20 : decode cJ7_fill_53178 20 = .ok (.return_, 1) := by decide +kernel
set_option maxRecDepth 20000 in
theorem ggL_law_X1_init : GoodIn wsL_law wsX1_init := goodIn_r _ [8, 9, 10, 11, 12, 13, 14, 15, 16, 17, 18, 19, 20, 21, 22, 23, 24, 25, 26, 27, 28, 187, 188, 189, 190, 191, 192, 206, 207, 208, 209, 210, 211, 212, 213, 214] (by decide +kernel) (by decide +kernel)
set_option maxRecDepth 20000 in
theorem gL_law_X1_init : GoodIn wsL_law (wsX1_init) := ggL_law_X1_init
set_option maxRecDepth 20000 in
theorem ggL_law_X2_init : GoodIn wsL_law wsX2_init := goodIn_r _ [31, 32, 10, 11, 33, 34, 12, 35, 36, 37, 38, 39, 40, 41, 42, 43, 44, 193, 194, 195, 196, 197, 198, 199, 200, 201, 202, 203, 204, 205] (by decide +kernel) (by decide +kernel)
set_option maxRecDepth 20000 in
theorem gL_law_X2_init : GoodIn wsL_law (wsX2_init) := ggL_law_X2_init
set_option maxRecDepth 20000 in
theorem ggL_law_X1_feed : GoodIn wsL_law wsX1_feed := goodIn_r _ [48, 19, 49, 50, 51, 2, 52, 13, 187, 188, 189, 190, 191, 192] (by decide +kernel) (by decide +kernel)
set_option maxRecDepth 20000 in
theorem gL_law_X1_feed : GoodIn wsL_law (wsV RL 13 RX1 yX1_feed wsX1_feed) := goodIn_app (goodIn_of _ (by decide +kernel)) ggL_law_X1_feed
set_option maxRecDepth 20000 in
theorem ggL_law_X2_feed : GoodIn wsL_law wsX2_feed := goodIn_r _ [56, 57, 58, 59, 60, 5, 61, 34, 193, 194, 195, 196, 197, 198, 199, 200, 201, 202, 203, 204, 205] (by decide +kernel) (by decide +kernel)
set_option maxRecDepth 20000 in
theorem gL_law_X2_feed : GoodIn wsL_law (wsV RL 17 RX2 yX2_feed wsX2_feed) := goodIn_app (goodIn_of _ (by decide +kernel)) ggL_law_X2_feed
set_option maxRecDepth 20000 in
theorem ggL_law_X1_end : GoodIn wsL_law wsX1_end := goodIn_r _ [65, 19, 187, 188, 189, 190, 191, 192] (by decide +kernel) (by decide +kernel)
set_option maxRecDepth 20000 in
theorem gL_law_X1_end : GoodIn wsL_law (wsV RL 18 RX1 yX1_end wsX1_end) := goodIn_app (goodIn_of _ (by decide +kernel)) ggL_law_X1_end
set_option maxRecDepth 20000 in
theorem ggL_law_X2_end : GoodIn wsL_law wsX2_end := goodIn_r _ [69, 57, 193, 194, 195, 196, 197, 198, 199, 200, 201, 202, 203, 204, 205] (by decide +kernel) (by decide +kernel)
set_option maxRecDepth 20000 in
theorem gL_law_X2_end : GoodIn wsL_law (wsV RL 22 RX2 yX2_end wsX2_end) := goodIn_app (goodIn_of _ (by decide +kernel)) ggL_law_X2_end
set_option maxRecDepth 20000 in
theorem ggL_law_X1_take : GoodIn wsL_law wsX1_take := goodIn_r _ [73, 19, 74, 75, 2, 76, 77, 78, 79, 80, 15, 81, 21, 82, 83, 84, 17, 85, 86, 87, 88, 89, 90, 91, 92, 26, 27, 93, 28, 94, 95, 96, 97, 98, 99, 100, 101, 102, 103, 13, 18, 104, 105, 106, 107, 108, 109, 110, 111, 112, 113, 114, 115, 116, 117, 118, 119, 120, 121, 122, 123, 124, 125, 126, 127, 128, 20, 187, 188, 189, 190, 191, 192, 206, 207, 208, 209, 210, 211, 212, 213, 214] (by decide +kernel) (by decide +kernel)
set_option maxRecDepth 20000 in
theorem gL_law_X1_take : GoodIn wsL_law (wsV RL 23 RX1 yX1_take wsX1_take) := goodIn_app (goodIn_of _ (by decide +kernel)) ggL_law_X1_take
set_option maxRecDepth 20000 in
theorem ggL_law_X2_take : GoodIn wsL_law wsX2_take := goodIn_r _ [132, 57, 38, 42, 41, 34, 44, 43, 133, 134, 135, 136, 5, 137, 35, 36, 37, 138, 139, 140, 141, 39, 142, 193, 194, 195, 196, 197, 198, 199, 200, 201, 202, 203, 204, 205] (by decide +kernel) (by decide +kernel)
set_option maxRecDepth 20000 in
theorem gL_law_X2_take : GoodIn wsL_law (wsV RL 27 RX2 yX2_take wsX2_take) := goodIn_app (goodIn_of _ (by decide +kernel)) ggL_law_X2_take
set_option maxRecDepth 20000 in
theorem ggL_law_X1_pass : GoodIn wsL_law wsX1_pass := goodIn_r _ [146, 21, 147, 15, 81, 148, 187, 188, 189, 190, 191, 192, 206, 207, 208, 209, 210, 211, 212, 213, 214] (by decide +kernel) (by decide +kernel)
set_option maxRecDepth 20000 in
theorem gL_law_X1_pass : GoodIn wsL_law (wsV RL 28 RX1 yX1_pass wsX1_pass) := goodIn_app (goodIn_of _ (by decide +kernel)) ggL_law_X1_pass
set_option maxRecDepth 20000 in
theorem ggL_law_X2_pass : GoodIn wsL_law wsX2_pass := goodIn_r _ [152, 142, 153, 41, 39, 193, 194, 195, 196, 197, 198, 199, 200, 201, 202, 203, 204, 205] (by decide +kernel) (by decide +kernel)
set_option maxRecDepth 20000 in
theorem gL_law_X2_pass : GoodIn wsL_law (wsV RL 31 RX2 yX2_pass wsX2_pass) := goodIn_app (goodIn_of _ (by decide +kernel)) ggL_law_X2_pass
set_option maxRecDepth 20000 in
theorem ggL_law_X1_making : GoodIn wsL_law wsX1_making := goodIn_r _ [157, 15, 81, 187, 188, 189, 190, 191, 192, 206, 207, 208, 209, 210, 211, 212, 213, 214] (by decide +kernel) (by decide +kernel)
set_option maxRecDepth 20000 in
theorem gL_law_X1_making : GoodIn wsL_law (wsV RL 32 RX1 yX1_making wsX1_making) := goodIn_app (goodIn_of _ (by decide +kernel)) ggL_law_X1_making
set_option maxRecDepth 20000 in
theorem ggL_law_X2_making : GoodIn wsL_law wsX2_making := goodIn_r _ [161, 41, 193, 194, 195, 196, 197, 198, 199, 200, 201, 202, 203, 204, 205] (by decide +kernel) (by decide +kernel)
set_option maxRecDepth 20000 in
theorem gL_law_X2_making : GoodIn wsL_law (wsV RL 36 RX2 yX2_making wsX2_making) := goodIn_app (goodIn_of _ (by decide +kernel)) ggL_law_X2_making
set_option maxRecDepth 20000 in
theorem ggL_law_X1_made : GoodIn wsL_law wsX1_made := goodIn_r _ [165, 20, 187, 188, 189, 190, 191, 192] (by decide +kernel) (by decide +kernel)
set_option maxRecDepth 20000 in
theorem gL_law_X1_made : GoodIn wsL_law (wsV RL 37 RX1 yX1_made wsX1_made) := goodIn_app (goodIn_of _ (by decide +kernel)) ggL_law_X1_made
set_option maxRecDepth 20000 in
theorem ggL_law_X2_made : GoodIn wsL_law wsX2_made := goodIn_r _ [169, 133, 193, 194, 195, 196, 197, 198, 199, 200, 201, 202, 203, 204, 205] (by decide +kernel) (by decide +kernel)
set_option maxRecDepth 20000 in
theorem gL_law_X2_made : GoodIn wsL_law (wsV RL 40 RX2 yX2_made wsX2_made) := goodIn_app (goodIn_of _ (by decide +kernel)) ggL_law_X2_made
set_option maxRecDepth 20000 in
theorem ggL_law_X1_length : GoodIn wsL_law wsX1_length := goodIn_r _ [173, 18, 104, 187, 188, 189, 190, 191, 192, 206, 207, 208, 209, 210, 211, 212, 213, 214] (by decide +kernel) (by decide +kernel)
set_option maxRecDepth 20000 in
theorem gL_law_X1_length : GoodIn wsL_law (wsV RL 41 RX1 yX1_length wsX1_length) := goodIn_app (goodIn_of _ (by decide +kernel)) ggL_law_X1_length
set_option maxRecDepth 20000 in
theorem ggL_law_X2_length : GoodIn wsL_law wsX2_length := goodIn_r _ [177, 44, 193, 194, 195, 196, 197, 198, 199, 200, 201, 202, 203, 204, 205] (by decide +kernel) (by decide +kernel)
set_option maxRecDepth 20000 in
theorem gL_law_X2_length : GoodIn wsL_law (wsV RL 44 RX2 yX2_length wsX2_length) := goodIn_app (goodIn_of _ (by decide +kernel)) ggL_law_X2_length
set_option maxRecDepth 20000 in
theorem ggL_law_X1_at : GoodIn wsL_law wsX1_at := goodIn_r _ [181, 18, 104, 182, 187, 188, 189, 190, 191, 192, 206, 207, 208, 209, 210, 211, 212, 213, 214] (by decide +kernel) (by decide +kernel)
set_option maxRecDepth 20000 in
theorem gL_law_X1_at : GoodIn wsL_law (wsV RL 45 RX1 yX1_at wsX1_at) := goodIn_app (goodIn_of _ (by decide +kernel)) ggL_law_X1_at
set_option maxRecDepth 20000 in
theorem ggL_law_X2_at : GoodIn wsL_law wsX2_at := goodIn_r _ [186, 44, 43, 193, 194, 195, 196, 197, 198, 199, 200, 201, 202, 203, 204, 205] (by decide +kernel) (by decide +kernel)
set_option maxRecDepth 20000 in
theorem gL_law_X2_at : GoodIn wsL_law (wsV RL 48 RX2 yX2_at wsX2_at) := goodIn_app (goodIn_of _ (by decide +kernel)) ggL_law_X2_at
theorem dL_law_0 : decode cL_law 0 = .ok (.new 7, 3) := by decide +kernel
theorem dL_law_3 : decode cL_law 3 = .ok (.dup, 1) := by decide +kernel
theorem dL_law_4 : decode cL_law 4 = .ok (.invokespecial 9, 3) := by decide +kernel
theorem dL_law_7 : decode cL_law 7 = .ok (.astore_n 1, 1) := by decide +kernel
theorem dL_law_8 : decode cL_law 8 = .ok (.new 10, 3) := by decide +kernel
theorem dL_law_11 : decode cL_law 11 = .ok (.dup, 1) := by decide +kernel
theorem dL_law_12 : decode cL_law 12 = .ok (.invokespecial 12, 3) := by decide +kernel
theorem dL_law_15 : decode cL_law 15 = .ok (.astore_n 2, 1) := by decide +kernel
theorem dL_law_16 : decode cL_law 16 = .ok (.iconst 0, 1) := by decide +kernel
theorem dL_law_17 : decode cL_law 17 = .ok (.istore_n 3, 1) := by decide +kernel
theorem dL_law_18 : decode cL_law 18 = .ok (.iload_n 3, 1) := by decide +kernel
theorem dL_law_19 : decode cL_law 19 = .ok (.aload_n 0, 1) := by decide +kernel
theorem dL_law_20 : decode cL_law 20 = .ok (.arraylength, 1) := by decide +kernel
theorem dL_law_21 : decode cL_law 21 = .ok (.bipush 6, 2) := by decide +kernel
theorem dL_law_23 : decode cL_law 23 = .ok (.isub, 1) := by decide +kernel
theorem dL_law_24 : decode cL_law 24 = .ok (.if_icmp .gt 312, 3) := by decide +kernel
theorem dL_law_27 : decode cL_law 27 = .ok (.aload_n 0, 1) := by decide +kernel
theorem dL_law_28 : decode cL_law 28 = .ok (.iload_n 3, 1) := by decide +kernel
theorem dL_law_29 : decode cL_law 29 = .ok (.iaload, 1) := by decide +kernel
theorem dL_law_30 : decode cL_law 30 = .ok (.bipush 7, 2) := by decide +kernel
theorem dL_law_32 : decode cL_law 32 = .ok (.iand, 1) := by decide +kernel
theorem dL_law_33 : decode cL_law 33 = .ok (.tableswitch 297 0 7 #[47, 110, 133, 212, 235, 248, 261, 274], 47) := by decide +kernel
theorem dL_law_80 : decode cL_law 80 = .ok (.aload_n 1, 1) := by decide +kernel
theorem dL_law_81 : decode cL_law 81 = .ok (.aload_n 0, 1) := by decide +kernel
theorem dL_law_82 : decode cL_law 82 = .ok (.iload_n 3, 1) := by decide +kernel
theorem dL_law_83 : decode cL_law 83 = .ok (.iconst 1, 1) := by decide +kernel
theorem dL_law_84 : decode cL_law 84 = .ok (.iadd, 1) := by decide +kernel
theorem dL_law_85 : decode cL_law 85 = .ok (.iaload, 1) := by decide +kernel
theorem dL_law_86 : decode cL_law 86 = .ok (.aload_n 0, 1) := by decide +kernel
theorem dL_law_87 : decode cL_law 87 = .ok (.iload_n 3, 1) := by decide +kernel
theorem dL_law_88 : decode cL_law 88 = .ok (.iconst 2, 1) := by decide +kernel
theorem dL_law_89 : decode cL_law 89 = .ok (.iadd, 1) := by decide +kernel
theorem dL_law_90 : decode cL_law 90 = .ok (.iaload, 1) := by decide +kernel
theorem dL_law_91 : decode cL_law 91 = .ok (.aload_n 0, 1) := by decide +kernel
theorem dL_law_92 : decode cL_law 92 = .ok (.iload_n 3, 1) := by decide +kernel
theorem dL_law_93 : decode cL_law 93 = .ok (.iconst 3, 1) := by decide +kernel
theorem dL_law_94 : decode cL_law 94 = .ok (.iadd, 1) := by decide +kernel
theorem dL_law_95 : decode cL_law 95 = .ok (.iaload, 1) := by decide +kernel
theorem dL_law_96 : decode cL_law 96 = .ok (.aload_n 0, 1) := by decide +kernel
theorem dL_law_97 : decode cL_law 97 = .ok (.iload_n 3, 1) := by decide +kernel
theorem dL_law_98 : decode cL_law 98 = .ok (.iconst 4, 1) := by decide +kernel
theorem dL_law_99 : decode cL_law 99 = .ok (.iadd, 1) := by decide +kernel
theorem dL_law_100 : decode cL_law 100 = .ok (.iaload, 1) := by decide +kernel
theorem dL_law_101 : decode cL_law 101 = .ok (.aload_n 0, 1) := by decide +kernel
theorem dL_law_102 : decode cL_law 102 = .ok (.iload_n 3, 1) := by decide +kernel
theorem dL_law_103 : decode cL_law 103 = .ok (.iconst 5, 1) := by decide +kernel
theorem dL_law_104 : decode cL_law 104 = .ok (.iadd, 1) := by decide +kernel
theorem dL_law_105 : decode cL_law 105 = .ok (.iaload, 1) := by decide +kernel
theorem dL_law_106 : decode cL_law 106 = .ok (.invokevirtual 13, 3) := by decide +kernel
theorem dL_law_109 : decode cL_law 109 = .ok (.aload_n 2, 1) := by decide +kernel
theorem dL_law_110 : decode cL_law 110 = .ok (.aload_n 0, 1) := by decide +kernel
theorem dL_law_111 : decode cL_law 111 = .ok (.iload_n 3, 1) := by decide +kernel
theorem dL_law_112 : decode cL_law 112 = .ok (.iconst 1, 1) := by decide +kernel
theorem dL_law_113 : decode cL_law 113 = .ok (.iadd, 1) := by decide +kernel
theorem dL_law_114 : decode cL_law 114 = .ok (.iaload, 1) := by decide +kernel
theorem dL_law_115 : decode cL_law 115 = .ok (.aload_n 0, 1) := by decide +kernel
theorem dL_law_116 : decode cL_law 116 = .ok (.iload_n 3, 1) := by decide +kernel
theorem dL_law_117 : decode cL_law 117 = .ok (.iconst 2, 1) := by decide +kernel
theorem dL_law_118 : decode cL_law 118 = .ok (.iadd, 1) := by decide +kernel
theorem dL_law_119 : decode cL_law 119 = .ok (.iaload, 1) := by decide +kernel
theorem dL_law_120 : decode cL_law 120 = .ok (.aload_n 0, 1) := by decide +kernel
theorem dL_law_121 : decode cL_law 121 = .ok (.iload_n 3, 1) := by decide +kernel
theorem dL_law_122 : decode cL_law 122 = .ok (.iconst 3, 1) := by decide +kernel
theorem dL_law_123 : decode cL_law 123 = .ok (.iadd, 1) := by decide +kernel
theorem dL_law_124 : decode cL_law 124 = .ok (.iaload, 1) := by decide +kernel
theorem dL_law_125 : decode cL_law 125 = .ok (.aload_n 0, 1) := by decide +kernel
theorem dL_law_126 : decode cL_law 126 = .ok (.iload_n 3, 1) := by decide +kernel
theorem dL_law_127 : decode cL_law 127 = .ok (.iconst 4, 1) := by decide +kernel
theorem dL_law_128 : decode cL_law 128 = .ok (.iadd, 1) := by decide +kernel
theorem dL_law_129 : decode cL_law 129 = .ok (.iaload, 1) := by decide +kernel
theorem dL_law_130 : decode cL_law 130 = .ok (.aload_n 0, 1) := by decide +kernel
theorem dL_law_131 : decode cL_law 131 = .ok (.iload_n 3, 1) := by decide +kernel
theorem dL_law_132 : decode cL_law 132 = .ok (.iconst 5, 1) := by decide +kernel
theorem dL_law_133 : decode cL_law 133 = .ok (.iadd, 1) := by decide +kernel
theorem dL_law_134 : decode cL_law 134 = .ok (.iaload, 1) := by decide +kernel
theorem dL_law_135 : decode cL_law 135 = .ok (.invokevirtual 17, 3) := by decide +kernel
theorem dL_law_138 : decode cL_law 138 = .ok (.if_icmp .eq 192, 3) := by decide +kernel
theorem dL_law_141 : decode cL_law 141 = .ok (.iconst 0, 1) := by decide +kernel
theorem dL_law_142 : decode cL_law 142 = .ok (.ireturn, 1) := by decide +kernel
theorem dL_law_143 : decode cL_law 143 = .ok (.aload_n 1, 1) := by decide +kernel
theorem dL_law_144 : decode cL_law 144 = .ok (.aload_n 0, 1) := by decide +kernel
theorem dL_law_145 : decode cL_law 145 = .ok (.iload_n 3, 1) := by decide +kernel
theorem dL_law_146 : decode cL_law 146 = .ok (.iconst 1, 1) := by decide +kernel
theorem dL_law_147 : decode cL_law 147 = .ok (.iadd, 1) := by decide +kernel
theorem dL_law_148 : decode cL_law 148 = .ok (.iaload, 1) := by decide +kernel
theorem dL_law_149 : decode cL_law 149 = .ok (.invokevirtual 18, 3) := by decide +kernel
theorem dL_law_152 : decode cL_law 152 = .ok (.aload_n 2, 1) := by decide +kernel
theorem dL_law_153 : decode cL_law 153 = .ok (.aload_n 0, 1) := by decide +kernel
theorem dL_law_154 : decode cL_law 154 = .ok (.iload_n 3, 1) := by decide +kernel
theorem dL_law_155 : decode cL_law 155 = .ok (.iconst 1, 1) := by decide +kernel
theorem dL_law_156 : decode cL_law 156 = .ok (.iadd, 1) := by decide +kernel
theorem dL_law_157 : decode cL_law 157 = .ok (.iaload, 1) := by decide +kernel
theorem dL_law_158 : decode cL_law 158 = .ok (.invokevirtual 22, 3) := by decide +kernel
theorem dL_law_161 : decode cL_law 161 = .ok (.if_icmp .eq 169, 3) := by decide +kernel
theorem dL_law_164 : decode cL_law 164 = .ok (.iconst 0, 1) := by decide +kernel
theorem dL_law_165 : decode cL_law 165 = .ok (.ireturn, 1) := by decide +kernel
theorem dL_law_166 : decode cL_law 166 = .ok (.aload_n 1, 1) := by decide +kernel
theorem dL_law_167 : decode cL_law 167 = .ok (.aload_n 0, 1) := by decide +kernel
theorem dL_law_168 : decode cL_law 168 = .ok (.iload_n 3, 1) := by decide +kernel
theorem dL_law_169 : decode cL_law 169 = .ok (.iconst 1, 1) := by decide +kernel
theorem dL_law_170 : decode cL_law 170 = .ok (.iadd, 1) := by decide +kernel
theorem dL_law_171 : decode cL_law 171 = .ok (.iaload, 1) := by decide +kernel
theorem dL_law_172 : decode cL_law 172 = .ok (.aload_n 0, 1) := by decide +kernel
theorem dL_law_173 : decode cL_law 173 = .ok (.iload_n 3, 1) := by decide +kernel
theorem dL_law_174 : decode cL_law 174 = .ok (.iconst 2, 1) := by decide +kernel
theorem dL_law_175 : decode cL_law 175 = .ok (.iadd, 1) := by decide +kernel
theorem dL_law_176 : decode cL_law 176 = .ok (.iaload, 1) := by decide +kernel
theorem dL_law_177 : decode cL_law 177 = .ok (.aload_n 0, 1) := by decide +kernel
theorem dL_law_178 : decode cL_law 178 = .ok (.iload_n 3, 1) := by decide +kernel
theorem dL_law_179 : decode cL_law 179 = .ok (.iconst 3, 1) := by decide +kernel
theorem dL_law_180 : decode cL_law 180 = .ok (.iadd, 1) := by decide +kernel
theorem dL_law_181 : decode cL_law 181 = .ok (.iaload, 1) := by decide +kernel
theorem dL_law_182 : decode cL_law 182 = .ok (.aload_n 0, 1) := by decide +kernel
theorem dL_law_183 : decode cL_law 183 = .ok (.iload_n 3, 1) := by decide +kernel
theorem dL_law_184 : decode cL_law 184 = .ok (.iconst 4, 1) := by decide +kernel
theorem dL_law_185 : decode cL_law 185 = .ok (.iadd, 1) := by decide +kernel
theorem dL_law_186 : decode cL_law 186 = .ok (.iaload, 1) := by decide +kernel
theorem dL_law_187 : decode cL_law 187 = .ok (.aload_n 0, 1) := by decide +kernel
theorem dL_law_188 : decode cL_law 188 = .ok (.iload_n 3, 1) := by decide +kernel
theorem dL_law_189 : decode cL_law 189 = .ok (.iconst 5, 1) := by decide +kernel
theorem dL_law_190 : decode cL_law 190 = .ok (.iadd, 1) := by decide +kernel
theorem dL_law_191 : decode cL_law 191 = .ok (.iaload, 1) := by decide +kernel
theorem dL_law_192 : decode cL_law 192 = .ok (.ifCond .eq 7, 3) := by decide +kernel
theorem dL_law_195 : decode cL_law 195 = .ok (.iconst 1, 1) := by decide +kernel
theorem dL_law_196 : decode cL_law 196 = .ok (.goto 4, 3) := by decide +kernel
theorem dL_law_199 : decode cL_law 199 = .ok (.iconst 0, 1) := by decide +kernel
theorem dL_law_200 : decode cL_law 200 = .ok (.invokevirtual 23, 3) := by decide +kernel
theorem dL_law_203 : decode cL_law 203 = .ok (.aload_n 2, 1) := by decide +kernel
theorem dL_law_204 : decode cL_law 204 = .ok (.aload_n 0, 1) := by decide +kernel
theorem dL_law_205 : decode cL_law 205 = .ok (.iload_n 3, 1) := by decide +kernel
theorem dL_law_206 : decode cL_law 206 = .ok (.iconst 1, 1) := by decide +kernel
theorem dL_law_207 : decode cL_law 207 = .ok (.iadd, 1) := by decide +kernel
theorem dL_law_208 : decode cL_law 208 = .ok (.iaload, 1) := by decide +kernel
theorem dL_law_209 : decode cL_law 209 = .ok (.aload_n 0, 1) := by decide +kernel
theorem dL_law_210 : decode cL_law 210 = .ok (.iload_n 3, 1) := by decide +kernel
theorem dL_law_211 : decode cL_law 211 = .ok (.iconst 2, 1) := by decide +kernel
theorem dL_law_212 : decode cL_law 212 = .ok (.iadd, 1) := by decide +kernel
theorem dL_law_213 : decode cL_law 213 = .ok (.iaload, 1) := by decide +kernel
theorem dL_law_214 : decode cL_law 214 = .ok (.aload_n 0, 1) := by decide +kernel
theorem dL_law_215 : decode cL_law 215 = .ok (.iload_n 3, 1) := by decide +kernel
theorem dL_law_216 : decode cL_law 216 = .ok (.iconst 3, 1) := by decide +kernel
theorem dL_law_217 : decode cL_law 217 = .ok (.iadd, 1) := by decide +kernel
theorem dL_law_218 : decode cL_law 218 = .ok (.iaload, 1) := by decide +kernel
theorem dL_law_219 : decode cL_law 219 = .ok (.aload_n 0, 1) := by decide +kernel
theorem dL_law_220 : decode cL_law 220 = .ok (.iload_n 3, 1) := by decide +kernel
theorem dL_law_221 : decode cL_law 221 = .ok (.iconst 4, 1) := by decide +kernel
theorem dL_law_222 : decode cL_law 222 = .ok (.iadd, 1) := by decide +kernel
theorem dL_law_223 : decode cL_law 223 = .ok (.iaload, 1) := by decide +kernel
theorem dL_law_224 : decode cL_law 224 = .ok (.aload_n 0, 1) := by decide +kernel
theorem dL_law_225 : decode cL_law 225 = .ok (.iload_n 3, 1) := by decide +kernel
theorem dL_law_226 : decode cL_law 226 = .ok (.iconst 5, 1) := by decide +kernel
theorem dL_law_227 : decode cL_law 227 = .ok (.iadd, 1) := by decide +kernel
theorem dL_law_228 : decode cL_law 228 = .ok (.iaload, 1) := by decide +kernel
theorem dL_law_229 : decode cL_law 229 = .ok (.ifCond .eq 7, 3) := by decide +kernel
theorem dL_law_232 : decode cL_law 232 = .ok (.iconst 1, 1) := by decide +kernel
theorem dL_law_233 : decode cL_law 233 = .ok (.goto 4, 3) := by decide +kernel
theorem dL_law_236 : decode cL_law 236 = .ok (.iconst 0, 1) := by decide +kernel
theorem dL_law_237 : decode cL_law 237 = .ok (.invokevirtual 27, 3) := by decide +kernel
theorem dL_law_240 : decode cL_law 240 = .ok (.if_icmp .eq 90, 3) := by decide +kernel
theorem dL_law_243 : decode cL_law 243 = .ok (.iconst 0, 1) := by decide +kernel
theorem dL_law_244 : decode cL_law 244 = .ok (.ireturn, 1) := by decide +kernel
theorem dL_law_245 : decode cL_law 245 = .ok (.aload_n 1, 1) := by decide +kernel
theorem dL_law_246 : decode cL_law 246 = .ok (.aload_n 0, 1) := by decide +kernel
theorem dL_law_247 : decode cL_law 247 = .ok (.iload_n 3, 1) := by decide +kernel
theorem dL_law_248 : decode cL_law 248 = .ok (.iconst 1, 1) := by decide +kernel
theorem dL_law_249 : decode cL_law 249 = .ok (.iadd, 1) := by decide +kernel
theorem dL_law_250 : decode cL_law 250 = .ok (.iaload, 1) := by decide +kernel
theorem dL_law_251 : decode cL_law 251 = .ok (.invokevirtual 28, 3) := by decide +kernel
theorem dL_law_254 : decode cL_law 254 = .ok (.aload_n 2, 1) := by decide +kernel
theorem dL_law_255 : decode cL_law 255 = .ok (.aload_n 0, 1) := by decide +kernel
theorem dL_law_256 : decode cL_law 256 = .ok (.iload_n 3, 1) := by decide +kernel
theorem dL_law_257 : decode cL_law 257 = .ok (.iconst 1, 1) := by decide +kernel
theorem dL_law_258 : decode cL_law 258 = .ok (.iadd, 1) := by decide +kernel
theorem dL_law_259 : decode cL_law 259 = .ok (.iaload, 1) := by decide +kernel
theorem dL_law_260 : decode cL_law 260 = .ok (.invokevirtual 31, 3) := by decide +kernel
theorem dL_law_263 : decode cL_law 263 = .ok (.if_icmp .eq 67, 3) := by decide +kernel
theorem dL_law_266 : decode cL_law 266 = .ok (.iconst 0, 1) := by decide +kernel
theorem dL_law_267 : decode cL_law 267 = .ok (.ireturn, 1) := by decide +kernel
theorem dL_law_268 : decode cL_law 268 = .ok (.aload_n 1, 1) := by decide +kernel
theorem dL_law_269 : decode cL_law 269 = .ok (.invokevirtual 32, 3) := by decide +kernel
theorem dL_law_272 : decode cL_law 272 = .ok (.aload_n 2, 1) := by decide +kernel
theorem dL_law_273 : decode cL_law 273 = .ok (.invokevirtual 36, 3) := by decide +kernel
theorem dL_law_276 : decode cL_law 276 = .ok (.if_icmp .eq 54, 3) := by decide +kernel
theorem dL_law_279 : decode cL_law 279 = .ok (.iconst 0, 1) := by decide +kernel
theorem dL_law_280 : decode cL_law 280 = .ok (.ireturn, 1) := by decide +kernel
theorem dL_law_281 : decode cL_law 281 = .ok (.aload_n 1, 1) := by decide +kernel
theorem dL_law_282 : decode cL_law 282 = .ok (.invokevirtual 37, 3) := by decide +kernel
theorem dL_law_285 : decode cL_law 285 = .ok (.aload_n 2, 1) := by decide +kernel
theorem dL_law_286 : decode cL_law 286 = .ok (.invokevirtual 40, 3) := by decide +kernel
theorem dL_law_289 : decode cL_law 289 = .ok (.if_icmp .eq 41, 3) := by decide +kernel
theorem dL_law_292 : decode cL_law 292 = .ok (.iconst 0, 1) := by decide +kernel
theorem dL_law_293 : decode cL_law 293 = .ok (.ireturn, 1) := by decide +kernel
theorem dL_law_294 : decode cL_law 294 = .ok (.aload_n 1, 1) := by decide +kernel
theorem dL_law_295 : decode cL_law 295 = .ok (.invokevirtual 41, 3) := by decide +kernel
theorem dL_law_298 : decode cL_law 298 = .ok (.aload_n 2, 1) := by decide +kernel
theorem dL_law_299 : decode cL_law 299 = .ok (.invokevirtual 44, 3) := by decide +kernel
theorem dL_law_302 : decode cL_law 302 = .ok (.if_icmp .eq 28, 3) := by decide +kernel
theorem dL_law_305 : decode cL_law 305 = .ok (.iconst 0, 1) := by decide +kernel
theorem dL_law_306 : decode cL_law 306 = .ok (.ireturn, 1) := by decide +kernel
theorem dL_law_307 : decode cL_law 307 = .ok (.aload_n 1, 1) := by decide +kernel
theorem dL_law_308 : decode cL_law 308 = .ok (.aload_n 0, 1) := by decide +kernel
theorem dL_law_309 : decode cL_law 309 = .ok (.iload_n 3, 1) := by decide +kernel
theorem dL_law_310 : decode cL_law 310 = .ok (.iconst 1, 1) := by decide +kernel
theorem dL_law_311 : decode cL_law 311 = .ok (.iadd, 1) := by decide +kernel
theorem dL_law_312 : decode cL_law 312 = .ok (.iaload, 1) := by decide +kernel
theorem dL_law_313 : decode cL_law 313 = .ok (.invokevirtual 45, 3) := by decide +kernel
theorem dL_law_316 : decode cL_law 316 = .ok (.aload_n 2, 1) := by decide +kernel
theorem dL_law_317 : decode cL_law 317 = .ok (.aload_n 0, 1) := by decide +kernel
theorem dL_law_318 : decode cL_law 318 = .ok (.iload_n 3, 1) := by decide +kernel
theorem dL_law_319 : decode cL_law 319 = .ok (.iconst 1, 1) := by decide +kernel
theorem dL_law_320 : decode cL_law 320 = .ok (.iadd, 1) := by decide +kernel
theorem dL_law_321 : decode cL_law 321 = .ok (.iaload, 1) := by decide +kernel
theorem dL_law_322 : decode cL_law 322 = .ok (.invokevirtual 48, 3) := by decide +kernel
theorem dL_law_325 : decode cL_law 325 = .ok (.if_icmp .eq 5, 3) := by decide +kernel
theorem dL_law_328 : decode cL_law 328 = .ok (.iconst 0, 1) := by decide +kernel
theorem dL_law_329 : decode cL_law 329 = .ok (.ireturn, 1) := by decide +kernel
theorem dL_law_330 : decode cL_law 330 = .ok (.iinc 3 6, 3) := by decide +kernel
theorem dL_law_333 : decode cL_law 333 = .ok (.goto (-315), 3) := by decide +kernel
theorem dL_law_336 : decode cL_law 336 = .ok (.iconst 1, 1) := by decide +kernel
theorem dL_law_337 : decode cL_law 337 = .ok (.ireturn, 1) := by decide +kernel
end
section
/-! my own rows over the kit: a loop at a frame's head, a world before and behind a method, calls that cut and join, indices by their numbers -/
section FK
variable {p : Program} {l : Launch} {e : Env} {R : Room} {s : State} {m : MethodId} {args : Array Value} {below : List Frame} {meth : Method} {c : Code} {cells slots : Nat} {Q : State → Prop}
theorem fh_loop {σ : Type} {pc : Nat} (I : σ → Heap → List Loc → Array Slot → Prop) (μ : σ → Nat)
    (body : ∀ (x : σ) (H : Heap) (locs : List Loc) (ls : Array Slot), I x H locs ls → (∀ (y : σ) (H' : Heap) (locs' : List Loc) (ls' : Array Slot), I y H' locs' ls' → μ y < μ x → W p l e R s m args below meth c H' locs' cells slots Q (F0 m pc ls' [])) → W p l e R s m args below meth c H locs cells slots Q (F0 m pc ls []))
    (x : σ) {H : Heap} {locs : List Loc} {ls : Array Slot} (h : I x H locs ls) : W p l e R s m args below meth c H locs cells slots Q (F0 m pc ls []) := by
  have key : ∀ (n : Nat) (x : σ) (H : Heap) (locs : List Loc) (ls : Array Slot), μ x < n → I x H locs ls → W p l e R s m args below meth c H locs cells slots Q (F0 m pc ls []) := by
    intro n
    induction n with
    | zero => intro x H locs ls h1; exact absurd h1 (Nat.not_lt_zero _)
    | succ n ih =>
      intro x H locs ls h1 h2
      exact body x H locs ls h2 (fun y H' locs' ls' h3 h4 => ih y H' locs' ls' (Nat.lt_of_lt_of_le h4 (Nat.le_of_lt_succ h1)) h3)
  exact key (μ x + 1) x H locs ls (Nat.lt_succ_self _) h
variable {H : Heap} {locs : List Loc} {pc : Nat} {ls : Array Slot} {rest : List Value}
theorem fh_top {x y : Int32} (h : x = y) (k : W p l e R s m args below meth c H locs cells slots Q (F0 m pc ls (.int y :: rest))) : W p l e R s m args below meth c H locs cells slots Q (F0 m pc ls (.int x :: rest)) := by
  subst h
  exact k
theorem fh_topv {x y : Value} (h : x = y) (k : W p l e R s m args below meth c H locs cells slots Q (F0 m pc ls (y :: rest))) : W p l e R s m args below meth c H locs cells slots Q (F0 m pc ls (x :: rest)) := by
  subst h
  exact k
theorem fh_pc {pc' : Nat} (h : pc = pc') (k : W p l e R s m args below meth c H locs cells slots Q (F0 m pc' ls rest)) : W p l e R s m args below meth c H locs cells slots Q (F0 m pc ls rest) := by
  subst h
  exact k
end FK
/-- the world ahead of a method, the heap of sz cells -/
def PW (D : va_G) (cl : List vw_C) (tys : List (ClassId × FieldType)) (ws : va_W) (sz : Nat) (U : State) : Prop := U.heap.size = sz ∧ va_P D cl ws U.heap ∧ va_K D cl tys U ∧ va_D (fun _ => True) ws
/-- the world behind it -/
def QW {S : Type} (D : va_G) (cl : List vw_C) (tys : S → List (ClassId × FieldType)) (A : Nat → Prop) (ws : S → va_W) (u : S) (t : State) : Prop := va_P D cl (ws u) t.heap ∧ va_K D cl (tys u) t ∧ va_D A (ws u)
section FK2
variable {D : va_G} {cl : List vw_C} {tys : List (ClassId × FieldType)} {ws : va_W} {A : Nat → Prop} {s : State} {H : Heap} {locs : List Loc}
theorem fb_PW {av : List Value} {sz : Nat} : FrameBlind (va_Pc av (PW D cl tys ws sz)) := fun a U g mk q => by
  obtain ⟨q0, q1, qP, qK, qD⟩ := q
  exact ⟨q0, q1, qP, va_K.moved (u := U) (U := U.calling g mk a) (Vm.Alike.refl U.vm) qK, qD⟩
theorem pS_PW {As : List Value} (hK : va_K D cl tys s) (hP : va_P D cl ws H) (hD : va_D A ws) : PreS s H (va_Pc As (PW D cl tys ws H.size)) As :=
  ⟨fb_PW, fun U hU hW => ⟨rfl, by rw [hU], by rw [hU]; exact hP, va_K.moved hW.alike hK, hD.weaken (fun _ _ _ _ => trivial)⟩⟩
theorem pV_PW {As : List Value} {b q0 ci : Nat} {q : vw_C} {fs : List Value} (hK : va_K D cl tys s) (hP : va_P D cl ws H) (hD : va_D A ws) (hc : cl[ci]? = some q) (he : ws[q0]? = some (b, .inr (ci, fs))) : PreV s H q.1 b (va_Pc (.ref b :: As) (PW D cl tys ws H.size)) As :=
  ⟨fb_PW, va_recv hK hP hc he, fun U hU hW => ⟨rfl, by rw [hU], by rw [hU]; exact hP, va_K.moved hW.alike hK, hD.weaken (fun _ _ _ _ => trivial)⟩⟩
theorem fh_qi {S : Type} {post : Int32 → S → Prop} {W1 : S → va_W} {tyf : S → List (ClassId × FieldType)} {v : Int32} {args : Array Value} (u : S) (hp : post v u) (hP : va_P D cl (W1 u) H) (hK : va_K D cl (tyf u) s) (hD : va_D A (W1 u)) (hS : va_S A s.heap H locs) :
    ∀ t : State, t.heap = H → s.WarmedH t.vm → va_Qi post (QW D cl tyf A W1) A args s (.returned (some (.int v))) t :=
  fun t ht hW => ⟨⟨v, u, rfl, hp, by rw [ht]; exact hP, va_K.moved hW.alike hK, hD⟩, hS.F ht⟩
theorem fh_qv {S : Type} {post : S → Prop} {W1 : S → va_W} {tyf : S → List (ClassId × FieldType)} {args : Array Value} (u : S) (hp : post u) (hP : va_P D cl (W1 u) H) (hK : va_K D cl (tyf u) s) (hD : va_D A (W1 u)) (hS : va_S A s.heap H locs) :
    ∀ t : State, t.heap = H → s.WarmedH t.vm → va_Qv post (QW D cl tyf A W1) A args s (.returned none) t :=
  fun t ht hW => ⟨⟨u, rfl, hp, by rw [ht]; exact hP, va_K.moved hW.alike hK, hD⟩, hS.F ht⟩
theorem fm_map {α β : Type} {f : α → Option β} {is : List α} {l : List β} (h : is.map f = l.map some) : is.filterMap f = l := by
  have h1 : is.filterMap f = (is.map f).filterMap id := by rw [List.filterMap_map]; rfl
  rw [h1, h, List.filterMap_map]
  show l.filterMap (fun x => some x) = l
  exact List.filterMap_some
end FK2
section FK3
variable {p : Program} {l : Launch} {e : Env} {R : Room} {s : State} {m : MethodId} {args : Array Value} {below : List Frame} {meth : Method} {c : Code} {H H0 : Heap} {locs : List Loc} {cells slots mc ms : Nat} {Q : State → Prop} {pc : Nat} {ls : Array Slot} {rest st0 : List Value} {D : va_G} {cl : List vw_C} {ws wc wr : va_W} {A0 : Nat → Prop} {a : Array Value}
/-- a call with an int's answer: the callee's cells (places isC) out, the rest's (isR) kept, both put together as w2 (places isB) -/
theorem fh_ci {S : Type} {post : Int32 → S → Prop} {w1 w2 : S → va_W} {tyf : S → List (ClassId × FieldType)}
    (hr : va_Run p l e R s m args below meth c H locs cells slots mc ms (F0 m pc ls st0) rest (va_Qi post (QW D cl tyf (va_A wc H.size) w1) (va_A wc H.size) a) (va_A wc H.size))
    (hP : va_P D cl ws H) (hD : va_D A0 ws) (hS : va_S A0 H0 H locs) (hA : ∀ q, H0.size ≤ q → A0 q)
    (isC isR isB : List Nat) (hC : isC.map (fun i => ws[i]?) = wc.map some) (hR : isR.map (fun i => ws[i]?) = wr.map some) (hn : va_nd isR = true) (hdis : ∀ i ∈ isR, i ∉ isC) (hnB : va_nd isB = true) (hB : ∀ u, isB.map (fun i => (wr ++ w1 u)[i]?) = (w2 u).map some)
    (kk : ∀ (r : Int32) (u : S) (H1 : Heap) (locs1 : List Loc), post r u → va_K D cl (tyf u) s → va_P D cl (w2 u) H1 → va_D A0 (w2 u) → va_S A0 H0 H1 locs1 → W p l e R s m args below meth c H1 locs1 (cells + mc) (slots + ms) Q (F0 m (pc + 3) ls (.int r :: rest))) :
    W p l e R s m args below meth c H locs cells slots Q (F0 m pc ls st0) := by
  have hFc := va_free (wc := wc) hD hS hA isC hC
  refine va_calli hr hS (fun q _ h => hFc q h) hFc (fun r u t H1 locs1 ht hvm hw hB1 hz1 hk1 hS1 => ?_)
  obtain ⟨hP1, hK1, hD1⟩ := hB1
  rw [ht] at hP1
  have hK1 := va_K.moved hvm.symm hK1
  obtain ⟨hP2, hD2⟩ := va_join (wr := wr) (w1 := w1 u) hP hD isC isR hC hR hn hdis hk1 hFc hP1 hD1
  exact kk r u H1 locs1 hw hK1 (hP2.sub isB (fm_map (hB u))) (hD2.sub isB hnB (hB u)) hS1
theorem fh_cv {S : Type} {post : S → Prop} {w1 w2 : S → va_W} {tyf : S → List (ClassId × FieldType)}
    (hr : va_Run p l e R s m args below meth c H locs cells slots mc ms (F0 m pc ls st0) rest (va_Qv post (QW D cl tyf (va_A wc H.size) w1) (va_A wc H.size) a) (va_A wc H.size))
    (hP : va_P D cl ws H) (hD : va_D A0 ws) (hS : va_S A0 H0 H locs) (hA : ∀ q, H0.size ≤ q → A0 q)
    (isC isR isB : List Nat) (hC : isC.map (fun i => ws[i]?) = wc.map some) (hR : isR.map (fun i => ws[i]?) = wr.map some) (hn : va_nd isR = true) (hdis : ∀ i ∈ isR, i ∉ isC) (hnB : va_nd isB = true) (hB : ∀ u, isB.map (fun i => (wr ++ w1 u)[i]?) = (w2 u).map some)
    (kk : ∀ (u : S) (H1 : Heap) (locs1 : List Loc), post u → va_K D cl (tyf u) s → va_P D cl (w2 u) H1 → va_D A0 (w2 u) → va_S A0 H0 H1 locs1 → W p l e R s m args below meth c H1 locs1 (cells + mc) (slots + ms) Q (F0 m (pc + 3) ls rest)) :
    W p l e R s m args below meth c H locs cells slots Q (F0 m pc ls st0) := by
  have hFc := va_free (wc := wc) hD hS hA isC hC
  refine va_callv hr hS (fun q _ h => hFc q h) hFc (fun u t H1 locs1 ht hvm hw hB1 hz1 hk1 hS1 => ?_)
  obtain ⟨hP1, hK1, hD1⟩ := hB1
  rw [ht] at hP1
  have hK1 := va_K.moved hvm.symm hK1
  obtain ⟨hP2, hD2⟩ := va_join (wr := wr) (w1 := w1 u) hP hD isC isR hC hR hn hdis hk1 hFc hP1 hD1
  exact kk u H1 locs1 hw hK1 (hP2.sub isB (fm_map (hB u))) (hD2.sub isB hnB (hB u)) hS1
end FK3
section FK4
variable {p : Program} {l : Launch} {e : Env} {R : Room} {s : State} {m : MethodId} {args : Array Value} {below : List Frame} {meth : Method} {c : Code} {H H0 : Heap} {locs : List Loc} {cells slots : Nat} {Q : State → Prop} {cc : ByteArray} {pc : Nat} {ls : Array Slot} {rest : List Value} {D : va_G} {cl : List vw_C} {tys : List (ClassId × FieldType)} {ws : va_W} {A : Nat → Prop} {a : Nat}
theorem fh_iald (hexec : p.tables.exec = Jvm.exec) (hb : c.code = cc) (hK : va_K D cl tys s) (hP : va_P D cl ws H) (q0 t0 : Nat) {cA : ClassId} {n k : Nat} {f : Nat → Int32} (ha : ws[q0]? = some (a, .inl (cA, n, .inl f))) (ht : tys[t0]? = some (cA, .int)) (hk : k < n) (hn : n < 2 ^ 31) (hdg : decode cc pc = .ok (.iaload, 1))
    (kk : W p l e R s m args below meth c H locs cells slots Q (F0 m (pc + 1) ls (.int (f k) :: rest))) : W p l e R s m args below meth c H locs cells slots Q (F0 m pc ls (.int (nI k) :: .ref a :: rest)) := by
  refine va_iald hexec hb hK hP q0 t0 ha ht (vp_in_nI hk hn) hdg ?_
  rw [nI_clamp (Nat.lt_trans hk hn)]
  exact kk
theorem fh_bald (hexec : p.tables.exec = Jvm.exec) (hb : c.code = cc) (hK : va_K D cl tys s) (hP : va_P D cl ws H) (q0 t0 : Nat) {cA : ClassId} {n k : Nat} {f : Nat → Int32} (ha : ws[q0]? = some (a, .inl (cA, n, .inl f))) (ht : tys[t0]? = some (cA, .byte)) (hk : k < n) (hn : n < 2 ^ 31) (hdg : decode cc pc = .ok (.baload, 1))
    (kk : W p l e R s m args below meth c H locs cells slots Q (F0 m (pc + 1) ls (.int (f k) :: rest))) : W p l e R s m args below meth c H locs cells slots Q (F0 m pc ls (.int (nI k) :: .ref a :: rest)) := by
  refine va_bald hexec hb hK hP q0 t0 ha ht (vp_in_nI hk hn) hdg ?_
  rw [nI_clamp (Nat.lt_trans hk hn)]
  exact kk
theorem fh_zald (hexec : p.tables.exec = Jvm.exec) (hb : c.code = cc) (hK : va_K D cl tys s) (hP : va_P D cl ws H) (q0 t0 : Nat) {cA : ClassId} {n k : Nat} {f : Nat → Int32} (ha : ws[q0]? = some (a, .inl (cA, n, .inl f))) (ht : tys[t0]? = some (cA, .boolean)) (hk : k < n) (hn : n < 2 ^ 31) (hdg : decode cc pc = .ok (.baload, 1))
    (kk : W p l e R s m args below meth c H locs cells slots Q (F0 m (pc + 1) ls (.int (f k) :: rest))) : W p l e R s m args below meth c H locs cells slots Q (F0 m pc ls (.int (nI k) :: .ref a :: rest)) := by
  refine va_zald hexec hb hK hP q0 t0 ha ht (vp_in_nI hk hn) hdg ?_
  rw [nI_clamp (Nat.lt_trans hk hn)]
  exact kk
theorem fh_aald (hexec : p.tables.exec = Jvm.exec) (hb : c.code = cc) (hK : va_K D cl tys s) (hP : va_P D cl ws H) (q0 t0 : Nat) {cA : ClassId} {C : String} {n k y : Nat} {f : Nat → Option Nat} (ha : ws[q0]? = some (a, .inl (cA, n, .inr (.inr (.inr (.inr f)))))) (ht : tys[t0]? = some (cA, .object C)) (hk : k < n) (hn : n < 2 ^ 31) (hy : f k = some y) (hdg : decode cc pc = .ok (.aaload, 1))
    (kk : W p l e R s m args below meth c H locs cells slots Q (F0 m (pc + 1) ls (.ref y :: rest))) : W p l e R s m args below meth c H locs cells slots Q (F0 m pc ls (.int (nI k) :: .ref a :: rest)) := by
  refine va_aldq hexec hb hK hP q0 t0 ha ht (vp_in_nI hk hn) hdg ?_
  rw [nI_clamp (Nat.lt_trans hk hn), hy]
  exact kk
theorem fh_iast (hexec : p.tables.exec = Jvm.exec) (hb : c.code = cc) (hK : va_K D cl tys s) (hP : va_P D cl ws H) (hD : va_D A ws) (hS : va_S A H0 H locs) (q0 t0 : Nat) {cA : ClassId} {n k : Nat} {f : Nat → Int32} (ha : ws[q0]? = some (a, .inl (cA, n, .inl f))) (ht : tys[t0]? = some (cA, .int)) {x : Int32} (hk : k < n) (hn : n < 2 ^ 31) (hdg : decode cc pc = .ok (.iastore, 1))
    (kk : ∀ (H1 : Heap) (locs1 : List Loc), va_P D cl (ws.set q0 (a, .inl (cA, n, .inl (upd f k x)))) H1 → va_D A (ws.set q0 (a, .inl (cA, n, .inl (upd f k x)))) → va_S A H0 H1 locs1 → W p l e R s m args below meth c H1 locs1 cells slots Q (F0 m (pc + 1) ls rest)) : W p l e R s m args below meth c H locs cells slots Q (F0 m pc ls (.int x :: .int (nI k) :: .ref a :: rest)) := by
  refine va_iast hexec hb hK hP hD hS q0 t0 ha ht (vp_in_nI hk hn) hdg ?_
  rw [nI_clamp (Nat.lt_trans hk hn)]
  exact kk
theorem fh_bast (hexec : p.tables.exec = Jvm.exec) (hb : c.code = cc) (hK : va_K D cl tys s) (hP : va_P D cl ws H) (hD : va_D A ws) (hS : va_S A H0 H locs) (q0 t0 : Nat) {cA : ClassId} {n k : Nat} {f : Nat → Int32} (ha : ws[q0]? = some (a, .inl (cA, n, .inl f))) (ht : tys[t0]? = some (cA, .byte)) {x : Int32} (hk : k < n) (hn : n < 2 ^ 31) (hdg : decode cc pc = .ok (.bastore, 1))
    (kk : ∀ (H1 : Heap) (locs1 : List Loc), va_P D cl (ws.set q0 (a, .inl (cA, n, .inl (upd f k (vp_nar .byte x))))) H1 → va_D A (ws.set q0 (a, .inl (cA, n, .inl (upd f k (vp_nar .byte x))))) → va_S A H0 H1 locs1 → W p l e R s m args below meth c H1 locs1 cells slots Q (F0 m (pc + 1) ls rest)) : W p l e R s m args below meth c H locs cells slots Q (F0 m pc ls (.int x :: .int (nI k) :: .ref a :: rest)) := by
  refine va_bast hexec hb hK hP hD hS q0 t0 ha ht (vp_in_nI hk hn) hdg ?_
  rw [nI_clamp (Nat.lt_trans hk hn)]
  exact kk
theorem fh_zast (hexec : p.tables.exec = Jvm.exec) (hb : c.code = cc) (hK : va_K D cl tys s) (hP : va_P D cl ws H) (hD : va_D A ws) (hS : va_S A H0 H locs) (q0 t0 : Nat) {cA : ClassId} {n k : Nat} {f : Nat → Int32} (ha : ws[q0]? = some (a, .inl (cA, n, .inl f))) (ht : tys[t0]? = some (cA, .boolean)) {x : Int32} (hx : vp_nar .boolean x = x) (hk : k < n) (hn : n < 2 ^ 31) (hdg : decode cc pc = .ok (.bastore, 1))
    (kk : ∀ (H1 : Heap) (locs1 : List Loc), va_P D cl (ws.set q0 (a, .inl (cA, n, .inl (upd f k x)))) H1 → va_D A (ws.set q0 (a, .inl (cA, n, .inl (upd f k x)))) → va_S A H0 H1 locs1 → W p l e R s m args below meth c H1 locs1 cells slots Q (F0 m (pc + 1) ls rest)) : W p l e R s m args below meth c H locs cells slots Q (F0 m pc ls (.int x :: .int (nI k) :: .ref a :: rest)) := by
  refine va_zast hexec hb hK hP hD hS q0 t0 ha ht (vp_in_nI hk hn) hdg ?_
  rw [nI_clamp (Nat.lt_trans hk hn), hx]
  exact kk
end FK4
end
section
/-! the worlds: a datagram, the house, the reference -/
section FS
variable {p : Program} {l : Launch} {e : Env} {R : Room} {s : State} {m : MethodId} {args : Array Value} {below : List Frame} {meth : Method} {c : Code} {cells slots : Nat} {Q : State → Prop} {locs : List Loc}
theorem fh_start {g : JFrame} (k : ∀ H : Heap, H = s.heap → W p l e R s m args below meth c H locs cells slots Q g) : W p l e R s m args below meth c s.heap locs cells slots Q g := k s.heap rfl
end FS
/-- a datagram of the class: its ints by the number of the field, its cells -/
abbrev Dg : Type := (Nat → Int32) × (Nat → Int32)
abbrev fD (c : Nat) (f : Nat → Int32) : List Value := [.ref c, .int (f 1), .int (f 2), .int (f 3), .int (f 4), .int (f 5), .int (f 6), .int (f 7), .int (f 8)]
abbrev eD (c : Nat) (f : Nat → Int32) : va_E := .inr (0, fD c f)
abbrev eI (cI : ClassId) (n : Nat) (x : Nat → Int32) : va_E := .inl (cI, n, .inl x)
abbrev wD (cI : ClassId) (h c : Nat) (f x : Nat → Int32) : va_W := [(h, eD c f), (c, eI cI 4096 x)]
abbrev wDs (cI : ClassId) (h c t : Nat) (f x T : Nat → Int32) : va_W := [(h, eD c f), (c, eI cI 4096 x), (t, eI cI 1480 T)]
abbrev tDg : FieldType := .object "FragmentHouse$Datagram"
/-- the house: h itself, tr its tray, sl its slots, dw and cw the latest whole one and its cells, D i and C i those of slot i -/
def wH (cI cS : ClassId) (h tr sl dw cw : Nat) (D C : Nat → Nat) (T : Nat → Int32) (n wc nw : Int32) (ds : Nat → Dg) (wd : Dg) : va_W :=
  [(h, .inr (1, [.ref tr, .ref sl, .ref dw, .int n, .int wc, .int nw])), (tr, eI cI 1480 T), (sl, .inl (cS, 4, .inr (.inr (.inr (.inr (fun j => some (D j))))))), (dw, eD cw wd.1), (cw, eI cI 4096 wd.2),
   (D 0, eD (C 0) (ds 0).1), (C 0, eI cI 4096 (ds 0).2), (D 1, eD (C 1) (ds 1).1), (C 1, eI cI 4096 (ds 1).2), (D 2, eD (C 2) (ds 2).1), (C 2, eI cI 4096 (ds 2).2), (D 3, eD (C 3) (ds 3).1), (C 3, eI cI 4096 (ds 3).2)]
section WH
variable {cI cS : ClassId} {h tr sl dw cw : Nat} {D C : Nat → Nat} {T : Nat → Int32} {n wc nw : Int32} {ds : Nat → Dg} {wd : Dg} {i : Nat}
theorem lt4 (hi : i < 4) : i = 0 ∨ i = 1 ∨ i = 2 ∨ i = 3 := by omega
theorem wH_o (hi : i < 4) : (wH cI cS h tr sl dw cw D C T n wc nw ds wd)[5 + 2 * i]? = some (D i, eD (C i) (ds i).1) := by
  rcases lt4 hi with rfl | rfl | rfl | rfl <;> rfl
theorem wH_so (hi : i < 4) (f : Nat → Int32) : (wH cI cS h tr sl dw cw D C T n wc nw ds wd).set (5 + 2 * i) (D i, eD (C i) f) = wH cI cS h tr sl dw cw D C T n wc nw (va_up ds i (f, (ds i).2)) wd := by
  rcases lt4 hi with rfl | rfl | rfl | rfl <;> rfl
/-- slot i's two cells out, and back -/
theorem wH_cut (hi : i < 4) : ∃ (wr : va_W) (isC isR isB : List Nat), va_nd isC = true ∧ isC.map (fun k => (wH cI cS h tr sl dw cw D C T n wc nw ds wd)[k]?) = (wD cI (D i) (C i) (ds i).1 (ds i).2).map some ∧ isR.map (fun k => (wH cI cS h tr sl dw cw D C T n wc nw ds wd)[k]?) = wr.map some ∧ va_nd isR = true ∧ (∀ k ∈ isR, k ∉ isC) ∧ va_nd isB = true ∧ ∀ (f x : Nat → Int32), isB.map (fun k => (wr ++ wD cI (D i) (C i) f x)[k]?) = (wH cI cS h tr sl dw cw D C T n wc nw (va_up ds i (f, x)) wd).map some := by
  rcases lt4 hi with rfl | rfl | rfl | rfl
  · exact ⟨[0, 1, 2, 3, 4, 7, 8, 9, 10, 11, 12].filterMap (fun k => (wH cI cS h tr sl dw cw D C T n wc nw ds wd)[k]?), [5, 6], [0, 1, 2, 3, 4, 7, 8, 9, 10, 11, 12], [0, 1, 2, 3, 4, 11, 12, 5, 6, 7, 8, 9, 10], by decide, rfl, rfl, by decide, by decide, by decide, fun _ _ => rfl⟩
  · exact ⟨[0, 1, 2, 3, 4, 5, 6, 9, 10, 11, 12].filterMap (fun k => (wH cI cS h tr sl dw cw D C T n wc nw ds wd)[k]?), [7, 8], [0, 1, 2, 3, 4, 5, 6, 9, 10, 11, 12], [0, 1, 2, 3, 4, 5, 6, 11, 12, 7, 8, 9, 10], by decide, rfl, rfl, by decide, by decide, by decide, fun _ _ => rfl⟩
  · exact ⟨[0, 1, 2, 3, 4, 5, 6, 7, 8, 11, 12].filterMap (fun k => (wH cI cS h tr sl dw cw D C T n wc nw ds wd)[k]?), [9, 10], [0, 1, 2, 3, 4, 5, 6, 7, 8, 11, 12], [0, 1, 2, 3, 4, 5, 6, 7, 8, 11, 12, 9, 10], by decide, rfl, rfl, by decide, by decide, by decide, fun _ _ => rfl⟩
  · exact ⟨[0, 1, 2, 3, 4, 5, 6, 7, 8, 9, 10].filterMap (fun k => (wH cI cS h tr sl dw cw D C T n wc nw ds wd)[k]?), [11, 12], [0, 1, 2, 3, 4, 5, 6, 7, 8, 9, 10], [0, 1, 2, 3, 4, 5, 6, 7, 8, 9, 10, 11, 12], by decide, rfl, rfl, by decide, by decide, by decide, fun _ _ => rfl⟩
/-- slot i's two cells and the tray out, and back -/
theorem wH_cutT (hi : i < 4) : ∃ (wr : va_W) (isC isR isB : List Nat), va_nd isC = true ∧ isC.map (fun k => (wH cI cS h tr sl dw cw D C T n wc nw ds wd)[k]?) = (wDs cI (D i) (C i) tr (ds i).1 (ds i).2 T).map some ∧ isR.map (fun k => (wH cI cS h tr sl dw cw D C T n wc nw ds wd)[k]?) = wr.map some ∧ va_nd isR = true ∧ (∀ k ∈ isR, k ∉ isC) ∧ va_nd isB = true ∧ ∀ (f x : Nat → Int32), isB.map (fun k => (wr ++ wDs cI (D i) (C i) tr f x T)[k]?) = (wH cI cS h tr sl dw cw D C T n wc nw (va_up ds i (f, x)) wd).map some := by
  rcases lt4 hi with rfl | rfl | rfl | rfl
  · exact ⟨[0, 2, 3, 4, 7, 8, 9, 10, 11, 12].filterMap (fun k => (wH cI cS h tr sl dw cw D C T n wc nw ds wd)[k]?), [5, 6, 1], [0, 2, 3, 4, 7, 8, 9, 10, 11, 12], [0, 12, 1, 2, 3, 10, 11, 4, 5, 6, 7, 8, 9], by decide, rfl, rfl, by decide, by decide, by decide, fun _ _ => rfl⟩
  · exact ⟨[0, 2, 3, 4, 5, 6, 9, 10, 11, 12].filterMap (fun k => (wH cI cS h tr sl dw cw D C T n wc nw ds wd)[k]?), [7, 8, 1], [0, 2, 3, 4, 5, 6, 9, 10, 11, 12], [0, 12, 1, 2, 3, 4, 5, 10, 11, 6, 7, 8, 9], by decide, rfl, rfl, by decide, by decide, by decide, fun _ _ => rfl⟩
  · exact ⟨[0, 2, 3, 4, 5, 6, 7, 8, 11, 12].filterMap (fun k => (wH cI cS h tr sl dw cw D C T n wc nw ds wd)[k]?), [9, 10, 1], [0, 2, 3, 4, 5, 6, 7, 8, 11, 12], [0, 12, 1, 2, 3, 4, 5, 6, 7, 10, 11, 8, 9], by decide, rfl, rfl, by decide, by decide, by decide, fun _ _ => rfl⟩
  · exact ⟨[0, 2, 3, 4, 5, 6, 7, 8, 9, 10].filterMap (fun k => (wH cI cS h tr sl dw cw D C T n wc nw ds wd)[k]?), [11, 12, 1], [0, 2, 3, 4, 5, 6, 7, 8, 9, 10], [0, 12, 1, 2, 3, 4, 5, 6, 7, 8, 9, 10, 11], by decide, rfl, rfl, by decide, by decide, by decide, fun _ _ => rfl⟩
end WH
/-- the reference: a 0 itself, a 1 .. a 9 its rows -/
def wM (cI cB cZ : ClassId) (a : Nat → Nat) (T se id pr en be th bs wh : Nat → Int32) (n len md nw : Int32) : va_W :=
  [(a 0, .inr (2, [.ref (a 1), .int n, .ref (a 2), .ref (a 3), .ref (a 4), .ref (a 5), .ref (a 6), .ref (a 7), .ref (a 8), .ref (a 9), .int len, .int md, .int nw])), (a 1, .inl (cB, 1480, .inl T)), (a 2, eI cI 4 se), (a 3, eI cI 4 id), (a 4, eI cI 4 pr), (a 5, eI cI 4 en), (a 6, eI cI 4 be), (a 7, .inl (cZ, 4, .inl th)), (a 8, eI cI 16384 bs), (a 9, eI cI 4096 wh)]
end
section
/-! the datagram's methods -/
def Ctr (f : Nat → Int32) (r l : Int32) : Prop := (f 6 ≠ -1 ∧ (f 6 < r ∨ (l ≠ 0 ∧ r ≠ f 6))) ∨ (l ≠ 0 ∧ r < f 7)
def nR (f : Nat → Int32) (r l : Int32) : Nat → Int32 := if l = 0 then upd f 7 (if f 7 < r then r else f 7) else upd (upd f 7 (if f 7 < r then r else f 7)) 6 r
def bg (f : Nat → Int32) (s i p t : Int32) : Nat → Int32 := upd (upd (upd (upd (upd (upd (upd (upd f 1 1) 2 s) 3 i) 4 p) 5 t) 6 (-1)) 7 0) 8 0
/-- the bytes T of k places from st on, put where nothing is -/
def pt (x : Nat → Int32) (st k : Nat) (T : Nat → Int32) : Nat → Int32 := fun j => if st ≤ j ∧ j < st + k ∧ x j = -1 then T (j - st) else x j
/-- how many of the k places from st on are empty -/
def cn (x : Nat → Int32) (st : Nat) : Nat → Nat
  | 0 => 0
  | k + 1 => cn x st k + (if x (st + k) = -1 then 1 else 0)
theorem pt_0 (x : Nat → Int32) (st : Nat) (T : Nat → Int32) : pt x st 0 T = x := by
  funext j
  unfold pt
  rw [if_neg (by omega)]
theorem pt_at {x : Nat → Int32} {st i : Nat} {T : Nat → Int32} : pt x st i T (st + i) = x (st + i) := by
  unfold pt
  rw [if_neg (by omega)]
theorem pt_s1 {x : Nat → Int32} {st i : Nat} {T : Nat → Int32} (h : pt x st i T (st + i) = -1) : upd (pt x st i T) (st + i) (T i) = pt x st (i + 1) T := by
  rw [pt_at] at h
  funext j
  unfold upd pt
  by_cases hj : j = st + i
  · subst hj
    rw [if_pos rfl, if_pos ⟨by omega, by omega, h⟩, show st + i - st = i by omega]
  · rw [if_neg hj]
    by_cases hc : st ≤ j ∧ j < st + i ∧ x j = -1
    · rw [if_pos hc, if_pos ⟨hc.1, by omega, hc.2.2⟩]
    · rw [if_neg hc, if_neg (fun q => hc ⟨q.1, by omega, q.2.2⟩)]
theorem pt_s2 {x : Nat → Int32} {st i : Nat} {T : Nat → Int32} (h : ¬ pt x st i T (st + i) = -1) : pt x st i T = pt x st (i + 1) T := by
  rw [pt_at] at h
  funext j
  unfold pt
  by_cases hc : st ≤ j ∧ j < st + i ∧ x j = -1
  · rw [if_pos hc, if_pos ⟨hc.1, by omega, hc.2.2⟩]
  · rw [if_neg hc, if_neg (fun q => hc ⟨q.1, by
      have h1 : j ≠ st + i := fun z => h (z ▸ q.2.2)
      omega, q.2.2⟩)]
theorem cn_s1 {x : Nat → Int32} {st i : Nat} {T : Nat → Int32} (h : pt x st i T (st + i) = -1) : cn x st (i + 1) = cn x st i + 1 := by
  rw [pt_at] at h
  simp [cn, h]
theorem cn_s2 {x : Nat → Int32} {st i : Nat} {T : Nat → Int32} (h : ¬ pt x st i T (st + i) = -1) : cn x st (i + 1) = cn x st i := by
  rw [pt_at] at h
  simp [cn, h]
theorem up_0 (f : Nat → Int32) (k : Nat) : upd f k (f k + nI 0) = f := by
  funext j
  unfold upd
  by_cases hj : j = k
  · subst hj
    rw [if_pos rfl, nI_0, Int32.add_zero]
  · rw [if_neg hj]
theorem up_s (f : Nat → Int32) (k a : Nat) : upd (upd f k (f k + nI a)) k ((upd f k (f k + nI a)) k + 1) = upd f k (f k + nI (a + 1)) := by
  funext j
  unfold upd
  by_cases hj : j = k
  · subst hj
    rw [if_pos rfl, if_pos rfl, if_pos rfl, Int32.add_assoc, nI_1]
  · rw [if_neg hj, if_neg hj, if_neg hj]
set_option maxHeartbeats 4000000 in
set_option maxRecDepth 100000 in
/-- Arrays.fill: every place holds v -/
theorem c_fill (l : Launch) (dC : Nat → ClassId) (dI : Nat → Nat → Nat) (cI : ClassId) (a n : Nat) (x : Nat → Int32) (v : Int32) (sz : Nat) (hn : n < 2 ^ 31) : Met l yJ7_fill_53178 wsJ7_fill_53178 ({ frames := 0, cells := 0, slots := 0, locals := 0 }) (va_Pc [.ref a, .int v] (PW (dC, dI) vwCl [(cI, .int)] ([(a, eI cI n x)]) sz)) (va_Qv (S := Nat → Int32) (fun u => ∀ j, j < n → u j = v) (QW (dC, dI) vwCl (fun _ => [(cI, .int)]) (va_A ([(a, eI cI n x)]) sz) (fun u => [(a, eI cI n u)])) (va_A ([(a, eI cI n x)]) sz)) 0 0 (va_A ([(a, eI cI n x)]) sz) := by
  refine Met.ofW (cc := cJ7_fill_53178) (maxL := 4) (ret := none) (by decide) rfl ?_
  intro p e s m args below meth c s₁ B hml hv
  obtain ⟨rfl, hsz, hP, hK, hD0⟩ := hv
  have hx := B.exec
  have hb := B.bytes
  have hr := B.returns
  have hts := atoms_spec (ws := wsJ7_fill_53178) B.pre
  have hown : s.vm.findClass RJ7 = some m.cls := findClass_of_methodNamed B.named
  have hlocks := B.notSynchronized
  subst hsz
  have hD := hD0.self (sz := s.heap.size)
  generalize hAe : va_A ([(a, eI cI n x)]) s.heap.size = A at hD ⊢
  have hA : ∀ q : Nat, s.heap.size ≤ q → A q := fun q h => by rw [← hAe]; exact Or.inr h
  have hS : va_S A s.heap s.heap [] := va_S.rf
  have hl := lv_entry ([.ref a, .int v]) (n := 4) (Nat.le_of_ble_eq_true rfl)
  rw [lg_entry_eq]
  generalize (lg_sl ([.ref a, .int v]) ++ List.replicate (4 - (lg_sl ([.ref a, .int v])).length) Slot.unset).toArray = ls at hl ⊢
  have hl : lv_has ls 4 [(0, .ref a), (1, .int v)] := hl
  refine fh_start (fun H hH => ?_)
  have hP : va_P (dC, dI) vwCl ([(a, eI cI n x)]) H := by rw [hH]; exact hP
  have hS : va_S A s.heap H [] := by rw [hH]; exact va_S.rf
  refine lv_iconst (v := nI 0) hx hb dJ7_fill_53178_0 (by decide) ?_
  refine lv_istore_n (lv' := [(2, .int (nI 0)), (0, .ref a), (1, .int v)]) hx hb dJ7_fill_53178_1 rfl hl (by decide) rfl (fun ls hl => ?_)
  refine lv_aload_n hx hb dJ7_fill_53178_2 rfl (lv_at hl 1 rfl) ?_
  refine va_alen (v := nI n) hx hb hK hP 0 0 rfl rfl rfl dJ7_fill_53178_3 ?_
  refine lv_istore_n (lv' := [(3, .int (nI n)), (2, .int (nI 0)), (0, .ref a), (1, .int v)]) hx hb dJ7_fill_53178_4 rfl hl (by decide) rfl (fun ls hl => ?_)
  refine fh_loop (σ := Nat × (Nat → Int32)) (fun q9 H locs ls => (q9.1 ≤ n) ∧ (∀ j, j < q9.1 → q9.2 j = v) ∧ va_P (dC, dI) vwCl ([(a, eI cI n q9.2)]) H ∧ va_D A ([(a, eI cI n q9.2)]) ∧ va_S A s.heap H locs ∧ lv_has ls 4 [(0, .ref a), (1, .int v), (2, .int (nI q9.1)), (3, .int (nI n))]) (fun q9 => n - q9.1) ?_ (0, x) ⟨Nat.zero_le _, fun j h => absurd h (Nat.not_lt_zero _), hP, hD, hS, lv_sub hl [2, 3, 1, 0] rfl⟩
  intro q9 H locs ls hI ih
  obtain ⟨k, x⟩ := q9
  obtain ⟨hk, hv, hP, hD, hS, hl⟩ : (k ≤ n) ∧ (∀ j, j < k → x j = v) ∧ va_P (dC, dI) vwCl ([(a, eI cI n x)]) H ∧ va_D A ([(a, eI cI n x)]) ∧ va_S A s.heap H locs ∧ lv_has ls 4 [(0, .ref a), (1, .int v), (2, .int (nI k)), (3, .int (nI n))] := hI
  refine lv_iload_n hx hb dJ7_fill_53178_5 rfl (lv_at hl 2 rfl) ?_
  refine lv_iload_n hx hb dJ7_fill_53178_6 rfl (lv_at hl 3 rfl) ?_
  refine lv_icmp_ge (tgt := 20) hx hb dJ7_fill_53178_7 (by decide) (fun c7 => ?_) (fun c7 => ?_)
  · skip
    have hge : n ≤ k := (nI_leI hn (by omega)).mp c7
    exact W.vret hx hb hr (fh_qv x (fun j h => hv j (by omega)) hP hK hD hS) hS.2.2 dJ7_fill_53178_20
  · skip
    have hlt : k < n := Nat.lt_of_not_le (fun h => c7 (nI_le h (by omega)))
    refine lv_aload_n hx hb dJ7_fill_53178_10 rfl (lv_at hl 0 rfl) ?_
    refine lv_iload_n hx hb dJ7_fill_53178_11 rfl (lv_at hl 2 rfl) ?_
    refine lv_iload_n hx hb dJ7_fill_53178_12 rfl (lv_at hl 1 rfl) ?_
    refine fh_iast (k := k) hx hb hK hP hD hS 0 0 rfl rfl hlt (by first | decide | omega) dJ7_fill_53178_13 (fun H locs hP hD hS => ?_)
    have hP : va_P (dC, dI) vwCl ([(a, eI cI n (upd x k v))]) H := hP
    have hD : va_D A ([(a, eI cI n (upd x k v))]) := hD
    refine lv_iinc (v := (nI (k + 1))) (lv' := [(2, .int (nI (k + 1))), (0, .ref a), (1, .int v), (3, .int (nI n))]) hx hb dJ7_fill_53178_14 hl (k := 2) rfl (nI_1 k) (by decide) rfl (fun ls hl => ?_)
    refine lv_goto (tgt := 5) hx hb dJ7_fill_53178_17 (by decide) ?_
    exact ih (k + 1, upd x k v) _ _ _ ⟨hlt, lt_s (fun j h => (pk_un (Nat.ne_of_lt h)).trans (hv j h)) pk_us, hP, hD, hS, lv_sub hl [1, 2, 0, 3] rfl⟩ (by show n - (k + 1) < n - k; omega)
set_option maxHeartbeats 4000000 in
set_option maxRecDepth 100000 in
/-- isOf: is it of that sender, identification and protocol -/
theorem c_isOf (l : Launch) (dC : Nat → ClassId) (dI : Nat → Nat → Nat) (cI : ClassId) (h c0 : Nat) (f x : Nat → Int32) (p1 p2 p3 : Int32) (sz : Nat)  : Met l yX0_isOf wsX0_isOf ({ frames := 0, cells := 0, slots := 0, locals := 0 }) (va_Pc [.ref h, .int p1, .int p2, .int p3] (PW (dC, dI) vwCl [(cI, .int)] (wD cI h c0 f x) sz)) (va_Qi (S := Unit) (fun r _ => (r = 1 ∧ f 2 = p1 ∧ f 3 = p2 ∧ f 4 = p3) ∨ (r = 0 ∧ ¬ (f 2 = p1 ∧ f 3 = p2 ∧ f 4 = p3))) (QW (dC, dI) vwCl (fun _ => [(cI, .int)]) (va_A (wD cI h c0 f x) sz) (fun _ => wD cI h c0 f x)) (va_A (wD cI h c0 f x) sz)) 0 0 (va_A (wD cI h c0 f x) sz) := by
  refine Met.ofW (cc := cX0_isOf) (maxL := 4) (ret := (some .boolean)) (by decide) rfl ?_
  intro p e s m args below meth c s₁ B hml hv
  obtain ⟨rfl, hsz, hP, hK, hD0⟩ := hv
  have hx := B.exec
  have hb := B.bytes
  have hr := B.returns
  have hts := atoms_spec (ws := wsX0_isOf) B.pre
  have hown : s.vm.findClass RX0 = some m.cls := findClass_of_methodNamed B.named
  have hlocks := B.notSynchronized
  subst hsz
  have hD := hD0.self (sz := s.heap.size)
  generalize hAe : va_A (wD cI h c0 f x) s.heap.size = A at hD ⊢
  have hA : ∀ q : Nat, s.heap.size ≤ q → A q := fun q h => by rw [← hAe]; exact Or.inr h
  have hS : va_S A s.heap s.heap [] := va_S.rf
  have hl := lv_entry ([.ref h, .int p1, .int p2, .int p3]) (n := 4) (Nat.le_of_ble_eq_true rfl)
  rw [lg_entry_eq]
  generalize (lg_sl ([.ref h, .int p1, .int p2, .int p3]) ++ List.replicate (4 - (lg_sl ([.ref h, .int p1, .int p2, .int p3])).length) Slot.unset).toArray = ls at hl ⊢
  have hl : lv_has ls 4 [(0, .ref h), (1, .int p1), (2, .int p2), (3, .int p3)] := hl
  refine fh_start (fun H hH => ?_)
  have hP : va_P (dC, dI) vwCl (wD cI h c0 f x) H := by rw [hH]; exact hP
  have hS : va_S A s.heap H [] := by rw [hH]; exact va_S.rf
  refine lv_aload_n hx hb dX0_isOf_0 rfl (lv_at hl 0 rfl) ?_
  refine va_get (D := (dC, dI)) (ci := 0) (v := .int (f 2)) (C := RX0) (T := TX0) (N := 9) hx hb hts (by decide +kernel) hown hK hP 0 rfl rfl 2 (by decide) (hts (.fieldLink RX0 29 "FragmentHouse$Datagram" "sender" "I") (by decide +kernel)) (fun _ h9 => h9) rfl dX0_isOf_1 ?_
  refine lv_iload_n hx hb dX0_isOf_4 rfl (lv_at hl 1 rfl) ?_
  refine lv_icmp_ne (tgt := 28) hx hb dX0_isOf_5 (by decide) (fun c5 => ?_) (fun c5 => ?_)
  · skip
    refine lv_iconst (v := 0) hx hb dX0_isOf_28 (by decide) ?_
    exact W.zret hx hb hr rfl (fh_qi () (Or.inr ⟨rfl, fun q => c5 q.1⟩) hP hK hD hS) hS.2.2 dX0_isOf_29
  · skip
    refine lv_aload_n hx hb dX0_isOf_8 rfl (lv_at hl 0 rfl) ?_
    refine va_get (D := (dC, dI)) (ci := 0) (v := .int (f 3)) (C := RX0) (T := TX0) (N := 9) hx hb hts (by decide +kernel) hown hK hP 0 rfl rfl 3 (by decide) (hts (.fieldLink RX0 32 "FragmentHouse$Datagram" "identification" "I") (by decide +kernel)) (fun _ h9 => h9) rfl dX0_isOf_9 ?_
    refine lv_iload_n hx hb dX0_isOf_12 rfl (lv_at hl 2 rfl) ?_
    refine lv_icmp_ne (tgt := 28) hx hb dX0_isOf_13 (by decide) (fun c13 => ?_) (fun c13 => ?_)
    · skip
      refine lv_iconst (v := 0) hx hb dX0_isOf_28 (by decide) ?_
      exact W.zret hx hb hr rfl (fh_qi () (Or.inr ⟨rfl, fun q => c13 q.2.1⟩) hP hK hD hS) hS.2.2 dX0_isOf_29
    · skip
      refine lv_aload_n hx hb dX0_isOf_16 rfl (lv_at hl 0 rfl) ?_
      refine va_get (D := (dC, dI)) (ci := 0) (v := .int (f 4)) (C := RX0) (T := TX0) (N := 9) hx hb hts (by decide +kernel) hown hK hP 0 rfl rfl 4 (by decide) (hts (.fieldLink RX0 35 "FragmentHouse$Datagram" "protocol" "I") (by decide +kernel)) (fun _ h9 => h9) rfl dX0_isOf_17 ?_
      refine lv_iload_n hx hb dX0_isOf_20 rfl (lv_at hl 3 rfl) ?_
      refine lv_icmp_ne (tgt := 28) hx hb dX0_isOf_21 (by decide) (fun c21 => ?_) (fun c21 => ?_)
      · skip
        refine lv_iconst (v := 0) hx hb dX0_isOf_28 (by decide) ?_
        exact W.zret hx hb hr rfl (fh_qi () (Or.inr ⟨rfl, fun q => c21 q.2.2⟩) hP hK hD hS) hS.2.2 dX0_isOf_29
      · skip
        refine lv_iconst (v := 1) hx hb dX0_isOf_24 (by decide) ?_
        refine lv_goto (tgt := 29) hx hb dX0_isOf_25 (by decide) ?_
        exact W.zret hx hb hr rfl (fh_qi () (Or.inl ⟨rfl, c5, c13, c21⟩) hP hK hD hS) hS.2.2 dX0_isOf_29
set_option maxHeartbeats 4000000 in
set_option maxRecDepth 100000 in
/-- isContradictedBy -/
theorem c_isCon (l : Launch) (dC : Nat → ClassId) (dI : Nat → Nat → Nat) (cI : ClassId) (h c0 : Nat) (f x : Nat → Int32) (p1 p2 : Int32) (sz : Nat)  : Met l yX0_isContradictedBy wsX0_isContradictedBy ({ frames := 0, cells := 0, slots := 0, locals := 0 }) (va_Pc [.ref h, .int p1, .int p2] (PW (dC, dI) vwCl [(cI, .int)] (wD cI h c0 f x) sz)) (va_Qi (S := Unit) (fun r _ => (r = 1 ∧ Ctr f p1 p2) ∨ (r = 0 ∧ ¬ Ctr f p1 p2)) (QW (dC, dI) vwCl (fun _ => [(cI, .int)]) (va_A (wD cI h c0 f x) sz) (fun _ => wD cI h c0 f x)) (va_A (wD cI h c0 f x) sz)) 0 0 (va_A (wD cI h c0 f x) sz) := by
  refine Met.ofW (cc := cX0_isContradictedBy) (maxL := 3) (ret := (some .boolean)) (by decide) rfl ?_
  intro p e s m args below meth c s₁ B hml hv
  obtain ⟨rfl, hsz, hP, hK, hD0⟩ := hv
  have hx := B.exec
  have hb := B.bytes
  have hr := B.returns
  have hts := atoms_spec (ws := wsX0_isContradictedBy) B.pre
  have hown : s.vm.findClass RX0 = some m.cls := findClass_of_methodNamed B.named
  have hlocks := B.notSynchronized
  subst hsz
  have hD := hD0.self (sz := s.heap.size)
  generalize hAe : va_A (wD cI h c0 f x) s.heap.size = A at hD ⊢
  have hA : ∀ q : Nat, s.heap.size ≤ q → A q := fun q h => by rw [← hAe]; exact Or.inr h
  have hS : va_S A s.heap s.heap [] := va_S.rf
  have hl := lv_entry ([.ref h, .int p1, .int p2]) (n := 3) (Nat.le_of_ble_eq_true rfl)
  rw [lg_entry_eq]
  generalize (lg_sl ([.ref h, .int p1, .int p2]) ++ List.replicate (3 - (lg_sl ([.ref h, .int p1, .int p2])).length) Slot.unset).toArray = ls at hl ⊢
  have hl : lv_has ls 3 [(0, .ref h), (1, .int p1), (2, .int p2)] := hl
  refine fh_start (fun H hH => ?_)
  have hP : va_P (dC, dI) vwCl (wD cI h c0 f x) H := by rw [hH]; exact hP
  have hS : va_S A s.heap H [] := by rw [hH]; exact va_S.rf
  refine lv_aload_n hx hb dX0_isContradictedBy_0 rfl (lv_at hl 0 rfl) ?_
  refine va_get (D := (dC, dI)) (ci := 0) (v := .int (f 6)) (C := RX0) (T := TX0) (N := 9) hx hb hts (by decide +kernel) hown hK hP 0 rfl rfl 6 (by decide) (hts (.fieldLink RX0 19 "FragmentHouse$Datagram" "knownEnd" "I") (by decide +kernel)) (fun _ h9 => h9) rfl dX0_isContradictedBy_1 ?_
  refine lv_iconst (v := (-1)) hx hb dX0_isContradictedBy_4 (by decide) ?_
  refine lv_icmp_eq (tgt := 30) hx hb dX0_isContradictedBy_5 (by decide) (fun c5 => ?_) (fun c5 => ?_)
  · skip
    refine lv_iload_n hx hb dX0_isContradictedBy_30 rfl (lv_at hl 2 rfl) ?_
    refine lv_if_eq (tgt := 46) hx hb dX0_isContradictedBy_31 (by decide) (fun c31 => ?_) (fun c31 => ?_)
    · skip
      refine lv_iconst (v := 0) hx hb dX0_isContradictedBy_46 (by decide) ?_
      exact W.zret hx hb hr rfl (fh_qi () (Or.inr ⟨rfl, fun q9 => q9.elim (fun q => q.1 c5) (fun q => q.1 c31)⟩) hP hK hD hS) hS.2.2 dX0_isContradictedBy_47
    · skip
      refine lv_aload_n hx hb dX0_isContradictedBy_34 rfl (lv_at hl 0 rfl) ?_
      refine va_get (D := (dC, dI)) (ci := 0) (v := .int (f 7)) (C := RX0) (T := TX0) (N := 9) hx hb hts (by decide +kernel) hown hK hP 0 rfl rfl 7 (by decide) (hts (.fieldLink RX0 41 "FragmentHouse$Datagram" "farthestReach" "I") (by decide +kernel)) (fun _ h9 => h9) rfl dX0_isContradictedBy_35 ?_
      refine lv_iload_n hx hb dX0_isContradictedBy_38 rfl (lv_at hl 1 rfl) ?_
      refine lv_icmp_le (tgt := 46) hx hb dX0_isContradictedBy_39 (by decide) (fun c39 => ?_) (fun c39 => ?_)
      · skip
        refine lv_iconst (v := 0) hx hb dX0_isContradictedBy_46 (by decide) ?_
        exact W.zret hx hb hr rfl (fh_qi () (Or.inr ⟨rfl, fun q9 => q9.elim (fun q => q.1 c5) (fun q => absurd c39 (Int32.not_le.mpr q.2))⟩) hP hK hD hS) hS.2.2 dX0_isContradictedBy_47
      · skip
        refine lv_iconst (v := 1) hx hb dX0_isContradictedBy_42 (by decide) ?_
        refine lv_goto (tgt := 47) hx hb dX0_isContradictedBy_43 (by decide) ?_
        exact W.zret hx hb hr rfl (fh_qi () (Or.inl ⟨rfl, Or.inr ⟨c31, Int32.not_le.mp c39⟩⟩) hP hK hD hS) hS.2.2 dX0_isContradictedBy_47
  · skip
    refine lv_iload_n hx hb dX0_isContradictedBy_8 rfl (lv_at hl 1 rfl) ?_
    refine lv_aload_n hx hb dX0_isContradictedBy_9 rfl (lv_at hl 0 rfl) ?_
    refine va_get (D := (dC, dI)) (ci := 0) (v := .int (f 6)) (C := RX0) (T := TX0) (N := 9) hx hb hts (by decide +kernel) hown hK hP 0 rfl rfl 6 (by decide) (hts (.fieldLink RX0 19 "FragmentHouse$Datagram" "knownEnd" "I") (by decide +kernel)) (fun _ h9 => h9) rfl dX0_isContradictedBy_10 ?_
    refine lv_icmp_gt (tgt := 28) hx hb dX0_isContradictedBy_13 (by decide) (fun c13 => ?_) (fun c13 => ?_)
    · skip
      refine lv_iconst (v := 1) hx hb dX0_isContradictedBy_28 (by decide) ?_
      exact W.zret hx hb hr rfl (fh_qi () (Or.inl ⟨rfl, Or.inl ⟨c5, Or.inl c13⟩⟩) hP hK hD hS) hS.2.2 dX0_isContradictedBy_29
    · skip
      refine lv_iload_n hx hb dX0_isContradictedBy_16 rfl (lv_at hl 2 rfl) ?_
      refine lv_if_eq (tgt := 30) hx hb dX0_isContradictedBy_17 (by decide) (fun c17 => ?_) (fun c17 => ?_)
      · skip
        refine lv_iload_n hx hb dX0_isContradictedBy_30 rfl (lv_at hl 2 rfl) ?_
        refine lv_if_eq (tgt := 46) hx hb dX0_isContradictedBy_31 (by decide) (fun c31 => ?_) (fun c31 => ?_)
        · skip
          refine lv_iconst (v := 0) hx hb dX0_isContradictedBy_46 (by decide) ?_
          exact W.zret hx hb hr rfl (fh_qi () (Or.inr ⟨rfl, fun q9 => q9.elim (fun q => q.2.elim c13 (fun z => z.1 c17)) (fun q => q.1 c31)⟩) hP hK hD hS) hS.2.2 dX0_isContradictedBy_47
        · skip
          exact absurd c17 c31
      · skip
        refine lv_iload_n hx hb dX0_isContradictedBy_20 rfl (lv_at hl 1 rfl) ?_
        refine lv_aload_n hx hb dX0_isContradictedBy_21 rfl (lv_at hl 0 rfl) ?_
        refine va_get (D := (dC, dI)) (ci := 0) (v := .int (f 6)) (C := RX0) (T := TX0) (N := 9) hx hb hts (by decide +kernel) hown hK hP 0 rfl rfl 6 (by decide) (hts (.fieldLink RX0 19 "FragmentHouse$Datagram" "knownEnd" "I") (by decide +kernel)) (fun _ h9 => h9) rfl dX0_isContradictedBy_22 ?_
        refine lv_icmp_eq (tgt := 30) hx hb dX0_isContradictedBy_25 (by decide) (fun c25 => ?_) (fun c25 => ?_)
        · skip
          refine lv_iload_n hx hb dX0_isContradictedBy_30 rfl (lv_at hl 2 rfl) ?_
          refine lv_if_eq (tgt := 46) hx hb dX0_isContradictedBy_31 (by decide) (fun c31 => ?_) (fun c31 => ?_)
          · skip
            exact absurd c31 c17
          · skip
            refine lv_aload_n hx hb dX0_isContradictedBy_34 rfl (lv_at hl 0 rfl) ?_
            refine va_get (D := (dC, dI)) (ci := 0) (v := .int (f 7)) (C := RX0) (T := TX0) (N := 9) hx hb hts (by decide +kernel) hown hK hP 0 rfl rfl 7 (by decide) (hts (.fieldLink RX0 41 "FragmentHouse$Datagram" "farthestReach" "I") (by decide +kernel)) (fun _ h9 => h9) rfl dX0_isContradictedBy_35 ?_
            refine lv_iload_n hx hb dX0_isContradictedBy_38 rfl (lv_at hl 1 rfl) ?_
            refine lv_icmp_le (tgt := 46) hx hb dX0_isContradictedBy_39 (by decide) (fun c39 => ?_) (fun c39 => ?_)
            · skip
              refine lv_iconst (v := 0) hx hb dX0_isContradictedBy_46 (by decide) ?_
              exact W.zret hx hb hr rfl (fh_qi () (Or.inr ⟨rfl, fun q9 => q9.elim (fun q => q.2.elim c13 (fun z => z.2 c25)) (fun q => absurd c39 (Int32.not_le.mpr q.2))⟩) hP hK hD hS) hS.2.2 dX0_isContradictedBy_47
            · skip
              refine lv_iconst (v := 1) hx hb dX0_isContradictedBy_42 (by decide) ?_
              refine lv_goto (tgt := 47) hx hb dX0_isContradictedBy_43 (by decide) ?_
              exact W.zret hx hb hr rfl (fh_qi () (Or.inl ⟨rfl, Or.inr ⟨c31, Int32.not_le.mp c39⟩⟩) hP hK hD hS) hS.2.2 dX0_isContradictedBy_47
        · skip
          refine lv_iconst (v := 1) hx hb dX0_isContradictedBy_28 (by decide) ?_
          exact W.zret hx hb hr rfl (fh_qi () (Or.inl ⟨rfl, Or.inl ⟨c5, Or.inr ⟨c17, c25⟩⟩⟩) hP hK hD hS) hS.2.2 dX0_isContradictedBy_29
set_option maxHeartbeats 4000000 in
set_option maxRecDepth 100000 in
/-- noteReach -/
theorem c_noteReach (l : Launch) (dC : Nat → ClassId) (dI : Nat → Nat → Nat) (cI : ClassId) (h c0 : Nat) (f x : Nat → Int32) (p1 p2 : Int32) (sz : Nat)  : Met l yX0_noteReach wsX0_noteReach ({ frames := 1, cells := 0, slots := 0, locals := 24 }) (va_Pc [.ref h, .int p1, .int p2] (PW (dC, dI) vwCl [(cI, .int)] (wD cI h c0 f x) sz)) (va_Qv (S := Nat → Int32) (fun u => u = nR f p1 p2) (QW (dC, dI) vwCl (fun _ => [(cI, .int)]) (va_A (wD cI h c0 f x) sz) (fun u => wD cI h c0 u x)) (va_A (wD cI h c0 f x) sz)) 0 0 (va_A (wD cI h c0 f x) sz) := by
  refine Met.ofW (cc := cX0_noteReach) (maxL := 3) (ret := none) (by decide) rfl ?_
  intro p e s m args below meth c s₁ B hml hv
  obtain ⟨rfl, hsz, hP, hK, hD0⟩ := hv
  have hx := B.exec
  have hb := B.bytes
  have hr := B.returns
  have hts := atoms_spec (ws := wsX0_noteReach) B.pre
  have hown : s.vm.findClass RX0 = some m.cls := findClass_of_methodNamed B.named
  have hlocks := B.notSynchronized
  subst hsz
  have hD := hD0.self (sz := s.heap.size)
  generalize hAe : va_A (wD cI h c0 f x) s.heap.size = A at hD ⊢
  have hA : ∀ q : Nat, s.heap.size ≤ q → A q := fun q h => by rw [← hAe]; exact Or.inr h
  have hS : va_S A s.heap s.heap [] := va_S.rf
  have hl := lv_entry ([.ref h, .int p1, .int p2]) (n := 3) (Nat.le_of_ble_eq_true rfl)
  rw [lg_entry_eq]
  generalize (lg_sl ([.ref h, .int p1, .int p2]) ++ List.replicate (3 - (lg_sl ([.ref h, .int p1, .int p2])).length) Slot.unset).toArray = ls at hl ⊢
  have hl : lv_has ls 3 [(0, .ref h), (1, .int p1), (2, .int p2)] := hl
  refine fh_start (fun H hH => ?_)
  have hP : va_P (dC, dI) vwCl (wD cI h c0 f x) H := by rw [hH]; exact hP
  have hS : va_S A s.heap H [] := by rw [hH]; exact va_S.rf
  refine lv_aload_n hx hb dX0_noteReach_0 rfl (lv_at hl 0 rfl) ?_
  refine lv_aload_n hx hb dX0_noteReach_1 rfl (lv_at hl 0 rfl) ?_
  refine va_get (D := (dC, dI)) (ci := 0) (v := .int (f 7)) (C := RX0) (T := TX0) (N := 9) hx hb hts (by decide +kernel) hown hK hP 0 rfl rfl 7 (by decide) (hts (.fieldLink RX0 41 "FragmentHouse$Datagram" "farthestReach" "I") (by decide +kernel)) (fun _ h9 => h9) rfl dX0_noteReach_2 ?_
  refine lv_iload_n hx hb dX0_noteReach_5 rfl (lv_at hl 1 rfl) ?_
  refine va_mmax hx hb (hml.trans hl.1.symm) hown (hts (.methodLink RX0 47 Lib.Math.max.name) (by decide +kernel)) (hts (.static Lib.Math.max.name) (by decide +kernel)) (hts (.initialized "java/lang/Math") (by decide +kernel)) (hts (.code Lib.Math.max.name Lib.Math.max.code 2 (some .int)) (by decide +kernel)) (Nat.le_of_ble_eq_true rfl) (Nat.le_of_ble_eq_true rfl) (Nat.zero_le _) (Nat.zero_le _) dX0_noteReach_6 ?_
  refine va_put (D := (dC, dI)) (ci := 0) (v := .int (if (f 7) < p1 then p1 else (f 7))) (ty := .int) (C := RX0) (T := TX0) (N := 9) hx hb hts (by decide +kernel) tyX0 tyX0_ok nmX0 hown hK hP hD hS 0 rfl rfl 7 (by decide) (hts (.fieldLink RX0 41 "FragmentHouse$Datagram" "farthestReach" "I") (by decide +kernel)) (fun _ h9 => h9) rfl (by decide +kernel) rfl rfl (Nat.le_of_ble_eq_true rfl) dX0_noteReach_9 (fun H locs hP hD hS => ?_)
  have hP : va_P (dC, dI) vwCl (wD cI h c0 (upd f 7 ((if (f 7) < p1 then p1 else (f 7)))) x) H := hP
  have hD : va_D A (wD cI h c0 (upd f 7 ((if (f 7) < p1 then p1 else (f 7)))) x) := hD
  refine lv_iload_n hx hb dX0_noteReach_12 rfl (lv_at hl 2 rfl) ?_
  refine lv_if_eq (tgt := 21) hx hb dX0_noteReach_13 (by decide) (fun c13 => ?_) (fun c13 => ?_)
  · skip
    exact W.vret hx hb hr (fh_qv (upd f 7 ((if (f 7) < p1 then p1 else (f 7)))) (by unfold nR; rw [if_pos c13]) hP hK hD hS) hS.2.2 dX0_noteReach_21
  · skip
    refine lv_aload_n hx hb dX0_noteReach_16 rfl (lv_at hl 0 rfl) ?_
    refine lv_iload_n hx hb dX0_noteReach_17 rfl (lv_at hl 1 rfl) ?_
    refine va_put (D := (dC, dI)) (ci := 0) (v := .int p1) (ty := .int) (C := RX0) (T := TX0) (N := 9) hx hb hts (by decide +kernel) tyX0 tyX0_ok nmX0 hown hK hP hD hS 0 rfl rfl 6 (by decide) (hts (.fieldLink RX0 19 "FragmentHouse$Datagram" "knownEnd" "I") (by decide +kernel)) (fun _ h9 => h9) rfl (by decide +kernel) rfl rfl (Nat.le_of_ble_eq_true rfl) dX0_noteReach_18 (fun H locs hP hD hS => ?_)
    have hP : va_P (dC, dI) vwCl (wD cI h c0 (upd (upd f 7 ((if (f 7) < p1 then p1 else (f 7)))) 6 p1) x) H := hP
    have hD : va_D A (wD cI h c0 (upd (upd f 7 ((if (f 7) < p1 then p1 else (f 7)))) 6 p1) x) := hD
    exact W.vret hx hb hr (fh_qv (upd (upd f 7 ((if (f 7) < p1 then p1 else (f 7)))) 6 p1) (by unfold nR; rw [if_neg c13]) hP hK hD hS) hS.2.2 dX0_noteReach_21
set_option maxHeartbeats 4000000 in
set_option maxRecDepth 100000 in
/-- isWhole -/
theorem c_isWhole (l : Launch) (dC : Nat → ClassId) (dI : Nat → Nat → Nat) (cI : ClassId) (h c0 : Nat) (f x : Nat → Int32) (sz : Nat)  : Met l yX0_isWhole wsX0_isWhole ({ frames := 0, cells := 0, slots := 0, locals := 0 }) (va_Pc [.ref h] (PW (dC, dI) vwCl [(cI, .int)] (wD cI h c0 f x) sz)) (va_Qi (S := Unit) (fun r _ => (r = 1 ∧ f 6 ≠ -1 ∧ f 8 = f 6) ∨ (r = 0 ∧ ¬ (f 6 ≠ -1 ∧ f 8 = f 6))) (QW (dC, dI) vwCl (fun _ => [(cI, .int)]) (va_A (wD cI h c0 f x) sz) (fun _ => wD cI h c0 f x)) (va_A (wD cI h c0 f x) sz)) 0 0 (va_A (wD cI h c0 f x) sz) := by
  refine Met.ofW (cc := cX0_isWhole) (maxL := 1) (ret := (some .boolean)) (by decide) rfl ?_
  intro p e s m args below meth c s₁ B hml hv
  obtain ⟨rfl, hsz, hP, hK, hD0⟩ := hv
  have hx := B.exec
  have hb := B.bytes
  have hr := B.returns
  have hts := atoms_spec (ws := wsX0_isWhole) B.pre
  have hown : s.vm.findClass RX0 = some m.cls := findClass_of_methodNamed B.named
  have hlocks := B.notSynchronized
  subst hsz
  have hD := hD0.self (sz := s.heap.size)
  generalize hAe : va_A (wD cI h c0 f x) s.heap.size = A at hD ⊢
  have hA : ∀ q : Nat, s.heap.size ≤ q → A q := fun q h => by rw [← hAe]; exact Or.inr h
  have hS : va_S A s.heap s.heap [] := va_S.rf
  have hl := lv_entry ([.ref h]) (n := 1) (Nat.le_of_ble_eq_true rfl)
  rw [lg_entry_eq]
  generalize (lg_sl ([.ref h]) ++ List.replicate (1 - (lg_sl ([.ref h])).length) Slot.unset).toArray = ls at hl ⊢
  have hl : lv_has ls 1 [(0, .ref h)] := hl
  refine fh_start (fun H hH => ?_)
  have hP : va_P (dC, dI) vwCl (wD cI h c0 f x) H := by rw [hH]; exact hP
  have hS : va_S A s.heap H [] := by rw [hH]; exact va_S.rf
  refine lv_aload_n hx hb dX0_isWhole_0 rfl (lv_at hl 0 rfl) ?_
  refine va_get (D := (dC, dI)) (ci := 0) (v := .int (f 6)) (C := RX0) (T := TX0) (N := 9) hx hb hts (by decide +kernel) hown hK hP 0 rfl rfl 6 (by decide) (hts (.fieldLink RX0 19 "FragmentHouse$Datagram" "knownEnd" "I") (by decide +kernel)) (fun _ h9 => h9) rfl dX0_isWhole_1 ?_
  refine lv_iconst (v := (-1)) hx hb dX0_isWhole_4 (by decide) ?_
  refine lv_icmp_eq (tgt := 23) hx hb dX0_isWhole_5 (by decide) (fun c5 => ?_) (fun c5 => ?_)
  · skip
    refine lv_iconst (v := 0) hx hb dX0_isWhole_23 (by decide) ?_
    exact W.zret hx hb hr rfl (fh_qi () (Or.inr ⟨rfl, fun q => q.1 c5⟩) hP hK hD hS) hS.2.2 dX0_isWhole_24
  · skip
    refine lv_aload_n hx hb dX0_isWhole_8 rfl (lv_at hl 0 rfl) ?_
    refine va_get (D := (dC, dI)) (ci := 0) (v := .int (f 8)) (C := RX0) (T := TX0) (N := 9) hx hb hts (by decide +kernel) hown hK hP 0 rfl rfl 8 (by decide) (hts (.fieldLink RX0 44 "FragmentHouse$Datagram" "presentCount" "I") (by decide +kernel)) (fun _ h9 => h9) rfl dX0_isWhole_9 ?_
    refine lv_aload_n hx hb dX0_isWhole_12 rfl (lv_at hl 0 rfl) ?_
    refine va_get (D := (dC, dI)) (ci := 0) (v := .int (f 6)) (C := RX0) (T := TX0) (N := 9) hx hb hts (by decide +kernel) hown hK hP 0 rfl rfl 6 (by decide) (hts (.fieldLink RX0 19 "FragmentHouse$Datagram" "knownEnd" "I") (by decide +kernel)) (fun _ h9 => h9) rfl dX0_isWhole_13 ?_
    refine lv_icmp_ne (tgt := 23) hx hb dX0_isWhole_16 (by decide) (fun c16 => ?_) (fun c16 => ?_)
    · skip
      refine lv_iconst (v := 0) hx hb dX0_isWhole_23 (by decide) ?_
      exact W.zret hx hb hr rfl (fh_qi () (Or.inr ⟨rfl, fun q => c16 q.2⟩) hP hK hD hS) hS.2.2 dX0_isWhole_24
    · skip
      refine lv_iconst (v := 1) hx hb dX0_isWhole_19 (by decide) ?_
      refine lv_goto (tgt := 24) hx hb dX0_isWhole_20 (by decide) ?_
      exact W.zret hx hb hr rfl (fh_qi () (Or.inl ⟨rfl, c5, c16⟩) hP hK hD hS) hS.2.2 dX0_isWhole_24
set_option maxHeartbeats 4000000 in
set_option maxRecDepth 100000 in
/-- begin: all cells empty, the fields as given -/
theorem c_begin (l : Launch) (dC : Nat → ClassId) (dI : Nat → Nat → Nat) (cI : ClassId) (h c0 : Nat) (f x : Nat → Int32) (p1 p2 p3 p4 : Int32) (sz : Nat)  : Met l yX0_begin wsX0_begin ({ frames := 1, cells := 0, slots := 0, locals := 24 }) (va_Pc [.ref h, .int p1, .int p2, .int p3, .int p4] (PW (dC, dI) vwCl [(cI, .int)] (wD cI h c0 f x) sz)) (va_Qv (S := (Nat → Int32) × (Nat → Int32)) (fun u => u.1 = bg f p1 p2 p3 p4 ∧ ∀ j, j < 4096 → u.2 j = -1) (QW (dC, dI) vwCl (fun _ => [(cI, .int)]) (va_A (wD cI h c0 f x) sz) (fun u => wD cI h c0 u.1 u.2)) (va_A (wD cI h c0 f x) sz)) 0 0 (va_A (wD cI h c0 f x) sz) := by
  refine Met.ofW (cc := cX0_begin) (maxL := 5) (ret := none) (by decide) rfl ?_
  intro p e s m args below meth c s₁ B hml hv
  obtain ⟨rfl, hsz, hP, hK, hD0⟩ := hv
  have hx := B.exec
  have hb := B.bytes
  have hr := B.returns
  have hts := atoms_spec (ws := wsX0_begin) B.pre
  have hown : s.vm.findClass RX0 = some m.cls := findClass_of_methodNamed B.named
  have hlocks := B.notSynchronized
  subst hsz
  have hD := hD0.self (sz := s.heap.size)
  generalize hAe : va_A (wD cI h c0 f x) s.heap.size = A at hD ⊢
  have hA : ∀ q : Nat, s.heap.size ≤ q → A q := fun q h => by rw [← hAe]; exact Or.inr h
  have hS : va_S A s.heap s.heap [] := va_S.rf
  have hl := lv_entry ([.ref h, .int p1, .int p2, .int p3, .int p4]) (n := 5) (Nat.le_of_ble_eq_true rfl)
  rw [lg_entry_eq]
  generalize (lg_sl ([.ref h, .int p1, .int p2, .int p3, .int p4]) ++ List.replicate (5 - (lg_sl ([.ref h, .int p1, .int p2, .int p3, .int p4])).length) Slot.unset).toArray = ls at hl ⊢
  have hl : lv_has ls 5 [(0, .ref h), (1, .int p1), (2, .int p2), (3, .int p3), (4, .int p4)] := hl
  refine fh_start (fun H hH => ?_)
  have hP : va_P (dC, dI) vwCl (wD cI h c0 f x) H := by rw [hH]; exact hP
  have hS : va_S A s.heap H [] := by rw [hH]; exact va_S.rf
  refine lv_aload_n hx hb dX0_begin_0 rfl (lv_at hl 0 rfl) ?_
  refine va_get (D := (dC, dI)) (ci := 0) (v := .ref c0) (C := RX0) (T := TX0) (N := 9) hx hb hts (by decide +kernel) hown hK hP 0 rfl rfl 0 (by decide) (hts (.fieldLink RX0 9 "FragmentHouse$Datagram" "cells" "[I") (by decide +kernel)) (fun _ h9 => h9) rfl dX0_begin_1 ?_
  refine lv_iconst (v := (-1)) hx hb dX0_begin_4 (by decide) ?_
  have hPc := hP.sub (ws' := [(c0, eI cI 4096 x)]) [1] rfl
  have hDc := hD.sub (ws' := [(c0, eI cI 4096 x)]) [1] (by decide) rfl
  refine fh_cv (wr := [(h, eD c0 f)]) (w2 := fun u => wD cI h c0 f u) (va_runS (As := [.ref c0, .int ((-1))]) (rest := []) ⟨hx, hb, hml, hown, hts⟩ (c_fill l dC dI cI c0 4096 x (-1) H.size (by decide)) (va_cwS 2 hts gX0_begin_J7_fill_53178 rfl rfl rfl (by decide +kernel) ⟨Nat.le_of_ble_eq_true rfl, Nat.le_of_ble_eq_true rfl⟩) (pS_PW hK hPc hDc) rfl rfl hl.1 rfl (lv_room (Nat.le_of_ble_eq_true rfl)) dX0_begin_5 ⟨Nat.zero_le _, Nat.zero_le _⟩) hP hD hS hA [1] [0] [0, 1] rfl rfl (by decide) (by decide) (by decide) (fun _ => rfl) (fun u H locs hw hK hP hD hS => ?_)
  have hP : va_P (dC, dI) vwCl (wD cI h c0 f u) H := hP
  have hD : va_D A (wD cI h c0 f u) := hD
  refine lv_aload_n hx hb dX0_begin_8 rfl (lv_at hl 0 rfl) ?_
  refine lv_iconst (v := 1) hx hb dX0_begin_9 (by decide) ?_
  refine va_put (D := (dC, dI)) (ci := 0) (v := .int 1) (ty := .boolean) (C := RX0) (T := TX0) (N := 9) hx hb hts (by decide +kernel) tyX0 tyX0_ok nmX0 hown hK hP hD hS 0 rfl rfl 1 (by decide) (hts (.fieldLink RX0 15 "FragmentHouse$Datagram" "inMaking" "Z") (by decide +kernel)) (fun _ h9 => h9) rfl (by decide +kernel) rfl rfl (Nat.le_of_ble_eq_true rfl) dX0_begin_10 (fun H locs hP hD hS => ?_)
  have hP : va_P (dC, dI) vwCl (wD cI h c0 (upd f 1 1) u) H := hP
  have hD : va_D A (wD cI h c0 (upd f 1 1) u) := hD
  refine lv_aload_n hx hb dX0_begin_13 rfl (lv_at hl 0 rfl) ?_
  refine lv_iload_n hx hb dX0_begin_14 rfl (lv_at hl 1 rfl) ?_
  refine va_put (D := (dC, dI)) (ci := 0) (v := .int p1) (ty := .int) (C := RX0) (T := TX0) (N := 9) hx hb hts (by decide +kernel) tyX0 tyX0_ok nmX0 hown hK hP hD hS 0 rfl rfl 2 (by decide) (hts (.fieldLink RX0 29 "FragmentHouse$Datagram" "sender" "I") (by decide +kernel)) (fun _ h9 => h9) rfl (by decide +kernel) rfl rfl (Nat.le_of_ble_eq_true rfl) dX0_begin_15 (fun H locs hP hD hS => ?_)
  have hP : va_P (dC, dI) vwCl (wD cI h c0 (upd (upd f 1 1) 2 p1) u) H := hP
  have hD : va_D A (wD cI h c0 (upd (upd f 1 1) 2 p1) u) := hD
  refine lv_aload_n hx hb dX0_begin_18 rfl (lv_at hl 0 rfl) ?_
  refine lv_iload_n hx hb dX0_begin_19 rfl (lv_at hl 2 rfl) ?_
  refine va_put (D := (dC, dI)) (ci := 0) (v := .int p2) (ty := .int) (C := RX0) (T := TX0) (N := 9) hx hb hts (by decide +kernel) tyX0 tyX0_ok nmX0 hown hK hP hD hS 0 rfl rfl 3 (by decide) (hts (.fieldLink RX0 32 "FragmentHouse$Datagram" "identification" "I") (by decide +kernel)) (fun _ h9 => h9) rfl (by decide +kernel) rfl rfl (Nat.le_of_ble_eq_true rfl) dX0_begin_20 (fun H locs hP hD hS => ?_)
  have hP : va_P (dC, dI) vwCl (wD cI h c0 (upd (upd (upd f 1 1) 2 p1) 3 p2) u) H := hP
  have hD : va_D A (wD cI h c0 (upd (upd (upd f 1 1) 2 p1) 3 p2) u) := hD
  refine lv_aload_n hx hb dX0_begin_23 rfl (lv_at hl 0 rfl) ?_
  refine lv_iload_n hx hb dX0_begin_24 rfl (lv_at hl 3 rfl) ?_
  refine va_put (D := (dC, dI)) (ci := 0) (v := .int p3) (ty := .int) (C := RX0) (T := TX0) (N := 9) hx hb hts (by decide +kernel) tyX0 tyX0_ok nmX0 hown hK hP hD hS 0 rfl rfl 4 (by decide) (hts (.fieldLink RX0 35 "FragmentHouse$Datagram" "protocol" "I") (by decide +kernel)) (fun _ h9 => h9) rfl (by decide +kernel) rfl rfl (Nat.le_of_ble_eq_true rfl) dX0_begin_25 (fun H locs hP hD hS => ?_)
  have hP : va_P (dC, dI) vwCl (wD cI h c0 (upd (upd (upd (upd f 1 1) 2 p1) 3 p2) 4 p3) u) H := hP
  have hD : va_D A (wD cI h c0 (upd (upd (upd (upd f 1 1) 2 p1) 3 p2) 4 p3) u) := hD
  refine lv_aload_n hx hb dX0_begin_28 rfl (lv_at hl 0 rfl) ?_
  refine lv_iload hx hb dX0_begin_29 (lv_at hl 4 rfl) ?_
  refine va_put (D := (dC, dI)) (ci := 0) (v := .int p4) (ty := .int) (C := RX0) (T := TX0) (N := 9) hx hb hts (by decide +kernel) tyX0 tyX0_ok nmX0 hown hK hP hD hS 0 rfl rfl 5 (by decide) (hts (.fieldLink RX0 38 "FragmentHouse$Datagram" "firstTime" "I") (by decide +kernel)) (fun _ h9 => h9) rfl (by decide +kernel) rfl rfl (Nat.le_of_ble_eq_true rfl) dX0_begin_31 (fun H locs hP hD hS => ?_)
  have hP : va_P (dC, dI) vwCl (wD cI h c0 (upd (upd (upd (upd (upd f 1 1) 2 p1) 3 p2) 4 p3) 5 p4) u) H := hP
  have hD : va_D A (wD cI h c0 (upd (upd (upd (upd (upd f 1 1) 2 p1) 3 p2) 4 p3) 5 p4) u) := hD
  refine lv_aload_n hx hb dX0_begin_34 rfl (lv_at hl 0 rfl) ?_
  refine lv_iconst (v := (-1)) hx hb dX0_begin_35 (by decide) ?_
  refine va_put (D := (dC, dI)) (ci := 0) (v := .int ((-1))) (ty := .int) (C := RX0) (T := TX0) (N := 9) hx hb hts (by decide +kernel) tyX0 tyX0_ok nmX0 hown hK hP hD hS 0 rfl rfl 6 (by decide) (hts (.fieldLink RX0 19 "FragmentHouse$Datagram" "knownEnd" "I") (by decide +kernel)) (fun _ h9 => h9) rfl (by decide +kernel) rfl rfl (Nat.le_of_ble_eq_true rfl) dX0_begin_36 (fun H locs hP hD hS => ?_)
  have hP : va_P (dC, dI) vwCl (wD cI h c0 (upd (upd (upd (upd (upd (upd f 1 1) 2 p1) 3 p2) 4 p3) 5 p4) 6 (((-1)))) u) H := hP
  have hD : va_D A (wD cI h c0 (upd (upd (upd (upd (upd (upd f 1 1) 2 p1) 3 p2) 4 p3) 5 p4) 6 (((-1)))) u) := hD
  refine lv_aload_n hx hb dX0_begin_39 rfl (lv_at hl 0 rfl) ?_
  refine lv_iconst (v := 0) hx hb dX0_begin_40 (by decide) ?_
  refine va_put (D := (dC, dI)) (ci := 0) (v := .int 0) (ty := .int) (C := RX0) (T := TX0) (N := 9) hx hb hts (by decide +kernel) tyX0 tyX0_ok nmX0 hown hK hP hD hS 0 rfl rfl 7 (by decide) (hts (.fieldLink RX0 41 "FragmentHouse$Datagram" "farthestReach" "I") (by decide +kernel)) (fun _ h9 => h9) rfl (by decide +kernel) rfl rfl (Nat.le_of_ble_eq_true rfl) dX0_begin_41 (fun H locs hP hD hS => ?_)
  have hP : va_P (dC, dI) vwCl (wD cI h c0 (upd (upd (upd (upd (upd (upd (upd f 1 1) 2 p1) 3 p2) 4 p3) 5 p4) 6 (((-1)))) 7 0) u) H := hP
  have hD : va_D A (wD cI h c0 (upd (upd (upd (upd (upd (upd (upd f 1 1) 2 p1) 3 p2) 4 p3) 5 p4) 6 (((-1)))) 7 0) u) := hD
  refine lv_aload_n hx hb dX0_begin_44 rfl (lv_at hl 0 rfl) ?_
  refine lv_iconst (v := 0) hx hb dX0_begin_45 (by decide) ?_
  refine va_put (D := (dC, dI)) (ci := 0) (v := .int 0) (ty := .int) (C := RX0) (T := TX0) (N := 9) hx hb hts (by decide +kernel) tyX0 tyX0_ok nmX0 hown hK hP hD hS 0 rfl rfl 8 (by decide) (hts (.fieldLink RX0 44 "FragmentHouse$Datagram" "presentCount" "I") (by decide +kernel)) (fun _ h9 => h9) rfl (by decide +kernel) rfl rfl (Nat.le_of_ble_eq_true rfl) dX0_begin_46 (fun H locs hP hD hS => ?_)
  have hP : va_P (dC, dI) vwCl (wD cI h c0 (upd (upd (upd (upd (upd (upd (upd (upd f 1 1) 2 p1) 3 p2) 4 p3) 5 p4) 6 (((-1)))) 7 0) 8 0) u) H := hP
  have hD : va_D A (wD cI h c0 (upd (upd (upd (upd (upd (upd (upd (upd f 1 1) 2 p1) 3 p2) 4 p3) 5 p4) 6 (((-1)))) 7 0) 8 0) u) := hD
  exact W.vret hx hb hr (fh_qv (upd (upd (upd (upd (upd (upd (upd (upd f 1 1) 2 p1) 3 p2) 4 p3) 5 p4) 6 (((-1)))) 7 0) 8 0, u) ⟨rfl, hw⟩ hP hK hD hS) hS.2.2 dX0_begin_49
set_option maxHeartbeats 4000000 in
set_option maxRecDepth 100000 in
/-- putIn: the bytes go where none is, and are counted -/
theorem c_putIn (l : Launch) (dC : Nat → ClassId) (dI : Nat → Nat → Nat) (cI : ClassId) (h c0 t : Nat) (f x T : Nat → Int32) (k st : Nat) (sz : Nat) (hk : k ≤ 1480) (hst : st + k ≤ 4096) : Met l yX0_putIn wsX0_putIn ({ frames := 0, cells := 0, slots := 0, locals := 0 }) (va_Pc [.ref h, .ref t, .int (nI k), .int (nI st)] (PW (dC, dI) vwCl [(cI, .int)] (wDs cI h c0 t f x T) sz)) (va_Qv (S := Unit) (fun _ => True) (QW (dC, dI) vwCl (fun _ => [(cI, .int)]) (va_A (wDs cI h c0 t f x T) sz) (fun _ => wDs cI h c0 t (upd f 8 (f 8 + nI (cn x st k))) (pt x st k T) T)) (va_A (wDs cI h c0 t f x T) sz)) 0 0 (va_A (wDs cI h c0 t f x T) sz) := by
  refine Met.ofW (cc := cX0_putIn) (maxL := 5) (ret := none) (by decide) rfl ?_
  intro p e s m args below meth c s₁ B hml hv
  obtain ⟨rfl, hsz, hP, hK, hD0⟩ := hv
  have hx := B.exec
  have hb := B.bytes
  have hr := B.returns
  have hts := atoms_spec (ws := wsX0_putIn) B.pre
  have hown : s.vm.findClass RX0 = some m.cls := findClass_of_methodNamed B.named
  have hlocks := B.notSynchronized
  subst hsz
  have hD := hD0.self (sz := s.heap.size)
  generalize hAe : va_A (wDs cI h c0 t f x T) s.heap.size = A at hD ⊢
  have hA : ∀ q : Nat, s.heap.size ≤ q → A q := fun q h => by rw [← hAe]; exact Or.inr h
  have hS : va_S A s.heap s.heap [] := va_S.rf
  have hl := lv_entry ([.ref h, .ref t, .int (nI k), .int (nI st)]) (n := 5) (Nat.le_of_ble_eq_true rfl)
  rw [lg_entry_eq]
  generalize (lg_sl ([.ref h, .ref t, .int (nI k), .int (nI st)]) ++ List.replicate (5 - (lg_sl ([.ref h, .ref t, .int (nI k), .int (nI st)])).length) Slot.unset).toArray = ls at hl ⊢
  have hl : lv_has ls 5 [(0, .ref h), (1, .ref t), (2, .int (nI k)), (3, .int (nI st))] := hl
  refine fh_start (fun H hH => ?_)
  have hP : va_P (dC, dI) vwCl (wDs cI h c0 t f x T) H := by rw [hH]; exact hP
  have hS : va_S A s.heap H [] := by rw [hH]; exact va_S.rf
  refine lv_iconst (v := nI 0) hx hb dX0_putIn_0 (by decide) ?_
  refine lv_istore (lv' := [(4, .int (nI 0)), (0, .ref h), (1, .ref t), (2, .int (nI k)), (3, .int (nI st))]) hx hb dX0_putIn_1 hl (by decide) rfl (fun ls hl => ?_)
  have hP : va_P (dC, dI) vwCl (wDs cI h c0 t (upd f 8 (f 8 + nI (cn x st 0))) (pt x st 0 T) T) H := by rw [pt_0, show cn x st 0 = 0 from rfl, up_0]; exact hP
  have hD : va_D A (wDs cI h c0 t (upd f 8 (f 8 + nI (cn x st 0))) (pt x st 0 T) T) := by rw [pt_0, show cn x st 0 = 0 from rfl, up_0]; exact hD
  refine fh_loop (σ := Nat) (fun q9 H locs ls => (q9 ≤ k) ∧ va_P (dC, dI) vwCl (wDs cI h c0 t (upd f 8 (f 8 + nI (cn x st q9))) (pt x st q9 T) T) H ∧ va_D A (wDs cI h c0 t (upd f 8 (f 8 + nI (cn x st q9))) (pt x st q9 T) T) ∧ va_S A s.heap H locs ∧ lv_has ls 5 [(0, .ref h), (1, .ref t), (2, .int (nI k)), (3, .int (nI st)), (4, .int (nI q9))]) (fun q9 => k - q9) ?_ (0) ⟨Nat.zero_le _, hP, hD, hS, lv_sub hl [1, 2, 3, 4, 0] rfl⟩
  intro q9 H locs ls hI ih
  obtain ⟨i, rfl⟩ : ∃ z, z = q9 := ⟨_, rfl⟩
  obtain ⟨hi, hP, hD, hS, hl⟩ : (i ≤ k) ∧ va_P (dC, dI) vwCl (wDs cI h c0 t (upd f 8 (f 8 + nI (cn x st i))) (pt x st i T) T) H ∧ va_D A (wDs cI h c0 t (upd f 8 (f 8 + nI (cn x st i))) (pt x st i T) T) ∧ va_S A s.heap H locs ∧ lv_has ls 5 [(0, .ref h), (1, .ref t), (2, .int (nI k)), (3, .int (nI st)), (4, .int (nI i))] := hI
  refine lv_iload hx hb dX0_putIn_3 (lv_at hl 4 rfl) ?_
  refine lv_iload_n hx hb dX0_putIn_5 rfl (lv_at hl 2 rfl) ?_
  refine lv_icmp_ge (tgt := 51) hx hb dX0_putIn_6 (by decide) (fun c6 => ?_) (fun c6 => ?_)
  · skip
    obtain rfl : i = k := Nat.le_antisymm hi ((nI_leI (by omega) (by omega)).mp c6)
    exact W.vret hx hb hr (fh_qv () trivial hP hK hD hS) hS.2.2 dX0_putIn_51
  · skip
    have hlt : i < k := Nat.lt_of_not_le (fun h => c6 (nI_le h (by omega)))
    refine lv_aload_n hx hb dX0_putIn_9 rfl (lv_at hl 0 rfl) ?_
    refine va_get (D := (dC, dI)) (ci := 0) (v := .ref c0) (C := RX0) (T := TX0) (N := 9) hx hb hts (by decide +kernel) hown hK hP 0 rfl rfl 0 (by decide) (hts (.fieldLink RX0 9 "FragmentHouse$Datagram" "cells" "[I") (by decide +kernel)) (fun _ h9 => h9) rfl dX0_putIn_10 ?_
    refine lv_iload_n hx hb dX0_putIn_13 rfl (lv_at hl 3 rfl) ?_
    refine lv_iload hx hb dX0_putIn_14 (lv_at hl 4 rfl) ?_
    refine lv_iadd hx hb dX0_putIn_16 ?_
    refine fh_top (y := nI (st + i)) (nI_add st i) ?_
    refine fh_iald (k := (st + i)) hx hb hK hP 1 0 rfl rfl (by omega) (by first | decide | omega) dX0_putIn_17 ?_
    refine lv_iconst (v := (-1)) hx hb dX0_putIn_18 (by decide) ?_
    refine lv_icmp_ne (tgt := 45) hx hb dX0_putIn_19 (by decide) (fun c19 => ?_) (fun c19 => ?_)
    · skip
      refine lv_iinc (v := (nI (i + 1))) (lv' := [(4, .int (nI (i + 1))), (0, .ref h), (1, .ref t), (2, .int (nI k)), (3, .int (nI st))]) hx hb dX0_putIn_45 hl (k := 4) rfl (nI_1 i) (by decide) rfl (fun ls hl => ?_)
      refine lv_goto (tgt := 3) hx hb dX0_putIn_48 (by decide) ?_
      have hP : va_P (dC, dI) vwCl (wDs cI h c0 t (upd f 8 (f 8 + nI (cn x st (i + 1)))) (pt x st (i + 1) T) T) H := by rw [← pt_s2 c19, cn_s2 c19]; exact hP
      have hD : va_D A (wDs cI h c0 t (upd f 8 (f 8 + nI (cn x st (i + 1)))) (pt x st (i + 1) T) T) := by rw [← pt_s2 c19, cn_s2 c19]; exact hD
      exact ih (i + 1) _ _ _ ⟨hlt, hP, hD, hS, lv_sub hl [1, 2, 3, 4, 0] rfl⟩ (by show k - (i + 1) < k - i; omega)
    · skip
      refine lv_aload_n hx hb dX0_putIn_22 rfl (lv_at hl 0 rfl) ?_
      refine va_get (D := (dC, dI)) (ci := 0) (v := .ref c0) (C := RX0) (T := TX0) (N := 9) hx hb hts (by decide +kernel) hown hK hP 0 rfl rfl 0 (by decide) (hts (.fieldLink RX0 9 "FragmentHouse$Datagram" "cells" "[I") (by decide +kernel)) (fun _ h9 => h9) rfl dX0_putIn_23 ?_
      refine lv_iload_n hx hb dX0_putIn_26 rfl (lv_at hl 3 rfl) ?_
      refine lv_iload hx hb dX0_putIn_27 (lv_at hl 4 rfl) ?_
      refine lv_iadd hx hb dX0_putIn_29 ?_
      refine fh_top (y := nI (st + i)) (nI_add st i) ?_
      refine lv_aload_n hx hb dX0_putIn_30 rfl (lv_at hl 1 rfl) ?_
      refine lv_iload hx hb dX0_putIn_31 (lv_at hl 4 rfl) ?_
      refine fh_iald (k := i) hx hb hK hP 2 0 rfl rfl (by omega) (by first | decide | omega) dX0_putIn_33 ?_
      refine fh_iast (k := (st + i)) hx hb hK hP hD hS 1 0 rfl rfl (by omega) (by first | decide | omega) dX0_putIn_34 (fun H locs hP hD hS => ?_)
      have hP : va_P (dC, dI) vwCl (wDs cI h c0 t (upd f 8 (f 8 + nI (cn x st i))) (upd ((pt x st i T)) ((st + i)) ((T i))) T) H := hP
      have hD : va_D A (wDs cI h c0 t (upd f 8 (f 8 + nI (cn x st i))) (upd ((pt x st i T)) ((st + i)) ((T i))) T) := hD
      refine lv_aload_n hx hb dX0_putIn_35 rfl (lv_at hl 0 rfl) ?_
      refine lv_dup hx hb dX0_putIn_36 rfl ?_
      refine va_get (D := (dC, dI)) (ci := 0) (v := .int ((upd f 8 (f 8 + nI (cn x st i))) 8)) (C := RX0) (T := TX0) (N := 9) hx hb hts (by decide +kernel) hown hK hP 0 rfl rfl 8 (by decide) (hts (.fieldLink RX0 44 "FragmentHouse$Datagram" "presentCount" "I") (by decide +kernel)) (fun _ h9 => h9) rfl dX0_putIn_37 ?_
      refine lv_iconst (v := 1) hx hb dX0_putIn_40 (by decide) ?_
      refine lv_iadd hx hb dX0_putIn_41 ?_
      refine va_put (D := (dC, dI)) (ci := 0) (v := .int (((upd f 8 (f 8 + nI (cn x st i))) 8) + 1)) (ty := .int) (C := RX0) (T := TX0) (N := 9) hx hb hts (by decide +kernel) tyX0 tyX0_ok nmX0 hown hK hP hD hS 0 rfl rfl 8 (by decide) (hts (.fieldLink RX0 44 "FragmentHouse$Datagram" "presentCount" "I") (by decide +kernel)) (fun _ h9 => h9) rfl (by decide +kernel) rfl rfl (Nat.le_of_ble_eq_true rfl) dX0_putIn_42 (fun H locs hP hD hS => ?_)
      have hP : va_P (dC, dI) vwCl (wDs cI h c0 t (upd (upd f 8 (f 8 + nI (cn x st i))) 8 ((((upd f 8 (f 8 + nI (cn x st i))) 8) + 1))) (upd ((pt x st i T)) ((st + i)) ((T i))) T) H := hP
      have hD : va_D A (wDs cI h c0 t (upd (upd f 8 (f 8 + nI (cn x st i))) 8 ((((upd f 8 (f 8 + nI (cn x st i))) 8) + 1))) (upd ((pt x st i T)) ((st + i)) ((T i))) T) := hD
      refine lv_iinc (v := (nI (i + 1))) (lv' := [(4, .int (nI (i + 1))), (0, .ref h), (1, .ref t), (2, .int (nI k)), (3, .int (nI st))]) hx hb dX0_putIn_45 hl (k := 4) rfl (nI_1 i) (by decide) rfl (fun ls hl => ?_)
      refine lv_goto (tgt := 3) hx hb dX0_putIn_48 (by decide) ?_
      have hP : va_P (dC, dI) vwCl (wDs cI h c0 t (upd f 8 (f 8 + nI (cn x st (i + 1)))) (pt x st (i + 1) T) T) H := by rw [← pt_s1 c19, cn_s1 c19, ← up_s]; exact hP
      have hD : va_D A (wDs cI h c0 t (upd f 8 (f 8 + nI (cn x st (i + 1)))) (pt x st (i + 1) T) T) := by rw [← pt_s1 c19, cn_s1 c19, ← up_s]; exact hD
      exact ih (i + 1) _ _ _ ⟨hlt, hP, hD, hS, lv_sub hl [1, 2, 3, 4, 0] rfl⟩ (by show k - (i + 1) < k - i; omega)
end
section
/-! the house's smaller methods -/
def bv (w : Int32) (j : Nat) : Int32 := ((w.toUInt32 >>> ((24 - 8 * nI j).toUInt32 &&& Int32.toUInt32 31)).toInt32 &&& 255)
/-- k places of T from p on, written from b -/
def wrT (T : Nat → Int32) (p k : Nat) (b : Nat → Int32) : Nat → Int32 := fun j => if p ≤ j ∧ j < p + k then b (j - p) else T j
theorem wr_0 (T : Nat → Int32) (p : Nat) (b : Nat → Int32) : wrT T p 0 b = T := by
  funext j
  unfold wrT
  rw [if_neg (by omega)]
theorem wr_s (T : Nat → Int32) (p k : Nat) (b : Nat → Int32) : upd (wrT T p k b) (p + k) (b k) = wrT T p (k + 1) b := by
  funext j
  unfold upd wrT
  by_cases hj : j = p + k
  · subst hj
    rw [if_pos rfl, if_pos ⟨by omega, by omega⟩, show p + k - p = k by omega]
  · rw [if_neg hj]
    by_cases hc : p ≤ j ∧ j < p + k
    · rw [if_pos hc, if_pos ⟨hc.1, by omega⟩]
    · rw [if_neg hc, if_neg (by omega)]
/-- five words into the tray -/
def fdT (b : Int32 → Nat → Int32) (T : Nat → Int32) (q : Nat) (a1 a2 a3 a4 a5 : Int32) : Nat → Int32 := wrT (wrT (wrT (wrT (wrT T q 4 (b a1)) (q + 4) 4 (b a2)) (q + 8) 4 (b a3)) (q + 12) 4 (b a4)) (q + 16) 4 (b a5)
def Snd (a b : Nat) (l : Int32) : Prop := a + b ≤ 4096 ∧ (l ≠ 0 ∨ (0 < b ∧ b % 8 = 0))
/-- how many of the first k slots are in the making -/
def mkC (ds : Nat → Dg) : Nat → Nat
  | 0 => 0
  | k + 1 => mkC ds k + (if (ds k).1 1 = 0 then 0 else 1)
/-- the first k slots, those dropped that are too old at t -/
def psD (t : Int32) (ds : Nat → Dg) (k : Nat) : Nat → Dg := fun i => if i < k ∧ (ds i).1 1 ≠ 0 ∧ (ds i).1 5 + 15000 ≤ t then (upd (ds i).1 1 0, (ds i).2) else ds i
def psC (t : Int32) (ds : Nat → Dg) : Nat → Nat
  | 0 => 0
  | k + 1 => psC t ds k + (if (ds k).1 1 ≠ 0 ∧ (ds k).1 5 + 15000 ≤ t then 1 else 0)
theorem psD_0 (t : Int32) (ds : Nat → Dg) : psD t ds 0 = ds := by
  funext j
  unfold psD
  rw [if_neg (fun h => absurd h.1 (Nat.not_lt_zero _))]
theorem psD_at (t : Int32) (ds : Nat → Dg) (k : Nat) : psD t ds k k = ds k := by
  unfold psD
  rw [if_neg (fun h => absurd h.1 (Nat.lt_irrefl _))]
theorem psD_s1 {t : Int32} {ds : Nat → Dg} {k : Nat} (h1 : ¬ (ds k).1 1 = 0) (h2 : (ds k).1 5 + 15000 ≤ t) : va_up (psD t ds k) k (upd (psD t ds k k).1 1 0, (psD t ds k k).2) = psD t ds (k + 1) := by
  rw [psD_at]
  funext j
  unfold va_up psD
  by_cases hj : j = k
  · subst hj
    rw [if_pos rfl, if_pos ⟨by omega, h1, h2⟩]
  · rw [if_neg hj]
    by_cases hc : j < k ∧ (ds j).1 1 ≠ 0 ∧ (ds j).1 5 + 15000 ≤ t
    · rw [if_pos hc, if_pos ⟨by omega, hc.2⟩]
    · rw [if_neg hc, if_neg (fun q => hc ⟨by omega, q.2⟩)]
theorem psD_s2 {t : Int32} {ds : Nat → Dg} {k : Nat} (h : ¬ ((ds k).1 1 ≠ 0 ∧ (ds k).1 5 + 15000 ≤ t)) : psD t ds k = psD t ds (k + 1) := by
  funext j
  unfold psD
  by_cases hc : j < k ∧ (ds j).1 1 ≠ 0 ∧ (ds j).1 5 + 15000 ≤ t
  · rw [if_pos hc, if_pos ⟨by omega, hc.2⟩]
  · rw [if_neg hc, if_neg (fun q => hc ⟨by
      have h1 : j ≠ k := fun z => h (z ▸ q.2)
      omega, q.2⟩)]
theorem psC_s1 {t : Int32} {ds : Nat → Dg} {k : Nat} (h1 : ¬ (ds k).1 1 = 0) (h2 : (ds k).1 5 + 15000 ≤ t) : psC t ds (k + 1) = psC t ds k + 1 := by
  show psC t ds k + _ = _
  rw [if_pos ⟨h1, h2⟩]
theorem psC_s2 {t : Int32} {ds : Nat → Dg} {k : Nat} (h : ¬ ((ds k).1 1 ≠ 0 ∧ (ds k).1 5 + 15000 ≤ t)) : psC t ds (k + 1) = psC t ds k := by
  show psC t ds k + _ = _
  rw [if_neg h, Nat.add_zero]
theorem mkC_s1 {ds : Nat → Dg} {k : Nat} (h : ¬ (ds k).1 1 = 0) : mkC ds (k + 1) = mkC ds k + 1 := by
  show mkC ds k + _ = _
  rw [if_neg h]
theorem mkC_s2 {ds : Nat → Dg} {k : Nat} (h : (ds k).1 1 = 0) : mkC ds (k + 1) = mkC ds k := by
  show mkC ds k + _ = _
  rw [if_pos h, Nat.add_zero]
set_option maxHeartbeats 4000000 in
set_option maxRecDepth 100000 in
/-- putWord: four bytes from place q on -/
theorem c_putWord (l : Launch) (dC : Nat → ClassId) (dI : Nat → Nat → Nat) (cI cS : ClassId) (h tr sl dw cw : Nat) (D C : Nat → Nat) (T : Nat → Int32) (n wc nw : Int32) (ds : Nat → Dg) (wd : Dg) (v : Int32) (q : Nat) (sz : Nat) (hq : q + 4 ≤ 1480) : Met l yX1_putWord wsX1_putWord ({ frames := 0, cells := 0, slots := 0, locals := 0 }) (va_Pc [.ref h, .int v, .int (nI q)] (PW (dC, dI) vwCl [(cI, .int), (cS, tDg)] (wH cI cS h tr sl dw cw D C T n wc nw ds wd) sz)) (va_Qv (S := Unit) (fun _ => True) (QW (dC, dI) vwCl (fun _ => [(cI, .int), (cS, tDg)]) (va_A (wH cI cS h tr sl dw cw D C T n wc nw ds wd) sz) (fun _ => wH cI cS h tr sl dw cw D C (wrT T q 4 (bv v)) n wc nw ds wd)) (va_A (wH cI cS h tr sl dw cw D C T n wc nw ds wd) sz)) 0 0 (va_A (wH cI cS h tr sl dw cw D C T n wc nw ds wd) sz) := by
  refine Met.ofW (cc := cX1_putWord) (maxL := 4) (ret := none) (by decide) rfl ?_
  intro p e s m args below meth c s₁ B hml hv
  obtain ⟨rfl, hsz, hP, hK, hD0⟩ := hv
  have hx := B.exec
  have hb := B.bytes
  have hr := B.returns
  have hts := atoms_spec (ws := wsX1_putWord) B.pre
  have hown : s.vm.findClass RX1 = some m.cls := findClass_of_methodNamed B.named
  have hlocks := B.notSynchronized
  subst hsz
  have hD := hD0.self (sz := s.heap.size)
  generalize hAe : va_A (wH cI cS h tr sl dw cw D C T n wc nw ds wd) s.heap.size = A at hD ⊢
  have hA : ∀ q : Nat, s.heap.size ≤ q → A q := fun q h => by rw [← hAe]; exact Or.inr h
  have hS : va_S A s.heap s.heap [] := va_S.rf
  have hl := lv_entry ([.ref h, .int v, .int (nI q)]) (n := 4) (Nat.le_of_ble_eq_true rfl)
  rw [lg_entry_eq]
  generalize (lg_sl ([.ref h, .int v, .int (nI q)]) ++ List.replicate (4 - (lg_sl ([.ref h, .int v, .int (nI q)])).length) Slot.unset).toArray = ls at hl ⊢
  have hl : lv_has ls 4 [(0, .ref h), (1, .int v), (2, .int (nI q))] := hl
  refine fh_start (fun H hH => ?_)
  have hP : va_P (dC, dI) vwCl (wH cI cS h tr sl dw cw D C T n wc nw ds wd) H := by rw [hH]; exact hP
  have hS : va_S A s.heap H [] := by rw [hH]; exact va_S.rf
  refine lv_iconst (v := nI 0) hx hb dX1_putWord_0 (by first | decide | rfl) ?_
  refine lv_istore_n (lv' := [(3, .int (nI 0)), (0, .ref h), (1, .int v), (2, .int (nI q))]) hx hb dX1_putWord_1 rfl hl (by decide) rfl (fun ls hl => ?_)
  have hP : va_P (dC, dI) vwCl (wH cI cS h tr sl dw cw D C (wrT T q 0 (bv v)) n wc nw ds wd) H := by rw [wr_0]; exact hP
  have hD : va_D A (wH cI cS h tr sl dw cw D C (wrT T q 0 (bv v)) n wc nw ds wd) := by rw [wr_0]; exact hD
  refine fh_loop (σ := Nat) (fun q9 H locs ls => (q9 ≤ 4) ∧ va_P (dC, dI) vwCl (wH cI cS h tr sl dw cw D C (wrT T q q9 (bv v)) n wc nw ds wd) H ∧ va_D A (wH cI cS h tr sl dw cw D C (wrT T q q9 (bv v)) n wc nw ds wd) ∧ va_S A s.heap H locs ∧ lv_has ls 4 [(0, .ref h), (1, .int v), (2, .int (nI q)), (3, .int (nI q9))]) (fun q9 => 4 - q9) ?_ (0) ⟨Nat.zero_le _, hP, hD, hS, lv_sub hl [1, 2, 3, 0] rfl⟩
  intro q9 H locs ls hI ih
  obtain ⟨k, rfl⟩ : ∃ z, z = q9 := ⟨_, rfl⟩
  obtain ⟨hk, hP, hD, hS, hl⟩ : (k ≤ 4) ∧ va_P (dC, dI) vwCl (wH cI cS h tr sl dw cw D C (wrT T q k (bv v)) n wc nw ds wd) H ∧ va_D A (wH cI cS h tr sl dw cw D C (wrT T q k (bv v)) n wc nw ds wd) ∧ va_S A s.heap H locs ∧ lv_has ls 4 [(0, .ref h), (1, .int v), (2, .int (nI q)), (3, .int (nI k))] := hI
  refine lv_iload_n hx hb dX1_putWord_2 rfl (lv_at hl 3 rfl) ?_
  refine lv_iconst (v := nI 4) hx hb dX1_putWord_3 (by first | decide | rfl) ?_
  refine lv_icmp_ge (tgt := 34) hx hb dX1_putWord_4 (by decide) (fun c4 => ?_) (fun c4 => ?_)
  · skip
    obtain rfl : k = 4 := Nat.le_antisymm hk ((nI_leI (by omega) (by omega)).mp c4)
    exact W.vret hx hb hr (fh_qv () trivial hP hK hD hS) hS.2.2 dX1_putWord_34
  · skip
    have hlt : k < 4 := Nat.lt_of_not_le (fun h => c4 (nI_le h (by omega)))
    refine lv_aload_n hx hb dX1_putWord_7 rfl (lv_at hl 0 rfl) ?_
    refine va_get (D := (dC, dI)) (ci := 1) (v := .ref tr) (C := RX1) (T := TX1) (N := 6) hx hb hts (by decide +kernel) hown hK hP 0 rfl rfl 0 (by decide) (hts (.fieldLink RX1 9 "FragmentHouse" "tray" "[I") (by decide +kernel)) (fun _ h9 => h9) rfl dX1_putWord_8 ?_
    refine lv_iload_n hx hb dX1_putWord_11 rfl (lv_at hl 2 rfl) ?_
    refine lv_iload_n hx hb dX1_putWord_12 rfl (lv_at hl 3 rfl) ?_
    refine lv_iadd hx hb dX1_putWord_13 ?_
    refine fh_top (y := nI (q + k)) (nI_add q k) ?_
    refine lv_iload_n hx hb dX1_putWord_14 rfl (lv_at hl 1 rfl) ?_
    refine lv_bipush (v := 24) hx hb dX1_putWord_15 (by first | decide | rfl) ?_
    refine lv_bipush (v := 8) hx hb dX1_putWord_17 (by first | decide | rfl) ?_
    refine lv_iload_n hx hb dX1_putWord_19 rfl (lv_at hl 3 rfl) ?_
    refine lv_imul hx hb dX1_putWord_20 ?_
    refine lv_isub hx hb dX1_putWord_21 ?_
    refine lv_iushr hx hb dX1_putWord_22 rfl ?_
    refine lv_sipush (v := 255) hx hb dX1_putWord_23 (by first | decide | rfl) ?_
    refine lv_iand hx hb dX1_putWord_26 ?_
    refine fh_top (y := bv v k) rfl ?_
    refine fh_iast (k := (q + k)) hx hb hK hP hD hS 1 0 rfl rfl (by omega) (by first | decide | omega) dX1_putWord_27 (fun H locs hP hD hS => ?_)
    have hP : va_P (dC, dI) vwCl (wH cI cS h tr sl dw cw D C (upd ((wrT T q k (bv v))) ((q + k)) ((bv v k))) n wc nw ds wd) H := hP
    have hD : va_D A (wH cI cS h tr sl dw cw D C (upd ((wrT T q k (bv v))) ((q + k)) ((bv v k))) n wc nw ds wd) := hD
    refine lv_iinc (v := (nI (k + 1))) (lv' := [(3, .int (nI (k + 1))), (0, .ref h), (1, .int v), (2, .int (nI q))]) hx hb dX1_putWord_28 hl (k := 3) rfl (nI_1 k) (by decide) rfl (fun ls hl => ?_)
    refine lv_goto (tgt := 2) hx hb dX1_putWord_31 (by decide) ?_
    have hP : va_P (dC, dI) vwCl (wH cI cS h tr sl dw cw D C (wrT T q (k + 1) (bv v)) n wc nw ds wd) H := by rw [← wr_s]; exact hP
    have hD : va_D A (wH cI cS h tr sl dw cw D C (wrT T q (k + 1) (bv v)) n wc nw ds wd) := by rw [← wr_s]; exact hD
    exact ih (k + 1) _ _ _ ⟨hlt, hP, hD, hS, lv_sub hl [1, 2, 3, 0] rfl⟩ (by show 4 - (k + 1) < 4 - k; omega)
set_option maxHeartbeats 4000000 in
set_option maxRecDepth 100000 in
/-- feed -/
theorem c_feed (l : Launch) (dC : Nat → ClassId) (dI : Nat → Nat → Nat) (cI cS : ClassId) (h tr sl dw cw : Nat) (D C : Nat → Nat) (T : Nat → Int32) (n wc nw : Int32) (ds : Nat → Dg) (wd : Dg) (a1 a2 a3 a4 a5 : Int32) (q : Nat) (sz : Nat) (hq : q ≤ 1480) : Met l yX1_feed wsX1_feed ({ frames := 1, cells := 0, slots := 0, locals := 23 }) (va_Pc [.ref h, .int a1, .int a2, .int a3, .int a4, .int a5] (PW (dC, dI) vwCl [(cI, .int), (cS, tDg)] (wH cI cS h tr sl dw cw D C T (nI q) wc nw ds wd) sz)) (va_Qi (S := (Nat → Int32) × Nat) (fun r u => (1460 < q ∧ r = -1 ∧ u = (T, q)) ∨ (q ≤ 1460 ∧ r = nI (q + 20) ∧ u = (fdT bv T q a1 a2 a3 a4 a5, q + 20))) (QW (dC, dI) vwCl (fun _ => [(cI, .int), (cS, tDg)]) (va_A (wH cI cS h tr sl dw cw D C T (nI q) wc nw ds wd) sz) (fun u => wH cI cS h tr sl dw cw D C u.1 (nI u.2) wc nw ds wd)) (va_A (wH cI cS h tr sl dw cw D C T (nI q) wc nw ds wd) sz)) 0 0 (va_A (wH cI cS h tr sl dw cw D C T (nI q) wc nw ds wd) sz) := by
  refine Met.ofW (cc := cX1_feed) (maxL := 6) (ret := (some .int)) (by decide) rfl ?_
  intro p e s m args below meth c s₁ B hml hv
  obtain ⟨rfl, hsz, hP, hK, hD0⟩ := hv
  have hx := B.exec
  have hb := B.bytes
  have hr := B.returns
  have hts := atoms_spec (ws := wsX1_feed) B.pre
  have hown : s.vm.findClass RX1 = some m.cls := findClass_of_methodNamed B.named
  have hlocks := B.notSynchronized
  subst hsz
  have hD := hD0.self (sz := s.heap.size)
  generalize hAe : va_A (wH cI cS h tr sl dw cw D C T (nI q) wc nw ds wd) s.heap.size = A at hD ⊢
  have hA : ∀ q : Nat, s.heap.size ≤ q → A q := fun q h => by rw [← hAe]; exact Or.inr h
  have hS : va_S A s.heap s.heap [] := va_S.rf
  have hl := lv_entry ([.ref h, .int a1, .int a2, .int a3, .int a4, .int a5]) (n := 6) (Nat.le_of_ble_eq_true rfl)
  rw [lg_entry_eq]
  generalize (lg_sl ([.ref h, .int a1, .int a2, .int a3, .int a4, .int a5]) ++ List.replicate (6 - (lg_sl ([.ref h, .int a1, .int a2, .int a3, .int a4, .int a5])).length) Slot.unset).toArray = ls at hl ⊢
  have hl : lv_has ls 6 [(0, .ref h), (1, .int a1), (2, .int a2), (3, .int a3), (4, .int a4), (5, .int a5)] := hl
  refine fh_start (fun H hH => ?_)
  have hP : va_P (dC, dI) vwCl (wH cI cS h tr sl dw cw D C T (nI q) wc nw ds wd) H := by rw [hH]; exact hP
  have hS : va_S A s.heap H [] := by rw [hH]; exact va_S.rf
  refine lv_aload_n hx hb dX1_feed_0 rfl (lv_at hl 0 rfl) ?_
  refine va_get (D := (dC, dI)) (ci := 1) (v := .int (nI q)) (C := RX1) (T := TX1) (N := 6) hx hb hts (by decide +kernel) hown hK hP 0 rfl rfl 3 (by decide) (hts (.fieldLink RX1 24 "FragmentHouse" "trayCount" "I") (by decide +kernel)) (fun _ h9 => h9) rfl dX1_feed_1 ?_
  refine lv_sipush (v := nI 1460) hx hb dX1_feed_4 (by first | decide | rfl) ?_
  refine lv_icmp_le (tgt := 12) hx hb dX1_feed_7 (by decide) (fun c7 => ?_) (fun c7 => ?_)
  · skip
    have hq2 : q ≤ 1460 := (nI_leI (by omega) (by decide)).mp c7
    refine lv_aload_n hx hb dX1_feed_12 rfl (lv_at hl 0 rfl) ?_
    refine lv_iload_n hx hb dX1_feed_13 rfl (lv_at hl 1 rfl) ?_
    refine lv_aload_n hx hb dX1_feed_14 rfl (lv_at hl 0 rfl) ?_
    refine va_get (D := (dC, dI)) (ci := 1) (v := .int (nI q)) (C := RX1) (T := TX1) (N := 6) hx hb hts (by decide +kernel) hown hK hP 0 rfl rfl 3 (by decide) (hts (.fieldLink RX1 24 "FragmentHouse" "trayCount" "I") (by decide +kernel)) (fun _ h9 => h9) rfl dX1_feed_15 ?_
    have hPc := hP.sub (ws' := wH cI cS h tr sl dw cw D C T (nI q) wc nw ds wd) [0, 1, 2, 3, 4, 5, 6, 7, 8, 9, 10, 11, 12] rfl
    have hDc := hD.sub (ws' := wH cI cS h tr sl dw cw D C T (nI q) wc nw ds wd) [0, 1, 2, 3, 4, 5, 6, 7, 8, 9, 10, 11, 12] (by decide) rfl
    refine fh_cv (wr := []) (w2 := fun _ => wH cI cS h tr sl dw cw D C (wrT T q 4 (bv a1)) (nI q) wc nw ds wd) (va_runV (As := [.int a1, .int (nI q)]) (rest := []) ⟨hx, hb, hml, hown, hts⟩ (c_putWord l dC dI cI cS h tr sl dw cw D C T (nI q) wc nw ds wd a1 (q) H.size (by omega)) (cwV 2 hts gX1_feed_X1_putWord rfl rfl rfl (by decide +kernel) ⟨Nat.le_of_ble_eq_true rfl, Nat.le_of_ble_eq_true rfl⟩) (pV_PW hK hPc hDc (ci := 1) (q0 := 0) rfl rfl) rfl rfl hl.1 rfl (lv_room (Nat.le_of_ble_eq_true rfl)) dX1_feed_18 ⟨Nat.zero_le _, Nat.zero_le _⟩) hP hD hS hA [0, 1, 2, 3, 4, 5, 6, 7, 8, 9, 10, 11, 12] [] [0, 1, 2, 3, 4, 5, 6, 7, 8, 9, 10, 11, 12] rfl rfl (by decide) (by decide) (by decide) (fun _ => rfl) (fun u H locs hw hK hP hD hS => ?_)
    have hP : va_P (dC, dI) vwCl (wH cI cS h tr sl dw cw D C (wrT T q 4 (bv a1)) (nI q) wc nw ds wd) H := hP
    have hD : va_D A (wH cI cS h tr sl dw cw D C (wrT T q 4 (bv a1)) (nI q) wc nw ds wd) := hD
    refine lv_aload_n hx hb dX1_feed_21 rfl (lv_at hl 0 rfl) ?_
    refine lv_iload_n hx hb dX1_feed_22 rfl (lv_at hl 2 rfl) ?_
    refine lv_aload_n hx hb dX1_feed_23 rfl (lv_at hl 0 rfl) ?_
    refine va_get (D := (dC, dI)) (ci := 1) (v := .int (nI q)) (C := RX1) (T := TX1) (N := 6) hx hb hts (by decide +kernel) hown hK hP 0 rfl rfl 3 (by decide) (hts (.fieldLink RX1 24 "FragmentHouse" "trayCount" "I") (by decide +kernel)) (fun _ h9 => h9) rfl dX1_feed_24 ?_
    refine lv_iconst (v := nI 4) hx hb dX1_feed_27 (by first | decide | rfl) ?_
    refine lv_iadd hx hb dX1_feed_28 ?_
    refine fh_top (y := nI (q + 4)) (nI_add q 4) ?_
    have hPc := hP.sub (ws' := wH cI cS h tr sl dw cw D C (wrT T q 4 (bv a1)) (nI q) wc nw ds wd) [0, 1, 2, 3, 4, 5, 6, 7, 8, 9, 10, 11, 12] rfl
    have hDc := hD.sub (ws' := wH cI cS h tr sl dw cw D C (wrT T q 4 (bv a1)) (nI q) wc nw ds wd) [0, 1, 2, 3, 4, 5, 6, 7, 8, 9, 10, 11, 12] (by decide) rfl
    refine fh_cv (wr := []) (w2 := fun _ => wH cI cS h tr sl dw cw D C (wrT (wrT T q 4 (bv a1)) (q + 4) 4 (bv a2)) (nI q) wc nw ds wd) (va_runV (As := [.int a2, .int (nI (q + 4))]) (rest := []) ⟨hx, hb, hml, hown, hts⟩ (c_putWord l dC dI cI cS h tr sl dw cw D C (wrT T q 4 (bv a1)) (nI q) wc nw ds wd a2 (q + 4) H.size (by omega)) (cwV 2 hts gX1_feed_X1_putWord rfl rfl rfl (by decide +kernel) ⟨Nat.le_of_ble_eq_true rfl, Nat.le_of_ble_eq_true rfl⟩) (pV_PW hK hPc hDc (ci := 1) (q0 := 0) rfl rfl) rfl rfl hl.1 rfl (lv_room (Nat.le_of_ble_eq_true rfl)) dX1_feed_29 ⟨Nat.zero_le _, Nat.zero_le _⟩) hP hD hS hA [0, 1, 2, 3, 4, 5, 6, 7, 8, 9, 10, 11, 12] [] [0, 1, 2, 3, 4, 5, 6, 7, 8, 9, 10, 11, 12] rfl rfl (by decide) (by decide) (by decide) (fun _ => rfl) (fun u H locs hw hK hP hD hS => ?_)
    have hP : va_P (dC, dI) vwCl (wH cI cS h tr sl dw cw D C (wrT (wrT T q 4 (bv a1)) (q + 4) 4 (bv a2)) (nI q) wc nw ds wd) H := hP
    have hD : va_D A (wH cI cS h tr sl dw cw D C (wrT (wrT T q 4 (bv a1)) (q + 4) 4 (bv a2)) (nI q) wc nw ds wd) := hD
    refine lv_aload_n hx hb dX1_feed_32 rfl (lv_at hl 0 rfl) ?_
    refine lv_iload_n hx hb dX1_feed_33 rfl (lv_at hl 3 rfl) ?_
    refine lv_aload_n hx hb dX1_feed_34 rfl (lv_at hl 0 rfl) ?_
    refine va_get (D := (dC, dI)) (ci := 1) (v := .int (nI q)) (C := RX1) (T := TX1) (N := 6) hx hb hts (by decide +kernel) hown hK hP 0 rfl rfl 3 (by decide) (hts (.fieldLink RX1 24 "FragmentHouse" "trayCount" "I") (by decide +kernel)) (fun _ h9 => h9) rfl dX1_feed_35 ?_
    refine lv_bipush (v := nI 8) hx hb dX1_feed_38 (by first | decide | rfl) ?_
    refine lv_iadd hx hb dX1_feed_40 ?_
    refine fh_top (y := nI (q + 8)) (nI_add q 8) ?_
    have hPc := hP.sub (ws' := wH cI cS h tr sl dw cw D C (wrT (wrT T q 4 (bv a1)) (q + 4) 4 (bv a2)) (nI q) wc nw ds wd) [0, 1, 2, 3, 4, 5, 6, 7, 8, 9, 10, 11, 12] rfl
    have hDc := hD.sub (ws' := wH cI cS h tr sl dw cw D C (wrT (wrT T q 4 (bv a1)) (q + 4) 4 (bv a2)) (nI q) wc nw ds wd) [0, 1, 2, 3, 4, 5, 6, 7, 8, 9, 10, 11, 12] (by decide) rfl
    refine fh_cv (wr := []) (w2 := fun _ => wH cI cS h tr sl dw cw D C (wrT (wrT (wrT T q 4 (bv a1)) (q + 4) 4 (bv a2)) (q + 8) 4 (bv a3)) (nI q) wc nw ds wd) (va_runV (As := [.int a3, .int (nI (q + 8))]) (rest := []) ⟨hx, hb, hml, hown, hts⟩ (c_putWord l dC dI cI cS h tr sl dw cw D C (wrT (wrT T q 4 (bv a1)) (q + 4) 4 (bv a2)) (nI q) wc nw ds wd a3 (q + 8) H.size (by omega)) (cwV 2 hts gX1_feed_X1_putWord rfl rfl rfl (by decide +kernel) ⟨Nat.le_of_ble_eq_true rfl, Nat.le_of_ble_eq_true rfl⟩) (pV_PW hK hPc hDc (ci := 1) (q0 := 0) rfl rfl) rfl rfl hl.1 rfl (lv_room (Nat.le_of_ble_eq_true rfl)) dX1_feed_41 ⟨Nat.zero_le _, Nat.zero_le _⟩) hP hD hS hA [0, 1, 2, 3, 4, 5, 6, 7, 8, 9, 10, 11, 12] [] [0, 1, 2, 3, 4, 5, 6, 7, 8, 9, 10, 11, 12] rfl rfl (by decide) (by decide) (by decide) (fun _ => rfl) (fun u H locs hw hK hP hD hS => ?_)
    have hP : va_P (dC, dI) vwCl (wH cI cS h tr sl dw cw D C (wrT (wrT (wrT T q 4 (bv a1)) (q + 4) 4 (bv a2)) (q + 8) 4 (bv a3)) (nI q) wc nw ds wd) H := hP
    have hD : va_D A (wH cI cS h tr sl dw cw D C (wrT (wrT (wrT T q 4 (bv a1)) (q + 4) 4 (bv a2)) (q + 8) 4 (bv a3)) (nI q) wc nw ds wd) := hD
    refine lv_aload_n hx hb dX1_feed_44 rfl (lv_at hl 0 rfl) ?_
    refine lv_iload hx hb dX1_feed_45 (lv_at hl 4 rfl) ?_
    refine lv_aload_n hx hb dX1_feed_47 rfl (lv_at hl 0 rfl) ?_
    refine va_get (D := (dC, dI)) (ci := 1) (v := .int (nI q)) (C := RX1) (T := TX1) (N := 6) hx hb hts (by decide +kernel) hown hK hP 0 rfl rfl 3 (by decide) (hts (.fieldLink RX1 24 "FragmentHouse" "trayCount" "I") (by decide +kernel)) (fun _ h9 => h9) rfl dX1_feed_48 ?_
    refine lv_bipush (v := nI 12) hx hb dX1_feed_51 (by first | decide | rfl) ?_
    refine lv_iadd hx hb dX1_feed_53 ?_
    refine fh_top (y := nI (q + 12)) (nI_add q 12) ?_
    have hPc := hP.sub (ws' := wH cI cS h tr sl dw cw D C (wrT (wrT (wrT T q 4 (bv a1)) (q + 4) 4 (bv a2)) (q + 8) 4 (bv a3)) (nI q) wc nw ds wd) [0, 1, 2, 3, 4, 5, 6, 7, 8, 9, 10, 11, 12] rfl
    have hDc := hD.sub (ws' := wH cI cS h tr sl dw cw D C (wrT (wrT (wrT T q 4 (bv a1)) (q + 4) 4 (bv a2)) (q + 8) 4 (bv a3)) (nI q) wc nw ds wd) [0, 1, 2, 3, 4, 5, 6, 7, 8, 9, 10, 11, 12] (by decide) rfl
    refine fh_cv (wr := []) (w2 := fun _ => wH cI cS h tr sl dw cw D C (wrT (wrT (wrT (wrT T q 4 (bv a1)) (q + 4) 4 (bv a2)) (q + 8) 4 (bv a3)) (q + 12) 4 (bv a4)) (nI q) wc nw ds wd) (va_runV (As := [.int a4, .int (nI (q + 12))]) (rest := []) ⟨hx, hb, hml, hown, hts⟩ (c_putWord l dC dI cI cS h tr sl dw cw D C (wrT (wrT (wrT T q 4 (bv a1)) (q + 4) 4 (bv a2)) (q + 8) 4 (bv a3)) (nI q) wc nw ds wd a4 (q + 12) H.size (by omega)) (cwV 2 hts gX1_feed_X1_putWord rfl rfl rfl (by decide +kernel) ⟨Nat.le_of_ble_eq_true rfl, Nat.le_of_ble_eq_true rfl⟩) (pV_PW hK hPc hDc (ci := 1) (q0 := 0) rfl rfl) rfl rfl hl.1 rfl (lv_room (Nat.le_of_ble_eq_true rfl)) dX1_feed_54 ⟨Nat.zero_le _, Nat.zero_le _⟩) hP hD hS hA [0, 1, 2, 3, 4, 5, 6, 7, 8, 9, 10, 11, 12] [] [0, 1, 2, 3, 4, 5, 6, 7, 8, 9, 10, 11, 12] rfl rfl (by decide) (by decide) (by decide) (fun _ => rfl) (fun u H locs hw hK hP hD hS => ?_)
    have hP : va_P (dC, dI) vwCl (wH cI cS h tr sl dw cw D C (wrT (wrT (wrT (wrT T q 4 (bv a1)) (q + 4) 4 (bv a2)) (q + 8) 4 (bv a3)) (q + 12) 4 (bv a4)) (nI q) wc nw ds wd) H := hP
    have hD : va_D A (wH cI cS h tr sl dw cw D C (wrT (wrT (wrT (wrT T q 4 (bv a1)) (q + 4) 4 (bv a2)) (q + 8) 4 (bv a3)) (q + 12) 4 (bv a4)) (nI q) wc nw ds wd) := hD
    refine lv_aload_n hx hb dX1_feed_57 rfl (lv_at hl 0 rfl) ?_
    refine lv_iload hx hb dX1_feed_58 (lv_at hl 5 rfl) ?_
    refine lv_aload_n hx hb dX1_feed_60 rfl (lv_at hl 0 rfl) ?_
    refine va_get (D := (dC, dI)) (ci := 1) (v := .int (nI q)) (C := RX1) (T := TX1) (N := 6) hx hb hts (by decide +kernel) hown hK hP 0 rfl rfl 3 (by decide) (hts (.fieldLink RX1 24 "FragmentHouse" "trayCount" "I") (by decide +kernel)) (fun _ h9 => h9) rfl dX1_feed_61 ?_
    refine lv_bipush (v := nI 16) hx hb dX1_feed_64 (by first | decide | rfl) ?_
    refine lv_iadd hx hb dX1_feed_66 ?_
    refine fh_top (y := nI (q + 16)) (nI_add q 16) ?_
    have hPc := hP.sub (ws' := wH cI cS h tr sl dw cw D C (wrT (wrT (wrT (wrT T q 4 (bv a1)) (q + 4) 4 (bv a2)) (q + 8) 4 (bv a3)) (q + 12) 4 (bv a4)) (nI q) wc nw ds wd) [0, 1, 2, 3, 4, 5, 6, 7, 8, 9, 10, 11, 12] rfl
    have hDc := hD.sub (ws' := wH cI cS h tr sl dw cw D C (wrT (wrT (wrT (wrT T q 4 (bv a1)) (q + 4) 4 (bv a2)) (q + 8) 4 (bv a3)) (q + 12) 4 (bv a4)) (nI q) wc nw ds wd) [0, 1, 2, 3, 4, 5, 6, 7, 8, 9, 10, 11, 12] (by decide) rfl
    refine fh_cv (wr := []) (w2 := fun _ => wH cI cS h tr sl dw cw D C (wrT (wrT (wrT (wrT (wrT T q 4 (bv a1)) (q + 4) 4 (bv a2)) (q + 8) 4 (bv a3)) (q + 12) 4 (bv a4)) (q + 16) 4 (bv a5)) (nI q) wc nw ds wd) (va_runV (As := [.int a5, .int (nI (q + 16))]) (rest := []) ⟨hx, hb, hml, hown, hts⟩ (c_putWord l dC dI cI cS h tr sl dw cw D C (wrT (wrT (wrT (wrT T q 4 (bv a1)) (q + 4) 4 (bv a2)) (q + 8) 4 (bv a3)) (q + 12) 4 (bv a4)) (nI q) wc nw ds wd a5 (q + 16) H.size (by omega)) (cwV 2 hts gX1_feed_X1_putWord rfl rfl rfl (by decide +kernel) ⟨Nat.le_of_ble_eq_true rfl, Nat.le_of_ble_eq_true rfl⟩) (pV_PW hK hPc hDc (ci := 1) (q0 := 0) rfl rfl) rfl rfl hl.1 rfl (lv_room (Nat.le_of_ble_eq_true rfl)) dX1_feed_67 ⟨Nat.zero_le _, Nat.zero_le _⟩) hP hD hS hA [0, 1, 2, 3, 4, 5, 6, 7, 8, 9, 10, 11, 12] [] [0, 1, 2, 3, 4, 5, 6, 7, 8, 9, 10, 11, 12] rfl rfl (by decide) (by decide) (by decide) (fun _ => rfl) (fun u H locs hw hK hP hD hS => ?_)
    have hP : va_P (dC, dI) vwCl (wH cI cS h tr sl dw cw D C (wrT (wrT (wrT (wrT (wrT T q 4 (bv a1)) (q + 4) 4 (bv a2)) (q + 8) 4 (bv a3)) (q + 12) 4 (bv a4)) (q + 16) 4 (bv a5)) (nI q) wc nw ds wd) H := hP
    have hD : va_D A (wH cI cS h tr sl dw cw D C (wrT (wrT (wrT (wrT (wrT T q 4 (bv a1)) (q + 4) 4 (bv a2)) (q + 8) 4 (bv a3)) (q + 12) 4 (bv a4)) (q + 16) 4 (bv a5)) (nI q) wc nw ds wd) := hD
    refine lv_aload_n hx hb dX1_feed_70 rfl (lv_at hl 0 rfl) ?_
    refine lv_dup hx hb dX1_feed_71 rfl ?_
    refine va_get (D := (dC, dI)) (ci := 1) (v := .int (nI q)) (C := RX1) (T := TX1) (N := 6) hx hb hts (by decide +kernel) hown hK hP 0 rfl rfl 3 (by decide) (hts (.fieldLink RX1 24 "FragmentHouse" "trayCount" "I") (by decide +kernel)) (fun _ h9 => h9) rfl dX1_feed_72 ?_
    refine lv_bipush (v := nI 20) hx hb dX1_feed_75 (by first | decide | rfl) ?_
    refine lv_iadd hx hb dX1_feed_77 ?_
    refine fh_top (y := nI (q + 20)) (nI_add q 20) ?_
    refine va_put (D := (dC, dI)) (ci := 1) (v := .int (nI (q + 20))) (ty := .int) (C := RX1) (T := TX1) (N := 6) hx hb hts (by decide +kernel) tyX1 tyX1_ok nmX1 hown hK hP hD hS 0 rfl rfl 3 (by decide) (hts (.fieldLink RX1 24 "FragmentHouse" "trayCount" "I") (by decide +kernel)) (fun _ h9 => h9) rfl (by decide +kernel) rfl rfl (Nat.le_of_ble_eq_true rfl) dX1_feed_78 (fun H locs hP hD hS => ?_)
    have hP : va_P (dC, dI) vwCl (wH cI cS h tr sl dw cw D C (wrT (wrT (wrT (wrT (wrT T q 4 (bv a1)) (q + 4) 4 (bv a2)) (q + 8) 4 (bv a3)) (q + 12) 4 (bv a4)) (q + 16) 4 (bv a5)) ((nI (q + 20))) wc nw ds wd) H := hP
    have hD : va_D A (wH cI cS h tr sl dw cw D C (wrT (wrT (wrT (wrT (wrT T q 4 (bv a1)) (q + 4) 4 (bv a2)) (q + 8) 4 (bv a3)) (q + 12) 4 (bv a4)) (q + 16) 4 (bv a5)) ((nI (q + 20))) wc nw ds wd) := hD
    refine lv_aload_n hx hb dX1_feed_81 rfl (lv_at hl 0 rfl) ?_
    refine va_get (D := (dC, dI)) (ci := 1) (v := .int ((nI (q + 20)))) (C := RX1) (T := TX1) (N := 6) hx hb hts (by decide +kernel) hown hK hP 0 rfl rfl 3 (by decide) (hts (.fieldLink RX1 24 "FragmentHouse" "trayCount" "I") (by decide +kernel)) (fun _ h9 => h9) rfl dX1_feed_82 ?_
    exact W.iret hx hb hr (fh_qi (fdT bv T q a1 a2 a3 a4 a5, q + 20) (Or.inr ⟨hq2, rfl, rfl⟩) hP hK hD hS) hS.2.2 dX1_feed_85
  · skip
    refine lv_iconst (v := (-1)) hx hb dX1_feed_10 (by first | decide | rfl) ?_
    exact W.iret hx hb hr (fh_qi (T, q) (Or.inl ⟨by rcases Nat.lt_or_ge 1460 q with z | z; exact z; exact absurd (nI_le z (by decide)) c7, rfl, rfl⟩) hP hK hD hS) hS.2.2 dX1_feed_11
set_option maxHeartbeats 4000000 in
set_option maxRecDepth 100000 in
/-- end -/
theorem c_end (l : Launch) (dC : Nat → ClassId) (dI : Nat → Nat → Nat) (cI cS : ClassId) (h tr sl dw cw : Nat) (D C : Nat → Nat) (T : Nat → Int32) (n wc nw : Int32) (ds : Nat → Dg) (wd : Dg) (p1 : Int32) (q : Nat) (sz : Nat) (hq : q ≤ 1480) : Met l yX1_end wsX1_end ({ frames := 0, cells := 0, slots := 0, locals := 0 }) (va_Pc [.ref h, .int p1] (PW (dC, dI) vwCl [(cI, .int), (cS, tDg)] (wH cI cS h tr sl dw cw D C T (nI q) wc nw ds wd) sz)) (va_Qi (S := Nat) (fun r u => (r = -1 ∧ (p1 < 0 ∨ ¬ p1 ≤ nI q) ∧ u = q) ∨ (∃ k, k ≤ q ∧ p1 = nI k ∧ r = nI k ∧ u = k)) (QW (dC, dI) vwCl (fun _ => [(cI, .int), (cS, tDg)]) (va_A (wH cI cS h tr sl dw cw D C T (nI q) wc nw ds wd) sz) (fun u => wH cI cS h tr sl dw cw D C T (nI u) wc nw ds wd)) (va_A (wH cI cS h tr sl dw cw D C T (nI q) wc nw ds wd) sz)) 0 0 (va_A (wH cI cS h tr sl dw cw D C T (nI q) wc nw ds wd) sz) := by
  refine Met.ofW (cc := cX1_end) (maxL := 2) (ret := (some .int)) (by decide) rfl ?_
  intro p e s m args below meth c s₁ B hml hv
  obtain ⟨rfl, hsz, hP, hK, hD0⟩ := hv
  have hx := B.exec
  have hb := B.bytes
  have hr := B.returns
  have hts := atoms_spec (ws := wsX1_end) B.pre
  have hown : s.vm.findClass RX1 = some m.cls := findClass_of_methodNamed B.named
  have hlocks := B.notSynchronized
  subst hsz
  have hD := hD0.self (sz := s.heap.size)
  generalize hAe : va_A (wH cI cS h tr sl dw cw D C T (nI q) wc nw ds wd) s.heap.size = A at hD ⊢
  have hA : ∀ q : Nat, s.heap.size ≤ q → A q := fun q h => by rw [← hAe]; exact Or.inr h
  have hS : va_S A s.heap s.heap [] := va_S.rf
  have hl := lv_entry ([.ref h, .int p1]) (n := 2) (Nat.le_of_ble_eq_true rfl)
  rw [lg_entry_eq]
  generalize (lg_sl ([.ref h, .int p1]) ++ List.replicate (2 - (lg_sl ([.ref h, .int p1])).length) Slot.unset).toArray = ls at hl ⊢
  have hl : lv_has ls 2 [(0, .ref h), (1, .int p1)] := hl
  refine fh_start (fun H hH => ?_)
  have hP : va_P (dC, dI) vwCl (wH cI cS h tr sl dw cw D C T (nI q) wc nw ds wd) H := by rw [hH]; exact hP
  have hS : va_S A s.heap H [] := by rw [hH]; exact va_S.rf
  refine lv_iload_n hx hb dX1_end_0 rfl (lv_at hl 1 rfl) ?_
  refine lv_if_lt (tgt := 12) hx hb dX1_end_1 (by decide) (fun c1 => ?_) (fun c1 => ?_)
  · skip
    refine lv_iconst (v := (-1)) hx hb dX1_end_12 (by first | decide | rfl) ?_
    exact W.iret hx hb hr (fh_qi q (Or.inl ⟨rfl, Or.inl c1, rfl⟩) hP hK hD hS) hS.2.2 dX1_end_13
  · skip
    refine lv_iload_n hx hb dX1_end_4 rfl (lv_at hl 1 rfl) ?_
    refine lv_aload_n hx hb dX1_end_5 rfl (lv_at hl 0 rfl) ?_
    refine va_get (D := (dC, dI)) (ci := 1) (v := .int (nI q)) (C := RX1) (T := TX1) (N := 6) hx hb hts (by decide +kernel) hown hK hP 0 rfl rfl 3 (by decide) (hts (.fieldLink RX1 24 "FragmentHouse" "trayCount" "I") (by decide +kernel)) (fun _ h9 => h9) rfl dX1_end_6 ?_
    refine lv_icmp_le (tgt := 14) hx hb dX1_end_9 (by decide) (fun c9 => ?_) (fun c9 => ?_)
    · skip
      obtain ⟨k, hk, rfl⟩ := nI_of c1
      refine lv_aload_n hx hb dX1_end_14 rfl (lv_at hl 0 rfl) ?_
      refine lv_iload_n hx hb dX1_end_15 rfl (lv_at hl 1 rfl) ?_
      refine va_put (D := (dC, dI)) (ci := 1) (v := .int (nI k)) (ty := .int) (C := RX1) (T := TX1) (N := 6) hx hb hts (by decide +kernel) tyX1 tyX1_ok nmX1 hown hK hP hD hS 0 rfl rfl 3 (by decide) (hts (.fieldLink RX1 24 "FragmentHouse" "trayCount" "I") (by decide +kernel)) (fun _ h9 => h9) rfl (by decide +kernel) rfl rfl (Nat.le_of_ble_eq_true rfl) dX1_end_16 (fun H locs hP hD hS => ?_)
      have hP : va_P (dC, dI) vwCl (wH cI cS h tr sl dw cw D C T ((nI k)) wc nw ds wd) H := hP
      have hD : va_D A (wH cI cS h tr sl dw cw D C T ((nI k)) wc nw ds wd) := hD
      refine lv_iload_n hx hb dX1_end_19 rfl (lv_at hl 1 rfl) ?_
      exact W.iret hx hb hr (fh_qi k (Or.inr ⟨k, (nI_leI hk (by omega)).mp c9, rfl, rfl, rfl⟩) hP hK hD hS) hS.2.2 dX1_end_20
    · skip
      refine lv_iconst (v := (-1)) hx hb dX1_end_12 (by first | decide | rfl) ?_
      exact W.iret hx hb hr (fh_qi q (Or.inl ⟨rfl, Or.inr c9, rfl⟩) hP hK hD hS) hS.2.2 dX1_end_13
set_option maxHeartbeats 4000000 in
set_option maxRecDepth 100000 in
/-- isSound -/
theorem c_isSound (l : Launch) (dC : Nat → ClassId) (dI : Nat → Nat → Nat) (tys : List (ClassId × FieldType)) (a b : Nat) (p2 : Int32) (sz : Nat) (ha : a ≤ 65528) (hbb : b ≤ 1480) : Met l yX1_isSound wsX1_isSound ({ frames := 0, cells := 0, slots := 0, locals := 0 }) (va_Pc [.int (nI a), .int (nI b), .int p2] (PW (dC, dI) vwCl tys ([]) sz)) (va_Qi (S := Unit) (fun r _ => (r = 1 ∧ Snd a b p2) ∨ (r = 0 ∧ ¬ Snd a b p2)) (QW (dC, dI) vwCl (fun _ => tys) (va_A ([]) sz) (fun _ => [])) (va_A ([]) sz)) 0 0 (va_A ([]) sz) := by
  refine Met.ofW (cc := cX1_isSound) (maxL := 3) (ret := (some .boolean)) (by decide) rfl ?_
  intro p e s m args below meth c s₁ B hml hv
  obtain ⟨rfl, hsz, hP, hK, hD0⟩ := hv
  have hx := B.exec
  have hb := B.bytes
  have hr := B.returns
  have hts := atoms_spec (ws := wsX1_isSound) B.pre
  have hown : s.vm.findClass RX1 = some m.cls := findClass_of_methodNamed B.named
  have hlocks := B.notSynchronized
  subst hsz
  have hD := hD0.self (sz := s.heap.size)
  generalize hAe : va_A ([]) s.heap.size = A at hD ⊢
  have hA : ∀ q : Nat, s.heap.size ≤ q → A q := fun q h => by rw [← hAe]; exact Or.inr h
  have hS : va_S A s.heap s.heap [] := va_S.rf
  have hl := lv_entry ([.int (nI a), .int (nI b), .int p2]) (n := 3) (Nat.le_of_ble_eq_true rfl)
  rw [lg_entry_eq]
  generalize (lg_sl ([.int (nI a), .int (nI b), .int p2]) ++ List.replicate (3 - (lg_sl ([.int (nI a), .int (nI b), .int p2])).length) Slot.unset).toArray = ls at hl ⊢
  have hl : lv_has ls 3 [(0, .int (nI a)), (1, .int (nI b)), (2, .int p2)] := hl
  refine fh_start (fun H hH => ?_)
  have hP : va_P (dC, dI) vwCl ([]) H := by rw [hH]; exact hP
  have hS : va_S A s.heap H [] := by rw [hH]; exact va_S.rf
  refine lv_iload_n hx hb dX1_isSound_0 rfl (lv_at hl 0 rfl) ?_
  refine lv_iload_n hx hb dX1_isSound_1 rfl (lv_at hl 1 rfl) ?_
  refine lv_iadd hx hb dX1_isSound_2 ?_
  refine fh_top (y := nI (a + b)) (nI_add a b) ?_
  refine lv_sipush (v := nI 4096) hx hb dX1_isSound_3 (by first | decide | rfl) ?_
  refine lv_icmp_le (tgt := 11) hx hb dX1_isSound_6 (by decide) (fun c6 => ?_) (fun c6 => ?_)
  · skip
    have h6 : a + b ≤ 4096 := (nI_leI (by omega) (by decide)).mp c6
    refine lv_iload_n hx hb dX1_isSound_11 rfl (lv_at hl 2 rfl) ?_
    refine lv_if_ne (tgt := 26) hx hb dX1_isSound_12 (by decide) (fun c12 => ?_) (fun c12 => ?_)
    · skip
      refine lv_iconst (v := 1) hx hb dX1_isSound_26 (by first | decide | rfl) ?_
      refine lv_goto (tgt := 31) hx hb dX1_isSound_27 (by decide) ?_
      exact W.zret hx hb hr rfl (fh_qi () (Or.inl ⟨rfl, h6, Or.inl c12⟩) hP hK hD hS) hS.2.2 dX1_isSound_31
    · skip
      refine lv_iload_n hx hb dX1_isSound_15 rfl (lv_at hl 1 rfl) ?_
      refine lv_if_le (tgt := 30) hx hb dX1_isSound_16 (by decide) (fun c16 => ?_) (fun c16 => ?_)
      · skip
        refine lv_iconst (v := 0) hx hb dX1_isSound_30 (by first | decide | rfl) ?_
        exact W.zret hx hb hr rfl (fh_qi () (Or.inr ⟨rfl, fun q => q.2.elim (fun z => z c12) (fun z => nI_nle z.1 (by omega) c16)⟩) hP hK hD hS) hS.2.2 dX1_isSound_31
      · skip
        have hb0 : 0 < b := by rcases Nat.eq_zero_or_pos b with z | z; subst z; exact absurd (by decide) c16; exact z
        refine lv_iload_n hx hb dX1_isSound_19 rfl (lv_at hl 1 rfl) ?_
        refine lv_bipush (v := nI 8) hx hb dX1_isSound_20 (by first | decide | rfl) ?_
        refine lv_irem hx hb dX1_isSound_22 (by decide) ?_
        refine fh_top (y := nI (b % 8)) (pk_rem (by omega) (by decide) (by decide)) ?_
        refine lv_if_ne (tgt := 30) hx hb dX1_isSound_23 (by decide) (fun c23 => ?_) (fun c23 => ?_)
        · skip
          refine lv_iconst (v := 0) hx hb dX1_isSound_30 (by first | decide | rfl) ?_
          exact W.zret hx hb hr rfl (fh_qi () (Or.inr ⟨rfl, fun q => q.2.elim (fun z => z c12) (fun z => c23 (by rw [z.2]; rfl))⟩) hP hK hD hS) hS.2.2 dX1_isSound_31
        · skip
          have hb8 : b % 8 = 0 := by rcases Nat.eq_zero_or_pos (b % 8) with z | z; exact z; exact absurd c23 (nI_ne0 z (by omega))
          refine lv_iconst (v := 1) hx hb dX1_isSound_26 (by first | decide | rfl) ?_
          refine lv_goto (tgt := 31) hx hb dX1_isSound_27 (by decide) ?_
          exact W.zret hx hb hr rfl (fh_qi () (Or.inl ⟨rfl, h6, Or.inr ⟨hb0, hb8⟩⟩) hP hK hD hS) hS.2.2 dX1_isSound_31
  · skip
    refine lv_iconst (v := 0) hx hb dX1_isSound_9 (by first | decide | rfl) ?_
    exact W.zret hx hb hr rfl (fh_qi () (Or.inr ⟨rfl, fun q => c6 (nI_le q.1 (by decide))⟩) hP hK hD hS) hS.2.2 dX1_isSound_10
set_option maxHeartbeats 4000000 in
set_option maxRecDepth 100000 in
/-- making -/
theorem c_making (l : Launch) (dC : Nat → ClassId) (dI : Nat → Nat → Nat) (cI cS : ClassId) (h tr sl dw cw : Nat) (D C : Nat → Nat) (T : Nat → Int32) (n wc nw : Int32) (ds : Nat → Dg) (wd : Dg) (sz : Nat)  : Met l yX1_making wsX1_making ({ frames := 0, cells := 0, slots := 0, locals := 0 }) (va_Pc [.ref h] (PW (dC, dI) vwCl [(cI, .int), (cS, tDg)] (wH cI cS h tr sl dw cw D C T n wc nw ds wd) sz)) (va_Qi (S := Unit) (fun r _ => r = nI (mkC ds 4)) (QW (dC, dI) vwCl (fun _ => [(cI, .int), (cS, tDg)]) (va_A (wH cI cS h tr sl dw cw D C T n wc nw ds wd) sz) (fun _ => wH cI cS h tr sl dw cw D C T n wc nw ds wd)) (va_A (wH cI cS h tr sl dw cw D C T n wc nw ds wd) sz)) 0 0 (va_A (wH cI cS h tr sl dw cw D C T n wc nw ds wd) sz) := by
  refine Met.ofW (cc := cX1_making) (maxL := 3) (ret := (some .int)) (by decide) rfl ?_
  intro p e s m args below meth c s₁ B hml hv
  obtain ⟨rfl, hsz, hP, hK, hD0⟩ := hv
  have hx := B.exec
  have hb := B.bytes
  have hr := B.returns
  have hts := atoms_spec (ws := wsX1_making) B.pre
  have hown : s.vm.findClass RX1 = some m.cls := findClass_of_methodNamed B.named
  have hlocks := B.notSynchronized
  subst hsz
  have hD := hD0.self (sz := s.heap.size)
  generalize hAe : va_A (wH cI cS h tr sl dw cw D C T n wc nw ds wd) s.heap.size = A at hD ⊢
  have hA : ∀ q : Nat, s.heap.size ≤ q → A q := fun q h => by rw [← hAe]; exact Or.inr h
  have hS : va_S A s.heap s.heap [] := va_S.rf
  have hl := lv_entry ([.ref h]) (n := 3) (Nat.le_of_ble_eq_true rfl)
  rw [lg_entry_eq]
  generalize (lg_sl ([.ref h]) ++ List.replicate (3 - (lg_sl ([.ref h])).length) Slot.unset).toArray = ls at hl ⊢
  have hl : lv_has ls 3 [(0, .ref h)] := hl
  refine fh_start (fun H hH => ?_)
  have hP : va_P (dC, dI) vwCl (wH cI cS h tr sl dw cw D C T n wc nw ds wd) H := by rw [hH]; exact hP
  have hS : va_S A s.heap H [] := by rw [hH]; exact va_S.rf
  refine lv_iconst (v := nI (mkC ds 0)) hx hb dX1_making_0 (by first | decide | rfl) ?_
  refine lv_istore_n (lv' := [(1, .int (nI (mkC ds 0))), (0, .ref h)]) hx hb dX1_making_1 rfl hl (by decide) rfl (fun ls hl => ?_)
  refine lv_iconst (v := nI 0) hx hb dX1_making_2 (by first | decide | rfl) ?_
  refine lv_istore_n (lv' := [(2, .int (nI 0)), (1, .int (nI (mkC ds 0))), (0, .ref h)]) hx hb dX1_making_3 rfl hl (by decide) rfl (fun ls hl => ?_)
  refine fh_loop (σ := Nat) (fun q9 H locs ls => (q9 ≤ 4) ∧ va_P (dC, dI) vwCl (wH cI cS h tr sl dw cw D C T n wc nw ds wd) H ∧ va_D A (wH cI cS h tr sl dw cw D C T n wc nw ds wd) ∧ va_S A s.heap H locs ∧ lv_has ls 3 [(0, .ref h), (1, .int (nI (mkC ds q9))), (2, .int (nI q9))]) (fun q9 => 4 - q9) ?_ (0) ⟨Nat.zero_le _, hP, hD, hS, lv_sub hl [2, 1, 0] rfl⟩
  intro q9 H locs ls hI ih
  obtain ⟨k, rfl⟩ : ∃ z, z = q9 := ⟨_, rfl⟩
  obtain ⟨hk, hP, hD, hS, hl⟩ : (k ≤ 4) ∧ va_P (dC, dI) vwCl (wH cI cS h tr sl dw cw D C T n wc nw ds wd) H ∧ va_D A (wH cI cS h tr sl dw cw D C T n wc nw ds wd) ∧ va_S A s.heap H locs ∧ lv_has ls 3 [(0, .ref h), (1, .int (nI (mkC ds k))), (2, .int (nI k))] := hI
  refine lv_iload_n hx hb dX1_making_4 rfl (lv_at hl 2 rfl) ?_
  refine lv_iconst (v := nI 4) hx hb dX1_making_5 (by first | decide | rfl) ?_
  refine lv_icmp_ge (tgt := 30) hx hb dX1_making_6 (by decide) (fun c6 => ?_) (fun c6 => ?_)
  · skip
    refine lv_iload_n hx hb dX1_making_30 rfl (lv_at hl 1 rfl) ?_
    obtain rfl : k = 4 := Nat.le_antisymm hk ((nI_leI (by omega) (by omega)).mp c6)
    exact W.iret hx hb hr (fh_qi () rfl hP hK hD hS) hS.2.2 dX1_making_31
  · skip
    have hlt : k < 4 := Nat.lt_of_not_le (fun h => c6 (nI_le h (by omega)))
    refine lv_aload_n hx hb dX1_making_9 rfl (lv_at hl 0 rfl) ?_
    refine va_get (D := (dC, dI)) (ci := 1) (v := .ref sl) (C := RX1) (T := TX1) (N := 6) hx hb hts (by decide +kernel) hown hK hP 0 rfl rfl 1 (by decide) (hts (.fieldLink RX1 15 "FragmentHouse" "slots" "[LFragmentHouse$Datagram;") (by decide +kernel)) (fun _ h9 => h9) rfl dX1_making_10 ?_
    refine lv_iload_n hx hb dX1_making_13 rfl (lv_at hl 2 rfl) ?_
    refine fh_aald (k := k) hx hb hK hP 2 1 rfl rfl hlt (by decide) rfl dX1_making_14 ?_
    refine va_get (D := (dC, dI)) (ci := 0) (v := .int ((ds k).1 1)) (C := RX0) (T := TX0) (N := 9) hx hb hts (by decide +kernel) hown hK hP (5 + 2 * k) (wH_o hlt) rfl 1 (by decide) (hts (.fieldLink RX1 51 "FragmentHouse$Datagram" "inMaking" "Z") (by decide +kernel)) (fun _ h9 => h9) rfl dX1_making_15 ?_
    refine lv_if_eq (tgt := 24) hx hb dX1_making_18 (by decide) (fun c18 => ?_) (fun c18 => ?_)
    · skip
      refine lv_iinc (v := (nI (k + 1))) (lv' := [(2, .int (nI (k + 1))), (0, .ref h), (1, .int (nI (mkC ds k)))]) hx hb dX1_making_24 hl (k := 2) rfl (nI_1 k) (by decide) rfl (fun ls hl => ?_)
      refine lv_goto (tgt := 4) hx hb dX1_making_27 (by decide) ?_
      rw [← mkC_s2 c18] at hl
      exact ih (k + 1) _ _ _ ⟨hlt, hP, hD, hS, lv_sub hl [1, 2, 0] rfl⟩ (by show 4 - (k + 1) < 4 - k; omega)
    · skip
      refine lv_iinc (v := (nI ((mkC ds k) + 1))) (lv' := [(1, .int (nI ((mkC ds k) + 1))), (0, .ref h), (2, .int (nI k))]) hx hb dX1_making_21 hl (k := 1) rfl (nI_1 ((mkC ds k))) (by decide) rfl (fun ls hl => ?_)
      refine lv_iinc (v := (nI (k + 1))) (lv' := [(2, .int (nI (k + 1))), (1, .int (nI ((mkC ds k) + 1))), (0, .ref h)]) hx hb dX1_making_24 hl (k := 2) rfl (nI_1 k) (by decide) rfl (fun ls hl => ?_)
      refine lv_goto (tgt := 4) hx hb dX1_making_27 (by decide) ?_
      rw [← mkC_s1 c18] at hl
      exact ih (k + 1) _ _ _ ⟨hlt, hP, hD, hS, lv_sub hl [2, 1, 0] rfl⟩ (by show 4 - (k + 1) < 4 - k; omega)
set_option maxHeartbeats 4000000 in
set_option maxRecDepth 100000 in
/-- made -/
theorem c_made (l : Launch) (dC : Nat → ClassId) (dI : Nat → Nat → Nat) (cI cS : ClassId) (h tr sl dw cw : Nat) (D C : Nat → Nat) (T : Nat → Int32) (n wc nw : Int32) (ds : Nat → Dg) (wd : Dg) (sz : Nat)  : Met l yX1_made wsX1_made ({ frames := 0, cells := 0, slots := 0, locals := 0 }) (va_Pc [.ref h] (PW (dC, dI) vwCl [(cI, .int), (cS, tDg)] (wH cI cS h tr sl dw cw D C T n wc nw ds wd) sz)) (va_Qi (S := Unit) (fun r _ => r = wc) (QW (dC, dI) vwCl (fun _ => [(cI, .int), (cS, tDg)]) (va_A (wH cI cS h tr sl dw cw D C T n wc nw ds wd) sz) (fun _ => wH cI cS h tr sl dw cw D C T n wc nw ds wd)) (va_A (wH cI cS h tr sl dw cw D C T n wc nw ds wd) sz)) 0 0 (va_A (wH cI cS h tr sl dw cw D C T n wc nw ds wd) sz) := by
  refine Met.ofW (cc := cX1_made) (maxL := 1) (ret := (some .int)) (by decide) rfl ?_
  intro p e s m args below meth c s₁ B hml hv
  obtain ⟨rfl, hsz, hP, hK, hD0⟩ := hv
  have hx := B.exec
  have hb := B.bytes
  have hr := B.returns
  have hts := atoms_spec (ws := wsX1_made) B.pre
  have hown : s.vm.findClass RX1 = some m.cls := findClass_of_methodNamed B.named
  have hlocks := B.notSynchronized
  subst hsz
  have hD := hD0.self (sz := s.heap.size)
  generalize hAe : va_A (wH cI cS h tr sl dw cw D C T n wc nw ds wd) s.heap.size = A at hD ⊢
  have hA : ∀ q : Nat, s.heap.size ≤ q → A q := fun q h => by rw [← hAe]; exact Or.inr h
  have hS : va_S A s.heap s.heap [] := va_S.rf
  have hl := lv_entry ([.ref h]) (n := 1) (Nat.le_of_ble_eq_true rfl)
  rw [lg_entry_eq]
  generalize (lg_sl ([.ref h]) ++ List.replicate (1 - (lg_sl ([.ref h])).length) Slot.unset).toArray = ls at hl ⊢
  have hl : lv_has ls 1 [(0, .ref h)] := hl
  refine fh_start (fun H hH => ?_)
  have hP : va_P (dC, dI) vwCl (wH cI cS h tr sl dw cw D C T n wc nw ds wd) H := by rw [hH]; exact hP
  have hS : va_S A s.heap H [] := by rw [hH]; exact va_S.rf
  refine lv_aload_n hx hb dX1_made_0 rfl (lv_at hl 0 rfl) ?_
  refine va_get (D := (dC, dI)) (ci := 1) (v := .int wc) (C := RX1) (T := TX1) (N := 6) hx hb hts (by decide +kernel) hown hK hP 0 rfl rfl 4 (by decide) (hts (.fieldLink RX1 28 "FragmentHouse" "wholeCount" "I") (by decide +kernel)) (fun _ h9 => h9) rfl dX1_made_1 ?_
  exact W.iret hx hb hr (fh_qi () rfl hP hK hD hS) hS.2.2 dX1_made_4
set_option maxHeartbeats 4000000 in
set_option maxRecDepth 100000 in
/-- length -/
theorem c_length (l : Launch) (dC : Nat → ClassId) (dI : Nat → Nat → Nat) (cI cS : ClassId) (h tr sl dw cw : Nat) (D C : Nat → Nat) (T : Nat → Int32) (n wc nw : Int32) (ds : Nat → Dg) (wd : Dg) (sz : Nat)  : Met l yX1_length wsX1_length ({ frames := 0, cells := 0, slots := 0, locals := 0 }) (va_Pc [.ref h] (PW (dC, dI) vwCl [(cI, .int), (cS, tDg)] (wH cI cS h tr sl dw cw D C T n wc nw ds wd) sz)) (va_Qi (S := Unit) (fun r _ => r = wd.1 6) (QW (dC, dI) vwCl (fun _ => [(cI, .int), (cS, tDg)]) (va_A (wH cI cS h tr sl dw cw D C T n wc nw ds wd) sz) (fun _ => wH cI cS h tr sl dw cw D C T n wc nw ds wd)) (va_A (wH cI cS h tr sl dw cw D C T n wc nw ds wd) sz)) 0 0 (va_A (wH cI cS h tr sl dw cw D C T n wc nw ds wd) sz) := by
  refine Met.ofW (cc := cX1_length) (maxL := 1) (ret := (some .int)) (by decide) rfl ?_
  intro p e s m args below meth c s₁ B hml hv
  obtain ⟨rfl, hsz, hP, hK, hD0⟩ := hv
  have hx := B.exec
  have hb := B.bytes
  have hr := B.returns
  have hts := atoms_spec (ws := wsX1_length) B.pre
  have hown : s.vm.findClass RX1 = some m.cls := findClass_of_methodNamed B.named
  have hlocks := B.notSynchronized
  subst hsz
  have hD := hD0.self (sz := s.heap.size)
  generalize hAe : va_A (wH cI cS h tr sl dw cw D C T n wc nw ds wd) s.heap.size = A at hD ⊢
  have hA : ∀ q : Nat, s.heap.size ≤ q → A q := fun q h => by rw [← hAe]; exact Or.inr h
  have hS : va_S A s.heap s.heap [] := va_S.rf
  have hl := lv_entry ([.ref h]) (n := 1) (Nat.le_of_ble_eq_true rfl)
  rw [lg_entry_eq]
  generalize (lg_sl ([.ref h]) ++ List.replicate (1 - (lg_sl ([.ref h])).length) Slot.unset).toArray = ls at hl ⊢
  have hl : lv_has ls 1 [(0, .ref h)] := hl
  refine fh_start (fun H hH => ?_)
  have hP : va_P (dC, dI) vwCl (wH cI cS h tr sl dw cw D C T n wc nw ds wd) H := by rw [hH]; exact hP
  have hS : va_S A s.heap H [] := by rw [hH]; exact va_S.rf
  refine lv_aload_n hx hb dX1_length_0 rfl (lv_at hl 0 rfl) ?_
  refine va_get (D := (dC, dI)) (ci := 1) (v := .ref dw) (C := RX1) (T := TX1) (N := 6) hx hb hts (by decide +kernel) hown hK hP 0 rfl rfl 2 (by decide) (hts (.fieldLink RX1 20 "FragmentHouse" "latestWhole" "LFragmentHouse$Datagram;") (by decide +kernel)) (fun _ h9 => h9) rfl dX1_length_1 ?_
  refine va_get (D := (dC, dI)) (ci := 0) (v := .int (wd.1 6)) (C := RX0) (T := TX0) (N := 9) hx hb hts (by decide +kernel) hown hK hP 3 rfl rfl 6 (by decide) (hts (.fieldLink RX1 58 "FragmentHouse$Datagram" "knownEnd" "I") (by decide +kernel)) (fun _ h9 => h9) rfl dX1_length_4 ?_
  exact W.iret hx hb hr (fh_qi () rfl hP hK hD hS) hS.2.2 dX1_length_7
set_option maxHeartbeats 4000000 in
set_option maxRecDepth 100000 in
/-- at -/
theorem c_at (l : Launch) (dC : Nat → ClassId) (dI : Nat → Nat → Nat) (cI cS : ClassId) (h tr sl dw cw : Nat) (D C : Nat → Nat) (T : Nat → Int32) (n wc nw : Int32) (ds : Nat → Dg) (wd : Dg) (p1 : Int32) (sz : Nat) (hw6 : wd.1 6 ≤ nI 4096) : Met l yX1_at wsX1_at ({ frames := 0, cells := 0, slots := 0, locals := 0 }) (va_Pc [.ref h, .int p1] (PW (dC, dI) vwCl [(cI, .int), (cS, tDg)] (wH cI cS h tr sl dw cw D C T n wc nw ds wd) sz)) (va_Qi (S := Unit) (fun r _ => (r = -1 ∧ (p1 < 0 ∨ ¬ p1 < wd.1 6)) ∨ (∃ k, k < 4096 ∧ p1 = nI k ∧ nI k < wd.1 6 ∧ r = wd.2 k)) (QW (dC, dI) vwCl (fun _ => [(cI, .int), (cS, tDg)]) (va_A (wH cI cS h tr sl dw cw D C T n wc nw ds wd) sz) (fun _ => wH cI cS h tr sl dw cw D C T n wc nw ds wd)) (va_A (wH cI cS h tr sl dw cw D C T n wc nw ds wd) sz)) 0 0 (va_A (wH cI cS h tr sl dw cw D C T n wc nw ds wd) sz) := by
  refine Met.ofW (cc := cX1_at) (maxL := 2) (ret := (some .int)) (by decide) rfl ?_
  intro p e s m args below meth c s₁ B hml hv
  obtain ⟨rfl, hsz, hP, hK, hD0⟩ := hv
  have hx := B.exec
  have hb := B.bytes
  have hr := B.returns
  have hts := atoms_spec (ws := wsX1_at) B.pre
  have hown : s.vm.findClass RX1 = some m.cls := findClass_of_methodNamed B.named
  have hlocks := B.notSynchronized
  subst hsz
  have hD := hD0.self (sz := s.heap.size)
  generalize hAe : va_A (wH cI cS h tr sl dw cw D C T n wc nw ds wd) s.heap.size = A at hD ⊢
  have hA : ∀ q : Nat, s.heap.size ≤ q → A q := fun q h => by rw [← hAe]; exact Or.inr h
  have hS : va_S A s.heap s.heap [] := va_S.rf
  have hl := lv_entry ([.ref h, .int p1]) (n := 2) (Nat.le_of_ble_eq_true rfl)
  rw [lg_entry_eq]
  generalize (lg_sl ([.ref h, .int p1]) ++ List.replicate (2 - (lg_sl ([.ref h, .int p1])).length) Slot.unset).toArray = ls at hl ⊢
  have hl : lv_has ls 2 [(0, .ref h), (1, .int p1)] := hl
  refine fh_start (fun H hH => ?_)
  have hP : va_P (dC, dI) vwCl (wH cI cS h tr sl dw cw D C T n wc nw ds wd) H := by rw [hH]; exact hP
  have hS : va_S A s.heap H [] := by rw [hH]; exact va_S.rf
  refine lv_iload_n hx hb dX1_at_0 rfl (lv_at hl 1 rfl) ?_
  refine lv_if_lt (tgt := 15) hx hb dX1_at_1 (by decide) (fun c1 => ?_) (fun c1 => ?_)
  · skip
    refine lv_iconst (v := (-1)) hx hb dX1_at_15 (by first | decide | rfl) ?_
    exact W.iret hx hb hr (fh_qi () (Or.inl ⟨rfl, Or.inl c1⟩) hP hK hD hS) hS.2.2 dX1_at_16
  · skip
    refine lv_iload_n hx hb dX1_at_4 rfl (lv_at hl 1 rfl) ?_
    refine lv_aload_n hx hb dX1_at_5 rfl (lv_at hl 0 rfl) ?_
    refine va_get (D := (dC, dI)) (ci := 1) (v := .ref dw) (C := RX1) (T := TX1) (N := 6) hx hb hts (by decide +kernel) hown hK hP 0 rfl rfl 2 (by decide) (hts (.fieldLink RX1 20 "FragmentHouse" "latestWhole" "LFragmentHouse$Datagram;") (by decide +kernel)) (fun _ h9 => h9) rfl dX1_at_6 ?_
    refine va_get (D := (dC, dI)) (ci := 0) (v := .int (wd.1 6)) (C := RX0) (T := TX0) (N := 9) hx hb hts (by decide +kernel) hown hK hP 3 rfl rfl 6 (by decide) (hts (.fieldLink RX1 58 "FragmentHouse$Datagram" "knownEnd" "I") (by decide +kernel)) (fun _ h9 => h9) rfl dX1_at_9 ?_
    refine lv_icmp_lt (tgt := 17) hx hb dX1_at_12 (by decide) (fun c12 => ?_) (fun c12 => ?_)
    · skip
      obtain ⟨k, hk0, rfl⟩ := nI_of c1
      have hk : k < 4096 := (nI_ltI hk0 (by decide)).mp (Int32.lt_of_lt_of_le c12 hw6)
      refine lv_aload_n hx hb dX1_at_17 rfl (lv_at hl 0 rfl) ?_
      refine va_get (D := (dC, dI)) (ci := 1) (v := .ref dw) (C := RX1) (T := TX1) (N := 6) hx hb hts (by decide +kernel) hown hK hP 0 rfl rfl 2 (by decide) (hts (.fieldLink RX1 20 "FragmentHouse" "latestWhole" "LFragmentHouse$Datagram;") (by decide +kernel)) (fun _ h9 => h9) rfl dX1_at_18 ?_
      refine va_get (D := (dC, dI)) (ci := 0) (v := .ref cw) (C := RX0) (T := TX0) (N := 9) hx hb hts (by decide +kernel) hown hK hP 3 rfl rfl 0 (by decide) (hts (.fieldLink RX1 61 "FragmentHouse$Datagram" "cells" "[I") (by decide +kernel)) (fun _ h9 => h9) rfl dX1_at_21 ?_
      refine lv_iload_n hx hb dX1_at_24 rfl (lv_at hl 1 rfl) ?_
      refine fh_iald (k := k) hx hb hK hP 4 0 rfl rfl hk (by first | decide | omega) dX1_at_25 ?_
      exact W.iret hx hb hr (fh_qi () (Or.inr ⟨k, hk, rfl, c12, rfl⟩) hP hK hD hS) hS.2.2 dX1_at_26
    · skip
      refine lv_iconst (v := (-1)) hx hb dX1_at_15 (by first | decide | rfl) ?_
      exact W.iret hx hb hr (fh_qi () (Or.inl ⟨rfl, Or.inr c12⟩) hP hK hD hS) hS.2.2 dX1_at_16
set_option maxHeartbeats 4000000 in
set_option maxRecDepth 100000 in
/-- pass -/
theorem c_pass (l : Launch) (dC : Nat → ClassId) (dI : Nat → Nat → Nat) (cI cS : ClassId) (h tr sl dw cw : Nat) (D C : Nat → Nat) (T : Nat → Int32) (n wc nw : Int32) (ds : Nat → Dg) (wd : Dg) (p1 : Int32) (sz : Nat)  : Met l yX1_pass wsX1_pass ({ frames := 0, cells := 0, slots := 0, locals := 0 }) (va_Pc [.ref h, .int p1] (PW (dC, dI) vwCl [(cI, .int), (cS, tDg)] (wH cI cS h tr sl dw cw D C T n wc nw ds wd) sz)) (va_Qi (S := (Nat → Dg) × Int32) (fun r u => (r = -1 ∧ (p1 < nw ∨ ¬ p1 ≤ 2000000000) ∧ u = (ds, nw)) ∨ (¬ p1 < nw ∧ p1 ≤ 2000000000 ∧ r = nI (psC p1 ds 4) ∧ u = (psD p1 ds 4, p1))) (QW (dC, dI) vwCl (fun _ => [(cI, .int), (cS, tDg)]) (va_A (wH cI cS h tr sl dw cw D C T n wc nw ds wd) sz) (fun u => wH cI cS h tr sl dw cw D C T n wc u.2 u.1 wd)) (va_A (wH cI cS h tr sl dw cw D C T n wc nw ds wd) sz)) 0 0 (va_A (wH cI cS h tr sl dw cw D C T n wc nw ds wd) sz) := by
  refine Met.ofW (cc := cX1_pass) (maxL := 4) (ret := (some .int)) (by decide) rfl ?_
  intro p e s m args below meth c s₁ B hml hv
  obtain ⟨rfl, hsz, hP, hK, hD0⟩ := hv
  have hx := B.exec
  have hb := B.bytes
  have hr := B.returns
  have hts := atoms_spec (ws := wsX1_pass) B.pre
  have hown : s.vm.findClass RX1 = some m.cls := findClass_of_methodNamed B.named
  have hlocks := B.notSynchronized
  subst hsz
  have hD := hD0.self (sz := s.heap.size)
  generalize hAe : va_A (wH cI cS h tr sl dw cw D C T n wc nw ds wd) s.heap.size = A at hD ⊢
  have hA : ∀ q : Nat, s.heap.size ≤ q → A q := fun q h => by rw [← hAe]; exact Or.inr h
  have hS : va_S A s.heap s.heap [] := va_S.rf
  have hl := lv_entry ([.ref h, .int p1]) (n := 4) (Nat.le_of_ble_eq_true rfl)
  rw [lg_entry_eq]
  generalize (lg_sl ([.ref h, .int p1]) ++ List.replicate (4 - (lg_sl ([.ref h, .int p1])).length) Slot.unset).toArray = ls at hl ⊢
  have hl : lv_has ls 4 [(0, .ref h), (1, .int p1)] := hl
  refine fh_start (fun H hH => ?_)
  have hP : va_P (dC, dI) vwCl (wH cI cS h tr sl dw cw D C T n wc nw ds wd) H := by rw [hH]; exact hP
  have hS : va_S A s.heap H [] := by rw [hH]; exact va_S.rf
  refine lv_iload_n hx hb dX1_pass_0 rfl (lv_at hl 1 rfl) ?_
  refine lv_aload_n hx hb dX1_pass_1 rfl (lv_at hl 0 rfl) ?_
  refine va_get (D := (dC, dI)) (ci := 1) (v := .int nw) (C := RX1) (T := TX1) (N := 6) hx hb hts (by decide +kernel) hown hK hP 0 rfl rfl 5 (by decide) (hts (.fieldLink RX1 31 "FragmentHouse" "now" "I") (by decide +kernel)) (fun _ h9 => h9) rfl dX1_pass_2 ?_
  refine lv_icmp_lt (tgt := 14) hx hb dX1_pass_5 (by decide) (fun c5 => ?_) (fun c5 => ?_)
  · skip
    refine lv_iconst (v := (-1)) hx hb dX1_pass_14 (by first | decide | rfl) ?_
    exact W.iret hx hb hr (fh_qi (ds, nw) (Or.inl ⟨rfl, Or.inl c5, rfl⟩) hP hK hD hS) hS.2.2 dX1_pass_15
  · skip
    refine lv_iload_n hx hb dX1_pass_8 rfl (lv_at hl 1 rfl) ?_
    refine lv_ldc (v := 2000000000) hx hb hown (hts (.constant RX1 50 (2000000000)) (by decide +kernel)) dX1_pass_9 ?_
    refine lv_icmp_le (tgt := 16) hx hb dX1_pass_11 (by decide) (fun c11 => ?_) (fun c11 => ?_)
    · skip
      refine lv_aload_n hx hb dX1_pass_16 rfl (lv_at hl 0 rfl) ?_
      refine lv_iload_n hx hb dX1_pass_17 rfl (lv_at hl 1 rfl) ?_
      refine va_put (D := (dC, dI)) (ci := 1) (v := .int p1) (ty := .int) (C := RX1) (T := TX1) (N := 6) hx hb hts (by decide +kernel) tyX1 tyX1_ok nmX1 hown hK hP hD hS 0 rfl rfl 5 (by decide) (hts (.fieldLink RX1 31 "FragmentHouse" "now" "I") (by decide +kernel)) (fun _ h9 => h9) rfl (by decide +kernel) rfl rfl (Nat.le_of_ble_eq_true rfl) dX1_pass_18 (fun H locs hP hD hS => ?_)
      have hP : va_P (dC, dI) vwCl (wH cI cS h tr sl dw cw D C T n wc p1 ds wd) H := hP
      have hD : va_D A (wH cI cS h tr sl dw cw D C T n wc p1 ds wd) := hD
      refine lv_iconst (v := nI (psC p1 ds 0)) hx hb dX1_pass_21 (by first | decide | rfl) ?_
      refine lv_istore_n (lv' := [(2, .int (nI (psC p1 ds 0))), (0, .ref h), (1, .int p1)]) hx hb dX1_pass_22 rfl hl (by decide) rfl (fun ls hl => ?_)
      refine lv_iconst (v := nI 0) hx hb dX1_pass_23 (by first | decide | rfl) ?_
      refine lv_istore_n (lv' := [(3, .int (nI 0)), (2, .int (nI (psC p1 ds 0))), (0, .ref h), (1, .int p1)]) hx hb dX1_pass_24 rfl hl (by decide) rfl (fun ls hl => ?_)
      have hP : va_P (dC, dI) vwCl (wH cI cS h tr sl dw cw D C T n wc p1 (psD p1 ds 0) wd) H := by rw [psD_0]; exact hP
      have hD : va_D A (wH cI cS h tr sl dw cw D C T n wc p1 (psD p1 ds 0) wd) := by rw [psD_0]; exact hD
      refine fh_loop (σ := Nat) (fun q9 H locs ls => (q9 ≤ 4) ∧ va_P (dC, dI) vwCl (wH cI cS h tr sl dw cw D C T n wc p1 (psD p1 ds q9) wd) H ∧ va_D A (wH cI cS h tr sl dw cw D C T n wc p1 (psD p1 ds q9) wd) ∧ va_S A s.heap H locs ∧ lv_has ls 4 [(0, .ref h), (1, .int p1), (2, .int (nI (psC p1 ds q9))), (3, .int (nI q9))]) (fun q9 => 4 - q9) ?_ (0) ⟨Nat.zero_le _, hP, hD, hS, lv_sub hl [2, 3, 1, 0] rfl⟩
      intro q9 H locs ls hI ih
      obtain ⟨k, rfl⟩ : ∃ z, z = q9 := ⟨_, rfl⟩
      obtain ⟨hk, hP, hD, hS, hl⟩ : (k ≤ 4) ∧ va_P (dC, dI) vwCl (wH cI cS h tr sl dw cw D C T n wc p1 (psD p1 ds k) wd) H ∧ va_D A (wH cI cS h tr sl dw cw D C T n wc p1 (psD p1 ds k) wd) ∧ va_S A s.heap H locs ∧ lv_has ls 4 [(0, .ref h), (1, .int p1), (2, .int (nI (psC p1 ds k))), (3, .int (nI k))] := hI
      refine lv_iload_n hx hb dX1_pass_25 rfl (lv_at hl 3 rfl) ?_
      refine lv_iconst (v := nI 4) hx hb dX1_pass_26 (by first | decide | rfl) ?_
      refine lv_icmp_ge (tgt := 81) hx hb dX1_pass_27 (by decide) (fun c27 => ?_) (fun c27 => ?_)
      · skip
        refine lv_iload_n hx hb dX1_pass_81 rfl (lv_at hl 2 rfl) ?_
        obtain rfl : k = 4 := Nat.le_antisymm hk ((nI_leI (by omega) (by omega)).mp c27)
        exact W.iret hx hb hr (fh_qi (psD p1 ds 4, p1) (Or.inr ⟨c5, c11, rfl, rfl⟩) hP hK hD hS) hS.2.2 dX1_pass_82
      · skip
        have hlt : k < 4 := Nat.lt_of_not_le (fun h => c27 (nI_le h (by omega)))
        refine lv_aload_n hx hb dX1_pass_30 rfl (lv_at hl 0 rfl) ?_
        refine va_get (D := (dC, dI)) (ci := 1) (v := .ref sl) (C := RX1) (T := TX1) (N := 6) hx hb hts (by decide +kernel) hown hK hP 0 rfl rfl 1 (by decide) (hts (.fieldLink RX1 15 "FragmentHouse" "slots" "[LFragmentHouse$Datagram;") (by decide +kernel)) (fun _ h9 => h9) rfl dX1_pass_31 ?_
        refine lv_iload_n hx hb dX1_pass_34 rfl (lv_at hl 3 rfl) ?_
        refine fh_aald (k := k) hx hb hK hP 2 1 rfl rfl hlt (by decide) rfl dX1_pass_35 ?_
        refine va_get (D := (dC, dI)) (ci := 0) (v := .int (((psD p1 ds k) k).1 1)) (C := RX0) (T := TX0) (N := 9) hx hb hts (by decide +kernel) hown hK hP (5 + 2 * k) (wH_o hlt) rfl 1 (by decide) (hts (.fieldLink RX1 51 "FragmentHouse$Datagram" "inMaking" "Z") (by decide +kernel)) (fun _ h9 => h9) rfl dX1_pass_36 ?_
        refine fh_top (y := (ds k).1 1) (by rw [psD_at]) ?_
        refine lv_if_eq (tgt := 75) hx hb dX1_pass_39 (by decide) (fun c39 => ?_) (fun c39 => ?_)
        · skip
          refine lv_iinc (v := (nI (k + 1))) (lv' := [(3, .int (nI (k + 1))), (0, .ref h), (1, .int p1), (2, .int (nI (psC p1 ds k)))]) hx hb dX1_pass_75 hl (k := 3) rfl (nI_1 k) (by decide) rfl (fun ls hl => ?_)
          refine lv_goto (tgt := 25) hx hb dX1_pass_78 (by decide) ?_
          have hP : va_P (dC, dI) vwCl (wH cI cS h tr sl dw cw D C T n wc p1 (psD p1 ds (k + 1)) wd) H := by rw [← psD_s2 (fun z => z.1 c39)]; exact hP
          have hD : va_D A (wH cI cS h tr sl dw cw D C T n wc p1 (psD p1 ds (k + 1)) wd) := by rw [← psD_s2 (fun z => z.1 c39)]; exact hD
          rw [← psC_s2 (fun z => z.1 c39)] at hl
          exact ih (k + 1) _ _ _ ⟨hlt, hP, hD, hS, lv_sub hl [1, 2, 3, 0] rfl⟩ (by show 4 - (k + 1) < 4 - k; omega)
        · skip
          refine lv_aload_n hx hb dX1_pass_42 rfl (lv_at hl 0 rfl) ?_
          refine va_get (D := (dC, dI)) (ci := 1) (v := .ref sl) (C := RX1) (T := TX1) (N := 6) hx hb hts (by decide +kernel) hown hK hP 0 rfl rfl 1 (by decide) (hts (.fieldLink RX1 15 "FragmentHouse" "slots" "[LFragmentHouse$Datagram;") (by decide +kernel)) (fun _ h9 => h9) rfl dX1_pass_43 ?_
          refine lv_iload_n hx hb dX1_pass_46 rfl (lv_at hl 3 rfl) ?_
          refine fh_aald (k := k) hx hb hK hP 2 1 rfl rfl hlt (by decide) rfl dX1_pass_47 ?_
          refine va_get (D := (dC, dI)) (ci := 0) (v := .int (((psD p1 ds k) k).1 5)) (C := RX0) (T := TX0) (N := 9) hx hb hts (by decide +kernel) hown hK hP (5 + 2 * k) (wH_o hlt) rfl 5 (by decide) (hts (.fieldLink RX1 55 "FragmentHouse$Datagram" "firstTime" "I") (by decide +kernel)) (fun _ h9 => h9) rfl dX1_pass_48 ?_
          refine fh_top (y := (ds k).1 5) (by rw [psD_at]) ?_
          refine lv_sipush (v := 15000) hx hb dX1_pass_51 (by first | decide | rfl) ?_
          refine lv_iadd hx hb dX1_pass_54 ?_
          refine lv_aload_n hx hb dX1_pass_55 rfl (lv_at hl 0 rfl) ?_
          refine va_get (D := (dC, dI)) (ci := 1) (v := .int p1) (C := RX1) (T := TX1) (N := 6) hx hb hts (by decide +kernel) hown hK hP 0 rfl rfl 5 (by decide) (hts (.fieldLink RX1 31 "FragmentHouse" "now" "I") (by decide +kernel)) (fun _ h9 => h9) rfl dX1_pass_56 ?_
          refine lv_icmp_gt (tgt := 75) hx hb dX1_pass_59 (by decide) (fun c59 => ?_) (fun c59 => ?_)
          · skip
            refine lv_iinc (v := (nI (k + 1))) (lv' := [(3, .int (nI (k + 1))), (0, .ref h), (1, .int p1), (2, .int (nI (psC p1 ds k)))]) hx hb dX1_pass_75 hl (k := 3) rfl (nI_1 k) (by decide) rfl (fun ls hl => ?_)
            refine lv_goto (tgt := 25) hx hb dX1_pass_78 (by decide) ?_
            have hP : va_P (dC, dI) vwCl (wH cI cS h tr sl dw cw D C T n wc p1 (psD p1 ds (k + 1)) wd) H := by rw [← psD_s2 (fun z => absurd z.2 (Int32.not_le.mpr c59))]; exact hP
            have hD : va_D A (wH cI cS h tr sl dw cw D C T n wc p1 (psD p1 ds (k + 1)) wd) := by rw [← psD_s2 (fun z => absurd z.2 (Int32.not_le.mpr c59))]; exact hD
            rw [← psC_s2 (fun z => absurd z.2 (Int32.not_le.mpr c59))] at hl
            exact ih (k + 1) _ _ _ ⟨hlt, hP, hD, hS, lv_sub hl [1, 2, 3, 0] rfl⟩ (by show 4 - (k + 1) < 4 - k; omega)
          · skip
            refine lv_aload_n hx hb dX1_pass_62 rfl (lv_at hl 0 rfl) ?_
            refine va_get (D := (dC, dI)) (ci := 1) (v := .ref sl) (C := RX1) (T := TX1) (N := 6) hx hb hts (by decide +kernel) hown hK hP 0 rfl rfl 1 (by decide) (hts (.fieldLink RX1 15 "FragmentHouse" "slots" "[LFragmentHouse$Datagram;") (by decide +kernel)) (fun _ h9 => h9) rfl dX1_pass_63 ?_
            refine lv_iload_n hx hb dX1_pass_66 rfl (lv_at hl 3 rfl) ?_
            refine fh_aald (k := k) hx hb hK hP 2 1 rfl rfl hlt (by decide) rfl dX1_pass_67 ?_
            refine lv_iconst (v := 0) hx hb dX1_pass_68 (by first | decide | rfl) ?_
            refine va_put (D := (dC, dI)) (ci := 0) (v := .int 0) (ty := .boolean) (C := RX0) (T := TX0) (N := 9) hx hb hts (by decide +kernel) tyX0 tyX0_ok nmX0 hown hK hP hD hS (5 + 2 * k) (wH_o hlt) rfl 1 (by decide) (hts (.fieldLink RX1 51 "FragmentHouse$Datagram" "inMaking" "Z") (by decide +kernel)) (fun _ h9 => h9) rfl (by decide +kernel) rfl rfl (Nat.le_of_ble_eq_true rfl) dX1_pass_69 (fun H locs hP hD hS => ?_)
            have hP : va_P (dC, dI) vwCl (wH cI cS h tr sl dw cw D C T n wc p1 (va_up (psD p1 ds k) k (upd ((psD p1 ds k) k).1 1 0, ((psD p1 ds k) k).2)) wd) H := by rw [← wH_so hlt (upd ((psD p1 ds k) k).1 1 0)]; exact hP
            have hD : va_D A (wH cI cS h tr sl dw cw D C T n wc p1 (va_up (psD p1 ds k) k (upd ((psD p1 ds k) k).1 1 0, ((psD p1 ds k) k).2)) wd) := by rw [← wH_so hlt (upd ((psD p1 ds k) k).1 1 0)]; exact hD
            have hP : va_P (dC, dI) vwCl (wH cI cS h tr sl dw cw D C T n wc p1 (va_up (psD p1 ds k) k (upd ((psD p1 ds k) k).1 1 0, ((psD p1 ds k) k).2)) wd) H := hP
            have hD : va_D A (wH cI cS h tr sl dw cw D C T n wc p1 (va_up (psD p1 ds k) k (upd ((psD p1 ds k) k).1 1 0, ((psD p1 ds k) k).2)) wd) := hD
            refine lv_iinc (v := (nI ((psC p1 ds k) + 1))) (lv' := [(2, .int (nI ((psC p1 ds k) + 1))), (0, .ref h), (1, .int p1), (3, .int (nI k))]) hx hb dX1_pass_72 hl (k := 2) rfl (nI_1 ((psC p1 ds k))) (by decide) rfl (fun ls hl => ?_)
            refine lv_iinc (v := (nI (k + 1))) (lv' := [(3, .int (nI (k + 1))), (2, .int (nI ((psC p1 ds k) + 1))), (0, .ref h), (1, .int p1)]) hx hb dX1_pass_75 hl (k := 3) rfl (nI_1 k) (by decide) rfl (fun ls hl => ?_)
            refine lv_goto (tgt := 25) hx hb dX1_pass_78 (by decide) ?_
            have hP : va_P (dC, dI) vwCl (wH cI cS h tr sl dw cw D C T n wc p1 (psD p1 ds (k + 1)) wd) H := by rw [← psD_s1 c39 (Int32.not_lt.mp c59)]; exact hP
            have hD : va_D A (wH cI cS h tr sl dw cw D C T n wc p1 (psD p1 ds (k + 1)) wd) := by rw [← psD_s1 c39 (Int32.not_lt.mp c59)]; exact hD
            rw [← psC_s1 c39 (Int32.not_lt.mp c59)] at hl
            exact ih (k + 1) _ _ _ ⟨hlt, hP, hD, hS, lv_sub hl [2, 3, 1, 0] rfl⟩ (by show 4 - (k + 1) < 4 - k; omega)
    · skip
      refine lv_iconst (v := (-1)) hx hb dX1_pass_14 (by first | decide | rfl) ?_
      exact W.iret hx hb hr (fh_qi (ds, nw) (Or.inl ⟨rfl, Or.inr c11, rfl⟩) hP hK hD hS) hS.2.2 dX1_pass_15
end
section
/-! the house's slots: slotFor, showWhole, join, take -/
section FK5
variable {p : Program} {l : Launch} {e : Env} {R : Room} {s : State} {m : MethodId} {args : Array Value} {below : List Frame} {meth : Method} {c : Code} {H H0 : Heap} {locs : List Loc} {cells slots : Nat} {Q : State → Prop} {cc : ByteArray} {pc : Nat} {ls : Array Slot} {rest : List Value} {D : va_G} {cl : List vw_C} {tys : List (ClassId × FieldType)} {ws : va_W} {A : Nat → Prop} {a : Nat}
theorem fh_aast (hexec : p.tables.exec = Jvm.exec) (hb : c.code = cc) (hK : va_K D cl tys s) (hP : va_P D cl ws H) (hD : va_D A ws) (hS : va_S A H0 H locs) (q0 t0 qk ci : Nat) {cA : ClassId} {r : vw_C} {n v k : Nat} {vs : List Value} {f : Nat → Option Nat} (ha : ws[q0]? = some (a, .inl (cA, n, .inr (.inr (.inr (.inr f)))))) (ht : tys[t0]? = some (cA, .object r.1)) (hv : ws[qk]? = some (v, .inr (ci, vs))) (hc : cl[ci]? = some r) (hk : k < n) (hn : n < 2 ^ 31) (hdg : decode cc pc = .ok (.aastore, 1))
    (kk : ∀ (H1 : Heap) (locs1 : List Loc), va_P D cl (ws.set q0 (a, .inl (cA, n, .inr (.inr (.inr (.inr (va_up f k (some v)))))))) H1 → va_D A (ws.set q0 (a, .inl (cA, n, .inr (.inr (.inr (.inr (va_up f k (some v)))))))) → va_S A H0 H1 locs1 → W p l e R s m args below meth c H1 locs1 cells slots Q (F0 m (pc + 1) ls rest)) : W p l e R s m args below meth c H locs cells slots Q (F0 m pc ls (.ref v :: .int (nI k) :: .ref a :: rest)) := by
  refine va_astq hexec hb hK hP hD hS q0 t0 qk ci ha ht hv hc (vp_in_nI hk hn) hdg ?_
  rw [nI_clamp (Nat.lt_trans hk hn)]
  exact kk
end FK5
theorem vu_s {α : Type} (f : Nat → α) (i : Nat) (v : α) : va_up f i v i = v := if_pos rfl
theorem vu_n {α : Type} (f : Nat → α) {i j : Nat} (v : α) (h : j ≠ i) : va_up f i v j = f j := if_neg h
theorem vu_id {α : Type} (f : Nat → α) (i : Nat) : va_up f i (f i) = f := by
  funext j
  unfold va_up
  by_cases hj : j = i
  · rw [if_pos hj, hj]
  · rw [if_neg hj]
theorem nI_m1 {i : Nat} (hi : i < 4) : nI i ≠ -1 := by
  rcases lt4 hi with rfl | rfl | rfl | rfl <;> decide
def Kx (f : Nat → Int32) (a b c : Int32) : Prop := f 2 = a ∧ f 3 = b ∧ f 4 = c
/-- slotFor: the slot that is in the making for that key; else a free one, begun; else none -/
def SF (ds : Nat → Dg) (a b c t : Int32) (r : Int32) (u : Nat → Dg) : Prop :=
  (∃ i, i < 4 ∧ r = nI i ∧ (ds i).1 1 ≠ 0 ∧ Kx (ds i).1 a b c ∧ u = ds) ∨
  ((∀ j, j < 4 → (ds j).1 1 ≠ 0 → ¬ Kx (ds j).1 a b c) ∧
    ((∃ (i : Nat) (x : Nat → Int32), i < 4 ∧ r = nI i ∧ (ds i).1 1 = 0 ∧ (∀ j, j < 4096 → x j = -1) ∧ u = va_up ds i (bg (ds i).1 a b c t, x)) ∨
     (r = -1 ∧ (∀ j, j < 4 → (ds j).1 1 ≠ 0) ∧ u = ds)))
/-- a datagram behind a fragment of b bytes at a -/
def jD (f x : Nat → Int32) (a b : Nat) (T : Nat → Int32) (l : Int32) : Dg := (upd (nR f (nI (a + b)) l) 8 (nR f (nI (a + b)) l 8 + nI (cn x a b)), pt x a b T)
def Wh (d : Dg) : Prop := d.1 6 ≠ -1 ∧ d.1 8 = d.1 6
abbrev Sj : Type := (Nat → Nat) × (Nat → Nat) × Nat × Nat × Int32 × (Nat → Dg) × Dg
def JN (D C : Nat → Nat) (dw cw : Nat) (wc : Int32) (ds : Nat → Dg) (wd : Dg) (T : Nat → Int32) (i a b : Nat) (l : Int32) (r : Int32) (u : Sj) : Prop :=
  (Ctr (ds i).1 (nI (a + b)) l ∧ r = -3 ∧ u = (D, C, dw, cw, wc, va_up ds i (upd (ds i).1 1 0, (ds i).2), wd)) ∨
  (¬ Ctr (ds i).1 (nI (a + b)) l ∧
    ((¬ Wh (jD (ds i).1 (ds i).2 a b T l) ∧ r = -1 ∧ u = (D, C, dw, cw, wc, va_up ds i (jD (ds i).1 (ds i).2 a b T l), wd)) ∨
     (Wh (jD (ds i).1 (ds i).2 a b T l) ∧ r = (jD (ds i).1 (ds i).2 a b T l).1 6 ∧ u = (va_up D i dw, va_up C i cw, D i, C i, wc + 1, va_up ds i wd, (upd (jD (ds i).1 (ds i).2 a b T l).1 1 0, (jD (ds i).1 (ds i).2 a b T l).2)))))
def TK (D C : Nat → Nat) (dw cw : Nat) (wc nw : Int32) (ds : Nat → Dg) (wd : Dg) (T : Nat → Int32) (q : Nat) (p1 p2 p3 p4 p5 : Int32) (r : Int32) (u : Nat × Sj) : Prop :=
  (r = -4 ∧ (p4 < 0 ∨ ¬ p4 ≤ nI 8191) ∧ u = (q, D, C, dw, cw, wc, ds, wd)) ∨
  (∃ o, o ≤ 8191 ∧ p4 = nI o ∧
    ((¬ Snd (o * 8) q p5 ∧ r = -2 ∧ u = (0, D, C, dw, cw, wc, ds, wd)) ∨
     (Snd (o * 8) q p5 ∧ ∃ (r8 : Int32) (ds1 : Nat → Dg), SF ds p1 p2 p3 nw r8 ds1 ∧
       ((r8 = -1 ∧ r = -2 ∧ u = (0, D, C, dw, cw, wc, ds1, wd)) ∨
        (∃ i, i < 4 ∧ r8 = nI i ∧ ∃ v : Sj, JN D C dw cw wc ds1 wd T i (o * 8) q p5 r v ∧ u = (0, v))))))
/-- the house while slots[i] and latestWhole change places -/
def wG (cI cS : ClassId) (h tr sl lw dw cw : Nat) (F : Nat → Option Nat) (D C : Nat → Nat) (T : Nat → Int32) (n wc nw : Int32) (ds : Nat → Dg) (wd : Dg) : va_W :=
  [(h, .inr (1, [.ref tr, .ref sl, .ref lw, .int n, .int wc, .int nw])), (tr, eI cI 1480 T), (sl, .inl (cS, 4, .inr (.inr (.inr (.inr F))))), (dw, eD cw wd.1), (cw, eI cI 4096 wd.2),
   (D 0, eD (C 0) (ds 0).1), (C 0, eI cI 4096 (ds 0).2), (D 1, eD (C 1) (ds 1).1), (C 1, eI cI 4096 (ds 1).2), (D 2, eD (C 2) (ds 2).1), (C 2, eI cI 4096 (ds 2).2), (D 3, eD (C 3) (ds 3).1), (C 3, eI cI 4096 (ds 3).2)]
section WG
variable {cI cS : ClassId} {h tr sl dw cw : Nat} {D C : Nat → Nat} {T : Nat → Int32} {n wc nw : Int32} {ds : Nat → Dg} {wd : Dg} {i : Nat} {H : Heap} {A : Nat → Prop} {G : va_G} {cl : List vw_C}
theorem wG_fun : va_up (fun j => some (D j)) i (some dw) = fun j => some (va_up D i dw j) := by
  funext j
  unfold va_up
  by_cases hj : j = i
  · rw [if_pos hj, if_pos hj]
  · rw [if_neg hj, if_neg hj]
theorem wG_swapP (hi : i < 4) (hP : va_P G cl (wG cI cS h tr sl (D i) dw cw (va_up (fun j => some (D j)) i (some dw)) D C T n wc nw ds wd) H) : va_P G cl (wH cI cS h tr sl (D i) (C i) (va_up D i dw) (va_up C i cw) T n wc nw (va_up ds i wd) (ds i)) H := by
  rw [wG_fun] at hP
  rcases lt4 hi with rfl | rfl | rfl | rfl
  · exact hP.sub [0, 1, 2, 5, 6, 3, 4, 7, 8, 9, 10, 11, 12] rfl
  · exact hP.sub [0, 1, 2, 7, 8, 5, 6, 3, 4, 9, 10, 11, 12] rfl
  · exact hP.sub [0, 1, 2, 9, 10, 5, 6, 7, 8, 3, 4, 11, 12] rfl
  · exact hP.sub [0, 1, 2, 11, 12, 5, 6, 7, 8, 9, 10, 3, 4] rfl
theorem wG_swapD (hi : i < 4) (hD : va_D A (wG cI cS h tr sl (D i) dw cw (va_up (fun j => some (D j)) i (some dw)) D C T n wc nw ds wd)) : va_D A (wH cI cS h tr sl (D i) (C i) (va_up D i dw) (va_up C i cw) T n wc nw (va_up ds i wd) (ds i)) := by
  rw [wG_fun] at hD
  rcases lt4 hi with rfl | rfl | rfl | rfl
  · exact hD.sub [0, 1, 2, 5, 6, 3, 4, 7, 8, 9, 10, 11, 12] (by decide) rfl
  · exact hD.sub [0, 1, 2, 7, 8, 5, 6, 3, 4, 9, 10, 11, 12] (by decide) rfl
  · exact hD.sub [0, 1, 2, 9, 10, 5, 6, 7, 8, 3, 4, 11, 12] (by decide) rfl
  · exact hD.sub [0, 1, 2, 11, 12, 5, 6, 7, 8, 9, 10, 3, 4] (by decide) rfl
end WG
set_option maxHeartbeats 4000000 in
set_option maxRecDepth 100000 in
/-- slotFor -/
theorem c_slotFor (l : Launch) (dC : Nat → ClassId) (dI : Nat → Nat → Nat) (cI cS : ClassId) (h tr sl dw cw : Nat) (D C : Nat → Nat) (T : Nat → Int32) (n wc nw : Int32) (ds : Nat → Dg) (wd : Dg) (p1 p2 p3 : Int32) (sz : Nat)  : Met l yX1_slotFor wsX1_slotFor ({ frames := 2, cells := 0, slots := 0, locals := 48 }) (va_Pc [.ref h, .int p1, .int p2, .int p3] (PW (dC, dI) vwCl [(cI, .int), (cS, tDg)] (wH cI cS h tr sl dw cw D C T n wc nw ds wd) sz)) (va_Qi (S := Nat → Dg) (fun r u => SF ds p1 p2 p3 nw r u) (QW (dC, dI) vwCl (fun _ => [(cI, .int), (cS, tDg)]) (va_A (wH cI cS h tr sl dw cw D C T n wc nw ds wd) sz) (fun u => wH cI cS h tr sl dw cw D C T n wc nw u wd)) (va_A (wH cI cS h tr sl dw cw D C T n wc nw ds wd) sz)) 0 0 (va_A (wH cI cS h tr sl dw cw D C T n wc nw ds wd) sz) := by
  refine Met.ofW (cc := cX1_slotFor) (maxL := 6) (ret := (some .int)) (by decide) rfl ?_
  intro p e s m args below meth c s₁ B hml hv
  obtain ⟨rfl, hsz, hP, hK, hD0⟩ := hv
  have hx := B.exec
  have hb := B.bytes
  have hr := B.returns
  have hts := atoms_spec (ws := wsX1_slotFor) B.pre
  have hown : s.vm.findClass RX1 = some m.cls := findClass_of_methodNamed B.named
  have hlocks := B.notSynchronized
  subst hsz
  have hD := hD0.self (sz := s.heap.size)
  generalize hAe : va_A (wH cI cS h tr sl dw cw D C T n wc nw ds wd) s.heap.size = A at hD ⊢
  have hA : ∀ q : Nat, s.heap.size ≤ q → A q := fun q h => by rw [← hAe]; exact Or.inr h
  have hS : va_S A s.heap s.heap [] := va_S.rf
  have hl := lv_entry ([.ref h, .int p1, .int p2, .int p3]) (n := 6) (Nat.le_of_ble_eq_true rfl)
  rw [lg_entry_eq]
  generalize (lg_sl ([.ref h, .int p1, .int p2, .int p3]) ++ List.replicate (6 - (lg_sl ([.ref h, .int p1, .int p2, .int p3])).length) Slot.unset).toArray = ls at hl ⊢
  have hl : lv_has ls 6 [(0, .ref h), (1, .int p1), (2, .int p2), (3, .int p3)] := hl
  refine fh_start (fun H hH => ?_)
  have hP : va_P (dC, dI) vwCl (wH cI cS h tr sl dw cw D C T n wc nw ds wd) H := by rw [hH]; exact hP
  have hS : va_S A s.heap H [] := by rw [hH]; exact va_S.rf
  refine lv_iconst (v := (-1)) hx hb dX1_slotFor_0 (by first | decide | rfl) ?_
  refine lv_istore (lv' := [(4, .int ((-1))), (0, .ref h), (1, .int p1), (2, .int p2), (3, .int p3)]) hx hb dX1_slotFor_1 hl (by decide) rfl (fun ls hl => ?_)
  refine lv_iconst (v := nI 0) hx hb dX1_slotFor_3 (by first | decide | rfl) ?_
  refine lv_istore (lv' := [(5, .int (nI 0)), (4, .int ((-1))), (0, .ref h), (1, .int p1), (2, .int p2), (3, .int p3)]) hx hb dX1_slotFor_4 hl (by decide) rfl (fun ls hl => ?_)
  refine fh_loop (σ := Nat × Int32) (fun q9 H locs ls => (q9.1 ≤ 4) ∧ ((q9.2 = -1 ∧ ∀ j, j < q9.1 → (ds j).1 1 ≠ 0) ∨ ∃ q, q < q9.1 ∧ q9.2 = nI q ∧ (ds q).1 1 = 0) ∧ (∀ j, j < q9.1 → (ds j).1 1 ≠ 0 → ¬ Kx (ds j).1 p1 p2 p3) ∧ va_P (dC, dI) vwCl (wH cI cS h tr sl dw cw D C T n wc nw ds wd) H ∧ va_D A (wH cI cS h tr sl dw cw D C T n wc nw ds wd) ∧ va_S A s.heap H locs ∧ lv_has ls 6 [(0, .ref h), (1, .int p1), (2, .int p2), (3, .int p3), (4, .int q9.2), (5, .int (nI q9.1))]) (fun q9 => 4 - q9.1) ?_ (0, -1) ⟨Nat.zero_le _, Or.inl ⟨rfl, fun j h => absurd h (Nat.not_lt_zero _)⟩, fun j h => absurd h (Nat.not_lt_zero _), hP, hD, hS, lv_sub hl [2, 3, 4, 5, 1, 0] rfl⟩
  intro q9 H locs ls hI ih
  obtain ⟨i, fr⟩ := q9
  obtain ⟨hi, hfr, hno, hP, hD, hS, hl⟩ : (i ≤ 4) ∧ ((fr = -1 ∧ ∀ j, j < i → (ds j).1 1 ≠ 0) ∨ ∃ q, q < i ∧ fr = nI q ∧ (ds q).1 1 = 0) ∧ (∀ j, j < i → (ds j).1 1 ≠ 0 → ¬ Kx (ds j).1 p1 p2 p3) ∧ va_P (dC, dI) vwCl (wH cI cS h tr sl dw cw D C T n wc nw ds wd) H ∧ va_D A (wH cI cS h tr sl dw cw D C T n wc nw ds wd) ∧ va_S A s.heap H locs ∧ lv_has ls 6 [(0, .ref h), (1, .int p1), (2, .int p2), (3, .int p3), (4, .int fr), (5, .int (nI i))] := hI
  refine lv_iload hx hb dX1_slotFor_6 (lv_at hl 5 rfl) ?_
  refine lv_iconst (v := nI 4) hx hb dX1_slotFor_8 (by first | decide | rfl) ?_
  refine lv_icmp_ge (tgt := 57) hx hb dX1_slotFor_9 (by decide) (fun c9 => ?_) (fun c9 => ?_)
  · skip
    have hge : 4 ≤ i := (nI_leI (by decide) (by omega)).mp c9
    refine lv_iload hx hb dX1_slotFor_57 (lv_at hl 4 rfl) ?_
    refine lv_iconst (v := (-1)) hx hb dX1_slotFor_59 (by first | decide | rfl) ?_
    refine lv_icmp_eq (tgt := 80) hx hb dX1_slotFor_60 (by decide) (fun c60 => ?_) (fun c60 => ?_)
    · skip
      obtain ⟨-, hall⟩ := hfr.resolve_right (fun ⟨q, hq, e, _⟩ => nI_m1 (by omega) (e.symm.trans c60))
      refine lv_iload hx hb dX1_slotFor_80 (lv_at hl 4 rfl) ?_
      exact W.iret hx hb hr (fh_qi ds (Or.inr ⟨fun j hj => hno j (by omega), Or.inr ⟨c60, fun j hj => hall j (by omega), rfl⟩⟩) hP hK hD hS) hS.2.2 dX1_slotFor_82
    · skip
      obtain ⟨q, hq, rfl, hq0⟩ : ∃ q, q < i ∧ fr = nI q ∧ (ds q).1 1 = 0 := hfr.resolve_left (fun z => c60 z.1)
      have hq4 : q < 4 := by omega
      refine lv_aload_n hx hb dX1_slotFor_63 rfl (lv_at hl 0 rfl) ?_
      refine va_get (D := (dC, dI)) (ci := 1) (v := .ref sl) (C := RX1) (T := TX1) (N := 6) hx hb hts (by decide +kernel) hown hK hP 0 rfl rfl 1 (by decide) (hts (.fieldLink RX1 15 "FragmentHouse" "slots" "[LFragmentHouse$Datagram;") (by decide +kernel)) (fun _ h9 => h9) rfl dX1_slotFor_64 ?_
      refine lv_iload hx hb dX1_slotFor_67 (lv_at hl 4 rfl) ?_
      refine fh_aald (k := q) hx hb hK hP 2 1 rfl rfl hq4 (by decide) rfl dX1_slotFor_69 ?_
      refine lv_iload_n hx hb dX1_slotFor_70 rfl (lv_at hl 1 rfl) ?_
      refine lv_iload_n hx hb dX1_slotFor_71 rfl (lv_at hl 2 rfl) ?_
      refine lv_iload_n hx hb dX1_slotFor_72 rfl (lv_at hl 3 rfl) ?_
      refine lv_aload_n hx hb dX1_slotFor_73 rfl (lv_at hl 0 rfl) ?_
      refine va_get (D := (dC, dI)) (ci := 1) (v := .int nw) (C := RX1) (T := TX1) (N := 6) hx hb hts (by decide +kernel) hown hK hP 0 rfl rfl 5 (by decide) (hts (.fieldLink RX1 31 "FragmentHouse" "now" "I") (by decide +kernel)) (fun _ h9 => h9) rfl dX1_slotFor_74 ?_
      have hK0 := hK
      have hK : va_K (dC, dI) vwCl [(cI, .int)] s := hK.sub [0] rfl
      obtain ⟨wr, isC, isR, isB, hnC, hC, hR, hn, hdis, hnB, hB⟩ := wH_cut (cI := cI) (cS := cS) (h := h) (tr := tr) (sl := sl) (dw := dw) (cw := cw) (D := D) (C := C) (T := T) (n := n) (wc := wc) (nw := nw) (ds := ds) (wd := wd) hq4
      have hPc := hP.sub isC (fm_map hC)
      have hDc := hD.sub isC hnC hC
      refine fh_cv (w2 := fun u => wH cI cS h tr sl dw cw D C T n wc nw (va_up ds q (u.1, u.2)) wd) (va_runV (As := [.int p1, .int p2, .int p3, .int nw]) (rest := []) ⟨hx, hb, hml, hown, hts⟩ (c_begin l dC dI cI (D q) (C q) (ds q).1 (ds q).2 p1 p2 p3 nw H.size) (cwV 4 hts gX1_slotFor_X0_begin rfl rfl rfl (by decide +kernel) ⟨Nat.le_of_ble_eq_true rfl, Nat.le_of_ble_eq_true rfl⟩) (pV_PW hK hPc hDc (ci := 0) (q0 := 0) rfl rfl) rfl rfl hl.1 rfl (lv_room (Nat.le_of_ble_eq_true rfl)) dX1_slotFor_77 ⟨Nat.zero_le _, Nat.zero_le _⟩) hP hD hS hA isC isR isB hC hR hn hdis hnB (fun u => hB u.1 u.2) (fun u H locs hw hK hP hD hS => ?_)
      have hK : va_K (dC, dI) vwCl [(cI, .int), (cS, tDg)] s := hK0
      have hP : va_P (dC, dI) vwCl (wH cI cS h tr sl dw cw D C T n wc nw (va_up ds q (u.1, u.2)) wd) H := hP
      have hD : va_D A (wH cI cS h tr sl dw cw D C T n wc nw (va_up ds q (u.1, u.2)) wd) := hD
      refine lv_iload hx hb dX1_slotFor_80 (lv_at hl 4 rfl) ?_
      exact W.iret hx hb hr (fh_qi (va_up ds q (u.1, u.2)) (Or.inr ⟨fun j hj => hno j (by omega), Or.inl ⟨q, u.2, hq4, rfl, hq0, hw.2, by rw [hw.1]⟩⟩) hP hK hD hS) hS.2.2 dX1_slotFor_82
  · skip
    have hlt : i < 4 := Nat.lt_of_not_le (fun h => c9 (nI_le h (by omega)))
    refine lv_aload_n hx hb dX1_slotFor_12 rfl (lv_at hl 0 rfl) ?_
    refine va_get (D := (dC, dI)) (ci := 1) (v := .ref sl) (C := RX1) (T := TX1) (N := 6) hx hb hts (by decide +kernel) hown hK hP 0 rfl rfl 1 (by decide) (hts (.fieldLink RX1 15 "FragmentHouse" "slots" "[LFragmentHouse$Datagram;") (by decide +kernel)) (fun _ h9 => h9) rfl dX1_slotFor_13 ?_
    refine lv_iload hx hb dX1_slotFor_16 (lv_at hl 5 rfl) ?_
    refine fh_aald (k := i) hx hb hK hP 2 1 rfl rfl hlt (by decide) rfl dX1_slotFor_18 ?_
    refine va_get (D := (dC, dI)) (ci := 0) (v := .int ((ds i).1 1)) (C := RX0) (T := TX0) (N := 9) hx hb hts (by decide +kernel) hown hK hP (5 + 2 * i) (wH_o hlt) rfl 1 (by decide) (hts (.fieldLink RX1 51 "FragmentHouse$Datagram" "inMaking" "Z") (by decide +kernel)) (fun _ h9 => h9) rfl dX1_slotFor_19 ?_
    refine lv_if_ne (tgt := 32) hx hb dX1_slotFor_22 (by decide) (fun c22 => ?_) (fun c22 => ?_)
    · skip
      refine lv_aload_n hx hb dX1_slotFor_32 rfl (lv_at hl 0 rfl) ?_
      refine va_get (D := (dC, dI)) (ci := 1) (v := .ref sl) (C := RX1) (T := TX1) (N := 6) hx hb hts (by decide +kernel) hown hK hP 0 rfl rfl 1 (by decide) (hts (.fieldLink RX1 15 "FragmentHouse" "slots" "[LFragmentHouse$Datagram;") (by decide +kernel)) (fun _ h9 => h9) rfl dX1_slotFor_33 ?_
      refine lv_iload hx hb dX1_slotFor_36 (lv_at hl 5 rfl) ?_
      refine fh_aald (k := i) hx hb hK hP 2 1 rfl rfl hlt (by decide) rfl dX1_slotFor_38 ?_
      refine lv_iload_n hx hb dX1_slotFor_39 rfl (lv_at hl 1 rfl) ?_
      refine lv_iload_n hx hb dX1_slotFor_40 rfl (lv_at hl 2 rfl) ?_
      refine lv_iload_n hx hb dX1_slotFor_41 rfl (lv_at hl 3 rfl) ?_
      have hK0 := hK
      have hK : va_K (dC, dI) vwCl [(cI, .int)] s := hK.sub [0] rfl
      obtain ⟨wr, isC, isR, isB, hnC, hC, hR, hn, hdis, hnB, hB⟩ := wH_cut (cI := cI) (cS := cS) (h := h) (tr := tr) (sl := sl) (dw := dw) (cw := cw) (D := D) (C := C) (T := T) (n := n) (wc := wc) (nw := nw) (ds := ds) (wd := wd) hlt
      have hPc := hP.sub isC (fm_map hC)
      have hDc := hD.sub isC hnC hC
      have hB0 := hB (ds i).1 (ds i).2
      rw [show va_up ds i ((ds i).1, (ds i).2) = ds from vu_id ds i] at hB0
      refine fh_ci (w2 := fun _ => wH cI cS h tr sl dw cw D C T n wc nw ds wd) (va_runV (As := [.int p1, .int p2, .int p3]) (rest := []) ⟨hx, hb, hml, hown, hts⟩ (c_isOf l dC dI cI (D i) (C i) (ds i).1 (ds i).2 p1 p2 p3 H.size) (cwV 3 hts gX1_slotFor_X0_isOf rfl rfl rfl (by decide +kernel) ⟨Nat.le_of_ble_eq_true rfl, Nat.le_of_ble_eq_true rfl⟩) (pV_PW hK hPc hDc (ci := 0) (q0 := 0) rfl rfl) rfl rfl hl.1 rfl (lv_room (Nat.le_of_ble_eq_true rfl)) dX1_slotFor_42 ⟨Nat.zero_le _, Nat.zero_le _⟩) hP hD hS hA isC isR isB hC hR hn hdis hnB (fun _ => hB0) (fun r _u H locs hw hK hP hD hS => ?_)
      have hK : va_K (dC, dI) vwCl [(cI, .int), (cS, tDg)] s := hK0
      refine lv_if_eq (tgt := 51) hx hb dX1_slotFor_45 (by decide) (fun c45 => ?_) (fun c45 => ?_)
      · skip
        refine lv_iinc (v := (nI (i + 1))) (lv' := [(5, .int (nI (i + 1))), (0, .ref h), (1, .int p1), (2, .int p2), (3, .int p3), (4, .int fr)]) hx hb dX1_slotFor_51 hl (k := 5) rfl (nI_1 i) (by decide) rfl (fun ls hl => ?_)
        refine lv_goto (tgt := 6) hx hb dX1_slotFor_54 (by decide) ?_
        exact ih (i + 1, fr) _ _ _ ⟨hlt, hfr.elim (fun z => Or.inl ⟨z.1, lt_s z.2 c22⟩) (fun ⟨q, h1, h2⟩ => Or.inr ⟨q, by omega, h2⟩), lt_s hno (fun _ => hw.elim (fun z => absurd (z.1.symm.trans c45) (by decide)) (fun z => z.2)), hP, hD, hS, lv_sub hl [1, 2, 3, 4, 5, 0] rfl⟩ (by show 4 - (i + 1) < 4 - i; omega)
      · skip
        refine lv_iload hx hb dX1_slotFor_48 (lv_at hl 5 rfl) ?_
        exact W.iret hx hb hr (fh_qi ds (Or.inl ⟨i, hlt, rfl, c22, hw.elim (fun z => z.2) (fun z => absurd z.1 c45), rfl⟩) hP hK hD hS) hS.2.2 dX1_slotFor_50
    · skip
      refine lv_iload hx hb dX1_slotFor_25 (lv_at hl 5 rfl) ?_
      refine lv_istore (lv' := [(4, .int (nI i)), (0, .ref h), (1, .int p1), (2, .int p2), (3, .int p3), (5, .int (nI i))]) hx hb dX1_slotFor_27 hl (by decide) rfl (fun ls hl => ?_)
      refine lv_goto (tgt := 51) hx hb dX1_slotFor_29 (by decide) ?_
      refine lv_iinc (v := (nI (i + 1))) (lv' := [(5, .int (nI (i + 1))), (4, .int (nI i)), (0, .ref h), (1, .int p1), (2, .int p2), (3, .int p3)]) hx hb dX1_slotFor_51 hl (k := 5) rfl (nI_1 i) (by decide) rfl (fun ls hl => ?_)
      refine lv_goto (tgt := 6) hx hb dX1_slotFor_54 (by decide) ?_
      exact ih (i + 1, nI i) _ _ _ ⟨hlt, Or.inr ⟨i, Nat.lt_succ_self i, rfl, c22⟩, lt_s hno (fun z => absurd c22 z), hP, hD, hS, lv_sub hl [2, 3, 4, 5, 1, 0] rfl⟩ (by show 4 - (i + 1) < 4 - i; omega)
set_option maxHeartbeats 4000000 in
set_option maxRecDepth 100000 in
/-- showWhole: slot i and the latest whole one change places -/
theorem c_showWhole (l : Launch) (dC : Nat → ClassId) (dI : Nat → Nat → Nat) (cI cS : ClassId) (h tr sl dw cw : Nat) (D C : Nat → Nat) (T : Nat → Int32) (n wc nw : Int32) (ds : Nat → Dg) (wd : Dg) (i : Nat) (sz : Nat) (hi : i < 4) : Met l yX1_showWhole wsX1_showWhole ({ frames := 0, cells := 0, slots := 0, locals := 0 }) (va_Pc [.ref h, .int (nI i)] (PW (dC, dI) vwCl [(cI, .int), (cS, tDg)] (wH cI cS h tr sl dw cw D C T n wc nw ds wd) sz)) (va_Qv (S := Unit) (fun _ => True) (QW (dC, dI) vwCl (fun _ => [(cI, .int), (cS, tDg)]) (va_A (wH cI cS h tr sl dw cw D C T n wc nw ds wd) sz) (fun _ => wH cI cS h tr sl (D i) (C i) (va_up D i dw) (va_up C i cw) T n (wc + 1) nw (va_up ds i wd) (upd (ds i).1 1 0, (ds i).2))) (va_A (wH cI cS h tr sl dw cw D C T n wc nw ds wd) sz)) 0 0 (va_A (wH cI cS h tr sl dw cw D C T n wc nw ds wd) sz) := by
  refine Met.ofW (cc := cX1_showWhole) (maxL := 3) (ret := none) (by decide) rfl ?_
  intro p e s m args below meth c s₁ B hml hv
  obtain ⟨rfl, hsz, hP, hK, hD0⟩ := hv
  have hx := B.exec
  have hb := B.bytes
  have hr := B.returns
  have hts := atoms_spec (ws := wsX1_showWhole) B.pre
  have hown : s.vm.findClass RX1 = some m.cls := findClass_of_methodNamed B.named
  have hlocks := B.notSynchronized
  subst hsz
  have hD := hD0.self (sz := s.heap.size)
  generalize hAe : va_A (wH cI cS h tr sl dw cw D C T n wc nw ds wd) s.heap.size = A at hD ⊢
  have hA : ∀ q : Nat, s.heap.size ≤ q → A q := fun q h => by rw [← hAe]; exact Or.inr h
  have hS : va_S A s.heap s.heap [] := va_S.rf
  have hl := lv_entry ([.ref h, .int (nI i)]) (n := 3) (Nat.le_of_ble_eq_true rfl)
  rw [lg_entry_eq]
  generalize (lg_sl ([.ref h, .int (nI i)]) ++ List.replicate (3 - (lg_sl ([.ref h, .int (nI i)])).length) Slot.unset).toArray = ls at hl ⊢
  have hl : lv_has ls 3 [(0, .ref h), (1, .int (nI i))] := hl
  refine fh_start (fun H hH => ?_)
  have hP : va_P (dC, dI) vwCl (wH cI cS h tr sl dw cw D C T n wc nw ds wd) H := by rw [hH]; exact hP
  have hS : va_S A s.heap H [] := by rw [hH]; exact va_S.rf
  refine lv_aload_n hx hb dX1_showWhole_0 rfl (lv_at hl 0 rfl) ?_
  refine va_get (D := (dC, dI)) (ci := 1) (v := .ref sl) (C := RX1) (T := TX1) (N := 6) hx hb hts (by decide +kernel) hown hK hP 0 rfl rfl 1 (by decide) (hts (.fieldLink RX1 15 "FragmentHouse" "slots" "[LFragmentHouse$Datagram;") (by decide +kernel)) (fun _ h9 => h9) rfl dX1_showWhole_1 ?_
  refine lv_iload_n hx hb dX1_showWhole_4 rfl (lv_at hl 1 rfl) ?_
  refine fh_aald (k := i) hx hb hK hP 2 1 rfl rfl hi (by decide) rfl dX1_showWhole_5 ?_
  refine lv_astore_n (lv' := [(2, .ref (D i)), (0, .ref h), (1, .int (nI i))]) hx hb dX1_showWhole_6 rfl hl (by decide) rfl (fun ls hl => ?_)
  refine lv_aload_n hx hb dX1_showWhole_7 rfl (lv_at hl 0 rfl) ?_
  refine lv_iconst (v := 0) hx hb dX1_showWhole_8 (by first | decide | rfl) ?_
  refine va_put (D := (dC, dI)) (ci := 0) (v := .int 0) (ty := .boolean) (C := RX0) (T := TX0) (N := 9) hx hb hts (by decide +kernel) tyX0 tyX0_ok nmX0 hown hK hP hD hS (5 + 2 * i) (wH_o hi) rfl 1 (by decide) (hts (.fieldLink RX1 51 "FragmentHouse$Datagram" "inMaking" "Z") (by decide +kernel)) (fun _ h9 => h9) rfl (by decide +kernel) rfl rfl (Nat.le_of_ble_eq_true rfl) dX1_showWhole_9 (fun H locs hP hD hS => ?_)
  have hP : va_P (dC, dI) vwCl (wH cI cS h tr sl dw cw D C T n wc nw (va_up ds i (upd (ds i).1 1 0, (ds i).2)) wd) H := by rw [← wH_so hi (upd (ds i).1 1 0)]; exact hP
  have hD : va_D A (wH cI cS h tr sl dw cw D C T n wc nw (va_up ds i (upd (ds i).1 1 0, (ds i).2)) wd) := by rw [← wH_so hi (upd (ds i).1 1 0)]; exact hD
  have hP : va_P (dC, dI) vwCl (wH cI cS h tr sl dw cw D C T n wc nw (va_up ds i (upd (ds i).1 1 0, (ds i).2)) wd) H := hP
  have hD : va_D A (wH cI cS h tr sl dw cw D C T n wc nw (va_up ds i (upd (ds i).1 1 0, (ds i).2)) wd) := hD
  refine lv_aload_n hx hb dX1_showWhole_12 rfl (lv_at hl 1 rfl) ?_
  refine va_get (D := (dC, dI)) (ci := 1) (v := .ref sl) (C := RX1) (T := TX1) (N := 6) hx hb hts (by decide +kernel) hown hK hP 0 rfl rfl 1 (by decide) (hts (.fieldLink RX1 15 "FragmentHouse" "slots" "[LFragmentHouse$Datagram;") (by decide +kernel)) (fun _ h9 => h9) rfl dX1_showWhole_13 ?_
  refine lv_iload_n hx hb dX1_showWhole_16 rfl (lv_at hl 2 rfl) ?_
  refine lv_aload_n hx hb dX1_showWhole_17 rfl (lv_at hl 1 rfl) ?_
  refine va_get (D := (dC, dI)) (ci := 1) (v := .ref dw) (C := RX1) (T := TX1) (N := 6) hx hb hts (by decide +kernel) hown hK hP 0 rfl rfl 2 (by decide) (hts (.fieldLink RX1 20 "FragmentHouse" "latestWhole" "LFragmentHouse$Datagram;") (by decide +kernel)) (fun _ h9 => h9) rfl dX1_showWhole_18 ?_
  refine fh_aast (k := i) (r := (RX0, TX0, 9)) hx hb hK hP hD hS 2 1 3 0 rfl rfl rfl rfl hi (by decide) dX1_showWhole_21 (fun H locs hP hD hS => ?_)
  have hP : va_P (dC, dI) vwCl (wG cI cS h tr sl dw dw cw (va_up (fun j => some (D j)) i (some dw)) D C T n wc nw (va_up ds i (upd (ds i).1 1 0, (ds i).2)) wd) H := hP
  have hD : va_D A (wG cI cS h tr sl dw dw cw (va_up (fun j => some (D j)) i (some dw)) D C T n wc nw (va_up ds i (upd (ds i).1 1 0, (ds i).2)) wd) := hD
  refine lv_aload_n hx hb dX1_showWhole_22 rfl (lv_at hl 1 rfl) ?_
  refine lv_aload_n hx hb dX1_showWhole_23 rfl (lv_at hl 0 rfl) ?_
  refine va_put (D := (dC, dI)) (ci := 1) (v := .ref (D i)) (ty := .object "FragmentHouse$Datagram") (C := RX1) (T := TX1) (N := 6) hx hb hts (by decide +kernel) tyX1 tyX1_ok nmX1 hown hK hP hD hS 0 rfl rfl 2 (by decide) (hts (.fieldLink RX1 20 "FragmentHouse" "latestWhole" "LFragmentHouse$Datagram;") (by decide +kernel)) (fun _ h9 => h9) rfl (by decide +kernel) rfl rfl (Nat.le_of_ble_eq_true rfl) dX1_showWhole_24 (fun H locs hP hD hS => ?_)
  have hP : va_P (dC, dI) vwCl (wG cI cS h tr sl ((D i)) dw cw (va_up (fun j => some (D j)) i (some dw)) D C T n wc nw (va_up ds i (upd (ds i).1 1 0, (ds i).2)) wd) H := hP
  have hD : va_D A (wG cI cS h tr sl ((D i)) dw cw (va_up (fun j => some (D j)) i (some dw)) D C T n wc nw (va_up ds i (upd (ds i).1 1 0, (ds i).2)) wd) := hD
  refine lv_aload_n hx hb dX1_showWhole_27 rfl (lv_at hl 1 rfl) ?_
  refine lv_dup hx hb dX1_showWhole_28 rfl ?_
  refine va_get (D := (dC, dI)) (ci := 1) (v := .int wc) (C := RX1) (T := TX1) (N := 6) hx hb hts (by decide +kernel) hown hK hP 0 rfl rfl 4 (by decide) (hts (.fieldLink RX1 28 "FragmentHouse" "wholeCount" "I") (by decide +kernel)) (fun _ h9 => h9) rfl dX1_showWhole_29 ?_
  refine lv_iconst (v := 1) hx hb dX1_showWhole_32 (by first | decide | rfl) ?_
  refine lv_iadd hx hb dX1_showWhole_33 ?_
  refine va_put (D := (dC, dI)) (ci := 1) (v := .int (wc + 1)) (ty := .int) (C := RX1) (T := TX1) (N := 6) hx hb hts (by decide +kernel) tyX1 tyX1_ok nmX1 hown hK hP hD hS 0 rfl rfl 4 (by decide) (hts (.fieldLink RX1 28 "FragmentHouse" "wholeCount" "I") (by decide +kernel)) (fun _ h9 => h9) rfl (by decide +kernel) rfl rfl (Nat.le_of_ble_eq_true rfl) dX1_showWhole_34 (fun H locs hP hD hS => ?_)
  have hP : va_P (dC, dI) vwCl (wG cI cS h tr sl ((D i)) dw cw (va_up (fun j => some (D j)) i (some dw)) D C T n ((wc + 1)) nw (va_up ds i (upd (ds i).1 1 0, (ds i).2)) wd) H := hP
  have hD : va_D A (wG cI cS h tr sl ((D i)) dw cw (va_up (fun j => some (D j)) i (some dw)) D C T n ((wc + 1)) nw (va_up ds i (upd (ds i).1 1 0, (ds i).2)) wd) := hD
  have hP := wG_swapP hi hP
  have hD := wG_swapD hi hD
  rw [vu_s, bx_uu] at hP hD
  exact W.vret hx hb hr (fh_qv () trivial hP hK hD hS) hS.2.2 dX1_showWhole_37
section WU
variable {cI cS : ClassId} {h tr sl dw cw : Nat} {D C : Nat → Nat} {T : Nat → Int32} {n wc nw : Int32} {ds : Nat → Dg} {wd d : Dg} {i : Nat}
theorem wH_oU (hi : i < 4) : (wH cI cS h tr sl dw cw D C T n wc nw (va_up ds i d) wd)[5 + 2 * i]? = some (D i, eD (C i) d.1) := by
  rw [wH_o hi, vu_s]
theorem wH_soU (hi : i < 4) (f : Nat → Int32) : (wH cI cS h tr sl dw cw D C T n wc nw (va_up ds i d) wd).set (5 + 2 * i) (D i, eD (C i) f) = wH cI cS h tr sl dw cw D C T n wc nw (va_up ds i (f, d.2)) wd := by
  rw [wH_so hi, vu_s, bx_uu]
theorem wH_cutU (hi : i < 4) : ∃ (wr : va_W) (isC isR isB : List Nat), va_nd isC = true ∧ isC.map (fun k => (wH cI cS h tr sl dw cw D C T n wc nw (va_up ds i d) wd)[k]?) = (wD cI (D i) (C i) d.1 d.2).map some ∧ isR.map (fun k => (wH cI cS h tr sl dw cw D C T n wc nw (va_up ds i d) wd)[k]?) = wr.map some ∧ va_nd isR = true ∧ (∀ k ∈ isR, k ∉ isC) ∧ va_nd isB = true ∧ ∀ (f x : Nat → Int32), isB.map (fun k => (wr ++ wD cI (D i) (C i) f x)[k]?) = (wH cI cS h tr sl dw cw D C T n wc nw (va_up ds i (f, x)) wd).map some := by
  have h9 := wH_cut (cI := cI) (cS := cS) (h := h) (tr := tr) (sl := sl) (dw := dw) (cw := cw) (D := D) (C := C) (T := T) (n := n) (wc := wc) (nw := nw) (ds := va_up ds i d) (wd := wd) hi
  simp only [vu_s, bx_uu] at h9
  exact h9
theorem wH_cutTU (hi : i < 4) : ∃ (wr : va_W) (isC isR isB : List Nat), va_nd isC = true ∧ isC.map (fun k => (wH cI cS h tr sl dw cw D C T n wc nw (va_up ds i d) wd)[k]?) = (wDs cI (D i) (C i) tr d.1 d.2 T).map some ∧ isR.map (fun k => (wH cI cS h tr sl dw cw D C T n wc nw (va_up ds i d) wd)[k]?) = wr.map some ∧ va_nd isR = true ∧ (∀ k ∈ isR, k ∉ isC) ∧ va_nd isB = true ∧ ∀ (f x : Nat → Int32), isB.map (fun k => (wr ++ wDs cI (D i) (C i) tr f x T)[k]?) = (wH cI cS h tr sl dw cw D C T n wc nw (va_up ds i (f, x)) wd).map some := by
  have h9 := wH_cutT (cI := cI) (cS := cS) (h := h) (tr := tr) (sl := sl) (dw := dw) (cw := cw) (D := D) (C := C) (T := T) (n := n) (wc := wc) (nw := nw) (ds := va_up ds i d) (wd := wd) hi
  simp only [vu_s, bx_uu] at h9
  exact h9
end WU
set_option maxHeartbeats 4000000 in
set_option maxRecDepth 100000 in
/-- join -/
theorem c_join (l : Launch) (dC : Nat → ClassId) (dI : Nat → Nat → Nat) (cI cS : ClassId) (h tr sl dw cw : Nat) (D C : Nat → Nat) (T : Nat → Int32) (n wc nw : Int32) (ds : Nat → Dg) (wd : Dg) (i a b : Nat) (p4 : Int32) (sz : Nat) (hi : i < 4) (hb1 : b ≤ 1480) (hab : a + b ≤ 4096) : Met l yX1_join wsX1_join ({ frames := 2, cells := 0, slots := 0, locals := 46 }) (va_Pc [.ref h, .int (nI i), .int (nI a), .int (nI b), .int p4] (PW (dC, dI) vwCl [(cI, .int), (cS, tDg)] (wH cI cS h tr sl dw cw D C T n wc nw ds wd) sz)) (va_Qi (S := Sj) (fun r u => JN D C dw cw wc ds wd T i a b p4 r u) (QW (dC, dI) vwCl (fun _ => [(cI, .int), (cS, tDg)]) (va_A (wH cI cS h tr sl dw cw D C T n wc nw ds wd) sz) (fun u => wH cI cS h tr sl u.2.2.1 u.2.2.2.1 u.1 u.2.1 T n u.2.2.2.2.1 nw u.2.2.2.2.2.1 u.2.2.2.2.2.2)) (va_A (wH cI cS h tr sl dw cw D C T n wc nw ds wd) sz)) 0 0 (va_A (wH cI cS h tr sl dw cw D C T n wc nw ds wd) sz) := by
  refine Met.ofW (cc := cX1_join) (maxL := 7) (ret := (some .int)) (by decide) rfl ?_
  intro p e s m args below meth c s₁ B hml hv
  obtain ⟨rfl, hsz, hP, hK, hD0⟩ := hv
  have hx := B.exec
  have hb := B.bytes
  have hr := B.returns
  have hts := atoms_spec (ws := wsX1_join) B.pre
  have hown : s.vm.findClass RX1 = some m.cls := findClass_of_methodNamed B.named
  have hlocks := B.notSynchronized
  subst hsz
  have hD := hD0.self (sz := s.heap.size)
  generalize hAe : va_A (wH cI cS h tr sl dw cw D C T n wc nw ds wd) s.heap.size = A at hD ⊢
  have hA : ∀ q : Nat, s.heap.size ≤ q → A q := fun q h => by rw [← hAe]; exact Or.inr h
  have hS : va_S A s.heap s.heap [] := va_S.rf
  have hl := lv_entry ([.ref h, .int (nI i), .int (nI a), .int (nI b), .int p4]) (n := 7) (Nat.le_of_ble_eq_true rfl)
  rw [lg_entry_eq]
  generalize (lg_sl ([.ref h, .int (nI i), .int (nI a), .int (nI b), .int p4]) ++ List.replicate (7 - (lg_sl ([.ref h, .int (nI i), .int (nI a), .int (nI b), .int p4])).length) Slot.unset).toArray = ls at hl ⊢
  have hl : lv_has ls 7 [(0, .ref h), (1, .int (nI i)), (2, .int (nI a)), (3, .int (nI b)), (4, .int p4)] := hl
  refine fh_start (fun H hH => ?_)
  have hP : va_P (dC, dI) vwCl (wH cI cS h tr sl dw cw D C T n wc nw ds wd) H := by rw [hH]; exact hP
  have hS : va_S A s.heap H [] := by rw [hH]; exact va_S.rf
  have e9 : ds = va_up ds i (ds i) := (vu_id ds i).symm
  have hP : va_P (dC, dI) vwCl (wH cI cS h tr sl dw cw D C T n wc nw (va_up ds i ((ds i))) wd) H := by rw [← e9]; exact hP
  have hD : va_D A (wH cI cS h tr sl dw cw D C T n wc nw (va_up ds i ((ds i))) wd) := by rw [← e9]; exact hD
  refine lv_aload_n hx hb dX1_join_0 rfl (lv_at hl 0 rfl) ?_
  refine va_get (D := (dC, dI)) (ci := 1) (v := .ref sl) (C := RX1) (T := TX1) (N := 6) hx hb hts (by decide +kernel) hown hK hP 0 rfl rfl 1 (by decide) (hts (.fieldLink RX1 15 "FragmentHouse" "slots" "[LFragmentHouse$Datagram;") (by decide +kernel)) (fun _ h9 => h9) rfl dX1_join_1 ?_
  refine lv_iload_n hx hb dX1_join_4 rfl (lv_at hl 1 rfl) ?_
  refine fh_aald (k := i) hx hb hK hP 2 1 rfl rfl hi (by decide) rfl dX1_join_5 ?_
  refine lv_astore (lv' := [(5, .ref (D i)), (0, .ref h), (1, .int (nI i)), (2, .int (nI a)), (3, .int (nI b)), (4, .int p4)]) hx hb dX1_join_6 hl (by decide) rfl (fun ls hl => ?_)
  refine lv_iload_n hx hb dX1_join_8 rfl (lv_at hl 3 rfl) ?_
  refine lv_iload_n hx hb dX1_join_9 rfl (lv_at hl 4 rfl) ?_
  refine lv_iadd hx hb dX1_join_10 ?_
  refine fh_top (y := nI (a + b)) (nI_add a b) ?_
  refine lv_istore (lv' := [(6, .int (nI (a + b))), (5, .ref (D i)), (0, .ref h), (1, .int (nI i)), (2, .int (nI a)), (3, .int (nI b)), (4, .int p4)]) hx hb dX1_join_11 hl (by decide) rfl (fun ls hl => ?_)
  refine lv_aload hx hb dX1_join_13 (lv_at hl 1 rfl) ?_
  refine lv_iload hx hb dX1_join_15 (lv_at hl 0 rfl) ?_
  refine lv_iload hx hb dX1_join_17 (lv_at hl 6 rfl) ?_
  have hK0 := hK
  have hK : va_K (dC, dI) vwCl [(cI, .int)] s := hK.sub [0] rfl
  obtain ⟨wr, isC, isR, isB, hnC, hC, hR, hn, hdis, hnB, hB⟩ := wH_cutU (cI := cI) (cS := cS) (h := h) (tr := tr) (sl := sl) (dw := dw) (cw := cw) (D := D) (C := C) (T := T) (n := n) (wc := wc) (nw := nw) (wd := wd) (ds := ds) (d := (ds i)) hi
  have hPc := hP.sub isC (fm_map hC)
  have hDc := hD.sub isC hnC hC
  refine fh_ci (w2 := fun _ => wH cI cS h tr sl dw cw D C T n wc nw (va_up ds i ((ds i))) wd) (va_runV (As := [.int (nI (a + b)), .int p4]) (rest := []) ⟨hx, hb, hml, hown, hts⟩ (c_isCon l dC dI cI (D i) (C i) ((ds i)).1 ((ds i)).2 (nI (a + b)) p4 H.size) (cwV 2 hts gX1_join_X0_isContradictedBy rfl rfl rfl (by decide +kernel) ⟨Nat.le_of_ble_eq_true rfl, Nat.le_of_ble_eq_true rfl⟩) (pV_PW hK hPc hDc (ci := 0) (q0 := 0) rfl rfl) rfl rfl hl.1 rfl (lv_room (Nat.le_of_ble_eq_true rfl)) dX1_join_19 ⟨Nat.zero_le _, Nat.zero_le _⟩) hP hD hS hA isC isR isB hC hR hn hdis hnB (fun _ => hB _ _) (fun r _u H locs hw hK hP hD hS => ?_)
  have hK : va_K (dC, dI) vwCl [(cI, .int), (cS, tDg)] s := hK0
  have hwC := hw
  refine lv_if_eq (tgt := 34) hx hb dX1_join_22 (by decide) (fun c22 => ?_) (fun c22 => ?_)
  · skip
    have hCt : ¬ Ctr (ds i).1 (nI (a + b)) p4 := hwC.elim (fun z => absurd (z.1.symm.trans c22) (by decide)) (fun z => z.2)
    refine lv_aload hx hb dX1_join_34 (lv_at hl 1 rfl) ?_
    refine lv_iload hx hb dX1_join_36 (lv_at hl 0 rfl) ?_
    refine lv_iload hx hb dX1_join_38 (lv_at hl 6 rfl) ?_
    have hK0 := hK
    have hK : va_K (dC, dI) vwCl [(cI, .int)] s := hK.sub [0] rfl
    obtain ⟨wr, isC, isR, isB, hnC, hC, hR, hn, hdis, hnB, hB⟩ := wH_cutU (cI := cI) (cS := cS) (h := h) (tr := tr) (sl := sl) (dw := dw) (cw := cw) (D := D) (C := C) (T := T) (n := n) (wc := wc) (nw := nw) (wd := wd) (ds := ds) (d := (ds i)) hi
    have hPc := hP.sub isC (fm_map hC)
    have hDc := hD.sub isC hnC hC
    refine fh_cv (w2 := fun u => wH cI cS h tr sl dw cw D C T n wc nw (va_up ds i ((u, (ds i).2))) wd) (va_runV (As := [.int (nI (a + b)), .int p4]) (rest := []) ⟨hx, hb, hml, hown, hts⟩ (c_noteReach l dC dI cI (D i) (C i) ((ds i)).1 ((ds i)).2 (nI (a + b)) p4 H.size) (cwV 2 hts gX1_join_X0_noteReach rfl rfl rfl (by decide +kernel) ⟨Nat.le_of_ble_eq_true rfl, Nat.le_of_ble_eq_true rfl⟩) (pV_PW hK hPc hDc (ci := 0) (q0 := 0) rfl rfl) rfl rfl hl.1 rfl (lv_room (Nat.le_of_ble_eq_true rfl)) dX1_join_40 ⟨Nat.zero_le _, Nat.zero_le _⟩) hP hD hS hA isC isR isB hC hR hn hdis hnB (fun u => hB u _) (fun u H locs hw hK hP hD hS => ?_)
    have hK : va_K (dC, dI) vwCl [(cI, .int), (cS, tDg)] s := hK0
    subst hw
    have hP : va_P (dC, dI) vwCl (wH cI cS h tr sl dw cw D C T n wc nw (va_up ds i ((nR (ds i).1 (nI (a + b)) p4, (ds i).2))) wd) H := hP
    have hD : va_D A (wH cI cS h tr sl dw cw D C T n wc nw (va_up ds i ((nR (ds i).1 (nI (a + b)) p4, (ds i).2))) wd) := hD
    refine lv_aload hx hb dX1_join_43 (lv_at hl 1 rfl) ?_
    refine lv_aload_n hx hb dX1_join_45 rfl (lv_at hl 2 rfl) ?_
    refine va_get (D := (dC, dI)) (ci := 1) (v := .ref tr) (C := RX1) (T := TX1) (N := 6) hx hb hts (by decide +kernel) hown hK hP 0 rfl rfl 0 (by decide) (hts (.fieldLink RX1 9 "FragmentHouse" "tray" "[I") (by decide +kernel)) (fun _ h9 => h9) rfl dX1_join_46 ?_
    refine lv_iload_n hx hb dX1_join_49 rfl (lv_at hl 5 rfl) ?_
    refine lv_iload_n hx hb dX1_join_50 rfl (lv_at hl 4 rfl) ?_
    have hK0 := hK
    have hK : va_K (dC, dI) vwCl [(cI, .int)] s := hK.sub [0] rfl
    obtain ⟨wr, isC, isR, isB, hnC, hC, hR, hn, hdis, hnB, hB⟩ := wH_cutTU (cI := cI) (cS := cS) (h := h) (tr := tr) (sl := sl) (dw := dw) (cw := cw) (D := D) (C := C) (T := T) (n := n) (wc := wc) (nw := nw) (wd := wd) (ds := ds) (d := (nR (ds i).1 (nI (a + b)) p4, (ds i).2)) hi
    have hPc := hP.sub isC (fm_map hC)
    have hDc := hD.sub isC hnC hC
    refine fh_cv (w2 := fun _ => wH cI cS h tr sl dw cw D C T n wc nw (va_up ds i ((jD (ds i).1 (ds i).2 a b T p4))) wd) (va_runV (As := [.ref tr, .int (nI b), .int (nI a)]) (rest := []) ⟨hx, hb, hml, hown, hts⟩ (c_putIn l dC dI cI (D i) (C i) tr ((nR (ds i).1 (nI (a + b)) p4, (ds i).2)).1 ((nR (ds i).1 (nI (a + b)) p4, (ds i).2)).2 T b a H.size hb1 hab) (cwV 3 hts gX1_join_X0_putIn rfl rfl rfl (by decide +kernel) ⟨Nat.le_of_ble_eq_true rfl, Nat.le_of_ble_eq_true rfl⟩) (pV_PW hK hPc hDc (ci := 0) (q0 := 0) rfl rfl) rfl rfl hl.1 rfl (lv_room (Nat.le_of_ble_eq_true rfl)) dX1_join_51 ⟨Nat.zero_le _, Nat.zero_le _⟩) hP hD hS hA isC isR isB hC hR hn hdis hnB (fun _ => hB _ _) (fun _u H locs hw hK hP hD hS => ?_)
    have hK : va_K (dC, dI) vwCl [(cI, .int), (cS, tDg)] s := hK0
    have hP : va_P (dC, dI) vwCl (wH cI cS h tr sl dw cw D C T n wc nw (va_up ds i ((jD (ds i).1 (ds i).2 a b T p4))) wd) H := hP
    have hD : va_D A (wH cI cS h tr sl dw cw D C T n wc nw (va_up ds i ((jD (ds i).1 (ds i).2 a b T p4))) wd) := hD
    refine lv_aload hx hb dX1_join_54 (lv_at hl 1 rfl) ?_
    have hK0 := hK
    have hK : va_K (dC, dI) vwCl [(cI, .int)] s := hK.sub [0] rfl
    obtain ⟨wr, isC, isR, isB, hnC, hC, hR, hn, hdis, hnB, hB⟩ := wH_cutU (cI := cI) (cS := cS) (h := h) (tr := tr) (sl := sl) (dw := dw) (cw := cw) (D := D) (C := C) (T := T) (n := n) (wc := wc) (nw := nw) (wd := wd) (ds := ds) (d := (jD (ds i).1 (ds i).2 a b T p4)) hi
    have hPc := hP.sub isC (fm_map hC)
    have hDc := hD.sub isC hnC hC
    refine fh_ci (w2 := fun _ => wH cI cS h tr sl dw cw D C T n wc nw (va_up ds i ((jD (ds i).1 (ds i).2 a b T p4))) wd) (va_runV (As := []) (rest := []) ⟨hx, hb, hml, hown, hts⟩ (c_isWhole l dC dI cI (D i) (C i) ((jD (ds i).1 (ds i).2 a b T p4)).1 ((jD (ds i).1 (ds i).2 a b T p4)).2 H.size) (cwV 0 hts gX1_join_X0_isWhole rfl rfl rfl (by decide +kernel) ⟨Nat.le_of_ble_eq_true rfl, Nat.le_of_ble_eq_true rfl⟩) (pV_PW hK hPc hDc (ci := 0) (q0 := 0) rfl rfl) rfl rfl hl.1 rfl (lv_room (Nat.le_of_ble_eq_true rfl)) dX1_join_56 ⟨Nat.zero_le _, Nat.zero_le _⟩) hP hD hS hA isC isR isB hC hR hn hdis hnB (fun _ => hB _ _) (fun r _u H locs hw hK hP hD hS => ?_)
    have hK : va_K (dC, dI) vwCl [(cI, .int), (cS, tDg)] s := hK0
    have hwW := hw
    refine lv_if_ne (tgt := 64) hx hb dX1_join_59 (by decide) (fun c59 => ?_) (fun c59 => ?_)
    · skip
      have hW : Wh (jD (ds i).1 (ds i).2 a b T p4) := hwW.elim (fun z => z.2) (fun z => absurd z.1 c59)
      refine lv_aload_n hx hb dX1_join_64 rfl (lv_at hl 2 rfl) ?_
      refine lv_iload_n hx hb dX1_join_65 rfl (lv_at hl 3 rfl) ?_
      have hPc := hP.sub (ws' := wH cI cS h tr sl dw cw D C T n wc nw (va_up ds i ((jD (ds i).1 (ds i).2 a b T p4))) wd) [0, 1, 2, 3, 4, 5, 6, 7, 8, 9, 10, 11, 12] rfl
      have hDc := hD.sub (ws' := wH cI cS h tr sl dw cw D C T n wc nw (va_up ds i ((jD (ds i).1 (ds i).2 a b T p4))) wd) [0, 1, 2, 3, 4, 5, 6, 7, 8, 9, 10, 11, 12] (by decide) rfl
      refine fh_cv (wr := []) (w2 := fun _ => wH cI cS h tr sl (D i) (C i) (va_up D i dw) (va_up C i cw) T n (wc + 1) nw (va_up (va_up ds i ((jD (ds i).1 (ds i).2 a b T p4))) i wd) (upd ((va_up ds i ((jD (ds i).1 (ds i).2 a b T p4))) i).1 1 0, ((va_up ds i ((jD (ds i).1 (ds i).2 a b T p4))) i).2)) (va_runV (As := [.int (nI i)]) (rest := []) ⟨hx, hb, hml, hown, hts⟩ (c_showWhole l dC dI cI cS h tr sl dw cw D C T n wc nw (va_up ds i ((jD (ds i).1 (ds i).2 a b T p4))) wd i H.size hi) (cwV 1 hts gX1_join_X1_showWhole rfl rfl rfl (by decide +kernel) ⟨Nat.le_of_ble_eq_true rfl, Nat.le_of_ble_eq_true rfl⟩) (pV_PW hK hPc hDc (ci := 1) (q0 := 0) rfl rfl) rfl rfl hl.1 rfl (lv_room (Nat.le_of_ble_eq_true rfl)) dX1_join_66 ⟨Nat.zero_le _, Nat.zero_le _⟩) hP hD hS hA [0, 1, 2, 3, 4, 5, 6, 7, 8, 9, 10, 11, 12] [] [0, 1, 2, 3, 4, 5, 6, 7, 8, 9, 10, 11, 12] rfl rfl (by decide) (by decide) (by decide) (fun _ => rfl) (fun _u H locs hw hK hP hD hS => ?_)
      rw [vu_s, bx_uu] at hP hD
      have hP : va_P (dC, dI) vwCl (wH cI cS h tr sl (D i) (C i) (va_up D i dw) (va_up C i cw) T n (wc + 1) nw (va_up ds i wd) (upd (jD (ds i).1 (ds i).2 a b T p4).1 1 0, (jD (ds i).1 (ds i).2 a b T p4).2)) H := hP
      have hD : va_D A (wH cI cS h tr sl (D i) (C i) (va_up D i dw) (va_up C i cw) T n (wc + 1) nw (va_up ds i wd) (upd (jD (ds i).1 (ds i).2 a b T p4).1 1 0, (jD (ds i).1 (ds i).2 a b T p4).2)) := hD
      refine lv_aload_n hx hb dX1_join_69 rfl (lv_at hl 2 rfl) ?_
      refine va_get (D := (dC, dI)) (ci := 1) (v := .ref (D i)) (C := RX1) (T := TX1) (N := 6) hx hb hts (by decide +kernel) hown hK hP 0 rfl rfl 2 (by decide) (hts (.fieldLink RX1 20 "FragmentHouse" "latestWhole" "LFragmentHouse$Datagram;") (by decide +kernel)) (fun _ h9 => h9) rfl dX1_join_70 ?_
      refine va_get (D := (dC, dI)) (ci := 0) (v := .int ((jD (ds i).1 (ds i).2 a b T p4).1 6)) (C := RX0) (T := TX0) (N := 9) hx hb hts (by decide +kernel) hown hK hP 3 rfl rfl 6 (by decide) (hts (.fieldLink RX1 58 "FragmentHouse$Datagram" "knownEnd" "I") (by decide +kernel)) (fun _ h9 => h9) rfl dX1_join_73 ?_
      exact W.iret hx hb hr (fh_qi (va_up D i dw, va_up C i cw, D i, C i, wc + 1, va_up ds i wd, (upd (jD (ds i).1 (ds i).2 a b T p4).1 1 0, (jD (ds i).1 (ds i).2 a b T p4).2)) (Or.inr ⟨hCt, Or.inr ⟨hW, rfl, rfl⟩⟩) hP hK hD hS) hS.2.2 dX1_join_76
    · skip
      have hW : ¬ Wh (jD (ds i).1 (ds i).2 a b T p4) := hwW.elim (fun z => absurd (z.1.symm.trans c59) (by decide)) (fun z => z.2)
      refine lv_iconst (v := (-1)) hx hb dX1_join_62 (by first | decide | rfl) ?_
      exact W.iret hx hb hr (fh_qi (D, C, dw, cw, wc, va_up ds i (jD (ds i).1 (ds i).2 a b T p4), wd) (Or.inr ⟨hCt, Or.inl ⟨hW, rfl, rfl⟩⟩) hP hK hD hS) hS.2.2 dX1_join_63
  · skip
    have hCt : Ctr (ds i).1 (nI (a + b)) p4 := hwC.elim (fun z => z.2) (fun z => absurd z.1 c22)
    refine lv_aload hx hb dX1_join_25 (lv_at hl 1 rfl) ?_
    refine lv_iconst (v := 0) hx hb dX1_join_27 (by first | decide | rfl) ?_
    refine va_put (D := (dC, dI)) (ci := 0) (v := .int 0) (ty := .boolean) (C := RX0) (T := TX0) (N := 9) hx hb hts (by decide +kernel) tyX0 tyX0_ok nmX0 hown hK hP hD hS (5 + 2 * i) (wH_oU hi) rfl 1 (by decide) (hts (.fieldLink RX1 51 "FragmentHouse$Datagram" "inMaking" "Z") (by decide +kernel)) (fun _ h9 => h9) rfl (by decide +kernel) rfl rfl (Nat.le_of_ble_eq_true rfl) dX1_join_28 (fun H locs hP hD hS => ?_)
    have hP : va_P (dC, dI) vwCl (wH cI cS h tr sl dw cw D C T n wc nw (va_up ds i (upd ((ds i)).1 1 0, ((ds i)).2)) wd) H := by rw [← wH_soU hi (upd ((ds i)).1 1 0)]; exact hP
    have hD : va_D A (wH cI cS h tr sl dw cw D C T n wc nw (va_up ds i (upd ((ds i)).1 1 0, ((ds i)).2)) wd) := by rw [← wH_soU hi (upd ((ds i)).1 1 0)]; exact hD
    have hP : va_P (dC, dI) vwCl (wH cI cS h tr sl dw cw D C T n wc nw (va_up ds i (upd ((ds i)).1 1 0, ((ds i)).2)) wd) H := hP
    have hD : va_D A (wH cI cS h tr sl dw cw D C T n wc nw (va_up ds i (upd ((ds i)).1 1 0, ((ds i)).2)) wd) := hD
    refine lv_bipush (v := (-3)) hx hb dX1_join_31 (by first | decide | rfl) ?_
    exact W.iret hx hb hr (fh_qi (D, C, dw, cw, wc, va_up ds i (upd (ds i).1 1 0, (ds i).2), wd) (Or.inl ⟨hCt, rfl, rfl⟩) hP hK hD hS) hS.2.2 dX1_join_33
set_option maxHeartbeats 4000000 in
set_option maxRecDepth 100000 in
/-- take -/
theorem c_take (l : Launch) (dC : Nat → ClassId) (dI : Nat → Nat → Nat) (cI cS : ClassId) (h tr sl dw cw : Nat) (D C : Nat → Nat) (T : Nat → Int32) (n wc nw : Int32) (ds : Nat → Dg) (wd : Dg) (p1 p2 p3 p4 p5 : Int32) (q : Nat) (sz : Nat) (hq : q ≤ 1480) : Met l yX1_take wsX1_take ({ frames := 3, cells := 0, slots := 0, locals := 73 }) (va_Pc [.ref h, .int p1, .int p2, .int p3, .int p4, .int p5] (PW (dC, dI) vwCl [(cI, .int), (cS, tDg)] (wH cI cS h tr sl dw cw D C T (nI q) wc nw ds wd) sz)) (va_Qi (S := Nat × Sj) (fun r u => TK D C dw cw wc nw ds wd T q p1 p2 p3 p4 p5 r u) (QW (dC, dI) vwCl (fun _ => [(cI, .int), (cS, tDg)]) (va_A (wH cI cS h tr sl dw cw D C T (nI q) wc nw ds wd) sz) (fun u => wH cI cS h tr sl u.2.2.2.1 u.2.2.2.2.1 u.2.1 u.2.2.1 T (nI u.1) u.2.2.2.2.2.1 nw u.2.2.2.2.2.2.1 u.2.2.2.2.2.2.2)) (va_A (wH cI cS h tr sl dw cw D C T (nI q) wc nw ds wd) sz)) 0 0 (va_A (wH cI cS h tr sl dw cw D C T (nI q) wc nw ds wd) sz) := by
  refine Met.ofW (cc := cX1_take) (maxL := 9) (ret := (some .int)) (by decide) rfl ?_
  intro p e s m args below meth c s₁ B hml hv
  obtain ⟨rfl, hsz, hP, hK, hD0⟩ := hv
  have hx := B.exec
  have hb := B.bytes
  have hr := B.returns
  have hts := atoms_spec (ws := wsX1_take) B.pre
  have hown : s.vm.findClass RX1 = some m.cls := findClass_of_methodNamed B.named
  have hlocks := B.notSynchronized
  subst hsz
  have hD := hD0.self (sz := s.heap.size)
  generalize hAe : va_A (wH cI cS h tr sl dw cw D C T (nI q) wc nw ds wd) s.heap.size = A at hD ⊢
  have hA : ∀ q : Nat, s.heap.size ≤ q → A q := fun q h => by rw [← hAe]; exact Or.inr h
  have hS : va_S A s.heap s.heap [] := va_S.rf
  have hl := lv_entry ([.ref h, .int p1, .int p2, .int p3, .int p4, .int p5]) (n := 9) (Nat.le_of_ble_eq_true rfl)
  rw [lg_entry_eq]
  generalize (lg_sl ([.ref h, .int p1, .int p2, .int p3, .int p4, .int p5]) ++ List.replicate (9 - (lg_sl ([.ref h, .int p1, .int p2, .int p3, .int p4, .int p5])).length) Slot.unset).toArray = ls at hl ⊢
  have hl : lv_has ls 9 [(0, .ref h), (1, .int p1), (2, .int p2), (3, .int p3), (4, .int p4), (5, .int p5)] := hl
  refine fh_start (fun H hH => ?_)
  have hP : va_P (dC, dI) vwCl (wH cI cS h tr sl dw cw D C T (nI q) wc nw ds wd) H := by rw [hH]; exact hP
  have hS : va_S A s.heap H [] := by rw [hH]; exact va_S.rf
  refine lv_iload hx hb dX1_take_0 (lv_at hl 4 rfl) ?_
  refine lv_if_lt (tgt := 13) hx hb dX1_take_2 (by decide) (fun c2 => ?_) (fun c2 => ?_)
  · skip
    refine lv_bipush (v := (-4)) hx hb dX1_take_13 (by first | decide | rfl) ?_
    exact W.iret hx hb hr (fh_qi (q, D, C, dw, cw, wc, ds, wd) (Or.inl ⟨rfl, Or.inl c2, rfl⟩) hP hK hD hS) hS.2.2 dX1_take_15
  · skip
    refine lv_iload hx hb dX1_take_5 (lv_at hl 4 rfl) ?_
    refine lv_sipush (v := nI 8191) hx hb dX1_take_7 (by first | decide | rfl) ?_
    refine lv_icmp_le (tgt := 16) hx hb dX1_take_10 (by decide) (fun c10 => ?_) (fun c10 => ?_)
    · skip
      obtain ⟨o, ho0, rfl⟩ := nI_of c2
      have ho : o ≤ 8191 := (nI_leI ho0 (by decide)).mp c10
      refine lv_aload_n hx hb dX1_take_16 rfl (lv_at hl 0 rfl) ?_
      refine va_get (D := (dC, dI)) (ci := 1) (v := .int (nI q)) (C := RX1) (T := TX1) (N := 6) hx hb hts (by decide +kernel) hown hK hP 0 rfl rfl 3 (by decide) (hts (.fieldLink RX1 24 "FragmentHouse" "trayCount" "I") (by decide +kernel)) (fun _ h9 => h9) rfl dX1_take_17 ?_
      refine lv_istore (lv' := [(6, .int (nI q)), (0, .ref h), (1, .int p1), (2, .int p2), (3, .int p3), (4, .int (nI o)), (5, .int p5)]) hx hb dX1_take_20 hl (by decide) rfl (fun ls hl => ?_)
      refine lv_aload_n hx hb dX1_take_22 rfl (lv_at hl 1 rfl) ?_
      refine lv_iconst (v := nI 0) hx hb dX1_take_23 (by first | decide | rfl) ?_
      refine va_put (D := (dC, dI)) (ci := 1) (v := .int (nI 0)) (ty := .int) (C := RX1) (T := TX1) (N := 6) hx hb hts (by decide +kernel) tyX1 tyX1_ok nmX1 hown hK hP hD hS 0 rfl rfl 3 (by decide) (hts (.fieldLink RX1 24 "FragmentHouse" "trayCount" "I") (by decide +kernel)) (fun _ h9 => h9) rfl (by decide +kernel) rfl rfl (Nat.le_of_ble_eq_true rfl) dX1_take_24 (fun H locs hP hD hS => ?_)
      have hP : va_P (dC, dI) vwCl (wH cI cS h tr sl dw cw D C T ((nI 0)) wc nw ds wd) H := hP
      have hD : va_D A (wH cI cS h tr sl dw cw D C T ((nI 0)) wc nw ds wd) := hD
      refine lv_iload hx hb dX1_take_27 (lv_at hl 5 rfl) ?_
      refine lv_bipush (v := nI 8) hx hb dX1_take_29 (by first | decide | rfl) ?_
      refine lv_imul hx hb dX1_take_31 ?_
      refine fh_top (y := nI (o * 8)) (pk_mul o 8) ?_
      refine lv_istore (lv' := [(7, .int (nI (o * 8))), (6, .int (nI q)), (0, .ref h), (1, .int p1), (2, .int p2), (3, .int p3), (4, .int (nI o)), (5, .int p5)]) hx hb dX1_take_32 hl (by decide) rfl (fun ls hl => ?_)
      refine lv_iload hx hb dX1_take_34 (lv_at hl 0 rfl) ?_
      refine lv_iload hx hb dX1_take_36 (lv_at hl 1 rfl) ?_
      refine lv_iload hx hb dX1_take_38 (lv_at hl 7 rfl) ?_
      have hPc := hP.sub (ws' := []) [] rfl
      have hDc := hD.sub (ws' := []) [] (by decide) rfl
      refine fh_ci (wr := wH cI cS h tr sl dw cw D C T ((nI 0)) wc nw ds wd) (w2 := fun _ => wH cI cS h tr sl dw cw D C T ((nI 0)) wc nw ds wd) (va_runS (As := [.int (nI (o * 8)), .int (nI q), .int p5]) (rest := []) ⟨hx, hb, hml, hown, hts⟩ (c_isSound l dC dI [(cI, .int), (cS, tDg)] (o * 8) q p5 H.size (by omega) hq) (va_cwS 3 hts gX1_take_X1_isSound rfl rfl rfl (by decide +kernel) ⟨Nat.le_of_ble_eq_true rfl, Nat.le_of_ble_eq_true rfl⟩) (pS_PW hK hPc hDc) rfl rfl hl.1 rfl (lv_room (Nat.le_of_ble_eq_true rfl)) dX1_take_40 ⟨Nat.zero_le _, Nat.zero_le _⟩) hP hD hS hA [] [0, 1, 2, 3, 4, 5, 6, 7, 8, 9, 10, 11, 12] [0, 1, 2, 3, 4, 5, 6, 7, 8, 9, 10, 11, 12] rfl rfl (by decide) (by decide) (by decide) (fun _ => rfl) (fun r _u H locs hw hK hP hD hS => ?_)
      have hwS := hw
      refine lv_if_ne (tgt := 49) hx hb dX1_take_43 (by decide) (fun c43 => ?_) (fun c43 => ?_)
      · skip
        have hsd : Snd (o * 8) q p5 := hwS.elim (fun z => z.2) (fun z => absurd z.1 c43)
        refine lv_aload_n hx hb dX1_take_49 rfl (lv_at hl 2 rfl) ?_
        refine lv_iload_n hx hb dX1_take_50 rfl (lv_at hl 3 rfl) ?_
        refine lv_iload_n hx hb dX1_take_51 rfl (lv_at hl 4 rfl) ?_
        refine lv_iload_n hx hb dX1_take_52 rfl (lv_at hl 5 rfl) ?_
        have hPc := hP.sub (ws' := wH cI cS h tr sl dw cw D C T ((nI 0)) wc nw ds wd) [0, 1, 2, 3, 4, 5, 6, 7, 8, 9, 10, 11, 12] rfl
        have hDc := hD.sub (ws' := wH cI cS h tr sl dw cw D C T ((nI 0)) wc nw ds wd) [0, 1, 2, 3, 4, 5, 6, 7, 8, 9, 10, 11, 12] (by decide) rfl
        refine fh_ci (wr := []) (w2 := fun u => wH cI cS h tr sl dw cw D C T (nI 0) wc nw u wd) (va_runV (As := [.int p1, .int p2, .int p3]) (rest := []) ⟨hx, hb, hml, hown, hts⟩ (c_slotFor l dC dI cI cS h tr sl dw cw D C T ((nI 0)) wc nw ds wd p1 p2 p3 H.size) (cwV 3 hts gX1_take_X1_slotFor rfl rfl rfl (by decide +kernel) ⟨Nat.le_of_ble_eq_true rfl, Nat.le_of_ble_eq_true rfl⟩) (pV_PW hK hPc hDc (ci := 1) (q0 := 0) rfl rfl) rfl rfl hl.1 rfl (lv_room (Nat.le_of_ble_eq_true rfl)) dX1_take_53 ⟨Nat.zero_le _, Nat.zero_le _⟩) hP hD hS hA [0, 1, 2, 3, 4, 5, 6, 7, 8, 9, 10, 11, 12] [] [0, 1, 2, 3, 4, 5, 6, 7, 8, 9, 10, 11, 12] rfl rfl (by decide) (by decide) (by decide) (fun _ => rfl) (fun r8 ds1 H locs hw hK hP hD hS => ?_)
        have hwF := hw
        have hP : va_P (dC, dI) vwCl (wH cI cS h tr sl dw cw D C T ((nI 0)) wc nw ds1 wd) H := hP
        have hD : va_D A (wH cI cS h tr sl dw cw D C T ((nI 0)) wc nw ds1 wd) := hD
        refine lv_istore (lv' := [(8, .int r8), (7, .int (nI (o * 8))), (6, .int (nI q)), (0, .ref h), (1, .int p1), (2, .int p2), (3, .int p3), (4, .int (nI o)), (5, .int p5)]) hx hb dX1_take_56 hl (by decide) rfl (fun ls hl => ?_)
        refine lv_iload hx hb dX1_take_58 (lv_at hl 0 rfl) ?_
        refine lv_iconst (v := (-1)) hx hb dX1_take_60 (by first | decide | rfl) ?_
        refine lv_icmp_ne (tgt := 67) hx hb dX1_take_61 (by decide) (fun c61 => ?_) (fun c61 => ?_)
        · skip
          obtain ⟨i, hi, rfl⟩ : ∃ i, i < 4 ∧ r8 = nI i := hwF.elim (fun ⟨i, h1, h2, _⟩ => ⟨i, h1, h2⟩) (fun z => z.2.elim (fun ⟨i, _, h1, h2, _⟩ => ⟨i, h1, h2⟩) (fun y => absurd y.1 c61))
          refine lv_aload_n hx hb dX1_take_67 rfl (lv_at hl 3 rfl) ?_
          refine lv_iload hx hb dX1_take_68 (lv_at hl 0 rfl) ?_
          refine lv_iload hx hb dX1_take_70 (lv_at hl 1 rfl) ?_
          refine lv_iload hx hb dX1_take_72 (lv_at hl 2 rfl) ?_
          refine lv_iload hx hb dX1_take_74 (lv_at hl 8 rfl) ?_
          have hPc := hP.sub (ws' := wH cI cS h tr sl dw cw D C T ((nI 0)) wc nw ds1 wd) [0, 1, 2, 3, 4, 5, 6, 7, 8, 9, 10, 11, 12] rfl
          have hDc := hD.sub (ws' := wH cI cS h tr sl dw cw D C T ((nI 0)) wc nw ds1 wd) [0, 1, 2, 3, 4, 5, 6, 7, 8, 9, 10, 11, 12] (by decide) rfl
          refine fh_ci (wr := []) (w2 := fun u => wH cI cS h tr sl u.2.2.1 u.2.2.2.1 u.1 u.2.1 T (nI 0) u.2.2.2.2.1 nw u.2.2.2.2.2.1 u.2.2.2.2.2.2) (va_runV (As := [.int (nI i), .int (nI (o * 8)), .int (nI q), .int p5]) (rest := []) ⟨hx, hb, hml, hown, hts⟩ (c_join l dC dI cI cS h tr sl dw cw D C T ((nI 0)) wc nw ds1 wd i (o * 8) q p5 H.size hi hq hsd.1) (cwV 4 hts gX1_take_X1_join rfl rfl rfl (by decide +kernel) ⟨Nat.le_of_ble_eq_true rfl, Nat.le_of_ble_eq_true rfl⟩) (pV_PW hK hPc hDc (ci := 1) (q0 := 0) rfl rfl) rfl rfl hl.1 rfl (lv_room (Nat.le_of_ble_eq_true rfl)) dX1_take_76 ⟨Nat.zero_le _, Nat.zero_le _⟩) hP hD hS hA [0, 1, 2, 3, 4, 5, 6, 7, 8, 9, 10, 11, 12] [] [0, 1, 2, 3, 4, 5, 6, 7, 8, 9, 10, 11, 12] rfl rfl (by decide) (by decide) (by decide) (fun _ => rfl) (fun r v H locs hw hK hP hD hS => ?_)
          exact W.iret hx hb hr (fh_qi (0, v) (Or.inr ⟨o, ho, rfl, Or.inr ⟨hsd, nI i, ds1, hwF, Or.inr ⟨i, hi, rfl, v, hw, rfl⟩⟩⟩) hP hK hD hS) hS.2.2 dX1_take_79
        · skip
          refine lv_bipush (v := (-2)) hx hb dX1_take_64 (by first | decide | rfl) ?_
          exact W.iret hx hb hr (fh_qi (0, D, C, dw, cw, wc, ds1, wd) (Or.inr ⟨o, ho, rfl, Or.inr ⟨hsd, r8, ds1, hwF, Or.inl ⟨c61, rfl, rfl⟩⟩⟩) hP hK hD hS) hS.2.2 dX1_take_66
      · skip
        have hsd : ¬ Snd (o * 8) q p5 := hwS.elim (fun z => absurd (z.1.symm.trans c43) (by decide)) (fun z => z.2)
        refine lv_bipush (v := (-2)) hx hb dX1_take_46 (by first | decide | rfl) ?_
        exact W.iret hx hb hr (fh_qi (0, D, C, dw, cw, wc, ds, wd) (Or.inr ⟨o, ho, rfl, Or.inl ⟨hsd, rfl, rfl⟩⟩) hP hK hD hS) hS.2.2 dX1_take_48
    · skip
      refine lv_bipush (v := (-4)) hx hb dX1_take_13 (by first | decide | rfl) ?_
      exact W.iret hx hb hr (fh_qi (q, D, C, dw, cw, wc, ds, wd) (Or.inl ⟨rfl, Or.inr c10, rfl⟩) hP hK hD hS) hS.2.2 dX1_take_15
end
section
/-! the reference's methods -/
section FK6
variable {p : Program} {l : Launch} {e : Env} {R : Room} {s : State} {m : MethodId} {args : Array Value} {below : List Frame} {meth : Method} {c : Code} {H : Heap} {locs : List Loc} {cells slots : Nat} {Q : State → Prop}
theorem fh_cut {σ : Type} {pc2 : Nat} {g : JFrame} (I : σ → Heap → List Loc → Array Slot → Prop) (rest : ∀ (x : σ) (H : Heap) (locs : List Loc) (ls : Array Slot), I x H locs ls → W p l e R s m args below meth c H locs cells slots Q (F0 m pc2 ls []))
    (main : (∀ (x : σ) (H : Heap) (locs : List Loc) (ls : Array Slot), I x H locs ls → W p l e R s m args below meth c H locs cells slots Q (F0 m pc2 ls [])) → W p l e R s m args below meth c H locs cells slots Q g) : W p l e R s m args below meth c H locs cells slots Q g := main rest
end FK6
def mb (v : Int32) (k : Nat) : Int32 := (v >>> ((24 - 8 * nI k) &&& 31)).toInt8.toInt32
theorem mb_n (v : Int32) (k : Nat) : vp_nar .byte (mb v k) = mb v k := pk_vb _
def mkM (th : Nat → Int32) : Nat → Nat
  | 0 => 0
  | k + 1 => mkM th k + (if th k = 0 then 0 else 1)
theorem mkM_s1 {th : Nat → Int32} {k : Nat} (h : ¬ th k = 0) : mkM th (k + 1) = mkM th k + 1 := by
  show mkM th k + _ = _
  rw [if_neg h]
theorem mkM_s2 {th : Nat → Int32} {k : Nat} (h : th k = 0) : mkM th (k + 1) = mkM th k := by
  show mkM th k + _ = _
  rw [if_pos h, Nat.add_zero]
def psT (t : Int32) (th be : Nat → Int32) (k : Nat) : Nat → Int32 := fun i => if i < k ∧ th i ≠ 0 ∧ 15000 ≤ t - be i then 0 else th i
def psN (t : Int32) (th be : Nat → Int32) : Nat → Nat
  | 0 => 0
  | k + 1 => psN t th be k + (if th k ≠ 0 ∧ 15000 ≤ t - be k then 1 else 0)
theorem psT_0 (t : Int32) (th be : Nat → Int32) : psT t th be 0 = th := by
  funext j
  unfold psT
  rw [if_neg (fun h => absurd h.1 (Nat.not_lt_zero _))]
theorem psT_at (t : Int32) (th be : Nat → Int32) (k : Nat) : psT t th be k k = th k := by
  unfold psT
  rw [if_neg (fun h => absurd h.1 (Nat.lt_irrefl _))]
theorem psT_s1 {t : Int32} {th be : Nat → Int32} {k : Nat} (h1 : ¬ th k = 0) (h2 : 15000 ≤ t - be k) : upd (psT t th be k) k 0 = psT t th be (k + 1) := by
  funext j
  unfold upd psT
  by_cases hj : j = k
  · subst hj
    rw [if_pos rfl, if_pos ⟨by omega, h1, h2⟩]
  · rw [if_neg hj]
    by_cases hc : j < k ∧ th j ≠ 0 ∧ 15000 ≤ t - be j
    · rw [if_pos hc, if_pos ⟨by omega, hc.2⟩]
    · rw [if_neg hc, if_neg (fun q => hc ⟨by omega, q.2⟩)]
theorem psT_s2 {t : Int32} {th be : Nat → Int32} {k : Nat} (h : ¬ (th k ≠ 0 ∧ 15000 ≤ t - be k)) : psT t th be k = psT t th be (k + 1) := by
  funext j
  unfold psT
  by_cases hc : j < k ∧ th j ≠ 0 ∧ 15000 ≤ t - be j
  · rw [if_pos hc, if_pos ⟨by omega, hc.2⟩]
  · rw [if_neg hc, if_neg (fun q => hc ⟨by
      have h1 : j ≠ k := fun z => h (z ▸ q.2)
      omega, q.2⟩)]
theorem psN_s1 {t : Int32} {th be : Nat → Int32} {k : Nat} (h1 : ¬ th k = 0) (h2 : 15000 ≤ t - be k) : psN t th be (k + 1) = psN t th be k + 1 := by
  show psN t th be k + _ = _
  rw [if_pos ⟨h1, h2⟩]
theorem psN_s2 {t : Int32} {th be : Nat → Int32} {k : Nat} (h : ¬ (th k ≠ 0 ∧ 15000 ≤ t - be k)) : psN t th be (k + 1) = psN t th be k := by
  show psN t th be k + _ = _
  rw [if_neg h, Nat.add_zero]
def MK (se id pr : Nat → Int32) (k : Nat) (a b c : Int32) : Prop := se k = a ∧ id k = b ∧ pr k = c
abbrev F1 : Type := Nat → Int32
abbrev S7 : Type := F1 × F1 × F1 × F1 × F1 × F1 × F1
/-- the reference's begin at slot k -/
def bgM (se id pr en be th bs : F1) (a b c t : Int32) (k : Nat) : S7 := (upd se k a, upd id k b, upd pr k c, upd en k (-1), upd be k t, upd th k 1, wrT bs (k * 4096) 4096 (fun _ => 0))
set_option maxHeartbeats 4000000 in
set_option maxRecDepth 100000 in
/-- word -/
theorem m_word (l : Launch) (dC : Nat → ClassId) (dI : Nat → Nat → Nat) (cI cB cZ : ClassId) (a : Nat → Nat) (T se id pr en be th bs wh : Nat → Int32) (len md nw : Int32) (v : Int32) (q : Nat) (sz : Nat) (hq : q + 4 ≤ 1480) : Met l yX2_word wsX2_word ({ frames := 0, cells := 0, slots := 0, locals := 0 }) (va_Pc [.ref (a 0), .int v] (PW (dC, dI) vwCl [(cI, .int), (cB, .byte), (cZ, .boolean)] (wM cI cB cZ a T se id pr en be th bs wh (nI q) len md nw) sz)) (va_Qv (S := Unit) (fun _ => True) (QW (dC, dI) vwCl (fun _ => [(cI, .int), (cB, .byte), (cZ, .boolean)]) (va_A (wM cI cB cZ a T se id pr en be th bs wh (nI q) len md nw) sz) (fun _ => wM cI cB cZ a (wrT T q 4 (mb v)) se id pr en be th bs wh (nI (q + 4)) len md nw)) (va_A (wM cI cB cZ a T se id pr en be th bs wh (nI q) len md nw) sz)) 0 0 (va_A (wM cI cB cZ a T se id pr en be th bs wh (nI q) len md nw) sz) := by
  refine Met.ofW (cc := cX2_word) (maxL := 3) (ret := none) (by decide) rfl ?_
  intro p e s m args below meth c s₁ B hml hv
  obtain ⟨rfl, hsz, hP, hK, hD0⟩ := hv
  have hx := B.exec
  have hb := B.bytes
  have hr := B.returns
  have hts := atoms_spec (ws := wsX2_word) B.pre
  have hown : s.vm.findClass RX2 = some m.cls := findClass_of_methodNamed B.named
  have hlocks := B.notSynchronized
  subst hsz
  have hD := hD0.self (sz := s.heap.size)
  generalize hAe : va_A (wM cI cB cZ a T se id pr en be th bs wh (nI q) len md nw) s.heap.size = A at hD ⊢
  have hA : ∀ q : Nat, s.heap.size ≤ q → A q := fun q h => by rw [← hAe]; exact Or.inr h
  have hS : va_S A s.heap s.heap [] := va_S.rf
  have hl := lv_entry ([.ref (a 0), .int v]) (n := 3) (Nat.le_of_ble_eq_true rfl)
  rw [lg_entry_eq]
  generalize (lg_sl ([.ref (a 0), .int v]) ++ List.replicate (3 - (lg_sl ([.ref (a 0), .int v])).length) Slot.unset).toArray = ls at hl ⊢
  have hl : lv_has ls 3 [(0, .ref (a 0)), (1, .int v)] := hl
  refine fh_start (fun H hH => ?_)
  have hP : va_P (dC, dI) vwCl (wM cI cB cZ a T se id pr en be th bs wh (nI q) len md nw) H := by rw [hH]; exact hP
  have hS : va_S A s.heap H [] := by rw [hH]; exact va_S.rf
  refine lv_iconst (v := nI 0) hx hb dX2_word_0 (by first | decide | rfl) ?_
  refine lv_istore_n (lv' := [(2, .int (nI 0)), (0, .ref (a 0)), (1, .int v)]) hx hb dX2_word_1 rfl hl (by decide) rfl (fun ls hl => ?_)
  have hP : va_P (dC, dI) vwCl (wM cI cB cZ a (wrT T q 0 (mb v)) se id pr en be th bs wh (nI (q + 0)) len md nw) H := by rw [wr_0]; exact hP
  have hD : va_D A (wM cI cB cZ a (wrT T q 0 (mb v)) se id pr en be th bs wh (nI (q + 0)) len md nw) := by rw [wr_0]; exact hD
  refine fh_loop (σ := Nat) (fun q9 H locs ls => (q9 ≤ 4) ∧ va_P (dC, dI) vwCl (wM cI cB cZ a (wrT T q q9 (mb v)) se id pr en be th bs wh (nI (q + q9)) len md nw) H ∧ va_D A (wM cI cB cZ a (wrT T q q9 (mb v)) se id pr en be th bs wh (nI (q + q9)) len md nw) ∧ va_S A s.heap H locs ∧ lv_has ls 3 [(0, .ref (a 0)), (1, .int v), (2, .int (nI q9))]) (fun q9 => 4 - q9) ?_ (0) ⟨Nat.zero_le _, hP, hD, hS, lv_sub hl [1, 2, 0] rfl⟩
  intro q9 H locs ls hI ih
  obtain ⟨k, rfl⟩ : ∃ z, z = q9 := ⟨_, rfl⟩
  obtain ⟨hk, hP, hD, hS, hl⟩ : (k ≤ 4) ∧ va_P (dC, dI) vwCl (wM cI cB cZ a (wrT T q k (mb v)) se id pr en be th bs wh (nI (q + k)) len md nw) H ∧ va_D A (wM cI cB cZ a (wrT T q k (mb v)) se id pr en be th bs wh (nI (q + k)) len md nw) ∧ va_S A s.heap H locs ∧ lv_has ls 3 [(0, .ref (a 0)), (1, .int v), (2, .int (nI k))] := hI
  refine lv_iload_n hx hb dX2_word_2 rfl (lv_at hl 2 rfl) ?_
  refine lv_iconst (v := nI 4) hx hb dX2_word_3 (by first | decide | rfl) ?_
  refine lv_icmp_ge (tgt := 42) hx hb dX2_word_4 (by decide) (fun c4 => ?_) (fun c4 => ?_)
  · skip
    obtain rfl : k = 4 := Nat.le_antisymm hk ((nI_leI (by omega) (by omega)).mp c4)
    exact W.vret hx hb hr (fh_qv () trivial hP hK hD hS) hS.2.2 dX2_word_42
  · skip
    have hlt : k < 4 := Nat.lt_of_not_le (fun h => c4 (nI_le h (by omega)))
    refine lv_aload_n hx hb dX2_word_7 rfl (lv_at hl 0 rfl) ?_
    refine va_get (D := (dC, dI)) (ci := 2) (v := .ref (a 1)) (C := RX2) (T := TX2) (N := 13) hx hb hts (by decide +kernel) hown hK hP 0 rfl rfl 0 (by decide) (hts (.fieldLink RX2 9 "FragmentHouseModel" "tray" "[B") (by decide +kernel)) (fun _ h9 => h9) rfl dX2_word_8 ?_
    refine lv_aload_n hx hb dX2_word_11 rfl (lv_at hl 0 rfl) ?_
    refine va_get (D := (dC, dI)) (ci := 2) (v := .int (nI (q + k))) (C := RX2) (T := TX2) (N := 13) hx hb hts (by decide +kernel) hown hK hP 0 rfl rfl 1 (by decide) (hts (.fieldLink RX2 43 "FragmentHouseModel" "trayed" "I") (by decide +kernel)) (fun _ h9 => h9) rfl dX2_word_12 ?_
    refine lv_iload_n hx hb dX2_word_15 rfl (lv_at hl 1 rfl) ?_
    refine lv_bipush (v := 24) hx hb dX2_word_16 (by first | decide | rfl) ?_
    refine lv_bipush (v := 8) hx hb dX2_word_18 (by first | decide | rfl) ?_
    refine lv_iload_n hx hb dX2_word_20 rfl (lv_at hl 2 rfl) ?_
    refine lv_imul hx hb dX2_word_21 ?_
    refine lv_isub hx hb dX2_word_22 ?_
    refine lv_ishr hx hb dX2_word_23 ?_
    refine lv_i2b hx hb dX2_word_24 rfl ?_
    refine fh_top (y := mb v k) rfl ?_
    refine fh_bast (k := (q + k)) hx hb hK hP hD hS 1 1 rfl rfl (by omega) (by first | decide | omega) dX2_word_25 (fun H locs hP hD hS => ?_)
    have hP : va_P (dC, dI) vwCl (wM cI cB cZ a (upd ((wrT T q k (mb v))) ((q + k)) ((vp_nar .byte ((mb v k))))) se id pr en be th bs wh (nI (q + k)) len md nw) H := hP
    have hD : va_D A (wM cI cB cZ a (upd ((wrT T q k (mb v))) ((q + k)) ((vp_nar .byte ((mb v k))))) se id pr en be th bs wh (nI (q + k)) len md nw) := hD
    refine lv_aload_n hx hb dX2_word_26 rfl (lv_at hl 0 rfl) ?_
    refine lv_dup hx hb dX2_word_27 rfl ?_
    refine va_get (D := (dC, dI)) (ci := 2) (v := .int (nI (q + k))) (C := RX2) (T := TX2) (N := 13) hx hb hts (by decide +kernel) hown hK hP 0 rfl rfl 1 (by decide) (hts (.fieldLink RX2 43 "FragmentHouseModel" "trayed" "I") (by decide +kernel)) (fun _ h9 => h9) rfl dX2_word_28 ?_
    refine lv_iconst (v := 1) hx hb dX2_word_31 (by first | decide | rfl) ?_
    refine lv_iadd hx hb dX2_word_32 ?_
    refine fh_top (y := nI (q + (k + 1))) (nI_1 (q + k)) ?_
    refine va_put (D := (dC, dI)) (ci := 2) (v := .int (nI (q + (k + 1)))) (ty := .int) (C := RX2) (T := TX2) (N := 13) hx hb hts (by decide +kernel) tyX2 tyX2_ok nmX2 hown hK hP hD hS 0 rfl rfl 1 (by decide) (hts (.fieldLink RX2 43 "FragmentHouseModel" "trayed" "I") (by decide +kernel)) (fun _ h9 => h9) rfl (by decide +kernel) rfl rfl (Nat.le_of_ble_eq_true rfl) dX2_word_33 (fun H locs hP hD hS => ?_)
    have hP : va_P (dC, dI) vwCl (wM cI cB cZ a (upd ((wrT T q k (mb v))) ((q + k)) ((vp_nar .byte ((mb v k))))) se id pr en be th bs wh ((nI (q + (k + 1)))) len md nw) H := hP
    have hD : va_D A (wM cI cB cZ a (upd ((wrT T q k (mb v))) ((q + k)) ((vp_nar .byte ((mb v k))))) se id pr en be th bs wh ((nI (q + (k + 1)))) len md nw) := hD
    refine lv_iinc (v := (nI (k + 1))) (lv' := [(2, .int (nI (k + 1))), (0, .ref (a 0)), (1, .int v)]) hx hb dX2_word_36 hl (k := 2) rfl (nI_1 k) (by decide) rfl (fun ls hl => ?_)
    refine lv_goto (tgt := 2) hx hb dX2_word_39 (by decide) ?_
    rw [mb_n] at hP hD
    have hP : va_P (dC, dI) vwCl (wM cI cB cZ a (wrT T q (k + 1) (mb v)) se id pr en be th bs wh (nI (q + (k + 1))) len md nw) H := by rw [← wr_s]; exact hP
    have hD : va_D A (wM cI cB cZ a (wrT T q (k + 1) (mb v)) se id pr en be th bs wh (nI (q + (k + 1))) len md nw) := by rw [← wr_s]; exact hD
    exact ih (k + 1) _ _ _ ⟨hlt, hP, hD, hS, lv_sub hl [1, 2, 0] rfl⟩ (by show 4 - (k + 1) < 4 - k; omega)
set_option maxHeartbeats 4000000 in
set_option maxRecDepth 100000 in
/-- feed -/
theorem m_feed (l : Launch) (dC : Nat → ClassId) (dI : Nat → Nat → Nat) (cI cB cZ : ClassId) (a : Nat → Nat) (T se id pr en be th bs wh : Nat → Int32) (len md nw : Int32) (a1 a2 a3 a4 a5 : Int32) (q : Nat) (sz : Nat) (hq : q ≤ 1480) : Met l yX2_feed wsX2_feed ({ frames := 1, cells := 0, slots := 0, locals := 23 }) (va_Pc [.ref (a 0), .int a1, .int a2, .int a3, .int a4, .int a5] (PW (dC, dI) vwCl [(cI, .int), (cB, .byte), (cZ, .boolean)] (wM cI cB cZ a T se id pr en be th bs wh (nI q) len md nw) sz)) (va_Qi (S := (Nat → Int32) × Nat) (fun r u => (1460 < q ∧ r = -1 ∧ u = (T, q)) ∨ (q ≤ 1460 ∧ r = nI (q + 20) ∧ u = (fdT mb T q a1 a2 a3 a4 a5, q + 20))) (QW (dC, dI) vwCl (fun _ => [(cI, .int), (cB, .byte), (cZ, .boolean)]) (va_A (wM cI cB cZ a T se id pr en be th bs wh (nI q) len md nw) sz) (fun u => wM cI cB cZ a u.1 se id pr en be th bs wh (nI u.2) len md nw)) (va_A (wM cI cB cZ a T se id pr en be th bs wh (nI q) len md nw) sz)) 0 0 (va_A (wM cI cB cZ a T se id pr en be th bs wh (nI q) len md nw) sz) := by
  refine Met.ofW (cc := cX2_feed) (maxL := 6) (ret := (some .int)) (by decide) rfl ?_
  intro p e s m args below meth c s₁ B hml hv
  obtain ⟨rfl, hsz, hP, hK, hD0⟩ := hv
  have hx := B.exec
  have hb := B.bytes
  have hr := B.returns
  have hts := atoms_spec (ws := wsX2_feed) B.pre
  have hown : s.vm.findClass RX2 = some m.cls := findClass_of_methodNamed B.named
  have hlocks := B.notSynchronized
  subst hsz
  have hD := hD0.self (sz := s.heap.size)
  generalize hAe : va_A (wM cI cB cZ a T se id pr en be th bs wh (nI q) len md nw) s.heap.size = A at hD ⊢
  have hA : ∀ q : Nat, s.heap.size ≤ q → A q := fun q h => by rw [← hAe]; exact Or.inr h
  have hS : va_S A s.heap s.heap [] := va_S.rf
  have hl := lv_entry ([.ref (a 0), .int a1, .int a2, .int a3, .int a4, .int a5]) (n := 6) (Nat.le_of_ble_eq_true rfl)
  rw [lg_entry_eq]
  generalize (lg_sl ([.ref (a 0), .int a1, .int a2, .int a3, .int a4, .int a5]) ++ List.replicate (6 - (lg_sl ([.ref (a 0), .int a1, .int a2, .int a3, .int a4, .int a5])).length) Slot.unset).toArray = ls at hl ⊢
  have hl : lv_has ls 6 [(0, .ref (a 0)), (1, .int a1), (2, .int a2), (3, .int a3), (4, .int a4), (5, .int a5)] := hl
  refine fh_start (fun H hH => ?_)
  have hP : va_P (dC, dI) vwCl (wM cI cB cZ a T se id pr en be th bs wh (nI q) len md nw) H := by rw [hH]; exact hP
  have hS : va_S A s.heap H [] := by rw [hH]; exact va_S.rf
  refine lv_aload_n hx hb dX2_feed_0 rfl (lv_at hl 0 rfl) ?_
  refine va_get (D := (dC, dI)) (ci := 2) (v := .int (nI q)) (C := RX2) (T := TX2) (N := 13) hx hb hts (by decide +kernel) hown hK hP 0 rfl rfl 1 (by decide) (hts (.fieldLink RX2 43 "FragmentHouseModel" "trayed" "I") (by decide +kernel)) (fun _ h9 => h9) rfl dX2_feed_1 ?_
  refine lv_bipush (v := nI 20) hx hb dX2_feed_4 (by first | decide | rfl) ?_
  refine lv_iadd hx hb dX2_feed_6 ?_
  refine fh_top (y := nI (q + 20)) (nI_add q 20) ?_
  refine lv_sipush (v := nI 1480) hx hb dX2_feed_7 (by first | decide | rfl) ?_
  refine lv_icmp_le (tgt := 15) hx hb dX2_feed_10 (by decide) (fun c10 => ?_) (fun c10 => ?_)
  · skip
    have hq2 : q ≤ 1460 := by have := (nI_leI (by omega) (by decide)).mp c10; omega
    refine lv_aload_n hx hb dX2_feed_15 rfl (lv_at hl 0 rfl) ?_
    refine lv_iload_n hx hb dX2_feed_16 rfl (lv_at hl 1 rfl) ?_
    have hPc := hP.sub (ws' := wM cI cB cZ a T se id pr en be th bs wh (nI q) len md nw) [0, 1, 2, 3, 4, 5, 6, 7, 8, 9] rfl
    have hDc := hD.sub (ws' := wM cI cB cZ a T se id pr en be th bs wh (nI q) len md nw) [0, 1, 2, 3, 4, 5, 6, 7, 8, 9] (by decide) rfl
    refine fh_cv (wr := []) (w2 := fun _ => wM cI cB cZ a (wrT T q 4 (mb a1)) se id pr en be th bs wh (nI (q + 4)) len md nw) (va_runV (As := [.int a1]) (rest := []) ⟨hx, hb, hml, hown, hts⟩ (m_word l dC dI cI cB cZ a T se id pr en be th bs wh len md nw a1 q H.size (by omega)) (cwV 1 hts gX2_feed_X2_word rfl rfl rfl (by decide +kernel) ⟨Nat.le_of_ble_eq_true rfl, Nat.le_of_ble_eq_true rfl⟩) (pV_PW hK hPc hDc (ci := 2) (q0 := 0) rfl rfl) rfl rfl hl.1 rfl (lv_room (Nat.le_of_ble_eq_true rfl)) dX2_feed_17 ⟨Nat.zero_le _, Nat.zero_le _⟩) hP hD hS hA [0, 1, 2, 3, 4, 5, 6, 7, 8, 9] [] [0, 1, 2, 3, 4, 5, 6, 7, 8, 9] rfl rfl (by decide) (by decide) (by decide) (fun _ => rfl) (fun _u H locs hw hK hP hD hS => ?_)
    have hP : va_P (dC, dI) vwCl (wM cI cB cZ a (wrT T q 4 (mb a1)) se id pr en be th bs wh (nI (q + 4)) len md nw) H := hP
    have hD : va_D A (wM cI cB cZ a (wrT T q 4 (mb a1)) se id pr en be th bs wh (nI (q + 4)) len md nw) := hD
    refine lv_aload_n hx hb dX2_feed_20 rfl (lv_at hl 0 rfl) ?_
    refine lv_iload_n hx hb dX2_feed_21 rfl (lv_at hl 2 rfl) ?_
    have hPc := hP.sub (ws' := wM cI cB cZ a (wrT T q 4 (mb a1)) se id pr en be th bs wh (nI (q + 4)) len md nw) [0, 1, 2, 3, 4, 5, 6, 7, 8, 9] rfl
    have hDc := hD.sub (ws' := wM cI cB cZ a (wrT T q 4 (mb a1)) se id pr en be th bs wh (nI (q + 4)) len md nw) [0, 1, 2, 3, 4, 5, 6, 7, 8, 9] (by decide) rfl
    refine fh_cv (wr := []) (w2 := fun _ => wM cI cB cZ a (wrT (wrT T q 4 (mb a1)) (q + 4) 4 (mb a2)) se id pr en be th bs wh (nI ((q + 4) + 4)) len md nw) (va_runV (As := [.int a2]) (rest := []) ⟨hx, hb, hml, hown, hts⟩ (m_word l dC dI cI cB cZ a (wrT T q 4 (mb a1)) se id pr en be th bs wh len md nw a2 (q + 4) H.size (by omega)) (cwV 1 hts gX2_feed_X2_word rfl rfl rfl (by decide +kernel) ⟨Nat.le_of_ble_eq_true rfl, Nat.le_of_ble_eq_true rfl⟩) (pV_PW hK hPc hDc (ci := 2) (q0 := 0) rfl rfl) rfl rfl hl.1 rfl (lv_room (Nat.le_of_ble_eq_true rfl)) dX2_feed_22 ⟨Nat.zero_le _, Nat.zero_le _⟩) hP hD hS hA [0, 1, 2, 3, 4, 5, 6, 7, 8, 9] [] [0, 1, 2, 3, 4, 5, 6, 7, 8, 9] rfl rfl (by decide) (by decide) (by decide) (fun _ => rfl) (fun _u H locs hw hK hP hD hS => ?_)
    have hP : va_P (dC, dI) vwCl (wM cI cB cZ a (wrT (wrT T q 4 (mb a1)) (q + 4) 4 (mb a2)) se id pr en be th bs wh (nI (q + 8)) len md nw) H := hP
    have hD : va_D A (wM cI cB cZ a (wrT (wrT T q 4 (mb a1)) (q + 4) 4 (mb a2)) se id pr en be th bs wh (nI (q + 8)) len md nw) := hD
    refine lv_aload_n hx hb dX2_feed_25 rfl (lv_at hl 0 rfl) ?_
    refine lv_iload_n hx hb dX2_feed_26 rfl (lv_at hl 3 rfl) ?_
    have hPc := hP.sub (ws' := wM cI cB cZ a (wrT (wrT T q 4 (mb a1)) (q + 4) 4 (mb a2)) se id pr en be th bs wh (nI (q + 8)) len md nw) [0, 1, 2, 3, 4, 5, 6, 7, 8, 9] rfl
    have hDc := hD.sub (ws' := wM cI cB cZ a (wrT (wrT T q 4 (mb a1)) (q + 4) 4 (mb a2)) se id pr en be th bs wh (nI (q + 8)) len md nw) [0, 1, 2, 3, 4, 5, 6, 7, 8, 9] (by decide) rfl
    refine fh_cv (wr := []) (w2 := fun _ => wM cI cB cZ a (wrT (wrT (wrT T q 4 (mb a1)) (q + 4) 4 (mb a2)) (q + 8) 4 (mb a3)) se id pr en be th bs wh (nI ((q + 8) + 4)) len md nw) (va_runV (As := [.int a3]) (rest := []) ⟨hx, hb, hml, hown, hts⟩ (m_word l dC dI cI cB cZ a (wrT (wrT T q 4 (mb a1)) (q + 4) 4 (mb a2)) se id pr en be th bs wh len md nw a3 (q + 8) H.size (by omega)) (cwV 1 hts gX2_feed_X2_word rfl rfl rfl (by decide +kernel) ⟨Nat.le_of_ble_eq_true rfl, Nat.le_of_ble_eq_true rfl⟩) (pV_PW hK hPc hDc (ci := 2) (q0 := 0) rfl rfl) rfl rfl hl.1 rfl (lv_room (Nat.le_of_ble_eq_true rfl)) dX2_feed_27 ⟨Nat.zero_le _, Nat.zero_le _⟩) hP hD hS hA [0, 1, 2, 3, 4, 5, 6, 7, 8, 9] [] [0, 1, 2, 3, 4, 5, 6, 7, 8, 9] rfl rfl (by decide) (by decide) (by decide) (fun _ => rfl) (fun _u H locs hw hK hP hD hS => ?_)
    have hP : va_P (dC, dI) vwCl (wM cI cB cZ a (wrT (wrT (wrT T q 4 (mb a1)) (q + 4) 4 (mb a2)) (q + 8) 4 (mb a3)) se id pr en be th bs wh (nI (q + 12)) len md nw) H := hP
    have hD : va_D A (wM cI cB cZ a (wrT (wrT (wrT T q 4 (mb a1)) (q + 4) 4 (mb a2)) (q + 8) 4 (mb a3)) se id pr en be th bs wh (nI (q + 12)) len md nw) := hD
    refine lv_aload_n hx hb dX2_feed_30 rfl (lv_at hl 0 rfl) ?_
    refine lv_iload hx hb dX2_feed_31 (lv_at hl 4 rfl) ?_
    have hPc := hP.sub (ws' := wM cI cB cZ a (wrT (wrT (wrT T q 4 (mb a1)) (q + 4) 4 (mb a2)) (q + 8) 4 (mb a3)) se id pr en be th bs wh (nI (q + 12)) len md nw) [0, 1, 2, 3, 4, 5, 6, 7, 8, 9] rfl
    have hDc := hD.sub (ws' := wM cI cB cZ a (wrT (wrT (wrT T q 4 (mb a1)) (q + 4) 4 (mb a2)) (q + 8) 4 (mb a3)) se id pr en be th bs wh (nI (q + 12)) len md nw) [0, 1, 2, 3, 4, 5, 6, 7, 8, 9] (by decide) rfl
    refine fh_cv (wr := []) (w2 := fun _ => wM cI cB cZ a (wrT (wrT (wrT (wrT T q 4 (mb a1)) (q + 4) 4 (mb a2)) (q + 8) 4 (mb a3)) (q + 12) 4 (mb a4)) se id pr en be th bs wh (nI ((q + 12) + 4)) len md nw) (va_runV (As := [.int a4]) (rest := []) ⟨hx, hb, hml, hown, hts⟩ (m_word l dC dI cI cB cZ a (wrT (wrT (wrT T q 4 (mb a1)) (q + 4) 4 (mb a2)) (q + 8) 4 (mb a3)) se id pr en be th bs wh len md nw a4 (q + 12) H.size (by omega)) (cwV 1 hts gX2_feed_X2_word rfl rfl rfl (by decide +kernel) ⟨Nat.le_of_ble_eq_true rfl, Nat.le_of_ble_eq_true rfl⟩) (pV_PW hK hPc hDc (ci := 2) (q0 := 0) rfl rfl) rfl rfl hl.1 rfl (lv_room (Nat.le_of_ble_eq_true rfl)) dX2_feed_33 ⟨Nat.zero_le _, Nat.zero_le _⟩) hP hD hS hA [0, 1, 2, 3, 4, 5, 6, 7, 8, 9] [] [0, 1, 2, 3, 4, 5, 6, 7, 8, 9] rfl rfl (by decide) (by decide) (by decide) (fun _ => rfl) (fun _u H locs hw hK hP hD hS => ?_)
    have hP : va_P (dC, dI) vwCl (wM cI cB cZ a (wrT (wrT (wrT (wrT T q 4 (mb a1)) (q + 4) 4 (mb a2)) (q + 8) 4 (mb a3)) (q + 12) 4 (mb a4)) se id pr en be th bs wh (nI (q + 16)) len md nw) H := hP
    have hD : va_D A (wM cI cB cZ a (wrT (wrT (wrT (wrT T q 4 (mb a1)) (q + 4) 4 (mb a2)) (q + 8) 4 (mb a3)) (q + 12) 4 (mb a4)) se id pr en be th bs wh (nI (q + 16)) len md nw) := hD
    refine lv_aload_n hx hb dX2_feed_36 rfl (lv_at hl 0 rfl) ?_
    refine lv_iload hx hb dX2_feed_37 (lv_at hl 5 rfl) ?_
    have hPc := hP.sub (ws' := wM cI cB cZ a (wrT (wrT (wrT (wrT T q 4 (mb a1)) (q + 4) 4 (mb a2)) (q + 8) 4 (mb a3)) (q + 12) 4 (mb a4)) se id pr en be th bs wh (nI (q + 16)) len md nw) [0, 1, 2, 3, 4, 5, 6, 7, 8, 9] rfl
    have hDc := hD.sub (ws' := wM cI cB cZ a (wrT (wrT (wrT (wrT T q 4 (mb a1)) (q + 4) 4 (mb a2)) (q + 8) 4 (mb a3)) (q + 12) 4 (mb a4)) se id pr en be th bs wh (nI (q + 16)) len md nw) [0, 1, 2, 3, 4, 5, 6, 7, 8, 9] (by decide) rfl
    refine fh_cv (wr := []) (w2 := fun _ => wM cI cB cZ a (wrT (wrT (wrT (wrT (wrT T q 4 (mb a1)) (q + 4) 4 (mb a2)) (q + 8) 4 (mb a3)) (q + 12) 4 (mb a4)) (q + 16) 4 (mb a5)) se id pr en be th bs wh (nI ((q + 16) + 4)) len md nw) (va_runV (As := [.int a5]) (rest := []) ⟨hx, hb, hml, hown, hts⟩ (m_word l dC dI cI cB cZ a (wrT (wrT (wrT (wrT T q 4 (mb a1)) (q + 4) 4 (mb a2)) (q + 8) 4 (mb a3)) (q + 12) 4 (mb a4)) se id pr en be th bs wh len md nw a5 (q + 16) H.size (by omega)) (cwV 1 hts gX2_feed_X2_word rfl rfl rfl (by decide +kernel) ⟨Nat.le_of_ble_eq_true rfl, Nat.le_of_ble_eq_true rfl⟩) (pV_PW hK hPc hDc (ci := 2) (q0 := 0) rfl rfl) rfl rfl hl.1 rfl (lv_room (Nat.le_of_ble_eq_true rfl)) dX2_feed_39 ⟨Nat.zero_le _, Nat.zero_le _⟩) hP hD hS hA [0, 1, 2, 3, 4, 5, 6, 7, 8, 9] [] [0, 1, 2, 3, 4, 5, 6, 7, 8, 9] rfl rfl (by decide) (by decide) (by decide) (fun _ => rfl) (fun _u H locs hw hK hP hD hS => ?_)
    have hP : va_P (dC, dI) vwCl (wM cI cB cZ a (wrT (wrT (wrT (wrT (wrT T q 4 (mb a1)) (q + 4) 4 (mb a2)) (q + 8) 4 (mb a3)) (q + 12) 4 (mb a4)) (q + 16) 4 (mb a5)) se id pr en be th bs wh (nI (q + 20)) len md nw) H := hP
    have hD : va_D A (wM cI cB cZ a (wrT (wrT (wrT (wrT (wrT T q 4 (mb a1)) (q + 4) 4 (mb a2)) (q + 8) 4 (mb a3)) (q + 12) 4 (mb a4)) (q + 16) 4 (mb a5)) se id pr en be th bs wh (nI (q + 20)) len md nw) := hD
    refine lv_aload_n hx hb dX2_feed_42 rfl (lv_at hl 0 rfl) ?_
    refine va_get (D := (dC, dI)) (ci := 2) (v := .int (nI (q + 20))) (C := RX2) (T := TX2) (N := 13) hx hb hts (by decide +kernel) hown hK hP 0 rfl rfl 1 (by decide) (hts (.fieldLink RX2 43 "FragmentHouseModel" "trayed" "I") (by decide +kernel)) (fun _ h9 => h9) rfl dX2_feed_43 ?_
    exact W.iret hx hb hr (fh_qi (fdT mb T q a1 a2 a3 a4 a5, q + 20) (Or.inr ⟨hq2, rfl, rfl⟩) hP hK hD hS) hS.2.2 dX2_feed_46
  · skip
    refine lv_iconst (v := (-1)) hx hb dX2_feed_13 (by first | decide | rfl) ?_
    exact W.iret hx hb hr (fh_qi (T, q) (Or.inl ⟨by rcases Nat.lt_or_ge 1460 q with z | z; exact z; exact absurd (nI_le (show q + 20 ≤ 1480 by omega) (by decide)) c10, rfl, rfl⟩) hP hK hD hS) hS.2.2 dX2_feed_14
set_option maxHeartbeats 4000000 in
set_option maxRecDepth 100000 in
/-- end -/
theorem m_end (l : Launch) (dC : Nat → ClassId) (dI : Nat → Nat → Nat) (cI cB cZ : ClassId) (a : Nat → Nat) (T se id pr en be th bs wh : Nat → Int32) (len md nw : Int32) (p1 : Int32) (q : Nat) (sz : Nat) (hq : q ≤ 1480) : Met l yX2_end wsX2_end ({ frames := 0, cells := 0, slots := 0, locals := 0 }) (va_Pc [.ref (a 0), .int p1] (PW (dC, dI) vwCl [(cI, .int), (cB, .byte), (cZ, .boolean)] (wM cI cB cZ a T se id pr en be th bs wh (nI q) len md nw) sz)) (va_Qi (S := Nat) (fun r u => (r = -1 ∧ (p1 < 0 ∨ ¬ p1 ≤ nI q) ∧ u = q) ∨ (∃ k, k ≤ q ∧ p1 = nI k ∧ r = nI k ∧ u = k)) (QW (dC, dI) vwCl (fun _ => [(cI, .int), (cB, .byte), (cZ, .boolean)]) (va_A (wM cI cB cZ a T se id pr en be th bs wh (nI q) len md nw) sz) (fun u => wM cI cB cZ a T se id pr en be th bs wh (nI u) len md nw)) (va_A (wM cI cB cZ a T se id pr en be th bs wh (nI q) len md nw) sz)) 0 0 (va_A (wM cI cB cZ a T se id pr en be th bs wh (nI q) len md nw) sz) := by
  refine Met.ofW (cc := cX2_end) (maxL := 2) (ret := (some .int)) (by decide) rfl ?_
  intro p e s m args below meth c s₁ B hml hv
  obtain ⟨rfl, hsz, hP, hK, hD0⟩ := hv
  have hx := B.exec
  have hb := B.bytes
  have hr := B.returns
  have hts := atoms_spec (ws := wsX2_end) B.pre
  have hown : s.vm.findClass RX2 = some m.cls := findClass_of_methodNamed B.named
  have hlocks := B.notSynchronized
  subst hsz
  have hD := hD0.self (sz := s.heap.size)
  generalize hAe : va_A (wM cI cB cZ a T se id pr en be th bs wh (nI q) len md nw) s.heap.size = A at hD ⊢
  have hA : ∀ q : Nat, s.heap.size ≤ q → A q := fun q h => by rw [← hAe]; exact Or.inr h
  have hS : va_S A s.heap s.heap [] := va_S.rf
  have hl := lv_entry ([.ref (a 0), .int p1]) (n := 2) (Nat.le_of_ble_eq_true rfl)
  rw [lg_entry_eq]
  generalize (lg_sl ([.ref (a 0), .int p1]) ++ List.replicate (2 - (lg_sl ([.ref (a 0), .int p1])).length) Slot.unset).toArray = ls at hl ⊢
  have hl : lv_has ls 2 [(0, .ref (a 0)), (1, .int p1)] := hl
  refine fh_start (fun H hH => ?_)
  have hP : va_P (dC, dI) vwCl (wM cI cB cZ a T se id pr en be th bs wh (nI q) len md nw) H := by rw [hH]; exact hP
  have hS : va_S A s.heap H [] := by rw [hH]; exact va_S.rf
  refine lv_iload_n hx hb dX2_end_0 rfl (lv_at hl 1 rfl) ?_
  refine lv_if_lt (tgt := 12) hx hb dX2_end_1 (by decide) (fun c1 => ?_) (fun c1 => ?_)
  · skip
    refine lv_iconst (v := (-1)) hx hb dX2_end_12 (by first | decide | rfl) ?_
    exact W.iret hx hb hr (fh_qi q (Or.inl ⟨rfl, Or.inl c1, rfl⟩) hP hK hD hS) hS.2.2 dX2_end_13
  · skip
    refine lv_iload_n hx hb dX2_end_4 rfl (lv_at hl 1 rfl) ?_
    refine lv_aload_n hx hb dX2_end_5 rfl (lv_at hl 0 rfl) ?_
    refine va_get (D := (dC, dI)) (ci := 2) (v := .int (nI q)) (C := RX2) (T := TX2) (N := 13) hx hb hts (by decide +kernel) hown hK hP 0 rfl rfl 1 (by decide) (hts (.fieldLink RX2 43 "FragmentHouseModel" "trayed" "I") (by decide +kernel)) (fun _ h9 => h9) rfl dX2_end_6 ?_
    refine lv_icmp_le (tgt := 14) hx hb dX2_end_9 (by decide) (fun c9 => ?_) (fun c9 => ?_)
    · skip
      obtain ⟨k, hk, rfl⟩ := nI_of c1
      refine lv_aload_n hx hb dX2_end_14 rfl (lv_at hl 0 rfl) ?_
      refine lv_iload_n hx hb dX2_end_15 rfl (lv_at hl 1 rfl) ?_
      refine va_put (D := (dC, dI)) (ci := 2) (v := .int (nI k)) (ty := .int) (C := RX2) (T := TX2) (N := 13) hx hb hts (by decide +kernel) tyX2 tyX2_ok nmX2 hown hK hP hD hS 0 rfl rfl 1 (by decide) (hts (.fieldLink RX2 43 "FragmentHouseModel" "trayed" "I") (by decide +kernel)) (fun _ h9 => h9) rfl (by decide +kernel) rfl rfl (Nat.le_of_ble_eq_true rfl) dX2_end_16 (fun H locs hP hD hS => ?_)
      have hP : va_P (dC, dI) vwCl (wM cI cB cZ a T se id pr en be th bs wh ((nI k)) len md nw) H := hP
      have hD : va_D A (wM cI cB cZ a T se id pr en be th bs wh ((nI k)) len md nw) := hD
      refine lv_iload_n hx hb dX2_end_19 rfl (lv_at hl 1 rfl) ?_
      exact W.iret hx hb hr (fh_qi k (Or.inr ⟨k, (nI_leI hk (by omega)).mp c9, rfl, rfl, rfl⟩) hP hK hD hS) hS.2.2 dX2_end_20
    · skip
      refine lv_iconst (v := (-1)) hx hb dX2_end_12 (by first | decide | rfl) ?_
      exact W.iret hx hb hr (fh_qi q (Or.inl ⟨rfl, Or.inr c9, rfl⟩) hP hK hD hS) hS.2.2 dX2_end_13
set_option maxHeartbeats 4000000 in
set_option maxRecDepth 100000 in
/-- making -/
theorem m_making (l : Launch) (dC : Nat → ClassId) (dI : Nat → Nat → Nat) (cI cB cZ : ClassId) (a : Nat → Nat) (T se id pr en be th bs wh : Nat → Int32) (n len md nw : Int32) (sz : Nat)  : Met l yX2_making wsX2_making ({ frames := 0, cells := 0, slots := 0, locals := 0 }) (va_Pc [.ref (a 0)] (PW (dC, dI) vwCl [(cI, .int), (cB, .byte), (cZ, .boolean)] (wM cI cB cZ a T se id pr en be th bs wh n len md nw) sz)) (va_Qi (S := Unit) (fun r _ => r = nI (mkM th 4)) (QW (dC, dI) vwCl (fun _ => [(cI, .int), (cB, .byte), (cZ, .boolean)]) (va_A (wM cI cB cZ a T se id pr en be th bs wh n len md nw) sz) (fun _ => wM cI cB cZ a T se id pr en be th bs wh n len md nw)) (va_A (wM cI cB cZ a T se id pr en be th bs wh n len md nw) sz)) 0 0 (va_A (wM cI cB cZ a T se id pr en be th bs wh n len md nw) sz) := by
  refine Met.ofW (cc := cX2_making) (maxL := 3) (ret := (some .int)) (by decide) rfl ?_
  intro p e s m args below meth c s₁ B hml hv
  obtain ⟨rfl, hsz, hP, hK, hD0⟩ := hv
  have hx := B.exec
  have hb := B.bytes
  have hr := B.returns
  have hts := atoms_spec (ws := wsX2_making) B.pre
  have hown : s.vm.findClass RX2 = some m.cls := findClass_of_methodNamed B.named
  have hlocks := B.notSynchronized
  subst hsz
  have hD := hD0.self (sz := s.heap.size)
  generalize hAe : va_A (wM cI cB cZ a T se id pr en be th bs wh n len md nw) s.heap.size = A at hD ⊢
  have hA : ∀ q : Nat, s.heap.size ≤ q → A q := fun q h => by rw [← hAe]; exact Or.inr h
  have hS : va_S A s.heap s.heap [] := va_S.rf
  have hl := lv_entry ([.ref (a 0)]) (n := 3) (Nat.le_of_ble_eq_true rfl)
  rw [lg_entry_eq]
  generalize (lg_sl ([.ref (a 0)]) ++ List.replicate (3 - (lg_sl ([.ref (a 0)])).length) Slot.unset).toArray = ls at hl ⊢
  have hl : lv_has ls 3 [(0, .ref (a 0))] := hl
  refine fh_start (fun H hH => ?_)
  have hP : va_P (dC, dI) vwCl (wM cI cB cZ a T se id pr en be th bs wh n len md nw) H := by rw [hH]; exact hP
  have hS : va_S A s.heap H [] := by rw [hH]; exact va_S.rf
  refine lv_iconst (v := nI (mkM th 0)) hx hb dX2_making_0 (by first | decide | rfl) ?_
  refine lv_istore_n (lv' := [(1, .int (nI (mkM th 0))), (0, .ref (a 0))]) hx hb dX2_making_1 rfl hl (by decide) rfl (fun ls hl => ?_)
  refine lv_iconst (v := nI 0) hx hb dX2_making_2 (by first | decide | rfl) ?_
  refine lv_istore_n (lv' := [(2, .int (nI 0)), (1, .int (nI (mkM th 0))), (0, .ref (a 0))]) hx hb dX2_making_3 rfl hl (by decide) rfl (fun ls hl => ?_)
  refine fh_loop (σ := Nat) (fun q9 H locs ls => (q9 ≤ 4) ∧ va_P (dC, dI) vwCl (wM cI cB cZ a T se id pr en be th bs wh n len md nw) H ∧ va_D A (wM cI cB cZ a T se id pr en be th bs wh n len md nw) ∧ va_S A s.heap H locs ∧ lv_has ls 3 [(0, .ref (a 0)), (1, .int (nI (mkM th q9))), (2, .int (nI q9))]) (fun q9 => 4 - q9) ?_ (0) ⟨Nat.zero_le _, hP, hD, hS, lv_sub hl [2, 1, 0] rfl⟩
  intro q9 H locs ls hI ih
  obtain ⟨k, rfl⟩ : ∃ z, z = q9 := ⟨_, rfl⟩
  obtain ⟨hk, hP, hD, hS, hl⟩ : (k ≤ 4) ∧ va_P (dC, dI) vwCl (wM cI cB cZ a T se id pr en be th bs wh n len md nw) H ∧ va_D A (wM cI cB cZ a T se id pr en be th bs wh n len md nw) ∧ va_S A s.heap H locs ∧ lv_has ls 3 [(0, .ref (a 0)), (1, .int (nI (mkM th k))), (2, .int (nI k))] := hI
  refine lv_iload_n hx hb dX2_making_4 rfl (lv_at hl 2 rfl) ?_
  refine lv_iconst (v := nI 4) hx hb dX2_making_5 (by first | decide | rfl) ?_
  refine lv_icmp_ge (tgt := 27) hx hb dX2_making_6 (by decide) (fun c6 => ?_) (fun c6 => ?_)
  · skip
    refine lv_iload_n hx hb dX2_making_27 rfl (lv_at hl 1 rfl) ?_
    obtain rfl : k = 4 := Nat.le_antisymm hk ((nI_leI (by omega) (by omega)).mp c6)
    exact W.iret hx hb hr (fh_qi () rfl hP hK hD hS) hS.2.2 dX2_making_28
  · skip
    have hlt : k < 4 := Nat.lt_of_not_le (fun h => c6 (nI_le h (by omega)))
    refine lv_aload_n hx hb dX2_making_9 rfl (lv_at hl 0 rfl) ?_
    refine va_get (D := (dC, dI)) (ci := 2) (v := .ref (a 7)) (C := RX2) (T := TX2) (N := 13) hx hb hts (by decide +kernel) hown hK hP 0 rfl rfl 7 (by decide) (hts (.fieldLink RX2 29 "FragmentHouseModel" "there" "[Z") (by decide +kernel)) (fun _ h9 => h9) rfl dX2_making_10 ?_
    refine lv_iload_n hx hb dX2_making_13 rfl (lv_at hl 2 rfl) ?_
    refine fh_zald (k := k) hx hb hK hP 7 2 rfl rfl hlt (by first | decide | omega) dX2_making_14 ?_
    refine lv_if_eq (tgt := 21) hx hb dX2_making_15 (by decide) (fun c15 => ?_) (fun c15 => ?_)
    · skip
      refine lv_iinc (v := (nI (k + 1))) (lv' := [(2, .int (nI (k + 1))), (0, .ref (a 0)), (1, .int (nI (mkM th k)))]) hx hb dX2_making_21 hl (k := 2) rfl (nI_1 k) (by decide) rfl (fun ls hl => ?_)
      refine lv_goto (tgt := 4) hx hb dX2_making_24 (by decide) ?_
      rw [← mkM_s2 c15] at hl
      exact ih (k + 1) _ _ _ ⟨hlt, hP, hD, hS, lv_sub hl [1, 2, 0] rfl⟩ (by show 4 - (k + 1) < 4 - k; omega)
    · skip
      refine lv_iinc (v := (nI ((mkM th k) + 1))) (lv' := [(1, .int (nI ((mkM th k) + 1))), (0, .ref (a 0)), (2, .int (nI k))]) hx hb dX2_making_18 hl (k := 1) rfl (nI_1 ((mkM th k))) (by decide) rfl (fun ls hl => ?_)
      refine lv_iinc (v := (nI (k + 1))) (lv' := [(2, .int (nI (k + 1))), (1, .int (nI ((mkM th k) + 1))), (0, .ref (a 0))]) hx hb dX2_making_21 hl (k := 2) rfl (nI_1 k) (by decide) rfl (fun ls hl => ?_)
      refine lv_goto (tgt := 4) hx hb dX2_making_24 (by decide) ?_
      rw [← mkM_s1 c15] at hl
      exact ih (k + 1) _ _ _ ⟨hlt, hP, hD, hS, lv_sub hl [2, 1, 0] rfl⟩ (by show 4 - (k + 1) < 4 - k; omega)
set_option maxHeartbeats 4000000 in
set_option maxRecDepth 100000 in
/-- made -/
theorem m_made (l : Launch) (dC : Nat → ClassId) (dI : Nat → Nat → Nat) (cI cB cZ : ClassId) (a : Nat → Nat) (T se id pr en be th bs wh : Nat → Int32) (n len md nw : Int32) (sz : Nat)  : Met l yX2_made wsX2_made ({ frames := 0, cells := 0, slots := 0, locals := 0 }) (va_Pc [.ref (a 0)] (PW (dC, dI) vwCl [(cI, .int), (cB, .byte), (cZ, .boolean)] (wM cI cB cZ a T se id pr en be th bs wh n len md nw) sz)) (va_Qi (S := Unit) (fun r _ => r = md) (QW (dC, dI) vwCl (fun _ => [(cI, .int), (cB, .byte), (cZ, .boolean)]) (va_A (wM cI cB cZ a T se id pr en be th bs wh n len md nw) sz) (fun _ => wM cI cB cZ a T se id pr en be th bs wh n len md nw)) (va_A (wM cI cB cZ a T se id pr en be th bs wh n len md nw) sz)) 0 0 (va_A (wM cI cB cZ a T se id pr en be th bs wh n len md nw) sz) := by
  refine Met.ofW (cc := cX2_made) (maxL := 1) (ret := (some .int)) (by decide) rfl ?_
  intro p e s m args below meth c s₁ B hml hv
  obtain ⟨rfl, hsz, hP, hK, hD0⟩ := hv
  have hx := B.exec
  have hb := B.bytes
  have hr := B.returns
  have hts := atoms_spec (ws := wsX2_made) B.pre
  have hown : s.vm.findClass RX2 = some m.cls := findClass_of_methodNamed B.named
  have hlocks := B.notSynchronized
  subst hsz
  have hD := hD0.self (sz := s.heap.size)
  generalize hAe : va_A (wM cI cB cZ a T se id pr en be th bs wh n len md nw) s.heap.size = A at hD ⊢
  have hA : ∀ q : Nat, s.heap.size ≤ q → A q := fun q h => by rw [← hAe]; exact Or.inr h
  have hS : va_S A s.heap s.heap [] := va_S.rf
  have hl := lv_entry ([.ref (a 0)]) (n := 1) (Nat.le_of_ble_eq_true rfl)
  rw [lg_entry_eq]
  generalize (lg_sl ([.ref (a 0)]) ++ List.replicate (1 - (lg_sl ([.ref (a 0)])).length) Slot.unset).toArray = ls at hl ⊢
  have hl : lv_has ls 1 [(0, .ref (a 0))] := hl
  refine fh_start (fun H hH => ?_)
  have hP : va_P (dC, dI) vwCl (wM cI cB cZ a T se id pr en be th bs wh n len md nw) H := by rw [hH]; exact hP
  have hS : va_S A s.heap H [] := by rw [hH]; exact va_S.rf
  refine lv_aload_n hx hb dX2_made_0 rfl (lv_at hl 0 rfl) ?_
  refine va_get (D := (dC, dI)) (ci := 2) (v := .int md) (C := RX2) (T := TX2) (N := 13) hx hb hts (by decide +kernel) hown hK hP 0 rfl rfl 11 (by decide) (hts (.fieldLink RX2 60 "FragmentHouseModel" "made" "I") (by decide +kernel)) (fun _ h9 => h9) rfl dX2_made_1 ?_
  exact W.iret hx hb hr (fh_qi () rfl hP hK hD hS) hS.2.2 dX2_made_4
set_option maxHeartbeats 4000000 in
set_option maxRecDepth 100000 in
/-- length -/
theorem m_length (l : Launch) (dC : Nat → ClassId) (dI : Nat → Nat → Nat) (cI cB cZ : ClassId) (a : Nat → Nat) (T se id pr en be th bs wh : Nat → Int32) (n len md nw : Int32) (sz : Nat)  : Met l yX2_length wsX2_length ({ frames := 0, cells := 0, slots := 0, locals := 0 }) (va_Pc [.ref (a 0)] (PW (dC, dI) vwCl [(cI, .int), (cB, .byte), (cZ, .boolean)] (wM cI cB cZ a T se id pr en be th bs wh n len md nw) sz)) (va_Qi (S := Unit) (fun r _ => r = len) (QW (dC, dI) vwCl (fun _ => [(cI, .int), (cB, .byte), (cZ, .boolean)]) (va_A (wM cI cB cZ a T se id pr en be th bs wh n len md nw) sz) (fun _ => wM cI cB cZ a T se id pr en be th bs wh n len md nw)) (va_A (wM cI cB cZ a T se id pr en be th bs wh n len md nw) sz)) 0 0 (va_A (wM cI cB cZ a T se id pr en be th bs wh n len md nw) sz) := by
  refine Met.ofW (cc := cX2_length) (maxL := 1) (ret := (some .int)) (by decide) rfl ?_
  intro p e s m args below meth c s₁ B hml hv
  obtain ⟨rfl, hsz, hP, hK, hD0⟩ := hv
  have hx := B.exec
  have hb := B.bytes
  have hr := B.returns
  have hts := atoms_spec (ws := wsX2_length) B.pre
  have hown : s.vm.findClass RX2 = some m.cls := findClass_of_methodNamed B.named
  have hlocks := B.notSynchronized
  subst hsz
  have hD := hD0.self (sz := s.heap.size)
  generalize hAe : va_A (wM cI cB cZ a T se id pr en be th bs wh n len md nw) s.heap.size = A at hD ⊢
  have hA : ∀ q : Nat, s.heap.size ≤ q → A q := fun q h => by rw [← hAe]; exact Or.inr h
  have hS : va_S A s.heap s.heap [] := va_S.rf
  have hl := lv_entry ([.ref (a 0)]) (n := 1) (Nat.le_of_ble_eq_true rfl)
  rw [lg_entry_eq]
  generalize (lg_sl ([.ref (a 0)]) ++ List.replicate (1 - (lg_sl ([.ref (a 0)])).length) Slot.unset).toArray = ls at hl ⊢
  have hl : lv_has ls 1 [(0, .ref (a 0))] := hl
  refine fh_start (fun H hH => ?_)
  have hP : va_P (dC, dI) vwCl (wM cI cB cZ a T se id pr en be th bs wh n len md nw) H := by rw [hH]; exact hP
  have hS : va_S A s.heap H [] := by rw [hH]; exact va_S.rf
  refine lv_aload_n hx hb dX2_length_0 rfl (lv_at hl 0 rfl) ?_
  refine va_get (D := (dC, dI)) (ci := 2) (v := .int len) (C := RX2) (T := TX2) (N := 13) hx hb hts (by decide +kernel) hown hK hP 0 rfl rfl 10 (by decide) (hts (.fieldLink RX2 39 "FragmentHouseModel" "length" "I") (by decide +kernel)) (fun _ h9 => h9) rfl dX2_length_1 ?_
  exact W.iret hx hb hr (fh_qi () rfl hP hK hD hS) hS.2.2 dX2_length_4
set_option maxHeartbeats 4000000 in
set_option maxRecDepth 100000 in
/-- at -/
theorem m_at (l : Launch) (dC : Nat → ClassId) (dI : Nat → Nat → Nat) (cI cB cZ : ClassId) (a : Nat → Nat) (T se id pr en be th bs wh : Nat → Int32) (n len md nw : Int32) (p1 : Int32) (sz : Nat) (hw6 : len ≤ nI 4096) : Met l yX2_at wsX2_at ({ frames := 0, cells := 0, slots := 0, locals := 0 }) (va_Pc [.ref (a 0), .int p1] (PW (dC, dI) vwCl [(cI, .int), (cB, .byte), (cZ, .boolean)] (wM cI cB cZ a T se id pr en be th bs wh n len md nw) sz)) (va_Qi (S := Unit) (fun r _ => (r = -1 ∧ (p1 < 0 ∨ ¬ p1 < len)) ∨ (∃ k, k < 4096 ∧ p1 = nI k ∧ nI k < len ∧ r = wh k)) (QW (dC, dI) vwCl (fun _ => [(cI, .int), (cB, .byte), (cZ, .boolean)]) (va_A (wM cI cB cZ a T se id pr en be th bs wh n len md nw) sz) (fun _ => wM cI cB cZ a T se id pr en be th bs wh n len md nw)) (va_A (wM cI cB cZ a T se id pr en be th bs wh n len md nw) sz)) 0 0 (va_A (wM cI cB cZ a T se id pr en be th bs wh n len md nw) sz) := by
  refine Met.ofW (cc := cX2_at) (maxL := 2) (ret := (some .int)) (by decide) rfl ?_
  intro p e s m args below meth c s₁ B hml hv
  obtain ⟨rfl, hsz, hP, hK, hD0⟩ := hv
  have hx := B.exec
  have hb := B.bytes
  have hr := B.returns
  have hts := atoms_spec (ws := wsX2_at) B.pre
  have hown : s.vm.findClass RX2 = some m.cls := findClass_of_methodNamed B.named
  have hlocks := B.notSynchronized
  subst hsz
  have hD := hD0.self (sz := s.heap.size)
  generalize hAe : va_A (wM cI cB cZ a T se id pr en be th bs wh n len md nw) s.heap.size = A at hD ⊢
  have hA : ∀ q : Nat, s.heap.size ≤ q → A q := fun q h => by rw [← hAe]; exact Or.inr h
  have hS : va_S A s.heap s.heap [] := va_S.rf
  have hl := lv_entry ([.ref (a 0), .int p1]) (n := 2) (Nat.le_of_ble_eq_true rfl)
  rw [lg_entry_eq]
  generalize (lg_sl ([.ref (a 0), .int p1]) ++ List.replicate (2 - (lg_sl ([.ref (a 0), .int p1])).length) Slot.unset).toArray = ls at hl ⊢
  have hl : lv_has ls 2 [(0, .ref (a 0)), (1, .int p1)] := hl
  refine fh_start (fun H hH => ?_)
  have hP : va_P (dC, dI) vwCl (wM cI cB cZ a T se id pr en be th bs wh n len md nw) H := by rw [hH]; exact hP
  have hS : va_S A s.heap H [] := by rw [hH]; exact va_S.rf
  refine lv_iload_n hx hb dX2_at_0 rfl (lv_at hl 1 rfl) ?_
  refine lv_if_lt (tgt := 21) hx hb dX2_at_1 (by decide) (fun c1 => ?_) (fun c1 => ?_)
  · skip
    refine lv_iconst (v := (-1)) hx hb dX2_at_21 (by first | decide | rfl) ?_
    exact W.iret hx hb hr (fh_qi () (Or.inl ⟨rfl, Or.inl c1⟩) hP hK hD hS) hS.2.2 dX2_at_22
  · skip
    refine lv_iload_n hx hb dX2_at_4 rfl (lv_at hl 1 rfl) ?_
    refine lv_aload_n hx hb dX2_at_5 rfl (lv_at hl 0 rfl) ?_
    refine va_get (D := (dC, dI)) (ci := 2) (v := .int len) (C := RX2) (T := TX2) (N := 13) hx hb hts (by decide +kernel) hown hK hP 0 rfl rfl 10 (by decide) (hts (.fieldLink RX2 39 "FragmentHouseModel" "length" "I") (by decide +kernel)) (fun _ h9 => h9) rfl dX2_at_6 ?_
    refine lv_icmp_ge (tgt := 21) hx hb dX2_at_9 (by decide) (fun c9 => ?_) (fun c9 => ?_)
    · skip
      refine lv_iconst (v := (-1)) hx hb dX2_at_21 (by first | decide | rfl) ?_
      exact W.iret hx hb hr (fh_qi () (Or.inl ⟨rfl, Or.inr (Int32.not_lt.mpr c9)⟩) hP hK hD hS) hS.2.2 dX2_at_22
    · skip
      obtain ⟨k, hk0, rfl⟩ := nI_of c1
      have hk : k < 4096 := (nI_ltI hk0 (by decide)).mp (Int32.lt_of_lt_of_le (Int32.not_le.mp c9) hw6)
      refine lv_aload_n hx hb dX2_at_12 rfl (lv_at hl 0 rfl) ?_
      refine va_get (D := (dC, dI)) (ci := 2) (v := .ref (a 9)) (C := RX2) (T := TX2) (N := 13) hx hb hts (by decide +kernel) hown hK hP 0 rfl rfl 9 (by decide) (hts (.fieldLink RX2 36 "FragmentHouseModel" "whole" "[I") (by decide +kernel)) (fun _ h9 => h9) rfl dX2_at_13 ?_
      refine lv_iload_n hx hb dX2_at_16 rfl (lv_at hl 1 rfl) ?_
      refine fh_iald (k := k) hx hb hK hP 9 0 rfl rfl hk (by first | decide | omega) dX2_at_17 ?_
      refine lv_goto (tgt := 22) hx hb dX2_at_18 (by decide) ?_
      exact W.iret hx hb hr (fh_qi () (Or.inr ⟨k, hk, rfl, Int32.not_le.mp c9, rfl⟩) hP hK hD hS) hS.2.2 dX2_at_22
set_option maxHeartbeats 4000000 in
set_option maxRecDepth 100000 in
/-- pass -/
theorem m_pass (l : Launch) (dC : Nat → ClassId) (dI : Nat → Nat → Nat) (cI cB cZ : ClassId) (a : Nat → Nat) (T se id pr en be th bs wh : Nat → Int32) (n len md nw : Int32) (p1 : Int32) (sz : Nat)  : Met l yX2_pass wsX2_pass ({ frames := 0, cells := 0, slots := 0, locals := 0 }) (va_Pc [.ref (a 0), .int p1] (PW (dC, dI) vwCl [(cI, .int), (cB, .byte), (cZ, .boolean)] (wM cI cB cZ a T se id pr en be th bs wh n len md nw) sz)) (va_Qi (S := (Nat → Int32) × Int32) (fun r u => (r = -1 ∧ (p1 < nw ∨ ¬ p1 ≤ 2000000000) ∧ u = (th, nw)) ∨ (¬ p1 < nw ∧ p1 ≤ 2000000000 ∧ r = nI (psN p1 th be 4) ∧ u = (psT p1 th be 4, p1))) (QW (dC, dI) vwCl (fun _ => [(cI, .int), (cB, .byte), (cZ, .boolean)]) (va_A (wM cI cB cZ a T se id pr en be th bs wh n len md nw) sz) (fun u => wM cI cB cZ a T se id pr en be u.1 bs wh n len md u.2)) (va_A (wM cI cB cZ a T se id pr en be th bs wh n len md nw) sz)) 0 0 (va_A (wM cI cB cZ a T se id pr en be th bs wh n len md nw) sz) := by
  refine Met.ofW (cc := cX2_pass) (maxL := 4) (ret := (some .int)) (by decide) rfl ?_
  intro p e s m args below meth c s₁ B hml hv
  obtain ⟨rfl, hsz, hP, hK, hD0⟩ := hv
  have hx := B.exec
  have hb := B.bytes
  have hr := B.returns
  have hts := atoms_spec (ws := wsX2_pass) B.pre
  have hown : s.vm.findClass RX2 = some m.cls := findClass_of_methodNamed B.named
  have hlocks := B.notSynchronized
  subst hsz
  have hD := hD0.self (sz := s.heap.size)
  generalize hAe : va_A (wM cI cB cZ a T se id pr en be th bs wh n len md nw) s.heap.size = A at hD ⊢
  have hA : ∀ q : Nat, s.heap.size ≤ q → A q := fun q h => by rw [← hAe]; exact Or.inr h
  have hS : va_S A s.heap s.heap [] := va_S.rf
  have hl := lv_entry ([.ref (a 0), .int p1]) (n := 4) (Nat.le_of_ble_eq_true rfl)
  rw [lg_entry_eq]
  generalize (lg_sl ([.ref (a 0), .int p1]) ++ List.replicate (4 - (lg_sl ([.ref (a 0), .int p1])).length) Slot.unset).toArray = ls at hl ⊢
  have hl : lv_has ls 4 [(0, .ref (a 0)), (1, .int p1)] := hl
  refine fh_start (fun H hH => ?_)
  have hP : va_P (dC, dI) vwCl (wM cI cB cZ a T se id pr en be th bs wh n len md nw) H := by rw [hH]; exact hP
  have hS : va_S A s.heap H [] := by rw [hH]; exact va_S.rf
  refine lv_iload_n hx hb dX2_pass_0 rfl (lv_at hl 1 rfl) ?_
  refine lv_aload_n hx hb dX2_pass_1 rfl (lv_at hl 0 rfl) ?_
  refine va_get (D := (dC, dI)) (ci := 2) (v := .int nw) (C := RX2) (T := TX2) (N := 13) hx hb hts (by decide +kernel) hown hK hP 0 rfl rfl 12 (by decide) (hts (.fieldLink RX2 50 "FragmentHouseModel" "now" "I") (by decide +kernel)) (fun _ h9 => h9) rfl dX2_pass_2 ?_
  refine lv_icmp_lt (tgt := 14) hx hb dX2_pass_5 (by decide) (fun c5 => ?_) (fun c5 => ?_)
  · skip
    refine lv_iconst (v := (-1)) hx hb dX2_pass_14 (by first | decide | rfl) ?_
    exact W.iret hx hb hr (fh_qi (th, nw) (Or.inl ⟨rfl, Or.inl c5, rfl⟩) hP hK hD hS) hS.2.2 dX2_pass_15
  · skip
    refine lv_iload_n hx hb dX2_pass_8 rfl (lv_at hl 1 rfl) ?_
    refine lv_ldc (v := 2000000000) hx hb hown (hts (.constant RX2 63 (2000000000)) (by decide +kernel)) dX2_pass_9 ?_
    refine lv_icmp_le (tgt := 16) hx hb dX2_pass_11 (by decide) (fun c11 => ?_) (fun c11 => ?_)
    · skip
      refine lv_aload_n hx hb dX2_pass_16 rfl (lv_at hl 0 rfl) ?_
      refine lv_iload_n hx hb dX2_pass_17 rfl (lv_at hl 1 rfl) ?_
      refine va_put (D := (dC, dI)) (ci := 2) (v := .int p1) (ty := .int) (C := RX2) (T := TX2) (N := 13) hx hb hts (by decide +kernel) tyX2 tyX2_ok nmX2 hown hK hP hD hS 0 rfl rfl 12 (by decide) (hts (.fieldLink RX2 50 "FragmentHouseModel" "now" "I") (by decide +kernel)) (fun _ h9 => h9) rfl (by decide +kernel) rfl rfl (Nat.le_of_ble_eq_true rfl) dX2_pass_18 (fun H locs hP hD hS => ?_)
      have hP : va_P (dC, dI) vwCl (wM cI cB cZ a T se id pr en be th bs wh n len md p1) H := hP
      have hD : va_D A (wM cI cB cZ a T se id pr en be th bs wh n len md p1) := hD
      refine lv_iconst (v := nI (psN p1 th be 0)) hx hb dX2_pass_21 (by first | decide | rfl) ?_
      refine lv_istore_n (lv' := [(2, .int (nI (psN p1 th be 0))), (0, .ref (a 0)), (1, .int p1)]) hx hb dX2_pass_22 rfl hl (by decide) rfl (fun ls hl => ?_)
      refine lv_iconst (v := nI 0) hx hb dX2_pass_23 (by first | decide | rfl) ?_
      refine lv_istore_n (lv' := [(3, .int (nI 0)), (2, .int (nI (psN p1 th be 0))), (0, .ref (a 0)), (1, .int p1)]) hx hb dX2_pass_24 rfl hl (by decide) rfl (fun ls hl => ?_)
      have hP : va_P (dC, dI) vwCl (wM cI cB cZ a T se id pr en be (psT p1 th be 0) bs wh n len md p1) H := by rw [psT_0]; exact hP
      have hD : va_D A (wM cI cB cZ a T se id pr en be (psT p1 th be 0) bs wh n len md p1) := by rw [psT_0]; exact hD
      refine fh_loop (σ := Nat) (fun q9 H locs ls => (q9 ≤ 4) ∧ va_P (dC, dI) vwCl (wM cI cB cZ a T se id pr en be (psT p1 th be q9) bs wh n len md p1) H ∧ va_D A (wM cI cB cZ a T se id pr en be (psT p1 th be q9) bs wh n len md p1) ∧ va_S A s.heap H locs ∧ lv_has ls 4 [(0, .ref (a 0)), (1, .int p1), (2, .int (nI (psN p1 th be q9))), (3, .int (nI q9))]) (fun q9 => 4 - q9) ?_ (0) ⟨Nat.zero_le _, hP, hD, hS, lv_sub hl [2, 3, 1, 0] rfl⟩
      intro q9 H locs ls hI ih
      obtain ⟨k, rfl⟩ : ∃ z, z = q9 := ⟨_, rfl⟩
      obtain ⟨hk, hP, hD, hS, hl⟩ : (k ≤ 4) ∧ va_P (dC, dI) vwCl (wM cI cB cZ a T se id pr en be (psT p1 th be k) bs wh n len md p1) H ∧ va_D A (wM cI cB cZ a T se id pr en be (psT p1 th be k) bs wh n len md p1) ∧ va_S A s.heap H locs ∧ lv_has ls 4 [(0, .ref (a 0)), (1, .int p1), (2, .int (nI (psN p1 th be k))), (3, .int (nI k))] := hI
      refine lv_iload_n hx hb dX2_pass_25 rfl (lv_at hl 3 rfl) ?_
      refine lv_iconst (v := nI 4) hx hb dX2_pass_26 (by first | decide | rfl) ?_
      refine lv_icmp_ge (tgt := 69) hx hb dX2_pass_27 (by decide) (fun c27 => ?_) (fun c27 => ?_)
      · skip
        refine lv_iload_n hx hb dX2_pass_69 rfl (lv_at hl 2 rfl) ?_
        obtain rfl : k = 4 := Nat.le_antisymm hk ((nI_leI (by omega) (by omega)).mp c27)
        exact W.iret hx hb hr (fh_qi (psT p1 th be 4, p1) (Or.inr ⟨c5, c11, rfl, rfl⟩) hP hK hD hS) hS.2.2 dX2_pass_70
      · skip
        have hlt : k < 4 := Nat.lt_of_not_le (fun h => c27 (nI_le h (by omega)))
        refine lv_aload_n hx hb dX2_pass_30 rfl (lv_at hl 0 rfl) ?_
        refine va_get (D := (dC, dI)) (ci := 2) (v := .ref (a 7)) (C := RX2) (T := TX2) (N := 13) hx hb hts (by decide +kernel) hown hK hP 0 rfl rfl 7 (by decide) (hts (.fieldLink RX2 29 "FragmentHouseModel" "there" "[Z") (by decide +kernel)) (fun _ h9 => h9) rfl dX2_pass_31 ?_
        refine lv_iload_n hx hb dX2_pass_34 rfl (lv_at hl 3 rfl) ?_
        refine fh_zald (k := k) hx hb hK hP 7 2 rfl rfl hlt (by first | decide | omega) dX2_pass_35 ?_
        refine fh_top (y := th k) (psT_at p1 th be k) ?_
        refine lv_if_eq (tgt := 63) hx hb dX2_pass_36 (by decide) (fun c36 => ?_) (fun c36 => ?_)
        · skip
          refine lv_iinc (v := (nI (k + 1))) (lv' := [(3, .int (nI (k + 1))), (0, .ref (a 0)), (1, .int p1), (2, .int (nI (psN p1 th be k)))]) hx hb dX2_pass_63 hl (k := 3) rfl (nI_1 k) (by decide) rfl (fun ls hl => ?_)
          refine lv_goto (tgt := 25) hx hb dX2_pass_66 (by decide) ?_
          have hP : va_P (dC, dI) vwCl (wM cI cB cZ a T se id pr en be (psT p1 th be (k + 1)) bs wh n len md p1) H := by rw [← psT_s2 (fun z => z.1 c36)]; exact hP
          have hD : va_D A (wM cI cB cZ a T se id pr en be (psT p1 th be (k + 1)) bs wh n len md p1) := by rw [← psT_s2 (fun z => z.1 c36)]; exact hD
          rw [← psN_s2 (fun z => z.1 c36)] at hl
          exact ih (k + 1) _ _ _ ⟨hlt, hP, hD, hS, lv_sub hl [1, 2, 3, 0] rfl⟩ (by show 4 - (k + 1) < 4 - k; omega)
        · skip
          refine lv_iload_n hx hb dX2_pass_39 rfl (lv_at hl 1 rfl) ?_
          refine lv_aload_n hx hb dX2_pass_40 rfl (lv_at hl 0 rfl) ?_
          refine va_get (D := (dC, dI)) (ci := 2) (v := .ref (a 6)) (C := RX2) (T := TX2) (N := 13) hx hb hts (by decide +kernel) hown hK hP 0 rfl rfl 6 (by decide) (hts (.fieldLink RX2 26 "FragmentHouseModel" "begun" "[I") (by decide +kernel)) (fun _ h9 => h9) rfl dX2_pass_41 ?_
          refine lv_iload_n hx hb dX2_pass_44 rfl (lv_at hl 3 rfl) ?_
          refine fh_iald (k := k) hx hb hK hP 6 0 rfl rfl hlt (by first | decide | omega) dX2_pass_45 ?_
          refine lv_isub hx hb dX2_pass_46 ?_
          refine lv_sipush (v := 15000) hx hb dX2_pass_47 (by first | decide | rfl) ?_
          refine lv_icmp_lt (tgt := 63) hx hb dX2_pass_50 (by decide) (fun c50 => ?_) (fun c50 => ?_)
          · skip
            refine lv_iinc (v := (nI (k + 1))) (lv' := [(3, .int (nI (k + 1))), (0, .ref (a 0)), (1, .int p1), (2, .int (nI (psN p1 th be k)))]) hx hb dX2_pass_63 hl (k := 3) rfl (nI_1 k) (by decide) rfl (fun ls hl => ?_)
            refine lv_goto (tgt := 25) hx hb dX2_pass_66 (by decide) ?_
            have hP : va_P (dC, dI) vwCl (wM cI cB cZ a T se id pr en be (psT p1 th be (k + 1)) bs wh n len md p1) H := by rw [← psT_s2 (fun z => absurd c50 (Int32.not_lt.mpr z.2))]; exact hP
            have hD : va_D A (wM cI cB cZ a T se id pr en be (psT p1 th be (k + 1)) bs wh n len md p1) := by rw [← psT_s2 (fun z => absurd c50 (Int32.not_lt.mpr z.2))]; exact hD
            rw [← psN_s2 (fun z => absurd c50 (Int32.not_lt.mpr z.2))] at hl
            exact ih (k + 1) _ _ _ ⟨hlt, hP, hD, hS, lv_sub hl [1, 2, 3, 0] rfl⟩ (by show 4 - (k + 1) < 4 - k; omega)
          · skip
            refine lv_aload_n hx hb dX2_pass_53 rfl (lv_at hl 0 rfl) ?_
            refine va_get (D := (dC, dI)) (ci := 2) (v := .ref (a 7)) (C := RX2) (T := TX2) (N := 13) hx hb hts (by decide +kernel) hown hK hP 0 rfl rfl 7 (by decide) (hts (.fieldLink RX2 29 "FragmentHouseModel" "there" "[Z") (by decide +kernel)) (fun _ h9 => h9) rfl dX2_pass_54 ?_
            refine lv_iload_n hx hb dX2_pass_57 rfl (lv_at hl 3 rfl) ?_
            refine lv_iconst (v := 0) hx hb dX2_pass_58 (by first | decide | rfl) ?_
            refine fh_zast (k := k) hx hb hK hP hD hS 7 2 rfl rfl rfl hlt (by first | decide | omega) dX2_pass_59 (fun H locs hP hD hS => ?_)
            have hP : va_P (dC, dI) vwCl (wM cI cB cZ a T se id pr en be (upd ((psT p1 th be k)) k 0) bs wh n len md p1) H := hP
            have hD : va_D A (wM cI cB cZ a T se id pr en be (upd ((psT p1 th be k)) k 0) bs wh n len md p1) := hD
            refine lv_iinc (v := (nI ((psN p1 th be k) + 1))) (lv' := [(2, .int (nI ((psN p1 th be k) + 1))), (0, .ref (a 0)), (1, .int p1), (3, .int (nI k))]) hx hb dX2_pass_60 hl (k := 2) rfl (nI_1 ((psN p1 th be k))) (by decide) rfl (fun ls hl => ?_)
            refine lv_iinc (v := (nI (k + 1))) (lv' := [(3, .int (nI (k + 1))), (2, .int (nI ((psN p1 th be k) + 1))), (0, .ref (a 0)), (1, .int p1)]) hx hb dX2_pass_63 hl (k := 3) rfl (nI_1 k) (by decide) rfl (fun ls hl => ?_)
            refine lv_goto (tgt := 25) hx hb dX2_pass_66 (by decide) ?_
            have hP : va_P (dC, dI) vwCl (wM cI cB cZ a T se id pr en be (psT p1 th be (k + 1)) bs wh n len md p1) H := by rw [← psT_s1 c36 (Int32.not_lt.mp c50)]; exact hP
            have hD : va_D A (wM cI cB cZ a T se id pr en be (psT p1 th be (k + 1)) bs wh n len md p1) := by rw [← psT_s1 c36 (Int32.not_lt.mp c50)]; exact hD
            rw [← psN_s1 c36 (Int32.not_lt.mp c50)] at hl
            exact ih (k + 1) _ _ _ ⟨hlt, hP, hD, hS, lv_sub hl [2, 3, 1, 0] rfl⟩ (by show 4 - (k + 1) < 4 - k; omega)
    · skip
      refine lv_iconst (v := (-1)) hx hb dX2_pass_14 (by first | decide | rfl) ?_
      exact W.iret hx hb hr (fh_qi (th, nw) (Or.inl ⟨rfl, Or.inr c11, rfl⟩) hP hK hD hS) hS.2.2 dX2_pass_15
set_option maxHeartbeats 4000000 in
set_option maxRecDepth 100000 in
/-- find -/
theorem m_find (l : Launch) (dC : Nat → ClassId) (dI : Nat → Nat → Nat) (cI cB cZ : ClassId) (a : Nat → Nat) (T se id pr en be th bs wh : Nat → Int32) (n len md nw : Int32) (p1 p2 p3 : Int32) (sz : Nat)  : Met l yX2_find wsX2_find ({ frames := 0, cells := 0, slots := 0, locals := 0 }) (va_Pc [.ref (a 0), .int p1, .int p2, .int p3] (PW (dC, dI) vwCl [(cI, .int), (cB, .byte), (cZ, .boolean)] (wM cI cB cZ a T se id pr en be th bs wh n len md nw) sz)) (va_Qi (S := Unit) (fun r _ => (∃ k, k < 4 ∧ r = nI k ∧ th k ≠ 0 ∧ MK se id pr k p1 p2 p3) ∨ (r = -1 ∧ ∀ k, k < 4 → th k ≠ 0 → ¬ MK se id pr k p1 p2 p3)) (QW (dC, dI) vwCl (fun _ => [(cI, .int), (cB, .byte), (cZ, .boolean)]) (va_A (wM cI cB cZ a T se id pr en be th bs wh n len md nw) sz) (fun _ => wM cI cB cZ a T se id pr en be th bs wh n len md nw)) (va_A (wM cI cB cZ a T se id pr en be th bs wh n len md nw) sz)) 0 0 (va_A (wM cI cB cZ a T se id pr en be th bs wh n len md nw) sz) := by
  refine Met.ofW (cc := cX2_find) (maxL := 5) (ret := (some .int)) (by decide) rfl ?_
  intro p e s m args below meth c s₁ B hml hv
  obtain ⟨rfl, hsz, hP, hK, hD0⟩ := hv
  have hx := B.exec
  have hb := B.bytes
  have hr := B.returns
  have hts := atoms_spec (ws := wsX2_find) B.pre
  have hown : s.vm.findClass RX2 = some m.cls := findClass_of_methodNamed B.named
  have hlocks := B.notSynchronized
  subst hsz
  have hD := hD0.self (sz := s.heap.size)
  generalize hAe : va_A (wM cI cB cZ a T se id pr en be th bs wh n len md nw) s.heap.size = A at hD ⊢
  have hA : ∀ q : Nat, s.heap.size ≤ q → A q := fun q h => by rw [← hAe]; exact Or.inr h
  have hS : va_S A s.heap s.heap [] := va_S.rf
  have hl := lv_entry ([.ref (a 0), .int p1, .int p2, .int p3]) (n := 5) (Nat.le_of_ble_eq_true rfl)
  rw [lg_entry_eq]
  generalize (lg_sl ([.ref (a 0), .int p1, .int p2, .int p3]) ++ List.replicate (5 - (lg_sl ([.ref (a 0), .int p1, .int p2, .int p3])).length) Slot.unset).toArray = ls at hl ⊢
  have hl : lv_has ls 5 [(0, .ref (a 0)), (1, .int p1), (2, .int p2), (3, .int p3)] := hl
  refine fh_start (fun H hH => ?_)
  have hP : va_P (dC, dI) vwCl (wM cI cB cZ a T se id pr en be th bs wh n len md nw) H := by rw [hH]; exact hP
  have hS : va_S A s.heap H [] := by rw [hH]; exact va_S.rf
  refine lv_iconst (v := nI 0) hx hb dX2_find_0 (by first | decide | rfl) ?_
  refine lv_istore (lv' := [(4, .int (nI 0)), (0, .ref (a 0)), (1, .int p1), (2, .int p2), (3, .int p3)]) hx hb dX2_find_1 hl (by decide) rfl (fun ls hl => ?_)
  refine fh_loop (σ := Nat) (fun q9 H locs ls => (q9 ≤ 4) ∧ (∀ j, j < q9 → th j ≠ 0 → ¬ MK se id pr j p1 p2 p3) ∧ va_P (dC, dI) vwCl (wM cI cB cZ a T se id pr en be th bs wh n len md nw) H ∧ va_D A (wM cI cB cZ a T se id pr en be th bs wh n len md nw) ∧ va_S A s.heap H locs ∧ lv_has ls 5 [(0, .ref (a 0)), (1, .int p1), (2, .int p2), (3, .int p3), (4, .int (nI q9))]) (fun q9 => 4 - q9) ?_ (0) ⟨Nat.zero_le _, fun j h => absurd h (Nat.not_lt_zero _), hP, hD, hS, lv_sub hl [1, 2, 3, 4, 0] rfl⟩
  intro q9 H locs ls hI ih
  obtain ⟨k, rfl⟩ : ∃ z, z = q9 := ⟨_, rfl⟩
  obtain ⟨hk, hno, hP, hD, hS, hl⟩ : (k ≤ 4) ∧ (∀ j, j < k → th j ≠ 0 → ¬ MK se id pr j p1 p2 p3) ∧ va_P (dC, dI) vwCl (wM cI cB cZ a T se id pr en be th bs wh n len md nw) H ∧ va_D A (wM cI cB cZ a T se id pr en be th bs wh n len md nw) ∧ va_S A s.heap H locs ∧ lv_has ls 5 [(0, .ref (a 0)), (1, .int p1), (2, .int p2), (3, .int p3), (4, .int (nI k))] := hI
  refine lv_iload hx hb dX2_find_3 (lv_at hl 4 rfl) ?_
  refine lv_iconst (v := nI 4) hx hb dX2_find_5 (by first | decide | rfl) ?_
  refine lv_icmp_ge (tgt := 61) hx hb dX2_find_6 (by decide) (fun c6 => ?_) (fun c6 => ?_)
  · skip
    have hge : 4 ≤ k := (nI_leI (by decide) (by omega)).mp c6
    refine lv_iconst (v := (-1)) hx hb dX2_find_61 (by first | decide | rfl) ?_
    exact W.iret hx hb hr (fh_qi () (Or.inr ⟨rfl, fun j hj => hno j (by omega)⟩) hP hK hD hS) hS.2.2 dX2_find_62
  · skip
    have hlt : k < 4 := Nat.lt_of_not_le (fun h => c6 (nI_le h (by omega)))
    refine lv_aload_n hx hb dX2_find_9 rfl (lv_at hl 0 rfl) ?_
    refine va_get (D := (dC, dI)) (ci := 2) (v := .ref (a 7)) (C := RX2) (T := TX2) (N := 13) hx hb hts (by decide +kernel) hown hK hP 0 rfl rfl 7 (by decide) (hts (.fieldLink RX2 29 "FragmentHouseModel" "there" "[Z") (by decide +kernel)) (fun _ h9 => h9) rfl dX2_find_10 ?_
    refine lv_iload hx hb dX2_find_13 (lv_at hl 4 rfl) ?_
    refine fh_zald (k := k) hx hb hK hP 7 2 rfl rfl hlt (by first | decide | omega) dX2_find_15 ?_
    refine lv_if_eq (tgt := 55) hx hb dX2_find_16 (by decide) (fun c16 => ?_) (fun c16 => ?_)
    · skip
      refine lv_iinc (v := (nI (k + 1))) (lv' := [(4, .int (nI (k + 1))), (0, .ref (a 0)), (1, .int p1), (2, .int p2), (3, .int p3)]) hx hb dX2_find_55 hl (k := 4) rfl (nI_1 k) (by decide) rfl (fun ls hl => ?_)
      refine lv_goto (tgt := 3) hx hb dX2_find_58 (by decide) ?_
      exact ih (k + 1) _ _ _ ⟨hlt, lt_s hno (fun z => absurd c16 z), hP, hD, hS, lv_sub hl [1, 2, 3, 4, 0] rfl⟩ (by show 4 - (k + 1) < 4 - k; omega)
    · skip
      refine lv_aload_n hx hb dX2_find_19 rfl (lv_at hl 0 rfl) ?_
      refine va_get (D := (dC, dI)) (ci := 2) (v := .ref (a 2)) (C := RX2) (T := TX2) (N := 13) hx hb hts (by decide +kernel) hown hK hP 0 rfl rfl 2 (by decide) (hts (.fieldLink RX2 13 "FragmentHouseModel" "senders" "[I") (by decide +kernel)) (fun _ h9 => h9) rfl dX2_find_20 ?_
      refine lv_iload hx hb dX2_find_23 (lv_at hl 4 rfl) ?_
      refine fh_iald (k := k) hx hb hK hP 2 0 rfl rfl hlt (by first | decide | omega) dX2_find_25 ?_
      refine lv_iload_n hx hb dX2_find_26 rfl (lv_at hl 1 rfl) ?_
      refine lv_icmp_ne (tgt := 55) hx hb dX2_find_27 (by decide) (fun c27 => ?_) (fun c27 => ?_)
      · skip
        refine lv_iinc (v := (nI (k + 1))) (lv' := [(4, .int (nI (k + 1))), (0, .ref (a 0)), (1, .int p1), (2, .int p2), (3, .int p3)]) hx hb dX2_find_55 hl (k := 4) rfl (nI_1 k) (by decide) rfl (fun ls hl => ?_)
        refine lv_goto (tgt := 3) hx hb dX2_find_58 (by decide) ?_
        exact ih (k + 1) _ _ _ ⟨hlt, lt_s hno (fun _ z => c27 z.1), hP, hD, hS, lv_sub hl [1, 2, 3, 4, 0] rfl⟩ (by show 4 - (k + 1) < 4 - k; omega)
      · skip
        refine lv_aload_n hx hb dX2_find_30 rfl (lv_at hl 0 rfl) ?_
        refine va_get (D := (dC, dI)) (ci := 2) (v := .ref (a 3)) (C := RX2) (T := TX2) (N := 13) hx hb hts (by decide +kernel) hown hK hP 0 rfl rfl 3 (by decide) (hts (.fieldLink RX2 17 "FragmentHouseModel" "identifications" "[I") (by decide +kernel)) (fun _ h9 => h9) rfl dX2_find_31 ?_
        refine lv_iload hx hb dX2_find_34 (lv_at hl 4 rfl) ?_
        refine fh_iald (k := k) hx hb hK hP 3 0 rfl rfl hlt (by first | decide | omega) dX2_find_36 ?_
        refine lv_iload_n hx hb dX2_find_37 rfl (lv_at hl 2 rfl) ?_
        refine lv_icmp_ne (tgt := 55) hx hb dX2_find_38 (by decide) (fun c38 => ?_) (fun c38 => ?_)
        · skip
          refine lv_iinc (v := (nI (k + 1))) (lv' := [(4, .int (nI (k + 1))), (0, .ref (a 0)), (1, .int p1), (2, .int p2), (3, .int p3)]) hx hb dX2_find_55 hl (k := 4) rfl (nI_1 k) (by decide) rfl (fun ls hl => ?_)
          refine lv_goto (tgt := 3) hx hb dX2_find_58 (by decide) ?_
          exact ih (k + 1) _ _ _ ⟨hlt, lt_s hno (fun _ z => c38 z.2.1), hP, hD, hS, lv_sub hl [1, 2, 3, 4, 0] rfl⟩ (by show 4 - (k + 1) < 4 - k; omega)
        · skip
          refine lv_aload_n hx hb dX2_find_41 rfl (lv_at hl 0 rfl) ?_
          refine va_get (D := (dC, dI)) (ci := 2) (v := .ref (a 4)) (C := RX2) (T := TX2) (N := 13) hx hb hts (by decide +kernel) hown hK hP 0 rfl rfl 4 (by decide) (hts (.fieldLink RX2 20 "FragmentHouseModel" "protocols" "[I") (by decide +kernel)) (fun _ h9 => h9) rfl dX2_find_42 ?_
          refine lv_iload hx hb dX2_find_45 (lv_at hl 4 rfl) ?_
          refine fh_iald (k := k) hx hb hK hP 4 0 rfl rfl hlt (by first | decide | omega) dX2_find_47 ?_
          refine lv_iload_n hx hb dX2_find_48 rfl (lv_at hl 3 rfl) ?_
          refine lv_icmp_ne (tgt := 55) hx hb dX2_find_49 (by decide) (fun c49 => ?_) (fun c49 => ?_)
          · skip
            refine lv_iinc (v := (nI (k + 1))) (lv' := [(4, .int (nI (k + 1))), (0, .ref (a 0)), (1, .int p1), (2, .int p2), (3, .int p3)]) hx hb dX2_find_55 hl (k := 4) rfl (nI_1 k) (by decide) rfl (fun ls hl => ?_)
            refine lv_goto (tgt := 3) hx hb dX2_find_58 (by decide) ?_
            exact ih (k + 1) _ _ _ ⟨hlt, lt_s hno (fun _ z => c49 z.2.2), hP, hD, hS, lv_sub hl [1, 2, 3, 4, 0] rfl⟩ (by show 4 - (k + 1) < 4 - k; omega)
          · skip
            refine lv_iload hx hb dX2_find_52 (lv_at hl 4 rfl) ?_
            exact W.iret hx hb hr (fh_qi () (Or.inl ⟨k, hlt, rfl, c16, c27, c38, c49⟩) hP hK hD hS) hS.2.2 dX2_find_54
set_option maxHeartbeats 4000000 in
set_option maxRecDepth 100000 in
/-- begin -/
theorem m_begin (l : Launch) (dC : Nat → ClassId) (dI : Nat → Nat → Nat) (cI cB cZ : ClassId) (a : Nat → Nat) (T se id pr en be th bs wh : Nat → Int32) (n len md nw : Int32) (p1 p2 p3 : Int32) (sz : Nat)  : Met l yX2_begin wsX2_begin ({ frames := 0, cells := 0, slots := 0, locals := 0 }) (va_Pc [.ref (a 0), .int p1, .int p2, .int p3] (PW (dC, dI) vwCl [(cI, .int), (cB, .byte), (cZ, .boolean)] (wM cI cB cZ a T se id pr en be th bs wh n len md nw) sz)) (va_Qi (S := S7) (fun r u => (∃ k, k < 4 ∧ r = nI k ∧ th k = 0 ∧ u = bgM se id pr en be th bs p1 p2 p3 nw k) ∨ (r = -1 ∧ (∀ k, k < 4 → th k ≠ 0) ∧ u = (se, id, pr, en, be, th, bs))) (QW (dC, dI) vwCl (fun _ => [(cI, .int), (cB, .byte), (cZ, .boolean)]) (va_A (wM cI cB cZ a T se id pr en be th bs wh n len md nw) sz) (fun u => wM cI cB cZ a T u.1 u.2.1 u.2.2.1 u.2.2.2.1 u.2.2.2.2.1 u.2.2.2.2.2.1 u.2.2.2.2.2.2 wh n len md nw)) (va_A (wM cI cB cZ a T se id pr en be th bs wh n len md nw) sz)) 0 0 (va_A (wM cI cB cZ a T se id pr en be th bs wh n len md nw) sz) := by
  refine Met.ofW (cc := cX2_begin) (maxL := 6) (ret := (some .int)) (by decide) rfl ?_
  intro p e s m args below meth c s₁ B hml hv
  obtain ⟨rfl, hsz, hP, hK, hD0⟩ := hv
  have hx := B.exec
  have hb := B.bytes
  have hr := B.returns
  have hts := atoms_spec (ws := wsX2_begin) B.pre
  have hown : s.vm.findClass RX2 = some m.cls := findClass_of_methodNamed B.named
  have hlocks := B.notSynchronized
  subst hsz
  have hD := hD0.self (sz := s.heap.size)
  generalize hAe : va_A (wM cI cB cZ a T se id pr en be th bs wh n len md nw) s.heap.size = A at hD ⊢
  have hA : ∀ q : Nat, s.heap.size ≤ q → A q := fun q h => by rw [← hAe]; exact Or.inr h
  have hS : va_S A s.heap s.heap [] := va_S.rf
  have hl := lv_entry ([.ref (a 0), .int p1, .int p2, .int p3]) (n := 6) (Nat.le_of_ble_eq_true rfl)
  rw [lg_entry_eq]
  generalize (lg_sl ([.ref (a 0), .int p1, .int p2, .int p3]) ++ List.replicate (6 - (lg_sl ([.ref (a 0), .int p1, .int p2, .int p3])).length) Slot.unset).toArray = ls at hl ⊢
  have hl : lv_has ls 6 [(0, .ref (a 0)), (1, .int p1), (2, .int p2), (3, .int p3)] := hl
  refine fh_start (fun H hH => ?_)
  have hP : va_P (dC, dI) vwCl (wM cI cB cZ a T se id pr en be th bs wh n len md nw) H := by rw [hH]; exact hP
  have hS : va_S A s.heap H [] := by rw [hH]; exact va_S.rf
  refine lv_iconst (v := nI 0) hx hb dX2_begin_0 (by first | decide | rfl) ?_
  refine lv_istore (lv' := [(4, .int (nI 0)), (0, .ref (a 0)), (1, .int p1), (2, .int p2), (3, .int p3)]) hx hb dX2_begin_1 hl (by decide) rfl (fun ls hl => ?_)
  refine fh_loop (σ := Nat) (fun q9 H locs ls => (q9 ≤ 4) ∧ (∀ j, j < q9 → th j ≠ 0) ∧ va_P (dC, dI) vwCl (wM cI cB cZ a T se id pr en be th bs wh n len md nw) H ∧ va_D A (wM cI cB cZ a T se id pr en be th bs wh n len md nw) ∧ va_S A s.heap H locs ∧ lv_has ls 6 [(0, .ref (a 0)), (1, .int p1), (2, .int p2), (3, .int p3), (4, .int (nI q9))]) (fun q9 => 4 - q9) ?_ (0) ⟨Nat.zero_le _, fun j h => absurd h (Nat.not_lt_zero _), hP, hD, hS, lv_sub hl [1, 2, 3, 4, 0] rfl⟩
  intro q9 H locs ls hI ih
  obtain ⟨k, rfl⟩ : ∃ z, z = q9 := ⟨_, rfl⟩
  obtain ⟨hk, hno, hP, hD, hS, hl⟩ : (k ≤ 4) ∧ (∀ j, j < k → th j ≠ 0) ∧ va_P (dC, dI) vwCl (wM cI cB cZ a T se id pr en be th bs wh n len md nw) H ∧ va_D A (wM cI cB cZ a T se id pr en be th bs wh n len md nw) ∧ va_S A s.heap H locs ∧ lv_has ls 6 [(0, .ref (a 0)), (1, .int p1), (2, .int p2), (3, .int p3), (4, .int (nI k))] := hI
  refine lv_iload hx hb dX2_begin_3 (lv_at hl 4 rfl) ?_
  refine lv_iconst (v := nI 4) hx hb dX2_begin_5 (by first | decide | rfl) ?_
  refine lv_icmp_ge (tgt := 111) hx hb dX2_begin_6 (by decide) (fun c6 => ?_) (fun c6 => ?_)
  · skip
    have hge : 4 ≤ k := (nI_leI (by decide) (by omega)).mp c6
    refine lv_iconst (v := (-1)) hx hb dX2_begin_111 (by first | decide | rfl) ?_
    exact W.iret hx hb hr (fh_qi (se, id, pr, en, be, th, bs) (Or.inr ⟨rfl, fun j hj => hno j (by omega), rfl⟩) hP hK hD hS) hS.2.2 dX2_begin_112
  · skip
    have hlt : k < 4 := Nat.lt_of_not_le (fun h => c6 (nI_le h (by omega)))
    refine lv_aload_n hx hb dX2_begin_9 rfl (lv_at hl 0 rfl) ?_
    refine va_get (D := (dC, dI)) (ci := 2) (v := .ref (a 7)) (C := RX2) (T := TX2) (N := 13) hx hb hts (by decide +kernel) hown hK hP 0 rfl rfl 7 (by decide) (hts (.fieldLink RX2 29 "FragmentHouseModel" "there" "[Z") (by decide +kernel)) (fun _ h9 => h9) rfl dX2_begin_10 ?_
    refine lv_iload hx hb dX2_begin_13 (lv_at hl 4 rfl) ?_
    refine fh_zald (k := k) hx hb hK hP 7 2 rfl rfl hlt (by first | decide | omega) dX2_begin_15 ?_
    refine lv_if_ne (tgt := 105) hx hb dX2_begin_16 (by decide) (fun c16 => ?_) (fun c16 => ?_)
    · skip
      refine lv_iinc (v := (nI (k + 1))) (lv' := [(4, .int (nI (k + 1))), (0, .ref (a 0)), (1, .int p1), (2, .int p2), (3, .int p3)]) hx hb dX2_begin_105 hl (k := 4) rfl (nI_1 k) (by decide) rfl (fun ls hl => ?_)
      refine lv_goto (tgt := 3) hx hb dX2_begin_108 (by decide) ?_
      exact ih (k + 1) _ _ _ ⟨hlt, lt_s hno c16, hP, hD, hS, lv_sub hl [1, 2, 3, 4, 0] rfl⟩ (by show 4 - (k + 1) < 4 - k; omega)
    · skip
      refine lv_aload_n hx hb dX2_begin_19 rfl (lv_at hl 0 rfl) ?_
      refine va_get (D := (dC, dI)) (ci := 2) (v := .ref (a 7)) (C := RX2) (T := TX2) (N := 13) hx hb hts (by decide +kernel) hown hK hP 0 rfl rfl 7 (by decide) (hts (.fieldLink RX2 29 "FragmentHouseModel" "there" "[Z") (by decide +kernel)) (fun _ h9 => h9) rfl dX2_begin_20 ?_
      refine lv_iload hx hb dX2_begin_23 (lv_at hl 4 rfl) ?_
      refine lv_iconst (v := 1) hx hb dX2_begin_25 (by first | decide | rfl) ?_
      refine fh_zast (k := k) hx hb hK hP hD hS 7 2 rfl rfl rfl hlt (by first | decide | omega) dX2_begin_26 (fun H locs hP hD hS => ?_)
      have hP : va_P (dC, dI) vwCl (wM cI cB cZ a T se id pr en be (upd th k 1) bs wh n len md nw) H := hP
      have hD : va_D A (wM cI cB cZ a T se id pr en be (upd th k 1) bs wh n len md nw) := hD
      refine lv_aload_n hx hb dX2_begin_27 rfl (lv_at hl 0 rfl) ?_
      refine va_get (D := (dC, dI)) (ci := 2) (v := .ref (a 2)) (C := RX2) (T := TX2) (N := 13) hx hb hts (by decide +kernel) hown hK hP 0 rfl rfl 2 (by decide) (hts (.fieldLink RX2 13 "FragmentHouseModel" "senders" "[I") (by decide +kernel)) (fun _ h9 => h9) rfl dX2_begin_28 ?_
      refine lv_iload hx hb dX2_begin_31 (lv_at hl 4 rfl) ?_
      refine lv_iload_n hx hb dX2_begin_33 rfl (lv_at hl 1 rfl) ?_
      refine fh_iast (k := k) hx hb hK hP hD hS 2 0 rfl rfl hlt (by first | decide | omega) dX2_begin_34 (fun H locs hP hD hS => ?_)
      have hP : va_P (dC, dI) vwCl (wM cI cB cZ a T (upd se k p1) id pr en be (upd th k 1) bs wh n len md nw) H := hP
      have hD : va_D A (wM cI cB cZ a T (upd se k p1) id pr en be (upd th k 1) bs wh n len md nw) := hD
      refine lv_aload_n hx hb dX2_begin_35 rfl (lv_at hl 0 rfl) ?_
      refine va_get (D := (dC, dI)) (ci := 2) (v := .ref (a 3)) (C := RX2) (T := TX2) (N := 13) hx hb hts (by decide +kernel) hown hK hP 0 rfl rfl 3 (by decide) (hts (.fieldLink RX2 17 "FragmentHouseModel" "identifications" "[I") (by decide +kernel)) (fun _ h9 => h9) rfl dX2_begin_36 ?_
      refine lv_iload hx hb dX2_begin_39 (lv_at hl 4 rfl) ?_
      refine lv_iload_n hx hb dX2_begin_41 rfl (lv_at hl 2 rfl) ?_
      refine fh_iast (k := k) hx hb hK hP hD hS 3 0 rfl rfl hlt (by first | decide | omega) dX2_begin_42 (fun H locs hP hD hS => ?_)
      have hP : va_P (dC, dI) vwCl (wM cI cB cZ a T (upd se k p1) (upd id k p2) pr en be (upd th k 1) bs wh n len md nw) H := hP
      have hD : va_D A (wM cI cB cZ a T (upd se k p1) (upd id k p2) pr en be (upd th k 1) bs wh n len md nw) := hD
      refine lv_aload_n hx hb dX2_begin_43 rfl (lv_at hl 0 rfl) ?_
      refine va_get (D := (dC, dI)) (ci := 2) (v := .ref (a 4)) (C := RX2) (T := TX2) (N := 13) hx hb hts (by decide +kernel) hown hK hP 0 rfl rfl 4 (by decide) (hts (.fieldLink RX2 20 "FragmentHouseModel" "protocols" "[I") (by decide +kernel)) (fun _ h9 => h9) rfl dX2_begin_44 ?_
      refine lv_iload hx hb dX2_begin_47 (lv_at hl 4 rfl) ?_
      refine lv_iload_n hx hb dX2_begin_49 rfl (lv_at hl 3 rfl) ?_
      refine fh_iast (k := k) hx hb hK hP hD hS 4 0 rfl rfl hlt (by first | decide | omega) dX2_begin_50 (fun H locs hP hD hS => ?_)
      have hP : va_P (dC, dI) vwCl (wM cI cB cZ a T (upd se k p1) (upd id k p2) (upd pr k p3) en be (upd th k 1) bs wh n len md nw) H := hP
      have hD : va_D A (wM cI cB cZ a T (upd se k p1) (upd id k p2) (upd pr k p3) en be (upd th k 1) bs wh n len md nw) := hD
      refine lv_aload_n hx hb dX2_begin_51 rfl (lv_at hl 0 rfl) ?_
      refine va_get (D := (dC, dI)) (ci := 2) (v := .ref (a 5)) (C := RX2) (T := TX2) (N := 13) hx hb hts (by decide +kernel) hown hK hP 0 rfl rfl 5 (by decide) (hts (.fieldLink RX2 23 "FragmentHouseModel" "ends" "[I") (by decide +kernel)) (fun _ h9 => h9) rfl dX2_begin_52 ?_
      refine lv_iload hx hb dX2_begin_55 (lv_at hl 4 rfl) ?_
      refine lv_iconst (v := (-1)) hx hb dX2_begin_57 (by first | decide | rfl) ?_
      refine fh_iast (k := k) hx hb hK hP hD hS 5 0 rfl rfl hlt (by first | decide | omega) dX2_begin_58 (fun H locs hP hD hS => ?_)
      have hP : va_P (dC, dI) vwCl (wM cI cB cZ a T (upd se k p1) (upd id k p2) (upd pr k p3) (upd en k (((-1)))) be (upd th k 1) bs wh n len md nw) H := hP
      have hD : va_D A (wM cI cB cZ a T (upd se k p1) (upd id k p2) (upd pr k p3) (upd en k (((-1)))) be (upd th k 1) bs wh n len md nw) := hD
      refine lv_aload_n hx hb dX2_begin_59 rfl (lv_at hl 0 rfl) ?_
      refine va_get (D := (dC, dI)) (ci := 2) (v := .ref (a 6)) (C := RX2) (T := TX2) (N := 13) hx hb hts (by decide +kernel) hown hK hP 0 rfl rfl 6 (by decide) (hts (.fieldLink RX2 26 "FragmentHouseModel" "begun" "[I") (by decide +kernel)) (fun _ h9 => h9) rfl dX2_begin_60 ?_
      refine lv_iload hx hb dX2_begin_63 (lv_at hl 4 rfl) ?_
      refine lv_aload_n hx hb dX2_begin_65 rfl (lv_at hl 0 rfl) ?_
      refine va_get (D := (dC, dI)) (ci := 2) (v := .int nw) (C := RX2) (T := TX2) (N := 13) hx hb hts (by decide +kernel) hown hK hP 0 rfl rfl 12 (by decide) (hts (.fieldLink RX2 50 "FragmentHouseModel" "now" "I") (by decide +kernel)) (fun _ h9 => h9) rfl dX2_begin_66 ?_
      refine fh_iast (k := k) hx hb hK hP hD hS 6 0 rfl rfl hlt (by first | decide | omega) dX2_begin_69 (fun H locs hP hD hS => ?_)
      have hP : va_P (dC, dI) vwCl (wM cI cB cZ a T (upd se k p1) (upd id k p2) (upd pr k p3) (upd en k (((-1)))) (upd be k nw) (upd th k 1) bs wh n len md nw) H := hP
      have hD : va_D A (wM cI cB cZ a T (upd se k p1) (upd id k p2) (upd pr k p3) (upd en k (((-1)))) (upd be k nw) (upd th k 1) bs wh n len md nw) := hD
      refine lv_iconst (v := nI 0) hx hb dX2_begin_70 (by first | decide | rfl) ?_
      refine lv_istore (lv' := [(5, .int (nI 0)), (0, .ref (a 0)), (1, .int p1), (2, .int p2), (3, .int p3), (4, .int (nI k))]) hx hb dX2_begin_71 hl (by decide) rfl (fun ls hl => ?_)
      have hP : va_P (dC, dI) vwCl (wM cI cB cZ a T (upd se k p1) (upd id k p2) (upd pr k p3) (upd en k (-1)) (upd be k nw) (upd th k 1) (wrT bs (k * 4096) 0 (fun _ => 0)) wh n len md nw) H := by rw [wr_0]; exact hP
      have hD : va_D A (wM cI cB cZ a T (upd se k p1) (upd id k p2) (upd pr k p3) (upd en k (-1)) (upd be k nw) (upd th k 1) (wrT bs (k * 4096) 0 (fun _ => 0)) wh n len md nw) := by rw [wr_0]; exact hD
      refine fh_loop (σ := Nat) (fun q9 H locs ls => (q9 ≤ 4096) ∧ va_P (dC, dI) vwCl (wM cI cB cZ a T (upd se k p1) (upd id k p2) (upd pr k p3) (upd en k (-1)) (upd be k nw) (upd th k 1) (wrT bs (k * 4096) q9 (fun _ => 0)) wh n len md nw) H ∧ va_D A (wM cI cB cZ a T (upd se k p1) (upd id k p2) (upd pr k p3) (upd en k (-1)) (upd be k nw) (upd th k 1) (wrT bs (k * 4096) q9 (fun _ => 0)) wh n len md nw) ∧ va_S A s.heap H locs ∧ lv_has ls 6 [(0, .ref (a 0)), (1, .int p1), (2, .int p2), (3, .int p3), (4, .int (nI k)), (5, .int (nI q9))]) (fun q9 => 4096 - q9) ?_ (0) ⟨Nat.zero_le _, hP, hD, hS, lv_sub hl [1, 2, 3, 4, 5, 0] rfl⟩
      intro q9 H locs ls hI ih
      obtain ⟨i, rfl⟩ : ∃ z, z = q9 := ⟨_, rfl⟩
      obtain ⟨hi, hP, hD, hS, hl⟩ : (i ≤ 4096) ∧ va_P (dC, dI) vwCl (wM cI cB cZ a T (upd se k p1) (upd id k p2) (upd pr k p3) (upd en k (-1)) (upd be k nw) (upd th k 1) (wrT bs (k * 4096) i (fun _ => 0)) wh n len md nw) H ∧ va_D A (wM cI cB cZ a T (upd se k p1) (upd id k p2) (upd pr k p3) (upd en k (-1)) (upd be k nw) (upd th k 1) (wrT bs (k * 4096) i (fun _ => 0)) wh n len md nw) ∧ va_S A s.heap H locs ∧ lv_has ls 6 [(0, .ref (a 0)), (1, .int p1), (2, .int p2), (3, .int p3), (4, .int (nI k)), (5, .int (nI i))] := hI
      refine lv_iload hx hb dX2_begin_73 (lv_at hl 5 rfl) ?_
      refine lv_sipush (v := nI 4096) hx hb dX2_begin_75 (by first | decide | rfl) ?_
      refine lv_icmp_ge (tgt := 102) hx hb dX2_begin_78 (by decide) (fun c78 => ?_) (fun c78 => ?_)
      · skip
        refine lv_iload hx hb dX2_begin_102 (lv_at hl 4 rfl) ?_
        obtain rfl : i = 4096 := Nat.le_antisymm hi ((nI_leI (by decide) (by omega)).mp c78)
        exact W.iret hx hb hr (fh_qi (bgM se id pr en be th bs p1 p2 p3 nw k) (Or.inl ⟨k, hlt, rfl, c16, rfl⟩) hP hK hD hS) hS.2.2 dX2_begin_104
      · skip
        have hli : i < 4096 := Nat.lt_of_not_le (fun h => c78 (nI_le h (by omega)))
        refine lv_aload_n hx hb dX2_begin_81 rfl (lv_at hl 0 rfl) ?_
        refine va_get (D := (dC, dI)) (ci := 2) (v := .ref (a 8)) (C := RX2) (T := TX2) (N := 13) hx hb hts (by decide +kernel) hown hK hP 0 rfl rfl 8 (by decide) (hts (.fieldLink RX2 33 "FragmentHouseModel" "bytes" "[I") (by decide +kernel)) (fun _ h9 => h9) rfl dX2_begin_82 ?_
        refine lv_iload hx hb dX2_begin_85 (lv_at hl 4 rfl) ?_
        refine lv_sipush (v := nI 4096) hx hb dX2_begin_87 (by first | decide | rfl) ?_
        refine lv_imul hx hb dX2_begin_90 ?_
        refine fh_top (y := nI (k * 4096)) (pk_mul k 4096) ?_
        refine lv_iload hx hb dX2_begin_91 (lv_at hl 5 rfl) ?_
        refine lv_iadd hx hb dX2_begin_93 ?_
        refine fh_top (y := nI (k * 4096 + i)) (nI_add (k * 4096) i) ?_
        refine lv_iconst (v := 0) hx hb dX2_begin_94 (by first | decide | rfl) ?_
        refine fh_iast (k := (k * 4096 + i)) hx hb hK hP hD hS 8 0 rfl rfl (by omega) (by first | decide | omega) dX2_begin_95 (fun H locs hP hD hS => ?_)
        have hP : va_P (dC, dI) vwCl (wM cI cB cZ a T (upd se k p1) (upd id k p2) (upd pr k p3) (upd en k (-1)) (upd be k nw) (upd th k 1) (upd ((wrT bs (k * 4096) i (fun _ => 0))) ((k * 4096 + i)) 0) wh n len md nw) H := hP
        have hD : va_D A (wM cI cB cZ a T (upd se k p1) (upd id k p2) (upd pr k p3) (upd en k (-1)) (upd be k nw) (upd th k 1) (upd ((wrT bs (k * 4096) i (fun _ => 0))) ((k * 4096 + i)) 0) wh n len md nw) := hD
        refine lv_iinc (v := (nI (i + 1))) (lv' := [(5, .int (nI (i + 1))), (0, .ref (a 0)), (1, .int p1), (2, .int p2), (3, .int p3), (4, .int (nI k))]) hx hb dX2_begin_96 hl (k := 5) rfl (nI_1 i) (by decide) rfl (fun ls hl => ?_)
        refine lv_goto (tgt := 73) hx hb dX2_begin_99 (by decide) ?_
        have hP : va_P (dC, dI) vwCl (wM cI cB cZ a T (upd se k p1) (upd id k p2) (upd pr k p3) (upd en k (-1)) (upd be k nw) (upd th k 1) (wrT bs (k * 4096) (i + 1) (fun _ => 0)) wh n len md nw) H := by rw [← wr_s]; exact hP
        have hD : va_D A (wM cI cB cZ a T (upd se k p1) (upd id k p2) (upd pr k p3) (upd en k (-1)) (upd be k nw) (upd th k 1) (wrT bs (k * 4096) (i + 1) (fun _ => 0)) wh n len md nw) := by rw [← wr_s]; exact hD
        exact ih (i + 1) _ _ _ ⟨hli, hP, hD, hS, lv_sub hl [1, 2, 3, 4, 5, 0] rfl⟩ (by show 4096 - (i + 1) < 4096 - i; omega)
end
section
/-! the reference's take -/
def MSl (se id pr en be th bs : F1) (a b c t : Int32) (k : Nat) (v : S7) : Prop :=
  (th k ≠ 0 ∧ MK se id pr k a b c ∧ v = (se, id, pr, en, be, th, bs)) ∨ ((∀ j, j < 4 → th j ≠ 0 → ¬ MK se id pr j a b c) ∧ th k = 0 ∧ v = bgM se id pr en be th bs a b c t k)
def mp (bs : F1) (g b : Nat) (T : F1) : F1 := fun j => if g ≤ j ∧ j < g + b ∧ bs j = 0 then (T (j - g) &&& 255) + 1 else bs j
theorem mp_0 (x : F1) (st : Nat) (T : F1) : mp x st 0 T = x := by
  funext j
  unfold mp
  rw [if_neg (by omega)]
theorem mp_at {x : F1} {st i : Nat} {T : F1} : mp x st i T (st + i) = x (st + i) := by
  unfold mp
  rw [if_neg (by omega)]
theorem mp_s1 {x : F1} {st i : Nat} {T : F1} (h : mp x st i T (st + i) = 0) : upd (mp x st i T) (st + i) ((T i &&& 255) + 1) = mp x st (i + 1) T := by
  rw [mp_at] at h
  funext j
  unfold upd mp
  by_cases hj : j = st + i
  · subst hj
    rw [if_pos rfl, if_pos ⟨by omega, by omega, h⟩, show st + i - st = i by omega]
  · rw [if_neg hj]
    by_cases hc : st ≤ j ∧ j < st + i ∧ x j = 0
    · rw [if_pos hc, if_pos ⟨hc.1, by omega, hc.2.2⟩]
    · rw [if_neg hc, if_neg (fun q => hc ⟨q.1, by omega, q.2.2⟩)]
theorem mp_s2 {x : F1} {st i : Nat} {T : F1} (h : ¬ mp x st i T (st + i) = 0) : mp x st i T = mp x st (i + 1) T := by
  rw [mp_at] at h
  funext j
  unfold mp
  by_cases hc : st ≤ j ∧ j < st + i ∧ x j = 0
  · rw [if_pos hc, if_pos ⟨hc.1, by omega, hc.2.2⟩]
  · rw [if_neg hc, if_neg (fun q => hc ⟨q.1, by
      have h1 : j ≠ st + i := fun z => h (z ▸ q.2.2)
      omega, q.2.2⟩)]
def C1m (en : F1) (k t : Nat) (l : Int32) : Prop := 0 ≤ en k ∧ (en k < nI t ∨ (l ≠ 0 ∧ nI t ≠ en k))
def C2m (bs : F1) (k t : Nat) (l : Int32) (e : Nat) : Prop := l ≠ 0 ∧ ∃ j, t ≤ j ∧ j < e ∧ 0 < bs (k * 4096 + j)
theorem C2_0 {bs : F1} {k t : Nat} {l : Int32} : ¬ C2m bs k t l t := fun x => by
  obtain ⟨_, j, h1, h2, _⟩ := x
  omega
theorem C2_z {bs : F1} {k t e : Nat} {l : Int32} (h : l = 0) : ¬ C2m bs k t l e := fun x => x.1 h
theorem C2_s1 {bs : F1} {k t i : Nat} {l : Int32} (h : C2m bs k t l i) : C2m bs k t l (i + 1) := by
  obtain ⟨h0, j, h1, h2, h3⟩ := h
  exact ⟨h0, j, h1, by omega, h3⟩
theorem C2_s2 {bs : F1} {k t i : Nat} {l : Int32} (h0 : l ≠ 0) (h1 : t ≤ i) (h : 0 < bs (k * 4096 + i)) : C2m bs k t l (i + 1) := ⟨h0, i, h1, by omega, h⟩
theorem C2_s3 {bs : F1} {k t i : Nat} {l : Int32} (h : ¬ C2m bs k t l i) (h1 : bs (k * 4096 + i) ≤ 0) : ¬ C2m bs k t l (i + 1) := by
  intro x
  obtain ⟨h0, j, h2, h3, h4⟩ := x
  by_cases hj : j = i
  · subst hj
    exact absurd h4 (Int32.not_lt.mpr h1)
  · exact h ⟨h0, j, h2, by omega, h4⟩
abbrev Sm : Type := Nat × S7 × F1 × Int32 × Int32
def MJ (se id pr en be th bs wh : F1) (len md : Int32) (T : F1) (k a b : Nat) (l r : Int32) (u : Sm) : Prop :=
  ((C1m en k (a + b) l ∨ C2m bs k (a + b) l 4096) ∧ r = -3 ∧ u = (0, (se, id, pr, en, be, upd th k 0, bs), wh, len, md)) ∨
  (¬ (C1m en k (a + b) l ∨ C2m bs k (a + b) l 4096) ∧ ∃ en2 bs2 : F1, en2 = (if l = 0 then en else upd en k (nI (a + b))) ∧ bs2 = mp bs (k * 4096 + a) b T ∧
    (((en2 k < 0 ∨ ∃ e, e ≤ 4096 ∧ en2 k = nI e ∧ ∃ j, j < e ∧ bs2 (k * 4096 + j) = 0) ∧ r = -1 ∧ u = (0, (se, id, pr, en2, be, th, bs2), wh, len, md)) ∨
     (∃ e, e ≤ 4096 ∧ en2 k = nI e ∧ (∀ j, j < e → bs2 (k * 4096 + j) ≠ 0) ∧ ∃ wh2 : F1, (∀ j, j < e → wh2 j = bs2 (k * 4096 + j) - 1) ∧ r = nI e ∧ u = (0, (se, id, pr, en2, be, upd th k 0, bs2), wh2, nI e, md + 1))))
def MT (se id pr en be th bs wh : F1) (len md nw : Int32) (T : F1) (q : Nat) (p1 p2 p3 p4 p5 r : Int32) (u : Sm) : Prop :=
  (r = -4 ∧ (p4 < 0 ∨ ¬ p4 ≤ nI 8191) ∧ u = (q, (se, id, pr, en, be, th, bs), wh, len, md)) ∨
  (∃ o, o ≤ 8191 ∧ p4 = nI o ∧
    ((¬ Snd (o * 8) q p5 ∧ r = -2 ∧ u = (0, (se, id, pr, en, be, th, bs), wh, len, md)) ∨
     (Snd (o * 8) q p5 ∧
       (((∀ j, j < 4 → th j ≠ 0 → ¬ MK se id pr j p1 p2 p3) ∧ (∀ j, j < 4 → th j ≠ 0) ∧ r = -2 ∧ u = (0, (se, id, pr, en, be, th, bs), wh, len, md)) ∨
        (∃ k, k < 4 ∧ ∃ se1 id1 pr1 en1 be1 th1 bs1 : F1, MSl se id pr en be th bs p1 p2 p3 nw k (se1, id1, pr1, en1, be1, th1, bs1) ∧ MJ se1 id1 pr1 en1 be1 th1 bs1 wh len md T k (o * 8) q p5 r u)))))
set_option maxHeartbeats 4000000 in
set_option maxRecDepth 100000 in
/-- take -/
theorem m_take (l : Launch) (dC : Nat → ClassId) (dI : Nat → Nat → Nat) (cI cB cZ : ClassId) (a : Nat → Nat) (T se0 id0 pr0 en0 be0 th0 bs0 wh : Nat → Int32) (len md nw : Int32) (p1 p2 p3 p4 p5 : Int32) (q : Nat) (sz : Nat) (hq : q ≤ 1480) (hen0 : ∀ k, k < 4 → en0 k ≤ nI 4096) : Met l yX2_take wsX2_take ({ frames := 1, cells := 0, slots := 0, locals := 25 }) (va_Pc [.ref (a 0), .int p1, .int p2, .int p3, .int p4, .int p5] (PW (dC, dI) vwCl [(cI, .int), (cB, .byte), (cZ, .boolean)] (wM cI cB cZ a T se0 id0 pr0 en0 be0 th0 bs0 wh (nI q) len md nw) sz)) (va_Qi (S := Sm) (fun r u => MT se0 id0 pr0 en0 be0 th0 bs0 wh len md nw T q p1 p2 p3 p4 p5 r u) (QW (dC, dI) vwCl (fun _ => [(cI, .int), (cB, .byte), (cZ, .boolean)]) (va_A (wM cI cB cZ a T se0 id0 pr0 en0 be0 th0 bs0 wh (nI q) len md nw) sz) (fun u => wM cI cB cZ a T u.2.1.1 u.2.1.2.1 u.2.1.2.2.1 u.2.1.2.2.2.1 u.2.1.2.2.2.2.1 u.2.1.2.2.2.2.2.1 u.2.1.2.2.2.2.2.2 u.2.2.1 (nI u.1) u.2.2.2.1 u.2.2.2.2 nw)) (va_A (wM cI cB cZ a T se0 id0 pr0 en0 be0 th0 bs0 wh (nI q) len md nw) sz)) 0 0 (va_A (wM cI cB cZ a T se0 id0 pr0 en0 be0 th0 bs0 wh (nI q) len md nw) sz) := by
  refine Met.ofW (cc := cX2_take) (maxL := 12) (ret := (some .int)) (by decide) rfl ?_
  intro p e s m args below meth c s₁ B hml hv
  obtain ⟨rfl, hsz, hP, hK, hD0⟩ := hv
  have hx := B.exec
  have hb := B.bytes
  have hr := B.returns
  have hts := atoms_spec (ws := wsX2_take) B.pre
  have hown : s.vm.findClass RX2 = some m.cls := findClass_of_methodNamed B.named
  have hlocks := B.notSynchronized
  subst hsz
  have hD := hD0.self (sz := s.heap.size)
  generalize hAe : va_A (wM cI cB cZ a T se0 id0 pr0 en0 be0 th0 bs0 wh (nI q) len md nw) s.heap.size = A at hD ⊢
  have hA : ∀ q : Nat, s.heap.size ≤ q → A q := fun q h => by rw [← hAe]; exact Or.inr h
  have hS : va_S A s.heap s.heap [] := va_S.rf
  have hl := lv_entry ([.ref (a 0), .int p1, .int p2, .int p3, .int p4, .int p5]) (n := 12) (Nat.le_of_ble_eq_true rfl)
  rw [lg_entry_eq]
  generalize (lg_sl ([.ref (a 0), .int p1, .int p2, .int p3, .int p4, .int p5]) ++ List.replicate (12 - (lg_sl ([.ref (a 0), .int p1, .int p2, .int p3, .int p4, .int p5])).length) Slot.unset).toArray = ls at hl ⊢
  have hl : lv_has ls 12 [(0, .ref (a 0)), (1, .int p1), (2, .int p2), (3, .int p3), (4, .int p4), (5, .int p5)] := hl
  refine fh_start (fun H hH => ?_)
  have hP : va_P (dC, dI) vwCl (wM cI cB cZ a T se0 id0 pr0 en0 be0 th0 bs0 wh (nI q) len md nw) H := by rw [hH]; exact hP
  have hS : va_S A s.heap H [] := by rw [hH]; exact va_S.rf
  refine fh_cut (pc2 := 70) (σ := Nat) (fun q9 H locs ls => (q9 ≤ 8191) ∧ (p4 = nI q9) ∧ (Snd (q9 * 8) q p5) ∧ va_P (dC, dI) vwCl (wM cI cB cZ a T se0 id0 pr0 en0 be0 th0 bs0 wh (nI 0) len md nw) H ∧ va_D A (wM cI cB cZ a T se0 id0 pr0 en0 be0 th0 bs0 wh (nI 0) len md nw) ∧ va_S A s.heap H locs ∧ lv_has ls 12 [(0, .ref (a 0)), (1, .int p1), (2, .int p2), (3, .int p3), (5, .int p5), (6, .int (nI q)), (7, .int (nI (q9 * 8))), (8, .int (nI (q9 * 8 + q)))]) ?_ (fun J70 => ?_)
  · intro q9 H locs ls hI
    obtain ⟨o, rfl⟩ : ∃ z, z = q9 := ⟨_, rfl⟩
    obtain ⟨ho, hp4, hsd, hP, hD, hS, hl⟩ : (o ≤ 8191) ∧ (p4 = nI o) ∧ (Snd (o * 8) q p5) ∧ va_P (dC, dI) vwCl (wM cI cB cZ a T se0 id0 pr0 en0 be0 th0 bs0 wh (nI 0) len md nw) H ∧ va_D A (wM cI cB cZ a T se0 id0 pr0 en0 be0 th0 bs0 wh (nI 0) len md nw) ∧ va_S A s.heap H locs ∧ lv_has ls 12 [(0, .ref (a 0)), (1, .int p1), (2, .int p2), (3, .int p3), (5, .int p5), (6, .int (nI q)), (7, .int (nI (o * 8))), (8, .int (nI (o * 8 + q)))] := hI
    refine fh_cut (pc2 := 101) (σ := Nat × (Nat → Int32) × (Nat → Int32) × (Nat → Int32) × (Nat → Int32) × (Nat → Int32) × (Nat → Int32) × (Nat → Int32)) (fun q9 H locs ls => (q9.1 < 4) ∧ (MSl se0 id0 pr0 en0 be0 th0 bs0 p1 p2 p3 nw q9.1 (q9.2.1, q9.2.2.1, q9.2.2.2.1, q9.2.2.2.2.1, q9.2.2.2.2.2.1, q9.2.2.2.2.2.2.1, q9.2.2.2.2.2.2.2)) ∧ (q9.2.2.2.2.1 q9.1 ≤ nI 4096) ∧ va_P (dC, dI) vwCl (wM cI cB cZ a T q9.2.1 q9.2.2.1 q9.2.2.2.1 q9.2.2.2.2.1 q9.2.2.2.2.2.1 q9.2.2.2.2.2.2.1 q9.2.2.2.2.2.2.2 wh (nI 0) len md nw) H ∧ va_D A (wM cI cB cZ a T q9.2.1 q9.2.2.1 q9.2.2.2.1 q9.2.2.2.2.1 q9.2.2.2.2.2.1 q9.2.2.2.2.2.2.1 q9.2.2.2.2.2.2.2 wh (nI 0) len md nw) ∧ va_S A s.heap H locs ∧ lv_has ls 12 [(0, .ref (a 0)), (5, .int p5), (6, .int (nI q)), (7, .int (nI (o * 8))), (8, .int (nI (o * 8 + q))), (9, .int (nI q9.1))]) ?_ (fun J101 => ?_)
    · intro q9 H locs ls hI
      obtain ⟨k, se, id, pr, en, be, th, bs⟩ := q9
      obtain ⟨hk, hM, hen, hP, hD, hS, hl⟩ : (k < 4) ∧ (MSl se0 id0 pr0 en0 be0 th0 bs0 p1 p2 p3 nw k (se, id, pr, en, be, th, bs)) ∧ (en k ≤ nI 4096) ∧ va_P (dC, dI) vwCl (wM cI cB cZ a T se id pr en be th bs wh (nI 0) len md nw) H ∧ va_D A (wM cI cB cZ a T se id pr en be th bs wh (nI 0) len md nw) ∧ va_S A s.heap H locs ∧ lv_has ls 12 [(0, .ref (a 0)), (5, .int p5), (6, .int (nI q)), (7, .int (nI (o * 8))), (8, .int (nI (o * 8 + q))), (9, .int (nI k))] := hI
      refine fh_cut (pc2 := 147) (σ := Int32) (fun q9 H locs ls => ((q9 = 1 ∧ C1m en k (o * 8 + q) p5) ∨ (q9 = 0 ∧ ¬ C1m en k (o * 8 + q) p5)) ∧ va_P (dC, dI) vwCl (wM cI cB cZ a T se id pr en be th bs wh (nI 0) len md nw) H ∧ va_D A (wM cI cB cZ a T se id pr en be th bs wh (nI 0) len md nw) ∧ va_S A s.heap H locs ∧ lv_has ls 12 [(0, .ref (a 0)), (5, .int p5), (6, .int (nI q)), (7, .int (nI (o * 8))), (8, .int (nI (o * 8 + q))), (9, .int (nI k)), (10, .int q9)]) ?_ (fun J147 => ?_)
      · intro q9 H locs ls hI
        obtain ⟨wg, rfl⟩ : ∃ z, z = q9 := ⟨_, rfl⟩
        obtain ⟨hwg, hP, hD, hS, hl⟩ : ((wg = 1 ∧ C1m en k (o * 8 + q) p5) ∨ (wg = 0 ∧ ¬ C1m en k (o * 8 + q) p5)) ∧ va_P (dC, dI) vwCl (wM cI cB cZ a T se id pr en be th bs wh (nI 0) len md nw) H ∧ va_D A (wM cI cB cZ a T se id pr en be th bs wh (nI 0) len md nw) ∧ va_S A s.heap H locs ∧ lv_has ls 12 [(0, .ref (a 0)), (5, .int p5), (6, .int (nI q)), (7, .int (nI (o * 8))), (8, .int (nI (o * 8 + q))), (9, .int (nI k)), (10, .int wg)] := hI
        refine fh_cut (pc2 := 199) (σ := Int32) (fun q9 H locs ls => ((q9 = 1 ∧ (C1m en k (o * 8 + q) p5 ∨ C2m bs k (o * 8 + q) p5 4096)) ∨ (q9 = 0 ∧ ¬ (C1m en k (o * 8 + q) p5 ∨ C2m bs k (o * 8 + q) p5 4096))) ∧ va_P (dC, dI) vwCl (wM cI cB cZ a T se id pr en be th bs wh (nI 0) len md nw) H ∧ va_D A (wM cI cB cZ a T se id pr en be th bs wh (nI 0) len md nw) ∧ va_S A s.heap H locs ∧ lv_has ls 12 [(0, .ref (a 0)), (5, .int p5), (6, .int (nI q)), (7, .int (nI (o * 8))), (8, .int (nI (o * 8 + q))), (9, .int (nI k)), (10, .int q9)]) ?_ (fun J199 => ?_)
        · intro q9 H locs ls hI
          obtain ⟨wg, rfl⟩ : ∃ z, z = q9 := ⟨_, rfl⟩
          obtain ⟨hwg, hP, hD, hS, hl⟩ : ((wg = 1 ∧ (C1m en k (o * 8 + q) p5 ∨ C2m bs k (o * 8 + q) p5 4096)) ∨ (wg = 0 ∧ ¬ (C1m en k (o * 8 + q) p5 ∨ C2m bs k (o * 8 + q) p5 4096))) ∧ va_P (dC, dI) vwCl (wM cI cB cZ a T se id pr en be th bs wh (nI 0) len md nw) H ∧ va_D A (wM cI cB cZ a T se id pr en be th bs wh (nI 0) len md nw) ∧ va_S A s.heap H locs ∧ lv_has ls 12 [(0, .ref (a 0)), (5, .int p5), (6, .int (nI q)), (7, .int (nI (o * 8))), (8, .int (nI (o * 8 + q))), (9, .int (nI k)), (10, .int wg)] := hI
          refine fh_cut (pc2 := 229) (σ := (Nat → Int32)) (fun q9 H locs ls => (¬ (C1m en k (o * 8 + q) p5 ∨ C2m bs k (o * 8 + q) p5 4096)) ∧ (q9 = (if p5 = 0 then en else upd en k (nI (o * 8 + q)))) ∧ va_P (dC, dI) vwCl (wM cI cB cZ a T se id pr q9 be th bs wh (nI 0) len md nw) H ∧ va_D A (wM cI cB cZ a T se id pr q9 be th bs wh (nI 0) len md nw) ∧ va_S A s.heap H locs ∧ lv_has ls 12 [(0, .ref (a 0)), (6, .int (nI q)), (7, .int (nI (o * 8))), (9, .int (nI k))]) ?_ (fun J229 => ?_)
          · intro q9 H locs ls hI
            obtain ⟨en2, rfl⟩ : ∃ z, z = q9 := ⟨_, rfl⟩
            obtain ⟨hnw, hen2, hP, hD, hS, hl⟩ : (¬ (C1m en k (o * 8 + q) p5 ∨ C2m bs k (o * 8 + q) p5 4096)) ∧ (en2 = (if p5 = 0 then en else upd en k (nI (o * 8 + q)))) ∧ va_P (dC, dI) vwCl (wM cI cB cZ a T se id pr en2 be th bs wh (nI 0) len md nw) H ∧ va_D A (wM cI cB cZ a T se id pr en2 be th bs wh (nI 0) len md nw) ∧ va_S A s.heap H locs ∧ lv_has ls 12 [(0, .ref (a 0)), (6, .int (nI q)), (7, .int (nI (o * 8))), (9, .int (nI k))] := hI
            refine lv_iconst (v := nI 0) hx hb dX2_take_229 (by first | decide | rfl) ?_
            refine lv_istore (lv' := [(11, .int (nI 0)), (0, .ref (a 0)), (6, .int (nI q)), (7, .int (nI (o * 8))), (9, .int (nI k))]) hx hb dX2_take_230 hl (by decide) rfl (fun ls hl => ?_)
            have hP : va_P (dC, dI) vwCl (wM cI cB cZ a T se id pr en2 be th (mp bs (k * 4096 + o * 8) 0 T) wh (nI 0) len md nw) H := by rw [mp_0]; exact hP
            have hD : va_D A (wM cI cB cZ a T se id pr en2 be th (mp bs (k * 4096 + o * 8) 0 T) wh (nI 0) len md nw) := by rw [mp_0]; exact hD
            refine fh_loop (σ := Nat) (fun q9 H locs ls => (q9 ≤ q) ∧ va_P (dC, dI) vwCl (wM cI cB cZ a T se id pr en2 be th (mp bs (k * 4096 + o * 8) q9 T) wh (nI 0) len md nw) H ∧ va_D A (wM cI cB cZ a T se id pr en2 be th (mp bs (k * 4096 + o * 8) q9 T) wh (nI 0) len md nw) ∧ va_S A s.heap H locs ∧ lv_has ls 12 [(0, .ref (a 0)), (6, .int (nI q)), (7, .int (nI (o * 8))), (9, .int (nI k)), (11, .int (nI q9))]) (fun q9 => q - q9) ?_ (0) ⟨Nat.zero_le _, hP, hD, hS, lv_sub hl [1, 2, 3, 4, 0] rfl⟩
            intro q9 H locs ls hI ih
            obtain ⟨i, rfl⟩ : ∃ z, z = q9 := ⟨_, rfl⟩
            obtain ⟨hi, hP, hD, hS, hl⟩ : (i ≤ q) ∧ va_P (dC, dI) vwCl (wM cI cB cZ a T se id pr en2 be th (mp bs (k * 4096 + o * 8) i T) wh (nI 0) len md nw) H ∧ va_D A (wM cI cB cZ a T se id pr en2 be th (mp bs (k * 4096 + o * 8) i T) wh (nI 0) len md nw) ∧ va_S A s.heap H locs ∧ lv_has ls 12 [(0, .ref (a 0)), (6, .int (nI q)), (7, .int (nI (o * 8))), (9, .int (nI k)), (11, .int (nI i))] := hI
            refine lv_iload hx hb dX2_take_232 (lv_at hl 4 rfl) ?_
            refine lv_iload hx hb dX2_take_234 (lv_at hl 1 rfl) ?_
            refine lv_icmp_ge (tgt := 295) hx hb dX2_take_236 (by decide) (fun c236 => ?_) (fun c236 => ?_)
            · skip
              refine lv_aload_n hx hb dX2_take_295 rfl (lv_at hl 0 rfl) ?_
              refine va_get (D := (dC, dI)) (ci := 2) (v := .ref (a 5)) (C := RX2) (T := TX2) (N := 13) hx hb hts (by decide +kernel) hown hK hP 0 rfl rfl 5 (by decide) (hts (.fieldLink RX2 23 "FragmentHouseModel" "ends" "[I") (by decide +kernel)) (fun _ h9 => h9) rfl dX2_take_296 ?_
              refine lv_iload hx hb dX2_take_299 (lv_at hl 3 rfl) ?_
              refine fh_iald (k := k) hx hb hK hP 5 0 rfl rfl hk (by first | decide | omega) dX2_take_301 ?_
              refine lv_if_ge (tgt := 307) hx hb dX2_take_302 (by decide) (fun c302 => ?_) (fun c302 => ?_)
              · skip
                have hiq : i = q := Nat.le_antisymm hi ((nI_leI (by omega) (by omega)).mp c236)
                rw [hiq] at hP hD
                have hle2 : en2 k ≤ nI 4096 := by rw [hen2]; split; exact hen; rw [pk_us]; exact nI_le hsd.1 (by decide)
                obtain ⟨e9, he, hee⟩ : ∃ e9, e9 ≤ 4096 ∧ en2 k = nI e9 := nI_of2 (by decide) (Int32.not_lt.mpr c302) hle2
                refine lv_iconst (v := nI 0) hx hb dX2_take_307 (by first | decide | rfl) ?_
                refine lv_istore (lv' := [(11, .int (nI 0)), (0, .ref (a 0)), (6, .int (nI q)), (7, .int (nI (o * 8))), (9, .int (nI k))]) hx hb dX2_take_308 hl (by decide) rfl (fun ls hl => ?_)
                refine fh_loop (σ := Nat) (fun q9 H locs ls => (q9 ≤ e9) ∧ (∀ j, j < q9 → (mp bs (k * 4096 + o * 8) q T) (k * 4096 + j) ≠ 0) ∧ va_P (dC, dI) vwCl (wM cI cB cZ a T se id pr en2 be th (mp bs (k * 4096 + o * 8) q T) wh (nI 0) len md nw) H ∧ va_D A (wM cI cB cZ a T se id pr en2 be th (mp bs (k * 4096 + o * 8) q T) wh (nI 0) len md nw) ∧ va_S A s.heap H locs ∧ lv_has ls 12 [(0, .ref (a 0)), (9, .int (nI k)), (11, .int (nI q9))]) (fun q9 => e9 - q9) ?_ (0) ⟨Nat.zero_le _, fun j h => absurd h (Nat.not_lt_zero _), hP, hD, hS, lv_sub hl [1, 4, 0] rfl⟩
                intro q9 H locs ls hI ih
                obtain ⟨i, rfl⟩ : ∃ z, z = q9 := ⟨_, rfl⟩
                obtain ⟨hi, hall, hP, hD, hS, hl⟩ : (i ≤ e9) ∧ (∀ j, j < i → (mp bs (k * 4096 + o * 8) q T) (k * 4096 + j) ≠ 0) ∧ va_P (dC, dI) vwCl (wM cI cB cZ a T se id pr en2 be th (mp bs (k * 4096 + o * 8) q T) wh (nI 0) len md nw) H ∧ va_D A (wM cI cB cZ a T se id pr en2 be th (mp bs (k * 4096 + o * 8) q T) wh (nI 0) len md nw) ∧ va_S A s.heap H locs ∧ lv_has ls 12 [(0, .ref (a 0)), (9, .int (nI k)), (11, .int (nI i))] := hI
                refine lv_iload hx hb dX2_take_310 (lv_at hl 2 rfl) ?_
                refine lv_aload_n hx hb dX2_take_312 rfl (lv_at hl 0 rfl) ?_
                refine va_get (D := (dC, dI)) (ci := 2) (v := .ref (a 5)) (C := RX2) (T := TX2) (N := 13) hx hb hts (by decide +kernel) hown hK hP 0 rfl rfl 5 (by decide) (hts (.fieldLink RX2 23 "FragmentHouseModel" "ends" "[I") (by decide +kernel)) (fun _ h9 => h9) rfl dX2_take_313 ?_
                refine lv_iload hx hb dX2_take_316 (lv_at hl 1 rfl) ?_
                refine fh_iald (k := k) hx hb hK hP 5 0 rfl rfl hk (by first | decide | omega) dX2_take_318 ?_
                refine fh_top (y := nI e9) hee ?_
                refine lv_icmp_ge (tgt := 347) hx hb dX2_take_319 (by decide) (fun c319 => ?_) (fun c319 => ?_)
                · skip
                  have hie : i = e9 := Nat.le_antisymm hi ((nI_leI (by omega) (by omega)).mp c319)
                  rw [hie] at hall
                  refine lv_aload_n hx hb dX2_take_347 rfl (lv_at hl 0 rfl) ?_
                  refine lv_aload_n hx hb dX2_take_348 rfl (lv_at hl 0 rfl) ?_
                  refine va_get (D := (dC, dI)) (ci := 2) (v := .ref (a 5)) (C := RX2) (T := TX2) (N := 13) hx hb hts (by decide +kernel) hown hK hP 0 rfl rfl 5 (by decide) (hts (.fieldLink RX2 23 "FragmentHouseModel" "ends" "[I") (by decide +kernel)) (fun _ h9 => h9) rfl dX2_take_349 ?_
                  refine lv_iload hx hb dX2_take_352 (lv_at hl 1 rfl) ?_
                  refine fh_iald (k := k) hx hb hK hP 5 0 rfl rfl hk (by first | decide | omega) dX2_take_354 ?_
                  refine fh_top (y := nI e9) hee ?_
                  refine va_put (D := (dC, dI)) (ci := 2) (v := .int (nI e9)) (ty := .int) (C := RX2) (T := TX2) (N := 13) hx hb hts (by decide +kernel) tyX2 tyX2_ok nmX2 hown hK hP hD hS 0 rfl rfl 10 (by decide) (hts (.fieldLink RX2 39 "FragmentHouseModel" "length" "I") (by decide +kernel)) (fun _ h9 => h9) rfl (by decide +kernel) rfl rfl (Nat.le_of_ble_eq_true rfl) dX2_take_355 (fun H locs hP hD hS => ?_)
                  have hP : va_P (dC, dI) vwCl (wM cI cB cZ a T se id pr en2 be th (mp bs (k * 4096 + o * 8) q T) wh (nI 0) ((nI e9)) md nw) H := hP
                  have hD : va_D A (wM cI cB cZ a T se id pr en2 be th (mp bs (k * 4096 + o * 8) q T) wh (nI 0) ((nI e9)) md nw) := hD
                  refine lv_iconst (v := nI 0) hx hb dX2_take_358 (by first | decide | rfl) ?_
                  refine lv_istore (lv' := [(11, .int (nI 0)), (0, .ref (a 0)), (9, .int (nI k))]) hx hb dX2_take_359 hl (by decide) rfl (fun ls hl => ?_)
                  refine fh_loop (σ := Nat × (Nat → Int32)) (fun q9 H locs ls => (q9.1 ≤ e9) ∧ (∀ j, j < q9.1 → q9.2 j = (mp bs (k * 4096 + o * 8) q T) (k * 4096 + j) - 1) ∧ va_P (dC, dI) vwCl (wM cI cB cZ a T se id pr en2 be th (mp bs (k * 4096 + o * 8) q T) q9.2 (nI 0) (nI e9) md nw) H ∧ va_D A (wM cI cB cZ a T se id pr en2 be th (mp bs (k * 4096 + o * 8) q T) q9.2 (nI 0) (nI e9) md nw) ∧ va_S A s.heap H locs ∧ lv_has ls 12 [(0, .ref (a 0)), (9, .int (nI k)), (11, .int (nI q9.1))]) (fun q9 => e9 - q9.1) ?_ (0, wh) ⟨Nat.zero_le _, fun j h => absurd h (Nat.not_lt_zero _), hP, hD, hS, lv_sub hl [1, 2, 0] rfl⟩
                  intro q9 H locs ls hI ih
                  obtain ⟨i, wh⟩ := q9
                  obtain ⟨hi, hwh, hP, hD, hS, hl⟩ : (i ≤ e9) ∧ (∀ j, j < i → wh j = (mp bs (k * 4096 + o * 8) q T) (k * 4096 + j) - 1) ∧ va_P (dC, dI) vwCl (wM cI cB cZ a T se id pr en2 be th (mp bs (k * 4096 + o * 8) q T) wh (nI 0) (nI e9) md nw) H ∧ va_D A (wM cI cB cZ a T se id pr en2 be th (mp bs (k * 4096 + o * 8) q T) wh (nI 0) (nI e9) md nw) ∧ va_S A s.heap H locs ∧ lv_has ls 12 [(0, .ref (a 0)), (9, .int (nI k)), (11, .int (nI i))] := hI
                  refine lv_iload hx hb dX2_take_361 (lv_at hl 2 rfl) ?_
                  refine lv_aload_n hx hb dX2_take_363 rfl (lv_at hl 0 rfl) ?_
                  refine va_get (D := (dC, dI)) (ci := 2) (v := .int (nI e9)) (C := RX2) (T := TX2) (N := 13) hx hb hts (by decide +kernel) hown hK hP 0 rfl rfl 10 (by decide) (hts (.fieldLink RX2 39 "FragmentHouseModel" "length" "I") (by decide +kernel)) (fun _ h9 => h9) rfl dX2_take_364 ?_
                  refine lv_icmp_ge (tgt := 399) hx hb dX2_take_367 (by decide) (fun c367 => ?_) (fun c367 => ?_)
                  · skip
                    refine lv_aload_n hx hb dX2_take_399 rfl (lv_at hl 0 rfl) ?_
                    refine va_get (D := (dC, dI)) (ci := 2) (v := .ref (a 7)) (C := RX2) (T := TX2) (N := 13) hx hb hts (by decide +kernel) hown hK hP 0 rfl rfl 7 (by decide) (hts (.fieldLink RX2 29 "FragmentHouseModel" "there" "[Z") (by decide +kernel)) (fun _ h9 => h9) rfl dX2_take_400 ?_
                    refine lv_iload hx hb dX2_take_403 (lv_at hl 1 rfl) ?_
                    refine lv_iconst (v := 0) hx hb dX2_take_405 (by first | decide | rfl) ?_
                    refine fh_zast (k := k) hx hb hK hP hD hS 7 2 rfl rfl rfl hk (by first | decide | omega) dX2_take_406 (fun H locs hP hD hS => ?_)
                    have hP : va_P (dC, dI) vwCl (wM cI cB cZ a T se id pr en2 be (upd th k 0) (mp bs (k * 4096 + o * 8) q T) wh (nI 0) (nI e9) md nw) H := hP
                    have hD : va_D A (wM cI cB cZ a T se id pr en2 be (upd th k 0) (mp bs (k * 4096 + o * 8) q T) wh (nI 0) (nI e9) md nw) := hD
                    refine lv_aload_n hx hb dX2_take_407 rfl (lv_at hl 0 rfl) ?_
                    refine lv_dup hx hb dX2_take_408 rfl ?_
                    refine va_get (D := (dC, dI)) (ci := 2) (v := .int md) (C := RX2) (T := TX2) (N := 13) hx hb hts (by decide +kernel) hown hK hP 0 rfl rfl 11 (by decide) (hts (.fieldLink RX2 60 "FragmentHouseModel" "made" "I") (by decide +kernel)) (fun _ h9 => h9) rfl dX2_take_409 ?_
                    refine lv_iconst (v := 1) hx hb dX2_take_412 (by first | decide | rfl) ?_
                    refine lv_iadd hx hb dX2_take_413 ?_
                    refine va_put (D := (dC, dI)) (ci := 2) (v := .int (md + 1)) (ty := .int) (C := RX2) (T := TX2) (N := 13) hx hb hts (by decide +kernel) tyX2 tyX2_ok nmX2 hown hK hP hD hS 0 rfl rfl 11 (by decide) (hts (.fieldLink RX2 60 "FragmentHouseModel" "made" "I") (by decide +kernel)) (fun _ h9 => h9) rfl (by decide +kernel) rfl rfl (Nat.le_of_ble_eq_true rfl) dX2_take_414 (fun H locs hP hD hS => ?_)
                    have hP : va_P (dC, dI) vwCl (wM cI cB cZ a T se id pr en2 be (upd th k 0) (mp bs (k * 4096 + o * 8) q T) wh (nI 0) (nI e9) ((md + 1)) nw) H := hP
                    have hD : va_D A (wM cI cB cZ a T se id pr en2 be (upd th k 0) (mp bs (k * 4096 + o * 8) q T) wh (nI 0) (nI e9) ((md + 1)) nw) := hD
                    refine lv_aload_n hx hb dX2_take_417 rfl (lv_at hl 0 rfl) ?_
                    refine va_get (D := (dC, dI)) (ci := 2) (v := .int (nI e9)) (C := RX2) (T := TX2) (N := 13) hx hb hts (by decide +kernel) hown hK hP 0 rfl rfl 10 (by decide) (hts (.fieldLink RX2 39 "FragmentHouseModel" "length" "I") (by decide +kernel)) (fun _ h9 => h9) rfl dX2_take_418 ?_
                    obtain rfl : i = e9 := Nat.le_antisymm hi ((nI_leI (by omega) (by omega)).mp c367)
                    exact W.iret hx hb hr (fh_qi (0, (se, id, pr, en2, be, upd th k 0, (mp bs (k * 4096 + o * 8) q T)), wh, nI i, md + 1) (Or.inr ⟨o, ho, hp4, Or.inr ⟨hsd, Or.inr ⟨k, hk, se, id, pr, en, be, th, bs, hM, Or.inr ⟨hnw, en2, (mp bs (k * 4096 + o * 8) q T), hen2, rfl, Or.inr ⟨i, he, hee, hall, wh, hwh, rfl, rfl⟩⟩⟩⟩⟩) hP hK hD hS) hS.2.2 dX2_take_421
                  · skip
                    have hlt : i < e9 := Nat.lt_of_not_le (fun h => c367 (nI_le h (by omega)))
                    refine lv_aload_n hx hb dX2_take_370 rfl (lv_at hl 0 rfl) ?_
                    refine va_get (D := (dC, dI)) (ci := 2) (v := .ref (a 9)) (C := RX2) (T := TX2) (N := 13) hx hb hts (by decide +kernel) hown hK hP 0 rfl rfl 9 (by decide) (hts (.fieldLink RX2 36 "FragmentHouseModel" "whole" "[I") (by decide +kernel)) (fun _ h9 => h9) rfl dX2_take_371 ?_
                    refine lv_iload hx hb dX2_take_374 (lv_at hl 2 rfl) ?_
                    refine lv_aload_n hx hb dX2_take_376 rfl (lv_at hl 0 rfl) ?_
                    refine va_get (D := (dC, dI)) (ci := 2) (v := .ref (a 8)) (C := RX2) (T := TX2) (N := 13) hx hb hts (by decide +kernel) hown hK hP 0 rfl rfl 8 (by decide) (hts (.fieldLink RX2 33 "FragmentHouseModel" "bytes" "[I") (by decide +kernel)) (fun _ h9 => h9) rfl dX2_take_377 ?_
                    refine lv_iload hx hb dX2_take_380 (lv_at hl 1 rfl) ?_
                    refine lv_sipush (v := nI 4096) hx hb dX2_take_382 (by first | decide | rfl) ?_
                    refine lv_imul hx hb dX2_take_385 ?_
                    refine fh_top (y := nI (k * 4096)) (pk_mul k 4096) ?_
                    refine lv_iload hx hb dX2_take_386 (lv_at hl 2 rfl) ?_
                    refine lv_iadd hx hb dX2_take_388 ?_
                    refine fh_top (y := nI (k * 4096 + i)) (nI_add (k * 4096) i) ?_
                    refine fh_iald (k := (k * 4096 + i)) hx hb hK hP 8 0 rfl rfl (by omega) (by first | decide | omega) dX2_take_389 ?_
                    refine lv_iconst (v := 1) hx hb dX2_take_390 (by first | decide | rfl) ?_
                    refine lv_isub hx hb dX2_take_391 ?_
                    refine fh_iast (k := i) hx hb hK hP hD hS 9 0 rfl rfl (by omega) (by first | decide | omega) dX2_take_392 (fun H locs hP hD hS => ?_)
                    have hP : va_P (dC, dI) vwCl (wM cI cB cZ a T se id pr en2 be th (mp bs (k * 4096 + o * 8) q T) (upd wh i ((((mp bs (k * 4096 + o * 8) q T) ((k * 4096 + i))) - 1))) (nI 0) (nI e9) md nw) H := hP
                    have hD : va_D A (wM cI cB cZ a T se id pr en2 be th (mp bs (k * 4096 + o * 8) q T) (upd wh i ((((mp bs (k * 4096 + o * 8) q T) ((k * 4096 + i))) - 1))) (nI 0) (nI e9) md nw) := hD
                    refine lv_iinc (v := (nI (i + 1))) (lv' := [(11, .int (nI (i + 1))), (0, .ref (a 0)), (9, .int (nI k))]) hx hb dX2_take_393 hl (k := 2) rfl (nI_1 i) (by decide) rfl (fun ls hl => ?_)
                    refine lv_goto (tgt := 361) hx hb dX2_take_396 (by decide) ?_
                    exact ih (i + 1, upd wh i ((((mp bs (k * 4096 + o * 8) q T) ((k * 4096 + i))) - 1))) _ _ _ ⟨hlt, lt_s (fun j h => (pk_un (Nat.ne_of_lt h)).trans (hwh j h)) pk_us, hP, hD, hS, lv_sub hl [1, 2, 0] rfl⟩ (by show e9 - (i + 1) < e9 - i; omega)
                · skip
                  have hlt : i < e9 := Nat.lt_of_not_le (fun h => c319 (nI_le h (by omega)))
                  refine lv_aload_n hx hb dX2_take_322 rfl (lv_at hl 0 rfl) ?_
                  refine va_get (D := (dC, dI)) (ci := 2) (v := .ref (a 8)) (C := RX2) (T := TX2) (N := 13) hx hb hts (by decide +kernel) hown hK hP 0 rfl rfl 8 (by decide) (hts (.fieldLink RX2 33 "FragmentHouseModel" "bytes" "[I") (by decide +kernel)) (fun _ h9 => h9) rfl dX2_take_323 ?_
                  refine lv_iload hx hb dX2_take_326 (lv_at hl 1 rfl) ?_
                  refine lv_sipush (v := nI 4096) hx hb dX2_take_328 (by first | decide | rfl) ?_
                  refine lv_imul hx hb dX2_take_331 ?_
                  refine fh_top (y := nI (k * 4096)) (pk_mul k 4096) ?_
                  refine lv_iload hx hb dX2_take_332 (lv_at hl 2 rfl) ?_
                  refine lv_iadd hx hb dX2_take_334 ?_
                  refine fh_top (y := nI (k * 4096 + i)) (nI_add (k * 4096) i) ?_
                  refine fh_iald (k := (k * 4096 + i)) hx hb hK hP 8 0 rfl rfl (by omega) (by first | decide | omega) dX2_take_335 ?_
                  refine lv_if_ne (tgt := 341) hx hb dX2_take_336 (by decide) (fun c336 => ?_) (fun c336 => ?_)
                  · skip
                    refine lv_iinc (v := (nI (i + 1))) (lv' := [(11, .int (nI (i + 1))), (0, .ref (a 0)), (9, .int (nI k))]) hx hb dX2_take_341 hl (k := 2) rfl (nI_1 i) (by decide) rfl (fun ls hl => ?_)
                    refine lv_goto (tgt := 310) hx hb dX2_take_344 (by decide) ?_
                    exact ih (i + 1) _ _ _ ⟨hlt, lt_s hall c336, hP, hD, hS, lv_sub hl [1, 2, 0] rfl⟩ (by show e9 - (i + 1) < e9 - i; omega)
                  · skip
                    refine lv_iconst (v := (-1)) hx hb dX2_take_339 (by first | decide | rfl) ?_
                    exact W.iret hx hb hr (fh_qi (0, (se, id, pr, en2, be, th, (mp bs (k * 4096 + o * 8) q T)), wh, len, md) (Or.inr ⟨o, ho, hp4, Or.inr ⟨hsd, Or.inr ⟨k, hk, se, id, pr, en, be, th, bs, hM, Or.inr ⟨hnw, en2, (mp bs (k * 4096 + o * 8) q T), hen2, rfl, Or.inl ⟨Or.inr ⟨e9, he, hee, i, hlt, c336⟩, rfl, rfl⟩⟩⟩⟩⟩) hP hK hD hS) hS.2.2 dX2_take_340
              · skip
                refine lv_iconst (v := (-1)) hx hb dX2_take_305 (by first | decide | rfl) ?_
                have hiq : i = q := Nat.le_antisymm hi ((nI_leI (by omega) (by omega)).mp c236)
                rw [hiq] at hP hD
                exact W.iret hx hb hr (fh_qi (0, (se, id, pr, en2, be, th, (mp bs (k * 4096 + o * 8) q T)), wh, len, md) (Or.inr ⟨o, ho, hp4, Or.inr ⟨hsd, Or.inr ⟨k, hk, se, id, pr, en, be, th, bs, hM, Or.inr ⟨hnw, en2, (mp bs (k * 4096 + o * 8) q T), hen2, rfl, Or.inl ⟨Or.inl (Int32.not_le.mp c302), rfl, rfl⟩⟩⟩⟩⟩) hP hK hD hS) hS.2.2 dX2_take_306
            · skip
              have hlt : i < q := Nat.lt_of_not_le (fun h => c236 (nI_le h (by omega)))
              have hsd1 := hsd.1
              refine lv_aload_n hx hb dX2_take_239 rfl (lv_at hl 0 rfl) ?_
              refine va_get (D := (dC, dI)) (ci := 2) (v := .ref (a 8)) (C := RX2) (T := TX2) (N := 13) hx hb hts (by decide +kernel) hown hK hP 0 rfl rfl 8 (by decide) (hts (.fieldLink RX2 33 "FragmentHouseModel" "bytes" "[I") (by decide +kernel)) (fun _ h9 => h9) rfl dX2_take_240 ?_
              refine lv_iload hx hb dX2_take_243 (lv_at hl 3 rfl) ?_
              refine lv_sipush (v := nI 4096) hx hb dX2_take_245 (by first | decide | rfl) ?_
              refine lv_imul hx hb dX2_take_248 ?_
              refine fh_top (y := nI (k * 4096)) (pk_mul k 4096) ?_
              refine lv_iload hx hb dX2_take_249 (lv_at hl 2 rfl) ?_
              refine lv_iadd hx hb dX2_take_251 ?_
              refine fh_top (y := nI (k * 4096 + o * 8)) (nI_add (k * 4096) (o * 8)) ?_
              refine lv_iload hx hb dX2_take_252 (lv_at hl 4 rfl) ?_
              refine lv_iadd hx hb dX2_take_254 ?_
              refine fh_top (y := nI (k * 4096 + o * 8 + i)) (nI_add (k * 4096 + o * 8) i) ?_
              refine fh_iald (k := (k * 4096 + o * 8 + i)) hx hb hK hP 8 0 rfl rfl (by omega) (by first | decide | omega) dX2_take_255 ?_
              refine lv_if_ne (tgt := 289) hx hb dX2_take_256 (by decide) (fun c256 => ?_) (fun c256 => ?_)
              · skip
                refine lv_iinc (v := (nI (i + 1))) (lv' := [(11, .int (nI (i + 1))), (0, .ref (a 0)), (6, .int (nI q)), (7, .int (nI (o * 8))), (9, .int (nI k))]) hx hb dX2_take_289 hl (k := 4) rfl (nI_1 i) (by decide) rfl (fun ls hl => ?_)
                refine lv_goto (tgt := 232) hx hb dX2_take_292 (by decide) ?_
                have hP : va_P (dC, dI) vwCl (wM cI cB cZ a T se id pr en2 be th (mp bs (k * 4096 + o * 8) (i + 1) T) wh (nI 0) len md nw) H := by rw [← mp_s2 c256]; exact hP
                have hD : va_D A (wM cI cB cZ a T se id pr en2 be th (mp bs (k * 4096 + o * 8) (i + 1) T) wh (nI 0) len md nw) := by rw [← mp_s2 c256]; exact hD
                exact ih (i + 1) _ _ _ ⟨hlt, hP, hD, hS, lv_sub hl [1, 2, 3, 4, 0] rfl⟩ (by show q - (i + 1) < q - i; omega)
              · skip
                refine lv_aload_n hx hb dX2_take_259 rfl (lv_at hl 0 rfl) ?_
                refine va_get (D := (dC, dI)) (ci := 2) (v := .ref (a 8)) (C := RX2) (T := TX2) (N := 13) hx hb hts (by decide +kernel) hown hK hP 0 rfl rfl 8 (by decide) (hts (.fieldLink RX2 33 "FragmentHouseModel" "bytes" "[I") (by decide +kernel)) (fun _ h9 => h9) rfl dX2_take_260 ?_
                refine lv_iload hx hb dX2_take_263 (lv_at hl 3 rfl) ?_
                refine lv_sipush (v := nI 4096) hx hb dX2_take_265 (by first | decide | rfl) ?_
                refine lv_imul hx hb dX2_take_268 ?_
                refine fh_top (y := nI (k * 4096)) (pk_mul k 4096) ?_
                refine lv_iload hx hb dX2_take_269 (lv_at hl 2 rfl) ?_
                refine lv_iadd hx hb dX2_take_271 ?_
                refine fh_top (y := nI (k * 4096 + o * 8)) (nI_add (k * 4096) (o * 8)) ?_
                refine lv_iload hx hb dX2_take_272 (lv_at hl 4 rfl) ?_
                refine lv_iadd hx hb dX2_take_274 ?_
                refine fh_top (y := nI (k * 4096 + o * 8 + i)) (nI_add (k * 4096 + o * 8) i) ?_
                refine lv_aload_n hx hb dX2_take_275 rfl (lv_at hl 0 rfl) ?_
                refine va_get (D := (dC, dI)) (ci := 2) (v := .ref (a 1)) (C := RX2) (T := TX2) (N := 13) hx hb hts (by decide +kernel) hown hK hP 0 rfl rfl 0 (by decide) (hts (.fieldLink RX2 9 "FragmentHouseModel" "tray" "[B") (by decide +kernel)) (fun _ h9 => h9) rfl dX2_take_276 ?_
                refine lv_iload hx hb dX2_take_279 (lv_at hl 4 rfl) ?_
                refine fh_bald (k := i) hx hb hK hP 1 1 rfl rfl (by omega) (by first | decide | omega) dX2_take_281 ?_
                refine lv_sipush (v := 255) hx hb dX2_take_282 (by first | decide | rfl) ?_
                refine lv_iand hx hb dX2_take_285 ?_
                refine lv_iconst (v := 1) hx hb dX2_take_286 (by first | decide | rfl) ?_
                refine lv_iadd hx hb dX2_take_287 ?_
                refine fh_iast (k := (k * 4096 + o * 8 + i)) hx hb hK hP hD hS 8 0 rfl rfl (by omega) (by first | decide | omega) dX2_take_288 (fun H locs hP hD hS => ?_)
                have hP : va_P (dC, dI) vwCl (wM cI cB cZ a T se id pr en2 be th (upd ((mp bs (k * 4096 + o * 8) i T)) ((k * 4096 + o * 8 + i)) ((((T i) &&& 255) + 1))) wh (nI 0) len md nw) H := hP
                have hD : va_D A (wM cI cB cZ a T se id pr en2 be th (upd ((mp bs (k * 4096 + o * 8) i T)) ((k * 4096 + o * 8 + i)) ((((T i) &&& 255) + 1))) wh (nI 0) len md nw) := hD
                refine lv_iinc (v := (nI (i + 1))) (lv' := [(11, .int (nI (i + 1))), (0, .ref (a 0)), (6, .int (nI q)), (7, .int (nI (o * 8))), (9, .int (nI k))]) hx hb dX2_take_289 hl (k := 4) rfl (nI_1 i) (by decide) rfl (fun ls hl => ?_)
                refine lv_goto (tgt := 232) hx hb dX2_take_292 (by decide) ?_
                have hP : va_P (dC, dI) vwCl (wM cI cB cZ a T se id pr en2 be th (mp bs (k * 4096 + o * 8) (i + 1) T) wh (nI 0) len md nw) H := by rw [← mp_s1 c256]; exact hP
                have hD : va_D A (wM cI cB cZ a T se id pr en2 be th (mp bs (k * 4096 + o * 8) (i + 1) T) wh (nI 0) len md nw) := by rw [← mp_s1 c256]; exact hD
                exact ih (i + 1) _ _ _ ⟨hlt, hP, hD, hS, lv_sub hl [1, 2, 3, 4, 0] rfl⟩ (by show q - (i + 1) < q - i; omega)
          · skip
            refine lv_iload hx hb dX2_take_199 (lv_at hl 6 rfl) ?_
            refine lv_if_eq (tgt := 215) hx hb dX2_take_201 (by decide) (fun c201 => ?_) (fun c201 => ?_)
            · skip
              have hnw : ¬ (C1m en k (o * 8 + q) p5 ∨ C2m bs k (o * 8 + q) p5 4096) := hwg.elim (fun z => absurd (z.1.symm.trans c201) (by decide)) (fun z => z.2)
              refine lv_iload hx hb dX2_take_215 (lv_at hl 1 rfl) ?_
              refine lv_if_eq (tgt := 229) hx hb dX2_take_217 (by decide) (fun c217 => ?_) (fun c217 => ?_)
              · skip
                exact J229 (en) _ _ _ ⟨hnw, (if_pos c217).symm, hP, hD, hS, lv_sub hl [0, 2, 3, 5] rfl⟩
              · skip
                refine lv_aload_n hx hb dX2_take_220 rfl (lv_at hl 0 rfl) ?_
                refine va_get (D := (dC, dI)) (ci := 2) (v := .ref (a 5)) (C := RX2) (T := TX2) (N := 13) hx hb hts (by decide +kernel) hown hK hP 0 rfl rfl 5 (by decide) (hts (.fieldLink RX2 23 "FragmentHouseModel" "ends" "[I") (by decide +kernel)) (fun _ h9 => h9) rfl dX2_take_221 ?_
                refine lv_iload hx hb dX2_take_224 (lv_at hl 5 rfl) ?_
                refine lv_iload hx hb dX2_take_226 (lv_at hl 4 rfl) ?_
                refine fh_iast (k := k) hx hb hK hP hD hS 5 0 rfl rfl hk (by first | decide | omega) dX2_take_228 (fun H locs hP hD hS => ?_)
                have hP : va_P (dC, dI) vwCl (wM cI cB cZ a T se id pr (upd en k ((nI (o * 8 + q)))) be th bs wh (nI 0) len md nw) H := hP
                have hD : va_D A (wM cI cB cZ a T se id pr (upd en k ((nI (o * 8 + q)))) be th bs wh (nI 0) len md nw) := hD
                exact J229 (upd en k (nI (o * 8 + q))) _ _ _ ⟨hnw, (if_neg c217).symm, hP, hD, hS, lv_sub hl [0, 2, 3, 5] rfl⟩
            · skip
              have hwr : (C1m en k (o * 8 + q) p5 ∨ C2m bs k (o * 8 + q) p5 4096) := hwg.elim (fun z => z.2) (fun z => absurd z.1 c201)
              refine lv_aload_n hx hb dX2_take_204 rfl (lv_at hl 0 rfl) ?_
              refine va_get (D := (dC, dI)) (ci := 2) (v := .ref (a 7)) (C := RX2) (T := TX2) (N := 13) hx hb hts (by decide +kernel) hown hK hP 0 rfl rfl 7 (by decide) (hts (.fieldLink RX2 29 "FragmentHouseModel" "there" "[Z") (by decide +kernel)) (fun _ h9 => h9) rfl dX2_take_205 ?_
              refine lv_iload hx hb dX2_take_208 (lv_at hl 5 rfl) ?_
              refine lv_iconst (v := 0) hx hb dX2_take_210 (by first | decide | rfl) ?_
              refine fh_zast (k := k) hx hb hK hP hD hS 7 2 rfl rfl rfl hk (by first | decide | omega) dX2_take_211 (fun H locs hP hD hS => ?_)
              have hP : va_P (dC, dI) vwCl (wM cI cB cZ a T se id pr en be (upd th k 0) bs wh (nI 0) len md nw) H := hP
              have hD : va_D A (wM cI cB cZ a T se id pr en be (upd th k 0) bs wh (nI 0) len md nw) := hD
              refine lv_bipush (v := (-3)) hx hb dX2_take_212 (by first | decide | rfl) ?_
              exact W.iret hx hb hr (fh_qi (0, (se, id, pr, en, be, upd th k 0, bs), wh, len, md) (Or.inr ⟨o, ho, hp4, Or.inr ⟨hsd, Or.inr ⟨k, hk, se, id, pr, en, be, th, bs, hM, Or.inl ⟨hwr, rfl, rfl⟩⟩⟩⟩) hP hK hD hS) hS.2.2 dX2_take_214
        · skip
          refine lv_iload hx hb dX2_take_147 (lv_at hl 4 rfl) ?_
          refine lv_istore (lv' := [(11, .int (nI (o * 8 + q))), (0, .ref (a 0)), (5, .int p5), (6, .int (nI q)), (7, .int (nI (o * 8))), (8, .int (nI (o * 8 + q))), (9, .int (nI k)), (10, .int wg)]) hx hb dX2_take_149 hl (by decide) rfl (fun ls hl => ?_)
          refine fh_loop (σ := Nat × Int32) (fun q9 H locs ls => (o * 8 + q ≤ q9.1 ∧ q9.1 ≤ 4096) ∧ ((q9.2 = 1 ∧ (C1m en k (o * 8 + q) p5 ∨ C2m bs k (o * 8 + q) p5 q9.1)) ∨ (q9.2 = 0 ∧ ¬ (C1m en k (o * 8 + q) p5 ∨ C2m bs k (o * 8 + q) p5 q9.1))) ∧ va_P (dC, dI) vwCl (wM cI cB cZ a T se id pr en be th bs wh (nI 0) len md nw) H ∧ va_D A (wM cI cB cZ a T se id pr en be th bs wh (nI 0) len md nw) ∧ va_S A s.heap H locs ∧ lv_has ls 12 [(0, .ref (a 0)), (5, .int p5), (6, .int (nI q)), (7, .int (nI (o * 8))), (8, .int (nI (o * 8 + q))), (9, .int (nI k)), (10, .int q9.2), (11, .int (nI q9.1))]) (fun q9 => 4096 - q9.1) ?_ (o * 8 + q, wg) ⟨⟨Nat.le_refl _, hsd.1⟩, hwg.elim (fun z => Or.inl ⟨z.1, Or.inl z.2⟩) (fun z => Or.inr ⟨z.1, fun y => y.elim z.2 C2_0⟩), hP, hD, hS, lv_sub hl [1, 2, 3, 4, 5, 6, 7, 0] rfl⟩
          intro q9 H locs ls hI ih
          obtain ⟨i, wg⟩ := q9
          obtain ⟨hi, hwg, hP, hD, hS, hl⟩ : (o * 8 + q ≤ i ∧ i ≤ 4096) ∧ ((wg = 1 ∧ (C1m en k (o * 8 + q) p5 ∨ C2m bs k (o * 8 + q) p5 i)) ∨ (wg = 0 ∧ ¬ (C1m en k (o * 8 + q) p5 ∨ C2m bs k (o * 8 + q) p5 i))) ∧ va_P (dC, dI) vwCl (wM cI cB cZ a T se id pr en be th bs wh (nI 0) len md nw) H ∧ va_D A (wM cI cB cZ a T se id pr en be th bs wh (nI 0) len md nw) ∧ va_S A s.heap H locs ∧ lv_has ls 12 [(0, .ref (a 0)), (5, .int p5), (6, .int (nI q)), (7, .int (nI (o * 8))), (8, .int (nI (o * 8 + q))), (9, .int (nI k)), (10, .int wg), (11, .int (nI i))] := hI
          refine lv_iload hx hb dX2_take_151 (lv_at hl 7 rfl) ?_
          refine lv_sipush (v := nI 4096) hx hb dX2_take_153 (by first | decide | rfl) ?_
          refine lv_icmp_ge (tgt := 199) hx hb dX2_take_156 (by decide) (fun c156 => ?_) (fun c156 => ?_)
          · skip
            exact J199 (wg) _ _ _ ⟨(by obtain rfl : i = 4096 := Nat.le_antisymm hi.2 ((nI_leI (by decide) (by omega)).mp c156); exact hwg), hP, hD, hS, lv_sub hl [0, 1, 2, 3, 4, 5, 6] rfl⟩
          · skip
            have hlt : i < 4096 := Nat.lt_of_not_le (fun h => c156 (nI_le h (by omega)))
            have hsd1 := hsd.1
            refine lv_iload hx hb dX2_take_159 (lv_at hl 1 rfl) ?_
            refine lv_if_eq (tgt := 199) hx hb dX2_take_161 (by decide) (fun c161 => ?_) (fun c161 => ?_)
            · skip
              exact J199 (wg) _ _ _ ⟨hwg.elim (fun z => Or.inl ⟨z.1, z.2.elim Or.inl (fun y => absurd y (C2_z c161))⟩) (fun z => Or.inr ⟨z.1, fun y => y.elim (fun x => z.2 (Or.inl x)) (C2_z c161)⟩), hP, hD, hS, lv_sub hl [0, 1, 2, 3, 4, 5, 6] rfl⟩
            · skip
              refine lv_iload hx hb dX2_take_164 (lv_at hl 6 rfl) ?_
              refine lv_if_ne (tgt := 186) hx hb dX2_take_166 (by decide) (fun c166 => ?_) (fun c166 => ?_)
              · skip
                refine lv_iconst (v := 1) hx hb dX2_take_186 (by first | decide | rfl) ?_
                refine lv_goto (tgt := 191) hx hb dX2_take_187 (by decide) ?_
                refine lv_istore (lv' := [(10, .int 1), (0, .ref (a 0)), (5, .int p5), (6, .int (nI q)), (7, .int (nI (o * 8))), (8, .int (nI (o * 8 + q))), (9, .int (nI k)), (11, .int (nI i))]) hx hb dX2_take_191 hl (by decide) rfl (fun ls hl => ?_)
                refine lv_iinc (v := (nI (i + 1))) (lv' := [(11, .int (nI (i + 1))), (10, .int 1), (0, .ref (a 0)), (5, .int p5), (6, .int (nI q)), (7, .int (nI (o * 8))), (8, .int (nI (o * 8 + q))), (9, .int (nI k))]) hx hb dX2_take_193 hl (k := 7) rfl (nI_1 i) (by decide) rfl (fun ls hl => ?_)
                refine lv_goto (tgt := 151) hx hb dX2_take_196 (by decide) ?_
                exact ih (i + 1, 1) _ _ _ ⟨⟨by omega, hlt⟩, hwg.elim (fun z => Or.inl ⟨rfl, z.2.elim Or.inl (fun y => Or.inr (C2_s1 y))⟩) (fun z => absurd z.1 c166), hP, hD, hS, lv_sub hl [2, 3, 4, 5, 6, 7, 1, 0] rfl⟩ (by show 4096 - (i + 1) < 4096 - i; omega)
              · skip
                refine lv_aload_n hx hb dX2_take_169 rfl (lv_at hl 0 rfl) ?_
                refine va_get (D := (dC, dI)) (ci := 2) (v := .ref (a 8)) (C := RX2) (T := TX2) (N := 13) hx hb hts (by decide +kernel) hown hK hP 0 rfl rfl 8 (by decide) (hts (.fieldLink RX2 33 "FragmentHouseModel" "bytes" "[I") (by decide +kernel)) (fun _ h9 => h9) rfl dX2_take_170 ?_
                refine lv_iload hx hb dX2_take_173 (lv_at hl 5 rfl) ?_
                refine lv_sipush (v := nI 4096) hx hb dX2_take_175 (by first | decide | rfl) ?_
                refine lv_imul hx hb dX2_take_178 ?_
                refine fh_top (y := nI (k * 4096)) (pk_mul k 4096) ?_
                refine lv_iload hx hb dX2_take_179 (lv_at hl 7 rfl) ?_
                refine lv_iadd hx hb dX2_take_181 ?_
                refine fh_top (y := nI (k * 4096 + i)) (nI_add (k * 4096) i) ?_
                refine fh_iald (k := (k * 4096 + i)) hx hb hK hP 8 0 rfl rfl (by omega) (by first | decide | omega) dX2_take_182 ?_
                refine lv_if_le (tgt := 190) hx hb dX2_take_183 (by decide) (fun c183 => ?_) (fun c183 => ?_)
                · skip
                  refine lv_iconst (v := 0) hx hb dX2_take_190 (by first | decide | rfl) ?_
                  refine lv_istore (lv' := [(10, .int 0), (0, .ref (a 0)), (5, .int p5), (6, .int (nI q)), (7, .int (nI (o * 8))), (8, .int (nI (o * 8 + q))), (9, .int (nI k)), (11, .int (nI i))]) hx hb dX2_take_191 hl (by decide) rfl (fun ls hl => ?_)
                  refine lv_iinc (v := (nI (i + 1))) (lv' := [(11, .int (nI (i + 1))), (10, .int 0), (0, .ref (a 0)), (5, .int p5), (6, .int (nI q)), (7, .int (nI (o * 8))), (8, .int (nI (o * 8 + q))), (9, .int (nI k))]) hx hb dX2_take_193 hl (k := 7) rfl (nI_1 i) (by decide) rfl (fun ls hl => ?_)
                  refine lv_goto (tgt := 151) hx hb dX2_take_196 (by decide) ?_
                  exact ih (i + 1, 0) _ _ _ ⟨⟨by omega, hlt⟩, hwg.elim (fun z => absurd (z.1.symm.trans c166) (by decide)) (fun z => Or.inr ⟨rfl, fun y => y.elim (fun x => z.2 (Or.inl x)) (C2_s3 (fun x => z.2 (Or.inr x)) c183)⟩), hP, hD, hS, lv_sub hl [2, 3, 4, 5, 6, 7, 1, 0] rfl⟩ (by show 4096 - (i + 1) < 4096 - i; omega)
                · skip
                  refine lv_iconst (v := 1) hx hb dX2_take_186 (by first | decide | rfl) ?_
                  refine lv_goto (tgt := 191) hx hb dX2_take_187 (by decide) ?_
                  refine lv_istore (lv' := [(10, .int 1), (0, .ref (a 0)), (5, .int p5), (6, .int (nI q)), (7, .int (nI (o * 8))), (8, .int (nI (o * 8 + q))), (9, .int (nI k)), (11, .int (nI i))]) hx hb dX2_take_191 hl (by decide) rfl (fun ls hl => ?_)
                  refine lv_iinc (v := (nI (i + 1))) (lv' := [(11, .int (nI (i + 1))), (10, .int 1), (0, .ref (a 0)), (5, .int p5), (6, .int (nI q)), (7, .int (nI (o * 8))), (8, .int (nI (o * 8 + q))), (9, .int (nI k))]) hx hb dX2_take_193 hl (k := 7) rfl (nI_1 i) (by decide) rfl (fun ls hl => ?_)
                  refine lv_goto (tgt := 151) hx hb dX2_take_196 (by decide) ?_
                  exact ih (i + 1, 1) _ _ _ ⟨⟨by omega, hlt⟩, Or.inl ⟨rfl, Or.inr (C2_s2 c161 hi.1 (Int32.not_le.mp c183))⟩, hP, hD, hS, lv_sub hl [2, 3, 4, 5, 6, 7, 1, 0] rfl⟩ (by show 4096 - (i + 1) < 4096 - i; omega)
      · skip
        refine lv_aload_n hx hb dX2_take_101 rfl (lv_at hl 0 rfl) ?_
        refine va_get (D := (dC, dI)) (ci := 2) (v := .ref (a 5)) (C := RX2) (T := TX2) (N := 13) hx hb hts (by decide +kernel) hown hK hP 0 rfl rfl 5 (by decide) (hts (.fieldLink RX2 23 "FragmentHouseModel" "ends" "[I") (by decide +kernel)) (fun _ h9 => h9) rfl dX2_take_102 ?_
        refine lv_iload hx hb dX2_take_105 (lv_at hl 5 rfl) ?_
        refine fh_iald (k := k) hx hb hK hP 5 0 rfl rfl hk (by first | decide | omega) dX2_take_107 ?_
        refine lv_if_lt (tgt := 144) hx hb dX2_take_108 (by decide) (fun c108 => ?_) (fun c108 => ?_)
        · skip
          refine lv_iconst (v := 0) hx hb dX2_take_144 (by first | decide | rfl) ?_
          refine lv_istore (lv' := [(10, .int 0), (0, .ref (a 0)), (5, .int p5), (6, .int (nI q)), (7, .int (nI (o * 8))), (8, .int (nI (o * 8 + q))), (9, .int (nI k))]) hx hb dX2_take_145 hl (by decide) rfl (fun ls hl => ?_)
          exact J147 (0) _ _ _ ⟨Or.inr ⟨rfl, fun z => absurd z.1 (Int32.not_le.mpr c108)⟩, hP, hD, hS, lv_sub hl [1, 2, 3, 4, 5, 6, 0] rfl⟩
        · skip
          refine lv_iload hx hb dX2_take_111 (lv_at hl 4 rfl) ?_
          refine lv_aload_n hx hb dX2_take_113 rfl (lv_at hl 0 rfl) ?_
          refine va_get (D := (dC, dI)) (ci := 2) (v := .ref (a 5)) (C := RX2) (T := TX2) (N := 13) hx hb hts (by decide +kernel) hown hK hP 0 rfl rfl 5 (by decide) (hts (.fieldLink RX2 23 "FragmentHouseModel" "ends" "[I") (by decide +kernel)) (fun _ h9 => h9) rfl dX2_take_114 ?_
          refine lv_iload hx hb dX2_take_117 (lv_at hl 5 rfl) ?_
          refine fh_iald (k := k) hx hb hK hP 5 0 rfl rfl hk (by first | decide | omega) dX2_take_119 ?_
          refine lv_icmp_gt (tgt := 140) hx hb dX2_take_120 (by decide) (fun c120 => ?_) (fun c120 => ?_)
          · skip
            refine lv_iconst (v := 1) hx hb dX2_take_140 (by first | decide | rfl) ?_
            refine lv_goto (tgt := 145) hx hb dX2_take_141 (by decide) ?_
            refine lv_istore (lv' := [(10, .int 1), (0, .ref (a 0)), (5, .int p5), (6, .int (nI q)), (7, .int (nI (o * 8))), (8, .int (nI (o * 8 + q))), (9, .int (nI k))]) hx hb dX2_take_145 hl (by decide) rfl (fun ls hl => ?_)
            exact J147 (1) _ _ _ ⟨Or.inl ⟨rfl, Int32.not_lt.mp c108, Or.inl c120⟩, hP, hD, hS, lv_sub hl [1, 2, 3, 4, 5, 6, 0] rfl⟩
          · skip
            refine lv_iload hx hb dX2_take_123 (lv_at hl 1 rfl) ?_
            refine lv_if_eq (tgt := 144) hx hb dX2_take_125 (by decide) (fun c125 => ?_) (fun c125 => ?_)
            · skip
              refine lv_iconst (v := 0) hx hb dX2_take_144 (by first | decide | rfl) ?_
              refine lv_istore (lv' := [(10, .int 0), (0, .ref (a 0)), (5, .int p5), (6, .int (nI q)), (7, .int (nI (o * 8))), (8, .int (nI (o * 8 + q))), (9, .int (nI k))]) hx hb dX2_take_145 hl (by decide) rfl (fun ls hl => ?_)
              exact J147 (0) _ _ _ ⟨Or.inr ⟨rfl, fun z => z.2.elim c120 (fun y => y.1 c125)⟩, hP, hD, hS, lv_sub hl [1, 2, 3, 4, 5, 6, 0] rfl⟩
            · skip
              refine lv_iload hx hb dX2_take_128 (lv_at hl 4 rfl) ?_
              refine lv_aload_n hx hb dX2_take_130 rfl (lv_at hl 0 rfl) ?_
              refine va_get (D := (dC, dI)) (ci := 2) (v := .ref (a 5)) (C := RX2) (T := TX2) (N := 13) hx hb hts (by decide +kernel) hown hK hP 0 rfl rfl 5 (by decide) (hts (.fieldLink RX2 23 "FragmentHouseModel" "ends" "[I") (by decide +kernel)) (fun _ h9 => h9) rfl dX2_take_131 ?_
              refine lv_iload hx hb dX2_take_134 (lv_at hl 5 rfl) ?_
              refine fh_iald (k := k) hx hb hK hP 5 0 rfl rfl hk (by first | decide | omega) dX2_take_136 ?_
              refine lv_icmp_eq (tgt := 144) hx hb dX2_take_137 (by decide) (fun c137 => ?_) (fun c137 => ?_)
              · skip
                refine lv_iconst (v := 0) hx hb dX2_take_144 (by first | decide | rfl) ?_
                refine lv_istore (lv' := [(10, .int 0), (0, .ref (a 0)), (5, .int p5), (6, .int (nI q)), (7, .int (nI (o * 8))), (8, .int (nI (o * 8 + q))), (9, .int (nI k))]) hx hb dX2_take_145 hl (by decide) rfl (fun ls hl => ?_)
                exact J147 (0) _ _ _ ⟨Or.inr ⟨rfl, fun z => z.2.elim c120 (fun y => y.2 c137)⟩, hP, hD, hS, lv_sub hl [1, 2, 3, 4, 5, 6, 0] rfl⟩
              · skip
                refine lv_iconst (v := 1) hx hb dX2_take_140 (by first | decide | rfl) ?_
                refine lv_goto (tgt := 145) hx hb dX2_take_141 (by decide) ?_
                refine lv_istore (lv' := [(10, .int 1), (0, .ref (a 0)), (5, .int p5), (6, .int (nI q)), (7, .int (nI (o * 8))), (8, .int (nI (o * 8 + q))), (9, .int (nI k))]) hx hb dX2_take_145 hl (by decide) rfl (fun ls hl => ?_)
                exact J147 (1) _ _ _ ⟨Or.inl ⟨rfl, Int32.not_lt.mp c108, Or.inr ⟨c125, c137⟩⟩, hP, hD, hS, lv_sub hl [1, 2, 3, 4, 5, 6, 0] rfl⟩
    · skip
      refine lv_aload_n hx hb dX2_take_70 rfl (lv_at hl 0 rfl) ?_
      refine lv_iload_n hx hb dX2_take_71 rfl (lv_at hl 1 rfl) ?_
      refine lv_iload_n hx hb dX2_take_72 rfl (lv_at hl 2 rfl) ?_
      refine lv_iload_n hx hb dX2_take_73 rfl (lv_at hl 3 rfl) ?_
      have hPc := hP.sub (ws' := wM cI cB cZ a T se0 id0 pr0 en0 be0 th0 bs0 wh (nI 0) len md nw) [0, 1, 2, 3, 4, 5, 6, 7, 8, 9] rfl
      have hDc := hD.sub (ws' := wM cI cB cZ a T se0 id0 pr0 en0 be0 th0 bs0 wh (nI 0) len md nw) [0, 1, 2, 3, 4, 5, 6, 7, 8, 9] (by decide) rfl
      refine fh_ci (wr := []) (w2 := fun _ => wM cI cB cZ a T se0 id0 pr0 en0 be0 th0 bs0 wh (nI 0) len md nw) (va_runV (As := [.int p1, .int p2, .int p3]) (rest := []) ⟨hx, hb, hml, hown, hts⟩ (m_find l dC dI cI cB cZ a T se0 id0 pr0 en0 be0 th0 bs0 wh (nI 0) len md nw p1 p2 p3 H.size) (cwV 3 hts gX2_take_X2_find rfl rfl rfl (by decide +kernel) ⟨Nat.le_of_ble_eq_true rfl, Nat.le_of_ble_eq_true rfl⟩) (pV_PW hK hPc hDc (ci := 2) (q0 := 0) rfl rfl) rfl rfl hl.1 rfl (lv_room (Nat.le_of_ble_eq_true rfl)) dX2_take_74 ⟨Nat.zero_le _, Nat.zero_le _⟩) hP hD hS hA [0, 1, 2, 3, 4, 5, 6, 7, 8, 9] [] [0, 1, 2, 3, 4, 5, 6, 7, 8, 9] rfl rfl (by decide) (by decide) (by decide) (fun _ => rfl) (fun r9 _u H locs hw hK hP hD hS => ?_)
      have hwF := hw
      refine lv_istore (lv' := [(9, .int r9), (0, .ref (a 0)), (1, .int p1), (2, .int p2), (3, .int p3), (5, .int p5), (6, .int (nI q)), (7, .int (nI (o * 8))), (8, .int (nI (o * 8 + q)))]) hx hb dX2_take_77 hl (by decide) rfl (fun ls hl => ?_)
      refine lv_iload hx hb dX2_take_79 (lv_at hl 0 rfl) ?_
      refine lv_if_ge (tgt := 93) hx hb dX2_take_81 (by decide) (fun c81 => ?_) (fun c81 => ?_)
      · skip
        obtain ⟨k, hk, rfl, ht, hm⟩ := hwF.resolve_right (fun z => absurd (z.1 ▸ c81) (by decide))
        refine lv_iload hx hb dX2_take_93 (lv_at hl 0 rfl) ?_
        refine lv_if_ge (tgt := 101) hx hb dX2_take_95 (by decide) (fun c95 => ?_) (fun c95 => ?_)
        · skip
          skip
          exact J101 (k, se0, id0, pr0, en0, be0, th0, bs0) _ _ _ ⟨hk, Or.inl ⟨ht, hm, rfl⟩, hen0 k hk, hP, hD, hS, lv_sub hl [1, 5, 6, 7, 8, 0] rfl⟩
        · skip
          exact absurd (nI_pos' (by omega)) c95
      · skip
        obtain ⟨-, hno⟩ := hwF.resolve_left (fun ⟨k, h1, h2, _⟩ => c81 (h2 ▸ nI_pos' (by omega)))
        refine lv_aload_n hx hb dX2_take_84 rfl (lv_at hl 1 rfl) ?_
        refine lv_iload_n hx hb dX2_take_85 rfl (lv_at hl 2 rfl) ?_
        refine lv_iload_n hx hb dX2_take_86 rfl (lv_at hl 3 rfl) ?_
        refine lv_iload_n hx hb dX2_take_87 rfl (lv_at hl 4 rfl) ?_
        have hPc := hP.sub (ws' := wM cI cB cZ a T se0 id0 pr0 en0 be0 th0 bs0 wh (nI 0) len md nw) [0, 1, 2, 3, 4, 5, 6, 7, 8, 9] rfl
        have hDc := hD.sub (ws' := wM cI cB cZ a T se0 id0 pr0 en0 be0 th0 bs0 wh (nI 0) len md nw) [0, 1, 2, 3, 4, 5, 6, 7, 8, 9] (by decide) rfl
        refine fh_ci (wr := []) (w2 := fun u => wM cI cB cZ a T u.1 u.2.1 u.2.2.1 u.2.2.2.1 u.2.2.2.2.1 u.2.2.2.2.2.1 u.2.2.2.2.2.2 wh (nI 0) len md nw) (va_runV (As := [.int p1, .int p2, .int p3]) (rest := []) ⟨hx, hb, hml, hown, hts⟩ (m_begin l dC dI cI cB cZ a T se0 id0 pr0 en0 be0 th0 bs0 wh (nI 0) len md nw p1 p2 p3 H.size) (cwV 3 hts gX2_take_X2_begin rfl rfl rfl (by decide +kernel) ⟨Nat.le_of_ble_eq_true rfl, Nat.le_of_ble_eq_true rfl⟩) (pV_PW hK hPc hDc (ci := 2) (q0 := 0) rfl rfl) rfl rfl hl.1 rfl (lv_room (Nat.le_of_ble_eq_true rfl)) dX2_take_88 ⟨Nat.zero_le _, Nat.zero_le _⟩) hP hD hS hA [0, 1, 2, 3, 4, 5, 6, 7, 8, 9] [] [0, 1, 2, 3, 4, 5, 6, 7, 8, 9] rfl rfl (by decide) (by decide) (by decide) (fun _ => rfl) (fun r9 v H locs hw hK hP hD hS => ?_)
        have hwB := hw
        have hP : va_P (dC, dI) vwCl (wM cI cB cZ a T v.1 v.2.1 v.2.2.1 v.2.2.2.1 v.2.2.2.2.1 v.2.2.2.2.2.1 v.2.2.2.2.2.2 wh (nI 0) len md nw) H := hP
        have hD : va_D A (wM cI cB cZ a T v.1 v.2.1 v.2.2.1 v.2.2.2.1 v.2.2.2.2.1 v.2.2.2.2.2.1 v.2.2.2.2.2.2 wh (nI 0) len md nw) := hD
        refine lv_istore (lv' := [(9, .int r9), (0, .ref (a 0)), (1, .int p1), (2, .int p2), (3, .int p3), (5, .int p5), (6, .int (nI q)), (7, .int (nI (o * 8))), (8, .int (nI (o * 8 + q)))]) hx hb dX2_take_91 hl (by decide) rfl (fun ls hl => ?_)
        refine lv_iload hx hb dX2_take_93 (lv_at hl 0 rfl) ?_
        refine lv_if_ge (tgt := 101) hx hb dX2_take_95 (by decide) (fun c95 => ?_) (fun c95 => ?_)
        · skip
          obtain ⟨k, hk, rfl, ht0, hv⟩ := hwB.resolve_right (fun z => absurd (z.1 ▸ c95) (by decide))
          exact J101 (k, v.1, v.2.1, v.2.2.1, v.2.2.2.1, v.2.2.2.2.1, v.2.2.2.2.2.1, v.2.2.2.2.2.2) _ _ _ ⟨hk, Or.inr ⟨hno, ht0, hv⟩, by rw [hv]; show upd en0 k (-1) k ≤ nI 4096; rw [pk_us]; decide, hP, hD, hS, lv_sub hl [1, 5, 6, 7, 8, 0] rfl⟩
        · skip
          obtain ⟨-, hall, hv⟩ := hwB.resolve_left (fun ⟨k, h1, h2, _⟩ => c95 (h2 ▸ nI_pos' (by omega)))
          refine lv_bipush (v := (-2)) hx hb dX2_take_98 (by first | decide | rfl) ?_
          exact W.iret hx hb hr (fh_qi (0, v, wh, len, md) (Or.inr ⟨o, ho, hp4, Or.inr ⟨hsd, Or.inl ⟨hno, hall, rfl, by rw [hv]⟩⟩⟩) hP hK hD hS) hS.2.2 dX2_take_100
  · skip
    refine lv_iload hx hb dX2_take_0 (lv_at hl 4 rfl) ?_
    refine lv_if_lt (tgt := 13) hx hb dX2_take_2 (by decide) (fun c2 => ?_) (fun c2 => ?_)
    · skip
      refine lv_bipush (v := (-4)) hx hb dX2_take_13 (by first | decide | rfl) ?_
      exact W.iret hx hb hr (fh_qi (q, (se0, id0, pr0, en0, be0, th0, bs0), wh, len, md) (Or.inl ⟨rfl, Or.inl c2, rfl⟩) hP hK hD hS) hS.2.2 dX2_take_15
    · skip
      refine lv_iload hx hb dX2_take_5 (lv_at hl 4 rfl) ?_
      refine lv_sipush (v := nI 8191) hx hb dX2_take_7 (by first | decide | rfl) ?_
      refine lv_icmp_le (tgt := 16) hx hb dX2_take_10 (by decide) (fun c10 => ?_) (fun c10 => ?_)
      · skip
        obtain ⟨o, ho0, rfl⟩ := nI_of c2
        have ho : o ≤ 8191 := (nI_leI ho0 (by decide)).mp c10
        refine lv_aload_n hx hb dX2_take_16 rfl (lv_at hl 0 rfl) ?_
        refine va_get (D := (dC, dI)) (ci := 2) (v := .int (nI q)) (C := RX2) (T := TX2) (N := 13) hx hb hts (by decide +kernel) hown hK hP 0 rfl rfl 1 (by decide) (hts (.fieldLink RX2 43 "FragmentHouseModel" "trayed" "I") (by decide +kernel)) (fun _ h9 => h9) rfl dX2_take_17 ?_
        refine lv_istore (lv' := [(6, .int (nI q)), (0, .ref (a 0)), (1, .int p1), (2, .int p2), (3, .int p3), (4, .int (nI o)), (5, .int p5)]) hx hb dX2_take_20 hl (by decide) rfl (fun ls hl => ?_)
        refine lv_aload_n hx hb dX2_take_22 rfl (lv_at hl 1 rfl) ?_
        refine lv_iconst (v := nI 0) hx hb dX2_take_23 (by first | decide | rfl) ?_
        refine va_put (D := (dC, dI)) (ci := 2) (v := .int (nI 0)) (ty := .int) (C := RX2) (T := TX2) (N := 13) hx hb hts (by decide +kernel) tyX2 tyX2_ok nmX2 hown hK hP hD hS 0 rfl rfl 1 (by decide) (hts (.fieldLink RX2 43 "FragmentHouseModel" "trayed" "I") (by decide +kernel)) (fun _ h9 => h9) rfl (by decide +kernel) rfl rfl (Nat.le_of_ble_eq_true rfl) dX2_take_24 (fun H locs hP hD hS => ?_)
        have hP : va_P (dC, dI) vwCl (wM cI cB cZ a T se0 id0 pr0 en0 be0 th0 bs0 wh ((nI 0)) len md nw) H := hP
        have hD : va_D A (wM cI cB cZ a T se0 id0 pr0 en0 be0 th0 bs0 wh ((nI 0)) len md nw) := hD
        refine lv_bipush (v := nI 8) hx hb dX2_take_27 (by first | decide | rfl) ?_
        refine lv_iload hx hb dX2_take_29 (lv_at hl 5 rfl) ?_
        refine lv_imul hx hb dX2_take_31 ?_
        refine fh_top (y := nI (o * 8)) (by rw [pk_mul, Nat.mul_comm]) ?_
        refine lv_istore (lv' := [(7, .int (nI (o * 8))), (6, .int (nI q)), (0, .ref (a 0)), (1, .int p1), (2, .int p2), (3, .int p3), (4, .int (nI o)), (5, .int p5)]) hx hb dX2_take_32 hl (by decide) rfl (fun ls hl => ?_)
        refine lv_iload hx hb dX2_take_34 (lv_at hl 0 rfl) ?_
        refine lv_iload hx hb dX2_take_36 (lv_at hl 1 rfl) ?_
        refine lv_iadd hx hb dX2_take_38 ?_
        refine fh_top (y := nI (o * 8 + q)) (nI_add (o * 8) q) ?_
        refine lv_istore (lv' := [(8, .int (nI (o * 8 + q))), (7, .int (nI (o * 8))), (6, .int (nI q)), (0, .ref (a 0)), (1, .int p1), (2, .int p2), (3, .int p3), (4, .int (nI o)), (5, .int p5)]) hx hb dX2_take_39 hl (by decide) rfl (fun ls hl => ?_)
        refine lv_iload hx hb dX2_take_41 (lv_at hl 0 rfl) ?_
        refine lv_sipush (v := nI 4096) hx hb dX2_take_43 (by first | decide | rfl) ?_
        refine lv_icmp_gt (tgt := 67) hx hb dX2_take_46 (by decide) (fun c46 => ?_) (fun c46 => ?_)
        · skip
          refine lv_bipush (v := (-2)) hx hb dX2_take_67 (by first | decide | rfl) ?_
          exact W.iret hx hb hr (fh_qi (0, (se0, id0, pr0, en0, be0, th0, bs0), wh, len, md) (Or.inr ⟨o, ho, rfl, Or.inl ⟨fun z => absurd (nI_le z.1 (by decide)) (Int32.not_le.mpr c46), rfl, rfl⟩⟩) hP hK hD hS) hS.2.2 dX2_take_69
        · skip
          have h46 : o * 8 + q ≤ 4096 := (nI_leI (by omega) (by decide)).mp (Int32.not_lt.mp c46)
          refine lv_iload hx hb dX2_take_49 (lv_at hl 8 rfl) ?_
          refine lv_if_ne (tgt := 70) hx hb dX2_take_51 (by decide) (fun c51 => ?_) (fun c51 => ?_)
          · skip
            exact J70 (o) _ _ _ ⟨ho, rfl, ⟨h46, Or.inl c51⟩, hP, hD, hS, lv_sub hl [3, 4, 5, 6, 8, 2, 1, 0] rfl⟩
          · skip
            refine lv_iload hx hb dX2_take_54 (lv_at hl 2 rfl) ?_
            refine lv_if_eq (tgt := 67) hx hb dX2_take_56 (by decide) (fun c56 => ?_) (fun c56 => ?_)
            · skip
              refine lv_bipush (v := (-2)) hx hb dX2_take_67 (by first | decide | rfl) ?_
              exact W.iret hx hb hr (fh_qi (0, (se0, id0, pr0, en0, be0, th0, bs0), wh, len, md) (Or.inr ⟨o, ho, rfl, Or.inl ⟨fun z => z.2.elim (fun y => y c51) (fun y => nI_ne0 y.1 (by omega) c56), rfl, rfl⟩⟩) hP hK hD hS) hS.2.2 dX2_take_69
            · skip
              have hb0 : 0 < q := Nat.pos_of_ne_zero (fun z => c56 (by rw [z]; rfl))
              refine lv_iload hx hb dX2_take_59 (lv_at hl 2 rfl) ?_
              refine lv_bipush (v := nI 8) hx hb dX2_take_61 (by first | decide | rfl) ?_
              refine lv_irem hx hb dX2_take_63 (by decide) ?_
              refine fh_top (y := nI (q % 8)) (pk_rem (by omega) (by decide) (by decide)) ?_
              refine lv_if_eq (tgt := 70) hx hb dX2_take_64 (by decide) (fun c64 => ?_) (fun c64 => ?_)
              · skip
                have hb8 : q % 8 = 0 := by rcases Nat.eq_zero_or_pos (q % 8) with z | z; exact z; exact absurd c64 (nI_ne0 z (by omega))
                exact J70 (o) _ _ _ ⟨ho, rfl, ⟨h46, Or.inr ⟨hb0, hb8⟩⟩, hP, hD, hS, lv_sub hl [3, 4, 5, 6, 8, 2, 1, 0] rfl⟩
              · skip
                refine lv_bipush (v := (-2)) hx hb dX2_take_67 (by first | decide | rfl) ?_
                exact W.iret hx hb hr (fh_qi (0, (se0, id0, pr0, en0, be0, th0, bs0), wh, len, md) (Or.inr ⟨o, ho, rfl, Or.inl ⟨fun z => z.2.elim (fun y => y c51) (fun y => c64 (by rw [y.2]; rfl)), rfl, rfl⟩⟩) hP hK hD hS) hS.2.2 dX2_take_69
      · skip
        refine lv_bipush (v := (-4)) hx hb dX2_take_13 (by first | decide | rfl) ?_
        exact W.iret hx hb hr (fh_qi (q, (se0, id0, pr0, en0, be0, th0, bs0), wh, len, md) (Or.inl ⟨rfl, Or.inr c10, rfl⟩) hP hK hD hS) hS.2.2 dX2_take_15
end
section
/-! the constructors -/
theorem va_sameI {D : va_G} {cl : List vw_C} {tys : List (ClassId × FieldType)} {U : State} {i j : Nat} {c1 c2 : ClassId} (h : va_K D cl tys U) (hi : tys[i]? = some (c1, .int)) (hj : tys[j]? = some (c2, .int)) : c1 = c2 := by
  have h1 : U.vm.findClass ("[" ++ FieldType.int.toString) = some c1 := (h.2 i _ hi).2
  have h2 : U.vm.findClass ("[" ++ FieldType.int.toString) = some c2 := (h.2 j _ hj).2
  exact Option.some.inj (h1.symm.trans h2)
theorem vq_congr {cA : ClassId} {n : Nat} {f g : Nat → Option Nat} (h : ∀ j, j < n → f j = g j) : vp_cell cA (n, .inr (.inr (.inr (.inr f)))) = vp_cell cA (n, .inr (.inr (.inr (.inr g)))) := by
  rw [vp_cell_q, vp_cell_q]
  unfold arrV
  congr 2
  funext j
  show va_rf (f j.val) = va_rf (g j.val)
  rw [h j.val j.isLt]
def d4 {α : Type} (x0 x1 x2 x3 : α) : Nat → α := fun j => if j = 0 then x0 else if j = 1 then x1 else if j = 2 then x2 else x3
def af (a0 a1 a2 a3 a4 a5 a6 a7 a8 a9 : Nat) : Nat → Nat := fun j => if j = 0 then a0 else if j = 1 then a1 else if j = 2 then a2 else if j = 3 then a3 else if j = 4 then a4 else if j = 5 then a5 else if j = 6 then a6 else if j = 7 then a7 else if j = 8 then a8 else a9
set_option maxHeartbeats 800000 in
set_option maxRecDepth 100000 in
/-- Datagram() -/
theorem c_dinit (l : Launch) (dC : Nat → ClassId) (dI : Nat → Nat → Nat) (cI : ClassId) (h : Nat) (sz : Nat)  : Met l yX0_init wsX0_init ({ frames := 1, cells := 1, slots := 4096, locals := 12 }) (va_Pc [.ref h] (PW (dC, dI) vwCl [(cI, .int)] ([(h, .inr (0, [.null, .int 0, .int 0, .int 0, .int 0, .int 0, .int 0, .int 0, .int 0]))]) sz)) (va_Qv (S := Nat × (Nat → Int32)) (fun u => u.2 1 = 0 ∧ u.2 6 = -1) (QW (dC, dI) vwCl (fun _ => [(cI, .int)]) (va_A ([(h, .inr (0, [.null, .int 0, .int 0, .int 0, .int 0, .int 0, .int 0, .int 0, .int 0]))]) sz) (fun u => wD cI h u.1 u.2 (fun _ => 0))) (va_A ([(h, .inr (0, [.null, .int 0, .int 0, .int 0, .int 0, .int 0, .int 0, .int 0, .int 0]))]) sz)) 1 4096 (va_A ([(h, .inr (0, [.null, .int 0, .int 0, .int 0, .int 0, .int 0, .int 0, .int 0, .int 0]))]) sz) := by
  refine Met.ofW (cc := cX0_init) (maxL := 1) (ret := none) (by decide) rfl ?_
  intro p e s m args below meth c s₁ B hml hv
  obtain ⟨rfl, hsz, hP, hK, hD0⟩ := hv
  have hx := B.exec
  have hb := B.bytes
  have hr := B.returns
  have hts := atoms_spec (ws := wsX0_init) B.pre
  have hown : s.vm.findClass RX0 = some m.cls := findClass_of_methodNamed B.named
  have hlocks := B.notSynchronized
  have hin : meth.name = "<init>" := (name_of_methodNamed B.named B.method).1
  subst hsz
  have hD := hD0.self (sz := s.heap.size)
  generalize hAe : va_A ([(h, .inr (0, [.null, .int 0, .int 0, .int 0, .int 0, .int 0, .int 0, .int 0, .int 0]))]) s.heap.size = A at hD ⊢
  have hA : ∀ q : Nat, s.heap.size ≤ q → A q := fun q h => by rw [← hAe]; exact Or.inr h
  have hS : va_S A s.heap s.heap [] := va_S.rf
  have hl := lv_entry ([.ref h]) (n := 1) (Nat.le_of_ble_eq_true rfl)
  rw [lg_entry_eq]
  generalize (lg_sl ([.ref h]) ++ List.replicate (1 - (lg_sl ([.ref h])).length) Slot.unset).toArray = ls at hl ⊢
  have hl : lv_has ls 1 [(0, .ref h)] := hl
  refine fh_start (fun H hH => ?_)
  have hP : va_P (dC, dI) vwCl ([(h, .inr (0, [.null, .int 0, .int 0, .int 0, .int 0, .int 0, .int 0, .int 0, .int 0]))]) H := by rw [hH]; exact hP
  have hS : va_S A s.heap H [] := by rw [hH]; exact va_S.rf
  refine lv_aload_n hx hb dX0_init_0 rfl (lv_at hl 0 rfl) ?_
  refine W.objInit hx hb hown (hts (.methodLink RX0 3 objectInit) (by decide +kernel)) (hts (.instanceMethod objectInit) (by decide +kernel)) (hts _ (List.mem_of_getElem? (i := 3) rfl)) rfl (by rw [hml]; exact hl.1) rfl dX0_init_1 (Nat.le_of_ble_eq_true rfl) (Nat.le_of_ble_eq_true rfl) ?_
  refine W.eq (g2 := F0 m 4 ls []) rfl ?_
  refine lv_aload_n hx hb dX0_init_4 rfl (lv_at hl 0 rfl) ?_
  refine lv_sipush (v := 4096) hx hb dX0_init_5 (by first | decide | rfl) ?_
  refine va_newa (atype := .int) (N' := 4096) (a0 := (4096, .inl (fun _ => 0))) (ty := .int) (n := 4096) hx hb (hts (.arrayClass .int) (by decide +kernel)) rfl hK hP hD hS hA (fun _ => rfl) (by decide) (by decide) (by decide) (Nat.le_of_ble_eq_true rfl) (Nat.le_of_ble_eq_true rfl) dX0_init_8 (fun c0 cx H hK hP hD hS => ?_)
  have e9 := va_sameI (i := 0) (j := 1) hK rfl rfl
  subst e9
  have hK : va_K (dC, dI) vwCl [(cI, .int)] s := hK.sub [0] rfl
  have hP : va_P (dC, dI) vwCl ([(h, .inr (0, [.null, .int 0, .int 0, .int 0, .int 0, .int 0, .int 0, .int 0, .int 0])), (c0, .inl (cI, 4096, .inl (fun _ => 0)))]) H := hP
  have hD : va_D A ([(h, .inr (0, [.null, .int 0, .int 0, .int 0, .int 0, .int 0, .int 0, .int 0, .int 0])), (c0, .inl (cI, 4096, .inl (fun _ => 0)))]) := hD
  refine va_putF (D := (dC, dI)) (ci := 0) (v := .ref c0) (ty := .array .int) (C := RX0) (T := TX0) (N := 9) hx hb hts (by decide +kernel) tyX0 tyX0_ok nmX0 hown hK hP hD hS 0 rfl rfl 0 (by decide) (hts (.fieldLink RX0 9 "FragmentHouse$Datagram" "cells" "[I") (by decide +kernel)) (fun _ h9 => h9) rfl hin rfl (by decide +kernel) rfl rfl (Nat.le_of_ble_eq_true rfl) dX0_init_10 (fun H locs hP hD hS => ?_)
  have hP : va_P (dC, dI) vwCl ([(h, .inr (0, [.ref c0, .int 0, .int 0, .int 0, .int 0, .int 0, .int 0, .int 0, .int 0])), (c0, .inl (cI, 4096, .inl (fun _ => 0)))]) H := hP
  have hD : va_D A ([(h, .inr (0, [.ref c0, .int 0, .int 0, .int 0, .int 0, .int 0, .int 0, .int 0, .int 0])), (c0, .inl (cI, 4096, .inl (fun _ => 0)))]) := hD
  refine lv_aload_n hx hb dX0_init_13 rfl (lv_at hl 0 rfl) ?_
  refine lv_iconst (v := 0) hx hb dX0_init_14 (by first | decide | rfl) ?_
  refine va_put (D := (dC, dI)) (ci := 0) (v := .int 0) (ty := .boolean) (C := RX0) (T := TX0) (N := 9) hx hb hts (by decide +kernel) tyX0 tyX0_ok nmX0 hown hK hP hD hS 0 rfl rfl 1 (by decide) (hts (.fieldLink RX0 15 "FragmentHouse$Datagram" "inMaking" "Z") (by decide +kernel)) (fun _ h9 => h9) rfl (by decide +kernel) rfl rfl (Nat.le_of_ble_eq_true rfl) dX0_init_15 (fun H locs hP hD hS => ?_)
  have hP : va_P (dC, dI) vwCl ([(h, .inr (0, [.ref c0, .int 0, .int 0, .int 0, .int 0, .int 0, .int 0, .int 0, .int 0])), (c0, .inl (cI, 4096, .inl (fun _ => 0)))]) H := hP
  have hD : va_D A ([(h, .inr (0, [.ref c0, .int 0, .int 0, .int 0, .int 0, .int 0, .int 0, .int 0, .int 0])), (c0, .inl (cI, 4096, .inl (fun _ => 0)))]) := hD
  refine lv_aload_n hx hb dX0_init_18 rfl (lv_at hl 0 rfl) ?_
  refine lv_iconst (v := (-1)) hx hb dX0_init_19 (by first | decide | rfl) ?_
  refine va_put (D := (dC, dI)) (ci := 0) (v := .int ((-1))) (ty := .int) (C := RX0) (T := TX0) (N := 9) hx hb hts (by decide +kernel) tyX0 tyX0_ok nmX0 hown hK hP hD hS 0 rfl rfl 6 (by decide) (hts (.fieldLink RX0 19 "FragmentHouse$Datagram" "knownEnd" "I") (by decide +kernel)) (fun _ h9 => h9) rfl (by decide +kernel) rfl rfl (Nat.le_of_ble_eq_true rfl) dX0_init_20 (fun H locs hP hD hS => ?_)
  have hP : va_P (dC, dI) vwCl ([(h, .inr (0, [.ref c0, .int 0, .int 0, .int 0, .int 0, .int 0, .int ((-1)), .int 0, .int 0])), (c0, .inl (cI, 4096, .inl (fun _ => 0)))]) H := hP
  have hD : va_D A ([(h, .inr (0, [.ref c0, .int 0, .int 0, .int 0, .int 0, .int 0, .int ((-1)), .int 0, .int 0])), (c0, .inl (cI, 4096, .inl (fun _ => 0)))]) := hD
  refine W.widen (k := 1) (n := 4096) (by omega) (by omega) ?_
  exact W.vret hx hb hr (fh_qv (c0, upd (fun _ => 0) 6 (-1)) ⟨rfl, rfl⟩ hP hK hD hS) hS.2.2 dX0_init_23
set_option maxHeartbeats 800000 in
set_option maxRecDepth 100000 in
/-- FragmentHouse() -/
theorem c_hinit (l : Launch) (dC : Nat → ClassId) (dI : Nat → Nat → Nat) (h : Nat) (sz : Nat)  : Met l yX1_init wsX1_init ({ frames := 2, cells := 12, slots := 22009, locals := 32 }) (va_Pc [.ref h] (fun U => PW (dC, dI) vwCl [] ([(h, .inr (1, [.null, .null, .null, .int 0, .int 0, .int 0]))]) sz U ∧ va_AO RX0 U)) (va_Qv (S := (ClassId × ClassId) × (Nat × Nat × Nat × Nat) × (Nat → Nat) × (Nat → Nat) × (Nat → Dg) × Dg) (fun u => (∀ i, i < 4 → (u.2.2.2.2.1 i).1 1 = 0) ∧ u.2.2.2.2.2.1 1 = 0 ∧ u.2.2.2.2.2.1 6 = -1) (QW (dC, dI) vwCl (fun u => [(u.1.1, .int), (u.1.2, tDg)]) (va_A ([(h, .inr (1, [.null, .null, .null, .int 0, .int 0, .int 0]))]) sz) (fun u => wH u.1.1 u.1.2 h u.2.1.1 u.2.1.2.1 u.2.1.2.2.1 u.2.1.2.2.2 u.2.2.1 u.2.2.2.1 (fun _ => 0) (nI 0) 0 0 u.2.2.2.2.1 u.2.2.2.2.2)) (va_A ([(h, .inr (1, [.null, .null, .null, .int 0, .int 0, .int 0]))]) sz)) 12 22009 (va_A ([(h, .inr (1, [.null, .null, .null, .int 0, .int 0, .int 0]))]) sz) := by
  refine Met.ofW (cc := cX1_init) (maxL := 2) (ret := none) (by decide) rfl ?_
  intro p e s m args below meth c s₁ B hml hv
  obtain ⟨rfl, ⟨hsz, hP, hK, hD0⟩, hAO⟩ := hv
  have hx := B.exec
  have hb := B.bytes
  have hr := B.returns
  have hts := atoms_spec (ws := wsX1_init) B.pre
  have hown : s.vm.findClass RX1 = some m.cls := findClass_of_methodNamed B.named
  have hlocks := B.notSynchronized
  have hin : meth.name = "<init>" := (name_of_methodNamed B.named B.method).1
  subst hsz
  have hD := hD0.self (sz := s.heap.size)
  generalize hAe : va_A ([(h, .inr (1, [.null, .null, .null, .int 0, .int 0, .int 0]))]) s.heap.size = A at hD ⊢
  have hA : ∀ q : Nat, s.heap.size ≤ q → A q := fun q h => by rw [← hAe]; exact Or.inr h
  have hS : va_S A s.heap s.heap [] := va_S.rf
  have hl := lv_entry ([.ref h]) (n := 2) (Nat.le_of_ble_eq_true rfl)
  rw [lg_entry_eq]
  generalize (lg_sl ([.ref h]) ++ List.replicate (2 - (lg_sl ([.ref h])).length) Slot.unset).toArray = ls at hl ⊢
  have hl : lv_has ls 2 [(0, .ref h)] := hl
  refine fh_start (fun H hH => ?_)
  have hP : va_P (dC, dI) vwCl ([(h, .inr (1, [.null, .null, .null, .int 0, .int 0, .int 0]))]) H := by rw [hH]; exact hP
  have hS : va_S A s.heap H [] := by rw [hH]; exact va_S.rf
  refine lv_aload_n hx hb dX1_init_0 rfl (lv_at hl 0 rfl) ?_
  refine W.objInit hx hb hown (hts (.methodLink RX1 1 objectInit) (by decide +kernel)) (hts (.instanceMethod objectInit) (by decide +kernel)) (hts _ (List.mem_of_getElem? (i := 3) rfl)) rfl (by rw [hml]; exact hl.1) rfl dX1_init_1 (Nat.le_of_ble_eq_true rfl) (Nat.le_of_ble_eq_true rfl) ?_
  refine W.eq (g2 := F0 m 4 ls []) rfl ?_
  refine lv_aload_n hx hb dX1_init_4 rfl (lv_at hl 0 rfl) ?_
  refine lv_sipush (v := 1480) hx hb dX1_init_5 (by first | decide | rfl) ?_
  refine va_newa (atype := .int) (N' := 1480) (a0 := (1480, .inl (fun _ => 0))) (ty := .int) (n := 1480) hx hb (hts (.arrayClass .int) (by decide +kernel)) rfl hK hP hD hS hA (fun _ => rfl) (by decide) (by decide) (by decide) (Nat.le_of_ble_eq_true rfl) (Nat.le_of_ble_eq_true rfl) dX1_init_8 (fun tr cI H hK hP hD hS => ?_)
  have hK : va_K (dC, dI) vwCl [(cI, .int)] s := hK
  have hP : va_P (dC, dI) vwCl ([(h, .inr (1, [.null, .null, .null, .int 0, .int 0, .int 0])), (tr, .inl (cI, 1480, .inl (fun _ => 0)))]) H := hP
  have hD : va_D A ([(h, .inr (1, [.null, .null, .null, .int 0, .int 0, .int 0])), (tr, .inl (cI, 1480, .inl (fun _ => 0)))]) := hD
  refine va_putF (D := (dC, dI)) (ci := 1) (v := .ref tr) (ty := .array .int) (C := RX1) (T := TX1) (N := 6) hx hb hts (by decide +kernel) tyX1 tyX1_ok nmX1 hown hK hP hD hS 0 rfl rfl 0 (by decide) (hts (.fieldLink RX1 9 "FragmentHouse" "tray" "[I") (by decide +kernel)) (fun _ h9 => h9) rfl hin rfl (by decide +kernel) rfl rfl (Nat.le_of_ble_eq_true rfl) dX1_init_10 (fun H locs hP hD hS => ?_)
  have hP : va_P (dC, dI) vwCl ([(h, .inr (1, [.ref tr, .null, .null, .int 0, .int 0, .int 0])), (tr, .inl (cI, 1480, .inl (fun _ => 0)))]) H := hP
  have hD : va_D A ([(h, .inr (1, [.ref tr, .null, .null, .int 0, .int 0, .int 0])), (tr, .inl (cI, 1480, .inl (fun _ => 0)))]) := hD
  refine lv_aload_n hx hb dX1_init_13 rfl (lv_at hl 0 rfl) ?_
  refine lv_iconst (v := 4) hx hb dX1_init_14 (by first | decide | rfl) ?_
  refine va_newq (C := RX0) (N' := 4) (n := 4) hx hb hown (hts (.classLink RX1 13 RX0) (by decide +kernel)) hAO hK hP hD hS hA (by decide) (by decide) (by decide) (Nat.le_of_ble_eq_true rfl) (Nat.le_of_ble_eq_true rfl) dX1_init_15 (fun sl cS H hK hP hD hS => ?_)
  have hK : va_K (dC, dI) vwCl [(cI, .int), (cS, tDg)] s := hK
  have hP : va_P (dC, dI) vwCl ([(h, .inr (1, [.ref tr, .null, .null, .int 0, .int 0, .int 0])), (tr, .inl (cI, 1480, .inl (fun _ => 0))), (sl, .inl (cS, 4, .inr (.inr (.inr (.inr (fun _ => none))))))]) H := hP
  have hD : va_D A ([(h, .inr (1, [.ref tr, .null, .null, .int 0, .int 0, .int 0])), (tr, .inl (cI, 1480, .inl (fun _ => 0))), (sl, .inl (cS, 4, .inr (.inr (.inr (.inr (fun _ => none))))))]) := hD
  refine va_putF (D := (dC, dI)) (ci := 1) (v := .ref sl) (ty := .array (.object "FragmentHouse$Datagram")) (C := RX1) (T := TX1) (N := 6) hx hb hts (by decide +kernel) tyX1 tyX1_ok nmX1 hown hK hP hD hS 0 rfl rfl 1 (by decide) (hts (.fieldLink RX1 15 "FragmentHouse" "slots" "[LFragmentHouse$Datagram;") (by decide +kernel)) (fun _ h9 => h9) rfl hin rfl (by decide +kernel) rfl rfl (Nat.le_of_ble_eq_true rfl) dX1_init_18 (fun H locs hP hD hS => ?_)
  have hP : va_P (dC, dI) vwCl ([(h, .inr (1, [.ref tr, .ref sl, .null, .int 0, .int 0, .int 0])), (tr, .inl (cI, 1480, .inl (fun _ => 0))), (sl, .inl (cS, 4, .inr (.inr (.inr (.inr (fun _ => none))))))]) H := hP
  have hD : va_D A ([(h, .inr (1, [.ref tr, .ref sl, .null, .int 0, .int 0, .int 0])), (tr, .inl (cI, 1480, .inl (fun _ => 0))), (sl, .inl (cS, 4, .inr (.inr (.inr (.inr (fun _ => none))))))]) := hD
  refine lv_iconst (v := nI 0) hx hb dX1_init_21 (by first | decide | rfl) ?_
  refine lv_istore_n (lv' := [(1, .int (nI 0)), (0, .ref h)]) hx hb dX1_init_22 rfl hl (by decide) rfl (fun ls hl => ?_)
  refine lv_iload_n hx hb dX1_init_23 rfl (lv_at hl 0 rfl) ?_
  refine lv_iconst (v := nI 4) hx hb dX1_init_24 (by first | decide | rfl) ?_
  refine lv_icmp_ge (tgt := 47) hx hb dX1_init_25 (by decide) (fun c25 => ?_) (fun c25 => ?_)
  · skip
    exact absurd c25 (by decide)
  · skip
    refine lv_aload_n hx hb dX1_init_28 rfl (lv_at hl 1 rfl) ?_
    refine va_get (D := (dC, dI)) (ci := 1) (v := .ref sl) (C := RX1) (T := TX1) (N := 6) hx hb hts (by decide +kernel) hown hK hP 0 rfl rfl 1 (by decide) (hts (.fieldLink RX1 15 "FragmentHouse" "slots" "[LFragmentHouse$Datagram;") (by decide +kernel)) (fun _ h9 => h9) rfl dX1_init_29 ?_
    refine lv_iload_n hx hb dX1_init_32 rfl (lv_at hl 0 rfl) ?_
    refine va_new (ci := 0) (fs := [.null, .int 0, .int 0, .int 0, .int 0, .int 0, .int 0, .int 0, .int 0]) (C := RX0) (T := TX0) (N := 9) hx hb hts (by decide +kernel) tyX0 tyX0_ok hown (hts (.classLink RX1 13 RX0) (by decide +kernel)) (hts (.instantiable RX0 9) (by decide +kernel)) (hts (.initialized RX0) (by decide +kernel)) hK hP hD hS hA rfl (fun j hj => by rcases (show j = 0 ∨ j = 1 ∨ j = 2 ∨ j = 3 ∨ j = 4 ∨ j = 5 ∨ j = 6 ∨ j = 7 ∨ j = 8 by omega) with rfl | rfl | rfl | rfl | rfl | rfl | rfl | rfl | rfl <;> rfl) (Nat.le_of_ble_eq_true rfl) (Nat.le_of_ble_eq_true rfl) dX1_init_33 (fun dg0 H hP hD hS => ?_)
    have hP : va_P (dC, dI) vwCl ([(h, .inr (1, [.ref tr, .ref sl, .null, .int 0, .int 0, .int 0])), (tr, .inl (cI, 1480, .inl (fun _ => 0))), (sl, .inl (cS, 4, .inr (.inr (.inr (.inr (fun _ => none)))))), (dg0, .inr (0, [.null, .int 0, .int 0, .int 0, .int 0, .int 0, .int 0, .int 0, .int 0]))]) H := hP
    have hD : va_D A ([(h, .inr (1, [.ref tr, .ref sl, .null, .int 0, .int 0, .int 0])), (tr, .inl (cI, 1480, .inl (fun _ => 0))), (sl, .inl (cS, 4, .inr (.inr (.inr (.inr (fun _ => none)))))), (dg0, .inr (0, [.null, .int 0, .int 0, .int 0, .int 0, .int 0, .int 0, .int 0, .int 0]))]) := hD
    refine lv_dup hx hb dX1_init_36 rfl ?_
    have hPc := hP.sub (ws' := [(dg0, .inr (0, [.null, .int 0, .int 0, .int 0, .int 0, .int 0, .int 0, .int 0, .int 0]))]) [3] rfl
    have hDc := hD.sub (ws' := [(dg0, .inr (0, [.null, .int 0, .int 0, .int 0, .int 0, .int 0, .int 0, .int 0, .int 0]))]) [3] (by decide) rfl
    have hK0 := hK
    have hK1 : va_K (dC, dI) vwCl [(cI, .int)] s := hK.sub [0] rfl
    refine fh_cv (wr := [(h, .inr (1, [.ref tr, .ref sl, .null, .int 0, .int 0, .int 0])), (tr, .inl (cI, 1480, .inl (fun _ => 0))), (sl, .inl (cS, 4, .inr (.inr (.inr (.inr (fun _ => none))))))]) (w2 := fun u => [(h, .inr (1, [.ref tr, .ref sl, .null, .int 0, .int 0, .int 0])), (tr, .inl (cI, 1480, .inl (fun _ => 0))), (sl, .inl (cS, 4, .inr (.inr (.inr (.inr (fun _ => none))))))] ++ wD cI dg0 u.1 u.2 (fun _ => 0)) (va_runI (As := []) (rest := [.ref dg0, .int (nI 0), .ref sl]) ⟨hx, hb, hml, hown, hts⟩ (c_dinit l dC dI cI dg0 H.size) (cwI 0 hts gX1_init_X0_init rfl rfl rfl (hts (.initialized RX0) (by decide +kernel)) (hts (.methodLink RX1 19 yX0_init) (by decide +kernel)) (hts (.instanceMethod yX0_init) (by decide +kernel)) rfl (by decide +kernel) ⟨Nat.le_of_ble_eq_true rfl, Nat.le_of_ble_eq_true rfl⟩) (pS_PW hK1 hPc hDc) rfl rfl hl.1 rfl (lv_room (Nat.le_of_ble_eq_true rfl)) dX1_init_37 ⟨Nat.le_of_ble_eq_true rfl, Nat.le_of_ble_eq_true rfl⟩) hP hD hS hA [3] [0, 1, 2] [0, 1, 2, 3, 4] rfl rfl (by decide) (by decide) (by decide) (fun _ => rfl) (fun u H locs hw hK hP hD hS => ?_)
    obtain ⟨ce0, fi0⟩ := u
    have hw0 : fi0 1 = 0 ∧ fi0 6 = -1 := hw
    have hK := hK0
    have hP : va_P (dC, dI) vwCl ([(h, .inr (1, [.ref tr, .ref sl, .null, .int 0, .int 0, .int 0])), (tr, .inl (cI, 1480, .inl (fun _ => 0))), (sl, .inl (cS, 4, .inr (.inr (.inr (.inr (fun _ => none)))))), (dg0, .inr (0, [.ref ce0, .int (fi0 1), .int (fi0 2), .int (fi0 3), .int (fi0 4), .int (fi0 5), .int (fi0 6), .int (fi0 7), .int (fi0 8)])), (ce0, .inl (cI, 4096, .inl (fun _ => 0)))]) H := hP
    have hD : va_D A ([(h, .inr (1, [.ref tr, .ref sl, .null, .int 0, .int 0, .int 0])), (tr, .inl (cI, 1480, .inl (fun _ => 0))), (sl, .inl (cS, 4, .inr (.inr (.inr (.inr (fun _ => none)))))), (dg0, .inr (0, [.ref ce0, .int (fi0 1), .int (fi0 2), .int (fi0 3), .int (fi0 4), .int (fi0 5), .int (fi0 6), .int (fi0 7), .int (fi0 8)])), (ce0, .inl (cI, 4096, .inl (fun _ => 0)))]) := hD
    refine fh_aast (k := 0) (r := (RX0, TX0, 9)) hx hb hK hP hD hS 2 1 3 0 rfl rfl rfl rfl (by decide) (by decide) dX1_init_40 (fun H locs hP hD hS => ?_)
    have hP : va_P (dC, dI) vwCl ([(h, .inr (1, [.ref tr, .ref sl, .null, .int 0, .int 0, .int 0])), (tr, .inl (cI, 1480, .inl (fun _ => 0))), (sl, .inl (cS, 4, .inr (.inr (.inr (.inr (va_up (fun _ => none) 0 (some dg0))))))), (dg0, .inr (0, [.ref ce0, .int (fi0 1), .int (fi0 2), .int (fi0 3), .int (fi0 4), .int (fi0 5), .int (fi0 6), .int (fi0 7), .int (fi0 8)])), (ce0, .inl (cI, 4096, .inl (fun _ => 0)))]) H := hP
    have hD : va_D A ([(h, .inr (1, [.ref tr, .ref sl, .null, .int 0, .int 0, .int 0])), (tr, .inl (cI, 1480, .inl (fun _ => 0))), (sl, .inl (cS, 4, .inr (.inr (.inr (.inr (va_up (fun _ => none) 0 (some dg0))))))), (dg0, .inr (0, [.ref ce0, .int (fi0 1), .int (fi0 2), .int (fi0 3), .int (fi0 4), .int (fi0 5), .int (fi0 6), .int (fi0 7), .int (fi0 8)])), (ce0, .inl (cI, 4096, .inl (fun _ => 0)))]) := hD
    refine lv_iinc (v := (nI 1)) (lv' := [(1, .int (nI 1)), (0, .ref h)]) hx hb dX1_init_41 hl (k := 0) rfl (nI_1 0) (by decide) rfl (fun ls hl => ?_)
    refine lv_goto (tgt := 23) hx hb dX1_init_44 (by decide) ?_
    refine lv_iload_n hx hb dX1_init_23 rfl (lv_at hl 0 rfl) ?_
    refine lv_iconst (v := nI 4) hx hb dX1_init_24 (by first | decide | rfl) ?_
    refine lv_icmp_ge (tgt := 47) hx hb dX1_init_25 (by decide) (fun c25 => ?_) (fun c25 => ?_)
    · skip
      exact absurd c25 (by decide)
    · skip
      refine lv_aload_n hx hb dX1_init_28 rfl (lv_at hl 1 rfl) ?_
      refine va_get (D := (dC, dI)) (ci := 1) (v := .ref sl) (C := RX1) (T := TX1) (N := 6) hx hb hts (by decide +kernel) hown hK hP 0 rfl rfl 1 (by decide) (hts (.fieldLink RX1 15 "FragmentHouse" "slots" "[LFragmentHouse$Datagram;") (by decide +kernel)) (fun _ h9 => h9) rfl dX1_init_29 ?_
      refine lv_iload_n hx hb dX1_init_32 rfl (lv_at hl 0 rfl) ?_
      refine va_new (ci := 0) (fs := [.null, .int 0, .int 0, .int 0, .int 0, .int 0, .int 0, .int 0, .int 0]) (C := RX0) (T := TX0) (N := 9) hx hb hts (by decide +kernel) tyX0 tyX0_ok hown (hts (.classLink RX1 13 RX0) (by decide +kernel)) (hts (.instantiable RX0 9) (by decide +kernel)) (hts (.initialized RX0) (by decide +kernel)) hK hP hD hS hA rfl (fun j hj => by rcases (show j = 0 ∨ j = 1 ∨ j = 2 ∨ j = 3 ∨ j = 4 ∨ j = 5 ∨ j = 6 ∨ j = 7 ∨ j = 8 by omega) with rfl | rfl | rfl | rfl | rfl | rfl | rfl | rfl | rfl <;> rfl) (Nat.le_of_ble_eq_true rfl) (Nat.le_of_ble_eq_true rfl) dX1_init_33 (fun dg1 H hP hD hS => ?_)
      have hP : va_P (dC, dI) vwCl ([(h, .inr (1, [.ref tr, .ref sl, .null, .int 0, .int 0, .int 0])), (tr, .inl (cI, 1480, .inl (fun _ => 0))), (sl, .inl (cS, 4, .inr (.inr (.inr (.inr (va_up (fun _ => none) 0 (some dg0))))))), (dg0, .inr (0, [.ref ce0, .int (fi0 1), .int (fi0 2), .int (fi0 3), .int (fi0 4), .int (fi0 5), .int (fi0 6), .int (fi0 7), .int (fi0 8)])), (ce0, .inl (cI, 4096, .inl (fun _ => 0))), (dg1, .inr (0, [.null, .int 0, .int 0, .int 0, .int 0, .int 0, .int 0, .int 0, .int 0]))]) H := hP
      have hD : va_D A ([(h, .inr (1, [.ref tr, .ref sl, .null, .int 0, .int 0, .int 0])), (tr, .inl (cI, 1480, .inl (fun _ => 0))), (sl, .inl (cS, 4, .inr (.inr (.inr (.inr (va_up (fun _ => none) 0 (some dg0))))))), (dg0, .inr (0, [.ref ce0, .int (fi0 1), .int (fi0 2), .int (fi0 3), .int (fi0 4), .int (fi0 5), .int (fi0 6), .int (fi0 7), .int (fi0 8)])), (ce0, .inl (cI, 4096, .inl (fun _ => 0))), (dg1, .inr (0, [.null, .int 0, .int 0, .int 0, .int 0, .int 0, .int 0, .int 0, .int 0]))]) := hD
      refine lv_dup hx hb dX1_init_36 rfl ?_
      have hPc := hP.sub (ws' := [(dg1, .inr (0, [.null, .int 0, .int 0, .int 0, .int 0, .int 0, .int 0, .int 0, .int 0]))]) [5] rfl
      have hDc := hD.sub (ws' := [(dg1, .inr (0, [.null, .int 0, .int 0, .int 0, .int 0, .int 0, .int 0, .int 0, .int 0]))]) [5] (by decide) rfl
      have hK0 := hK
      have hK1 : va_K (dC, dI) vwCl [(cI, .int)] s := hK.sub [0] rfl
      refine fh_cv (wr := [(h, .inr (1, [.ref tr, .ref sl, .null, .int 0, .int 0, .int 0])), (tr, .inl (cI, 1480, .inl (fun _ => 0))), (sl, .inl (cS, 4, .inr (.inr (.inr (.inr (va_up (fun _ => none) 0 (some dg0))))))), (dg0, .inr (0, [.ref ce0, .int (fi0 1), .int (fi0 2), .int (fi0 3), .int (fi0 4), .int (fi0 5), .int (fi0 6), .int (fi0 7), .int (fi0 8)])), (ce0, .inl (cI, 4096, .inl (fun _ => 0)))]) (w2 := fun u => [(h, .inr (1, [.ref tr, .ref sl, .null, .int 0, .int 0, .int 0])), (tr, .inl (cI, 1480, .inl (fun _ => 0))), (sl, .inl (cS, 4, .inr (.inr (.inr (.inr (va_up (fun _ => none) 0 (some dg0))))))), (dg0, .inr (0, [.ref ce0, .int (fi0 1), .int (fi0 2), .int (fi0 3), .int (fi0 4), .int (fi0 5), .int (fi0 6), .int (fi0 7), .int (fi0 8)])), (ce0, .inl (cI, 4096, .inl (fun _ => 0)))] ++ wD cI dg1 u.1 u.2 (fun _ => 0)) (va_runI (As := []) (rest := [.ref dg1, .int (nI 1), .ref sl]) ⟨hx, hb, hml, hown, hts⟩ (c_dinit l dC dI cI dg1 H.size) (cwI 0 hts gX1_init_X0_init rfl rfl rfl (hts (.initialized RX0) (by decide +kernel)) (hts (.methodLink RX1 19 yX0_init) (by decide +kernel)) (hts (.instanceMethod yX0_init) (by decide +kernel)) rfl (by decide +kernel) ⟨Nat.le_of_ble_eq_true rfl, Nat.le_of_ble_eq_true rfl⟩) (pS_PW hK1 hPc hDc) rfl rfl hl.1 rfl (lv_room (Nat.le_of_ble_eq_true rfl)) dX1_init_37 ⟨Nat.le_of_ble_eq_true rfl, Nat.le_of_ble_eq_true rfl⟩) hP hD hS hA [5] [0, 1, 2, 3, 4] [0, 1, 2, 3, 4, 5, 6] rfl rfl (by decide) (by decide) (by decide) (fun _ => rfl) (fun u H locs hw hK hP hD hS => ?_)
      obtain ⟨ce1, fi1⟩ := u
      have hw1 : fi1 1 = 0 ∧ fi1 6 = -1 := hw
      have hK := hK0
      have hP : va_P (dC, dI) vwCl ([(h, .inr (1, [.ref tr, .ref sl, .null, .int 0, .int 0, .int 0])), (tr, .inl (cI, 1480, .inl (fun _ => 0))), (sl, .inl (cS, 4, .inr (.inr (.inr (.inr (va_up (fun _ => none) 0 (some dg0))))))), (dg0, .inr (0, [.ref ce0, .int (fi0 1), .int (fi0 2), .int (fi0 3), .int (fi0 4), .int (fi0 5), .int (fi0 6), .int (fi0 7), .int (fi0 8)])), (ce0, .inl (cI, 4096, .inl (fun _ => 0))), (dg1, .inr (0, [.ref ce1, .int (fi1 1), .int (fi1 2), .int (fi1 3), .int (fi1 4), .int (fi1 5), .int (fi1 6), .int (fi1 7), .int (fi1 8)])), (ce1, .inl (cI, 4096, .inl (fun _ => 0)))]) H := hP
      have hD : va_D A ([(h, .inr (1, [.ref tr, .ref sl, .null, .int 0, .int 0, .int 0])), (tr, .inl (cI, 1480, .inl (fun _ => 0))), (sl, .inl (cS, 4, .inr (.inr (.inr (.inr (va_up (fun _ => none) 0 (some dg0))))))), (dg0, .inr (0, [.ref ce0, .int (fi0 1), .int (fi0 2), .int (fi0 3), .int (fi0 4), .int (fi0 5), .int (fi0 6), .int (fi0 7), .int (fi0 8)])), (ce0, .inl (cI, 4096, .inl (fun _ => 0))), (dg1, .inr (0, [.ref ce1, .int (fi1 1), .int (fi1 2), .int (fi1 3), .int (fi1 4), .int (fi1 5), .int (fi1 6), .int (fi1 7), .int (fi1 8)])), (ce1, .inl (cI, 4096, .inl (fun _ => 0)))]) := hD
      refine fh_aast (k := 1) (r := (RX0, TX0, 9)) hx hb hK hP hD hS 2 1 5 0 rfl rfl rfl rfl (by decide) (by decide) dX1_init_40 (fun H locs hP hD hS => ?_)
      have hP : va_P (dC, dI) vwCl ([(h, .inr (1, [.ref tr, .ref sl, .null, .int 0, .int 0, .int 0])), (tr, .inl (cI, 1480, .inl (fun _ => 0))), (sl, .inl (cS, 4, .inr (.inr (.inr (.inr (va_up (va_up (fun _ => none) 0 (some dg0)) 1 (some dg1))))))), (dg0, .inr (0, [.ref ce0, .int (fi0 1), .int (fi0 2), .int (fi0 3), .int (fi0 4), .int (fi0 5), .int (fi0 6), .int (fi0 7), .int (fi0 8)])), (ce0, .inl (cI, 4096, .inl (fun _ => 0))), (dg1, .inr (0, [.ref ce1, .int (fi1 1), .int (fi1 2), .int (fi1 3), .int (fi1 4), .int (fi1 5), .int (fi1 6), .int (fi1 7), .int (fi1 8)])), (ce1, .inl (cI, 4096, .inl (fun _ => 0)))]) H := hP
      have hD : va_D A ([(h, .inr (1, [.ref tr, .ref sl, .null, .int 0, .int 0, .int 0])), (tr, .inl (cI, 1480, .inl (fun _ => 0))), (sl, .inl (cS, 4, .inr (.inr (.inr (.inr (va_up (va_up (fun _ => none) 0 (some dg0)) 1 (some dg1))))))), (dg0, .inr (0, [.ref ce0, .int (fi0 1), .int (fi0 2), .int (fi0 3), .int (fi0 4), .int (fi0 5), .int (fi0 6), .int (fi0 7), .int (fi0 8)])), (ce0, .inl (cI, 4096, .inl (fun _ => 0))), (dg1, .inr (0, [.ref ce1, .int (fi1 1), .int (fi1 2), .int (fi1 3), .int (fi1 4), .int (fi1 5), .int (fi1 6), .int (fi1 7), .int (fi1 8)])), (ce1, .inl (cI, 4096, .inl (fun _ => 0)))]) := hD
      refine lv_iinc (v := (nI 2)) (lv' := [(1, .int (nI 2)), (0, .ref h)]) hx hb dX1_init_41 hl (k := 0) rfl (nI_1 1) (by decide) rfl (fun ls hl => ?_)
      refine lv_goto (tgt := 23) hx hb dX1_init_44 (by decide) ?_
      refine lv_iload_n hx hb dX1_init_23 rfl (lv_at hl 0 rfl) ?_
      refine lv_iconst (v := nI 4) hx hb dX1_init_24 (by first | decide | rfl) ?_
      refine lv_icmp_ge (tgt := 47) hx hb dX1_init_25 (by decide) (fun c25 => ?_) (fun c25 => ?_)
      · skip
        exact absurd c25 (by decide)
      · skip
        refine lv_aload_n hx hb dX1_init_28 rfl (lv_at hl 1 rfl) ?_
        refine va_get (D := (dC, dI)) (ci := 1) (v := .ref sl) (C := RX1) (T := TX1) (N := 6) hx hb hts (by decide +kernel) hown hK hP 0 rfl rfl 1 (by decide) (hts (.fieldLink RX1 15 "FragmentHouse" "slots" "[LFragmentHouse$Datagram;") (by decide +kernel)) (fun _ h9 => h9) rfl dX1_init_29 ?_
        refine lv_iload_n hx hb dX1_init_32 rfl (lv_at hl 0 rfl) ?_
        refine va_new (ci := 0) (fs := [.null, .int 0, .int 0, .int 0, .int 0, .int 0, .int 0, .int 0, .int 0]) (C := RX0) (T := TX0) (N := 9) hx hb hts (by decide +kernel) tyX0 tyX0_ok hown (hts (.classLink RX1 13 RX0) (by decide +kernel)) (hts (.instantiable RX0 9) (by decide +kernel)) (hts (.initialized RX0) (by decide +kernel)) hK hP hD hS hA rfl (fun j hj => by rcases (show j = 0 ∨ j = 1 ∨ j = 2 ∨ j = 3 ∨ j = 4 ∨ j = 5 ∨ j = 6 ∨ j = 7 ∨ j = 8 by omega) with rfl | rfl | rfl | rfl | rfl | rfl | rfl | rfl | rfl <;> rfl) (Nat.le_of_ble_eq_true rfl) (Nat.le_of_ble_eq_true rfl) dX1_init_33 (fun dg2 H hP hD hS => ?_)
        have hP : va_P (dC, dI) vwCl ([(h, .inr (1, [.ref tr, .ref sl, .null, .int 0, .int 0, .int 0])), (tr, .inl (cI, 1480, .inl (fun _ => 0))), (sl, .inl (cS, 4, .inr (.inr (.inr (.inr (va_up (va_up (fun _ => none) 0 (some dg0)) 1 (some dg1))))))), (dg0, .inr (0, [.ref ce0, .int (fi0 1), .int (fi0 2), .int (fi0 3), .int (fi0 4), .int (fi0 5), .int (fi0 6), .int (fi0 7), .int (fi0 8)])), (ce0, .inl (cI, 4096, .inl (fun _ => 0))), (dg1, .inr (0, [.ref ce1, .int (fi1 1), .int (fi1 2), .int (fi1 3), .int (fi1 4), .int (fi1 5), .int (fi1 6), .int (fi1 7), .int (fi1 8)])), (ce1, .inl (cI, 4096, .inl (fun _ => 0))), (dg2, .inr (0, [.null, .int 0, .int 0, .int 0, .int 0, .int 0, .int 0, .int 0, .int 0]))]) H := hP
        have hD : va_D A ([(h, .inr (1, [.ref tr, .ref sl, .null, .int 0, .int 0, .int 0])), (tr, .inl (cI, 1480, .inl (fun _ => 0))), (sl, .inl (cS, 4, .inr (.inr (.inr (.inr (va_up (va_up (fun _ => none) 0 (some dg0)) 1 (some dg1))))))), (dg0, .inr (0, [.ref ce0, .int (fi0 1), .int (fi0 2), .int (fi0 3), .int (fi0 4), .int (fi0 5), .int (fi0 6), .int (fi0 7), .int (fi0 8)])), (ce0, .inl (cI, 4096, .inl (fun _ => 0))), (dg1, .inr (0, [.ref ce1, .int (fi1 1), .int (fi1 2), .int (fi1 3), .int (fi1 4), .int (fi1 5), .int (fi1 6), .int (fi1 7), .int (fi1 8)])), (ce1, .inl (cI, 4096, .inl (fun _ => 0))), (dg2, .inr (0, [.null, .int 0, .int 0, .int 0, .int 0, .int 0, .int 0, .int 0, .int 0]))]) := hD
        refine lv_dup hx hb dX1_init_36 rfl ?_
        have hPc := hP.sub (ws' := [(dg2, .inr (0, [.null, .int 0, .int 0, .int 0, .int 0, .int 0, .int 0, .int 0, .int 0]))]) [7] rfl
        have hDc := hD.sub (ws' := [(dg2, .inr (0, [.null, .int 0, .int 0, .int 0, .int 0, .int 0, .int 0, .int 0, .int 0]))]) [7] (by decide) rfl
        have hK0 := hK
        have hK1 : va_K (dC, dI) vwCl [(cI, .int)] s := hK.sub [0] rfl
        refine fh_cv (wr := [(h, .inr (1, [.ref tr, .ref sl, .null, .int 0, .int 0, .int 0])), (tr, .inl (cI, 1480, .inl (fun _ => 0))), (sl, .inl (cS, 4, .inr (.inr (.inr (.inr (va_up (va_up (fun _ => none) 0 (some dg0)) 1 (some dg1))))))), (dg0, .inr (0, [.ref ce0, .int (fi0 1), .int (fi0 2), .int (fi0 3), .int (fi0 4), .int (fi0 5), .int (fi0 6), .int (fi0 7), .int (fi0 8)])), (ce0, .inl (cI, 4096, .inl (fun _ => 0))), (dg1, .inr (0, [.ref ce1, .int (fi1 1), .int (fi1 2), .int (fi1 3), .int (fi1 4), .int (fi1 5), .int (fi1 6), .int (fi1 7), .int (fi1 8)])), (ce1, .inl (cI, 4096, .inl (fun _ => 0)))]) (w2 := fun u => [(h, .inr (1, [.ref tr, .ref sl, .null, .int 0, .int 0, .int 0])), (tr, .inl (cI, 1480, .inl (fun _ => 0))), (sl, .inl (cS, 4, .inr (.inr (.inr (.inr (va_up (va_up (fun _ => none) 0 (some dg0)) 1 (some dg1))))))), (dg0, .inr (0, [.ref ce0, .int (fi0 1), .int (fi0 2), .int (fi0 3), .int (fi0 4), .int (fi0 5), .int (fi0 6), .int (fi0 7), .int (fi0 8)])), (ce0, .inl (cI, 4096, .inl (fun _ => 0))), (dg1, .inr (0, [.ref ce1, .int (fi1 1), .int (fi1 2), .int (fi1 3), .int (fi1 4), .int (fi1 5), .int (fi1 6), .int (fi1 7), .int (fi1 8)])), (ce1, .inl (cI, 4096, .inl (fun _ => 0)))] ++ wD cI dg2 u.1 u.2 (fun _ => 0)) (va_runI (As := []) (rest := [.ref dg2, .int (nI 2), .ref sl]) ⟨hx, hb, hml, hown, hts⟩ (c_dinit l dC dI cI dg2 H.size) (cwI 0 hts gX1_init_X0_init rfl rfl rfl (hts (.initialized RX0) (by decide +kernel)) (hts (.methodLink RX1 19 yX0_init) (by decide +kernel)) (hts (.instanceMethod yX0_init) (by decide +kernel)) rfl (by decide +kernel) ⟨Nat.le_of_ble_eq_true rfl, Nat.le_of_ble_eq_true rfl⟩) (pS_PW hK1 hPc hDc) rfl rfl hl.1 rfl (lv_room (Nat.le_of_ble_eq_true rfl)) dX1_init_37 ⟨Nat.le_of_ble_eq_true rfl, Nat.le_of_ble_eq_true rfl⟩) hP hD hS hA [7] [0, 1, 2, 3, 4, 5, 6] [0, 1, 2, 3, 4, 5, 6, 7, 8] rfl rfl (by decide) (by decide) (by decide) (fun _ => rfl) (fun u H locs hw hK hP hD hS => ?_)
        obtain ⟨ce2, fi2⟩ := u
        have hw2 : fi2 1 = 0 ∧ fi2 6 = -1 := hw
        have hK := hK0
        have hP : va_P (dC, dI) vwCl ([(h, .inr (1, [.ref tr, .ref sl, .null, .int 0, .int 0, .int 0])), (tr, .inl (cI, 1480, .inl (fun _ => 0))), (sl, .inl (cS, 4, .inr (.inr (.inr (.inr (va_up (va_up (fun _ => none) 0 (some dg0)) 1 (some dg1))))))), (dg0, .inr (0, [.ref ce0, .int (fi0 1), .int (fi0 2), .int (fi0 3), .int (fi0 4), .int (fi0 5), .int (fi0 6), .int (fi0 7), .int (fi0 8)])), (ce0, .inl (cI, 4096, .inl (fun _ => 0))), (dg1, .inr (0, [.ref ce1, .int (fi1 1), .int (fi1 2), .int (fi1 3), .int (fi1 4), .int (fi1 5), .int (fi1 6), .int (fi1 7), .int (fi1 8)])), (ce1, .inl (cI, 4096, .inl (fun _ => 0))), (dg2, .inr (0, [.ref ce2, .int (fi2 1), .int (fi2 2), .int (fi2 3), .int (fi2 4), .int (fi2 5), .int (fi2 6), .int (fi2 7), .int (fi2 8)])), (ce2, .inl (cI, 4096, .inl (fun _ => 0)))]) H := hP
        have hD : va_D A ([(h, .inr (1, [.ref tr, .ref sl, .null, .int 0, .int 0, .int 0])), (tr, .inl (cI, 1480, .inl (fun _ => 0))), (sl, .inl (cS, 4, .inr (.inr (.inr (.inr (va_up (va_up (fun _ => none) 0 (some dg0)) 1 (some dg1))))))), (dg0, .inr (0, [.ref ce0, .int (fi0 1), .int (fi0 2), .int (fi0 3), .int (fi0 4), .int (fi0 5), .int (fi0 6), .int (fi0 7), .int (fi0 8)])), (ce0, .inl (cI, 4096, .inl (fun _ => 0))), (dg1, .inr (0, [.ref ce1, .int (fi1 1), .int (fi1 2), .int (fi1 3), .int (fi1 4), .int (fi1 5), .int (fi1 6), .int (fi1 7), .int (fi1 8)])), (ce1, .inl (cI, 4096, .inl (fun _ => 0))), (dg2, .inr (0, [.ref ce2, .int (fi2 1), .int (fi2 2), .int (fi2 3), .int (fi2 4), .int (fi2 5), .int (fi2 6), .int (fi2 7), .int (fi2 8)])), (ce2, .inl (cI, 4096, .inl (fun _ => 0)))]) := hD
        refine fh_aast (k := 2) (r := (RX0, TX0, 9)) hx hb hK hP hD hS 2 1 7 0 rfl rfl rfl rfl (by decide) (by decide) dX1_init_40 (fun H locs hP hD hS => ?_)
        have hP : va_P (dC, dI) vwCl ([(h, .inr (1, [.ref tr, .ref sl, .null, .int 0, .int 0, .int 0])), (tr, .inl (cI, 1480, .inl (fun _ => 0))), (sl, .inl (cS, 4, .inr (.inr (.inr (.inr (va_up (va_up (va_up (fun _ => none) 0 (some dg0)) 1 (some dg1)) 2 (some dg2))))))), (dg0, .inr (0, [.ref ce0, .int (fi0 1), .int (fi0 2), .int (fi0 3), .int (fi0 4), .int (fi0 5), .int (fi0 6), .int (fi0 7), .int (fi0 8)])), (ce0, .inl (cI, 4096, .inl (fun _ => 0))), (dg1, .inr (0, [.ref ce1, .int (fi1 1), .int (fi1 2), .int (fi1 3), .int (fi1 4), .int (fi1 5), .int (fi1 6), .int (fi1 7), .int (fi1 8)])), (ce1, .inl (cI, 4096, .inl (fun _ => 0))), (dg2, .inr (0, [.ref ce2, .int (fi2 1), .int (fi2 2), .int (fi2 3), .int (fi2 4), .int (fi2 5), .int (fi2 6), .int (fi2 7), .int (fi2 8)])), (ce2, .inl (cI, 4096, .inl (fun _ => 0)))]) H := hP
        have hD : va_D A ([(h, .inr (1, [.ref tr, .ref sl, .null, .int 0, .int 0, .int 0])), (tr, .inl (cI, 1480, .inl (fun _ => 0))), (sl, .inl (cS, 4, .inr (.inr (.inr (.inr (va_up (va_up (va_up (fun _ => none) 0 (some dg0)) 1 (some dg1)) 2 (some dg2))))))), (dg0, .inr (0, [.ref ce0, .int (fi0 1), .int (fi0 2), .int (fi0 3), .int (fi0 4), .int (fi0 5), .int (fi0 6), .int (fi0 7), .int (fi0 8)])), (ce0, .inl (cI, 4096, .inl (fun _ => 0))), (dg1, .inr (0, [.ref ce1, .int (fi1 1), .int (fi1 2), .int (fi1 3), .int (fi1 4), .int (fi1 5), .int (fi1 6), .int (fi1 7), .int (fi1 8)])), (ce1, .inl (cI, 4096, .inl (fun _ => 0))), (dg2, .inr (0, [.ref ce2, .int (fi2 1), .int (fi2 2), .int (fi2 3), .int (fi2 4), .int (fi2 5), .int (fi2 6), .int (fi2 7), .int (fi2 8)])), (ce2, .inl (cI, 4096, .inl (fun _ => 0)))]) := hD
        refine lv_iinc (v := (nI 3)) (lv' := [(1, .int (nI 3)), (0, .ref h)]) hx hb dX1_init_41 hl (k := 0) rfl (nI_1 2) (by decide) rfl (fun ls hl => ?_)
        refine lv_goto (tgt := 23) hx hb dX1_init_44 (by decide) ?_
        refine lv_iload_n hx hb dX1_init_23 rfl (lv_at hl 0 rfl) ?_
        refine lv_iconst (v := nI 4) hx hb dX1_init_24 (by first | decide | rfl) ?_
        refine lv_icmp_ge (tgt := 47) hx hb dX1_init_25 (by decide) (fun c25 => ?_) (fun c25 => ?_)
        · skip
          exact absurd c25 (by decide)
        · skip
          refine lv_aload_n hx hb dX1_init_28 rfl (lv_at hl 1 rfl) ?_
          refine va_get (D := (dC, dI)) (ci := 1) (v := .ref sl) (C := RX1) (T := TX1) (N := 6) hx hb hts (by decide +kernel) hown hK hP 0 rfl rfl 1 (by decide) (hts (.fieldLink RX1 15 "FragmentHouse" "slots" "[LFragmentHouse$Datagram;") (by decide +kernel)) (fun _ h9 => h9) rfl dX1_init_29 ?_
          refine lv_iload_n hx hb dX1_init_32 rfl (lv_at hl 0 rfl) ?_
          refine va_new (ci := 0) (fs := [.null, .int 0, .int 0, .int 0, .int 0, .int 0, .int 0, .int 0, .int 0]) (C := RX0) (T := TX0) (N := 9) hx hb hts (by decide +kernel) tyX0 tyX0_ok hown (hts (.classLink RX1 13 RX0) (by decide +kernel)) (hts (.instantiable RX0 9) (by decide +kernel)) (hts (.initialized RX0) (by decide +kernel)) hK hP hD hS hA rfl (fun j hj => by rcases (show j = 0 ∨ j = 1 ∨ j = 2 ∨ j = 3 ∨ j = 4 ∨ j = 5 ∨ j = 6 ∨ j = 7 ∨ j = 8 by omega) with rfl | rfl | rfl | rfl | rfl | rfl | rfl | rfl | rfl <;> rfl) (Nat.le_of_ble_eq_true rfl) (Nat.le_of_ble_eq_true rfl) dX1_init_33 (fun dg3 H hP hD hS => ?_)
          have hP : va_P (dC, dI) vwCl ([(h, .inr (1, [.ref tr, .ref sl, .null, .int 0, .int 0, .int 0])), (tr, .inl (cI, 1480, .inl (fun _ => 0))), (sl, .inl (cS, 4, .inr (.inr (.inr (.inr (va_up (va_up (va_up (fun _ => none) 0 (some dg0)) 1 (some dg1)) 2 (some dg2))))))), (dg0, .inr (0, [.ref ce0, .int (fi0 1), .int (fi0 2), .int (fi0 3), .int (fi0 4), .int (fi0 5), .int (fi0 6), .int (fi0 7), .int (fi0 8)])), (ce0, .inl (cI, 4096, .inl (fun _ => 0))), (dg1, .inr (0, [.ref ce1, .int (fi1 1), .int (fi1 2), .int (fi1 3), .int (fi1 4), .int (fi1 5), .int (fi1 6), .int (fi1 7), .int (fi1 8)])), (ce1, .inl (cI, 4096, .inl (fun _ => 0))), (dg2, .inr (0, [.ref ce2, .int (fi2 1), .int (fi2 2), .int (fi2 3), .int (fi2 4), .int (fi2 5), .int (fi2 6), .int (fi2 7), .int (fi2 8)])), (ce2, .inl (cI, 4096, .inl (fun _ => 0))), (dg3, .inr (0, [.null, .int 0, .int 0, .int 0, .int 0, .int 0, .int 0, .int 0, .int 0]))]) H := hP
          have hD : va_D A ([(h, .inr (1, [.ref tr, .ref sl, .null, .int 0, .int 0, .int 0])), (tr, .inl (cI, 1480, .inl (fun _ => 0))), (sl, .inl (cS, 4, .inr (.inr (.inr (.inr (va_up (va_up (va_up (fun _ => none) 0 (some dg0)) 1 (some dg1)) 2 (some dg2))))))), (dg0, .inr (0, [.ref ce0, .int (fi0 1), .int (fi0 2), .int (fi0 3), .int (fi0 4), .int (fi0 5), .int (fi0 6), .int (fi0 7), .int (fi0 8)])), (ce0, .inl (cI, 4096, .inl (fun _ => 0))), (dg1, .inr (0, [.ref ce1, .int (fi1 1), .int (fi1 2), .int (fi1 3), .int (fi1 4), .int (fi1 5), .int (fi1 6), .int (fi1 7), .int (fi1 8)])), (ce1, .inl (cI, 4096, .inl (fun _ => 0))), (dg2, .inr (0, [.ref ce2, .int (fi2 1), .int (fi2 2), .int (fi2 3), .int (fi2 4), .int (fi2 5), .int (fi2 6), .int (fi2 7), .int (fi2 8)])), (ce2, .inl (cI, 4096, .inl (fun _ => 0))), (dg3, .inr (0, [.null, .int 0, .int 0, .int 0, .int 0, .int 0, .int 0, .int 0, .int 0]))]) := hD
          refine lv_dup hx hb dX1_init_36 rfl ?_
          have hPc := hP.sub (ws' := [(dg3, .inr (0, [.null, .int 0, .int 0, .int 0, .int 0, .int 0, .int 0, .int 0, .int 0]))]) [9] rfl
          have hDc := hD.sub (ws' := [(dg3, .inr (0, [.null, .int 0, .int 0, .int 0, .int 0, .int 0, .int 0, .int 0, .int 0]))]) [9] (by decide) rfl
          have hK0 := hK
          have hK1 : va_K (dC, dI) vwCl [(cI, .int)] s := hK.sub [0] rfl
          refine fh_cv (wr := [(h, .inr (1, [.ref tr, .ref sl, .null, .int 0, .int 0, .int 0])), (tr, .inl (cI, 1480, .inl (fun _ => 0))), (sl, .inl (cS, 4, .inr (.inr (.inr (.inr (va_up (va_up (va_up (fun _ => none) 0 (some dg0)) 1 (some dg1)) 2 (some dg2))))))), (dg0, .inr (0, [.ref ce0, .int (fi0 1), .int (fi0 2), .int (fi0 3), .int (fi0 4), .int (fi0 5), .int (fi0 6), .int (fi0 7), .int (fi0 8)])), (ce0, .inl (cI, 4096, .inl (fun _ => 0))), (dg1, .inr (0, [.ref ce1, .int (fi1 1), .int (fi1 2), .int (fi1 3), .int (fi1 4), .int (fi1 5), .int (fi1 6), .int (fi1 7), .int (fi1 8)])), (ce1, .inl (cI, 4096, .inl (fun _ => 0))), (dg2, .inr (0, [.ref ce2, .int (fi2 1), .int (fi2 2), .int (fi2 3), .int (fi2 4), .int (fi2 5), .int (fi2 6), .int (fi2 7), .int (fi2 8)])), (ce2, .inl (cI, 4096, .inl (fun _ => 0)))]) (w2 := fun u => [(h, .inr (1, [.ref tr, .ref sl, .null, .int 0, .int 0, .int 0])), (tr, .inl (cI, 1480, .inl (fun _ => 0))), (sl, .inl (cS, 4, .inr (.inr (.inr (.inr (va_up (va_up (va_up (fun _ => none) 0 (some dg0)) 1 (some dg1)) 2 (some dg2))))))), (dg0, .inr (0, [.ref ce0, .int (fi0 1), .int (fi0 2), .int (fi0 3), .int (fi0 4), .int (fi0 5), .int (fi0 6), .int (fi0 7), .int (fi0 8)])), (ce0, .inl (cI, 4096, .inl (fun _ => 0))), (dg1, .inr (0, [.ref ce1, .int (fi1 1), .int (fi1 2), .int (fi1 3), .int (fi1 4), .int (fi1 5), .int (fi1 6), .int (fi1 7), .int (fi1 8)])), (ce1, .inl (cI, 4096, .inl (fun _ => 0))), (dg2, .inr (0, [.ref ce2, .int (fi2 1), .int (fi2 2), .int (fi2 3), .int (fi2 4), .int (fi2 5), .int (fi2 6), .int (fi2 7), .int (fi2 8)])), (ce2, .inl (cI, 4096, .inl (fun _ => 0)))] ++ wD cI dg3 u.1 u.2 (fun _ => 0)) (va_runI (As := []) (rest := [.ref dg3, .int (nI 3), .ref sl]) ⟨hx, hb, hml, hown, hts⟩ (c_dinit l dC dI cI dg3 H.size) (cwI 0 hts gX1_init_X0_init rfl rfl rfl (hts (.initialized RX0) (by decide +kernel)) (hts (.methodLink RX1 19 yX0_init) (by decide +kernel)) (hts (.instanceMethod yX0_init) (by decide +kernel)) rfl (by decide +kernel) ⟨Nat.le_of_ble_eq_true rfl, Nat.le_of_ble_eq_true rfl⟩) (pS_PW hK1 hPc hDc) rfl rfl hl.1 rfl (lv_room (Nat.le_of_ble_eq_true rfl)) dX1_init_37 ⟨Nat.le_of_ble_eq_true rfl, Nat.le_of_ble_eq_true rfl⟩) hP hD hS hA [9] [0, 1, 2, 3, 4, 5, 6, 7, 8] [0, 1, 2, 3, 4, 5, 6, 7, 8, 9, 10] rfl rfl (by decide) (by decide) (by decide) (fun _ => rfl) (fun u H locs hw hK hP hD hS => ?_)
          obtain ⟨ce3, fi3⟩ := u
          have hw3 : fi3 1 = 0 ∧ fi3 6 = -1 := hw
          have hK := hK0
          have hP : va_P (dC, dI) vwCl ([(h, .inr (1, [.ref tr, .ref sl, .null, .int 0, .int 0, .int 0])), (tr, .inl (cI, 1480, .inl (fun _ => 0))), (sl, .inl (cS, 4, .inr (.inr (.inr (.inr (va_up (va_up (va_up (fun _ => none) 0 (some dg0)) 1 (some dg1)) 2 (some dg2))))))), (dg0, .inr (0, [.ref ce0, .int (fi0 1), .int (fi0 2), .int (fi0 3), .int (fi0 4), .int (fi0 5), .int (fi0 6), .int (fi0 7), .int (fi0 8)])), (ce0, .inl (cI, 4096, .inl (fun _ => 0))), (dg1, .inr (0, [.ref ce1, .int (fi1 1), .int (fi1 2), .int (fi1 3), .int (fi1 4), .int (fi1 5), .int (fi1 6), .int (fi1 7), .int (fi1 8)])), (ce1, .inl (cI, 4096, .inl (fun _ => 0))), (dg2, .inr (0, [.ref ce2, .int (fi2 1), .int (fi2 2), .int (fi2 3), .int (fi2 4), .int (fi2 5), .int (fi2 6), .int (fi2 7), .int (fi2 8)])), (ce2, .inl (cI, 4096, .inl (fun _ => 0))), (dg3, .inr (0, [.ref ce3, .int (fi3 1), .int (fi3 2), .int (fi3 3), .int (fi3 4), .int (fi3 5), .int (fi3 6), .int (fi3 7), .int (fi3 8)])), (ce3, .inl (cI, 4096, .inl (fun _ => 0)))]) H := hP
          have hD : va_D A ([(h, .inr (1, [.ref tr, .ref sl, .null, .int 0, .int 0, .int 0])), (tr, .inl (cI, 1480, .inl (fun _ => 0))), (sl, .inl (cS, 4, .inr (.inr (.inr (.inr (va_up (va_up (va_up (fun _ => none) 0 (some dg0)) 1 (some dg1)) 2 (some dg2))))))), (dg0, .inr (0, [.ref ce0, .int (fi0 1), .int (fi0 2), .int (fi0 3), .int (fi0 4), .int (fi0 5), .int (fi0 6), .int (fi0 7), .int (fi0 8)])), (ce0, .inl (cI, 4096, .inl (fun _ => 0))), (dg1, .inr (0, [.ref ce1, .int (fi1 1), .int (fi1 2), .int (fi1 3), .int (fi1 4), .int (fi1 5), .int (fi1 6), .int (fi1 7), .int (fi1 8)])), (ce1, .inl (cI, 4096, .inl (fun _ => 0))), (dg2, .inr (0, [.ref ce2, .int (fi2 1), .int (fi2 2), .int (fi2 3), .int (fi2 4), .int (fi2 5), .int (fi2 6), .int (fi2 7), .int (fi2 8)])), (ce2, .inl (cI, 4096, .inl (fun _ => 0))), (dg3, .inr (0, [.ref ce3, .int (fi3 1), .int (fi3 2), .int (fi3 3), .int (fi3 4), .int (fi3 5), .int (fi3 6), .int (fi3 7), .int (fi3 8)])), (ce3, .inl (cI, 4096, .inl (fun _ => 0)))]) := hD
          refine fh_aast (k := 3) (r := (RX0, TX0, 9)) hx hb hK hP hD hS 2 1 9 0 rfl rfl rfl rfl (by decide) (by decide) dX1_init_40 (fun H locs hP hD hS => ?_)
          have hP : va_P (dC, dI) vwCl ([(h, .inr (1, [.ref tr, .ref sl, .null, .int 0, .int 0, .int 0])), (tr, .inl (cI, 1480, .inl (fun _ => 0))), (sl, .inl (cS, 4, .inr (.inr (.inr (.inr (va_up (va_up (va_up (va_up (fun _ => none) 0 (some dg0)) 1 (some dg1)) 2 (some dg2)) 3 (some dg3))))))), (dg0, .inr (0, [.ref ce0, .int (fi0 1), .int (fi0 2), .int (fi0 3), .int (fi0 4), .int (fi0 5), .int (fi0 6), .int (fi0 7), .int (fi0 8)])), (ce0, .inl (cI, 4096, .inl (fun _ => 0))), (dg1, .inr (0, [.ref ce1, .int (fi1 1), .int (fi1 2), .int (fi1 3), .int (fi1 4), .int (fi1 5), .int (fi1 6), .int (fi1 7), .int (fi1 8)])), (ce1, .inl (cI, 4096, .inl (fun _ => 0))), (dg2, .inr (0, [.ref ce2, .int (fi2 1), .int (fi2 2), .int (fi2 3), .int (fi2 4), .int (fi2 5), .int (fi2 6), .int (fi2 7), .int (fi2 8)])), (ce2, .inl (cI, 4096, .inl (fun _ => 0))), (dg3, .inr (0, [.ref ce3, .int (fi3 1), .int (fi3 2), .int (fi3 3), .int (fi3 4), .int (fi3 5), .int (fi3 6), .int (fi3 7), .int (fi3 8)])), (ce3, .inl (cI, 4096, .inl (fun _ => 0)))]) H := hP
          have hD : va_D A ([(h, .inr (1, [.ref tr, .ref sl, .null, .int 0, .int 0, .int 0])), (tr, .inl (cI, 1480, .inl (fun _ => 0))), (sl, .inl (cS, 4, .inr (.inr (.inr (.inr (va_up (va_up (va_up (va_up (fun _ => none) 0 (some dg0)) 1 (some dg1)) 2 (some dg2)) 3 (some dg3))))))), (dg0, .inr (0, [.ref ce0, .int (fi0 1), .int (fi0 2), .int (fi0 3), .int (fi0 4), .int (fi0 5), .int (fi0 6), .int (fi0 7), .int (fi0 8)])), (ce0, .inl (cI, 4096, .inl (fun _ => 0))), (dg1, .inr (0, [.ref ce1, .int (fi1 1), .int (fi1 2), .int (fi1 3), .int (fi1 4), .int (fi1 5), .int (fi1 6), .int (fi1 7), .int (fi1 8)])), (ce1, .inl (cI, 4096, .inl (fun _ => 0))), (dg2, .inr (0, [.ref ce2, .int (fi2 1), .int (fi2 2), .int (fi2 3), .int (fi2 4), .int (fi2 5), .int (fi2 6), .int (fi2 7), .int (fi2 8)])), (ce2, .inl (cI, 4096, .inl (fun _ => 0))), (dg3, .inr (0, [.ref ce3, .int (fi3 1), .int (fi3 2), .int (fi3 3), .int (fi3 4), .int (fi3 5), .int (fi3 6), .int (fi3 7), .int (fi3 8)])), (ce3, .inl (cI, 4096, .inl (fun _ => 0)))]) := hD
          refine lv_iinc (v := (nI 4)) (lv' := [(1, .int (nI 4)), (0, .ref h)]) hx hb dX1_init_41 hl (k := 0) rfl (nI_1 3) (by decide) rfl (fun ls hl => ?_)
          refine lv_goto (tgt := 23) hx hb dX1_init_44 (by decide) ?_
          refine lv_iload_n hx hb dX1_init_23 rfl (lv_at hl 0 rfl) ?_
          refine lv_iconst (v := nI 4) hx hb dX1_init_24 (by first | decide | rfl) ?_
          refine lv_icmp_ge (tgt := 47) hx hb dX1_init_25 (by decide) (fun c25 => ?_) (fun c25 => ?_)
          · skip
            refine lv_aload_n hx hb dX1_init_47 rfl (lv_at hl 1 rfl) ?_
            refine va_new (ci := 0) (fs := [.null, .int 0, .int 0, .int 0, .int 0, .int 0, .int 0, .int 0, .int 0]) (C := RX0) (T := TX0) (N := 9) hx hb hts (by decide +kernel) tyX0 tyX0_ok hown (hts (.classLink RX1 13 RX0) (by decide +kernel)) (hts (.instantiable RX0 9) (by decide +kernel)) (hts (.initialized RX0) (by decide +kernel)) hK hP hD hS hA rfl (fun j hj => by rcases (show j = 0 ∨ j = 1 ∨ j = 2 ∨ j = 3 ∨ j = 4 ∨ j = 5 ∨ j = 6 ∨ j = 7 ∨ j = 8 by omega) with rfl | rfl | rfl | rfl | rfl | rfl | rfl | rfl | rfl <;> rfl) (Nat.le_of_ble_eq_true rfl) (Nat.le_of_ble_eq_true rfl) dX1_init_48 (fun dgw H hP hD hS => ?_)
            have hP : va_P (dC, dI) vwCl ([(h, .inr (1, [.ref tr, .ref sl, .null, .int 0, .int 0, .int 0])), (tr, .inl (cI, 1480, .inl (fun _ => 0))), (sl, .inl (cS, 4, .inr (.inr (.inr (.inr (va_up (va_up (va_up (va_up (fun _ => none) 0 (some dg0)) 1 (some dg1)) 2 (some dg2)) 3 (some dg3))))))), (dg0, .inr (0, [.ref ce0, .int (fi0 1), .int (fi0 2), .int (fi0 3), .int (fi0 4), .int (fi0 5), .int (fi0 6), .int (fi0 7), .int (fi0 8)])), (ce0, .inl (cI, 4096, .inl (fun _ => 0))), (dg1, .inr (0, [.ref ce1, .int (fi1 1), .int (fi1 2), .int (fi1 3), .int (fi1 4), .int (fi1 5), .int (fi1 6), .int (fi1 7), .int (fi1 8)])), (ce1, .inl (cI, 4096, .inl (fun _ => 0))), (dg2, .inr (0, [.ref ce2, .int (fi2 1), .int (fi2 2), .int (fi2 3), .int (fi2 4), .int (fi2 5), .int (fi2 6), .int (fi2 7), .int (fi2 8)])), (ce2, .inl (cI, 4096, .inl (fun _ => 0))), (dg3, .inr (0, [.ref ce3, .int (fi3 1), .int (fi3 2), .int (fi3 3), .int (fi3 4), .int (fi3 5), .int (fi3 6), .int (fi3 7), .int (fi3 8)])), (ce3, .inl (cI, 4096, .inl (fun _ => 0))), (dgw, .inr (0, [.null, .int 0, .int 0, .int 0, .int 0, .int 0, .int 0, .int 0, .int 0]))]) H := hP
            have hD : va_D A ([(h, .inr (1, [.ref tr, .ref sl, .null, .int 0, .int 0, .int 0])), (tr, .inl (cI, 1480, .inl (fun _ => 0))), (sl, .inl (cS, 4, .inr (.inr (.inr (.inr (va_up (va_up (va_up (va_up (fun _ => none) 0 (some dg0)) 1 (some dg1)) 2 (some dg2)) 3 (some dg3))))))), (dg0, .inr (0, [.ref ce0, .int (fi0 1), .int (fi0 2), .int (fi0 3), .int (fi0 4), .int (fi0 5), .int (fi0 6), .int (fi0 7), .int (fi0 8)])), (ce0, .inl (cI, 4096, .inl (fun _ => 0))), (dg1, .inr (0, [.ref ce1, .int (fi1 1), .int (fi1 2), .int (fi1 3), .int (fi1 4), .int (fi1 5), .int (fi1 6), .int (fi1 7), .int (fi1 8)])), (ce1, .inl (cI, 4096, .inl (fun _ => 0))), (dg2, .inr (0, [.ref ce2, .int (fi2 1), .int (fi2 2), .int (fi2 3), .int (fi2 4), .int (fi2 5), .int (fi2 6), .int (fi2 7), .int (fi2 8)])), (ce2, .inl (cI, 4096, .inl (fun _ => 0))), (dg3, .inr (0, [.ref ce3, .int (fi3 1), .int (fi3 2), .int (fi3 3), .int (fi3 4), .int (fi3 5), .int (fi3 6), .int (fi3 7), .int (fi3 8)])), (ce3, .inl (cI, 4096, .inl (fun _ => 0))), (dgw, .inr (0, [.null, .int 0, .int 0, .int 0, .int 0, .int 0, .int 0, .int 0, .int 0]))]) := hD
            refine lv_dup hx hb dX1_init_51 rfl ?_
            have hPc := hP.sub (ws' := [(dgw, .inr (0, [.null, .int 0, .int 0, .int 0, .int 0, .int 0, .int 0, .int 0, .int 0]))]) [11] rfl
            have hDc := hD.sub (ws' := [(dgw, .inr (0, [.null, .int 0, .int 0, .int 0, .int 0, .int 0, .int 0, .int 0, .int 0]))]) [11] (by decide) rfl
            have hK0 := hK
            have hK1 : va_K (dC, dI) vwCl [(cI, .int)] s := hK.sub [0] rfl
            refine fh_cv (wr := [(h, .inr (1, [.ref tr, .ref sl, .null, .int 0, .int 0, .int 0])), (tr, .inl (cI, 1480, .inl (fun _ => 0))), (sl, .inl (cS, 4, .inr (.inr (.inr (.inr (va_up (va_up (va_up (va_up (fun _ => none) 0 (some dg0)) 1 (some dg1)) 2 (some dg2)) 3 (some dg3))))))), (dg0, .inr (0, [.ref ce0, .int (fi0 1), .int (fi0 2), .int (fi0 3), .int (fi0 4), .int (fi0 5), .int (fi0 6), .int (fi0 7), .int (fi0 8)])), (ce0, .inl (cI, 4096, .inl (fun _ => 0))), (dg1, .inr (0, [.ref ce1, .int (fi1 1), .int (fi1 2), .int (fi1 3), .int (fi1 4), .int (fi1 5), .int (fi1 6), .int (fi1 7), .int (fi1 8)])), (ce1, .inl (cI, 4096, .inl (fun _ => 0))), (dg2, .inr (0, [.ref ce2, .int (fi2 1), .int (fi2 2), .int (fi2 3), .int (fi2 4), .int (fi2 5), .int (fi2 6), .int (fi2 7), .int (fi2 8)])), (ce2, .inl (cI, 4096, .inl (fun _ => 0))), (dg3, .inr (0, [.ref ce3, .int (fi3 1), .int (fi3 2), .int (fi3 3), .int (fi3 4), .int (fi3 5), .int (fi3 6), .int (fi3 7), .int (fi3 8)])), (ce3, .inl (cI, 4096, .inl (fun _ => 0)))]) (w2 := fun u => [(h, .inr (1, [.ref tr, .ref sl, .null, .int 0, .int 0, .int 0])), (tr, .inl (cI, 1480, .inl (fun _ => 0))), (sl, .inl (cS, 4, .inr (.inr (.inr (.inr (va_up (va_up (va_up (va_up (fun _ => none) 0 (some dg0)) 1 (some dg1)) 2 (some dg2)) 3 (some dg3))))))), (dg0, .inr (0, [.ref ce0, .int (fi0 1), .int (fi0 2), .int (fi0 3), .int (fi0 4), .int (fi0 5), .int (fi0 6), .int (fi0 7), .int (fi0 8)])), (ce0, .inl (cI, 4096, .inl (fun _ => 0))), (dg1, .inr (0, [.ref ce1, .int (fi1 1), .int (fi1 2), .int (fi1 3), .int (fi1 4), .int (fi1 5), .int (fi1 6), .int (fi1 7), .int (fi1 8)])), (ce1, .inl (cI, 4096, .inl (fun _ => 0))), (dg2, .inr (0, [.ref ce2, .int (fi2 1), .int (fi2 2), .int (fi2 3), .int (fi2 4), .int (fi2 5), .int (fi2 6), .int (fi2 7), .int (fi2 8)])), (ce2, .inl (cI, 4096, .inl (fun _ => 0))), (dg3, .inr (0, [.ref ce3, .int (fi3 1), .int (fi3 2), .int (fi3 3), .int (fi3 4), .int (fi3 5), .int (fi3 6), .int (fi3 7), .int (fi3 8)])), (ce3, .inl (cI, 4096, .inl (fun _ => 0)))] ++ wD cI dgw u.1 u.2 (fun _ => 0)) (va_runI (As := []) (rest := [.ref dgw, .ref h]) ⟨hx, hb, hml, hown, hts⟩ (c_dinit l dC dI cI dgw H.size) (cwI 0 hts gX1_init_X0_init rfl rfl rfl (hts (.initialized RX0) (by decide +kernel)) (hts (.methodLink RX1 19 yX0_init) (by decide +kernel)) (hts (.instanceMethod yX0_init) (by decide +kernel)) rfl (by decide +kernel) ⟨Nat.le_of_ble_eq_true rfl, Nat.le_of_ble_eq_true rfl⟩) (pS_PW hK1 hPc hDc) rfl rfl hl.1 rfl (lv_room (Nat.le_of_ble_eq_true rfl)) dX1_init_52 ⟨Nat.le_of_ble_eq_true rfl, Nat.le_of_ble_eq_true rfl⟩) hP hD hS hA [11] [0, 1, 2, 3, 4, 5, 6, 7, 8, 9, 10] [0, 1, 2, 3, 4, 5, 6, 7, 8, 9, 10, 11, 12] rfl rfl (by decide) (by decide) (by decide) (fun _ => rfl) (fun u H locs hw hK hP hD hS => ?_)
            obtain ⟨cew, fiw⟩ := u
            have hw4 : fiw 1 = 0 ∧ fiw 6 = -1 := hw
            have hK := hK0
            have hP : va_P (dC, dI) vwCl ([(h, .inr (1, [.ref tr, .ref sl, .null, .int 0, .int 0, .int 0])), (tr, .inl (cI, 1480, .inl (fun _ => 0))), (sl, .inl (cS, 4, .inr (.inr (.inr (.inr (va_up (va_up (va_up (va_up (fun _ => none) 0 (some dg0)) 1 (some dg1)) 2 (some dg2)) 3 (some dg3))))))), (dg0, .inr (0, [.ref ce0, .int (fi0 1), .int (fi0 2), .int (fi0 3), .int (fi0 4), .int (fi0 5), .int (fi0 6), .int (fi0 7), .int (fi0 8)])), (ce0, .inl (cI, 4096, .inl (fun _ => 0))), (dg1, .inr (0, [.ref ce1, .int (fi1 1), .int (fi1 2), .int (fi1 3), .int (fi1 4), .int (fi1 5), .int (fi1 6), .int (fi1 7), .int (fi1 8)])), (ce1, .inl (cI, 4096, .inl (fun _ => 0))), (dg2, .inr (0, [.ref ce2, .int (fi2 1), .int (fi2 2), .int (fi2 3), .int (fi2 4), .int (fi2 5), .int (fi2 6), .int (fi2 7), .int (fi2 8)])), (ce2, .inl (cI, 4096, .inl (fun _ => 0))), (dg3, .inr (0, [.ref ce3, .int (fi3 1), .int (fi3 2), .int (fi3 3), .int (fi3 4), .int (fi3 5), .int (fi3 6), .int (fi3 7), .int (fi3 8)])), (ce3, .inl (cI, 4096, .inl (fun _ => 0))), (dgw, .inr (0, [.ref cew, .int (fiw 1), .int (fiw 2), .int (fiw 3), .int (fiw 4), .int (fiw 5), .int (fiw 6), .int (fiw 7), .int (fiw 8)])), (cew, .inl (cI, 4096, .inl (fun _ => 0)))]) H := hP
            have hD : va_D A ([(h, .inr (1, [.ref tr, .ref sl, .null, .int 0, .int 0, .int 0])), (tr, .inl (cI, 1480, .inl (fun _ => 0))), (sl, .inl (cS, 4, .inr (.inr (.inr (.inr (va_up (va_up (va_up (va_up (fun _ => none) 0 (some dg0)) 1 (some dg1)) 2 (some dg2)) 3 (some dg3))))))), (dg0, .inr (0, [.ref ce0, .int (fi0 1), .int (fi0 2), .int (fi0 3), .int (fi0 4), .int (fi0 5), .int (fi0 6), .int (fi0 7), .int (fi0 8)])), (ce0, .inl (cI, 4096, .inl (fun _ => 0))), (dg1, .inr (0, [.ref ce1, .int (fi1 1), .int (fi1 2), .int (fi1 3), .int (fi1 4), .int (fi1 5), .int (fi1 6), .int (fi1 7), .int (fi1 8)])), (ce1, .inl (cI, 4096, .inl (fun _ => 0))), (dg2, .inr (0, [.ref ce2, .int (fi2 1), .int (fi2 2), .int (fi2 3), .int (fi2 4), .int (fi2 5), .int (fi2 6), .int (fi2 7), .int (fi2 8)])), (ce2, .inl (cI, 4096, .inl (fun _ => 0))), (dg3, .inr (0, [.ref ce3, .int (fi3 1), .int (fi3 2), .int (fi3 3), .int (fi3 4), .int (fi3 5), .int (fi3 6), .int (fi3 7), .int (fi3 8)])), (ce3, .inl (cI, 4096, .inl (fun _ => 0))), (dgw, .inr (0, [.ref cew, .int (fiw 1), .int (fiw 2), .int (fiw 3), .int (fiw 4), .int (fiw 5), .int (fiw 6), .int (fiw 7), .int (fiw 8)])), (cew, .inl (cI, 4096, .inl (fun _ => 0)))]) := hD
            refine va_put (D := (dC, dI)) (ci := 1) (v := .ref dgw) (ty := .object "FragmentHouse$Datagram") (C := RX1) (T := TX1) (N := 6) hx hb hts (by decide +kernel) tyX1 tyX1_ok nmX1 hown hK hP hD hS 0 rfl rfl 2 (by decide) (hts (.fieldLink RX1 20 "FragmentHouse" "latestWhole" "LFragmentHouse$Datagram;") (by decide +kernel)) (fun _ h9 => h9) rfl (by decide +kernel) rfl rfl (Nat.le_of_ble_eq_true rfl) dX1_init_55 (fun H locs hP hD hS => ?_)
            have hP : va_P (dC, dI) vwCl ([(h, .inr (1, [.ref tr, .ref sl, .ref dgw, .int 0, .int 0, .int 0])), (tr, .inl (cI, 1480, .inl (fun _ => 0))), (sl, .inl (cS, 4, .inr (.inr (.inr (.inr (va_up (va_up (va_up (va_up (fun _ => none) 0 (some dg0)) 1 (some dg1)) 2 (some dg2)) 3 (some dg3))))))), (dg0, .inr (0, [.ref ce0, .int (fi0 1), .int (fi0 2), .int (fi0 3), .int (fi0 4), .int (fi0 5), .int (fi0 6), .int (fi0 7), .int (fi0 8)])), (ce0, .inl (cI, 4096, .inl (fun _ => 0))), (dg1, .inr (0, [.ref ce1, .int (fi1 1), .int (fi1 2), .int (fi1 3), .int (fi1 4), .int (fi1 5), .int (fi1 6), .int (fi1 7), .int (fi1 8)])), (ce1, .inl (cI, 4096, .inl (fun _ => 0))), (dg2, .inr (0, [.ref ce2, .int (fi2 1), .int (fi2 2), .int (fi2 3), .int (fi2 4), .int (fi2 5), .int (fi2 6), .int (fi2 7), .int (fi2 8)])), (ce2, .inl (cI, 4096, .inl (fun _ => 0))), (dg3, .inr (0, [.ref ce3, .int (fi3 1), .int (fi3 2), .int (fi3 3), .int (fi3 4), .int (fi3 5), .int (fi3 6), .int (fi3 7), .int (fi3 8)])), (ce3, .inl (cI, 4096, .inl (fun _ => 0))), (dgw, .inr (0, [.ref cew, .int (fiw 1), .int (fiw 2), .int (fiw 3), .int (fiw 4), .int (fiw 5), .int (fiw 6), .int (fiw 7), .int (fiw 8)])), (cew, .inl (cI, 4096, .inl (fun _ => 0)))]) H := hP
            have hD : va_D A ([(h, .inr (1, [.ref tr, .ref sl, .ref dgw, .int 0, .int 0, .int 0])), (tr, .inl (cI, 1480, .inl (fun _ => 0))), (sl, .inl (cS, 4, .inr (.inr (.inr (.inr (va_up (va_up (va_up (va_up (fun _ => none) 0 (some dg0)) 1 (some dg1)) 2 (some dg2)) 3 (some dg3))))))), (dg0, .inr (0, [.ref ce0, .int (fi0 1), .int (fi0 2), .int (fi0 3), .int (fi0 4), .int (fi0 5), .int (fi0 6), .int (fi0 7), .int (fi0 8)])), (ce0, .inl (cI, 4096, .inl (fun _ => 0))), (dg1, .inr (0, [.ref ce1, .int (fi1 1), .int (fi1 2), .int (fi1 3), .int (fi1 4), .int (fi1 5), .int (fi1 6), .int (fi1 7), .int (fi1 8)])), (ce1, .inl (cI, 4096, .inl (fun _ => 0))), (dg2, .inr (0, [.ref ce2, .int (fi2 1), .int (fi2 2), .int (fi2 3), .int (fi2 4), .int (fi2 5), .int (fi2 6), .int (fi2 7), .int (fi2 8)])), (ce2, .inl (cI, 4096, .inl (fun _ => 0))), (dg3, .inr (0, [.ref ce3, .int (fi3 1), .int (fi3 2), .int (fi3 3), .int (fi3 4), .int (fi3 5), .int (fi3 6), .int (fi3 7), .int (fi3 8)])), (ce3, .inl (cI, 4096, .inl (fun _ => 0))), (dgw, .inr (0, [.ref cew, .int (fiw 1), .int (fiw 2), .int (fiw 3), .int (fiw 4), .int (fiw 5), .int (fiw 6), .int (fiw 7), .int (fiw 8)])), (cew, .inl (cI, 4096, .inl (fun _ => 0)))]) := hD
            refine lv_aload_n hx hb dX1_init_58 rfl (lv_at hl 1 rfl) ?_
            refine lv_iconst (v := nI 0) hx hb dX1_init_59 (by first | decide | rfl) ?_
            refine va_put (D := (dC, dI)) (ci := 1) (v := .int (nI 0)) (ty := .int) (C := RX1) (T := TX1) (N := 6) hx hb hts (by decide +kernel) tyX1 tyX1_ok nmX1 hown hK hP hD hS 0 rfl rfl 3 (by decide) (hts (.fieldLink RX1 24 "FragmentHouse" "trayCount" "I") (by decide +kernel)) (fun _ h9 => h9) rfl (by decide +kernel) rfl rfl (Nat.le_of_ble_eq_true rfl) dX1_init_60 (fun H locs hP hD hS => ?_)
            have hP : va_P (dC, dI) vwCl ([(h, .inr (1, [.ref tr, .ref sl, .ref dgw, .int (nI 0), .int 0, .int 0])), (tr, .inl (cI, 1480, .inl (fun _ => 0))), (sl, .inl (cS, 4, .inr (.inr (.inr (.inr (va_up (va_up (va_up (va_up (fun _ => none) 0 (some dg0)) 1 (some dg1)) 2 (some dg2)) 3 (some dg3))))))), (dg0, .inr (0, [.ref ce0, .int (fi0 1), .int (fi0 2), .int (fi0 3), .int (fi0 4), .int (fi0 5), .int (fi0 6), .int (fi0 7), .int (fi0 8)])), (ce0, .inl (cI, 4096, .inl (fun _ => 0))), (dg1, .inr (0, [.ref ce1, .int (fi1 1), .int (fi1 2), .int (fi1 3), .int (fi1 4), .int (fi1 5), .int (fi1 6), .int (fi1 7), .int (fi1 8)])), (ce1, .inl (cI, 4096, .inl (fun _ => 0))), (dg2, .inr (0, [.ref ce2, .int (fi2 1), .int (fi2 2), .int (fi2 3), .int (fi2 4), .int (fi2 5), .int (fi2 6), .int (fi2 7), .int (fi2 8)])), (ce2, .inl (cI, 4096, .inl (fun _ => 0))), (dg3, .inr (0, [.ref ce3, .int (fi3 1), .int (fi3 2), .int (fi3 3), .int (fi3 4), .int (fi3 5), .int (fi3 6), .int (fi3 7), .int (fi3 8)])), (ce3, .inl (cI, 4096, .inl (fun _ => 0))), (dgw, .inr (0, [.ref cew, .int (fiw 1), .int (fiw 2), .int (fiw 3), .int (fiw 4), .int (fiw 5), .int (fiw 6), .int (fiw 7), .int (fiw 8)])), (cew, .inl (cI, 4096, .inl (fun _ => 0)))]) H := hP
            have hD : va_D A ([(h, .inr (1, [.ref tr, .ref sl, .ref dgw, .int (nI 0), .int 0, .int 0])), (tr, .inl (cI, 1480, .inl (fun _ => 0))), (sl, .inl (cS, 4, .inr (.inr (.inr (.inr (va_up (va_up (va_up (va_up (fun _ => none) 0 (some dg0)) 1 (some dg1)) 2 (some dg2)) 3 (some dg3))))))), (dg0, .inr (0, [.ref ce0, .int (fi0 1), .int (fi0 2), .int (fi0 3), .int (fi0 4), .int (fi0 5), .int (fi0 6), .int (fi0 7), .int (fi0 8)])), (ce0, .inl (cI, 4096, .inl (fun _ => 0))), (dg1, .inr (0, [.ref ce1, .int (fi1 1), .int (fi1 2), .int (fi1 3), .int (fi1 4), .int (fi1 5), .int (fi1 6), .int (fi1 7), .int (fi1 8)])), (ce1, .inl (cI, 4096, .inl (fun _ => 0))), (dg2, .inr (0, [.ref ce2, .int (fi2 1), .int (fi2 2), .int (fi2 3), .int (fi2 4), .int (fi2 5), .int (fi2 6), .int (fi2 7), .int (fi2 8)])), (ce2, .inl (cI, 4096, .inl (fun _ => 0))), (dg3, .inr (0, [.ref ce3, .int (fi3 1), .int (fi3 2), .int (fi3 3), .int (fi3 4), .int (fi3 5), .int (fi3 6), .int (fi3 7), .int (fi3 8)])), (ce3, .inl (cI, 4096, .inl (fun _ => 0))), (dgw, .inr (0, [.ref cew, .int (fiw 1), .int (fiw 2), .int (fiw 3), .int (fiw 4), .int (fiw 5), .int (fiw 6), .int (fiw 7), .int (fiw 8)])), (cew, .inl (cI, 4096, .inl (fun _ => 0)))]) := hD
            refine lv_aload_n hx hb dX1_init_63 rfl (lv_at hl 1 rfl) ?_
            refine lv_iconst (v := 0) hx hb dX1_init_64 (by first | decide | rfl) ?_
            refine va_put (D := (dC, dI)) (ci := 1) (v := .int 0) (ty := .int) (C := RX1) (T := TX1) (N := 6) hx hb hts (by decide +kernel) tyX1 tyX1_ok nmX1 hown hK hP hD hS 0 rfl rfl 4 (by decide) (hts (.fieldLink RX1 28 "FragmentHouse" "wholeCount" "I") (by decide +kernel)) (fun _ h9 => h9) rfl (by decide +kernel) rfl rfl (Nat.le_of_ble_eq_true rfl) dX1_init_65 (fun H locs hP hD hS => ?_)
            have hP : va_P (dC, dI) vwCl ([(h, .inr (1, [.ref tr, .ref sl, .ref dgw, .int (nI 0), .int 0, .int 0])), (tr, .inl (cI, 1480, .inl (fun _ => 0))), (sl, .inl (cS, 4, .inr (.inr (.inr (.inr (va_up (va_up (va_up (va_up (fun _ => none) 0 (some dg0)) 1 (some dg1)) 2 (some dg2)) 3 (some dg3))))))), (dg0, .inr (0, [.ref ce0, .int (fi0 1), .int (fi0 2), .int (fi0 3), .int (fi0 4), .int (fi0 5), .int (fi0 6), .int (fi0 7), .int (fi0 8)])), (ce0, .inl (cI, 4096, .inl (fun _ => 0))), (dg1, .inr (0, [.ref ce1, .int (fi1 1), .int (fi1 2), .int (fi1 3), .int (fi1 4), .int (fi1 5), .int (fi1 6), .int (fi1 7), .int (fi1 8)])), (ce1, .inl (cI, 4096, .inl (fun _ => 0))), (dg2, .inr (0, [.ref ce2, .int (fi2 1), .int (fi2 2), .int (fi2 3), .int (fi2 4), .int (fi2 5), .int (fi2 6), .int (fi2 7), .int (fi2 8)])), (ce2, .inl (cI, 4096, .inl (fun _ => 0))), (dg3, .inr (0, [.ref ce3, .int (fi3 1), .int (fi3 2), .int (fi3 3), .int (fi3 4), .int (fi3 5), .int (fi3 6), .int (fi3 7), .int (fi3 8)])), (ce3, .inl (cI, 4096, .inl (fun _ => 0))), (dgw, .inr (0, [.ref cew, .int (fiw 1), .int (fiw 2), .int (fiw 3), .int (fiw 4), .int (fiw 5), .int (fiw 6), .int (fiw 7), .int (fiw 8)])), (cew, .inl (cI, 4096, .inl (fun _ => 0)))]) H := hP
            have hD : va_D A ([(h, .inr (1, [.ref tr, .ref sl, .ref dgw, .int (nI 0), .int 0, .int 0])), (tr, .inl (cI, 1480, .inl (fun _ => 0))), (sl, .inl (cS, 4, .inr (.inr (.inr (.inr (va_up (va_up (va_up (va_up (fun _ => none) 0 (some dg0)) 1 (some dg1)) 2 (some dg2)) 3 (some dg3))))))), (dg0, .inr (0, [.ref ce0, .int (fi0 1), .int (fi0 2), .int (fi0 3), .int (fi0 4), .int (fi0 5), .int (fi0 6), .int (fi0 7), .int (fi0 8)])), (ce0, .inl (cI, 4096, .inl (fun _ => 0))), (dg1, .inr (0, [.ref ce1, .int (fi1 1), .int (fi1 2), .int (fi1 3), .int (fi1 4), .int (fi1 5), .int (fi1 6), .int (fi1 7), .int (fi1 8)])), (ce1, .inl (cI, 4096, .inl (fun _ => 0))), (dg2, .inr (0, [.ref ce2, .int (fi2 1), .int (fi2 2), .int (fi2 3), .int (fi2 4), .int (fi2 5), .int (fi2 6), .int (fi2 7), .int (fi2 8)])), (ce2, .inl (cI, 4096, .inl (fun _ => 0))), (dg3, .inr (0, [.ref ce3, .int (fi3 1), .int (fi3 2), .int (fi3 3), .int (fi3 4), .int (fi3 5), .int (fi3 6), .int (fi3 7), .int (fi3 8)])), (ce3, .inl (cI, 4096, .inl (fun _ => 0))), (dgw, .inr (0, [.ref cew, .int (fiw 1), .int (fiw 2), .int (fiw 3), .int (fiw 4), .int (fiw 5), .int (fiw 6), .int (fiw 7), .int (fiw 8)])), (cew, .inl (cI, 4096, .inl (fun _ => 0)))]) := hD
            refine lv_aload_n hx hb dX1_init_68 rfl (lv_at hl 1 rfl) ?_
            refine lv_iconst (v := 0) hx hb dX1_init_69 (by first | decide | rfl) ?_
            refine va_put (D := (dC, dI)) (ci := 1) (v := .int 0) (ty := .int) (C := RX1) (T := TX1) (N := 6) hx hb hts (by decide +kernel) tyX1 tyX1_ok nmX1 hown hK hP hD hS 0 rfl rfl 5 (by decide) (hts (.fieldLink RX1 31 "FragmentHouse" "now" "I") (by decide +kernel)) (fun _ h9 => h9) rfl (by decide +kernel) rfl rfl (Nat.le_of_ble_eq_true rfl) dX1_init_70 (fun H locs hP hD hS => ?_)
            have hP : va_P (dC, dI) vwCl ([(h, .inr (1, [.ref tr, .ref sl, .ref dgw, .int (nI 0), .int 0, .int 0])), (tr, .inl (cI, 1480, .inl (fun _ => 0))), (sl, .inl (cS, 4, .inr (.inr (.inr (.inr (va_up (va_up (va_up (va_up (fun _ => none) 0 (some dg0)) 1 (some dg1)) 2 (some dg2)) 3 (some dg3))))))), (dg0, .inr (0, [.ref ce0, .int (fi0 1), .int (fi0 2), .int (fi0 3), .int (fi0 4), .int (fi0 5), .int (fi0 6), .int (fi0 7), .int (fi0 8)])), (ce0, .inl (cI, 4096, .inl (fun _ => 0))), (dg1, .inr (0, [.ref ce1, .int (fi1 1), .int (fi1 2), .int (fi1 3), .int (fi1 4), .int (fi1 5), .int (fi1 6), .int (fi1 7), .int (fi1 8)])), (ce1, .inl (cI, 4096, .inl (fun _ => 0))), (dg2, .inr (0, [.ref ce2, .int (fi2 1), .int (fi2 2), .int (fi2 3), .int (fi2 4), .int (fi2 5), .int (fi2 6), .int (fi2 7), .int (fi2 8)])), (ce2, .inl (cI, 4096, .inl (fun _ => 0))), (dg3, .inr (0, [.ref ce3, .int (fi3 1), .int (fi3 2), .int (fi3 3), .int (fi3 4), .int (fi3 5), .int (fi3 6), .int (fi3 7), .int (fi3 8)])), (ce3, .inl (cI, 4096, .inl (fun _ => 0))), (dgw, .inr (0, [.ref cew, .int (fiw 1), .int (fiw 2), .int (fiw 3), .int (fiw 4), .int (fiw 5), .int (fiw 6), .int (fiw 7), .int (fiw 8)])), (cew, .inl (cI, 4096, .inl (fun _ => 0)))]) H := hP
            have hD : va_D A ([(h, .inr (1, [.ref tr, .ref sl, .ref dgw, .int (nI 0), .int 0, .int 0])), (tr, .inl (cI, 1480, .inl (fun _ => 0))), (sl, .inl (cS, 4, .inr (.inr (.inr (.inr (va_up (va_up (va_up (va_up (fun _ => none) 0 (some dg0)) 1 (some dg1)) 2 (some dg2)) 3 (some dg3))))))), (dg0, .inr (0, [.ref ce0, .int (fi0 1), .int (fi0 2), .int (fi0 3), .int (fi0 4), .int (fi0 5), .int (fi0 6), .int (fi0 7), .int (fi0 8)])), (ce0, .inl (cI, 4096, .inl (fun _ => 0))), (dg1, .inr (0, [.ref ce1, .int (fi1 1), .int (fi1 2), .int (fi1 3), .int (fi1 4), .int (fi1 5), .int (fi1 6), .int (fi1 7), .int (fi1 8)])), (ce1, .inl (cI, 4096, .inl (fun _ => 0))), (dg2, .inr (0, [.ref ce2, .int (fi2 1), .int (fi2 2), .int (fi2 3), .int (fi2 4), .int (fi2 5), .int (fi2 6), .int (fi2 7), .int (fi2 8)])), (ce2, .inl (cI, 4096, .inl (fun _ => 0))), (dg3, .inr (0, [.ref ce3, .int (fi3 1), .int (fi3 2), .int (fi3 3), .int (fi3 4), .int (fi3 5), .int (fi3 6), .int (fi3 7), .int (fi3 8)])), (ce3, .inl (cI, 4096, .inl (fun _ => 0))), (dgw, .inr (0, [.ref cew, .int (fiw 1), .int (fiw 2), .int (fiw 3), .int (fiw 4), .int (fiw 5), .int (fiw 6), .int (fiw 7), .int (fiw 8)])), (cew, .inl (cI, 4096, .inl (fun _ => 0)))]) := hD
            have hP2 : va_at (dC, dI) vwCl (sl, .inl (cS, 4, .inr (.inr (.inr (.inr (fun j => some (d4 dg0 dg1 dg2 dg3 j))))))) H := by
              show H[sl]? = some (vp_cell cS (4, .inr (.inr (.inr (.inr (fun j => some (d4 dg0 dg1 dg2 dg3 j)))))))
              rw [← vq_congr (f := va_up (va_up (va_up (va_up (fun _ => none) 0 (some dg0)) 1 (some dg1)) 2 (some dg2)) 3 (some dg3)) (fun j hj => by rcases lt4 hj with rfl | rfl | rfl | rfl <;> rfl)]
              exact hP 2 _ rfl
            have hP := hP.set (p := 2) hD rfl hP2 (fun _ _ => rfl)
            have hD := hD.set (p := 2) (e := .inl (cS, 4, .inr (.inr (.inr (.inr (fun j => some (d4 dg0 dg1 dg2 dg3 j))))))) rfl
            have hP : va_P (dC, dI) vwCl (wH cI cS h tr sl dgw cew (d4 dg0 dg1 dg2 dg3) (d4 ce0 ce1 ce2 ce3) (fun _ => 0) (nI 0) 0 0 (d4 (fi0, fun _ => 0) (fi1, fun _ => 0) (fi2, fun _ => 0) (fi3, fun _ => 0)) (fiw, fun _ => 0)) H := hP.sub [0, 1, 2, 11, 12, 3, 4, 5, 6, 7, 8, 9, 10] rfl
            have hD : va_D A (wH cI cS h tr sl dgw cew (d4 dg0 dg1 dg2 dg3) (d4 ce0 ce1 ce2 ce3) (fun _ => 0) (nI 0) 0 0 (d4 (fi0, fun _ => 0) (fi1, fun _ => 0) (fi2, fun _ => 0) (fi3, fun _ => 0)) (fiw, fun _ => 0)) := hD.sub [0, 1, 2, 11, 12, 3, 4, 5, 6, 7, 8, 9, 10] (by decide) rfl
            refine W.widen (k := 12) (n := 22009) (by omega) (by omega) ?_
            exact W.vret hx hb hr (fh_qv ((cI, cS), (tr, sl, dgw, cew), d4 dg0 dg1 dg2 dg3, d4 ce0 ce1 ce2 ce3, d4 (fi0, fun _ => 0) (fi1, fun _ => 0) (fi2, fun _ => 0) (fi3, fun _ => 0), (fiw, fun _ => 0)) ⟨fun i hi => by rcases lt4 hi with rfl | rfl | rfl | rfl; exact hw0.1; exact hw1.1; exact hw2.1; exact hw3.1, hw4.1, hw4.2⟩ hP hK hD hS) hS.2.2 dX1_init_73
          · skip
            exact absurd (by decide) c25
set_option maxHeartbeats 800000 in
set_option maxRecDepth 100000 in
/-- FragmentHouseModel() -/
theorem m_init (l : Launch) (dC : Nat → ClassId) (dI : Nat → Nat → Nat) (a0 : Nat) (sz : Nat)  : Met l yX2_init wsX2_init ({ frames := 1, cells := 9, slots := 21984, locals := 12 }) (va_Pc [.ref a0] (PW (dC, dI) vwCl [] ([(a0, .inr (2, [.null, .int 0, .null, .null, .null, .null, .null, .null, .null, .null, .int 0, .int 0, .int 0]))]) sz)) (va_Qv (S := (ClassId × ClassId × ClassId) × (Nat → Nat)) (fun u => u.2 0 = a0) (QW (dC, dI) vwCl (fun u => [(u.1.1, .int), (u.1.2.1, .byte), (u.1.2.2, .boolean)]) (va_A ([(a0, .inr (2, [.null, .int 0, .null, .null, .null, .null, .null, .null, .null, .null, .int 0, .int 0, .int 0]))]) sz) (fun u => wM u.1.1 u.1.2.1 u.1.2.2 u.2 (fun _ => 0) (fun _ => 0) (fun _ => 0) (fun _ => 0) (fun _ => 0) (fun _ => 0) (fun _ => 0) (fun _ => 0) (fun _ => 0) (nI 0) (-1) 0 0)) (va_A ([(a0, .inr (2, [.null, .int 0, .null, .null, .null, .null, .null, .null, .null, .null, .int 0, .int 0, .int 0]))]) sz)) 9 21984 (va_A ([(a0, .inr (2, [.null, .int 0, .null, .null, .null, .null, .null, .null, .null, .null, .int 0, .int 0, .int 0]))]) sz) := by
  refine Met.ofW (cc := cX2_init) (maxL := 1) (ret := none) (by decide) rfl ?_
  intro p e s m args below meth c s₁ B hml hv
  obtain ⟨rfl, hsz, hP, hK, hD0⟩ := hv
  have hx := B.exec
  have hb := B.bytes
  have hr := B.returns
  have hts := atoms_spec (ws := wsX2_init) B.pre
  have hown : s.vm.findClass RX2 = some m.cls := findClass_of_methodNamed B.named
  have hlocks := B.notSynchronized
  have hin : meth.name = "<init>" := (name_of_methodNamed B.named B.method).1
  subst hsz
  have hD := hD0.self (sz := s.heap.size)
  generalize hAe : va_A ([(a0, .inr (2, [.null, .int 0, .null, .null, .null, .null, .null, .null, .null, .null, .int 0, .int 0, .int 0]))]) s.heap.size = A at hD ⊢
  have hA : ∀ q : Nat, s.heap.size ≤ q → A q := fun q h => by rw [← hAe]; exact Or.inr h
  have hS : va_S A s.heap s.heap [] := va_S.rf
  have hl := lv_entry ([.ref a0]) (n := 1) (Nat.le_of_ble_eq_true rfl)
  rw [lg_entry_eq]
  generalize (lg_sl ([.ref a0]) ++ List.replicate (1 - (lg_sl ([.ref a0])).length) Slot.unset).toArray = ls at hl ⊢
  have hl : lv_has ls 1 [(0, .ref a0)] := hl
  refine fh_start (fun H hH => ?_)
  have hP : va_P (dC, dI) vwCl ([(a0, .inr (2, [.null, .int 0, .null, .null, .null, .null, .null, .null, .null, .null, .int 0, .int 0, .int 0]))]) H := by rw [hH]; exact hP
  have hS : va_S A s.heap H [] := by rw [hH]; exact va_S.rf
  refine lv_aload_n hx hb dX2_init_0 rfl (lv_at hl 0 rfl) ?_
  refine W.objInit hx hb hown (hts (.methodLink RX2 1 objectInit) (by decide +kernel)) (hts (.instanceMethod objectInit) (by decide +kernel)) (hts _ (List.mem_of_getElem? (i := 3) rfl)) rfl (by rw [hml]; exact hl.1) rfl dX2_init_1 (Nat.le_of_ble_eq_true rfl) (Nat.le_of_ble_eq_true rfl) ?_
  refine W.eq (g2 := F0 m 4 ls []) rfl ?_
  refine lv_aload_n hx hb dX2_init_4 rfl (lv_at hl 0 rfl) ?_
  refine lv_sipush (v := 1480) hx hb dX2_init_5 (by first | decide | rfl) ?_
  refine va_newa (atype := .byte) (N' := 1480) (a0 := (1480, .inl (fun _ => 0))) (ty := .byte) (n := 1480) hx hb (hts (.arrayClass .byte) (by decide +kernel)) rfl hK hP hD hS hA (fun _ => rfl) (by decide) (by decide) (by decide) (Nat.le_of_ble_eq_true rfl) (Nat.le_of_ble_eq_true rfl) dX2_init_8 (fun a1 cB H hK hP hD hS => ?_)
  have hK : va_K (dC, dI) vwCl [(cB, .byte)] s := hK
  have hP : va_P (dC, dI) vwCl ([(a0, .inr (2, [.null, .int 0, .null, .null, .null, .null, .null, .null, .null, .null, .int 0, .int 0, .int 0])), (a1, .inl (cB, 1480, .inl (fun _ => 0)))]) H := hP
  have hD : va_D A ([(a0, .inr (2, [.null, .int 0, .null, .null, .null, .null, .null, .null, .null, .null, .int 0, .int 0, .int 0])), (a1, .inl (cB, 1480, .inl (fun _ => 0)))]) := hD
  refine va_putF (D := (dC, dI)) (ci := 2) (v := .ref a1) (ty := .array .byte) (C := RX2) (T := TX2) (N := 13) hx hb hts (by decide +kernel) tyX2 tyX2_ok nmX2 hown hK hP hD hS 0 rfl rfl 0 (by decide) (hts (.fieldLink RX2 9 "FragmentHouseModel" "tray" "[B") (by decide +kernel)) (fun _ h9 => h9) rfl hin rfl (by decide +kernel) rfl rfl (Nat.le_of_ble_eq_true rfl) dX2_init_10 (fun H locs hP hD hS => ?_)
  have hP : va_P (dC, dI) vwCl ([(a0, .inr (2, [.ref a1, .int 0, .null, .null, .null, .null, .null, .null, .null, .null, .int 0, .int 0, .int 0])), (a1, .inl (cB, 1480, .inl (fun _ => 0)))]) H := hP
  have hD : va_D A ([(a0, .inr (2, [.ref a1, .int 0, .null, .null, .null, .null, .null, .null, .null, .null, .int 0, .int 0, .int 0])), (a1, .inl (cB, 1480, .inl (fun _ => 0)))]) := hD
  refine lv_aload_n hx hb dX2_init_13 rfl (lv_at hl 0 rfl) ?_
  refine lv_iconst (v := 4) hx hb dX2_init_14 (by first | decide | rfl) ?_
  refine va_newa (atype := .int) (N' := 4) (a0 := (4, .inl (fun _ => 0))) (ty := .int) (n := 4) hx hb (hts (.arrayClass .int) (by decide +kernel)) rfl hK hP hD hS hA (fun _ => rfl) (by decide) (by decide) (by decide) (Nat.le_of_ble_eq_true rfl) (Nat.le_of_ble_eq_true rfl) dX2_init_15 (fun a2 cI H hK hP hD hS => ?_)
  have hK : va_K (dC, dI) vwCl [(cB, .byte), (cI, .int)] s := hK
  have hP : va_P (dC, dI) vwCl ([(a0, .inr (2, [.ref a1, .int 0, .null, .null, .null, .null, .null, .null, .null, .null, .int 0, .int 0, .int 0])), (a1, .inl (cB, 1480, .inl (fun _ => 0))), (a2, .inl (cI, 4, .inl (fun _ => 0)))]) H := hP
  have hD : va_D A ([(a0, .inr (2, [.ref a1, .int 0, .null, .null, .null, .null, .null, .null, .null, .null, .int 0, .int 0, .int 0])), (a1, .inl (cB, 1480, .inl (fun _ => 0))), (a2, .inl (cI, 4, .inl (fun _ => 0)))]) := hD
  refine va_putF (D := (dC, dI)) (ci := 2) (v := .ref a2) (ty := .array .int) (C := RX2) (T := TX2) (N := 13) hx hb hts (by decide +kernel) tyX2 tyX2_ok nmX2 hown hK hP hD hS 0 rfl rfl 2 (by decide) (hts (.fieldLink RX2 13 "FragmentHouseModel" "senders" "[I") (by decide +kernel)) (fun _ h9 => h9) rfl hin rfl (by decide +kernel) rfl rfl (Nat.le_of_ble_eq_true rfl) dX2_init_17 (fun H locs hP hD hS => ?_)
  have hP : va_P (dC, dI) vwCl ([(a0, .inr (2, [.ref a1, .int 0, .ref a2, .null, .null, .null, .null, .null, .null, .null, .int 0, .int 0, .int 0])), (a1, .inl (cB, 1480, .inl (fun _ => 0))), (a2, .inl (cI, 4, .inl (fun _ => 0)))]) H := hP
  have hD : va_D A ([(a0, .inr (2, [.ref a1, .int 0, .ref a2, .null, .null, .null, .null, .null, .null, .null, .int 0, .int 0, .int 0])), (a1, .inl (cB, 1480, .inl (fun _ => 0))), (a2, .inl (cI, 4, .inl (fun _ => 0)))]) := hD
  refine lv_aload_n hx hb dX2_init_20 rfl (lv_at hl 0 rfl) ?_
  refine lv_iconst (v := 4) hx hb dX2_init_21 (by first | decide | rfl) ?_
  refine va_newa (atype := .int) (N' := 4) (a0 := (4, .inl (fun _ => 0))) (ty := .int) (n := 4) hx hb (hts (.arrayClass .int) (by decide +kernel)) rfl hK hP hD hS hA (fun _ => rfl) (by decide) (by decide) (by decide) (Nat.le_of_ble_eq_true rfl) (Nat.le_of_ble_eq_true rfl) dX2_init_22 (fun a3 cx H hK hP hD hS => ?_)
  have e9 := va_sameI (i := 1) (j := 2) hK rfl rfl
  subst e9
  have hK : va_K (dC, dI) vwCl [(cB, .byte), (cI, .int)] s := hK.sub [0, 1] rfl
  have hP : va_P (dC, dI) vwCl ([(a0, .inr (2, [.ref a1, .int 0, .ref a2, .null, .null, .null, .null, .null, .null, .null, .int 0, .int 0, .int 0])), (a1, .inl (cB, 1480, .inl (fun _ => 0))), (a2, .inl (cI, 4, .inl (fun _ => 0))), (a3, .inl (cI, 4, .inl (fun _ => 0)))]) H := hP
  have hD : va_D A ([(a0, .inr (2, [.ref a1, .int 0, .ref a2, .null, .null, .null, .null, .null, .null, .null, .int 0, .int 0, .int 0])), (a1, .inl (cB, 1480, .inl (fun _ => 0))), (a2, .inl (cI, 4, .inl (fun _ => 0))), (a3, .inl (cI, 4, .inl (fun _ => 0)))]) := hD
  refine va_putF (D := (dC, dI)) (ci := 2) (v := .ref a3) (ty := .array .int) (C := RX2) (T := TX2) (N := 13) hx hb hts (by decide +kernel) tyX2 tyX2_ok nmX2 hown hK hP hD hS 0 rfl rfl 3 (by decide) (hts (.fieldLink RX2 17 "FragmentHouseModel" "identifications" "[I") (by decide +kernel)) (fun _ h9 => h9) rfl hin rfl (by decide +kernel) rfl rfl (Nat.le_of_ble_eq_true rfl) dX2_init_24 (fun H locs hP hD hS => ?_)
  have hP : va_P (dC, dI) vwCl ([(a0, .inr (2, [.ref a1, .int 0, .ref a2, .ref a3, .null, .null, .null, .null, .null, .null, .int 0, .int 0, .int 0])), (a1, .inl (cB, 1480, .inl (fun _ => 0))), (a2, .inl (cI, 4, .inl (fun _ => 0))), (a3, .inl (cI, 4, .inl (fun _ => 0)))]) H := hP
  have hD : va_D A ([(a0, .inr (2, [.ref a1, .int 0, .ref a2, .ref a3, .null, .null, .null, .null, .null, .null, .int 0, .int 0, .int 0])), (a1, .inl (cB, 1480, .inl (fun _ => 0))), (a2, .inl (cI, 4, .inl (fun _ => 0))), (a3, .inl (cI, 4, .inl (fun _ => 0)))]) := hD
  refine lv_aload_n hx hb dX2_init_27 rfl (lv_at hl 0 rfl) ?_
  refine lv_iconst (v := 4) hx hb dX2_init_28 (by first | decide | rfl) ?_
  refine va_newa (atype := .int) (N' := 4) (a0 := (4, .inl (fun _ => 0))) (ty := .int) (n := 4) hx hb (hts (.arrayClass .int) (by decide +kernel)) rfl hK hP hD hS hA (fun _ => rfl) (by decide) (by decide) (by decide) (Nat.le_of_ble_eq_true rfl) (Nat.le_of_ble_eq_true rfl) dX2_init_29 (fun a4 cx H hK hP hD hS => ?_)
  have e9 := va_sameI (i := 1) (j := 2) hK rfl rfl
  subst e9
  have hK : va_K (dC, dI) vwCl [(cB, .byte), (cI, .int)] s := hK.sub [0, 1] rfl
  have hP : va_P (dC, dI) vwCl ([(a0, .inr (2, [.ref a1, .int 0, .ref a2, .ref a3, .null, .null, .null, .null, .null, .null, .int 0, .int 0, .int 0])), (a1, .inl (cB, 1480, .inl (fun _ => 0))), (a2, .inl (cI, 4, .inl (fun _ => 0))), (a3, .inl (cI, 4, .inl (fun _ => 0))), (a4, .inl (cI, 4, .inl (fun _ => 0)))]) H := hP
  have hD : va_D A ([(a0, .inr (2, [.ref a1, .int 0, .ref a2, .ref a3, .null, .null, .null, .null, .null, .null, .int 0, .int 0, .int 0])), (a1, .inl (cB, 1480, .inl (fun _ => 0))), (a2, .inl (cI, 4, .inl (fun _ => 0))), (a3, .inl (cI, 4, .inl (fun _ => 0))), (a4, .inl (cI, 4, .inl (fun _ => 0)))]) := hD
  refine va_putF (D := (dC, dI)) (ci := 2) (v := .ref a4) (ty := .array .int) (C := RX2) (T := TX2) (N := 13) hx hb hts (by decide +kernel) tyX2 tyX2_ok nmX2 hown hK hP hD hS 0 rfl rfl 4 (by decide) (hts (.fieldLink RX2 20 "FragmentHouseModel" "protocols" "[I") (by decide +kernel)) (fun _ h9 => h9) rfl hin rfl (by decide +kernel) rfl rfl (Nat.le_of_ble_eq_true rfl) dX2_init_31 (fun H locs hP hD hS => ?_)
  have hP : va_P (dC, dI) vwCl ([(a0, .inr (2, [.ref a1, .int 0, .ref a2, .ref a3, .ref a4, .null, .null, .null, .null, .null, .int 0, .int 0, .int 0])), (a1, .inl (cB, 1480, .inl (fun _ => 0))), (a2, .inl (cI, 4, .inl (fun _ => 0))), (a3, .inl (cI, 4, .inl (fun _ => 0))), (a4, .inl (cI, 4, .inl (fun _ => 0)))]) H := hP
  have hD : va_D A ([(a0, .inr (2, [.ref a1, .int 0, .ref a2, .ref a3, .ref a4, .null, .null, .null, .null, .null, .int 0, .int 0, .int 0])), (a1, .inl (cB, 1480, .inl (fun _ => 0))), (a2, .inl (cI, 4, .inl (fun _ => 0))), (a3, .inl (cI, 4, .inl (fun _ => 0))), (a4, .inl (cI, 4, .inl (fun _ => 0)))]) := hD
  refine lv_aload_n hx hb dX2_init_34 rfl (lv_at hl 0 rfl) ?_
  refine lv_iconst (v := 4) hx hb dX2_init_35 (by first | decide | rfl) ?_
  refine va_newa (atype := .int) (N' := 4) (a0 := (4, .inl (fun _ => 0))) (ty := .int) (n := 4) hx hb (hts (.arrayClass .int) (by decide +kernel)) rfl hK hP hD hS hA (fun _ => rfl) (by decide) (by decide) (by decide) (Nat.le_of_ble_eq_true rfl) (Nat.le_of_ble_eq_true rfl) dX2_init_36 (fun a5 cx H hK hP hD hS => ?_)
  have e9 := va_sameI (i := 1) (j := 2) hK rfl rfl
  subst e9
  have hK : va_K (dC, dI) vwCl [(cB, .byte), (cI, .int)] s := hK.sub [0, 1] rfl
  have hP : va_P (dC, dI) vwCl ([(a0, .inr (2, [.ref a1, .int 0, .ref a2, .ref a3, .ref a4, .null, .null, .null, .null, .null, .int 0, .int 0, .int 0])), (a1, .inl (cB, 1480, .inl (fun _ => 0))), (a2, .inl (cI, 4, .inl (fun _ => 0))), (a3, .inl (cI, 4, .inl (fun _ => 0))), (a4, .inl (cI, 4, .inl (fun _ => 0))), (a5, .inl (cI, 4, .inl (fun _ => 0)))]) H := hP
  have hD : va_D A ([(a0, .inr (2, [.ref a1, .int 0, .ref a2, .ref a3, .ref a4, .null, .null, .null, .null, .null, .int 0, .int 0, .int 0])), (a1, .inl (cB, 1480, .inl (fun _ => 0))), (a2, .inl (cI, 4, .inl (fun _ => 0))), (a3, .inl (cI, 4, .inl (fun _ => 0))), (a4, .inl (cI, 4, .inl (fun _ => 0))), (a5, .inl (cI, 4, .inl (fun _ => 0)))]) := hD
  refine va_putF (D := (dC, dI)) (ci := 2) (v := .ref a5) (ty := .array .int) (C := RX2) (T := TX2) (N := 13) hx hb hts (by decide +kernel) tyX2 tyX2_ok nmX2 hown hK hP hD hS 0 rfl rfl 5 (by decide) (hts (.fieldLink RX2 23 "FragmentHouseModel" "ends" "[I") (by decide +kernel)) (fun _ h9 => h9) rfl hin rfl (by decide +kernel) rfl rfl (Nat.le_of_ble_eq_true rfl) dX2_init_38 (fun H locs hP hD hS => ?_)
  have hP : va_P (dC, dI) vwCl ([(a0, .inr (2, [.ref a1, .int 0, .ref a2, .ref a3, .ref a4, .ref a5, .null, .null, .null, .null, .int 0, .int 0, .int 0])), (a1, .inl (cB, 1480, .inl (fun _ => 0))), (a2, .inl (cI, 4, .inl (fun _ => 0))), (a3, .inl (cI, 4, .inl (fun _ => 0))), (a4, .inl (cI, 4, .inl (fun _ => 0))), (a5, .inl (cI, 4, .inl (fun _ => 0)))]) H := hP
  have hD : va_D A ([(a0, .inr (2, [.ref a1, .int 0, .ref a2, .ref a3, .ref a4, .ref a5, .null, .null, .null, .null, .int 0, .int 0, .int 0])), (a1, .inl (cB, 1480, .inl (fun _ => 0))), (a2, .inl (cI, 4, .inl (fun _ => 0))), (a3, .inl (cI, 4, .inl (fun _ => 0))), (a4, .inl (cI, 4, .inl (fun _ => 0))), (a5, .inl (cI, 4, .inl (fun _ => 0)))]) := hD
  refine lv_aload_n hx hb dX2_init_41 rfl (lv_at hl 0 rfl) ?_
  refine lv_iconst (v := 4) hx hb dX2_init_42 (by first | decide | rfl) ?_
  refine va_newa (atype := .int) (N' := 4) (a0 := (4, .inl (fun _ => 0))) (ty := .int) (n := 4) hx hb (hts (.arrayClass .int) (by decide +kernel)) rfl hK hP hD hS hA (fun _ => rfl) (by decide) (by decide) (by decide) (Nat.le_of_ble_eq_true rfl) (Nat.le_of_ble_eq_true rfl) dX2_init_43 (fun a6 cx H hK hP hD hS => ?_)
  have e9 := va_sameI (i := 1) (j := 2) hK rfl rfl
  subst e9
  have hK : va_K (dC, dI) vwCl [(cB, .byte), (cI, .int)] s := hK.sub [0, 1] rfl
  have hP : va_P (dC, dI) vwCl ([(a0, .inr (2, [.ref a1, .int 0, .ref a2, .ref a3, .ref a4, .ref a5, .null, .null, .null, .null, .int 0, .int 0, .int 0])), (a1, .inl (cB, 1480, .inl (fun _ => 0))), (a2, .inl (cI, 4, .inl (fun _ => 0))), (a3, .inl (cI, 4, .inl (fun _ => 0))), (a4, .inl (cI, 4, .inl (fun _ => 0))), (a5, .inl (cI, 4, .inl (fun _ => 0))), (a6, .inl (cI, 4, .inl (fun _ => 0)))]) H := hP
  have hD : va_D A ([(a0, .inr (2, [.ref a1, .int 0, .ref a2, .ref a3, .ref a4, .ref a5, .null, .null, .null, .null, .int 0, .int 0, .int 0])), (a1, .inl (cB, 1480, .inl (fun _ => 0))), (a2, .inl (cI, 4, .inl (fun _ => 0))), (a3, .inl (cI, 4, .inl (fun _ => 0))), (a4, .inl (cI, 4, .inl (fun _ => 0))), (a5, .inl (cI, 4, .inl (fun _ => 0))), (a6, .inl (cI, 4, .inl (fun _ => 0)))]) := hD
  refine va_putF (D := (dC, dI)) (ci := 2) (v := .ref a6) (ty := .array .int) (C := RX2) (T := TX2) (N := 13) hx hb hts (by decide +kernel) tyX2 tyX2_ok nmX2 hown hK hP hD hS 0 rfl rfl 6 (by decide) (hts (.fieldLink RX2 26 "FragmentHouseModel" "begun" "[I") (by decide +kernel)) (fun _ h9 => h9) rfl hin rfl (by decide +kernel) rfl rfl (Nat.le_of_ble_eq_true rfl) dX2_init_45 (fun H locs hP hD hS => ?_)
  have hP : va_P (dC, dI) vwCl ([(a0, .inr (2, [.ref a1, .int 0, .ref a2, .ref a3, .ref a4, .ref a5, .ref a6, .null, .null, .null, .int 0, .int 0, .int 0])), (a1, .inl (cB, 1480, .inl (fun _ => 0))), (a2, .inl (cI, 4, .inl (fun _ => 0))), (a3, .inl (cI, 4, .inl (fun _ => 0))), (a4, .inl (cI, 4, .inl (fun _ => 0))), (a5, .inl (cI, 4, .inl (fun _ => 0))), (a6, .inl (cI, 4, .inl (fun _ => 0)))]) H := hP
  have hD : va_D A ([(a0, .inr (2, [.ref a1, .int 0, .ref a2, .ref a3, .ref a4, .ref a5, .ref a6, .null, .null, .null, .int 0, .int 0, .int 0])), (a1, .inl (cB, 1480, .inl (fun _ => 0))), (a2, .inl (cI, 4, .inl (fun _ => 0))), (a3, .inl (cI, 4, .inl (fun _ => 0))), (a4, .inl (cI, 4, .inl (fun _ => 0))), (a5, .inl (cI, 4, .inl (fun _ => 0))), (a6, .inl (cI, 4, .inl (fun _ => 0)))]) := hD
  refine lv_aload_n hx hb dX2_init_48 rfl (lv_at hl 0 rfl) ?_
  refine lv_iconst (v := 4) hx hb dX2_init_49 (by first | decide | rfl) ?_
  refine va_newa (atype := .boolean) (N' := 4) (a0 := (4, .inl (fun _ => 0))) (ty := .boolean) (n := 4) hx hb (hts (.arrayClass .boolean) (by decide +kernel)) rfl hK hP hD hS hA (fun _ => rfl) (by decide) (by decide) (by decide) (Nat.le_of_ble_eq_true rfl) (Nat.le_of_ble_eq_true rfl) dX2_init_50 (fun a7 cZ H hK hP hD hS => ?_)
  have hK : va_K (dC, dI) vwCl [(cB, .byte), (cI, .int), (cZ, .boolean)] s := hK
  have hP : va_P (dC, dI) vwCl ([(a0, .inr (2, [.ref a1, .int 0, .ref a2, .ref a3, .ref a4, .ref a5, .ref a6, .null, .null, .null, .int 0, .int 0, .int 0])), (a1, .inl (cB, 1480, .inl (fun _ => 0))), (a2, .inl (cI, 4, .inl (fun _ => 0))), (a3, .inl (cI, 4, .inl (fun _ => 0))), (a4, .inl (cI, 4, .inl (fun _ => 0))), (a5, .inl (cI, 4, .inl (fun _ => 0))), (a6, .inl (cI, 4, .inl (fun _ => 0))), (a7, .inl (cZ, 4, .inl (fun _ => 0)))]) H := hP
  have hD : va_D A ([(a0, .inr (2, [.ref a1, .int 0, .ref a2, .ref a3, .ref a4, .ref a5, .ref a6, .null, .null, .null, .int 0, .int 0, .int 0])), (a1, .inl (cB, 1480, .inl (fun _ => 0))), (a2, .inl (cI, 4, .inl (fun _ => 0))), (a3, .inl (cI, 4, .inl (fun _ => 0))), (a4, .inl (cI, 4, .inl (fun _ => 0))), (a5, .inl (cI, 4, .inl (fun _ => 0))), (a6, .inl (cI, 4, .inl (fun _ => 0))), (a7, .inl (cZ, 4, .inl (fun _ => 0)))]) := hD
  refine va_putF (D := (dC, dI)) (ci := 2) (v := .ref a7) (ty := .array .boolean) (C := RX2) (T := TX2) (N := 13) hx hb hts (by decide +kernel) tyX2 tyX2_ok nmX2 hown hK hP hD hS 0 rfl rfl 7 (by decide) (hts (.fieldLink RX2 29 "FragmentHouseModel" "there" "[Z") (by decide +kernel)) (fun _ h9 => h9) rfl hin rfl (by decide +kernel) rfl rfl (Nat.le_of_ble_eq_true rfl) dX2_init_52 (fun H locs hP hD hS => ?_)
  have hP : va_P (dC, dI) vwCl ([(a0, .inr (2, [.ref a1, .int 0, .ref a2, .ref a3, .ref a4, .ref a5, .ref a6, .ref a7, .null, .null, .int 0, .int 0, .int 0])), (a1, .inl (cB, 1480, .inl (fun _ => 0))), (a2, .inl (cI, 4, .inl (fun _ => 0))), (a3, .inl (cI, 4, .inl (fun _ => 0))), (a4, .inl (cI, 4, .inl (fun _ => 0))), (a5, .inl (cI, 4, .inl (fun _ => 0))), (a6, .inl (cI, 4, .inl (fun _ => 0))), (a7, .inl (cZ, 4, .inl (fun _ => 0)))]) H := hP
  have hD : va_D A ([(a0, .inr (2, [.ref a1, .int 0, .ref a2, .ref a3, .ref a4, .ref a5, .ref a6, .ref a7, .null, .null, .int 0, .int 0, .int 0])), (a1, .inl (cB, 1480, .inl (fun _ => 0))), (a2, .inl (cI, 4, .inl (fun _ => 0))), (a3, .inl (cI, 4, .inl (fun _ => 0))), (a4, .inl (cI, 4, .inl (fun _ => 0))), (a5, .inl (cI, 4, .inl (fun _ => 0))), (a6, .inl (cI, 4, .inl (fun _ => 0))), (a7, .inl (cZ, 4, .inl (fun _ => 0)))]) := hD
  refine lv_aload_n hx hb dX2_init_55 rfl (lv_at hl 0 rfl) ?_
  refine lv_sipush (v := 16384) hx hb dX2_init_56 (by first | decide | rfl) ?_
  refine va_newa (atype := .int) (N' := 16384) (a0 := (16384, .inl (fun _ => 0))) (ty := .int) (n := 16384) hx hb (hts (.arrayClass .int) (by decide +kernel)) rfl hK hP hD hS hA (fun _ => rfl) (by decide) (by decide) (by decide) (Nat.le_of_ble_eq_true rfl) (Nat.le_of_ble_eq_true rfl) dX2_init_59 (fun a8 cx H hK hP hD hS => ?_)
  have e9 := va_sameI (i := 1) (j := 3) hK rfl rfl
  subst e9
  have hK : va_K (dC, dI) vwCl [(cB, .byte), (cI, .int), (cZ, .boolean)] s := hK.sub [0, 1, 2] rfl
  have hP : va_P (dC, dI) vwCl ([(a0, .inr (2, [.ref a1, .int 0, .ref a2, .ref a3, .ref a4, .ref a5, .ref a6, .ref a7, .null, .null, .int 0, .int 0, .int 0])), (a1, .inl (cB, 1480, .inl (fun _ => 0))), (a2, .inl (cI, 4, .inl (fun _ => 0))), (a3, .inl (cI, 4, .inl (fun _ => 0))), (a4, .inl (cI, 4, .inl (fun _ => 0))), (a5, .inl (cI, 4, .inl (fun _ => 0))), (a6, .inl (cI, 4, .inl (fun _ => 0))), (a7, .inl (cZ, 4, .inl (fun _ => 0))), (a8, .inl (cI, 16384, .inl (fun _ => 0)))]) H := hP
  have hD : va_D A ([(a0, .inr (2, [.ref a1, .int 0, .ref a2, .ref a3, .ref a4, .ref a5, .ref a6, .ref a7, .null, .null, .int 0, .int 0, .int 0])), (a1, .inl (cB, 1480, .inl (fun _ => 0))), (a2, .inl (cI, 4, .inl (fun _ => 0))), (a3, .inl (cI, 4, .inl (fun _ => 0))), (a4, .inl (cI, 4, .inl (fun _ => 0))), (a5, .inl (cI, 4, .inl (fun _ => 0))), (a6, .inl (cI, 4, .inl (fun _ => 0))), (a7, .inl (cZ, 4, .inl (fun _ => 0))), (a8, .inl (cI, 16384, .inl (fun _ => 0)))]) := hD
  refine va_putF (D := (dC, dI)) (ci := 2) (v := .ref a8) (ty := .array .int) (C := RX2) (T := TX2) (N := 13) hx hb hts (by decide +kernel) tyX2 tyX2_ok nmX2 hown hK hP hD hS 0 rfl rfl 8 (by decide) (hts (.fieldLink RX2 33 "FragmentHouseModel" "bytes" "[I") (by decide +kernel)) (fun _ h9 => h9) rfl hin rfl (by decide +kernel) rfl rfl (Nat.le_of_ble_eq_true rfl) dX2_init_61 (fun H locs hP hD hS => ?_)
  have hP : va_P (dC, dI) vwCl ([(a0, .inr (2, [.ref a1, .int 0, .ref a2, .ref a3, .ref a4, .ref a5, .ref a6, .ref a7, .ref a8, .null, .int 0, .int 0, .int 0])), (a1, .inl (cB, 1480, .inl (fun _ => 0))), (a2, .inl (cI, 4, .inl (fun _ => 0))), (a3, .inl (cI, 4, .inl (fun _ => 0))), (a4, .inl (cI, 4, .inl (fun _ => 0))), (a5, .inl (cI, 4, .inl (fun _ => 0))), (a6, .inl (cI, 4, .inl (fun _ => 0))), (a7, .inl (cZ, 4, .inl (fun _ => 0))), (a8, .inl (cI, 16384, .inl (fun _ => 0)))]) H := hP
  have hD : va_D A ([(a0, .inr (2, [.ref a1, .int 0, .ref a2, .ref a3, .ref a4, .ref a5, .ref a6, .ref a7, .ref a8, .null, .int 0, .int 0, .int 0])), (a1, .inl (cB, 1480, .inl (fun _ => 0))), (a2, .inl (cI, 4, .inl (fun _ => 0))), (a3, .inl (cI, 4, .inl (fun _ => 0))), (a4, .inl (cI, 4, .inl (fun _ => 0))), (a5, .inl (cI, 4, .inl (fun _ => 0))), (a6, .inl (cI, 4, .inl (fun _ => 0))), (a7, .inl (cZ, 4, .inl (fun _ => 0))), (a8, .inl (cI, 16384, .inl (fun _ => 0)))]) := hD
  refine lv_aload_n hx hb dX2_init_64 rfl (lv_at hl 0 rfl) ?_
  refine lv_sipush (v := 4096) hx hb dX2_init_65 (by first | decide | rfl) ?_
  refine va_newa (atype := .int) (N' := 4096) (a0 := (4096, .inl (fun _ => 0))) (ty := .int) (n := 4096) hx hb (hts (.arrayClass .int) (by decide +kernel)) rfl hK hP hD hS hA (fun _ => rfl) (by decide) (by decide) (by decide) (Nat.le_of_ble_eq_true rfl) (Nat.le_of_ble_eq_true rfl) dX2_init_68 (fun a9 cx H hK hP hD hS => ?_)
  have e9 := va_sameI (i := 1) (j := 3) hK rfl rfl
  subst e9
  have hK : va_K (dC, dI) vwCl [(cB, .byte), (cI, .int), (cZ, .boolean)] s := hK.sub [0, 1, 2] rfl
  have hP : va_P (dC, dI) vwCl ([(a0, .inr (2, [.ref a1, .int 0, .ref a2, .ref a3, .ref a4, .ref a5, .ref a6, .ref a7, .ref a8, .null, .int 0, .int 0, .int 0])), (a1, .inl (cB, 1480, .inl (fun _ => 0))), (a2, .inl (cI, 4, .inl (fun _ => 0))), (a3, .inl (cI, 4, .inl (fun _ => 0))), (a4, .inl (cI, 4, .inl (fun _ => 0))), (a5, .inl (cI, 4, .inl (fun _ => 0))), (a6, .inl (cI, 4, .inl (fun _ => 0))), (a7, .inl (cZ, 4, .inl (fun _ => 0))), (a8, .inl (cI, 16384, .inl (fun _ => 0))), (a9, .inl (cI, 4096, .inl (fun _ => 0)))]) H := hP
  have hD : va_D A ([(a0, .inr (2, [.ref a1, .int 0, .ref a2, .ref a3, .ref a4, .ref a5, .ref a6, .ref a7, .ref a8, .null, .int 0, .int 0, .int 0])), (a1, .inl (cB, 1480, .inl (fun _ => 0))), (a2, .inl (cI, 4, .inl (fun _ => 0))), (a3, .inl (cI, 4, .inl (fun _ => 0))), (a4, .inl (cI, 4, .inl (fun _ => 0))), (a5, .inl (cI, 4, .inl (fun _ => 0))), (a6, .inl (cI, 4, .inl (fun _ => 0))), (a7, .inl (cZ, 4, .inl (fun _ => 0))), (a8, .inl (cI, 16384, .inl (fun _ => 0))), (a9, .inl (cI, 4096, .inl (fun _ => 0)))]) := hD
  refine va_putF (D := (dC, dI)) (ci := 2) (v := .ref a9) (ty := .array .int) (C := RX2) (T := TX2) (N := 13) hx hb hts (by decide +kernel) tyX2 tyX2_ok nmX2 hown hK hP hD hS 0 rfl rfl 9 (by decide) (hts (.fieldLink RX2 36 "FragmentHouseModel" "whole" "[I") (by decide +kernel)) (fun _ h9 => h9) rfl hin rfl (by decide +kernel) rfl rfl (Nat.le_of_ble_eq_true rfl) dX2_init_70 (fun H locs hP hD hS => ?_)
  have hP : va_P (dC, dI) vwCl ([(a0, .inr (2, [.ref a1, .int 0, .ref a2, .ref a3, .ref a4, .ref a5, .ref a6, .ref a7, .ref a8, .ref a9, .int 0, .int 0, .int 0])), (a1, .inl (cB, 1480, .inl (fun _ => 0))), (a2, .inl (cI, 4, .inl (fun _ => 0))), (a3, .inl (cI, 4, .inl (fun _ => 0))), (a4, .inl (cI, 4, .inl (fun _ => 0))), (a5, .inl (cI, 4, .inl (fun _ => 0))), (a6, .inl (cI, 4, .inl (fun _ => 0))), (a7, .inl (cZ, 4, .inl (fun _ => 0))), (a8, .inl (cI, 16384, .inl (fun _ => 0))), (a9, .inl (cI, 4096, .inl (fun _ => 0)))]) H := hP
  have hD : va_D A ([(a0, .inr (2, [.ref a1, .int 0, .ref a2, .ref a3, .ref a4, .ref a5, .ref a6, .ref a7, .ref a8, .ref a9, .int 0, .int 0, .int 0])), (a1, .inl (cB, 1480, .inl (fun _ => 0))), (a2, .inl (cI, 4, .inl (fun _ => 0))), (a3, .inl (cI, 4, .inl (fun _ => 0))), (a4, .inl (cI, 4, .inl (fun _ => 0))), (a5, .inl (cI, 4, .inl (fun _ => 0))), (a6, .inl (cI, 4, .inl (fun _ => 0))), (a7, .inl (cZ, 4, .inl (fun _ => 0))), (a8, .inl (cI, 16384, .inl (fun _ => 0))), (a9, .inl (cI, 4096, .inl (fun _ => 0)))]) := hD
  refine lv_aload_n hx hb dX2_init_73 rfl (lv_at hl 0 rfl) ?_
  refine lv_iconst (v := (-1)) hx hb dX2_init_74 (by first | decide | rfl) ?_
  refine va_put (D := (dC, dI)) (ci := 2) (v := .int ((-1))) (ty := .int) (C := RX2) (T := TX2) (N := 13) hx hb hts (by decide +kernel) tyX2 tyX2_ok nmX2 hown hK hP hD hS 0 rfl rfl 10 (by decide) (hts (.fieldLink RX2 39 "FragmentHouseModel" "length" "I") (by decide +kernel)) (fun _ h9 => h9) rfl (by decide +kernel) rfl rfl (Nat.le_of_ble_eq_true rfl) dX2_init_75 (fun H locs hP hD hS => ?_)
  have hP : va_P (dC, dI) vwCl ([(a0, .inr (2, [.ref a1, .int 0, .ref a2, .ref a3, .ref a4, .ref a5, .ref a6, .ref a7, .ref a8, .ref a9, .int ((-1)), .int 0, .int 0])), (a1, .inl (cB, 1480, .inl (fun _ => 0))), (a2, .inl (cI, 4, .inl (fun _ => 0))), (a3, .inl (cI, 4, .inl (fun _ => 0))), (a4, .inl (cI, 4, .inl (fun _ => 0))), (a5, .inl (cI, 4, .inl (fun _ => 0))), (a6, .inl (cI, 4, .inl (fun _ => 0))), (a7, .inl (cZ, 4, .inl (fun _ => 0))), (a8, .inl (cI, 16384, .inl (fun _ => 0))), (a9, .inl (cI, 4096, .inl (fun _ => 0)))]) H := hP
  have hD : va_D A ([(a0, .inr (2, [.ref a1, .int 0, .ref a2, .ref a3, .ref a4, .ref a5, .ref a6, .ref a7, .ref a8, .ref a9, .int ((-1)), .int 0, .int 0])), (a1, .inl (cB, 1480, .inl (fun _ => 0))), (a2, .inl (cI, 4, .inl (fun _ => 0))), (a3, .inl (cI, 4, .inl (fun _ => 0))), (a4, .inl (cI, 4, .inl (fun _ => 0))), (a5, .inl (cI, 4, .inl (fun _ => 0))), (a6, .inl (cI, 4, .inl (fun _ => 0))), (a7, .inl (cZ, 4, .inl (fun _ => 0))), (a8, .inl (cI, 16384, .inl (fun _ => 0))), (a9, .inl (cI, 4096, .inl (fun _ => 0)))]) := hD
  have hK : va_K (dC, dI) vwCl [(cI, .int), (cB, .byte), (cZ, .boolean)] s := hK.sub [1, 0, 2] rfl
  have hP : va_P (dC, dI) vwCl (wM cI cB cZ (af a0 a1 a2 a3 a4 a5 a6 a7 a8 a9) (fun _ => 0) (fun _ => 0) (fun _ => 0) (fun _ => 0) (fun _ => 0) (fun _ => 0) (fun _ => 0) (fun _ => 0) (fun _ => 0) (nI 0) (-1) 0 0) H := hP
  have hD : va_D A (wM cI cB cZ (af a0 a1 a2 a3 a4 a5 a6 a7 a8 a9) (fun _ => 0) (fun _ => 0) (fun _ => 0) (fun _ => 0) (fun _ => 0) (fun _ => 0) (fun _ => 0) (fun _ => 0) (fun _ => 0) (nI 0) (-1) 0 0) := hD
  refine W.widen (k := 9) (n := 21984) (by omega) (by omega) ?_
  exact W.vret hx hb hr (fh_qv ((cI, cB, cZ), (af a0 a1 a2 a3 a4 a5 a6 a7 a8 a9)) (by rfl) hP hK hD hS) hS.2.2 dX2_init_78
end
section
/-! ===== Int32 by its bits: bt x i ===== -/
def bt (x : Int32) (i : Nat) : Bool := x.toBitVec.getLsbD i
theorem b_ext {x y : Int32} (h : ∀ i, i < 32 → bt x i = bt y i) : x = y := Int32.toBitVec_inj.mp (BitVec.eq_of_getLsbD_eq (fun i hi => h i hi))
theorem b_or (x y : Int32) (i : Nat) : bt (x ||| y) i = (bt x i || bt y i) := by unfold bt; rw [Int32.toBitVec_or, BitVec.getLsbD_or]
theorem b_and (x y : Int32) (i : Nat) : bt (x &&& y) i = (bt x i && bt y i) := by unfold bt; rw [Int32.toBitVec_and, BitVec.getLsbD_and]
theorem b_xor (x y : Int32) (i : Nat) : bt (x ^^^ y) i = (bt x i ^^ bt y i) := by unfold bt; rw [Int32.toBitVec_xor, BitVec.getLsbD_xor]
theorem b_big {x : Int32} {i : Nat} (h : 32 ≤ i) : bt x i = false := BitVec.getLsbD_of_ge _ _ h
theorem b_255 (i : Nat) : bt 255 i = decide (i < 8) := by
  rcases Nat.lt_or_ge i 32 with h | h
  · exact (by decide +kernel : ∀ i, i < 32 → bt 255 i = decide (i < 8)) i h
  · rw [b_big h, decide_eq_false (by omega)]
theorem b_m1 : ∀ i, i < 32 → bt (-1) i = true := by decide +kernel
theorem b_0 (i : Nat) : bt 0 i = false := BitVec.getLsbD_zero
theorem s_l : ∀ n, n < 32 → ((nI n &&& 31).toBitVec.smod 32).toNat = n := by decide +kernel
theorem s_u : ∀ n, n < 32 → (((nI n).toUInt32 &&& Int32.toUInt32 31).toBitVec % 32).toNat = n := by decide +kernel
theorem b_ushr (n : Nat) (hn : n < 32) (x : Int32) (i : Nat) : bt ((x.toUInt32 >>> ((nI n).toUInt32 &&& Int32.toUInt32 31)).toInt32) i = bt x (n + i) := by
  show (x.toUInt32 >>> ((nI n).toUInt32 &&& Int32.toUInt32 31)).toBitVec.getLsbD i = x.toUInt32.toBitVec.getLsbD (n + i)
  rw [UInt32.toBitVec_shiftRight]
  show (x.toUInt32.toBitVec >>> (((nI n).toUInt32 &&& Int32.toUInt32 31).toBitVec % 32).toNat).getLsbD i = _
  rw [s_u n hn, BitVec.getLsbD_ushiftRight]
theorem b_sshr (n : Nat) (hn : n < 32) (x : Int32) {i : Nat} (hi : i < 32) : bt (x >>> (nI n &&& 31)) i = if n + i < 32 then bt x (n + i) else bt x 31 := by
  unfold bt
  rw [Int32.toBitVec_shiftRight]
  show (x.toBitVec.sshiftRight ((nI n &&& 31).toBitVec.smod 32).toNat).getLsbD i = _
  rw [s_l n hn, BitVec.getLsbD_sshiftRight, BitVec.msb_eq_getLsbD_last]
  simp [hi]
/-! ===== a byte read unsigned ===== -/
theorem bp_b (x : Int32) : x.toInt8.toInt32 &&& 255 = x &&& 255 := by
  apply Int32.toBitVec_inj.mp
  rw [Int32.toBitVec_and, Int32.toBitVec_and, Int8.toBitVec_toInt32, Int32.toBitVec_toInt8]
  apply BitVec.eq_of_getLsbD_eq
  intro i hi
  rw [BitVec.getLsbD_and, BitVec.getLsbD_and]
  have hm : ∀ i < 32, 8 ≤ i → (255 : Int32).toBitVec.getLsbD i = false := by decide
  rcases Nat.lt_or_ge i 8 with z | z
  · rw [BitVec.getLsbD_signExtend, BitVec.getLsbD_signExtend, if_pos z, if_pos hi]
    simp only [z, hi, decide_true, Bool.true_and]
  · rw [hm i hi z]; simp
/-! the tray's bytes: the class's are the reference's, read unsigned -/
theorem sh_k {k : Nat} (hk : k < 4) : ∃ n : Nat, n ≤ 24 ∧ (24 - 8 * nI k : Int32) = nI n := by
  rcases lt4 hk with rfl | rfl | rfl | rfl
  · exact ⟨24, by omega, by decide⟩
  · exact ⟨16, by omega, by decide⟩
  · exact ⟨8, by omega, by decide⟩
  · exact ⟨0, by omega, by decide⟩
theorem bv_mb (v : Int32) {k : Nat} (hk : k < 4) : bv v k = mb v k &&& 255 := by
  unfold bv mb
  rw [bp_b]
  obtain ⟨n, hn, e⟩ := sh_k hk
  rw [e]
  apply b_ext
  intro i hi
  rw [b_and, b_and, b_255]
  rcases Nat.lt_or_ge i 8 with z | z
  · rw [b_ushr n (by omega), b_sshr n (by omega) v hi, if_pos (by omega)]
  · rw [decide_eq_false (by omega), Bool.and_false, Bool.and_false]
theorem wr_rel {T U : Nat → Int32} {p k : Nat} {b d : Nat → Int32} (h : ∀ j, T j = U j &&& 255) (hb : ∀ j, j < k → b j = d j &&& 255) : ∀ j, wrT T p k b j = wrT U p k d j &&& 255 := by
  intro j
  unfold wrT
  by_cases hc : p ≤ j ∧ j < p + k
  · rw [if_pos hc, if_pos hc]
    exact hb _ (by omega)
  · rw [if_neg hc, if_neg hc]
    exact h j
theorem fd_rel {T U : Nat → Int32} {q : Nat} {a1 a2 a3 a4 a5 : Int32} (h : ∀ j, T j = U j &&& 255) : ∀ j, fdT bv T q a1 a2 a3 a4 a5 j = fdT mb U q a1 a2 a3 a4 a5 j &&& 255 :=
  wr_rel (wr_rel (wr_rel (wr_rel (wr_rel h (fun _ => bv_mb _)) (fun _ => bv_mb _)) (fun _ => bv_mb _)) (fun _ => bv_mb _)) (fun _ => bv_mb _)
theorem and_255 (x : Int32) : ∃ n : Nat, n < 256 ∧ x &&& 255 = nI n := pk_andE x 8 (by decide)
end
section
/-! the two sides' slots, as records; a permutation ties them -/
abbrev Rc : Type := (Int32 × Int32 × Int32) × Int32 × Int32 × (Nat → Int32)
def rC (d : Dg) : Rc := ((d.1 2, d.1 3, d.1 4), d.1 5, d.1 6, fun j => if j < 4096 then d.2 j + 1 else 0)
def oC (d : Dg) : Option Rc := if d.1 1 = 0 then none else some (rC d)
def rM (se id pr en be bs : F1) (k : Nat) : Rc := ((se k, id k, pr k), be k, en k, fun j => if j < 4096 then bs (k * 4096 + j) else 0)
def oM (se id pr en be th bs : F1) (k : Nat) : Option Rc := if th k = 0 then none else some (rM se id pr en be bs k)
def l4 {α : Type} (f : Nat → α) : List α := [f 0, f 1, f 2, f 3]
theorem l4_cut {α : Type} (f : Nat → α) {i : Nat} (hi : i < 4) : ∃ R : List α, (l4 f).Perm (f i :: R) ∧ ∀ v, (l4 (va_up f i v)).Perm (v :: R) := by
  rcases lt4 hi with rfl | rfl | rfl | rfl
  · exact ⟨[f 1, f 2, f 3], List.Perm.refl _, fun v => List.Perm.refl _⟩
  · exact ⟨[f 0, f 2, f 3], List.perm_middle (l₁ := [f 0]) (l₂ := [f 2, f 3]), fun v => List.perm_middle (l₁ := [f 0]) (l₂ := [f 2, f 3])⟩
  · exact ⟨[f 0, f 1, f 3], List.perm_middle (l₁ := [f 0, f 1]) (l₂ := [f 3]), fun v => List.perm_middle (l₁ := [f 0, f 1]) (l₂ := [f 3])⟩
  · exact ⟨[f 0, f 1, f 2], List.perm_middle (l₁ := [f 0, f 1, f 2]) (l₂ := []), fun v => List.perm_middle (l₁ := [f 0, f 1, f 2]) (l₂ := [])⟩
theorem l4_set {α : Type} {f g : Nat → α} {i k : Nat} (hi : i < 4) (hk : k < 4) (h : (l4 f).Perm (l4 g)) (e : f i = g k) (v : α) : (l4 (va_up f i v)).Perm (l4 (va_up g k v)) := by
  obtain ⟨R, h1, h2⟩ := l4_cut f hi
  obtain ⟨S, h3, h4⟩ := l4_cut g hk
  have h5 : (f i :: R).Perm (g k :: S) := (h1.symm.trans h).trans h3
  rw [e] at h5
  exact ((h2 v).trans (List.Perm.cons v h5.cons_inv)).trans (h4 v).symm
theorem l4_mem {α : Type} (f : Nat → α) (x : α) : x ∈ l4 f ↔ ∃ i, i < 4 ∧ f i = x := by
  constructor
  · intro h
    simp only [l4, List.mem_cons, List.not_mem_nil, or_false] at h
    rcases h with h | h | h | h
    · exact ⟨0, by omega, h.symm⟩
    · exact ⟨1, by omega, h.symm⟩
    · exact ⟨2, by omega, h.symm⟩
    · exact ⟨3, by omega, h.symm⟩
  · intro h
    obtain ⟨i, hi, h⟩ := h
    subst h
    rcases lt4 hi with rfl | rfl | rfl | rfl <;> simp [l4]
theorem l4_find {α : Type} {f g : Nat → α} (h : (l4 f).Perm (l4 g)) {i : Nat} (hi : i < 4) : ∃ k, k < 4 ∧ g k = f i := (l4_mem g _).mp (h.mem_iff.mp ((l4_mem f _).mpr ⟨i, hi, rfl⟩))
theorem l4_count {α : Type} (f : Nat → α) (p : α → Bool) : (l4 f).countP p = (if p (f 0) = true then 1 else 0) + (if p (f 1) = true then 1 else 0) + (if p (f 2) = true then 1 else 0) + (if p (f 3) = true then 1 else 0) := by
  simp only [l4, List.countP_cons, List.countP_nil]
  omega
theorem x1_0 {x : Int32} : x + 1 = 0 ↔ x = -1 := by
  constructor
  · intro h
    have h1 := Int32.add_sub_cancel x 1
    rw [h] at h1
    rw [← h1]
    decide
  · intro h
    subst h
    decide
theorem nI_nm1 {e : Nat} (h : e < 2 ^ 31) : nI e ≠ -1 := fun q => absurd (q ▸ nI_pos' h) (by decide)
theorem oC_in {d : Dg} (h : d.1 1 ≠ 0) : oC d = some (rC d) := if_neg h
theorem oC_out {d : Dg} (h : d.1 1 = 0) : oC d = none := if_pos h
section SIM
variable {se id pr en be th bs se1 id1 pr1 en1 be1 th1 bs1 : F1} {ds : Nat → Dg} {nw : Int32} {i k : Nat} {d : Dg}
theorem oM_in (h : th k ≠ 0) : oM se id pr en be th bs k = some (rM se id pr en be bs k) := if_neg h
theorem oM_out (h : th k = 0) : oM se id pr en be th bs k = none := if_pos h
theorem oCM (h1 : d.1 1 ≠ 0) (h : oC d = oM se id pr en be th bs k) : th k ≠ 0 ∧ se k = d.1 2 ∧ id k = d.1 3 ∧ pr k = d.1 4 ∧ be k = d.1 5 ∧ en k = d.1 6 ∧ ∀ j, j < 4096 → bs (k * 4096 + j) = d.2 j + 1 := by
  rw [oC_in h1] at h
  by_cases ht : th k = 0
  · rw [oM_out ht] at h
    cases h
  · rw [oM_in ht] at h
    have h2 := Option.some.inj h
    refine ⟨ht, (congrArg (fun r : Rc => r.1.1) h2).symm, (congrArg (fun r : Rc => r.1.2.1) h2).symm, (congrArg (fun r : Rc => r.1.2.2) h2).symm, (congrArg (fun r : Rc => r.2.1) h2).symm, (congrArg (fun r : Rc => r.2.2.1) h2).symm, fun j hj => ?_⟩
    have h3 := congrArg (fun r : Rc => r.2.2.2 j) h2
    simp only [rC, rM, if_pos hj] at h3
    exact h3.symm
theorem oCM_of (h1 : d.1 1 ≠ 0) (ht : th k ≠ 0) (a1 : se k = d.1 2) (a2 : id k = d.1 3) (a3 : pr k = d.1 4) (a4 : be k = d.1 5) (a5 : en k = d.1 6) (a6 : ∀ j, j < 4096 → bs (k * 4096 + j) = d.2 j + 1) : oC d = oM se id pr en be th bs k := by
  rw [oC_in h1, oM_in ht]
  unfold rC rM
  rw [a1, a2, a3, a4, a5]
  congr 4
  funext j
  by_cases hj : j < 4096
  · rw [if_pos hj, if_pos hj, a6 j hj]
  · rw [if_neg hj, if_neg hj]
/-- what a slot's change leaves as it was -/
def Loc9 (se id pr en be th bs se1 id1 pr1 en1 be1 th1 bs1 : F1) (k : Nat) : Prop := ∀ j, j ≠ k → se1 j = se j ∧ id1 j = id j ∧ pr1 j = pr j ∧ en1 j = en j ∧ be1 j = be j ∧ th1 j = th j ∧ ∀ i, i < 4096 → bs1 (j * 4096 + i) = bs (j * 4096 + i)
theorem oM_loc (h : Loc9 se id pr en be th bs se1 id1 pr1 en1 be1 th1 bs1 k) : oM se1 id1 pr1 en1 be1 th1 bs1 = va_up (oM se id pr en be th bs) k (oM se1 id1 pr1 en1 be1 th1 bs1 k) := by
  funext j
  by_cases hj : j = k
  · subst hj
    rw [vu_s]
  · rw [vu_n _ _ hj]
    obtain ⟨a1, a2, a3, a4, a5, a6, a7⟩ := h j hj
    unfold oM rM
    rw [a1, a2, a3, a4, a5, a6]
    congr 5
    funext i
    by_cases hi : i < 4096
    · rw [if_pos hi, if_pos hi, a7 i hi]
    · rw [if_neg hi, if_neg hi]
theorem fC_up : (fun j => oC (va_up ds i d j)) = va_up (fun j => oC (ds j)) i (oC d) := by
  funext j
  by_cases hj : j = i
  · subst hj
    rw [vu_s, vu_s]
  · rw [vu_n _ _ hj, vu_n _ _ hj]
end SIM
def cntP (x : Nat → Int32) : Nat → Nat
  | 0 => 0
  | n + 1 => cntP x n + (if x n = -1 then 0 else 1)
def IV (f x : Nat → Int32) (nw : Int32) : Prop :=
  (0 ≤ f 5 ∧ f 5 ≤ nw) ∧ f 8 = nI (cntP x 4096) ∧ (∀ j, j < 4096 → x j = -1 ∨ ∃ b, b < 256 ∧ x j = nI b) ∧
  ((f 6 = -1 ∧ ∃ r, r ≤ 4096 ∧ f 7 = nI r ∧ (r = 0 ∨ x (r - 1) ≠ -1) ∧ ∀ j, r ≤ j → j < 4096 → x j = -1) ∨
   (∃ e, e ≤ 4096 ∧ f 6 = nI e ∧ (∃ r, r ≤ e ∧ f 7 = nI r) ∧ ∀ j, e ≤ j → j < 4096 → x j = -1))
def SL (ds : Nat → Dg) (se id pr en be th bs : F1) (nw : Int32) : Prop :=
  (l4 (fun i => oC (ds i))).Perm (l4 (oM se id pr en be th bs)) ∧ (∀ i, i < 4 → (ds i).1 1 ≠ 0 → IV (ds i).1 (ds i).2 nw) ∧
  (∀ i j, i < 4 → j < 4 → i ≠ j → (ds i).1 1 ≠ 0 → (ds j).1 1 ≠ 0 → ¬ Kx (ds i).1 ((ds j).1 2) ((ds j).1 3) ((ds j).1 4)) ∧
  (∀ k, k < 4 → en k ≤ nI 4096)
section SIM2
variable {se id pr en be th bs se1 id1 pr1 en1 be1 th1 bs1 : F1} {ds ds1 : Nat → Dg} {nw : Int32} {i k : Nat} {d : Dg}
theorem sl_upd (S : SL ds se id pr en be th bs nw) (hi : i < 4) (hk : k < 4) (he : oC (ds i) = oM se id pr en be th bs k) (hloc : Loc9 se id pr en be th bs se1 id1 pr1 en1 be1 th1 bs1 k) (hd : oC d = oM se1 id1 pr1 en1 be1 th1 bs1 k)
    (hIV : d.1 1 ≠ 0 → IV d.1 d.2 nw) (hun : d.1 1 ≠ 0 → ∀ j, j < 4 → j ≠ i → (ds j).1 1 ≠ 0 → ¬ Kx (ds j).1 (d.1 2) (d.1 3) (d.1 4)) (hen : en1 k ≤ nI 4096) : SL (va_up ds i d) se1 id1 pr1 en1 be1 th1 bs1 nw := by
  obtain ⟨s1, s2, s3, s4⟩ := S
  refine ⟨?_, ?_, ?_, ?_⟩
  · rw [fC_up, oM_loc hloc, ← hd]
    exact l4_set hi hk s1 he _
  · intro j hj h1
    by_cases hji : j = i
    · subst hji
      rw [vu_s] at h1 ⊢
      exact hIV h1
    · rw [vu_n _ _ hji] at h1 ⊢
      exact s2 j hj h1
  · intro a b ha hb hab h1 h2
    by_cases hai : a = i
    · subst hai
      have hba : b ≠ a := fun z => hab z.symm
      rw [vu_s] at h1
      rw [vu_n _ _ hba] at h2
      rw [vu_s, vu_n _ _ hba]
      exact fun q => hun h1 b hb hba h2 ⟨q.1.symm, q.2.1.symm, q.2.2.symm⟩
    · rw [vu_n _ _ hai] at h1
      rw [vu_n _ _ hai]
      by_cases hbi : b = i
      · subst hbi
        rw [vu_s] at h2
        rw [vu_s]
        exact hun h2 a ha hai h1
      · rw [vu_n _ _ hbi] at h2
        rw [vu_n _ _ hbi]
        exact s3 a b ha hb hab h1 h2
  · intro j hj
    by_cases hjk : j = k
    · subst hjk
      exact hen
    · rw [(hloc j hjk).2.2.2.1]
      exact s4 j hj
theorem cnt_m1 {x : Nat → Int32} : ∀ n, (∀ j, j < n → x j = -1) → cntP x n = 0
  | 0, _ => rfl
  | n + 1, h => by
    show cntP x n + _ = 0
    rw [if_pos (h n (by omega)), cnt_m1 n (fun j hj => h j (by omega))]
theorem IV_bg {f x : Nat → Int32} {a b c : Int32} (hnw : 0 ≤ nw) (hx : ∀ j, j < 4096 → x j = -1) : IV (bg f a b c nw) x nw := by
  refine ⟨⟨hnw, Int32.le_refl _⟩, ?_, fun j hj => Or.inl (hx j hj), Or.inl ⟨rfl, 0, by omega, rfl, Or.inl rfl, fun j _ hj => hx j hj⟩⟩
  rw [cnt_m1 4096 hx]
  rfl
/-- the slot that both take a fragment into -/
theorem sl_pick (S : SL ds se id pr en be th bs nw) (hnw : 0 ≤ nw) {a b c r : Int32} (hF : SF ds a b c nw r ds1) (hk : k < 4) (hM : MSl se id pr en be th bs a b c nw k (se1, id1, pr1, en1, be1, th1, bs1)) :
    ∃ i, i < 4 ∧ r = nI i ∧ SL ds1 se1 id1 pr1 en1 be1 th1 bs1 nw ∧ (ds1 i).1 1 ≠ 0 ∧ oC (ds1 i) = oM se1 id1 pr1 en1 be1 th1 bs1 k := by
  have hS := S
  obtain ⟨s1, s2, s3, s4⟩ := S
  have back : th k ≠ 0 → ∃ i', i' < 4 ∧ (ds i').1 1 ≠ 0 ∧ oC (ds i') = oM se id pr en be th bs k := by
    intro ht
    obtain ⟨i', hi', he⟩ := l4_find s1.symm hk
    refine ⟨i', hi', fun z => ?_, he⟩
    rw [oC_out z, oM_in ht] at he
    cases he
  rcases hM with ⟨ht, hmk, hv⟩ | ⟨hnoM, ht, hv⟩
  · simp only [Prod.mk.injEq] at hv
    obtain ⟨rfl, rfl, rfl, rfl, rfl, rfl, rfl⟩ := hv
    obtain ⟨i', hi', h1', he⟩ := back ht
    obtain ⟨-, e1, e2, e3, -⟩ := oCM h1' he
    have hkx' : Kx (ds i').1 a b c := ⟨e1.symm.trans hmk.1, e2.symm.trans hmk.2.1, e3.symm.trans hmk.2.2⟩
    rcases hF with ⟨i, hi, hr, h1, hkx, rfl⟩ | ⟨hno, -⟩
    · by_cases hii : i = i'
      · subst hii
        exact ⟨i, hi, hr, hS, h1, he⟩
      · refine absurd ?_ (s3 i i' hi hi' hii h1 h1')
        exact ⟨hkx.1.trans hkx'.1.symm, hkx.2.1.trans hkx'.2.1.symm, hkx.2.2.trans hkx'.2.2.symm⟩
    · exact absurd hkx' (hno i' hi' h1')
  · simp only [bgM, Prod.mk.injEq] at hv
    obtain ⟨rfl, rfl, rfl, rfl, rfl, rfl, rfl⟩ := hv
    rcases hF with ⟨i, hi, hr, h1, hkx, rfl⟩ | ⟨hno, ⟨i, x, hi, hr, h0, hx, rfl⟩ | ⟨hr, hall, -⟩⟩
    · obtain ⟨k', hk', he⟩ := l4_find s1 hi
      obtain ⟨ht', e1, e2, e3, -⟩ := oCM h1 he.symm
      exact absurd ⟨e1.trans hkx.1, e2.trans hkx.2.1, e3.trans hkx.2.2⟩ (hnoM k' hk' ht')
    · have hd : oC (bg (ds i).1 a b c nw, x) = oM (upd se k a) (upd id k b) (upd pr k c) (upd en k (-1)) (upd be k nw) (upd th k 1) (wrT bs (k * 4096) 4096 (fun _ => 0)) k := by
        refine oCM_of (show (1 : Int32) ≠ 0 by decide) (by rw [pk_us]; decide) pk_us pk_us pk_us pk_us pk_us (fun j hj => ?_)
        show wrT bs (k * 4096) 4096 (fun _ => 0) (k * 4096 + j) = x j + 1
        rw [hx j hj]
        unfold wrT
        rw [if_pos (by omega)]
        show (0 : Int32) = -1 + 1
        decide
      refine ⟨i, hi, hr, sl_upd hS hi hk (by rw [oC_out h0, oM_out ht]) ?_ hd (fun _ => IV_bg hnw hx) (fun _ j hj hji h2 => hno j hj h2) (by rw [pk_us]; decide), ?_, ?_⟩
      · intro j hj
        refine ⟨pk_un hj, pk_un hj, pk_un hj, pk_un hj, pk_un hj, pk_un hj, fun z hz => ?_⟩
        unfold wrT
        rw [if_neg (by omega)]
      · rw [vu_s]
        exact (show (1 : Int32) ≠ 0 by decide)
      · rw [vu_s]
        exact hd
    · obtain ⟨i', hi', he⟩ := l4_find s1.symm hk
      have he : oC (ds i') = oM se id pr en be th bs k := he
      rw [oM_out ht, oC_in (hall i' hi')] at he
      cases he
/-- none is free on both sides, or on none -/
theorem sl_full (S : SL ds se id pr en be th bs nw) {a b c r : Int32} (hF : SF ds a b c nw r ds1) (hnoM : ∀ j, j < 4 → th j ≠ 0 → ¬ MK se id pr j a b c) (hall : ∀ j, j < 4 → th j ≠ 0) : r = -1 ∧ ds1 = ds := by
  obtain ⟨s1, s2, s3, s4⟩ := S
  rcases hF with ⟨i, hi, hr, h1, hkx, rfl⟩ | ⟨hno, ⟨i, x, hi, hr, h0, hx, rfl⟩ | ⟨hr, -, h⟩⟩
  · obtain ⟨k', hk', he⟩ := l4_find s1 hi
    obtain ⟨ht', e1, e2, e3, -⟩ := oCM h1 he.symm
    exact absurd ⟨e1.trans hkx.1, e2.trans hkx.2.1, e3.trans hkx.2.2⟩ (hnoM k' hk' ht')
  · obtain ⟨k', hk', he⟩ := l4_find s1 hi
    have he : oM se id pr en be th bs k' = oC (ds i) := he
    rw [oC_out h0, oM_in (hall k' hk')] at he
    cases he
  · exact ⟨hr, h⟩
end SIM2
end
section
/-! a fragment goes in: both sides alike -/
section SIM3
variable {se id pr en be th bs : F1} {ds : Nat → Dg} {nw : Int32} {i k a b : Nat} {l : Int32} {f x T U : Nat → Int32}
theorem cnt_n {n : Nat} : ∀ m, n ≤ m → (∀ j, n ≤ j → j < m → x j = -1) → cntP x m = cntP x n
  | 0, h, _ => by
    rw [show n = 0 by omega]
  | m + 1, h, hx => by
    by_cases hm : n = m + 1
    · rw [hm]
    · show cntP x m + _ = _
      rw [if_pos (hx m (by omega) (by omega)), Nat.add_zero]
      exact cnt_n m (by omega) (fun j h1 h2 => hx j h1 (by omega))
theorem cnt_le : ∀ n, cntP x n ≤ n
  | 0 => Nat.le_refl _
  | n + 1 => by
    have := cnt_le n
    show cntP x n + _ ≤ _
    split <;> omega
theorem cnt_all : ∀ n, cntP x n = n ↔ ∀ j, j < n → x j ≠ -1
  | 0 => ⟨fun _ j h => absurd h (Nat.not_lt_zero _), fun _ => rfl⟩
  | n + 1 => by
    have h1 := cnt_all n
    have h2 := cnt_le (x := x) n
    have h3 : cntP x (n + 1) = cntP x n + (if x n = -1 then 0 else 1) := rfl
    by_cases hx : x n = -1
    · rw [h3, if_pos hx]
      constructor
      · intro q
        omega
      · intro q
        exact absurd hx (q n (by omega))
    · rw [h3, if_neg hx]
      constructor
      · intro q j hj
        by_cases hjn : j = n
        · rw [hjn]
          exact hx
        · exact h1.mp (by omega) j (by omega)
      · intro q
        have := h1.mpr (fun j hj => q j (by omega))
        omega
theorem cnt_eq {y : Nat → Int32} : ∀ n, (∀ j, j < n → x j = y j) → cntP x n = cntP y n
  | 0, _ => rfl
  | n + 1, h => by
    show cntP x n + _ = cntP y n + _
    rw [h n (by omega), cnt_eq n (fun j hj => h j (by omega))]
theorem cnt_upd {p : Nat} {v : Int32} (hx : x p = -1) (hv : v ≠ -1) : ∀ n, p < n → cntP (upd x p v) n = cntP x n + 1
  | 0, h => absurd h (Nat.not_lt_zero _)
  | n + 1, h => by
    show cntP (upd x p v) n + _ = cntP x n + _ + 1
    by_cases hp : p = n
    · subst hp
      rw [pk_us, if_neg hv, if_pos hx, cnt_eq p (fun j hj => pk_un (Nat.ne_of_lt hj))]
    · rw [pk_un (fun z => hp z.symm), cnt_upd hx hv n (by omega)]
      omega
theorem cnt_pt (hT : ∀ j, T j ≠ -1) : ∀ b, a + b ≤ 4096 → cntP (pt x a b T) 4096 = cntP x 4096 + cn x a b
  | 0, _ => by
    rw [pt_0, show cn x a 0 = 0 from rfl, Nat.add_zero]
  | b + 1, h => by
    by_cases hc : pt x a b T (a + b) = -1
    · rw [← pt_s1 hc, cn_s1 hc, cnt_upd hc (hT b) 4096 (by omega), cnt_pt hT b (by omega)]
      omega
    · rw [← pt_s2 hc, cn_s2 hc, cnt_pt hT b (by omega)]
theorem T_b (hT : ∀ j, T j = U j &&& 255) (j : Nat) : ∃ n, n < 256 ∧ T j = nI n := by
  obtain ⟨n, h1, h2⟩ := and_255 (U j)
  exact ⟨n, h1, (hT j).trans h2⟩
theorem T_m1 (hT : ∀ j, T j = U j &&& 255) (j : Nat) : T j ≠ -1 := by
  obtain ⟨n, h1, h2⟩ := T_b hT j
  rw [h2]
  exact nI_nm1 (by omega)
/-- a byte that is there is above 0 in the reference's row -/
theorem pos_iff {v : Int32} (h : v = -1 ∨ ∃ b, b < 256 ∧ v = nI b) : 0 < v + 1 ↔ v ≠ -1 := by
  rcases h with h | ⟨b, hb, h⟩
  · subst h
    exact ⟨fun q => absurd q (by decide), fun q => absurd rfl q⟩
  · subst h
    refine ⟨fun _ => nI_nm1 (by omega), fun _ => ?_⟩
    rw [nI_1, ← nI_0]
    exact nI_lt (by omega) (by omega)
theorem ctr_iff {d : Dg} (hI : IV d.1 d.2 nw) (h1 : d.1 1 ≠ 0) (he : oC d = oM se id pr en be th bs k) {t : Nat} (ht : t ≤ 4096) : Ctr d.1 (nI t) l ↔ (C1m en k t l ∨ C2m bs k t l 4096) := by
  obtain ⟨-, -, -, -, -, e6, e7⟩ := oCM h1 he
  obtain ⟨-, -, hx, hd⟩ := hI
  have c2 : C2m bs k t l 4096 ↔ l ≠ 0 ∧ ∃ j, t ≤ j ∧ j < 4096 ∧ d.2 j ≠ -1 := by
    constructor
    · intro h
      obtain ⟨h0, j, q1, q2, q3⟩ := h
      rw [e7 j q2, pos_iff (hx j q2)] at q3
      exact ⟨h0, j, q1, q2, q3⟩
    · intro h
      obtain ⟨h0, j, q1, q2, q3⟩ := h
      refine ⟨h0, j, q1, q2, ?_⟩
      rw [e7 j q2, pos_iff (hx j q2)]
      exact q3
  rw [c2]
  unfold Ctr C1m
  rw [e6]
  rcases hd with ⟨h6, r, hr, h7, hr1, hr2⟩ | ⟨e, he9, h6, ⟨r, hre, h7⟩, hr2⟩
  · rw [h6, h7]
    constructor
    · intro h
      rcases h with h | h
      · exact absurd rfl h.1
      · have hlt : t < r := (nI_ltI (by omega) (by omega)).mp h.2
        refine Or.inr ⟨h.1, r - 1, by omega, by omega, ?_⟩
        rcases hr1 with z | z
        · omega
        · exact z
    · intro h
      rcases h with h | h
      · exact absurd h.1 (by decide)
      · obtain ⟨h0, j, q1, q2, q3⟩ := h
        refine Or.inr ⟨h0, (nI_ltI (by omega) (by omega)).mpr ?_⟩
        rcases Nat.lt_or_ge j r with z | z
        · omega
        · exact absurd (hr2 j z q2) q3
  · rw [h6, h7]
    have n1 : nI e ≠ -1 := nI_nm1 (by omega)
    have n2 : (0 : Int32) ≤ nI e := nI_pos' (by omega)
    constructor
    · intro h
      rcases h with h | h
      · exact Or.inl ⟨n2, h.2⟩
      · have hlt : t < r := (nI_ltI (by omega) (by omega)).mp h.2
        exact Or.inl ⟨n2, Or.inr ⟨h.1, fun z => by have := (nI_eq (by omega) (by omega)).mp z; omega⟩⟩
    · intro h
      rcases h with h | h
      · exact Or.inl ⟨n1, h.2⟩
      · obtain ⟨h0, j, q1, q2, q3⟩ := h
        refine Or.inl ⟨n1, Or.inr ⟨h0, fun z => ?_⟩⟩
        have := (nI_eq (by omega) (by omega)).mp z
        exact q3 (hr2 j (by omega) q2)
theorem nR_7 {t r : Nat} (ht : t ≤ 4096) (hr : r ≤ 4096) (h7 : f 7 = nI r) : nR f (nI t) l 7 = nI (if r < t then t else r) := by
  have h : (if f 7 < nI t then nI t else f 7) = nI (if r < t then t else r) := by
    rw [h7]
    by_cases hc : r < t
    · rw [if_pos hc, if_pos ((nI_ltI (by omega) (by omega)).mpr hc)]
    · rw [if_neg hc, if_neg (fun z => hc ((nI_ltI (by omega) (by omega)).mp z))]
  unfold nR
  by_cases hl : l = 0
  · rw [if_pos hl]
    exact h
  · rw [if_neg hl]
    exact h
theorem nR_6 {t : Nat} : nR f (nI t) l 6 = (if l = 0 then f 6 else nI t) := by
  unfold nR
  by_cases hl : l = 0
  · rw [if_pos hl, if_pos hl]
    rfl
  · rw [if_neg hl, if_neg hl]
    rfl
theorem nR_n {r : Int32} {j : Nat} (h6 : j ≠ 6) (h7 : j ≠ 7) : nR f r l j = f j := by
  unfold nR
  by_cases hl : l = 0
  · rw [if_pos hl, pk_un h7]
  · rw [if_neg hl, pk_un h6, pk_un h7]
theorem pt_v (hT : ∀ j, T j = U j &&& 255) (hx : ∀ j, j < 4096 → x j = -1 ∨ ∃ b, b < 256 ∧ x j = nI b) : ∀ j, j < 4096 → pt x a b T j = -1 ∨ ∃ n, n < 256 ∧ pt x a b T j = nI n := by
  intro j hj
  unfold pt
  split
  · exact Or.inr (T_b hT _)
  · exact hx j hj
theorem pt_out {j : Nat} (h : a + b ≤ j) : pt x a b T j = x j := if_neg (by omega)
theorem pt_keep {j : Nat} (h : x j ≠ -1) : pt x a b T j ≠ -1 := by
  unfold pt
  rw [if_neg (fun q => h q.2.2)]
  exact h
theorem pt_inn (hT : ∀ j, T j ≠ -1) {j : Nat} (h1 : a ≤ j) (h2 : j < a + b) : pt x a b T j ≠ -1 := by
  unfold pt
  by_cases hx : x j = -1
  · rw [if_pos ⟨h1, h2, hx⟩]
    exact hT _
  · rw [if_neg (fun q => hx q.2.2)]
    exact hx
theorem IV_jD (hI : IV f x nw) (hT : ∀ j, T j = U j &&& 255) (hs : Snd a b l) (hc : ¬ Ctr f (nI (a + b)) l) : IV (jD f x a b T l).1 (jD f x a b T l).2 nw := by
  obtain ⟨h5, h8, hx, hd⟩ := hI
  obtain ⟨hab, hlb⟩ := hs
  have hTm := T_m1 hT
  have e5 : (jD f x a b T l).1 5 = f 5 := nR_n (by decide) (by decide)
  have e8 : (jD f x a b T l).1 8 = f 8 + nI (cn x a b) := by
    show nR f (nI (a + b)) l 8 + nI (cn x a b) = _
    rw [nR_n (by decide) (by decide)]
  have e6 : (jD f x a b T l).1 6 = (if l = 0 then f 6 else nI (a + b)) := nR_6
  have e7 : ∀ r, r ≤ 4096 → f 7 = nI r → (jD f x a b T l).1 7 = nI (if r < a + b then a + b else r) := fun r hr h7 => nR_7 hab hr h7
  refine ⟨by rw [e5]; exact h5, ?_, pt_v hT hx, ?_⟩
  · rw [e8, h8, nI_add]
    show _ = nI (cntP (pt x a b T) 4096)
    rw [cnt_pt hTm b hab]
  · rw [e6]
    show (_ ∧ ∃ r, r ≤ 4096 ∧ _ = nI r ∧ (r = 0 ∨ pt x a b T (r - 1) ≠ -1) ∧ ∀ j, r ≤ j → j < 4096 → pt x a b T j = -1) ∨ ∃ e, e ≤ 4096 ∧ _ = nI e ∧ (∃ r, r ≤ e ∧ _ = nI r) ∧ ∀ j, e ≤ j → j < 4096 → pt x a b T j = -1
    rcases hd with ⟨h6, r, hr, h7, hr1, hr2⟩ | ⟨e, he9, h6, ⟨r, hre, h7⟩, hr2⟩
    · by_cases hl : l = 0
      · have hb0 : 0 < b := (hlb.resolve_left (fun z => z hl)).1
        rw [if_pos hl]
        refine Or.inl ⟨h6, (if r < a + b then a + b else r), by split <;> omega, e7 r hr h7, ?_, ?_⟩
        · split
          · exact Or.inr (pt_inn hTm (by omega) (by omega))
          · rcases hr1 with z | z
            · omega
            · exact Or.inr (pt_keep z)
        · intro j hj hj2
          split at hj
          · rw [pt_out (by omega)]
            exact hr2 j (by omega) hj2
          · rw [pt_out (by omega)]
            exact hr2 j (by omega) hj2
      · rw [if_neg hl]
        have hrt : r ≤ a + b := by
          rcases Nat.lt_or_ge (a + b) r with z | z
          · exact absurd (Or.inr ⟨hl, by rw [h7]; exact (nI_ltI (by omega) (by omega)).mpr z⟩) hc
          · exact z
        refine Or.inr ⟨a + b, hab, rfl, ⟨(if r < a + b then a + b else r), by split <;> omega, e7 r hr h7⟩, fun j hj hj2 => ?_⟩
        rw [pt_out hj]
        exact hr2 j (by omega) hj2
    · have n1 : f 6 ≠ -1 := by rw [h6]; exact nI_nm1 (by omega)
      have hte : a + b ≤ e := by
        rcases Nat.lt_or_ge e (a + b) with z | z
        · exact absurd (Or.inl ⟨n1, Or.inl (by rw [h6]; exact (nI_ltI (by omega) (by omega)).mpr z)⟩) hc
        · exact z
      by_cases hl : l = 0
      · rw [if_pos hl]
        refine Or.inr ⟨e, he9, h6, ⟨(if r < a + b then a + b else r), by split <;> omega, e7 r (by omega) h7⟩, fun j hj hj2 => ?_⟩
        rw [pt_out (by omega)]
        exact hr2 j hj hj2
      · rw [if_neg hl]
        have hee : a + b = e := by
          rcases Nat.lt_or_ge (a + b) e with z | z
          · exact absurd (Or.inl ⟨n1, Or.inr ⟨hl, by rw [h6]; exact fun q => by have := (nI_eq (by omega) (by omega)).mp q; omega⟩⟩) hc
          · omega
        refine Or.inr ⟨a + b, hab, rfl, ⟨(if r < a + b then a + b else r), by split <;> omega, e7 r (by omega) h7⟩, fun j hj hj2 => ?_⟩
        rw [pt_out hj]
        exact hr2 j (by omega) hj2
end SIM3
end
section
/-! the step of a fragment, of time, and of the counts: both sides alike -/
section SIM4
variable {se id pr en be th bs : F1} {ds : Nat → Dg} {nw : Int32} {i k a b : Nat} {l : Int32} {T U : Nat → Int32}
theorem mp_pt {d : Dg} (h7 : ∀ j, j < 4096 → bs (k * 4096 + j) = d.2 j + 1) (hT : ∀ j, T j = U j &&& 255) : ∀ j, j < 4096 → mp bs (k * 4096 + a) b U (k * 4096 + j) = pt d.2 a b T j + 1 := by
  intro j hj
  unfold mp pt
  by_cases hc : a ≤ j ∧ j < a + b ∧ d.2 j = -1
  · rw [if_pos hc, if_pos ⟨by omega, by omega, by rw [h7 j hj, x1_0]; exact hc.2.2⟩, show k * 4096 + j - (k * 4096 + a) = j - a by omega, hT]
  · rw [if_neg hc, if_neg (fun q => hc ⟨by omega, by omega, by have := q.2.2; rw [h7 j hj, x1_0] at this; exact this⟩), h7 j hj]
theorem mp_loc {j z : Nat} (hab : a + b ≤ 4096) (hj : j ≠ k) (hz : z < 4096) : mp bs (k * 4096 + a) b U (j * 4096 + z) = bs (j * 4096 + z) := by
  unfold mp
  rw [if_neg (by omega)]
theorem jD_n {d : Dg} {j : Nat} (h6 : j ≠ 6) (h7 : j ≠ 7) (h8 : j ≠ 8) : (jD d.1 d.2 a b T l).1 j = d.1 j := by
  show upd _ 8 _ j = _
  rw [pk_un h8, nR_n h6 h7]
theorem jD_6 {d : Dg} : (jD d.1 d.2 a b T l).1 6 = (if l = 0 then d.1 6 else nI (a + b)) := nR_6
def en2f (en : F1) (k t : Nat) (l : Int32) : F1 := if l = 0 then en else upd en k (nI t)
theorem en2_k {t : Nat} : en2f en k t l k = (if l = 0 then en k else nI t) := by
  unfold en2f
  by_cases h : l = 0
  · rw [if_pos h, if_pos h]
  · rw [if_neg h, if_neg h, pk_us]
theorem en2_n {t j : Nat} (hj : j ≠ k) : en2f en k t l j = en j := by
  unfold en2f
  by_cases h : l = 0
  · rw [if_pos h]
  · rw [if_neg h, pk_un hj]
theorem oC_jD {d : Dg} (h1 : d.1 1 ≠ 0) (he : oC d = oM se id pr en be th bs k) (hT : ∀ j, T j = U j &&& 255) : oC (jD d.1 d.2 a b T l) = oM se id pr (en2f en k (a + b) l) be th (mp bs (k * 4096 + a) b U) k := by
  obtain ⟨ht, e2, e3, e4, e5, e6, e7⟩ := oCM h1 he
  refine oCM_of (by rw [jD_n (by decide) (by decide) (by decide)]; exact h1) ht ?_ ?_ ?_ ?_ ?_ (mp_pt e7 hT)
  · rw [jD_n (by decide) (by decide) (by decide)]; exact e2
  · rw [jD_n (by decide) (by decide) (by decide)]; exact e3
  · rw [jD_n (by decide) (by decide) (by decide)]; exact e4
  · rw [jD_n (by decide) (by decide) (by decide)]; exact e5
  · rw [jD_6, en2_k, e6]
theorem en2_le (h : en k ≤ nI 4096) {t : Nat} (ht : t ≤ 4096) : en2f en k t l k ≤ nI 4096 := by
  rw [en2_k]
  split
  · exact h
  · exact nI_le ht (by decide)
/-- dropped on both sides -/
theorem sl_drop (S : SL ds se id pr en be th bs nw) (hi : i < 4) (hk : k < 4) (he : oC (ds i) = oM se id pr en be th bs k) (d : Dg) (hd : d.1 1 = 0) : SL (va_up ds i d) se id pr en be (upd th k 0) bs nw :=
  sl_upd S hi hk he (fun j hj => ⟨rfl, rfl, rfl, rfl, rfl, pk_un hj, fun _ _ => rfl⟩) (by rw [oC_out hd, oM_out pk_us]) (fun z => absurd hd z) (fun z => absurd hd z) (S.2.2.2 k hk)
/-- put in on both sides -/
theorem sl_put (S : SL ds se id pr en be th bs nw) (hi : i < 4) (hk : k < 4) (h1 : (ds i).1 1 ≠ 0) (he : oC (ds i) = oM se id pr en be th bs k) (hT : ∀ j, T j = U j &&& 255) (hs : Snd a b l) (hc : ¬ Ctr (ds i).1 (nI (a + b)) l) :
    SL (va_up ds i (jD (ds i).1 (ds i).2 a b T l)) se id pr (en2f en k (a + b) l) be th (mp bs (k * 4096 + a) b U) nw := by
  refine sl_upd S hi hk he (fun j hj => ⟨rfl, rfl, rfl, en2_n hj, rfl, rfl, fun z hz => mp_loc hs.1 hj hz⟩) (oC_jD h1 he hT) (fun _ => IV_jD (S.2.1 i hi h1) hT hs hc) (fun _ j hj hji h2 => ?_) (en2_le (S.2.2.2 k hk) hs.1)
  rw [jD_n (by decide) (by decide) (by decide), jD_n (by decide) (by decide) (by decide), jD_n (by decide) (by decide) (by decide)]
  exact S.2.2.1 j i hj hi hji h2 h1
/-- whole on both sides, or on none -/
theorem wh_iff {d : Dg} {en9 bs9 : F1} (hI : IV d.1 d.2 nw) (e6 : en9 k = d.1 6) (e7 : ∀ j, j < 4096 → bs9 (k * 4096 + j) = d.2 j + 1) : (∃ e, e ≤ 4096 ∧ en9 k = nI e ∧ ∀ j, j < e → bs9 (k * 4096 + j) ≠ 0) ↔ Wh d := by
  obtain ⟨-, h8, hx, hd⟩ := hI
  unfold Wh
  rw [e6]
  have key : ∀ e, e ≤ 4096 → (∀ j, e ≤ j → j < 4096 → d.2 j = -1) → (d.1 8 = nI e ↔ ∀ j, j < e → bs9 (k * 4096 + j) ≠ 0) := by
    intro e he hb
    have hle := cnt_le (x := d.2) e
    rw [h8, cnt_n 4096 he hb, nI_eq (by omega) (by omega), cnt_all]
    constructor
    · intro q j hj
      rw [e7 j (by omega)]
      exact fun z => q j hj (x1_0.mp z)
    · intro q j hj z
      exact q j hj (by rw [e7 j (by omega)]; exact x1_0.mpr z)
  rcases hd with ⟨h6, -⟩ | ⟨e, he, h6, -, hb⟩
  · constructor
    · intro h
      obtain ⟨e, he, h, -⟩ := h
      exact absurd (h.symm.trans h6) (nI_nm1 (by omega))
    · intro h
      exact absurd h6 h.1
  · constructor
    · intro h
      obtain ⟨e', he', h, h2⟩ := h
      have hee : e = e' := (nI_eq (by omega) (by omega)).mp (h6.symm.trans h)
      subst hee
      exact ⟨by rw [h6]; exact nI_nm1 (by omega), by rw [h6]; exact (key e he hb).mpr h2⟩
    · intro h
      refine ⟨e, he, h6, (key e he hb).mp ?_⟩
      rw [h.2, h6]
end SIM4
/-! time -/
def drp (t : Int32) (o : Option Rc) : Option Rc := match o with
  | none => none
  | some r => if 15000 ≤ t - r.2.1 then none else some r
def pcT (t : Int32) (o : Option Rc) : Bool := match o with
  | none => false
  | some r => decide (15000 ≤ t - r.2.1)
theorem t_iff {x t : Int32} (h0 : 0 ≤ x) (h1 : x ≤ t) (h2 : t ≤ 2000000000) : x + 15000 ≤ t ↔ 15000 ≤ t - x := by
  obtain ⟨a, ha, rfl⟩ := nI_of (Int32.not_lt.mpr h0)
  obtain ⟨b, hb, rfl⟩ := nI_of (Int32.not_lt.mpr (Int32.le_trans h0 h1))
  have hb2 : b ≤ 2000000000 := (nI_leI hb (by decide)).mp h2
  have hab : a ≤ b := (nI_leI ha hb).mp h1
  show nI a + nI 15000 ≤ nI b ↔ nI 15000 ≤ nI b - nI a
  rw [nI_add, pk_sub hab, nI_leI (by omega) hb, nI_leI (by decide) (by omega)]
  omega
section SIM5
variable {se id pr en be th bs : F1} {ds : Nat → Dg} {nw t : Int32}
theorem l4_eq {α : Type} {f g : Nat → α} (h : ∀ i, i < 4 → f i = g i) : l4 f = l4 g := by
  unfold l4
  rw [h 0 (by omega), h 1 (by omega), h 2 (by omega), h 3 (by omega)]
theorem ps_c (S : SL ds se id pr en be th bs nw) (h1 : ¬ t < nw) (h2 : t ≤ 2000000000) {i : Nat} (hi : i < 4) : ((ds i).1 1 ≠ 0 ∧ (ds i).1 5 + 15000 ≤ t) ↔ pcT t (oC (ds i)) = true := by
  by_cases h : (ds i).1 1 = 0
  · rw [oC_out h]
    exact ⟨fun q => absurd h q.1, fun q => by cases q⟩
  · rw [oC_in h]
    obtain ⟨⟨q1, q2⟩, -⟩ := S.2.1 i hi h
    show _ ↔ decide (15000 ≤ t - (ds i).1 5) = true
    rw [decide_eq_true_iff, ← t_iff q1 (Int32.le_trans q2 (Int32.not_lt.mp h1)) h2]
    exact ⟨fun z => z.2, fun z => ⟨h, z⟩⟩
theorem ps_m {k : Nat} : (th k ≠ 0 ∧ 15000 ≤ t - be k) ↔ pcT t (oM se id pr en be th bs k) = true := by
  by_cases h : th k = 0
  · rw [oM_out h]
    exact ⟨fun q => absurd h q.1, fun q => by cases q⟩
  · rw [oM_in h]
    show _ ↔ decide (15000 ≤ t - be k) = true
    rw [decide_eq_true_iff]
    exact ⟨fun z => z.2, fun z => ⟨h, z⟩⟩
theorem drp_c (S : SL ds se id pr en be th bs nw) (h1 : ¬ t < nw) (h2 : t ≤ 2000000000) {i : Nat} (hi : i < 4) : oC (psD t ds 4 i) = drp t (oC (ds i)) := by
  have hc := ps_c S h1 h2 hi
  unfold psD
  by_cases h : (ds i).1 1 ≠ 0 ∧ (ds i).1 5 + 15000 ≤ t
  · rw [if_pos ⟨hi, h⟩, oC_out (show upd (ds i).1 1 0 1 = 0 from rfl), oC_in h.1]
    have h9 := hc.mp h
    rw [oC_in h.1] at h9
    have h9 : decide (15000 ≤ t - (rC (ds i)).2.1) = true := h9
    show none = if _ then none else _
    rw [if_pos (of_decide_eq_true h9)]
  · rw [if_neg (fun z => h z.2)]
    by_cases h0 : (ds i).1 1 = 0
    · rw [oC_out h0]
      rfl
    · have h9 : ¬ pcT t (oC (ds i)) = true := fun z => h (hc.mpr z)
      rw [oC_in h0] at h9 ⊢
      have h9 : ¬ decide (15000 ≤ t - (rC (ds i)).2.1) = true := h9
      show _ = if _ then none else _
      rw [if_neg (fun z => h9 (decide_eq_true z))]
theorem drp_m {k : Nat} (hk : k < 4) : oM se id pr en be (psT t th be 4) bs k = drp t (oM se id pr en be th bs k) := by
  by_cases h : th k ≠ 0 ∧ 15000 ≤ t - be k
  · have e : psT t th be 4 k = 0 := if_pos ⟨hk, h⟩
    rw [oM_out e, oM_in h.1]
    show none = if _ then none else _
    rw [if_pos (show 15000 ≤ t - (rM se id pr en be bs k).2.1 from h.2)]
  · have e : psT t th be 4 k = th k := if_neg (fun z => h z.2)
    by_cases h0 : th k = 0
    · rw [oM_out h0, oM_out (e.trans h0)]
      rfl
    · rw [oM_in h0, oM_in (show psT t th be 4 k ≠ 0 by rw [e]; exact h0)]
      show _ = if _ then none else _
      rw [if_neg (show ¬ 15000 ≤ t - (rM se id pr en be bs k).2.1 from fun z => h ⟨h0, z⟩)]
theorem sl_pass (S : SL ds se id pr en be th bs nw) (h1 : ¬ t < nw) (h2 : t ≤ 2000000000) : SL (psD t ds 4) se id pr en be (psT t th be 4) bs t ∧ psC t ds 4 = psN t th be 4 := by
  have hS := S
  obtain ⟨s1, s2, s3, s4⟩ := S
  have hin : ∀ i, i < 4 → (psD t ds 4 i).1 1 ≠ 0 → (ds i).1 1 ≠ 0 ∧ psD t ds 4 i = ds i := by
    intro i hi h
    unfold psD at h ⊢
    by_cases hc : i < 4 ∧ (ds i).1 1 ≠ 0 ∧ (ds i).1 5 + 15000 ≤ t
    · rw [if_pos hc] at h
      exact absurd rfl h
    · rw [if_neg hc] at h ⊢
      exact ⟨h, rfl⟩
  refine ⟨⟨?_, ?_, ?_, s4⟩, ?_⟩
  · rw [l4_eq (fun i hi => drp_c hS h1 h2 hi), l4_eq (f := oM se id pr en be (psT t th be 4) bs) (g := fun k => drp t (oM se id pr en be th bs k)) (fun k hk => drp_m hk)]
    exact s1.map (drp t)
  · intro i hi h
    obtain ⟨a, b⟩ := hin i hi h
    rw [b]
    obtain ⟨⟨q1, q2⟩, q3⟩ := s2 i hi a
    exact ⟨⟨q1, Int32.le_trans q2 (Int32.not_lt.mp h1)⟩, q3⟩
  · intro i j hi hj hij ha hb
    obtain ⟨a1, b1⟩ := hin i hi ha
    obtain ⟨a2, b2⟩ := hin j hj hb
    rw [b1, b2]
    exact s3 i j hi hj hij a1 a2
  · have hp := s1.countP_eq (pcT t)
    rw [l4_count, l4_count] at hp
    have cI : ∀ i, i < 4 → (if (ds i).1 1 ≠ 0 ∧ (ds i).1 5 + 15000 ≤ t then 1 else 0 : Nat) = (if pcT t (oC (ds i)) = true then 1 else 0) := by
      intro i hi
      by_cases h : (ds i).1 1 ≠ 0 ∧ (ds i).1 5 + 15000 ≤ t
      · rw [if_pos h, if_pos ((ps_c hS h1 h2 hi).mp h)]
      · rw [if_neg h, if_neg (fun z => h ((ps_c hS h1 h2 hi).mpr z))]
    have cM : ∀ k, (if th k ≠ 0 ∧ 15000 ≤ t - be k then 1 else 0 : Nat) = (if pcT t (oM se id pr en be th bs k) = true then 1 else 0) := by
      intro k
      by_cases h : th k ≠ 0 ∧ 15000 ≤ t - be k
      · rw [if_pos h, if_pos (ps_m.mp h)]
      · rw [if_neg h, if_neg (fun z => h (ps_m.mpr z))]
    show 0 + _ + _ + _ + _ = 0 + _ + _ + _ + _
    rw [cI 0 (by omega), cI 1 (by omega), cI 2 (by omega), cI 3 (by omega), cM 0, cM 1, cM 2, cM 3]
    omega
theorem sl_making (S : SL ds se id pr en be th bs nw) : mkC ds 4 = mkM th 4 := by
  have hp := S.1.countP_eq Option.isSome
  rw [l4_count, l4_count] at hp
  have cI : ∀ i, (if (ds i).1 1 = 0 then 0 else 1 : Nat) = (if (oC (ds i)).isSome = true then 1 else 0) := by
    intro i
    by_cases h : (ds i).1 1 = 0
    · rw [if_pos h, oC_out h]
      rfl
    · rw [if_neg h, oC_in h]
      rfl
  have cM : ∀ k, (if th k = 0 then 0 else 1 : Nat) = (if (oM se id pr en be th bs k).isSome = true then 1 else 0) := by
    intro k
    by_cases h : th k = 0
    · rw [if_pos h, oM_out h]
      rfl
    · rw [if_neg h, oM_in h]
      rfl
  show 0 + _ + _ + _ + _ = 0 + _ + _ + _ + _
  rw [cI 0, cI 1, cI 2, cI 3, cM 0, cM 1, cM 2, cM 3]
  omega
end SIM5
end
section
/-! the two sides, tied; each call keeps the tie, and answers alike -/
def SM (T : F1) (q : Nat) (wc nw : Int32) (ds : Nat → Dg) (wd : Dg) (U se id pr en be th bs wh : F1) (qm : Nat) (len md nm : Int32) : Prop :=
  qm = q ∧ nm = nw ∧ q ≤ 1480 ∧ (0 ≤ nw ∧ nw ≤ 2000000000) ∧ (∀ j, T j = U j &&& 255) ∧ wc = md ∧ (wd.1 1 = 0 ∧ wd.1 6 = len ∧ (len = -1 ∨ ∃ e, e ≤ 4096 ∧ len = nI e ∧ ∀ j, j < e → wd.2 j = wh j)) ∧ SL ds se id pr en be th bs nw
section ST
variable {T U se id pr en be th bs wh : F1} {q qm : Nat} {wc nw len md nm : Int32} {ds : Nat → Dg} {wd : Dg}
theorem SM_len (S : SM T q wc nw ds wd U se id pr en be th bs wh qm len md nm) : len ≤ nI 4096 := by
  obtain ⟨-, -, -, -, -, -, ⟨-, -, h⟩, -⟩ := S
  rcases h with h | ⟨e, he, h, -⟩
  · rw [h]
    decide
  · rw [h]
    exact nI_le he (by decide)
theorem SM_wd (S : SM T q wc nw ds wd U se id pr en be th bs wh qm len md nm) : wd.1 6 ≤ nI 4096 := by
  have h := SM_len S
  obtain ⟨-, -, -, -, -, -, ⟨-, h6, -⟩, -⟩ := S
  rw [h6]
  exact h
theorem SM_q (S : SM T q wc nw ds wd U se id pr en be th bs wh qm len md nm) : q ≤ 1480 := S.2.2.1
theorem SM_qm (S : SM T q wc nw ds wd U se id pr en be th bs wh qm len md nm) : qm ≤ 1480 := by
  rw [S.1]
  exact S.2.2.1
theorem SM_en (S : SM T q wc nw ds wd U se id pr en be th bs wh qm len md nm) : ∀ k, k < 4 → en k ≤ nI 4096 := S.2.2.2.2.2.2.2.2.2.2
theorem st_feed (S : SM T q wc nw ds wd U se id pr en be th bs wh qm len md nm) {a1 a2 a3 a4 a5 r1 r2 : Int32} {u1 u2 : (Nat → Int32) × Nat}
    (h1 : (1460 < q ∧ r1 = -1 ∧ u1 = (T, q)) ∨ (q ≤ 1460 ∧ r1 = nI (q + 20) ∧ u1 = (fdT bv T q a1 a2 a3 a4 a5, q + 20)))
    (h2 : (1460 < qm ∧ r2 = -1 ∧ u2 = (U, qm)) ∨ (qm ≤ 1460 ∧ r2 = nI (qm + 20) ∧ u2 = (fdT mb U qm a1 a2 a3 a4 a5, qm + 20))) :
    r1 = r2 ∧ SM u1.1 u1.2 wc nw ds wd u2.1 se id pr en be th bs wh u2.2 len md nm := by
  have hS := S
  obtain ⟨e1, e2, hq, hn, hT, hw, hl, hs⟩ := S
  subst e1
  rcases h1 with ⟨a, b, c⟩ | ⟨a, b, c⟩ <;> rcases h2 with ⟨a', b', c'⟩ | ⟨a', b', c'⟩
  · rw [b, b', c, c']
    exact ⟨rfl, hS⟩
  · omega
  · omega
  · rw [b, b', c, c']
    exact ⟨rfl, rfl, e2, by show qm + 20 ≤ 1480; omega, hn, fd_rel hT, hw, hl, hs⟩
theorem st_end (S : SM T q wc nw ds wd U se id pr en be th bs wh qm len md nm) {p1 r1 r2 : Int32} {u1 u2 : Nat}
    (h1 : (r1 = -1 ∧ (p1 < 0 ∨ ¬ p1 ≤ nI q) ∧ u1 = q) ∨ (∃ k, k ≤ q ∧ p1 = nI k ∧ r1 = nI k ∧ u1 = k)) (h2 : (r2 = -1 ∧ (p1 < 0 ∨ ¬ p1 ≤ nI qm) ∧ u2 = qm) ∨ (∃ k, k ≤ qm ∧ p1 = nI k ∧ r2 = nI k ∧ u2 = k)) :
    r1 = r2 ∧ SM T u1 wc nw ds wd U se id pr en be th bs wh u2 len md nm := by
  have hS := S
  obtain ⟨e1, e2, hq, hn, hT, hw, hl, hs⟩ := S
  subst e1
  have no : ∀ k, k ≤ qm → ¬ (nI k < 0 ∨ ¬ nI k ≤ nI qm) := fun k hk z => z.elim (nI_pos (by omega)) (fun y => y (nI_le hk (by omega)))
  rcases h1 with ⟨a, b, c⟩ | ⟨k, a, b, c, d⟩ <;> rcases h2 with ⟨a', b', c'⟩ | ⟨k', a', b', c', d'⟩
  · rw [a, a', c, c']
    exact ⟨rfl, hS⟩
  · rw [b'] at b
    exact absurd b (no k' a')
  · rw [b] at b'
    exact absurd b' (no k a)
  · have hk : k = k' := (nI_eq (by omega) (by omega)).mp (b.symm.trans b')
    subst hk
    rw [c, c', d, d']
    exact ⟨rfl, rfl, e2, by omega, hn, hT, hw, hl, hs⟩
theorem st_pass (S : SM T q wc nw ds wd U se id pr en be th bs wh qm len md nm) {p1 r1 r2 : Int32} {u1 : (Nat → Dg) × Int32} {u2 : (Nat → Int32) × Int32}
    (h1 : (r1 = -1 ∧ (p1 < nw ∨ ¬ p1 ≤ 2000000000) ∧ u1 = (ds, nw)) ∨ (¬ p1 < nw ∧ p1 ≤ 2000000000 ∧ r1 = nI (psC p1 ds 4) ∧ u1 = (psD p1 ds 4, p1)))
    (h2 : (r2 = -1 ∧ (p1 < nm ∨ ¬ p1 ≤ 2000000000) ∧ u2 = (th, nm)) ∨ (¬ p1 < nm ∧ p1 ≤ 2000000000 ∧ r2 = nI (psN p1 th be 4) ∧ u2 = (psT p1 th be 4, p1))) :
    r1 = r2 ∧ SM T q wc u1.2 u1.1 wd U se id pr en be u2.1 bs wh qm len md u2.2 := by
  have hS := S
  obtain ⟨e1, e2, hq, hn, hT, hw, hl, hs⟩ := S
  subst e2
  rcases h1 with ⟨a, b, c⟩ | ⟨a, b, c, d⟩ <;> rcases h2 with ⟨a', b', c'⟩ | ⟨a', b', c', d'⟩
  · rw [a, a', c, c']
    exact ⟨rfl, hS⟩
  · exact absurd b (fun z => z.elim a' (fun y => y b'))
  · exact absurd b' (fun z => z.elim a (fun y => y b))
  · obtain ⟨s1, s2⟩ := sl_pass hs a b
    rw [c, c', d, d', s2]
    exact ⟨rfl, e1, rfl, hq, ⟨Int32.le_trans hn.1 (Int32.not_lt.mp a), b⟩, hT, hw, hl, s1⟩
theorem st_at (S : SM T q wc nw ds wd U se id pr en be th bs wh qm len md nm) {p1 r1 r2 : Int32}
    (h1 : (r1 = -1 ∧ (p1 < 0 ∨ ¬ p1 < wd.1 6)) ∨ (∃ k, k < 4096 ∧ p1 = nI k ∧ nI k < wd.1 6 ∧ r1 = wd.2 k)) (h2 : (r2 = -1 ∧ (p1 < 0 ∨ ¬ p1 < len)) ∨ (∃ k, k < 4096 ∧ p1 = nI k ∧ nI k < len ∧ r2 = wh k)) : r1 = r2 := by
  obtain ⟨-, -, -, -, -, -, ⟨-, h6, hl⟩, -⟩ := S
  rw [h6] at h1
  have no : ∀ k, k < 4096 → nI k < len → ¬ (nI k < 0 ∨ ¬ nI k < len) := fun k hk h z => z.elim (nI_pos (by omega)) (fun y => y h)
  rcases h1 with ⟨a, b⟩ | ⟨k, a, b, c, d⟩ <;> rcases h2 with ⟨a', b'⟩ | ⟨k', a', b', c', d'⟩
  · rw [a, a']
  · rw [b'] at b
    exact absurd b (no k' a' c')
  · rw [b] at b'
    exact absurd b' (no k a c)
  · have hk : k = k' := (nI_eq (by omega) (by omega)).mp (b.symm.trans b')
    subst hk
    rw [d, d']
    rcases hl with hl | ⟨e, he, hl, hw⟩
    · rw [hl] at c
      exact absurd (Int32.le_of_lt c) (Int32.not_le.mpr (Int32.lt_of_lt_of_le (by decide) (nI_pos' (by omega))))
    · rw [hl] at c
      exact hw k ((nI_ltI (by omega) (by omega)).mp c)
theorem off_ok {o : Nat} (ho : o ≤ 8191) : ¬ (nI o < 0 ∨ ¬ nI o ≤ nI 8191) := fun z => z.elim (nI_pos (by omega)) (fun y => y (nI_le ho (by decide)))
theorem st_take (S : SM T q wc nw ds wd U se id pr en be th bs wh qm len md nm) {D C : Nat → Nat} {dw cw : Nat} {p1 p2 p3 p4 p5 r1 r2 : Int32} {u1 : Nat × Sj} {u2 : Sm}
    (h1 : TK D C dw cw wc nw ds wd T q p1 p2 p3 p4 p5 r1 u1) (h2 : MT se id pr en be th bs wh len md nm U qm p1 p2 p3 p4 p5 r2 u2) :
    r1 = r2 ∧ SM T u1.1 u1.2.2.2.2.2.1 nw u1.2.2.2.2.2.2.1 u1.2.2.2.2.2.2.2 U u2.2.1.1 u2.2.1.2.1 u2.2.1.2.2.1 u2.2.1.2.2.2.1 u2.2.1.2.2.2.2.1 u2.2.1.2.2.2.2.2.1 u2.2.1.2.2.2.2.2.2 u2.2.2.1 u2.1 u2.2.2.2.1 u2.2.2.2.2 nm := by
  have hS := S
  obtain ⟨e1, e2, hq, hn, hT, hw, hl, hs⟩ := S
  subst e1 e2
  rcases h1 with ⟨hr, hc, hu⟩ | ⟨o, ho, hp4, h1⟩
  · rcases h2 with ⟨hr2, -, hu2⟩ | ⟨o, ho, hp4, -⟩
    · subst hr hr2 hu hu2
      exact ⟨rfl, hS⟩
    · rw [hp4] at hc
      exact absurd hc (off_ok ho)
  · rcases h2 with ⟨-, hc, -⟩ | ⟨o', ho', hp4', h2⟩
    · rw [hp4] at hc
      exact absurd hc (off_ok ho)
    · have hoo : o = o' := (nI_eq (by omega) (by omega)).mp (hp4.symm.trans hp4')
      subst hoo
      rcases h1 with ⟨hns, hr, hu⟩ | ⟨hsd, r8, ds1, hF, h1⟩
      · rcases h2 with ⟨-, hr2, hu2⟩ | ⟨hsd, -⟩
        · subst hr hr2 hu hu2
          exact ⟨rfl, rfl, rfl, Nat.zero_le _, hn, hT, hw, hl, hs⟩
        · exact absurd hsd hns
      · rcases h2 with ⟨hns, -⟩ | ⟨-, h2⟩
        · exact absurd hsd hns
        · rcases h2 with ⟨hno, hall, hr2, hu2⟩ | ⟨k, hk, se1, id1, pr1, en1, be1, th1, bs1, hM, hJ⟩
          · obtain ⟨e8, ed⟩ := sl_full hs hF hno hall
            rcases h1 with ⟨-, hr, hu⟩ | ⟨i, hi, e9, -⟩
            · subst hr hr2 hu hu2 ed
              exact ⟨rfl, rfl, rfl, Nat.zero_le _, hn, hT, hw, hl, hs⟩
            · exact absurd (e9.symm.trans e8) (nI_m1 hi)
          · obtain ⟨i, hi, hr8, S1, h1i, heq⟩ := sl_pick hs hn.1 hF hk hM
            rcases h1 with ⟨e8, -⟩ | ⟨i', hi', e9, v, hN, hu⟩
            · exact absurd (hr8.symm.trans e8) (nI_m1 hi)
            · have hii : i' = i := (nI_eq (by omega) (by omega)).mp (e9.symm.trans hr8)
              subst hii
              subst hu
              have hcc := ctr_iff (l := p5) (S1.2.1 i' hi h1i) h1i heq hsd.1
              rcases hN with ⟨hc, hr, hv⟩ | ⟨hc, hN⟩
              · rcases hJ with ⟨-, hr2, hu2⟩ | ⟨hcm, -⟩
                · subst hr hr2 hv hu2
                  exact ⟨rfl, rfl, rfl, Nat.zero_le _, hn, hT, hw, hl, sl_drop S1 hi hk heq _ rfl⟩
                · exact absurd (hcc.mp hc) hcm
              · rcases hJ with ⟨hcm, -⟩ | ⟨-, en2, bs2, he2, hb2, hJ⟩
                · exact absurd (hcc.mpr hcm) hc
                · have he2 : en2 = en2f en1 k (o * 8 + qm) p5 := he2
                  subst he2 hb2
                  have S2 := sl_put S1 hi hk h1i heq hT hsd hc
                  have hI2 := IV_jD (S1.2.1 i' hi h1i) hT hsd hc
                  have hO2 := oC_jD (a := o * 8) (b := qm) (l := p5) h1i heq hT
                  have hd1 : (jD (ds1 i').1 (ds1 i').2 (o * 8) qm T p5).1 1 ≠ 0 := by
                    rw [jD_n (by decide) (by decide) (by decide)]
                    exact h1i
                  obtain ⟨-, -, -, -, -, e6, e7⟩ := oCM hd1 hO2
                  have hww := wh_iff hI2 e6 e7
                  rcases hN with ⟨hnw, hr, hv⟩ | ⟨hyw, hr, hv⟩
                  · rcases hJ with ⟨-, hr2, hu2⟩ | ⟨e, he, hee, hall, -⟩
                    · subst hr hr2 hv hu2
                      exact ⟨rfl, rfl, rfl, Nat.zero_le _, hn, hT, hw, hl, S2⟩
                    · exact absurd (hww.mp ⟨e, he, hee, hall⟩) hnw
                  · rcases hJ with ⟨hnm, -⟩ | ⟨e, he, hee, hall, wh2, hwh, hr2, hu2⟩
                    · obtain ⟨e, he, hee, hall⟩ := hww.mpr hyw
                      rcases hnm with hnm | ⟨e', he', hee', j, hj, hz⟩
                      · rw [hee] at hnm
                        exact absurd hnm (nI_pos (by omega))
                      · have : e = e' := (nI_eq (by omega) (by omega)).mp (hee.symm.trans hee')
                        subst this
                        exact absurd hz (hall j hj)
                    · subst hr hr2 hv hu2
                      have e6n : (jD (ds1 i').1 (ds1 i').2 (o * 8) qm T p5).1 6 = nI e := e6.symm.trans hee
                      refine ⟨e6n, rfl, rfl, Nat.zero_le _, hn, hT, by rw [hw], ⟨rfl, e6n, Or.inr ⟨e, he, rfl, fun j hj => ?_⟩⟩, ?_⟩
                      · show (jD (ds1 i').1 (ds1 i').2 (o * 8) qm T p5).2 j = wh2 j
                        rw [hwh j hj, e7 j (by omega), Int32.add_sub_cancel]
                      · have S3 := sl_drop S2 hi hk (by rw [vu_s]; exact hO2) wd hl.1
                        rw [bx_uu] at S3
                        exact S3
theorem SM_0 {d0 : Nat → Dg} {w0 : Dg} (h1 : ∀ i, i < 4 → (d0 i).1 1 = 0) (h2 : w0.1 1 = 0) (h3 : w0.1 6 = -1) : SM (fun _ => 0) 0 0 0 d0 w0 (fun _ => 0) (fun _ => 0) (fun _ => 0) (fun _ => 0) (fun _ => 0) (fun _ => 0) (fun _ => 0) (fun _ => 0) (fun _ => 0) 0 (-1) 0 0 := by
  refine ⟨rfl, rfl, Nat.zero_le _, ⟨by decide, by decide⟩, fun _ => (by decide : (0 : Int32) = 0 &&& 255), rfl, ⟨h2, h3, Or.inl rfl⟩, ?_, fun i hi z => absurd (h1 i hi) z, fun i j hi hj _ z => absurd (h1 i hi) z, fun k hk => (by decide : (0 : Int32) ≤ nI 4096)⟩
  rw [l4_eq (f := fun i => oC (d0 i)) (g := fun _ => none) (fun i hi => oC_out (h1 i hi)), l4_eq (f := oM (fun _ => 0) (fun _ => 0) (fun _ => 0) (fun _ => 0) (fun _ => 0) (fun _ => 0) (fun _ => 0)) (g := fun _ => none) (fun k _ => oM_out rfl)]
end ST
end
section
/-! THE CLAIM OUT OF ONE WALK OF THE LAW'S BODY. Your part is whole_start (and what it stands on); all else here is the same for every law, but numbers. -/
def R_law : String := "FragmentHouseLaw"
def lw_P (b : Addr) (xs : List Int32) (args : Array Value) (s : State) : Prop := args = #[.ref b] ∧ s.IntsAt b xs ∧ xs.length ≤ 3072 ∧ (Jvm.Cond.and given_1 narrow_1).before args s = true
def lw_Q (_ : Array Value) (s : State) (o : Outcome) (t : State) : Prop := o = .returned (some (.int 1)) ∧ Framed s o t [] 600000 7302250
def lw_Z (below : List Frame) (a : Array Value) (s : State) : State → Prop := fun t => ∃ o, t.status = .running ∧ Ended t below o ∧ lw_Q a s o t
/-- the law's own end, with 1 on the stack, nothing written that was there before, its room as the claim has it -/
theorem lw_ret {p : Program} {l : Launch} {e : Env} {s : State} {m : MethodId} {below : List Frame} {meth : Method} {c : Code} {b : Nat} (hx : p.tables.exec = Jvm.exec) (hb : c.code = code) (hr : meth.sig.returnType = ret) (hlocks : meth.locks = false) {pc : Nat} {H : Heap} {ls : Array Slot} (hdg : decode code pc = .ok (.ireturn, 1)) : W p l e room_1 s m #[Value.ref b] below meth c H [] 600000 7302250 (lw_Z below #[Value.ref b] s) (F0 m pc ls [.int 1]) := by
  intro T hT X
  obtain ⟨fs, hret, hrun, hended, hW, hframe⟩ := X.leave (v := some (.int 1)) (hlocks := hlocks) (fun h => by rw [hr] at h; cases h)
  have hmeth' : T.vm.method? m = some meth := X.method'
  refine ⟨T.setFrames fs, ?_, .returned (some (.int 1)), hrun, hended, rfl, ⟨_, rfl⟩, hW, hframe⟩
  jvm_step X.here [X.here.top, hx, hb, hdg, hmeth', hr, ret, narrow_b1]
  (try refine ⟨rfl, ?_⟩); (try refine ⟨rfl, ?_⟩)
  first | (intro acts; rw [hret _ acts rfl rfl rfl]) | rw [hret _ _ rfl rfl rfl]
  exact Steps.refl _
/-- what holds at the law's entry: the machine, the code, the tables' words (any of lw_tbl by 'hts w (by decide +kernel)'), the script of L ints xs at the cell b, what the Statement gives of the start (any of its parts by flat_of_before) -/
def lw_At (p : Program) (s : State) (m : MethodId) (meth : Method) (c : Code) (b L : Nat) (xs : Nat → Int32) : Prop :=
  p.tables.exec = Jvm.exec ∧ c.code = code ∧ meth.sig.returnType = ret ∧ c.maxLocals = 4 ∧ s.vm.findClass R_law = some m.cls ∧ (∀ w ∈ lw_tbl, w.before #[Value.ref b] s = true) ∧ va_X b L xs s s.heap ∧ b < s.heap.size ∧ meth.locks = false ∧ (Jvm.Cond.and given_1 narrow_1).before #[Value.ref b] s = true
end
section
/-! the law's loop -/
section FK7
variable {p : Program} {l : Launch} {e : Env} {R : Room} {s : State} {m : MethodId} {args : Array Value} {below : List Frame} {meth : Method} {c : Code} {H H0 : Heap} {locs : List Loc} {cells slots : Nat} {Q : State → Prop} {cc : ByteArray} {pc : Nat} {ls : Array Slot} {rest : List Value} {A : Nat → Prop}
theorem fh_sld (hexec : p.tables.exec = Jvm.exec) (hb : c.code = cc) {b L k : Nat} {xs : Nat → Int32} (hX : va_X b L xs s H0) (hbl : b < H0.size) (hbA : ¬ A b) (hS : va_S A H0 H locs) (hk : k < L) (hL : L < 2 ^ 31) (hdg : decode cc pc = .ok (.iaload, 1))
    (kk : W p l e R s m args below meth c H locs cells slots Q (F0 m (pc + 1) ls (.int (xs k) :: rest))) : W p l e R s m args below meth c H locs cells slots Q (F0 m pc ls (.int (nI k) :: .ref b :: rest)) := by
  refine va_sld hexec hb hX hbl hbA hS (vp_in_nI hk hL) hdg ?_
  rw [nI_clamp (Nat.lt_trans hk hL)]
  exact kk
end FK7
theorem l6 {L i : Nat} (hL : L ≤ 3072) (hi : i ≤ L) : nI L - nI 6 < nI i ↔ L < i + 6 := by
  rw [Int32.lt_iff_toInt_lt, pk_sub_toInt (by omega) (by omega), nI_toInt (by omega)]
  omega
theorem pS_AO {D : va_G} {cl : List vw_C} {tys : List (ClassId × FieldType)} {ws : va_W} {A : Nat → Prop} {s : State} {H : Heap} {As : List Value} {C : String} (hK : va_K D cl tys s) (hP : va_P D cl ws H) (hD : va_D A ws) (hO : va_AO C s) : PreS s H (va_Pc As (fun U => PW D cl tys ws H.size U ∧ va_AO C U)) As := by
  refine ⟨fun a U g mk q => ?_, fun U hU hW => ?_⟩
  · obtain ⟨q0, ⟨q1, qP, qK, qD⟩, qO⟩ := q
    exact ⟨q0, ⟨q1, qP, va_K.moved (u := U) (U := U.calling g mk a) (Vm.Alike.refl U.vm) qK, qD⟩, va_AO.moved (u := U) (U := U.calling g mk a) (Vm.Alike.refl U.vm) qO⟩
  · exact ⟨rfl, ⟨by rw [hU], by rw [hU]; exact hP, va_K.moved hW.alike hK, hD.weaken (fun _ _ _ _ => trivial)⟩, va_AO.moved hW.alike hO⟩
set_option maxHeartbeats 4000000 in
set_option maxRecDepth 100000 in
theorem law_loop {p : Program} {e : Env} {s : State} {m : MethodId} {below : List Frame} {meth : Method} {c : Code} (l : Launch) {dC : Nat → ClassId} {dI : Nat → Nat → Nat} {b L : Nat} {xs : Nat → Int32} (hL : L ≤ 3072) (C0 : lw_At p s m meth c b L xs) {A : Nat → Prop} (hA : ∀ q, s.heap.size ≤ q → A q) (hA2 : ∀ q, A q → s.heap.size ≤ q) (hbA : ¬ A b) (cI cS cJ cB cZ : ClassId) (h tr sl : Nat) (a : Nat → Nat) (hK : va_K (dC, dI) vwCl [(cI, .int), (cS, tDg), (cJ, .int), (cB, .byte), (cZ, .boolean)] s) (q : Nat) (T : Nat → Int32) (dw : Nat) (cw : Nat) (D : Nat → Nat) (C : Nat → Nat) (wc : Int32) (nw : Int32) (ds : Nat → Dg) (wd : Dg) (U : Nat → Int32) (se : Nat → Int32) (id : Nat → Int32) (pr : Nat → Int32) (en : Nat → Int32) (be : Nat → Int32) (th : Nat → Int32) (bs : Nat → Int32) (wh : Nat → Int32) (qm : Nat) (len : Int32) (md : Int32) (nm : Int32) {H : Heap} {locs : List Loc} {ls : Array Slot} (hSM : SM T q wc nw ds wd U se id pr en be th bs wh qm len md nm) (hP : va_P (dC, dI) vwCl (wH cI cS h tr sl dw cw D C T (nI q) wc nw ds wd ++ wM cJ cB cZ a U se id pr en be th bs wh (nI qm) len md nm) H) (hD : va_D A (wH cI cS h tr sl dw cw D C T (nI q) wc nw ds wd ++ wM cJ cB cZ a U se id pr en be th bs wh (nI qm) len md nm)) (hS : va_S A s.heap H locs) (hl : lv_has ls 4 [(0, .ref b), (1, .ref h), (2, .ref (a 0)), (3, .int (nI 0))]) : W p l e room_1 s m #[Value.ref b] below meth c H locs 600000 7302250 (lw_Z below #[Value.ref b] s) (F0 m 18 ls []) := by
  obtain ⟨hx, hb, hr, hml, hown, hts, hX, hbl, hlocks, hgv⟩ := C0
  have hown : s.vm.findClass RL = some m.cls := hown
  have hts : ∀ w ∈ wsL_law, w.before #[Value.ref b] s = true := fun w h => hts w (wsL_law_in w h)
  refine fh_loop (σ := Nat × Nat × (Nat → Int32) × Nat × Nat × (Nat → Nat) × (Nat → Nat) × Int32 × Int32 × (Nat → Dg) × Dg × (Nat → Int32) × (Nat → Int32) × (Nat → Int32) × (Nat → Int32) × (Nat → Int32) × (Nat → Int32) × (Nat → Int32) × (Nat → Int32) × (Nat → Int32) × Nat × Int32 × Int32 × Int32) (fun q9 H locs ls => (q9.1 ≤ L) ∧ (SM q9.2.2.1 q9.2.1 q9.2.2.2.2.2.2.2.1 q9.2.2.2.2.2.2.2.2.1 q9.2.2.2.2.2.2.2.2.2.1 q9.2.2.2.2.2.2.2.2.2.2.1 q9.2.2.2.2.2.2.2.2.2.2.2.1 q9.2.2.2.2.2.2.2.2.2.2.2.2.1 q9.2.2.2.2.2.2.2.2.2.2.2.2.2.1 q9.2.2.2.2.2.2.2.2.2.2.2.2.2.2.1 q9.2.2.2.2.2.2.2.2.2.2.2.2.2.2.2.1 q9.2.2.2.2.2.2.2.2.2.2.2.2.2.2.2.2.1 q9.2.2.2.2.2.2.2.2.2.2.2.2.2.2.2.2.2.1 q9.2.2.2.2.2.2.2.2.2.2.2.2.2.2.2.2.2.2.1 q9.2.2.2.2.2.2.2.2.2.2.2.2.2.2.2.2.2.2.2.1 q9.2.2.2.2.2.2.2.2.2.2.2.2.2.2.2.2.2.2.2.2.1 q9.2.2.2.2.2.2.2.2.2.2.2.2.2.2.2.2.2.2.2.2.2.1 q9.2.2.2.2.2.2.2.2.2.2.2.2.2.2.2.2.2.2.2.2.2.2.1 q9.2.2.2.2.2.2.2.2.2.2.2.2.2.2.2.2.2.2.2.2.2.2.2) ∧ va_P (dC, dI) vwCl (wH cI cS h tr sl q9.2.2.2.1 q9.2.2.2.2.1 q9.2.2.2.2.2.1 q9.2.2.2.2.2.2.1 q9.2.2.1 (nI q9.2.1) q9.2.2.2.2.2.2.2.1 q9.2.2.2.2.2.2.2.2.1 q9.2.2.2.2.2.2.2.2.2.1 q9.2.2.2.2.2.2.2.2.2.2.1 ++ wM cJ cB cZ a q9.2.2.2.2.2.2.2.2.2.2.2.1 q9.2.2.2.2.2.2.2.2.2.2.2.2.1 q9.2.2.2.2.2.2.2.2.2.2.2.2.2.1 q9.2.2.2.2.2.2.2.2.2.2.2.2.2.2.1 q9.2.2.2.2.2.2.2.2.2.2.2.2.2.2.2.1 q9.2.2.2.2.2.2.2.2.2.2.2.2.2.2.2.2.1 q9.2.2.2.2.2.2.2.2.2.2.2.2.2.2.2.2.2.1 q9.2.2.2.2.2.2.2.2.2.2.2.2.2.2.2.2.2.2.1 q9.2.2.2.2.2.2.2.2.2.2.2.2.2.2.2.2.2.2.2.1 (nI q9.2.2.2.2.2.2.2.2.2.2.2.2.2.2.2.2.2.2.2.2.1) q9.2.2.2.2.2.2.2.2.2.2.2.2.2.2.2.2.2.2.2.2.2.1 q9.2.2.2.2.2.2.2.2.2.2.2.2.2.2.2.2.2.2.2.2.2.2.1 q9.2.2.2.2.2.2.2.2.2.2.2.2.2.2.2.2.2.2.2.2.2.2.2) H ∧ va_D A (wH cI cS h tr sl q9.2.2.2.1 q9.2.2.2.2.1 q9.2.2.2.2.2.1 q9.2.2.2.2.2.2.1 q9.2.2.1 (nI q9.2.1) q9.2.2.2.2.2.2.2.1 q9.2.2.2.2.2.2.2.2.1 q9.2.2.2.2.2.2.2.2.2.1 q9.2.2.2.2.2.2.2.2.2.2.1 ++ wM cJ cB cZ a q9.2.2.2.2.2.2.2.2.2.2.2.1 q9.2.2.2.2.2.2.2.2.2.2.2.2.1 q9.2.2.2.2.2.2.2.2.2.2.2.2.2.1 q9.2.2.2.2.2.2.2.2.2.2.2.2.2.2.1 q9.2.2.2.2.2.2.2.2.2.2.2.2.2.2.2.1 q9.2.2.2.2.2.2.2.2.2.2.2.2.2.2.2.2.1 q9.2.2.2.2.2.2.2.2.2.2.2.2.2.2.2.2.2.1 q9.2.2.2.2.2.2.2.2.2.2.2.2.2.2.2.2.2.2.1 q9.2.2.2.2.2.2.2.2.2.2.2.2.2.2.2.2.2.2.2.1 (nI q9.2.2.2.2.2.2.2.2.2.2.2.2.2.2.2.2.2.2.2.2.1) q9.2.2.2.2.2.2.2.2.2.2.2.2.2.2.2.2.2.2.2.2.2.1 q9.2.2.2.2.2.2.2.2.2.2.2.2.2.2.2.2.2.2.2.2.2.2.1 q9.2.2.2.2.2.2.2.2.2.2.2.2.2.2.2.2.2.2.2.2.2.2.2) ∧ va_S A s.heap H locs ∧ lv_has ls 4 [(0, .ref b), (1, .ref h), (2, .ref (a 0)), (3, .int (nI q9.1))]) (fun q9 => L + 6 - q9.1) ?_ (0, q, T, dw, cw, D, C, wc, nw, ds, wd, U, se, id, pr, en, be, th, bs, wh, qm, len, md, nm) ⟨Nat.zero_le _, hSM, hP, hD, hS, lv_sub hl [0, 1, 2, 3] rfl⟩
  intro q9 H locs ls hI ih
  obtain ⟨i, q, T, dw, cw, D, C, wc, nw, ds, wd, U, se, id, pr, en, be, th, bs, wh, qm, len, md, nm⟩ := q9
  obtain ⟨hi, hSM, hP, hD, hS, hl⟩ : (i ≤ L) ∧ (SM T q wc nw ds wd U se id pr en be th bs wh qm len md nm) ∧ va_P (dC, dI) vwCl (wH cI cS h tr sl dw cw D C T (nI q) wc nw ds wd ++ wM cJ cB cZ a U se id pr en be th bs wh (nI qm) len md nm) H ∧ va_D A (wH cI cS h tr sl dw cw D C T (nI q) wc nw ds wd ++ wM cJ cB cZ a U se id pr en be th bs wh (nI qm) len md nm) ∧ va_S A s.heap H locs ∧ lv_has ls 4 [(0, .ref b), (1, .ref h), (2, .ref (a 0)), (3, .int (nI i))] := hI
  refine lv_iload_n hx hb dL_law_18 rfl (lv_at hl 3 rfl) ?_
  refine lv_aload_n hx hb dL_law_19 rfl (lv_at hl 0 rfl) ?_
  refine va_slen hx hb hX hbl hbA hS dL_law_20 ?_
  refine fh_top (y := nI L) rfl ?_
  refine lv_bipush (v := nI 6) hx hb dL_law_21 (by first | decide | rfl) ?_
  refine lv_isub hx hb dL_law_23 ?_
  refine lv_icmp_gt (tgt := 336) hx hb dL_law_24 (by decide) (fun c24 => ?_) (fun c24 => ?_)
  · skip
    refine lv_iconst (v := 1) hx hb dL_law_336 (by first | decide | rfl) ?_
    refine va_forget (fun q hq => hA2 _ (hS.2.2 q hq)) ?_
    exact lw_ret hx hb hr hlocks dL_law_337
  · skip
    have h6 : i + 6 ≤ L := by rcases Nat.lt_or_ge L (i + 6) with z | z; exact absurd ((l6 hL hi).mpr z) c24; exact z
    refine lv_aload_n hx hb dL_law_27 rfl (lv_at hl 0 rfl) ?_
    refine lv_iload_n hx hb dL_law_28 rfl (lv_at hl 3 rfl) ?_
    refine fh_sld (k := i) hx hb hX hbl hbA hS (by omega) (by omega) dL_law_29 ?_
    refine lv_bipush (v := 7) hx hb dL_law_30 (by first | decide | rfl) ?_
    refine lv_iand hx hb dL_law_32 ?_
    obtain ⟨sw, hsw, esw⟩ := pk_andE (xs i) (m := 7) 3 (by decide)
    refine fh_top (y := nI sw) esw ?_
    rcases (show sw = 0 ∨ sw = 1 ∨ sw = 2 ∨ sw = 3 ∨ sw = 4 ∨ sw = 5 ∨ sw = 6 ∨ sw = 7 by omega) with rfl | rfl | rfl | rfl | rfl | rfl | rfl | rfl
    · refine lv_tableIn (off := 47) (tgt := 80) hx hb dL_law_33 (by decide) (by decide) (by decide) (by decide) ?_
      refine lv_aload_n hx hb dL_law_80 rfl (lv_at hl 1 rfl) ?_
      refine lv_aload_n hx hb dL_law_81 rfl (lv_at hl 0 rfl) ?_
      refine lv_iload_n hx hb dL_law_82 rfl (lv_at hl 3 rfl) ?_
      refine lv_iconst (v := nI 1) hx hb dL_law_83 (by first | decide | rfl) ?_
      refine lv_iadd hx hb dL_law_84 ?_
      refine fh_top (y := nI (i + 1)) (nI_add i 1) ?_
      refine fh_sld (k := (i + 1)) hx hb hX hbl hbA hS (by omega) (by omega) dL_law_85 ?_
      refine lv_aload_n hx hb dL_law_86 rfl (lv_at hl 0 rfl) ?_
      refine lv_iload_n hx hb dL_law_87 rfl (lv_at hl 3 rfl) ?_
      refine lv_iconst (v := nI 2) hx hb dL_law_88 (by first | decide | rfl) ?_
      refine lv_iadd hx hb dL_law_89 ?_
      refine fh_top (y := nI (i + 2)) (nI_add i 2) ?_
      refine fh_sld (k := (i + 2)) hx hb hX hbl hbA hS (by omega) (by omega) dL_law_90 ?_
      refine lv_aload_n hx hb dL_law_91 rfl (lv_at hl 0 rfl) ?_
      refine lv_iload_n hx hb dL_law_92 rfl (lv_at hl 3 rfl) ?_
      refine lv_iconst (v := nI 3) hx hb dL_law_93 (by first | decide | rfl) ?_
      refine lv_iadd hx hb dL_law_94 ?_
      refine fh_top (y := nI (i + 3)) (nI_add i 3) ?_
      refine fh_sld (k := (i + 3)) hx hb hX hbl hbA hS (by omega) (by omega) dL_law_95 ?_
      refine lv_aload_n hx hb dL_law_96 rfl (lv_at hl 0 rfl) ?_
      refine lv_iload_n hx hb dL_law_97 rfl (lv_at hl 3 rfl) ?_
      refine lv_iconst (v := nI 4) hx hb dL_law_98 (by first | decide | rfl) ?_
      refine lv_iadd hx hb dL_law_99 ?_
      refine fh_top (y := nI (i + 4)) (nI_add i 4) ?_
      refine fh_sld (k := (i + 4)) hx hb hX hbl hbA hS (by omega) (by omega) dL_law_100 ?_
      refine lv_aload_n hx hb dL_law_101 rfl (lv_at hl 0 rfl) ?_
      refine lv_iload_n hx hb dL_law_102 rfl (lv_at hl 3 rfl) ?_
      refine lv_iconst (v := nI 5) hx hb dL_law_103 (by first | decide | rfl) ?_
      refine lv_iadd hx hb dL_law_104 ?_
      refine fh_top (y := nI (i + 5)) (nI_add i 5) ?_
      refine fh_sld (k := (i + 5)) hx hb hX hbl hbA hS (by omega) (by omega) dL_law_105 ?_
      have hK0 := hK
      have hK : va_K (dC, dI) vwCl [(cI, .int), (cS, tDg)] s := hK.sub [0, 1] rfl
      have hPc := hP.sub (ws' := wH cI cS h tr sl dw cw D C T (nI q) wc nw ds wd) [0, 1, 2, 3, 4, 5, 6, 7, 8, 9, 10, 11, 12] rfl
      have hDc := hD.sub (ws' := wH cI cS h tr sl dw cw D C T (nI q) wc nw ds wd) [0, 1, 2, 3, 4, 5, 6, 7, 8, 9, 10, 11, 12] (by decide) rfl
      refine fh_ci (wr := wM cJ cB cZ a U se id pr en be th bs wh (nI qm) len md nm) (w2 := fun u => wH cI cS h tr sl dw cw D C u.1 (nI u.2) wc nw ds wd ++ wM cJ cB cZ a U se id pr en be th bs wh (nI qm) len md nm) (va_runV (As := [.int (xs ((i + 1))), .int (xs ((i + 2))), .int (xs ((i + 3))), .int (xs ((i + 4))), .int (xs ((i + 5)))]) (rest := []) ⟨hx, hb, hml, hown, hts⟩ (c_feed l dC dI cI cS h tr sl dw cw D C T (nI q) wc nw ds wd (xs (i + 1)) (xs (i + 2)) (xs (i + 3)) (xs (i + 4)) (xs (i + 5)) q H.size (SM_q hSM)) (cwV 5 hts gL_law_X1_feed rfl rfl rfl (by decide +kernel) ⟨Nat.le_of_ble_eq_true rfl, Nat.le_of_ble_eq_true rfl⟩) (pV_PW hK hPc hDc (ci := 1) (q0 := 0) rfl rfl) rfl rfl hl.1 rfl (lv_room (Nat.le_of_ble_eq_true rfl)) dL_law_106 ⟨Nat.le_of_ble_eq_true rfl, Nat.le_of_ble_eq_true rfl⟩) hP hD hS hA [0, 1, 2, 3, 4, 5, 6, 7, 8, 9, 10, 11, 12] [13, 14, 15, 16, 17, 18, 19, 20, 21, 22] [10, 11, 12, 13, 14, 15, 16, 17, 18, 19, 20, 21, 22, 0, 1, 2, 3, 4, 5, 6, 7, 8, 9] rfl rfl (by decide) (by decide) (by decide) (fun _ => rfl) (fun r1 u1 H locs hw hK hP hD hS => ?_)
      have hK := hK0
      have hw1 := hw
      have hP : va_P (dC, dI) vwCl (wH cI cS h tr sl dw cw D C u1.1 (nI u1.2) wc nw ds wd ++ wM cJ cB cZ a U se id pr en be th bs wh (nI qm) len md nm) H := hP
      have hD : va_D A (wH cI cS h tr sl dw cw D C u1.1 (nI u1.2) wc nw ds wd ++ wM cJ cB cZ a U se id pr en be th bs wh (nI qm) len md nm) := hD
      refine lv_aload_n hx hb dL_law_109 rfl (lv_at hl 2 rfl) ?_
      refine lv_aload_n hx hb dL_law_110 rfl (lv_at hl 0 rfl) ?_
      refine lv_iload_n hx hb dL_law_111 rfl (lv_at hl 3 rfl) ?_
      refine lv_iconst (v := nI 1) hx hb dL_law_112 (by first | decide | rfl) ?_
      refine lv_iadd hx hb dL_law_113 ?_
      refine fh_top (y := nI (i + 1)) (nI_add i 1) ?_
      refine fh_sld (k := (i + 1)) hx hb hX hbl hbA hS (by omega) (by omega) dL_law_114 ?_
      refine lv_aload_n hx hb dL_law_115 rfl (lv_at hl 0 rfl) ?_
      refine lv_iload_n hx hb dL_law_116 rfl (lv_at hl 3 rfl) ?_
      refine lv_iconst (v := nI 2) hx hb dL_law_117 (by first | decide | rfl) ?_
      refine lv_iadd hx hb dL_law_118 ?_
      refine fh_top (y := nI (i + 2)) (nI_add i 2) ?_
      refine fh_sld (k := (i + 2)) hx hb hX hbl hbA hS (by omega) (by omega) dL_law_119 ?_
      refine lv_aload_n hx hb dL_law_120 rfl (lv_at hl 0 rfl) ?_
      refine lv_iload_n hx hb dL_law_121 rfl (lv_at hl 3 rfl) ?_
      refine lv_iconst (v := nI 3) hx hb dL_law_122 (by first | decide | rfl) ?_
      refine lv_iadd hx hb dL_law_123 ?_
      refine fh_top (y := nI (i + 3)) (nI_add i 3) ?_
      refine fh_sld (k := (i + 3)) hx hb hX hbl hbA hS (by omega) (by omega) dL_law_124 ?_
      refine lv_aload_n hx hb dL_law_125 rfl (lv_at hl 0 rfl) ?_
      refine lv_iload_n hx hb dL_law_126 rfl (lv_at hl 3 rfl) ?_
      refine lv_iconst (v := nI 4) hx hb dL_law_127 (by first | decide | rfl) ?_
      refine lv_iadd hx hb dL_law_128 ?_
      refine fh_top (y := nI (i + 4)) (nI_add i 4) ?_
      refine fh_sld (k := (i + 4)) hx hb hX hbl hbA hS (by omega) (by omega) dL_law_129 ?_
      refine lv_aload_n hx hb dL_law_130 rfl (lv_at hl 0 rfl) ?_
      refine lv_iload_n hx hb dL_law_131 rfl (lv_at hl 3 rfl) ?_
      refine lv_iconst (v := nI 5) hx hb dL_law_132 (by first | decide | rfl) ?_
      refine lv_iadd hx hb dL_law_133 ?_
      refine fh_top (y := nI (i + 5)) (nI_add i 5) ?_
      refine fh_sld (k := (i + 5)) hx hb hX hbl hbA hS (by omega) (by omega) dL_law_134 ?_
      have hK0 := hK
      have hK : va_K (dC, dI) vwCl [(cJ, .int), (cB, .byte), (cZ, .boolean)] s := hK.sub [2, 3, 4] rfl
      have hPc := hP.sub (ws' := wM cJ cB cZ a U se id pr en be th bs wh (nI qm) len md nm) [13, 14, 15, 16, 17, 18, 19, 20, 21, 22] rfl
      have hDc := hD.sub (ws' := wM cJ cB cZ a U se id pr en be th bs wh (nI qm) len md nm) [13, 14, 15, 16, 17, 18, 19, 20, 21, 22] (by decide) rfl
      refine fh_ci (wr := wH cI cS h tr sl dw cw D C u1.1 (nI u1.2) wc nw ds wd) (w2 := fun u => wH cI cS h tr sl dw cw D C u1.1 (nI u1.2) wc nw ds wd ++ wM cJ cB cZ a u.1 se id pr en be th bs wh (nI u.2) len md nm) (va_runV (As := [.int (xs ((i + 1))), .int (xs ((i + 2))), .int (xs ((i + 3))), .int (xs ((i + 4))), .int (xs ((i + 5)))]) (rest := [.int r1]) ⟨hx, hb, hml, hown, hts⟩ (m_feed l dC dI cJ cB cZ a U se id pr en be th bs wh len md nm (xs (i + 1)) (xs (i + 2)) (xs (i + 3)) (xs (i + 4)) (xs (i + 5)) qm H.size (SM_qm hSM)) (cwV 5 hts gL_law_X2_feed rfl rfl rfl (by decide +kernel) ⟨Nat.le_of_ble_eq_true rfl, Nat.le_of_ble_eq_true rfl⟩) (pV_PW hK hPc hDc (ci := 2) (q0 := 0) rfl rfl) rfl rfl hl.1 rfl (lv_room (Nat.le_of_ble_eq_true rfl)) dL_law_135 ⟨Nat.le_of_ble_eq_true rfl, Nat.le_of_ble_eq_true rfl⟩) hP hD hS hA [13, 14, 15, 16, 17, 18, 19, 20, 21, 22] [0, 1, 2, 3, 4, 5, 6, 7, 8, 9, 10, 11, 12] [0, 1, 2, 3, 4, 5, 6, 7, 8, 9, 10, 11, 12, 13, 14, 15, 16, 17, 18, 19, 20, 21, 22] rfl rfl (by decide) (by decide) (by decide) (fun _ => rfl) (fun r2 u2 H locs hw hK hP hD hS => ?_)
      have hK := hK0
      have hst := st_feed hSM hw1 hw
      have hP : va_P (dC, dI) vwCl (wH cI cS h tr sl dw cw D C u1.1 (nI u1.2) wc nw ds wd ++ wM cJ cB cZ a u2.1 se id pr en be th bs wh (nI u2.2) len md nm) H := hP
      have hD : va_D A (wH cI cS h tr sl dw cw D C u1.1 (nI u1.2) wc nw ds wd ++ wM cJ cB cZ a u2.1 se id pr en be th bs wh (nI u2.2) len md nm) := hD
      refine lv_icmp_eq (tgt := 330) hx hb dL_law_138 (by decide) (fun c138 => ?_) (fun c138 => ?_)
      · skip
        refine lv_iinc (v := (nI (i + 6))) (lv' := [(3, .int (nI (i + 6))), (0, .ref b), (1, .ref h), (2, .ref (a 0))]) hx hb dL_law_330 hl (k := 3) rfl (nI_add i 6) (by decide) rfl (fun ls hl => ?_)
        refine lv_goto (tgt := 18) hx hb dL_law_333 (by decide) ?_
        exact ih (i + 6, u1.2, u1.1, dw, cw, D, C, wc, nw, ds, wd, u2.1, se, id, pr, en, be, th, bs, wh, u2.2, len, md, nm) _ _ _ ⟨by omega, hst.2, hP, hD, hS, lv_sub hl [1, 2, 3, 0] rfl⟩ (by show L + 6 - (i + 6) < L + 6 - i; omega)
      · skip
        exact absurd hst.1 c138
    · refine lv_tableIn (off := 110) (tgt := 143) hx hb dL_law_33 (by decide) (by decide) (by decide) (by decide) ?_
      refine lv_aload_n hx hb dL_law_143 rfl (lv_at hl 1 rfl) ?_
      refine lv_aload_n hx hb dL_law_144 rfl (lv_at hl 0 rfl) ?_
      refine lv_iload_n hx hb dL_law_145 rfl (lv_at hl 3 rfl) ?_
      refine lv_iconst (v := nI 1) hx hb dL_law_146 (by first | decide | rfl) ?_
      refine lv_iadd hx hb dL_law_147 ?_
      refine fh_top (y := nI (i + 1)) (nI_add i 1) ?_
      refine fh_sld (k := (i + 1)) hx hb hX hbl hbA hS (by omega) (by omega) dL_law_148 ?_
      have hK0 := hK
      have hK : va_K (dC, dI) vwCl [(cI, .int), (cS, tDg)] s := hK.sub [0, 1] rfl
      have hPc := hP.sub (ws' := wH cI cS h tr sl dw cw D C T (nI q) wc nw ds wd) [0, 1, 2, 3, 4, 5, 6, 7, 8, 9, 10, 11, 12] rfl
      have hDc := hD.sub (ws' := wH cI cS h tr sl dw cw D C T (nI q) wc nw ds wd) [0, 1, 2, 3, 4, 5, 6, 7, 8, 9, 10, 11, 12] (by decide) rfl
      refine fh_ci (wr := wM cJ cB cZ a U se id pr en be th bs wh (nI qm) len md nm) (w2 := fun u => wH cI cS h tr sl dw cw D C T (nI u) wc nw ds wd ++ wM cJ cB cZ a U se id pr en be th bs wh (nI qm) len md nm) (va_runV (As := [.int (xs ((i + 1)))]) (rest := []) ⟨hx, hb, hml, hown, hts⟩ (c_end l dC dI cI cS h tr sl dw cw D C T (nI q) wc nw ds wd (xs (i + 1)) q H.size (SM_q hSM)) (cwV 1 hts gL_law_X1_end rfl rfl rfl (by decide +kernel) ⟨Nat.le_of_ble_eq_true rfl, Nat.le_of_ble_eq_true rfl⟩) (pV_PW hK hPc hDc (ci := 1) (q0 := 0) rfl rfl) rfl rfl hl.1 rfl (lv_room (Nat.le_of_ble_eq_true rfl)) dL_law_149 ⟨Nat.le_of_ble_eq_true rfl, Nat.le_of_ble_eq_true rfl⟩) hP hD hS hA [0, 1, 2, 3, 4, 5, 6, 7, 8, 9, 10, 11, 12] [13, 14, 15, 16, 17, 18, 19, 20, 21, 22] [10, 11, 12, 13, 14, 15, 16, 17, 18, 19, 20, 21, 22, 0, 1, 2, 3, 4, 5, 6, 7, 8, 9] rfl rfl (by decide) (by decide) (by decide) (fun _ => rfl) (fun r1 u1 H locs hw hK hP hD hS => ?_)
      have hK := hK0
      have hw1 := hw
      have hP : va_P (dC, dI) vwCl (wH cI cS h tr sl dw cw D C T (nI u1) wc nw ds wd ++ wM cJ cB cZ a U se id pr en be th bs wh (nI qm) len md nm) H := hP
      have hD : va_D A (wH cI cS h tr sl dw cw D C T (nI u1) wc nw ds wd ++ wM cJ cB cZ a U se id pr en be th bs wh (nI qm) len md nm) := hD
      refine lv_aload_n hx hb dL_law_152 rfl (lv_at hl 2 rfl) ?_
      refine lv_aload_n hx hb dL_law_153 rfl (lv_at hl 0 rfl) ?_
      refine lv_iload_n hx hb dL_law_154 rfl (lv_at hl 3 rfl) ?_
      refine lv_iconst (v := nI 1) hx hb dL_law_155 (by first | decide | rfl) ?_
      refine lv_iadd hx hb dL_law_156 ?_
      refine fh_top (y := nI (i + 1)) (nI_add i 1) ?_
      refine fh_sld (k := (i + 1)) hx hb hX hbl hbA hS (by omega) (by omega) dL_law_157 ?_
      have hK0 := hK
      have hK : va_K (dC, dI) vwCl [(cJ, .int), (cB, .byte), (cZ, .boolean)] s := hK.sub [2, 3, 4] rfl
      have hPc := hP.sub (ws' := wM cJ cB cZ a U se id pr en be th bs wh (nI qm) len md nm) [13, 14, 15, 16, 17, 18, 19, 20, 21, 22] rfl
      have hDc := hD.sub (ws' := wM cJ cB cZ a U se id pr en be th bs wh (nI qm) len md nm) [13, 14, 15, 16, 17, 18, 19, 20, 21, 22] (by decide) rfl
      refine fh_ci (wr := wH cI cS h tr sl dw cw D C T (nI u1) wc nw ds wd) (w2 := fun u => wH cI cS h tr sl dw cw D C T (nI u1) wc nw ds wd ++ wM cJ cB cZ a U se id pr en be th bs wh (nI u) len md nm) (va_runV (As := [.int (xs ((i + 1)))]) (rest := [.int r1]) ⟨hx, hb, hml, hown, hts⟩ (m_end l dC dI cJ cB cZ a U se id pr en be th bs wh len md nm (xs (i + 1)) qm H.size (SM_qm hSM)) (cwV 1 hts gL_law_X2_end rfl rfl rfl (by decide +kernel) ⟨Nat.le_of_ble_eq_true rfl, Nat.le_of_ble_eq_true rfl⟩) (pV_PW hK hPc hDc (ci := 2) (q0 := 0) rfl rfl) rfl rfl hl.1 rfl (lv_room (Nat.le_of_ble_eq_true rfl)) dL_law_158 ⟨Nat.le_of_ble_eq_true rfl, Nat.le_of_ble_eq_true rfl⟩) hP hD hS hA [13, 14, 15, 16, 17, 18, 19, 20, 21, 22] [0, 1, 2, 3, 4, 5, 6, 7, 8, 9, 10, 11, 12] [0, 1, 2, 3, 4, 5, 6, 7, 8, 9, 10, 11, 12, 13, 14, 15, 16, 17, 18, 19, 20, 21, 22] rfl rfl (by decide) (by decide) (by decide) (fun _ => rfl) (fun r2 u2 H locs hw hK hP hD hS => ?_)
      have hK := hK0
      have hst := st_end hSM hw1 hw
      have hP : va_P (dC, dI) vwCl (wH cI cS h tr sl dw cw D C T (nI u1) wc nw ds wd ++ wM cJ cB cZ a U se id pr en be th bs wh (nI u2) len md nm) H := hP
      have hD : va_D A (wH cI cS h tr sl dw cw D C T (nI u1) wc nw ds wd ++ wM cJ cB cZ a U se id pr en be th bs wh (nI u2) len md nm) := hD
      refine lv_icmp_eq (tgt := 330) hx hb dL_law_161 (by decide) (fun c161 => ?_) (fun c161 => ?_)
      · skip
        refine lv_iinc (v := (nI (i + 6))) (lv' := [(3, .int (nI (i + 6))), (0, .ref b), (1, .ref h), (2, .ref (a 0))]) hx hb dL_law_330 hl (k := 3) rfl (nI_add i 6) (by decide) rfl (fun ls hl => ?_)
        refine lv_goto (tgt := 18) hx hb dL_law_333 (by decide) ?_
        exact ih (i + 6, u1, T, dw, cw, D, C, wc, nw, ds, wd, U, se, id, pr, en, be, th, bs, wh, u2, len, md, nm) _ _ _ ⟨by omega, hst.2, hP, hD, hS, lv_sub hl [1, 2, 3, 0] rfl⟩ (by show L + 6 - (i + 6) < L + 6 - i; omega)
      · skip
        exact absurd hst.1 c161
    · refine lv_tableIn (off := 133) (tgt := 166) hx hb dL_law_33 (by decide) (by decide) (by decide) (by decide) ?_
      refine lv_aload_n hx hb dL_law_166 rfl (lv_at hl 1 rfl) ?_
      refine lv_aload_n hx hb dL_law_167 rfl (lv_at hl 0 rfl) ?_
      refine lv_iload_n hx hb dL_law_168 rfl (lv_at hl 3 rfl) ?_
      refine lv_iconst (v := nI 1) hx hb dL_law_169 (by first | decide | rfl) ?_
      refine lv_iadd hx hb dL_law_170 ?_
      refine fh_top (y := nI (i + 1)) (nI_add i 1) ?_
      refine fh_sld (k := (i + 1)) hx hb hX hbl hbA hS (by omega) (by omega) dL_law_171 ?_
      refine lv_aload_n hx hb dL_law_172 rfl (lv_at hl 0 rfl) ?_
      refine lv_iload_n hx hb dL_law_173 rfl (lv_at hl 3 rfl) ?_
      refine lv_iconst (v := nI 2) hx hb dL_law_174 (by first | decide | rfl) ?_
      refine lv_iadd hx hb dL_law_175 ?_
      refine fh_top (y := nI (i + 2)) (nI_add i 2) ?_
      refine fh_sld (k := (i + 2)) hx hb hX hbl hbA hS (by omega) (by omega) dL_law_176 ?_
      refine lv_aload_n hx hb dL_law_177 rfl (lv_at hl 0 rfl) ?_
      refine lv_iload_n hx hb dL_law_178 rfl (lv_at hl 3 rfl) ?_
      refine lv_iconst (v := nI 3) hx hb dL_law_179 (by first | decide | rfl) ?_
      refine lv_iadd hx hb dL_law_180 ?_
      refine fh_top (y := nI (i + 3)) (nI_add i 3) ?_
      refine fh_sld (k := (i + 3)) hx hb hX hbl hbA hS (by omega) (by omega) dL_law_181 ?_
      refine lv_aload_n hx hb dL_law_182 rfl (lv_at hl 0 rfl) ?_
      refine lv_iload_n hx hb dL_law_183 rfl (lv_at hl 3 rfl) ?_
      refine lv_iconst (v := nI 4) hx hb dL_law_184 (by first | decide | rfl) ?_
      refine lv_iadd hx hb dL_law_185 ?_
      refine fh_top (y := nI (i + 4)) (nI_add i 4) ?_
      refine fh_sld (k := (i + 4)) hx hb hX hbl hbA hS (by omega) (by omega) dL_law_186 ?_
      refine lv_aload_n hx hb dL_law_187 rfl (lv_at hl 0 rfl) ?_
      refine lv_iload_n hx hb dL_law_188 rfl (lv_at hl 3 rfl) ?_
      refine lv_iconst (v := nI 5) hx hb dL_law_189 (by first | decide | rfl) ?_
      refine lv_iadd hx hb dL_law_190 ?_
      refine fh_top (y := nI (i + 5)) (nI_add i 5) ?_
      refine fh_sld (k := (i + 5)) hx hb hX hbl hbA hS (by omega) (by omega) dL_law_191 ?_
      refine lv_if_eq (tgt := 199) hx hb dL_law_192 (by decide) (fun c192 => ?_) (fun c192 => ?_)
      · skip
        refine lv_iconst (v := 0) hx hb dL_law_199 (by first | decide | rfl) ?_
        have hK0 := hK
        have hK : va_K (dC, dI) vwCl [(cI, .int), (cS, tDg)] s := hK.sub [0, 1] rfl
        have hPc := hP.sub (ws' := wH cI cS h tr sl dw cw D C T (nI q) wc nw ds wd) [0, 1, 2, 3, 4, 5, 6, 7, 8, 9, 10, 11, 12] rfl
        have hDc := hD.sub (ws' := wH cI cS h tr sl dw cw D C T (nI q) wc nw ds wd) [0, 1, 2, 3, 4, 5, 6, 7, 8, 9, 10, 11, 12] (by decide) rfl
        refine fh_ci (wr := wM cJ cB cZ a U se id pr en be th bs wh (nI qm) len md nm) (w2 := fun u => wH cI cS h tr sl u.2.2.2.1 u.2.2.2.2.1 u.2.1 u.2.2.1 T (nI u.1) u.2.2.2.2.2.1 nw u.2.2.2.2.2.2.1 u.2.2.2.2.2.2.2 ++ wM cJ cB cZ a U se id pr en be th bs wh (nI qm) len md nm) (va_runV (As := [.int (xs ((i + 1))), .int (xs ((i + 2))), .int (xs ((i + 3))), .int (xs ((i + 4))), .int 0]) (rest := []) ⟨hx, hb, hml, hown, hts⟩ (c_take l dC dI cI cS h tr sl dw cw D C T (nI q) wc nw ds wd (xs (i + 1)) (xs (i + 2)) (xs (i + 3)) (xs (i + 4)) 0 q H.size (SM_q hSM)) (cwV 5 hts gL_law_X1_take rfl rfl rfl (by decide +kernel) ⟨Nat.le_of_ble_eq_true rfl, Nat.le_of_ble_eq_true rfl⟩) (pV_PW hK hPc hDc (ci := 1) (q0 := 0) rfl rfl) rfl rfl hl.1 rfl (lv_room (Nat.le_of_ble_eq_true rfl)) dL_law_200 ⟨Nat.le_of_ble_eq_true rfl, Nat.le_of_ble_eq_true rfl⟩) hP hD hS hA [0, 1, 2, 3, 4, 5, 6, 7, 8, 9, 10, 11, 12] [13, 14, 15, 16, 17, 18, 19, 20, 21, 22] [10, 11, 12, 13, 14, 15, 16, 17, 18, 19, 20, 21, 22, 0, 1, 2, 3, 4, 5, 6, 7, 8, 9] rfl rfl (by decide) (by decide) (by decide) (fun _ => rfl) (fun r1 u1 H locs hw hK hP hD hS => ?_)
        have hK := hK0
        have hw1 := hw
        have hP : va_P (dC, dI) vwCl (wH cI cS h tr sl u1.2.2.2.1 u1.2.2.2.2.1 u1.2.1 u1.2.2.1 T (nI u1.1) u1.2.2.2.2.2.1 nw u1.2.2.2.2.2.2.1 u1.2.2.2.2.2.2.2 ++ wM cJ cB cZ a U se id pr en be th bs wh (nI qm) len md nm) H := hP
        have hD : va_D A (wH cI cS h tr sl u1.2.2.2.1 u1.2.2.2.2.1 u1.2.1 u1.2.2.1 T (nI u1.1) u1.2.2.2.2.2.1 nw u1.2.2.2.2.2.2.1 u1.2.2.2.2.2.2.2 ++ wM cJ cB cZ a U se id pr en be th bs wh (nI qm) len md nm) := hD
        refine lv_aload_n hx hb dL_law_203 rfl (lv_at hl 2 rfl) ?_
        refine lv_aload_n hx hb dL_law_204 rfl (lv_at hl 0 rfl) ?_
        refine lv_iload_n hx hb dL_law_205 rfl (lv_at hl 3 rfl) ?_
        refine lv_iconst (v := nI 1) hx hb dL_law_206 (by first | decide | rfl) ?_
        refine lv_iadd hx hb dL_law_207 ?_
        refine fh_top (y := nI (i + 1)) (nI_add i 1) ?_
        refine fh_sld (k := (i + 1)) hx hb hX hbl hbA hS (by omega) (by omega) dL_law_208 ?_
        refine lv_aload_n hx hb dL_law_209 rfl (lv_at hl 0 rfl) ?_
        refine lv_iload_n hx hb dL_law_210 rfl (lv_at hl 3 rfl) ?_
        refine lv_iconst (v := nI 2) hx hb dL_law_211 (by first | decide | rfl) ?_
        refine lv_iadd hx hb dL_law_212 ?_
        refine fh_top (y := nI (i + 2)) (nI_add i 2) ?_
        refine fh_sld (k := (i + 2)) hx hb hX hbl hbA hS (by omega) (by omega) dL_law_213 ?_
        refine lv_aload_n hx hb dL_law_214 rfl (lv_at hl 0 rfl) ?_
        refine lv_iload_n hx hb dL_law_215 rfl (lv_at hl 3 rfl) ?_
        refine lv_iconst (v := nI 3) hx hb dL_law_216 (by first | decide | rfl) ?_
        refine lv_iadd hx hb dL_law_217 ?_
        refine fh_top (y := nI (i + 3)) (nI_add i 3) ?_
        refine fh_sld (k := (i + 3)) hx hb hX hbl hbA hS (by omega) (by omega) dL_law_218 ?_
        refine lv_aload_n hx hb dL_law_219 rfl (lv_at hl 0 rfl) ?_
        refine lv_iload_n hx hb dL_law_220 rfl (lv_at hl 3 rfl) ?_
        refine lv_iconst (v := nI 4) hx hb dL_law_221 (by first | decide | rfl) ?_
        refine lv_iadd hx hb dL_law_222 ?_
        refine fh_top (y := nI (i + 4)) (nI_add i 4) ?_
        refine fh_sld (k := (i + 4)) hx hb hX hbl hbA hS (by omega) (by omega) dL_law_223 ?_
        refine lv_aload_n hx hb dL_law_224 rfl (lv_at hl 0 rfl) ?_
        refine lv_iload_n hx hb dL_law_225 rfl (lv_at hl 3 rfl) ?_
        refine lv_iconst (v := nI 5) hx hb dL_law_226 (by first | decide | rfl) ?_
        refine lv_iadd hx hb dL_law_227 ?_
        refine fh_top (y := nI (i + 5)) (nI_add i 5) ?_
        refine fh_sld (k := (i + 5)) hx hb hX hbl hbA hS (by omega) (by omega) dL_law_228 ?_
        refine lv_if_eq (tgt := 236) hx hb dL_law_229 (by decide) (fun c229 => ?_) (fun c229 => ?_)
        · skip
          refine lv_iconst (v := 0) hx hb dL_law_236 (by first | decide | rfl) ?_
          have hK0 := hK
          have hK : va_K (dC, dI) vwCl [(cJ, .int), (cB, .byte), (cZ, .boolean)] s := hK.sub [2, 3, 4] rfl
          have hPc := hP.sub (ws' := wM cJ cB cZ a U se id pr en be th bs wh (nI qm) len md nm) [13, 14, 15, 16, 17, 18, 19, 20, 21, 22] rfl
          have hDc := hD.sub (ws' := wM cJ cB cZ a U se id pr en be th bs wh (nI qm) len md nm) [13, 14, 15, 16, 17, 18, 19, 20, 21, 22] (by decide) rfl
          refine fh_ci (wr := wH cI cS h tr sl u1.2.2.2.1 u1.2.2.2.2.1 u1.2.1 u1.2.2.1 T (nI u1.1) u1.2.2.2.2.2.1 nw u1.2.2.2.2.2.2.1 u1.2.2.2.2.2.2.2) (w2 := fun u => wH cI cS h tr sl u1.2.2.2.1 u1.2.2.2.2.1 u1.2.1 u1.2.2.1 T (nI u1.1) u1.2.2.2.2.2.1 nw u1.2.2.2.2.2.2.1 u1.2.2.2.2.2.2.2 ++ wM cJ cB cZ a U u.2.1.1 u.2.1.2.1 u.2.1.2.2.1 u.2.1.2.2.2.1 u.2.1.2.2.2.2.1 u.2.1.2.2.2.2.2.1 u.2.1.2.2.2.2.2.2 u.2.2.1 (nI u.1) u.2.2.2.1 u.2.2.2.2 nm) (va_runV (As := [.int (xs ((i + 1))), .int (xs ((i + 2))), .int (xs ((i + 3))), .int (xs ((i + 4))), .int 0]) (rest := [.int r1]) ⟨hx, hb, hml, hown, hts⟩ (m_take l dC dI cJ cB cZ a U se id pr en be th bs wh len md nm (xs (i + 1)) (xs (i + 2)) (xs (i + 3)) (xs (i + 4)) 0 qm H.size (SM_qm hSM) (SM_en hSM)) (cwV 5 hts gL_law_X2_take rfl rfl rfl (by decide +kernel) ⟨Nat.le_of_ble_eq_true rfl, Nat.le_of_ble_eq_true rfl⟩) (pV_PW hK hPc hDc (ci := 2) (q0 := 0) rfl rfl) rfl rfl hl.1 rfl (lv_room (Nat.le_of_ble_eq_true rfl)) dL_law_237 ⟨Nat.le_of_ble_eq_true rfl, Nat.le_of_ble_eq_true rfl⟩) hP hD hS hA [13, 14, 15, 16, 17, 18, 19, 20, 21, 22] [0, 1, 2, 3, 4, 5, 6, 7, 8, 9, 10, 11, 12] [0, 1, 2, 3, 4, 5, 6, 7, 8, 9, 10, 11, 12, 13, 14, 15, 16, 17, 18, 19, 20, 21, 22] rfl rfl (by decide) (by decide) (by decide) (fun _ => rfl) (fun r2 u2 H locs hw hK hP hD hS => ?_)
          have hK := hK0
          have hst := st_take hSM hw1 hw
          have hP : va_P (dC, dI) vwCl (wH cI cS h tr sl u1.2.2.2.1 u1.2.2.2.2.1 u1.2.1 u1.2.2.1 T (nI u1.1) u1.2.2.2.2.2.1 nw u1.2.2.2.2.2.2.1 u1.2.2.2.2.2.2.2 ++ wM cJ cB cZ a U u2.2.1.1 u2.2.1.2.1 u2.2.1.2.2.1 u2.2.1.2.2.2.1 u2.2.1.2.2.2.2.1 u2.2.1.2.2.2.2.2.1 u2.2.1.2.2.2.2.2.2 u2.2.2.1 (nI u2.1) u2.2.2.2.1 u2.2.2.2.2 nm) H := hP
          have hD : va_D A (wH cI cS h tr sl u1.2.2.2.1 u1.2.2.2.2.1 u1.2.1 u1.2.2.1 T (nI u1.1) u1.2.2.2.2.2.1 nw u1.2.2.2.2.2.2.1 u1.2.2.2.2.2.2.2 ++ wM cJ cB cZ a U u2.2.1.1 u2.2.1.2.1 u2.2.1.2.2.1 u2.2.1.2.2.2.1 u2.2.1.2.2.2.2.1 u2.2.1.2.2.2.2.2.1 u2.2.1.2.2.2.2.2.2 u2.2.2.1 (nI u2.1) u2.2.2.2.1 u2.2.2.2.2 nm) := hD
          refine lv_icmp_eq (tgt := 330) hx hb dL_law_240 (by decide) (fun c240 => ?_) (fun c240 => ?_)
          · skip
            refine lv_iinc (v := (nI (i + 6))) (lv' := [(3, .int (nI (i + 6))), (0, .ref b), (1, .ref h), (2, .ref (a 0))]) hx hb dL_law_330 hl (k := 3) rfl (nI_add i 6) (by decide) rfl (fun ls hl => ?_)
            refine lv_goto (tgt := 18) hx hb dL_law_333 (by decide) ?_
            exact ih (i + 6, u1.1, T, u1.2.2.2.1, u1.2.2.2.2.1, u1.2.1, u1.2.2.1, u1.2.2.2.2.2.1, nw, u1.2.2.2.2.2.2.1, u1.2.2.2.2.2.2.2, U, u2.2.1.1, u2.2.1.2.1, u2.2.1.2.2.1, u2.2.1.2.2.2.1, u2.2.1.2.2.2.2.1, u2.2.1.2.2.2.2.2.1, u2.2.1.2.2.2.2.2.2, u2.2.2.1, u2.1, u2.2.2.2.1, u2.2.2.2.2, nm) _ _ _ ⟨by omega, hst.2, hP, hD, hS, lv_sub hl [1, 2, 3, 0] rfl⟩ (by show L + 6 - (i + 6) < L + 6 - i; omega)
          · skip
            exact absurd hst.1 c240
        · skip
          exact absurd c192 c229
      · skip
        refine lv_iconst (v := 1) hx hb dL_law_195 (by first | decide | rfl) ?_
        refine lv_goto (tgt := 200) hx hb dL_law_196 (by decide) ?_
        have hK0 := hK
        have hK : va_K (dC, dI) vwCl [(cI, .int), (cS, tDg)] s := hK.sub [0, 1] rfl
        have hPc := hP.sub (ws' := wH cI cS h tr sl dw cw D C T (nI q) wc nw ds wd) [0, 1, 2, 3, 4, 5, 6, 7, 8, 9, 10, 11, 12] rfl
        have hDc := hD.sub (ws' := wH cI cS h tr sl dw cw D C T (nI q) wc nw ds wd) [0, 1, 2, 3, 4, 5, 6, 7, 8, 9, 10, 11, 12] (by decide) rfl
        refine fh_ci (wr := wM cJ cB cZ a U se id pr en be th bs wh (nI qm) len md nm) (w2 := fun u => wH cI cS h tr sl u.2.2.2.1 u.2.2.2.2.1 u.2.1 u.2.2.1 T (nI u.1) u.2.2.2.2.2.1 nw u.2.2.2.2.2.2.1 u.2.2.2.2.2.2.2 ++ wM cJ cB cZ a U se id pr en be th bs wh (nI qm) len md nm) (va_runV (As := [.int (xs ((i + 1))), .int (xs ((i + 2))), .int (xs ((i + 3))), .int (xs ((i + 4))), .int 1]) (rest := []) ⟨hx, hb, hml, hown, hts⟩ (c_take l dC dI cI cS h tr sl dw cw D C T (nI q) wc nw ds wd (xs (i + 1)) (xs (i + 2)) (xs (i + 3)) (xs (i + 4)) 1 q H.size (SM_q hSM)) (cwV 5 hts gL_law_X1_take rfl rfl rfl (by decide +kernel) ⟨Nat.le_of_ble_eq_true rfl, Nat.le_of_ble_eq_true rfl⟩) (pV_PW hK hPc hDc (ci := 1) (q0 := 0) rfl rfl) rfl rfl hl.1 rfl (lv_room (Nat.le_of_ble_eq_true rfl)) dL_law_200 ⟨Nat.le_of_ble_eq_true rfl, Nat.le_of_ble_eq_true rfl⟩) hP hD hS hA [0, 1, 2, 3, 4, 5, 6, 7, 8, 9, 10, 11, 12] [13, 14, 15, 16, 17, 18, 19, 20, 21, 22] [10, 11, 12, 13, 14, 15, 16, 17, 18, 19, 20, 21, 22, 0, 1, 2, 3, 4, 5, 6, 7, 8, 9] rfl rfl (by decide) (by decide) (by decide) (fun _ => rfl) (fun r1 u1 H locs hw hK hP hD hS => ?_)
        have hK := hK0
        have hw1 := hw
        have hP : va_P (dC, dI) vwCl (wH cI cS h tr sl u1.2.2.2.1 u1.2.2.2.2.1 u1.2.1 u1.2.2.1 T (nI u1.1) u1.2.2.2.2.2.1 nw u1.2.2.2.2.2.2.1 u1.2.2.2.2.2.2.2 ++ wM cJ cB cZ a U se id pr en be th bs wh (nI qm) len md nm) H := hP
        have hD : va_D A (wH cI cS h tr sl u1.2.2.2.1 u1.2.2.2.2.1 u1.2.1 u1.2.2.1 T (nI u1.1) u1.2.2.2.2.2.1 nw u1.2.2.2.2.2.2.1 u1.2.2.2.2.2.2.2 ++ wM cJ cB cZ a U se id pr en be th bs wh (nI qm) len md nm) := hD
        refine lv_aload_n hx hb dL_law_203 rfl (lv_at hl 2 rfl) ?_
        refine lv_aload_n hx hb dL_law_204 rfl (lv_at hl 0 rfl) ?_
        refine lv_iload_n hx hb dL_law_205 rfl (lv_at hl 3 rfl) ?_
        refine lv_iconst (v := nI 1) hx hb dL_law_206 (by first | decide | rfl) ?_
        refine lv_iadd hx hb dL_law_207 ?_
        refine fh_top (y := nI (i + 1)) (nI_add i 1) ?_
        refine fh_sld (k := (i + 1)) hx hb hX hbl hbA hS (by omega) (by omega) dL_law_208 ?_
        refine lv_aload_n hx hb dL_law_209 rfl (lv_at hl 0 rfl) ?_
        refine lv_iload_n hx hb dL_law_210 rfl (lv_at hl 3 rfl) ?_
        refine lv_iconst (v := nI 2) hx hb dL_law_211 (by first | decide | rfl) ?_
        refine lv_iadd hx hb dL_law_212 ?_
        refine fh_top (y := nI (i + 2)) (nI_add i 2) ?_
        refine fh_sld (k := (i + 2)) hx hb hX hbl hbA hS (by omega) (by omega) dL_law_213 ?_
        refine lv_aload_n hx hb dL_law_214 rfl (lv_at hl 0 rfl) ?_
        refine lv_iload_n hx hb dL_law_215 rfl (lv_at hl 3 rfl) ?_
        refine lv_iconst (v := nI 3) hx hb dL_law_216 (by first | decide | rfl) ?_
        refine lv_iadd hx hb dL_law_217 ?_
        refine fh_top (y := nI (i + 3)) (nI_add i 3) ?_
        refine fh_sld (k := (i + 3)) hx hb hX hbl hbA hS (by omega) (by omega) dL_law_218 ?_
        refine lv_aload_n hx hb dL_law_219 rfl (lv_at hl 0 rfl) ?_
        refine lv_iload_n hx hb dL_law_220 rfl (lv_at hl 3 rfl) ?_
        refine lv_iconst (v := nI 4) hx hb dL_law_221 (by first | decide | rfl) ?_
        refine lv_iadd hx hb dL_law_222 ?_
        refine fh_top (y := nI (i + 4)) (nI_add i 4) ?_
        refine fh_sld (k := (i + 4)) hx hb hX hbl hbA hS (by omega) (by omega) dL_law_223 ?_
        refine lv_aload_n hx hb dL_law_224 rfl (lv_at hl 0 rfl) ?_
        refine lv_iload_n hx hb dL_law_225 rfl (lv_at hl 3 rfl) ?_
        refine lv_iconst (v := nI 5) hx hb dL_law_226 (by first | decide | rfl) ?_
        refine lv_iadd hx hb dL_law_227 ?_
        refine fh_top (y := nI (i + 5)) (nI_add i 5) ?_
        refine fh_sld (k := (i + 5)) hx hb hX hbl hbA hS (by omega) (by omega) dL_law_228 ?_
        refine lv_if_eq (tgt := 236) hx hb dL_law_229 (by decide) (fun c229 => ?_) (fun c229 => ?_)
        · skip
          exact absurd c229 c192
        · skip
          refine lv_iconst (v := 1) hx hb dL_law_232 (by first | decide | rfl) ?_
          refine lv_goto (tgt := 237) hx hb dL_law_233 (by decide) ?_
          have hK0 := hK
          have hK : va_K (dC, dI) vwCl [(cJ, .int), (cB, .byte), (cZ, .boolean)] s := hK.sub [2, 3, 4] rfl
          have hPc := hP.sub (ws' := wM cJ cB cZ a U se id pr en be th bs wh (nI qm) len md nm) [13, 14, 15, 16, 17, 18, 19, 20, 21, 22] rfl
          have hDc := hD.sub (ws' := wM cJ cB cZ a U se id pr en be th bs wh (nI qm) len md nm) [13, 14, 15, 16, 17, 18, 19, 20, 21, 22] (by decide) rfl
          refine fh_ci (wr := wH cI cS h tr sl u1.2.2.2.1 u1.2.2.2.2.1 u1.2.1 u1.2.2.1 T (nI u1.1) u1.2.2.2.2.2.1 nw u1.2.2.2.2.2.2.1 u1.2.2.2.2.2.2.2) (w2 := fun u => wH cI cS h tr sl u1.2.2.2.1 u1.2.2.2.2.1 u1.2.1 u1.2.2.1 T (nI u1.1) u1.2.2.2.2.2.1 nw u1.2.2.2.2.2.2.1 u1.2.2.2.2.2.2.2 ++ wM cJ cB cZ a U u.2.1.1 u.2.1.2.1 u.2.1.2.2.1 u.2.1.2.2.2.1 u.2.1.2.2.2.2.1 u.2.1.2.2.2.2.2.1 u.2.1.2.2.2.2.2.2 u.2.2.1 (nI u.1) u.2.2.2.1 u.2.2.2.2 nm) (va_runV (As := [.int (xs ((i + 1))), .int (xs ((i + 2))), .int (xs ((i + 3))), .int (xs ((i + 4))), .int 1]) (rest := [.int r1]) ⟨hx, hb, hml, hown, hts⟩ (m_take l dC dI cJ cB cZ a U se id pr en be th bs wh len md nm (xs (i + 1)) (xs (i + 2)) (xs (i + 3)) (xs (i + 4)) 1 qm H.size (SM_qm hSM) (SM_en hSM)) (cwV 5 hts gL_law_X2_take rfl rfl rfl (by decide +kernel) ⟨Nat.le_of_ble_eq_true rfl, Nat.le_of_ble_eq_true rfl⟩) (pV_PW hK hPc hDc (ci := 2) (q0 := 0) rfl rfl) rfl rfl hl.1 rfl (lv_room (Nat.le_of_ble_eq_true rfl)) dL_law_237 ⟨Nat.le_of_ble_eq_true rfl, Nat.le_of_ble_eq_true rfl⟩) hP hD hS hA [13, 14, 15, 16, 17, 18, 19, 20, 21, 22] [0, 1, 2, 3, 4, 5, 6, 7, 8, 9, 10, 11, 12] [0, 1, 2, 3, 4, 5, 6, 7, 8, 9, 10, 11, 12, 13, 14, 15, 16, 17, 18, 19, 20, 21, 22] rfl rfl (by decide) (by decide) (by decide) (fun _ => rfl) (fun r2 u2 H locs hw hK hP hD hS => ?_)
          have hK := hK0
          have hst := st_take hSM hw1 hw
          have hP : va_P (dC, dI) vwCl (wH cI cS h tr sl u1.2.2.2.1 u1.2.2.2.2.1 u1.2.1 u1.2.2.1 T (nI u1.1) u1.2.2.2.2.2.1 nw u1.2.2.2.2.2.2.1 u1.2.2.2.2.2.2.2 ++ wM cJ cB cZ a U u2.2.1.1 u2.2.1.2.1 u2.2.1.2.2.1 u2.2.1.2.2.2.1 u2.2.1.2.2.2.2.1 u2.2.1.2.2.2.2.2.1 u2.2.1.2.2.2.2.2.2 u2.2.2.1 (nI u2.1) u2.2.2.2.1 u2.2.2.2.2 nm) H := hP
          have hD : va_D A (wH cI cS h tr sl u1.2.2.2.1 u1.2.2.2.2.1 u1.2.1 u1.2.2.1 T (nI u1.1) u1.2.2.2.2.2.1 nw u1.2.2.2.2.2.2.1 u1.2.2.2.2.2.2.2 ++ wM cJ cB cZ a U u2.2.1.1 u2.2.1.2.1 u2.2.1.2.2.1 u2.2.1.2.2.2.1 u2.2.1.2.2.2.2.1 u2.2.1.2.2.2.2.2.1 u2.2.1.2.2.2.2.2.2 u2.2.2.1 (nI u2.1) u2.2.2.2.1 u2.2.2.2.2 nm) := hD
          refine lv_icmp_eq (tgt := 330) hx hb dL_law_240 (by decide) (fun c240 => ?_) (fun c240 => ?_)
          · skip
            refine lv_iinc (v := (nI (i + 6))) (lv' := [(3, .int (nI (i + 6))), (0, .ref b), (1, .ref h), (2, .ref (a 0))]) hx hb dL_law_330 hl (k := 3) rfl (nI_add i 6) (by decide) rfl (fun ls hl => ?_)
            refine lv_goto (tgt := 18) hx hb dL_law_333 (by decide) ?_
            exact ih (i + 6, u1.1, T, u1.2.2.2.1, u1.2.2.2.2.1, u1.2.1, u1.2.2.1, u1.2.2.2.2.2.1, nw, u1.2.2.2.2.2.2.1, u1.2.2.2.2.2.2.2, U, u2.2.1.1, u2.2.1.2.1, u2.2.1.2.2.1, u2.2.1.2.2.2.1, u2.2.1.2.2.2.2.1, u2.2.1.2.2.2.2.2.1, u2.2.1.2.2.2.2.2.2, u2.2.2.1, u2.1, u2.2.2.2.1, u2.2.2.2.2, nm) _ _ _ ⟨by omega, hst.2, hP, hD, hS, lv_sub hl [1, 2, 3, 0] rfl⟩ (by show L + 6 - (i + 6) < L + 6 - i; omega)
          · skip
            exact absurd hst.1 c240
    · refine lv_tableIn (off := 212) (tgt := 245) hx hb dL_law_33 (by decide) (by decide) (by decide) (by decide) ?_
      refine lv_aload_n hx hb dL_law_245 rfl (lv_at hl 1 rfl) ?_
      refine lv_aload_n hx hb dL_law_246 rfl (lv_at hl 0 rfl) ?_
      refine lv_iload_n hx hb dL_law_247 rfl (lv_at hl 3 rfl) ?_
      refine lv_iconst (v := nI 1) hx hb dL_law_248 (by first | decide | rfl) ?_
      refine lv_iadd hx hb dL_law_249 ?_
      refine fh_top (y := nI (i + 1)) (nI_add i 1) ?_
      refine fh_sld (k := (i + 1)) hx hb hX hbl hbA hS (by omega) (by omega) dL_law_250 ?_
      have hK0 := hK
      have hK : va_K (dC, dI) vwCl [(cI, .int), (cS, tDg)] s := hK.sub [0, 1] rfl
      have hPc := hP.sub (ws' := wH cI cS h tr sl dw cw D C T (nI q) wc nw ds wd) [0, 1, 2, 3, 4, 5, 6, 7, 8, 9, 10, 11, 12] rfl
      have hDc := hD.sub (ws' := wH cI cS h tr sl dw cw D C T (nI q) wc nw ds wd) [0, 1, 2, 3, 4, 5, 6, 7, 8, 9, 10, 11, 12] (by decide) rfl
      refine fh_ci (wr := wM cJ cB cZ a U se id pr en be th bs wh (nI qm) len md nm) (w2 := fun u => wH cI cS h tr sl dw cw D C T (nI q) wc u.2 u.1 wd ++ wM cJ cB cZ a U se id pr en be th bs wh (nI qm) len md nm) (va_runV (As := [.int (xs ((i + 1)))]) (rest := []) ⟨hx, hb, hml, hown, hts⟩ (c_pass l dC dI cI cS h tr sl dw cw D C T (nI q) wc nw ds wd (xs (i + 1)) H.size) (cwV 1 hts gL_law_X1_pass rfl rfl rfl (by decide +kernel) ⟨Nat.le_of_ble_eq_true rfl, Nat.le_of_ble_eq_true rfl⟩) (pV_PW hK hPc hDc (ci := 1) (q0 := 0) rfl rfl) rfl rfl hl.1 rfl (lv_room (Nat.le_of_ble_eq_true rfl)) dL_law_251 ⟨Nat.le_of_ble_eq_true rfl, Nat.le_of_ble_eq_true rfl⟩) hP hD hS hA [0, 1, 2, 3, 4, 5, 6, 7, 8, 9, 10, 11, 12] [13, 14, 15, 16, 17, 18, 19, 20, 21, 22] [10, 11, 12, 13, 14, 15, 16, 17, 18, 19, 20, 21, 22, 0, 1, 2, 3, 4, 5, 6, 7, 8, 9] rfl rfl (by decide) (by decide) (by decide) (fun _ => rfl) (fun r1 u1 H locs hw hK hP hD hS => ?_)
      have hK := hK0
      have hw1 := hw
      have hP : va_P (dC, dI) vwCl (wH cI cS h tr sl dw cw D C T (nI q) wc u1.2 u1.1 wd ++ wM cJ cB cZ a U se id pr en be th bs wh (nI qm) len md nm) H := hP
      have hD : va_D A (wH cI cS h tr sl dw cw D C T (nI q) wc u1.2 u1.1 wd ++ wM cJ cB cZ a U se id pr en be th bs wh (nI qm) len md nm) := hD
      refine lv_aload_n hx hb dL_law_254 rfl (lv_at hl 2 rfl) ?_
      refine lv_aload_n hx hb dL_law_255 rfl (lv_at hl 0 rfl) ?_
      refine lv_iload_n hx hb dL_law_256 rfl (lv_at hl 3 rfl) ?_
      refine lv_iconst (v := nI 1) hx hb dL_law_257 (by first | decide | rfl) ?_
      refine lv_iadd hx hb dL_law_258 ?_
      refine fh_top (y := nI (i + 1)) (nI_add i 1) ?_
      refine fh_sld (k := (i + 1)) hx hb hX hbl hbA hS (by omega) (by omega) dL_law_259 ?_
      have hK0 := hK
      have hK : va_K (dC, dI) vwCl [(cJ, .int), (cB, .byte), (cZ, .boolean)] s := hK.sub [2, 3, 4] rfl
      have hPc := hP.sub (ws' := wM cJ cB cZ a U se id pr en be th bs wh (nI qm) len md nm) [13, 14, 15, 16, 17, 18, 19, 20, 21, 22] rfl
      have hDc := hD.sub (ws' := wM cJ cB cZ a U se id pr en be th bs wh (nI qm) len md nm) [13, 14, 15, 16, 17, 18, 19, 20, 21, 22] (by decide) rfl
      refine fh_ci (wr := wH cI cS h tr sl dw cw D C T (nI q) wc u1.2 u1.1 wd) (w2 := fun u => wH cI cS h tr sl dw cw D C T (nI q) wc u1.2 u1.1 wd ++ wM cJ cB cZ a U se id pr en be u.1 bs wh (nI qm) len md u.2) (va_runV (As := [.int (xs ((i + 1)))]) (rest := [.int r1]) ⟨hx, hb, hml, hown, hts⟩ (m_pass l dC dI cJ cB cZ a U se id pr en be th bs wh (nI qm) len md nm (xs (i + 1)) H.size) (cwV 1 hts gL_law_X2_pass rfl rfl rfl (by decide +kernel) ⟨Nat.le_of_ble_eq_true rfl, Nat.le_of_ble_eq_true rfl⟩) (pV_PW hK hPc hDc (ci := 2) (q0 := 0) rfl rfl) rfl rfl hl.1 rfl (lv_room (Nat.le_of_ble_eq_true rfl)) dL_law_260 ⟨Nat.le_of_ble_eq_true rfl, Nat.le_of_ble_eq_true rfl⟩) hP hD hS hA [13, 14, 15, 16, 17, 18, 19, 20, 21, 22] [0, 1, 2, 3, 4, 5, 6, 7, 8, 9, 10, 11, 12] [0, 1, 2, 3, 4, 5, 6, 7, 8, 9, 10, 11, 12, 13, 14, 15, 16, 17, 18, 19, 20, 21, 22] rfl rfl (by decide) (by decide) (by decide) (fun _ => rfl) (fun r2 u2 H locs hw hK hP hD hS => ?_)
      have hK := hK0
      have hst := st_pass hSM hw1 hw
      have hP : va_P (dC, dI) vwCl (wH cI cS h tr sl dw cw D C T (nI q) wc u1.2 u1.1 wd ++ wM cJ cB cZ a U se id pr en be u2.1 bs wh (nI qm) len md u2.2) H := hP
      have hD : va_D A (wH cI cS h tr sl dw cw D C T (nI q) wc u1.2 u1.1 wd ++ wM cJ cB cZ a U se id pr en be u2.1 bs wh (nI qm) len md u2.2) := hD
      refine lv_icmp_eq (tgt := 330) hx hb dL_law_263 (by decide) (fun c263 => ?_) (fun c263 => ?_)
      · skip
        refine lv_iinc (v := (nI (i + 6))) (lv' := [(3, .int (nI (i + 6))), (0, .ref b), (1, .ref h), (2, .ref (a 0))]) hx hb dL_law_330 hl (k := 3) rfl (nI_add i 6) (by decide) rfl (fun ls hl => ?_)
        refine lv_goto (tgt := 18) hx hb dL_law_333 (by decide) ?_
        exact ih (i + 6, q, T, dw, cw, D, C, wc, u1.2, u1.1, wd, U, se, id, pr, en, be, u2.1, bs, wh, qm, len, md, u2.2) _ _ _ ⟨by omega, hst.2, hP, hD, hS, lv_sub hl [1, 2, 3, 0] rfl⟩ (by show L + 6 - (i + 6) < L + 6 - i; omega)
      · skip
        exact absurd hst.1 c263
    · refine lv_tableIn (off := 235) (tgt := 268) hx hb dL_law_33 (by decide) (by decide) (by decide) (by decide) ?_
      refine lv_aload_n hx hb dL_law_268 rfl (lv_at hl 1 rfl) ?_
      have hK0 := hK
      have hK : va_K (dC, dI) vwCl [(cI, .int), (cS, tDg)] s := hK.sub [0, 1] rfl
      have hPc := hP.sub (ws' := wH cI cS h tr sl dw cw D C T (nI q) wc nw ds wd) [0, 1, 2, 3, 4, 5, 6, 7, 8, 9, 10, 11, 12] rfl
      have hDc := hD.sub (ws' := wH cI cS h tr sl dw cw D C T (nI q) wc nw ds wd) [0, 1, 2, 3, 4, 5, 6, 7, 8, 9, 10, 11, 12] (by decide) rfl
      refine fh_ci (wr := wM cJ cB cZ a U se id pr en be th bs wh (nI qm) len md nm) (w2 := fun u => wH cI cS h tr sl dw cw D C T (nI q) wc nw ds wd ++ wM cJ cB cZ a U se id pr en be th bs wh (nI qm) len md nm) (va_runV (As := []) (rest := []) ⟨hx, hb, hml, hown, hts⟩ (c_making l dC dI cI cS h tr sl dw cw D C T (nI q) wc nw ds wd H.size) (cwV 0 hts gL_law_X1_making rfl rfl rfl (by decide +kernel) ⟨Nat.le_of_ble_eq_true rfl, Nat.le_of_ble_eq_true rfl⟩) (pV_PW hK hPc hDc (ci := 1) (q0 := 0) rfl rfl) rfl rfl hl.1 rfl (lv_room (Nat.le_of_ble_eq_true rfl)) dL_law_269 ⟨Nat.le_of_ble_eq_true rfl, Nat.le_of_ble_eq_true rfl⟩) hP hD hS hA [0, 1, 2, 3, 4, 5, 6, 7, 8, 9, 10, 11, 12] [13, 14, 15, 16, 17, 18, 19, 20, 21, 22] [10, 11, 12, 13, 14, 15, 16, 17, 18, 19, 20, 21, 22, 0, 1, 2, 3, 4, 5, 6, 7, 8, 9] rfl rfl (by decide) (by decide) (by decide) (fun _ => rfl) (fun r1 u1 H locs hw hK hP hD hS => ?_)
      have hK := hK0
      have hw1 := hw
      have hP : va_P (dC, dI) vwCl (wH cI cS h tr sl dw cw D C T (nI q) wc nw ds wd ++ wM cJ cB cZ a U se id pr en be th bs wh (nI qm) len md nm) H := hP
      have hD : va_D A (wH cI cS h tr sl dw cw D C T (nI q) wc nw ds wd ++ wM cJ cB cZ a U se id pr en be th bs wh (nI qm) len md nm) := hD
      refine lv_aload_n hx hb dL_law_272 rfl (lv_at hl 2 rfl) ?_
      have hK0 := hK
      have hK : va_K (dC, dI) vwCl [(cJ, .int), (cB, .byte), (cZ, .boolean)] s := hK.sub [2, 3, 4] rfl
      have hPc := hP.sub (ws' := wM cJ cB cZ a U se id pr en be th bs wh (nI qm) len md nm) [13, 14, 15, 16, 17, 18, 19, 20, 21, 22] rfl
      have hDc := hD.sub (ws' := wM cJ cB cZ a U se id pr en be th bs wh (nI qm) len md nm) [13, 14, 15, 16, 17, 18, 19, 20, 21, 22] (by decide) rfl
      refine fh_ci (wr := wH cI cS h tr sl dw cw D C T (nI q) wc nw ds wd) (w2 := fun u => wH cI cS h tr sl dw cw D C T (nI q) wc nw ds wd ++ wM cJ cB cZ a U se id pr en be th bs wh (nI qm) len md nm) (va_runV (As := []) (rest := [.int r1]) ⟨hx, hb, hml, hown, hts⟩ (m_making l dC dI cJ cB cZ a U se id pr en be th bs wh (nI qm) len md nm H.size) (cwV 0 hts gL_law_X2_making rfl rfl rfl (by decide +kernel) ⟨Nat.le_of_ble_eq_true rfl, Nat.le_of_ble_eq_true rfl⟩) (pV_PW hK hPc hDc (ci := 2) (q0 := 0) rfl rfl) rfl rfl hl.1 rfl (lv_room (Nat.le_of_ble_eq_true rfl)) dL_law_273 ⟨Nat.le_of_ble_eq_true rfl, Nat.le_of_ble_eq_true rfl⟩) hP hD hS hA [13, 14, 15, 16, 17, 18, 19, 20, 21, 22] [0, 1, 2, 3, 4, 5, 6, 7, 8, 9, 10, 11, 12] [0, 1, 2, 3, 4, 5, 6, 7, 8, 9, 10, 11, 12, 13, 14, 15, 16, 17, 18, 19, 20, 21, 22] rfl rfl (by decide) (by decide) (by decide) (fun _ => rfl) (fun r2 u2 H locs hw hK hP hD hS => ?_)
      have hK := hK0
      have hst : r1 = r2 ∧ True := ⟨by rw [hw1, hw, sl_making hSM.2.2.2.2.2.2.2], trivial⟩
      have hP : va_P (dC, dI) vwCl (wH cI cS h tr sl dw cw D C T (nI q) wc nw ds wd ++ wM cJ cB cZ a U se id pr en be th bs wh (nI qm) len md nm) H := hP
      have hD : va_D A (wH cI cS h tr sl dw cw D C T (nI q) wc nw ds wd ++ wM cJ cB cZ a U se id pr en be th bs wh (nI qm) len md nm) := hD
      refine lv_icmp_eq (tgt := 330) hx hb dL_law_276 (by decide) (fun c276 => ?_) (fun c276 => ?_)
      · skip
        refine lv_iinc (v := (nI (i + 6))) (lv' := [(3, .int (nI (i + 6))), (0, .ref b), (1, .ref h), (2, .ref (a 0))]) hx hb dL_law_330 hl (k := 3) rfl (nI_add i 6) (by decide) rfl (fun ls hl => ?_)
        refine lv_goto (tgt := 18) hx hb dL_law_333 (by decide) ?_
        exact ih (i + 6, q, T, dw, cw, D, C, wc, nw, ds, wd, U, se, id, pr, en, be, th, bs, wh, qm, len, md, nm) _ _ _ ⟨by omega, hSM, hP, hD, hS, lv_sub hl [1, 2, 3, 0] rfl⟩ (by show L + 6 - (i + 6) < L + 6 - i; omega)
      · skip
        exact absurd hst.1 c276
    · refine lv_tableIn (off := 248) (tgt := 281) hx hb dL_law_33 (by decide) (by decide) (by decide) (by decide) ?_
      refine lv_aload_n hx hb dL_law_281 rfl (lv_at hl 1 rfl) ?_
      have hK0 := hK
      have hK : va_K (dC, dI) vwCl [(cI, .int), (cS, tDg)] s := hK.sub [0, 1] rfl
      have hPc := hP.sub (ws' := wH cI cS h tr sl dw cw D C T (nI q) wc nw ds wd) [0, 1, 2, 3, 4, 5, 6, 7, 8, 9, 10, 11, 12] rfl
      have hDc := hD.sub (ws' := wH cI cS h tr sl dw cw D C T (nI q) wc nw ds wd) [0, 1, 2, 3, 4, 5, 6, 7, 8, 9, 10, 11, 12] (by decide) rfl
      refine fh_ci (wr := wM cJ cB cZ a U se id pr en be th bs wh (nI qm) len md nm) (w2 := fun u => wH cI cS h tr sl dw cw D C T (nI q) wc nw ds wd ++ wM cJ cB cZ a U se id pr en be th bs wh (nI qm) len md nm) (va_runV (As := []) (rest := []) ⟨hx, hb, hml, hown, hts⟩ (c_made l dC dI cI cS h tr sl dw cw D C T (nI q) wc nw ds wd H.size) (cwV 0 hts gL_law_X1_made rfl rfl rfl (by decide +kernel) ⟨Nat.le_of_ble_eq_true rfl, Nat.le_of_ble_eq_true rfl⟩) (pV_PW hK hPc hDc (ci := 1) (q0 := 0) rfl rfl) rfl rfl hl.1 rfl (lv_room (Nat.le_of_ble_eq_true rfl)) dL_law_282 ⟨Nat.le_of_ble_eq_true rfl, Nat.le_of_ble_eq_true rfl⟩) hP hD hS hA [0, 1, 2, 3, 4, 5, 6, 7, 8, 9, 10, 11, 12] [13, 14, 15, 16, 17, 18, 19, 20, 21, 22] [10, 11, 12, 13, 14, 15, 16, 17, 18, 19, 20, 21, 22, 0, 1, 2, 3, 4, 5, 6, 7, 8, 9] rfl rfl (by decide) (by decide) (by decide) (fun _ => rfl) (fun r1 u1 H locs hw hK hP hD hS => ?_)
      have hK := hK0
      have hw1 := hw
      have hP : va_P (dC, dI) vwCl (wH cI cS h tr sl dw cw D C T (nI q) wc nw ds wd ++ wM cJ cB cZ a U se id pr en be th bs wh (nI qm) len md nm) H := hP
      have hD : va_D A (wH cI cS h tr sl dw cw D C T (nI q) wc nw ds wd ++ wM cJ cB cZ a U se id pr en be th bs wh (nI qm) len md nm) := hD
      refine lv_aload_n hx hb dL_law_285 rfl (lv_at hl 2 rfl) ?_
      have hK0 := hK
      have hK : va_K (dC, dI) vwCl [(cJ, .int), (cB, .byte), (cZ, .boolean)] s := hK.sub [2, 3, 4] rfl
      have hPc := hP.sub (ws' := wM cJ cB cZ a U se id pr en be th bs wh (nI qm) len md nm) [13, 14, 15, 16, 17, 18, 19, 20, 21, 22] rfl
      have hDc := hD.sub (ws' := wM cJ cB cZ a U se id pr en be th bs wh (nI qm) len md nm) [13, 14, 15, 16, 17, 18, 19, 20, 21, 22] (by decide) rfl
      refine fh_ci (wr := wH cI cS h tr sl dw cw D C T (nI q) wc nw ds wd) (w2 := fun u => wH cI cS h tr sl dw cw D C T (nI q) wc nw ds wd ++ wM cJ cB cZ a U se id pr en be th bs wh (nI qm) len md nm) (va_runV (As := []) (rest := [.int r1]) ⟨hx, hb, hml, hown, hts⟩ (m_made l dC dI cJ cB cZ a U se id pr en be th bs wh (nI qm) len md nm H.size) (cwV 0 hts gL_law_X2_made rfl rfl rfl (by decide +kernel) ⟨Nat.le_of_ble_eq_true rfl, Nat.le_of_ble_eq_true rfl⟩) (pV_PW hK hPc hDc (ci := 2) (q0 := 0) rfl rfl) rfl rfl hl.1 rfl (lv_room (Nat.le_of_ble_eq_true rfl)) dL_law_286 ⟨Nat.le_of_ble_eq_true rfl, Nat.le_of_ble_eq_true rfl⟩) hP hD hS hA [13, 14, 15, 16, 17, 18, 19, 20, 21, 22] [0, 1, 2, 3, 4, 5, 6, 7, 8, 9, 10, 11, 12] [0, 1, 2, 3, 4, 5, 6, 7, 8, 9, 10, 11, 12, 13, 14, 15, 16, 17, 18, 19, 20, 21, 22] rfl rfl (by decide) (by decide) (by decide) (fun _ => rfl) (fun r2 u2 H locs hw hK hP hD hS => ?_)
      have hK := hK0
      have hst : r1 = r2 ∧ True := ⟨by rw [hw1, hw]; exact hSM.2.2.2.2.2.1, trivial⟩
      have hP : va_P (dC, dI) vwCl (wH cI cS h tr sl dw cw D C T (nI q) wc nw ds wd ++ wM cJ cB cZ a U se id pr en be th bs wh (nI qm) len md nm) H := hP
      have hD : va_D A (wH cI cS h tr sl dw cw D C T (nI q) wc nw ds wd ++ wM cJ cB cZ a U se id pr en be th bs wh (nI qm) len md nm) := hD
      refine lv_icmp_eq (tgt := 330) hx hb dL_law_289 (by decide) (fun c289 => ?_) (fun c289 => ?_)
      · skip
        refine lv_iinc (v := (nI (i + 6))) (lv' := [(3, .int (nI (i + 6))), (0, .ref b), (1, .ref h), (2, .ref (a 0))]) hx hb dL_law_330 hl (k := 3) rfl (nI_add i 6) (by decide) rfl (fun ls hl => ?_)
        refine lv_goto (tgt := 18) hx hb dL_law_333 (by decide) ?_
        exact ih (i + 6, q, T, dw, cw, D, C, wc, nw, ds, wd, U, se, id, pr, en, be, th, bs, wh, qm, len, md, nm) _ _ _ ⟨by omega, hSM, hP, hD, hS, lv_sub hl [1, 2, 3, 0] rfl⟩ (by show L + 6 - (i + 6) < L + 6 - i; omega)
      · skip
        exact absurd hst.1 c289
    · refine lv_tableIn (off := 261) (tgt := 294) hx hb dL_law_33 (by decide) (by decide) (by decide) (by decide) ?_
      refine lv_aload_n hx hb dL_law_294 rfl (lv_at hl 1 rfl) ?_
      have hK0 := hK
      have hK : va_K (dC, dI) vwCl [(cI, .int), (cS, tDg)] s := hK.sub [0, 1] rfl
      have hPc := hP.sub (ws' := wH cI cS h tr sl dw cw D C T (nI q) wc nw ds wd) [0, 1, 2, 3, 4, 5, 6, 7, 8, 9, 10, 11, 12] rfl
      have hDc := hD.sub (ws' := wH cI cS h tr sl dw cw D C T (nI q) wc nw ds wd) [0, 1, 2, 3, 4, 5, 6, 7, 8, 9, 10, 11, 12] (by decide) rfl
      refine fh_ci (wr := wM cJ cB cZ a U se id pr en be th bs wh (nI qm) len md nm) (w2 := fun u => wH cI cS h tr sl dw cw D C T (nI q) wc nw ds wd ++ wM cJ cB cZ a U se id pr en be th bs wh (nI qm) len md nm) (va_runV (As := []) (rest := []) ⟨hx, hb, hml, hown, hts⟩ (c_length l dC dI cI cS h tr sl dw cw D C T (nI q) wc nw ds wd H.size) (cwV 0 hts gL_law_X1_length rfl rfl rfl (by decide +kernel) ⟨Nat.le_of_ble_eq_true rfl, Nat.le_of_ble_eq_true rfl⟩) (pV_PW hK hPc hDc (ci := 1) (q0 := 0) rfl rfl) rfl rfl hl.1 rfl (lv_room (Nat.le_of_ble_eq_true rfl)) dL_law_295 ⟨Nat.le_of_ble_eq_true rfl, Nat.le_of_ble_eq_true rfl⟩) hP hD hS hA [0, 1, 2, 3, 4, 5, 6, 7, 8, 9, 10, 11, 12] [13, 14, 15, 16, 17, 18, 19, 20, 21, 22] [10, 11, 12, 13, 14, 15, 16, 17, 18, 19, 20, 21, 22, 0, 1, 2, 3, 4, 5, 6, 7, 8, 9] rfl rfl (by decide) (by decide) (by decide) (fun _ => rfl) (fun r1 u1 H locs hw hK hP hD hS => ?_)
      have hK := hK0
      have hw1 := hw
      have hP : va_P (dC, dI) vwCl (wH cI cS h tr sl dw cw D C T (nI q) wc nw ds wd ++ wM cJ cB cZ a U se id pr en be th bs wh (nI qm) len md nm) H := hP
      have hD : va_D A (wH cI cS h tr sl dw cw D C T (nI q) wc nw ds wd ++ wM cJ cB cZ a U se id pr en be th bs wh (nI qm) len md nm) := hD
      refine lv_aload_n hx hb dL_law_298 rfl (lv_at hl 2 rfl) ?_
      have hK0 := hK
      have hK : va_K (dC, dI) vwCl [(cJ, .int), (cB, .byte), (cZ, .boolean)] s := hK.sub [2, 3, 4] rfl
      have hPc := hP.sub (ws' := wM cJ cB cZ a U se id pr en be th bs wh (nI qm) len md nm) [13, 14, 15, 16, 17, 18, 19, 20, 21, 22] rfl
      have hDc := hD.sub (ws' := wM cJ cB cZ a U se id pr en be th bs wh (nI qm) len md nm) [13, 14, 15, 16, 17, 18, 19, 20, 21, 22] (by decide) rfl
      refine fh_ci (wr := wH cI cS h tr sl dw cw D C T (nI q) wc nw ds wd) (w2 := fun u => wH cI cS h tr sl dw cw D C T (nI q) wc nw ds wd ++ wM cJ cB cZ a U se id pr en be th bs wh (nI qm) len md nm) (va_runV (As := []) (rest := [.int r1]) ⟨hx, hb, hml, hown, hts⟩ (m_length l dC dI cJ cB cZ a U se id pr en be th bs wh (nI qm) len md nm H.size) (cwV 0 hts gL_law_X2_length rfl rfl rfl (by decide +kernel) ⟨Nat.le_of_ble_eq_true rfl, Nat.le_of_ble_eq_true rfl⟩) (pV_PW hK hPc hDc (ci := 2) (q0 := 0) rfl rfl) rfl rfl hl.1 rfl (lv_room (Nat.le_of_ble_eq_true rfl)) dL_law_299 ⟨Nat.le_of_ble_eq_true rfl, Nat.le_of_ble_eq_true rfl⟩) hP hD hS hA [13, 14, 15, 16, 17, 18, 19, 20, 21, 22] [0, 1, 2, 3, 4, 5, 6, 7, 8, 9, 10, 11, 12] [0, 1, 2, 3, 4, 5, 6, 7, 8, 9, 10, 11, 12, 13, 14, 15, 16, 17, 18, 19, 20, 21, 22] rfl rfl (by decide) (by decide) (by decide) (fun _ => rfl) (fun r2 u2 H locs hw hK hP hD hS => ?_)
      have hK := hK0
      have hst : r1 = r2 ∧ True := ⟨by rw [hw1, hw]; exact hSM.2.2.2.2.2.2.1.2.1, trivial⟩
      have hP : va_P (dC, dI) vwCl (wH cI cS h tr sl dw cw D C T (nI q) wc nw ds wd ++ wM cJ cB cZ a U se id pr en be th bs wh (nI qm) len md nm) H := hP
      have hD : va_D A (wH cI cS h tr sl dw cw D C T (nI q) wc nw ds wd ++ wM cJ cB cZ a U se id pr en be th bs wh (nI qm) len md nm) := hD
      refine lv_icmp_eq (tgt := 330) hx hb dL_law_302 (by decide) (fun c302 => ?_) (fun c302 => ?_)
      · skip
        refine lv_iinc (v := (nI (i + 6))) (lv' := [(3, .int (nI (i + 6))), (0, .ref b), (1, .ref h), (2, .ref (a 0))]) hx hb dL_law_330 hl (k := 3) rfl (nI_add i 6) (by decide) rfl (fun ls hl => ?_)
        refine lv_goto (tgt := 18) hx hb dL_law_333 (by decide) ?_
        exact ih (i + 6, q, T, dw, cw, D, C, wc, nw, ds, wd, U, se, id, pr, en, be, th, bs, wh, qm, len, md, nm) _ _ _ ⟨by omega, hSM, hP, hD, hS, lv_sub hl [1, 2, 3, 0] rfl⟩ (by show L + 6 - (i + 6) < L + 6 - i; omega)
      · skip
        exact absurd hst.1 c302
    · refine lv_tableIn (off := 274) (tgt := 307) hx hb dL_law_33 (by decide) (by decide) (by decide) (by decide) ?_
      refine lv_aload_n hx hb dL_law_307 rfl (lv_at hl 1 rfl) ?_
      refine lv_aload_n hx hb dL_law_308 rfl (lv_at hl 0 rfl) ?_
      refine lv_iload_n hx hb dL_law_309 rfl (lv_at hl 3 rfl) ?_
      refine lv_iconst (v := nI 1) hx hb dL_law_310 (by first | decide | rfl) ?_
      refine lv_iadd hx hb dL_law_311 ?_
      refine fh_top (y := nI (i + 1)) (nI_add i 1) ?_
      refine fh_sld (k := (i + 1)) hx hb hX hbl hbA hS (by omega) (by omega) dL_law_312 ?_
      have hK0 := hK
      have hK : va_K (dC, dI) vwCl [(cI, .int), (cS, tDg)] s := hK.sub [0, 1] rfl
      have hPc := hP.sub (ws' := wH cI cS h tr sl dw cw D C T (nI q) wc nw ds wd) [0, 1, 2, 3, 4, 5, 6, 7, 8, 9, 10, 11, 12] rfl
      have hDc := hD.sub (ws' := wH cI cS h tr sl dw cw D C T (nI q) wc nw ds wd) [0, 1, 2, 3, 4, 5, 6, 7, 8, 9, 10, 11, 12] (by decide) rfl
      refine fh_ci (wr := wM cJ cB cZ a U se id pr en be th bs wh (nI qm) len md nm) (w2 := fun u => wH cI cS h tr sl dw cw D C T (nI q) wc nw ds wd ++ wM cJ cB cZ a U se id pr en be th bs wh (nI qm) len md nm) (va_runV (As := [.int (xs ((i + 1)))]) (rest := []) ⟨hx, hb, hml, hown, hts⟩ (c_at l dC dI cI cS h tr sl dw cw D C T (nI q) wc nw ds wd (xs (i + 1)) H.size (SM_wd hSM)) (cwV 1 hts gL_law_X1_at rfl rfl rfl (by decide +kernel) ⟨Nat.le_of_ble_eq_true rfl, Nat.le_of_ble_eq_true rfl⟩) (pV_PW hK hPc hDc (ci := 1) (q0 := 0) rfl rfl) rfl rfl hl.1 rfl (lv_room (Nat.le_of_ble_eq_true rfl)) dL_law_313 ⟨Nat.le_of_ble_eq_true rfl, Nat.le_of_ble_eq_true rfl⟩) hP hD hS hA [0, 1, 2, 3, 4, 5, 6, 7, 8, 9, 10, 11, 12] [13, 14, 15, 16, 17, 18, 19, 20, 21, 22] [10, 11, 12, 13, 14, 15, 16, 17, 18, 19, 20, 21, 22, 0, 1, 2, 3, 4, 5, 6, 7, 8, 9] rfl rfl (by decide) (by decide) (by decide) (fun _ => rfl) (fun r1 u1 H locs hw hK hP hD hS => ?_)
      have hK := hK0
      have hw1 := hw
      have hP : va_P (dC, dI) vwCl (wH cI cS h tr sl dw cw D C T (nI q) wc nw ds wd ++ wM cJ cB cZ a U se id pr en be th bs wh (nI qm) len md nm) H := hP
      have hD : va_D A (wH cI cS h tr sl dw cw D C T (nI q) wc nw ds wd ++ wM cJ cB cZ a U se id pr en be th bs wh (nI qm) len md nm) := hD
      refine lv_aload_n hx hb dL_law_316 rfl (lv_at hl 2 rfl) ?_
      refine lv_aload_n hx hb dL_law_317 rfl (lv_at hl 0 rfl) ?_
      refine lv_iload_n hx hb dL_law_318 rfl (lv_at hl 3 rfl) ?_
      refine lv_iconst (v := nI 1) hx hb dL_law_319 (by first | decide | rfl) ?_
      refine lv_iadd hx hb dL_law_320 ?_
      refine fh_top (y := nI (i + 1)) (nI_add i 1) ?_
      refine fh_sld (k := (i + 1)) hx hb hX hbl hbA hS (by omega) (by omega) dL_law_321 ?_
      have hK0 := hK
      have hK : va_K (dC, dI) vwCl [(cJ, .int), (cB, .byte), (cZ, .boolean)] s := hK.sub [2, 3, 4] rfl
      have hPc := hP.sub (ws' := wM cJ cB cZ a U se id pr en be th bs wh (nI qm) len md nm) [13, 14, 15, 16, 17, 18, 19, 20, 21, 22] rfl
      have hDc := hD.sub (ws' := wM cJ cB cZ a U se id pr en be th bs wh (nI qm) len md nm) [13, 14, 15, 16, 17, 18, 19, 20, 21, 22] (by decide) rfl
      refine fh_ci (wr := wH cI cS h tr sl dw cw D C T (nI q) wc nw ds wd) (w2 := fun u => wH cI cS h tr sl dw cw D C T (nI q) wc nw ds wd ++ wM cJ cB cZ a U se id pr en be th bs wh (nI qm) len md nm) (va_runV (As := [.int (xs ((i + 1)))]) (rest := [.int r1]) ⟨hx, hb, hml, hown, hts⟩ (m_at l dC dI cJ cB cZ a U se id pr en be th bs wh (nI qm) len md nm (xs (i + 1)) H.size (SM_len hSM)) (cwV 1 hts gL_law_X2_at rfl rfl rfl (by decide +kernel) ⟨Nat.le_of_ble_eq_true rfl, Nat.le_of_ble_eq_true rfl⟩) (pV_PW hK hPc hDc (ci := 2) (q0 := 0) rfl rfl) rfl rfl hl.1 rfl (lv_room (Nat.le_of_ble_eq_true rfl)) dL_law_322 ⟨Nat.le_of_ble_eq_true rfl, Nat.le_of_ble_eq_true rfl⟩) hP hD hS hA [13, 14, 15, 16, 17, 18, 19, 20, 21, 22] [0, 1, 2, 3, 4, 5, 6, 7, 8, 9, 10, 11, 12] [0, 1, 2, 3, 4, 5, 6, 7, 8, 9, 10, 11, 12, 13, 14, 15, 16, 17, 18, 19, 20, 21, 22] rfl rfl (by decide) (by decide) (by decide) (fun _ => rfl) (fun r2 u2 H locs hw hK hP hD hS => ?_)
      have hK := hK0
      have hst : r1 = r2 ∧ True := ⟨st_at hSM hw1 hw, trivial⟩
      have hP : va_P (dC, dI) vwCl (wH cI cS h tr sl dw cw D C T (nI q) wc nw ds wd ++ wM cJ cB cZ a U se id pr en be th bs wh (nI qm) len md nm) H := hP
      have hD : va_D A (wH cI cS h tr sl dw cw D C T (nI q) wc nw ds wd ++ wM cJ cB cZ a U se id pr en be th bs wh (nI qm) len md nm) := hD
      refine lv_icmp_eq (tgt := 330) hx hb dL_law_325 (by decide) (fun c325 => ?_) (fun c325 => ?_)
      · skip
        refine lv_iinc (v := (nI (i + 6))) (lv' := [(3, .int (nI (i + 6))), (0, .ref b), (1, .ref h), (2, .ref (a 0))]) hx hb dL_law_330 hl (k := 3) rfl (nI_add i 6) (by decide) rfl (fun ls hl => ?_)
        refine lv_goto (tgt := 18) hx hb dL_law_333 (by decide) ?_
        exact ih (i + 6, q, T, dw, cw, D, C, wc, nw, ds, wd, U, se, id, pr, en, be, th, bs, wh, qm, len, md, nm) _ _ _ ⟨by omega, hSM, hP, hD, hS, lv_sub hl [1, 2, 3, 0] rfl⟩ (by show L + 6 - (i + 6) < L + 6 - i; omega)
      · skip
        exact absurd hst.1 c325
end
section
set_option maxHeartbeats 4000000 in
set_option maxRecDepth 100000 in
/-- THE LAW, from its entry -/
theorem whole_start {p : Program} {e : Env} {s : State} {m : MethodId} {below : List Frame} {meth : Method} {c : Code} (l : Launch) {b L : Nat} {xs : Nat → Int32} (hL : L ≤ 3072) (C0 : lw_At p s m meth c b L xs) : W p l e room_1 s m #[Value.ref b] below meth c s.heap [] 0 0 (lw_Z below #[Value.ref b] s) (entryFrame m ([Value.ref b] : List Value).toArray 4) := by
  obtain ⟨hx, hb, hr, hml, hown, hts0, hX, hbl, hlocks, hgv⟩ := id C0
  have hown : s.vm.findClass RL = some m.cls := hown
  have hts : ∀ w ∈ wsL_law, w.before #[Value.ref b] s = true := fun w h => hts0 w (wsL_law_in w h)
  have hAO : va_AO RX0 s := va_AO.of (hts0 (.arrayOver (.object RX0)) (by decide +kernel))
  obtain ⟨A, hA, hA2⟩ : ∃ A : Nat → Prop, (∀ q, s.heap.size ≤ q → A q) ∧ (∀ q, A q → s.heap.size ≤ q) := ⟨fun q => s.heap.size ≤ q, fun _ h => h, fun _ h => h⟩
  have hbA : ¬ A b := fun z => Nat.not_le.mpr hbl (hA2 b z)
  obtain ⟨c0, iS0, hKn0⟩ := u_known (C := RX0) (T := TX0) (N := 9) (n := 9) hts inlX0 (hts (.instantiable RX0 9) (by decide +kernel))
  obtain ⟨c1, iS1, hKn1⟩ := u_known (C := RX1) (T := TX1) (N := 6) (n := 6) hts inlX1 (hts (.instantiable RX1 6) (by decide +kernel))
  obtain ⟨c2, iS2, hKn2⟩ := u_known (C := RX2) (T := TX2) (N := 13) (n := 13) hts inlX2 (hts (.instantiable RX2 13) (by decide +kernel))
  obtain ⟨dC, dI, hKc⟩ : ∃ (dC : Nat → ClassId) (dI : Nat → Nat → Nat), ∀ (k : Nat) (q : vw_C), vwCl[k]? = some q → u_Kn s q.1 q.2.1 q.2.2 (dC k) (dI k) := by
    refine ⟨fun k => if k = 0 then c0 else if k = 1 then c1 else c2, fun k => if k = 0 then iS0 else if k = 1 then iS1 else iS2, ?_⟩
    intro k q hq
    match k, hq with
    | 0, hq => cases hq; exact hKn0
    | 1, hq => cases hq; exact hKn1
    | 2, hq => cases hq; exact hKn2
    | k + 3, hq => simp [vwCl] at hq
  have hS : va_S A s.heap s.heap [] := va_S.rf
  have hK : va_K (dC, dI) vwCl [] s := ⟨hKc, fun k q h => by simp at h⟩
  have hP : va_P (dC, dI) vwCl [] s.heap := fun k q h => by simp at h
  have hD : va_D A [] := ⟨fun i j p q h => by simp at h, fun k q h => by simp at h⟩
  have hl := lv_entry ([.ref b]) (n := 4) (Nat.le_of_ble_eq_true rfl)
  rw [lg_entry_eq]
  generalize (lg_sl ([.ref b]) ++ List.replicate (4 - (lg_sl ([.ref b])).length) Slot.unset).toArray = ls at hl ⊢
  have hl : lv_has ls 4 [(0, .ref b)] := hl
  refine va_new (ci := 1) (fs := [.null, .null, .null, .int 0, .int 0, .int 0]) (C := RX1) (T := TX1) (N := 6) hx hb hts inlX1 tyX1 tyX1_ok hown (hts (.classLink RL 7 RX1) (by decide +kernel)) (hts (.instantiable RX1 6) (by decide +kernel)) (hts (.initialized RX1) (by decide +kernel)) hK hP hD hS hA rfl (fun j hj => by rcases (show j = 0 ∨ j = 1 ∨ j = 2 ∨ j = 3 ∨ j = 4 ∨ j = 5 by omega) with rfl | rfl | rfl | rfl | rfl | rfl <;> rfl) (Nat.le_of_ble_eq_true rfl) (Nat.le_of_ble_eq_true rfl) dL_law_0 (fun h H hP hD hS => ?_)
  have hP : va_P (dC, dI) vwCl [(h, .inr (1, [.null, .null, .null, .int 0, .int 0, .int 0]))] H := hP
  have hD : va_D A [(h, .inr (1, [.null, .null, .null, .int 0, .int 0, .int 0]))] := hD
  refine lv_dup hx hb dL_law_3 rfl ?_
  refine fh_cv (wc := [(h, .inr (1, [.null, .null, .null, .int 0, .int 0, .int 0]))]) (wr := []) (w2 := fun u => wH u.1.1 u.1.2 h u.2.1.1 u.2.1.2.1 u.2.1.2.2.1 u.2.1.2.2.2 u.2.2.1 u.2.2.2.1 (fun _ => 0) (nI 0) 0 0 u.2.2.2.2.1 u.2.2.2.2.2) (va_runI (As := []) (rest := [.ref h]) ⟨hx, hb, hml, hown, hts⟩ (c_hinit l dC dI h H.size) (cwI 0 hts gL_law_X1_init rfl rfl rfl (hts (.initialized RX1) (by decide +kernel)) (hts (.methodLink RL 9 yX1_init) (by decide +kernel)) (hts (.instanceMethod yX1_init) (by decide +kernel)) rfl (by decide +kernel) ⟨Nat.le_of_ble_eq_true rfl, Nat.le_of_ble_eq_true rfl⟩) (pS_AO hK hP hD hAO) rfl rfl hl.1 rfl (lv_room (Nat.le_of_ble_eq_true rfl)) dL_law_4 ⟨Nat.le_of_ble_eq_true rfl, Nat.le_of_ble_eq_true rfl⟩) hP hD hS hA [0] [] [0, 1, 2, 3, 4, 5, 6, 7, 8, 9, 10, 11, 12] rfl rfl (by decide) (by decide) (by decide) (fun _ => rfl) (fun u H locs hw hK hP hD hS => ?_)
  obtain ⟨⟨cI, cS⟩, ⟨tr, sl, dw, cw⟩, D, C, ds, wd⟩ := u
  have hw : (∀ i, i < 4 → (ds i).1 1 = 0) ∧ wd.1 1 = 0 ∧ wd.1 6 = -1 := hw
  have hK : va_K (dC, dI) vwCl [(cI, .int), (cS, tDg)] s := hK
  have hP : va_P (dC, dI) vwCl (wH cI cS h tr sl dw cw D C (fun _ => 0) (nI 0) 0 0 ds wd) H := hP
  have hD : va_D A (wH cI cS h tr sl dw cw D C (fun _ => 0) (nI 0) 0 0 ds wd) := hD
  refine lv_astore_n (lv' := [(1, .ref h), (0, .ref b)]) hx hb dL_law_7 rfl hl (by decide) rfl (fun ls hl => ?_)
  refine va_new (ci := 2) (fs := [.null, .int 0, .null, .null, .null, .null, .null, .null, .null, .null, .int 0, .int 0, .int 0]) (C := RX2) (T := TX2) (N := 13) hx hb hts inlX2 tyX2 tyX2_ok hown (hts (.classLink RL 10 RX2) (by decide +kernel)) (hts (.instantiable RX2 13) (by decide +kernel)) (hts (.initialized RX2) (by decide +kernel)) hK hP hD hS hA rfl (fun j hj => by rcases (show j = 0 ∨ j = 1 ∨ j = 2 ∨ j = 3 ∨ j = 4 ∨ j = 5 ∨ j = 6 ∨ j = 7 ∨ j = 8 ∨ j = 9 ∨ j = 10 ∨ j = 11 ∨ j = 12 by omega) with rfl | rfl | rfl | rfl | rfl | rfl | rfl | rfl | rfl | rfl | rfl | rfl | rfl <;> rfl) (Nat.le_of_ble_eq_true rfl) (Nat.le_of_ble_eq_true rfl) dL_law_8 (fun a0 H hP hD hS => ?_)
  refine lv_dup hx hb dL_law_11 rfl ?_
  have hPc := hP.sub (ws' := [(a0, .inr (2, [.null, .int 0, .null, .null, .null, .null, .null, .null, .null, .null, .int 0, .int 0, .int 0]))]) [13] rfl
  have hDc := hD.sub (ws' := [(a0, .inr (2, [.null, .int 0, .null, .null, .null, .null, .null, .null, .null, .null, .int 0, .int 0, .int 0]))]) [13] (by decide) rfl
  have hK0 : va_K (dC, dI) vwCl [] s := hK.sub [] rfl
  refine fh_cv (wc := [(a0, .inr (2, [.null, .int 0, .null, .null, .null, .null, .null, .null, .null, .null, .int 0, .int 0, .int 0]))]) (wr := wH cI cS h tr sl dw cw D C (fun _ => 0) (nI 0) 0 0 ds wd) (w2 := fun u => wH cI cS h tr sl dw cw D C (fun _ => 0) (nI 0) 0 0 ds wd ++ wM u.1.1 u.1.2.1 u.1.2.2 u.2 (fun _ => 0) (fun _ => 0) (fun _ => 0) (fun _ => 0) (fun _ => 0) (fun _ => 0) (fun _ => 0) (fun _ => 0) (fun _ => 0) (nI 0) (-1) 0 0) (va_runI (As := []) (rest := [.ref a0]) ⟨hx, hb, hml, hown, hts⟩ (m_init l dC dI a0 H.size) (cwI 0 hts gL_law_X2_init rfl rfl rfl (hts (.initialized RX2) (by decide +kernel)) (hts (.methodLink RL 12 yX2_init) (by decide +kernel)) (hts (.instanceMethod yX2_init) (by decide +kernel)) rfl (by decide +kernel) ⟨Nat.le_of_ble_eq_true rfl, Nat.le_of_ble_eq_true rfl⟩) (pS_PW hK0 hPc hDc) rfl rfl hl.1 rfl (lv_room (Nat.le_of_ble_eq_true rfl)) dL_law_12 ⟨Nat.le_of_ble_eq_true rfl, Nat.le_of_ble_eq_true rfl⟩) hP hD hS hA [13] [0, 1, 2, 3, 4, 5, 6, 7, 8, 9, 10, 11, 12] [0, 1, 2, 3, 4, 5, 6, 7, 8, 9, 10, 11, 12, 13, 14, 15, 16, 17, 18, 19, 20, 21, 22] rfl rfl (by decide) (by decide) (by decide) (fun _ => rfl) (fun u H locs hw2 hK2 hP hD hS => ?_)
  obtain ⟨⟨cJ, cB, cZ⟩, a⟩ := u
  have hw2 : a 0 = a0 := hw2
  have hPn : va_P (dC, dI) vwCl (wH cI cS h tr sl dw cw D C (fun _ => 0) (nI 0) 0 0 ds wd ++ wM cJ cB cZ a (fun _ => 0) (fun _ => 0) (fun _ => 0) (fun _ => 0) (fun _ => 0) (fun _ => 0) (fun _ => 0) (fun _ => 0) (fun _ => 0) (nI 0) (-1) 0 0) H := hP
  have hDn : va_D A (wH cI cS h tr sl dw cw D C (fun _ => 0) (nI 0) 0 0 ds wd ++ wM cJ cB cZ a (fun _ => 0) (fun _ => 0) (fun _ => 0) (fun _ => 0) (fun _ => 0) (fun _ => 0) (fun _ => 0) (fun _ => 0) (fun _ => 0) (nI 0) (-1) 0 0) := hD
  clear hPc hDc
  subst hw2
  have hK2 : va_K (dC, dI) vwCl [(cJ, .int), (cB, .byte), (cZ, .boolean)] s := hK2
  have hK5 : va_K (dC, dI) vwCl [(cI, .int), (cS, tDg), (cJ, .int), (cB, .byte), (cZ, .boolean)] s := hK.app hK2
  refine lv_astore_n (lv' := [(2, .ref (a 0)), (1, .ref h), (0, .ref b)]) hx hb dL_law_15 rfl hl (by decide) rfl (fun ls hl => ?_)
  refine lv_iconst (v := nI 0) hx hb dL_law_16 (by decide) ?_
  refine lv_istore_n (lv' := [(3, .int (nI 0)), (2, .ref (a 0)), (1, .ref h), (0, .ref b)]) hx hb dL_law_17 rfl hl (by decide) rfl (fun ls hl => ?_)
  refine W.widen (k := 600000) (n := 7302250) (by omega) (by omega) ?_
  exact law_loop l hL C0 hA hA2 hbA cI cS cJ cB cZ h tr sl a hK5 0 (fun _ => 0) dw cw D C 0 0 ds wd (fun _ => 0) (fun _ => 0) (fun _ => 0) (fun _ => 0) (fun _ => 0) (fun _ => 0) (fun _ => 0) (fun _ => 0) (fun _ => 0) 0 (-1) 0 0 (SM_0 hw.1 hw.2.1 hw.2.2) hPn hDn hS (lv_sub hl [3, 2, 1, 0] rfl)
end
section
set_option maxHeartbeats 4000000 in
theorem lw_walk (l : Launch) (b : Addr) (xs : List Int32) : MetFree l x (headSpec (Jvm.Cond.code x code maxLocals ret :: tables_1) room_1) (lw_P b xs) (fun _ _ _ _ _ => True) lw_Q := by
  refine MetFree.of_bodyS (code := code) (maxLocals := maxLocals) (ret := ret) (by decide) ?_ ?_
  · intro args s m h hn
    obtain ⟨meth, c, h1, h2, h3, h4, h5, h6, -, -⟩ := Cond.code_spec hn (atoms_spec (ws := Jvm.Cond.code x code maxLocals ret :: tables_1) h _ List.mem_cons_self)
    exact ⟨meth, c, h1, h2, h3, h4, h5, h6⟩
  · intro p e s m args below meth c s₁ B hml0 hP _
    obtain ⟨rfl, hx, hbd, hgv⟩ := hP
    obtain ⟨scr, harrAt, hlist, hof, hsmall⟩ := hx
    obtain ⟨hcb, hkn, -, -⟩ := State.arrayAt?_spec harrAt
    have hown : s.vm.findClass R_law = some m.cls := findClass_of_methodNamed B.named
    have hts0 : ∀ c ∈ (Jvm.Cond.code x code maxLocals ret :: tables_1), c.before #[Value.ref b] s = true := atoms_spec (ws := Jvm.Cond.code x code maxLocals ret :: tables_1) B.pre
    have hts : ∀ w ∈ lw_tbl, w.before #[Value.ref b] s = true := k2_hts_sels lw_privs (fun w hw => hts0 w (List.mem_cons_of_mem _ hw)) lw_privs_ok
    have hml : c.maxLocals = 4 := B.maxLocals_eq (hts0 _ List.mem_cons_self)
    have X₀ : Stand p l e room_1 s m #[Value.ref b] below meth c s₁ [] 0 0 := Stand.of_body B
    have hh0 : s₁.heap = s.heap := by rw [B.state]; rfl
    have hsz : scr.slots.size = xs.length := by rw [← Array.length_toList, hlist, List.length_map]
    have hval : ∀ j : Nat, j < xs.length → scr.slots[j]? = some (.int (xs.getD j 0)) := fun j hj => by
      rw [← Array.getElem?_toList, hlist]
      simp [hj]
    have hbl : b < s.heap.size := (Array.getElem?_eq_some_iff.mp hcb).1
    have hX : va_X b xs.length (fun j => xs.getD j 0) s s.heap := ⟨scr, hcb, hof, hkn, hsz, hval⟩
    have K : W p l e room_1 s m #[Value.ref b] below meth c s₁.heap [] 0 0 (lw_Z below #[Value.ref b] s) (entryFrame m ([Value.ref b] : List Value).toArray 4) := by
      rw [hh0]
      exact whole_start l hbd ⟨B.exec, B.bytes, B.returns, hml, hown, hts, hX, hbl, B.notSynchronized, hgv⟩
    obtain ⟨t, a1, o, b1, b2, b3⟩ := K s₁ rfl X₀
    exact ⟨t, o, a1, b1, b2, b3⟩
theorem lw_pre_spec {args : Array Value} {s : State} (h : (Jvm.Cond.and given_1 narrow_1).before args s = true) (hr : rest_1_c.before args s = true) : ∃ (b : Addr) (xs : List Int32), lw_P b xs args s := by
  have hs := flat_of_before _ h
  have hq := flat_of_before _ hr
  have hc : (Cond.count 1).before args s = true := hs _ (by decide +kernel)
  have harr : (Cond.arrayOf (.arg 0) .int).before args s = true := hs _ (by decide +kernel)
  have hle : (Cond.le (.length (.arg 0)) (.int 3072)).before args s = true := hs _ (by decide +kernel)
  have hlen : (Cond.isInt (.length (.arg 0))).before args s = true := hq _ (by decide +kernel)
  have hall : (Cond.all (.arg 0) (.isInt (.elem (.arg 0) (.index 0)))).before args s = true := hq _ (by decide +kernel)
  obtain ⟨b, xs, hb, hx⟩ := State.ints_of_pre rfl harr hlen hall
  have hsm : xs.length < 2 ^ 31 := hx.choose_spec.2.2.2
  have hev : (Term.length (.arg 0)).eval args s none [] s = some (.int xs.length.toInt32) := hx.length_eval hb
  have hv := Cond.le_ints hev (show (Term.int 3072).eval args s none [] s = some (.int 3072) from rfl)
  have hd : xs.length.toInt32 ≤ 3072 := by
    simpa [Cond.before, Cond.holds, hv] using hle
  have hN : xs.length ≤ 3072 := (Int32.ofNat_le_ofNat hsm (by decide)).mp (show Int32.ofNat xs.length ≤ Int32.ofNat 3072 from hd)
  exact ⟨b, xs, Cond.one_arg hc (show args[0]? = some (.ref b) from hb), hx, hN, h⟩
theorem lw_comes (l : Launch) : Comes l x (Jvm.Cond.code x code maxLocals ret :: tables_1) room_1 (fun tb e args s => Calls_1 tb e args s ∧ rest_1 tb e args s ∧ Pre_1 tb e args s)
    (fun _ _ args s o t => lw_Q args s o t) := by
  intro p e ha hc hk s m args below hf hfit hheap happ hpre
  obtain ⟨b, xs, hP⟩ := lw_pre_spec hpre.2.2 hpre.2.1
  obtain ⟨k, o, h1, h2, h3, hQ⟩ := lw_walk l b xs p e ha hc hk s m args below hf ((Spec.applies_iff_loose hf).mp happ).1 hP trivial
  exact ⟨k, o, h1, h2, h3, hQ⟩
theorem lw_frame {s t : State} {o : Outcome} {args : Array Value} (h : Framed s o t [] 600000 7302250) :
    Framed s o t (fieldLocs frame_1_writes args s ++ arrayLocs frame_1_arrays args s ++ staticLocs frame_1_statics s) 600000 7302250 := h
theorem lw_limb (L : Cond) (hL : ∀ (args : Array Value) (s t : State), L.after args s (.returned (some (.int 1))) t = true) :
    ArmFor flags0 classFile x code maxLocals ret World_1 tables_1 room_1 Calls_1 rest_1 Pre_1
      (fun tb e a s o t => postC L tb e a s o t ∧ Framed s o t (fieldLocs frame_1_writes a s ++ arrayLocs frame_1_arrays a s ++ staticLocs frame_1_statics s) 600000 7302250) := by
  intro l _ _ _ p e ha hc hk s m args below hf hfit hheap happ hpre
  obtain ⟨k, o, h1, h2, h3, rfl, hF⟩ := lw_comes l p e ha hc hk s m args below hf hfit hheap happ hpre
  exact ⟨k, _, h1, h2, h3, hL args s _, lw_frame hF⟩
theorem i_vc : Claimed_1_1 ∧ Claimed_1_2 := ⟨lw_limb limb_1_1 (fun args s t => by simp [limb_1_1, Cond.after, Cond.holds, Cond.value]), lw_limb limb_1_2 (fun args s t => Cond.after_iff.mpr (by
  first | (rw [show limb_1_2 = Cond.eq .result (.int 1) from rfl, Cond.eq_ints (x := 1) (y := 1) rfl rfl]; simp; done) | (simp [limb_1_2, Cond.value, Term.eval]; done)))⟩
end
