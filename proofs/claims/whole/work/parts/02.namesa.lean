/-! ===== BEGIN words of one list among another's, by their places ===== -/
theorem goodIn_r {big : List Cond} (ws : List Cond) (ps : List Nat) (hp : ws = ps.filterMap (fun i => big[i]?)) (h : ws.all goodWord = true) : GoodIn big ws := by
  intro w hw
  have h1 := List.all_eq_true.mp h w hw
  rw [hp] at hw
  obtain ⟨i, -, hi⟩ := List.mem_filterMap.mp hw
  have hm : w ∈ big := by first | exact List.mem_of_getElem? hi | exact List.getElem?_mem hi
  exact ⟨hm, good_of_word h1⟩
theorem goodIn_app {big a b : List Cond} (ha : GoodIn big a) (hb : GoodIn big b) : GoodIn big (a ++ b) := fun w h => (List.mem_append.mp h).elim (ha w) (hb w)
theorem goodIn_ca {big a b : List Cond} {c : Cond} (ha : GoodIn big (c :: a)) (hb : GoodIn big b) : GoodIn big (c :: (a ++ b)) := fun w h => (List.mem_cons.mp h).elim (fun e => ha w (List.mem_cons.mpr (Or.inl e))) (fun h => (List.mem_append.mp h).elim (fun h => ha w (List.mem_cons.mpr (Or.inr h))) (hb w))
theorem goodIn_sub {big ws : List Cond} (hm : ∀ w ∈ ws, w ∈ big) (h : ws.all goodWord = true) : GoodIn big ws := fun w hw => ⟨hm w hw, good_of_word (List.all_eq_true.mp h w hw)⟩
/-! ===== END ===== -/

/-! ===== BEGIN printed: names, fields, word lists, decode rows ===== -/
def RX0 : String := "SharedLog$Client"
def TX0 : u_T := fun k => match k with
  | 0 => ("SharedLog$Client", "epoch", "I", false)
  | 1 => ("SharedLog$Client", "members", "I", false)
  | 2 => ("SharedLog$Client", "kind", "I", false)
  | 3 => ("SharedLog$Client", "outcome", "I", false)
  | 4 => ("SharedLog$Client", "number", "I", false)
  | 5 => ("SharedLog$Client", "route", "I", false)
  | 6 => ("SharedLog$Client", "position", "I", false)
  | 7 => ("SharedLog$Client", "content", "I", false)
  | 8 => ("SharedLog$Client", "upto", "I", false)
  | 9 => ("SharedLog$Client", "sum", "I", false)
  | 10 => ("SharedLog$Client", "survivors", "I", false)
  | _ => ("SharedLog$Client", "greatestEnd", "I", false)
def tyX0 : Nat → FieldType := fun k => match k with
  | 0 => .int
  | 1 => .int
  | 2 => .int
  | 3 => .int
  | 4 => .int
  | 5 => .int
  | 6 => .int
  | 7 => .int
  | 8 => .int
  | 9 => .int
  | 10 => .int
  | _ => .int
abbrev wsX00 : List Cond := u_ws RX0 TX0 12
theorem nmX0 : ∀ a, a < 12 → ∀ b, b < 12 → a ≠ b → (TX0 a).2.1 ≠ (TX0 b).2.1 := by decide +kernel
theorem tyX0_ok : ∀ k, k < 12 → parseFieldDescriptor (TX0 k).2.2.1 = some (tyX0 k) := by decide +kernel
abbrev cX0_init : ByteArray := prog_2_method_1_code
def yX0_init : MethodName := ⟨RX0, "<init>", "()V"⟩
abbrev cX0_begin : ByteArray := prog_2_method_2_code
def yX0_begin : MethodName := ⟨RX0, "begin", "(II)I"⟩
abbrev cX0_end : ByteArray := prog_2_method_3_code
def yX0_end : MethodName := ⟨RX0, "end", "(II)I"⟩
abbrev cX0_chainOf : ByteArray := prog_2_method_4_code
def yX0_chainOf : MethodName := ⟨RX0, "chainOf", "(I)I"⟩
abbrev cX0_isAtHead : ByteArray := prog_2_method_5_code
def yX0_isAtHead : MethodName := ⟨RX0, "isAtHead", "()Z"⟩
abbrev cX0_replayRoute : ByteArray := prog_2_method_6_code
def yX0_replayRoute : MethodName := ⟨RX0, "replayRoute", "()I"⟩
abbrev cX0_newestEpochItBears : ByteArray := prog_2_method_7_code
def yX0_newestEpochItBears : MethodName := ⟨RX0, "newestEpochItBears", "()I"⟩
abbrev cX0_goAlongChain : ByteArray := prog_2_method_8_code
def yX0_goAlongChain : MethodName := ⟨RX0, "goAlongChain", "(I)I"⟩
def RX1 : String := "SharedLog$Unit"
def TX1 : u_T := fun k => match k with
  | 0 => ("SharedLog$Unit", "epoch", "I", false)
  | 1 => ("SharedLog$Unit", "up", "Z", false)
  | _ => ("SharedLog$Unit", "cells", "[I", true)
def tyX1 : Nat → FieldType := fun k => match k with
  | 0 => .int
  | 1 => .boolean
  | _ => .array .int
abbrev wsX10 : List Cond := u_ws RX1 TX1 3
theorem nmX1 : ∀ a, a < 3 → ∀ b, b < 3 → a ≠ b → (TX1 a).2.1 ≠ (TX1 b).2.1 := by decide +kernel
theorem tyX1_ok : ∀ k, k < 3 → parseFieldDescriptor (TX1 k).2.2.1 = some (tyX1 k) := by decide +kernel
abbrev cX1_init : ByteArray := prog_3_method_1_code
def yX1_init : MethodName := ⟨RX1, "<init>", "()V"⟩
abbrev cX1_contentAt : ByteArray := prog_3_method_2_code
def yX1_contentAt : MethodName := ⟨RX1, "contentAt", "(I)I"⟩
abbrev cX1_writeOnce : ByteArray := prog_3_method_3_code
def yX1_writeOnce : MethodName := ⟨RX1, "writeOnce", "(II)V"⟩
abbrev cX1_endOfWritten : ByteArray := prog_3_method_4_code
def yX1_endOfWritten : MethodName := ⟨RX1, "endOfWritten", "()I"⟩
def RX2 : String := "SharedLog"
def TX2 : u_T := fun k => match k with
  | 0 => ("SharedLog", "units", "[LSharedLog$Unit;", true)
  | 1 => ("SharedLog", "clients", "[LSharedLog$Client;", true)
  | 2 => ("SharedLog", "storeEpoch", "I", false)
  | 3 => ("SharedLog", "storeMembers", "I", false)
  | 4 => ("SharedLog", "sequencerEpoch", "I", false)
  | _ => ("SharedLog", "nextPosition", "I", false)
def tyX2 : Nat → FieldType := fun k => match k with
  | 0 => .array (.object "SharedLog$Unit")
  | 1 => .array (.object "SharedLog$Client")
  | 2 => .int
  | 3 => .int
  | 4 => .int
  | _ => .int
abbrev wsX20 : List Cond := u_ws RX2 TX2 6
theorem nmX2 : ∀ a, a < 6 → ∀ b, b < 6 → a ≠ b → (TX2 a).2.1 ≠ (TX2 b).2.1 := by decide +kernel
theorem tyX2_ok : ∀ k, k < 6 → parseFieldDescriptor (TX2 k).2.2.1 = some (tyX2 k) := by decide +kernel
abbrev cX2_init : ByteArray := prog_1_method_1_code
def yX2_init : MethodName := ⟨RX2, "<init>", "()V"⟩
abbrev cX2_append : ByteArray := prog_1_method_2_code
def yX2_append : MethodName := ⟨RX2, "append", "(II)I"⟩
abbrev cX2_fill : ByteArray := prog_1_method_3_code
def yX2_fill : MethodName := ⟨RX2, "fill", "(II)I"⟩
abbrev cX2_read : ByteArray := prog_1_method_4_code
def yX2_read : MethodName := ⟨RX2, "read", "(II)I"⟩
abbrev cX2_replay : ByteArray := prog_1_method_5_code
def yX2_replay : MethodName := ⟨RX2, "replay", "(II)I"⟩
abbrev cX2_reform : ByteArray := prog_1_method_6_code
def yX2_reform : MethodName := ⟨RX2, "reform", "(II)I"⟩
abbrev cX2_step : ByteArray := prog_1_method_7_code
def yX2_step : MethodName := ⟨RX2, "step", "(I)I"⟩
abbrev cX2_refresh : ByteArray := prog_1_method_8_code
def yX2_refresh : MethodName := ⟨RX2, "refresh", "(I)I"⟩
abbrev cX2_setUp : ByteArray := prog_1_method_9_code
def yX2_setUp : MethodName := ⟨RX2, "setUp", "(IZ)Z"⟩
abbrev cX2_loseSequencer : ByteArray := prog_1_method_10_code
def yX2_loseSequencer : MethodName := ⟨RX2, "loseSequencer", "()V"⟩
abbrev cX2_busy : ByteArray := prog_1_method_11_code
def yX2_busy : MethodName := ⟨RX2, "busy", "(I)I"⟩
abbrev cX2_outcome : ByteArray := prog_1_method_12_code
def yX2_outcome : MethodName := ⟨RX2, "outcome", "(I)I"⟩
abbrev cX2_number : ByteArray := prog_1_method_13_code
def yX2_number : MethodName := ⟨RX2, "number", "(I)I"⟩
abbrev cX2_epochOf : ByteArray := prog_1_method_14_code
def yX2_epochOf : MethodName := ⟨RX2, "epochOf", "(I)I"⟩
abbrev cX2_membersOf : ByteArray := prog_1_method_15_code
def yX2_membersOf : MethodName := ⟨RX2, "membersOf", "(I)I"⟩
abbrev cX2_tail : ByteArray := prog_1_method_16_code
def yX2_tail : MethodName := ⟨RX2, "tail", "()I"⟩
abbrev cX2_unitEpoch : ByteArray := prog_1_method_17_code
def yX2_unitEpoch : MethodName := ⟨RX2, "unitEpoch", "(I)I"⟩
abbrev cX2_cell : ByteArray := prog_1_method_18_code
def yX2_cell : MethodName := ⟨RX2, "cell", "(II)I"⟩
abbrev cX2_clientAt : ByteArray := prog_1_method_19_code
def yX2_clientAt : MethodName := ⟨RX2, "clientAt", "(I)LSharedLog$Client;"⟩
abbrev cX2_unitAt : ByteArray := prog_1_method_20_code
def yX2_unitAt : MethodName := ⟨RX2, "unitAt", "(I)LSharedLog$Unit;"⟩
abbrev cX2_isPosition : ByteArray := prog_1_method_21_code
def yX2_isPosition : MethodName := ⟨RX2, "isPosition", "(I)Z"⟩
abbrev cX2_lowestUnit : ByteArray := prog_1_method_22_code
def yX2_lowestUnit : MethodName := ⟨RX2, "lowestUnit", "(I)I"⟩
abbrev cX2_withoutLowest : ByteArray := prog_1_method_23_code
def yX2_withoutLowest : MethodName := ⟨RX2, "withoutLowest", "(I)I"⟩
abbrev cX2_highestOf : ByteArray := prog_1_method_24_code
def yX2_highestOf : MethodName := ⟨RX2, "highestOf", "(I)I"⟩
abbrev cX2_stepWithoutUnit : ByteArray := prog_1_method_25_code
def yX2_stepWithoutUnit : MethodName := ⟨RX2, "stepWithoutUnit", "(LSharedLog$Client;)I"⟩
abbrev cX2_stepAtUnit : ByteArray := prog_1_method_26_code
def yX2_stepAtUnit : MethodName := ⟨RX2, "stepAtUnit", "(LSharedLog$Client;LSharedLog$Unit;)I"⟩
abbrev cX2_askSequencer : ByteArray := prog_1_method_27_code
def yX2_askSequencer : MethodName := ⟨RX2, "askSequencer", "(LSharedLog$Client;)I"⟩
abbrev cX2_askStore : ByteArray := prog_1_method_28_code
def yX2_askStore : MethodName := ⟨RX2, "askStore", "(LSharedLog$Client;)I"⟩
abbrev cX2_takeStoreProjection : ByteArray := prog_1_method_29_code
def yX2_takeStoreProjection : MethodName := ⟨RX2, "takeStoreProjection", "(LSharedLog$Client;)V"⟩
abbrev cX2_appendAt : ByteArray := prog_1_method_30_code
def yX2_appendAt : MethodName := ⟨RX2, "appendAt", "(LSharedLog$Client;LSharedLog$Unit;)I"⟩
abbrev cX2_fillAt : ByteArray := prog_1_method_31_code
def yX2_fillAt : MethodName := ⟨RX2, "fillAt", "(LSharedLog$Client;LSharedLog$Unit;)I"⟩
abbrev cX2_readAt : ByteArray := prog_1_method_32_code
def yX2_readAt : MethodName := ⟨RX2, "readAt", "(LSharedLog$Client;LSharedLog$Unit;)I"⟩
abbrev cX2_replayAt : ByteArray := prog_1_method_33_code
def yX2_replayAt : MethodName := ⟨RX2, "replayAt", "(LSharedLog$Client;LSharedLog$Unit;)I"⟩
abbrev cX2_sealAt : ByteArray := prog_1_method_34_code
def yX2_sealAt : MethodName := ⟨RX2, "sealAt", "(LSharedLog$Client;LSharedLog$Unit;)I"⟩
def RX3 : String := "SharedLogModel"
def TX3 : u_T := fun k => match k with
  | 0 => ("SharedLogModel", "rows", "I", false)
  | 1 => ("SharedLogModel", "rowUnit", "[I", true)
  | 2 => ("SharedLogModel", "rowPos", "[I", true)
  | 3 => ("SharedLogModel", "rowVal", "[I", true)
  | 4 => ("SharedLogModel", "unitEpoch", "[I", true)
  | 5 => ("SharedLogModel", "down", "[I", true)
  | 6 => ("SharedLogModel", "storeEpoch", "I", false)
  | 7 => ("SharedLogModel", "storeMembers", "I", false)
  | 8 => ("SharedLogModel", "seqEpoch", "I", false)
  | 9 => ("SharedLogModel", "seqNext", "I", false)
  | 10 => ("SharedLogModel", "kind", "[I", true)
  | 11 => ("SharedLogModel", "epoch", "[I", true)
  | 12 => ("SharedLogModel", "members", "[I", true)
  | 13 => ("SharedLogModel", "outcome", "[I", true)
  | 14 => ("SharedLogModel", "number", "[I", true)
  | 15 => ("SharedLogModel", "pos", "[I", true)
  | 16 => ("SharedLogModel", "val", "[I", true)
  | 17 => ("SharedLogModel", "at", "[I", true)
  | _ => ("SharedLogModel", "want", "[I", true)
def tyX3 : Nat → FieldType := fun k => match k with
  | 0 => .int
  | 1 => .array .int
  | 2 => .array .int
  | 3 => .array .int
  | 4 => .array .int
  | 5 => .array .int
  | 6 => .int
  | 7 => .int
  | 8 => .int
  | 9 => .int
  | 10 => .array .int
  | 11 => .array .int
  | 12 => .array .int
  | 13 => .array .int
  | 14 => .array .int
  | 15 => .array .int
  | 16 => .array .int
  | 17 => .array .int
  | _ => .array .int
abbrev wsX30 : List Cond := u_ws RX3 TX3 19
theorem nmX3 : ∀ a, a < 19 → ∀ b, b < 19 → a ≠ b → (TX3 a).2.1 ≠ (TX3 b).2.1 := by decide +kernel
theorem tyX3_ok : ∀ k, k < 19 → parseFieldDescriptor (TX3 k).2.2.1 = some (tyX3 k) := by decide +kernel
abbrev cX3_init : ByteArray := prog_5_method_1_code
def yX3_init : MethodName := ⟨RX3, "<init>", "()V"⟩
abbrev cX3_look : ByteArray := prog_5_method_2_code
def yX3_look : MethodName := ⟨RX3, "look", "(II)I"⟩
abbrev cX3_put : ByteArray := prog_5_method_3_code
def yX3_put : MethodName := ⟨RX3, "put", "(III)V"⟩
abbrev cX3_nth : ByteArray := prog_5_method_4_code
def yX3_nth : MethodName := ⟨RX3, "nth", "(III)I"⟩
abbrev cX3_length : ByteArray := prog_5_method_5_code
def yX3_length : MethodName := ⟨RX3, "length", "(II)I"⟩
abbrev cX3_begin : ByteArray := prog_5_method_6_code
def yX3_begin : MethodName := ⟨RX3, "begin", "(IIZ)I"⟩
abbrev cX3_append : ByteArray := prog_5_method_7_code
def yX3_append : MethodName := ⟨RX3, "append", "(II)I"⟩
abbrev cX3_fill : ByteArray := prog_5_method_8_code
def yX3_fill : MethodName := ⟨RX3, "fill", "(II)I"⟩
abbrev cX3_read : ByteArray := prog_5_method_9_code
def yX3_read : MethodName := ⟨RX3, "read", "(II)I"⟩
abbrev cX3_replay : ByteArray := prog_5_method_10_code
def yX3_replay : MethodName := ⟨RX3, "replay", "(II)I"⟩
abbrev cX3_reform : ByteArray := prog_5_method_11_code
def yX3_reform : MethodName := ⟨RX3, "reform", "(II)I"⟩
abbrev cX3_end : ByteArray := prog_5_method_12_code
def yX3_end : MethodName := ⟨RX3, "end", "(III)I"⟩
abbrev cX3_alongChain : ByteArray := prog_5_method_13_code
def yX3_alongChain : MethodName := ⟨RX3, "alongChain", "(I)I"⟩
abbrev cX3_atTail : ByteArray := prog_5_method_14_code
def yX3_atTail : MethodName := ⟨RX3, "atTail", "(I)I"⟩
abbrev cX3_seal : ByteArray := prog_5_method_15_code
def yX3_seal : MethodName := ⟨RX3, "seal", "(I)I"⟩
abbrev cX3_step : ByteArray := prog_5_method_16_code
def yX3_step : MethodName := ⟨RX3, "step", "(I)I"⟩
abbrev cX3_refresh : ByteArray := prog_5_method_17_code
def yX3_refresh : MethodName := ⟨RX3, "refresh", "(I)I"⟩
abbrev cX3_setUp : ByteArray := prog_5_method_18_code
def yX3_setUp : MethodName := ⟨RX3, "setUp", "(IZ)Z"⟩
abbrev cX3_loseSequencer : ByteArray := prog_5_method_19_code
def yX3_loseSequencer : MethodName := ⟨RX3, "loseSequencer", "()V"⟩
abbrev cX3_busy : ByteArray := prog_5_method_20_code
def yX3_busy : MethodName := ⟨RX3, "busy", "(I)I"⟩
abbrev cX3_outcome : ByteArray := prog_5_method_21_code
def yX3_outcome : MethodName := ⟨RX3, "outcome", "(I)I"⟩
abbrev cX3_number : ByteArray := prog_5_method_22_code
def yX3_number : MethodName := ⟨RX3, "number", "(I)I"⟩
abbrev cX3_epochOf : ByteArray := prog_5_method_23_code
def yX3_epochOf : MethodName := ⟨RX3, "epochOf", "(I)I"⟩
abbrev cX3_membersOf : ByteArray := prog_5_method_24_code
def yX3_membersOf : MethodName := ⟨RX3, "membersOf", "(I)I"⟩
abbrev cX3_tail : ByteArray := prog_5_method_25_code
def yX3_tail : MethodName := ⟨RX3, "tail", "()I"⟩
abbrev cX3_unitEpoch : ByteArray := prog_5_method_26_code
def yX3_unitEpoch : MethodName := ⟨RX3, "unitEpoch", "(I)I"⟩
abbrev cX3_cell : ByteArray := prog_5_method_27_code
def yX3_cell : MethodName := ⟨RX3, "cell", "(II)I"⟩
def RJ9 : String := "java/lang/Math"
def TJ9 : u_T := fun k => match k with
  | _ => ("", "", "", false)
def tyJ9 : Nat → FieldType := fun k => match k with
  | _ => .int
abbrev wsJ90 : List Cond := u_ws RJ9 TJ9 0
theorem nmJ9 : ∀ a, a < 0 → ∀ b, b < 0 → a ≠ b → (TJ9 a).2.1 ≠ (TJ9 b).2.1 := by decide +kernel
theorem tyJ9_ok : ∀ k, k < 0 → parseFieldDescriptor (TJ9 k).2.2.1 = some (tyJ9 k) := by decide +kernel
abbrev cJ9_max_7cf53 : ByteArray := prog_6_method_65_code
def yJ9_max_7cf53 : MethodName := ⟨RJ9, "max", "(II)I"⟩
def RL : String := "SharedLogLaw"
abbrev cL_law : ByteArray := code
def yL_law : MethodName := ⟨RL, "law", "([I)Z"⟩
def wsX0_init : List Cond := .code yX0_init cX0_init 1 none :: ([.methodLink RX0 3 objectInit, .instanceMethod objectInit, .code objectInit ⟨#[0xb1]⟩ 1 none, .fieldLink RX0 9 "SharedLog$Client" "epoch" "I", .fieldLink RX0 15 "SharedLog$Client" "members" "I", .fieldLink RX0 18 "SharedLog$Client" "kind" "I", .fieldLink RX0 21 "SharedLog$Client" "outcome" "I", .fieldLink RX0 24 "SharedLog$Client" "number" "I", .fieldLink RX0 27 "SharedLog$Client" "route" "I", .fieldLink RX0 30 "SharedLog$Client" "position" "I", .fieldLink RX0 33 "SharedLog$Client" "content" "I", .fieldLink RX0 36 "SharedLog$Client" "upto" "I", .fieldLink RX0 39 "SharedLog$Client" "sum" "I", .fieldLink RX0 42 "SharedLog$Client" "survivors" "I", .fieldLink RX0 45 "SharedLog$Client" "greatestEnd" "I"] ++ wsX00)
def wsX0_begin : List Cond := .code yX0_begin cX0_begin 3 (some .int) :: ([.fieldLink RX0 18 "SharedLog$Client" "kind" "I", .fieldLink RX0 27 "SharedLog$Client" "route" "I", .fieldLink RX0 21 "SharedLog$Client" "outcome" "I", .fieldLink RX0 24 "SharedLog$Client" "number" "I"] ++ wsX00)
def wsX0_end : List Cond := .code yX0_end cX0_end 3 (some .int) :: ([.fieldLink RX0 18 "SharedLog$Client" "kind" "I", .fieldLink RX0 21 "SharedLog$Client" "outcome" "I", .fieldLink RX0 24 "SharedLog$Client" "number" "I"] ++ wsX00)
def wsX0_chainOf : List Cond := .code yX0_chainOf cX0_chainOf 2 (some .int) :: ([.fieldLink RX0 15 "SharedLog$Client" "members" "I"] ++ wsX00)
def wsX0_isAtHead : List Cond := .code yX0_isAtHead cX0_isAtHead 1 (some .boolean) :: ([.fieldLink RX0 27 "SharedLog$Client" "route" "I", .fieldLink RX0 30 "SharedLog$Client" "position" "I", .methodLink RX0 48 yX0_chainOf, .instanceMethod yX0_chainOf, .selects RX0 yX0_chainOf yX0_chainOf, .initialized RX0, .code yX0_chainOf cX0_chainOf 2 (some .int), .fieldLink RX0 15 "SharedLog$Client" "members" "I"] ++ wsX00)
def wsX2_highestOf : List Cond := .code yX2_highestOf cX2_highestOf 2 (some .int) :: ([])
def wsX0_replayRoute : List Cond := .code yX0_replayRoute cX0_replayRoute 1 (some .int) :: ([.fieldLink RX0 30 "SharedLog$Client" "position" "I", .fieldLink RX0 36 "SharedLog$Client" "upto" "I", .methodLink RX0 48 yX0_chainOf, .instanceMethod yX0_chainOf, .selects RX0 yX0_chainOf yX0_chainOf, .initialized RX0, .code yX0_chainOf cX0_chainOf 2 (some .int), .fieldLink RX0 15 "SharedLog$Client" "members" "I", .static yX2_highestOf, .initialized RX2, .code yX2_highestOf cX2_highestOf 2 (some .int)] ++ wsX00)
def wsX0_newestEpochItBears : List Cond := .code yX0_newestEpochItBears cX0_newestEpochItBears 1 (some .int) :: ([.fieldLink RX0 18 "SharedLog$Client" "kind" "I", .fieldLink RX0 9 "SharedLog$Client" "epoch" "I"] ++ wsX00)
def wsX2_withoutLowest : List Cond := .code yX2_withoutLowest cX2_withoutLowest 1 (some .int) :: ([])
def wsX0_goAlongChain : List Cond := .code yX0_goAlongChain cX0_goAlongChain 2 (some .int) :: ([.fieldLink RX0 27 "SharedLog$Client" "route" "I", .static yX2_withoutLowest, .initialized RX2, .code yX2_withoutLowest cX2_withoutLowest 1 (some .int), .methodLink RX0 58 yX0_end, .instanceMethod yX0_end, .selects RX0 yX0_end yX0_end, .initialized RX0, .code yX0_end cX0_end 3 (some .int), .fieldLink RX0 18 "SharedLog$Client" "kind" "I", .fieldLink RX0 21 "SharedLog$Client" "outcome" "I", .fieldLink RX0 24 "SharedLog$Client" "number" "I"] ++ wsX00)
def wsX1_init : List Cond := .code yX1_init cX1_init 2 none :: ([.methodLink RX1 3 objectInit, .instanceMethod objectInit, .code objectInit ⟨#[0xb1]⟩ 1 none, .fieldLink RX1 9 "SharedLog$Unit" "epoch" "I", .fieldLink RX1 15 "SharedLog$Unit" "up" "Z", .arrayClass .int, .fieldLink RX1 19 "SharedLog$Unit" "cells" "[I"] ++ wsX10)
def wsX2_isPosition : List Cond := .code yX2_isPosition cX2_isPosition 1 (some .boolean) :: ([])
def wsX1_contentAt : List Cond := .code yX1_contentAt cX1_contentAt 2 (some .int) :: ([.fieldLink RX1 19 "SharedLog$Unit" "cells" "[I", .static yX2_isPosition, .initialized RX2, .code yX2_isPosition cX2_isPosition 1 (some .boolean)] ++ wsX10)
def wsX1_writeOnce : List Cond := .code yX1_writeOnce cX1_writeOnce 3 none :: ([.fieldLink RX1 19 "SharedLog$Unit" "cells" "[I", .static yX2_isPosition, .initialized RX2, .code yX2_isPosition cX2_isPosition 1 (some .boolean)] ++ wsX10)
def wsX1_endOfWritten : List Cond := .code yX1_endOfWritten cX1_endOfWritten 2 (some .int) :: ([.fieldLink RX1 19 "SharedLog$Unit" "cells" "[I"] ++ wsX10)
def wsX2_init_r1 : List Cond := [Cond.methodLink RX2 1 objectInit, Cond.instanceMethod objectInit, Cond.code objectInit ⟨#[0xb1]⟩ 1 none, Cond.classLink RX2 9 RX1, Cond.fieldLink RX2 11 "SharedLog" "units" "[LSharedLog$Unit;", Cond.classLink RX2 15 RX0, Cond.fieldLink RX2 17 "SharedLog" "clients" "[LSharedLog$Client;", Cond.fieldLink RX2 21 "SharedLog" "storeEpoch" "I", Cond.fieldLink RX2 25 "SharedLog" "storeMembers" "I", Cond.fieldLink RX2 28 "SharedLog" "sequencerEpoch" "I", Cond.fieldLink RX2 31 "SharedLog" "nextPosition" "I", Cond.instantiable RX1 3, Cond.initialized RX1, Cond.instantiable RX0 12, Cond.initialized RX0, Cond.instanceMethod yX1_init, Cond.code yX1_init cX1_init 2 none, Cond.methodLink RX1 3 objectInit, Cond.fieldLink RX1 9 "SharedLog$Unit" "epoch" "I", Cond.fieldLink RX1 15 "SharedLog$Unit" "up" "Z", Cond.arrayClass .int, Cond.fieldLink RX1 19 "SharedLog$Unit" "cells" "[I", Cond.instanceMethod yX0_init, Cond.code yX0_init cX0_init 1 none]
def wsX2_init_r2 : List Cond := [Cond.methodLink RX0 3 objectInit, Cond.fieldLink RX0 9 "SharedLog$Client" "epoch" "I", Cond.fieldLink RX0 15 "SharedLog$Client" "members" "I", Cond.fieldLink RX0 18 "SharedLog$Client" "kind" "I", Cond.fieldLink RX0 21 "SharedLog$Client" "outcome" "I", Cond.fieldLink RX0 24 "SharedLog$Client" "number" "I", Cond.fieldLink RX0 27 "SharedLog$Client" "route" "I", Cond.fieldLink RX0 30 "SharedLog$Client" "position" "I", Cond.fieldLink RX0 33 "SharedLog$Client" "content" "I", Cond.fieldLink RX0 36 "SharedLog$Client" "upto" "I", Cond.fieldLink RX0 39 "SharedLog$Client" "sum" "I", Cond.fieldLink RX0 42 "SharedLog$Client" "survivors" "I", Cond.fieldLink RX0 45 "SharedLog$Client" "greatestEnd" "I"]
def wsX2_init : List Cond := .code yX2_init cX2_init 2 none :: ((wsX2_init_r1 ++ wsX2_init_r2) ++ wsX20 ++ wsX10 ++ wsX00)
def wsX2_clientAt : List Cond := .code yX2_clientAt cX2_clientAt 2 (some (.object "SharedLog$Client")) :: ([.fieldLink RX2 17 "SharedLog" "clients" "[LSharedLog$Client;"] ++ wsX20)
def wsX2_append : List Cond := .code yX2_append cX2_append 4 (some .int) :: ([.constant RX2 43 (1073741823), .methodLink RX2 36 yX2_clientAt, .instanceMethod yX2_clientAt, .selects RX2 yX2_clientAt yX2_clientAt, .initialized RX2, .code yX2_clientAt cX2_clientAt 2 (some (.object "SharedLog$Client")), .fieldLink RX2 17 "SharedLog" "clients" "[LSharedLog$Client;", .instanceMethod yX0_begin, .initialized RX0, .selects RX0 yX0_begin yX0_begin, .code yX0_begin cX0_begin 3 (some .int), .fieldLink RX0 18 "SharedLog$Client" "kind" "I", .fieldLink RX0 27 "SharedLog$Client" "route" "I", .fieldLink RX0 21 "SharedLog$Client" "outcome" "I", .fieldLink RX0 24 "SharedLog$Client" "number" "I"] ++ wsX00 ++ wsX20)
def wsX2_fill : List Cond := .code yX2_fill cX2_fill 4 (some .int) :: ([.methodLink RX2 36 yX2_clientAt, .instanceMethod yX2_clientAt, .selects RX2 yX2_clientAt yX2_clientAt, .initialized RX2, .code yX2_clientAt cX2_clientAt 2 (some (.object "SharedLog$Client")), .fieldLink RX2 17 "SharedLog" "clients" "[LSharedLog$Client;", .methodLink RX2 51 yX2_isPosition, .static yX2_isPosition, .code yX2_isPosition cX2_isPosition 1 (some .boolean), .instanceMethod yX0_chainOf, .initialized RX0, .selects RX0 yX0_chainOf yX0_chainOf, .code yX0_chainOf cX0_chainOf 2 (some .int), .fieldLink RX0 15 "SharedLog$Client" "members" "I", .instanceMethod yX0_begin, .selects RX0 yX0_begin yX0_begin, .code yX0_begin cX0_begin 3 (some .int), .fieldLink RX0 18 "SharedLog$Client" "kind" "I", .fieldLink RX0 27 "SharedLog$Client" "route" "I", .fieldLink RX0 21 "SharedLog$Client" "outcome" "I", .fieldLink RX0 24 "SharedLog$Client" "number" "I"] ++ wsX00 ++ wsX20)
def wsX2_read : List Cond := .code yX2_read cX2_read 4 (some .int) :: ([.methodLink RX2 36 yX2_clientAt, .instanceMethod yX2_clientAt, .selects RX2 yX2_clientAt yX2_clientAt, .initialized RX2, .code yX2_clientAt cX2_clientAt 2 (some (.object "SharedLog$Client")), .fieldLink RX2 17 "SharedLog" "clients" "[LSharedLog$Client;", .methodLink RX2 51 yX2_isPosition, .static yX2_isPosition, .code yX2_isPosition cX2_isPosition 1 (some .boolean), .instanceMethod yX0_chainOf, .initialized RX0, .selects RX0 yX0_chainOf yX0_chainOf, .code yX0_chainOf cX0_chainOf 2 (some .int), .fieldLink RX0 15 "SharedLog$Client" "members" "I", .methodLink RX2 62 yX2_highestOf, .static yX2_highestOf, .code yX2_highestOf cX2_highestOf 2 (some .int), .instanceMethod yX0_begin, .selects RX0 yX0_begin yX0_begin, .code yX0_begin cX0_begin 3 (some .int), .fieldLink RX0 18 "SharedLog$Client" "kind" "I", .fieldLink RX0 27 "SharedLog$Client" "route" "I", .fieldLink RX0 21 "SharedLog$Client" "outcome" "I", .fieldLink RX0 24 "SharedLog$Client" "number" "I"] ++ wsX00 ++ wsX20)
def wsX2_replay_r1 : List Cond := [Cond.methodLink RX2 36 yX2_clientAt, Cond.instanceMethod yX2_clientAt, Cond.selects RX2 yX2_clientAt yX2_clientAt, Cond.initialized RX2, Cond.code yX2_clientAt cX2_clientAt 2 (some (.object "SharedLog$Client")), Cond.fieldLink RX2 17 "SharedLog" "clients" "[LSharedLog$Client;", Cond.instanceMethod yX0_replayRoute, Cond.initialized RX0, Cond.selects RX0 yX0_replayRoute yX0_replayRoute, Cond.code yX0_replayRoute cX0_replayRoute 1 (some .int), Cond.fieldLink RX0 30 "SharedLog$Client" "position" "I", Cond.fieldLink RX0 36 "SharedLog$Client" "upto" "I", Cond.methodLink RX0 48 yX0_chainOf, Cond.instanceMethod yX0_chainOf, Cond.selects RX0 yX0_chainOf yX0_chainOf, Cond.code yX0_chainOf cX0_chainOf 2 (some .int), Cond.fieldLink RX0 15 "SharedLog$Client" "members" "I", Cond.static yX2_highestOf, Cond.code yX2_highestOf cX2_highestOf 2 (some .int), Cond.instanceMethod yX0_begin, Cond.selects RX0 yX0_begin yX0_begin, Cond.code yX0_begin cX0_begin 3 (some .int), Cond.fieldLink RX0 18 "SharedLog$Client" "kind" "I", Cond.fieldLink RX0 27 "SharedLog$Client" "route" "I"]
def wsX2_replay_r2 : List Cond := [Cond.fieldLink RX0 21 "SharedLog$Client" "outcome" "I", Cond.fieldLink RX0 24 "SharedLog$Client" "number" "I"]
def wsX2_replay : List Cond := .code yX2_replay cX2_replay 4 (some .int) :: ((wsX2_replay_r1 ++ wsX2_replay_r2) ++ wsX00 ++ wsX20)
def wsX2_reform : List Cond := .code yX2_reform cX2_reform 5 (some .int) :: ([.methodLink RX2 36 yX2_clientAt, .instanceMethod yX2_clientAt, .selects RX2 yX2_clientAt yX2_clientAt, .initialized RX2, .code yX2_clientAt cX2_clientAt 2 (some (.object "SharedLog$Client")), .fieldLink RX2 17 "SharedLog" "clients" "[LSharedLog$Client;", .instanceMethod yX0_begin, .initialized RX0, .selects RX0 yX0_begin yX0_begin, .code yX0_begin cX0_begin 3 (some .int), .fieldLink RX0 18 "SharedLog$Client" "kind" "I", .fieldLink RX0 27 "SharedLog$Client" "route" "I", .fieldLink RX0 21 "SharedLog$Client" "outcome" "I", .fieldLink RX0 24 "SharedLog$Client" "number" "I"] ++ wsX00 ++ wsX20)
def wsX2_lowestUnit : List Cond := .code yX2_lowestUnit cX2_lowestUnit 2 (some .int) :: ([])
def wsX2_unitAt : List Cond := .code yX2_unitAt cX2_unitAt 2 (some (.object "SharedLog$Unit")) :: ([.fieldLink RX2 11 "SharedLog" "units" "[LSharedLog$Unit;"] ++ wsX20)
def wsX2_askSequencer : List Cond := .code yX2_askSequencer cX2_askSequencer 2 (some .int) :: ([.fieldLink RX2 28 "SharedLog" "sequencerEpoch" "I", .fieldLink RX2 31 "SharedLog" "nextPosition" "I", .instanceMethod yX0_end, .initialized RX0, .selects RX0 yX0_end yX0_end, .code yX0_end cX0_end 3 (some .int), .fieldLink RX0 18 "SharedLog$Client" "kind" "I", .fieldLink RX0 21 "SharedLog$Client" "outcome" "I", .fieldLink RX0 24 "SharedLog$Client" "number" "I", .instanceMethod yX0_chainOf, .selects RX0 yX0_chainOf yX0_chainOf, .code yX0_chainOf cX0_chainOf 2 (some .int), .fieldLink RX0 15 "SharedLog$Client" "members" "I"] ++ wsX00 ++ wsX20)
def wsX2_takeStoreProjection : List Cond := .code yX2_takeStoreProjection cX2_takeStoreProjection 2 none :: ([.fieldLink RX2 21 "SharedLog" "storeEpoch" "I", .fieldLink RX2 25 "SharedLog" "storeMembers" "I"] ++ wsX20 ++ wsX00)
def wsX2_askStore : List Cond := .code yX2_askStore cX2_askStore 2 (some .int) :: ([.fieldLink RX2 21 "SharedLog" "storeEpoch" "I", .fieldLink RX2 25 "SharedLog" "storeMembers" "I", .fieldLink RX2 28 "SharedLog" "sequencerEpoch" "I", .fieldLink RX2 31 "SharedLog" "nextPosition" "I", .instanceMethod yX0_end, .initialized RX0, .selects RX0 yX0_end yX0_end, .code yX0_end cX0_end 3 (some .int), .fieldLink RX0 18 "SharedLog$Client" "kind" "I", .fieldLink RX0 21 "SharedLog$Client" "outcome" "I", .fieldLink RX0 24 "SharedLog$Client" "number" "I", .methodLink RX2 115 yX2_takeStoreProjection, .instanceMethod yX2_takeStoreProjection, .selects RX2 yX2_takeStoreProjection yX2_takeStoreProjection, .initialized RX2, .code yX2_takeStoreProjection cX2_takeStoreProjection 2 none] ++ wsX20 ++ wsX00)
def wsX2_stepWithoutUnit_r1 : List Cond := [Cond.methodLink RX2 129 yX2_askSequencer, Cond.instanceMethod yX2_askSequencer, Cond.selects RX2 yX2_askSequencer yX2_askSequencer, Cond.initialized RX2, Cond.code yX2_askSequencer cX2_askSequencer 2 (some .int), Cond.fieldLink RX2 28 "SharedLog" "sequencerEpoch" "I", Cond.fieldLink RX2 31 "SharedLog" "nextPosition" "I", Cond.instanceMethod yX0_end, Cond.initialized RX0, Cond.selects RX0 yX0_end yX0_end, Cond.code yX0_end cX0_end 3 (some .int), Cond.fieldLink RX0 18 "SharedLog$Client" "kind" "I", Cond.fieldLink RX0 21 "SharedLog$Client" "outcome" "I", Cond.fieldLink RX0 24 "SharedLog$Client" "number" "I", Cond.instanceMethod yX0_chainOf, Cond.selects RX0 yX0_chainOf yX0_chainOf, Cond.code yX0_chainOf cX0_chainOf 2 (some .int), Cond.fieldLink RX0 15 "SharedLog$Client" "members" "I", Cond.methodLink RX2 132 yX2_askStore, Cond.instanceMethod yX2_askStore, Cond.selects RX2 yX2_askStore yX2_askStore, Cond.code yX2_askStore cX2_askStore 2 (some .int), Cond.fieldLink RX2 21 "SharedLog" "storeEpoch" "I", Cond.fieldLink RX2 25 "SharedLog" "storeMembers" "I"]
def wsX2_stepWithoutUnit_r2 : List Cond := [Cond.methodLink RX2 115 yX2_takeStoreProjection, Cond.instanceMethod yX2_takeStoreProjection, Cond.selects RX2 yX2_takeStoreProjection yX2_takeStoreProjection, Cond.code yX2_takeStoreProjection cX2_takeStoreProjection 2 none]
def wsX2_stepWithoutUnit : List Cond := .code yX2_stepWithoutUnit cX2_stepWithoutUnit 2 (some .int) :: ((wsX2_stepWithoutUnit_r1 ++ wsX2_stepWithoutUnit_r2) ++ wsX00 ++ wsX20)
def wsX2_appendAt_r1 : List Cond := [Cond.instanceMethod yX1_contentAt, Cond.initialized RX1, Cond.selects RX1 yX1_contentAt yX1_contentAt, Cond.code yX1_contentAt cX1_contentAt 2 (some .int), Cond.fieldLink RX1 19 "SharedLog$Unit" "cells" "[I", Cond.static yX2_isPosition, Cond.initialized RX2, Cond.code yX2_isPosition cX2_isPosition 1 (some .boolean), Cond.instanceMethod yX0_isAtHead, Cond.initialized RX0, Cond.selects RX0 yX0_isAtHead yX0_isAtHead, Cond.code yX0_isAtHead cX0_isAtHead 1 (some .boolean), Cond.fieldLink RX0 27 "SharedLog$Client" "route" "I", Cond.fieldLink RX0 30 "SharedLog$Client" "position" "I", Cond.methodLink RX0 48 yX0_chainOf, Cond.instanceMethod yX0_chainOf, Cond.selects RX0 yX0_chainOf yX0_chainOf, Cond.code yX0_chainOf cX0_chainOf 2 (some .int), Cond.fieldLink RX0 15 "SharedLog$Client" "members" "I", Cond.instanceMethod yX1_writeOnce, Cond.selects RX1 yX1_writeOnce yX1_writeOnce, Cond.code yX1_writeOnce cX1_writeOnce 3 none, Cond.instanceMethod yX0_goAlongChain, Cond.selects RX0 yX0_goAlongChain yX0_goAlongChain]
def wsX2_appendAt_r2 : List Cond := [Cond.code yX0_goAlongChain cX0_goAlongChain 2 (some .int), Cond.static yX2_withoutLowest, Cond.code yX2_withoutLowest cX2_withoutLowest 1 (some .int), Cond.methodLink RX0 58 yX0_end, Cond.instanceMethod yX0_end, Cond.selects RX0 yX0_end yX0_end, Cond.code yX0_end cX0_end 3 (some .int), Cond.fieldLink RX0 18 "SharedLog$Client" "kind" "I", Cond.fieldLink RX0 21 "SharedLog$Client" "outcome" "I", Cond.fieldLink RX0 24 "SharedLog$Client" "number" "I"]
def wsX2_appendAt : List Cond := .code yX2_appendAt cX2_appendAt 3 (some .int) :: ((wsX2_appendAt_r1 ++ wsX2_appendAt_r2) ++ wsX00 ++ wsX10)
def wsX2_fillAt_r1 : List Cond := [Cond.instanceMethod yX1_writeOnce, Cond.initialized RX1, Cond.selects RX1 yX1_writeOnce yX1_writeOnce, Cond.code yX1_writeOnce cX1_writeOnce 3 none, Cond.fieldLink RX1 19 "SharedLog$Unit" "cells" "[I", Cond.static yX2_isPosition, Cond.initialized RX2, Cond.code yX2_isPosition cX2_isPosition 1 (some .boolean), Cond.instanceMethod yX0_isAtHead, Cond.initialized RX0, Cond.selects RX0 yX0_isAtHead yX0_isAtHead, Cond.code yX0_isAtHead cX0_isAtHead 1 (some .boolean), Cond.fieldLink RX0 27 "SharedLog$Client" "route" "I", Cond.fieldLink RX0 30 "SharedLog$Client" "position" "I", Cond.methodLink RX0 48 yX0_chainOf, Cond.instanceMethod yX0_chainOf, Cond.selects RX0 yX0_chainOf yX0_chainOf, Cond.code yX0_chainOf cX0_chainOf 2 (some .int), Cond.fieldLink RX0 15 "SharedLog$Client" "members" "I", Cond.instanceMethod yX1_contentAt, Cond.selects RX1 yX1_contentAt yX1_contentAt, Cond.code yX1_contentAt cX1_contentAt 2 (some .int), Cond.instanceMethod yX0_goAlongChain, Cond.selects RX0 yX0_goAlongChain yX0_goAlongChain]
def wsX2_fillAt_r2 : List Cond := [Cond.code yX0_goAlongChain cX0_goAlongChain 2 (some .int), Cond.static yX2_withoutLowest, Cond.code yX2_withoutLowest cX2_withoutLowest 1 (some .int), Cond.methodLink RX0 58 yX0_end, Cond.instanceMethod yX0_end, Cond.selects RX0 yX0_end yX0_end, Cond.code yX0_end cX0_end 3 (some .int), Cond.fieldLink RX0 18 "SharedLog$Client" "kind" "I", Cond.fieldLink RX0 21 "SharedLog$Client" "outcome" "I", Cond.fieldLink RX0 24 "SharedLog$Client" "number" "I"]
def wsX2_fillAt : List Cond := .code yX2_fillAt cX2_fillAt 2 (some .int) :: ((wsX2_fillAt_r1 ++ wsX2_fillAt_r2) ++ wsX00 ++ wsX10)
def wsX2_readAt : List Cond := .code yX2_readAt cX2_readAt 3 (some .int) :: ([.instanceMethod yX1_contentAt, .initialized RX1, .selects RX1 yX1_contentAt yX1_contentAt, .code yX1_contentAt cX1_contentAt 2 (some .int), .fieldLink RX1 19 "SharedLog$Unit" "cells" "[I", .static yX2_isPosition, .initialized RX2, .code yX2_isPosition cX2_isPosition 1 (some .boolean), .instanceMethod yX0_end, .initialized RX0, .selects RX0 yX0_end yX0_end, .code yX0_end cX0_end 3 (some .int), .fieldLink RX0 18 "SharedLog$Client" "kind" "I", .fieldLink RX0 21 "SharedLog$Client" "outcome" "I", .fieldLink RX0 24 "SharedLog$Client" "number" "I"] ++ wsX00 ++ wsX10)
def wsX2_replayAt_r1 : List Cond := [Cond.instanceMethod yX1_contentAt, Cond.initialized RX1, Cond.selects RX1 yX1_contentAt yX1_contentAt, Cond.code yX1_contentAt cX1_contentAt 2 (some .int), Cond.fieldLink RX1 19 "SharedLog$Unit" "cells" "[I", Cond.static yX2_isPosition, Cond.initialized RX2, Cond.code yX2_isPosition cX2_isPosition 1 (some .boolean), Cond.instanceMethod yX0_end, Cond.initialized RX0, Cond.selects RX0 yX0_end yX0_end, Cond.code yX0_end cX0_end 3 (some .int), Cond.fieldLink RX0 18 "SharedLog$Client" "kind" "I", Cond.fieldLink RX0 21 "SharedLog$Client" "outcome" "I", Cond.fieldLink RX0 24 "SharedLog$Client" "number" "I", Cond.instanceMethod yX0_replayRoute, Cond.selects RX0 yX0_replayRoute yX0_replayRoute, Cond.code yX0_replayRoute cX0_replayRoute 1 (some .int), Cond.fieldLink RX0 30 "SharedLog$Client" "position" "I", Cond.fieldLink RX0 36 "SharedLog$Client" "upto" "I", Cond.methodLink RX0 48 yX0_chainOf, Cond.instanceMethod yX0_chainOf, Cond.selects RX0 yX0_chainOf yX0_chainOf, Cond.code yX0_chainOf cX0_chainOf 2 (some .int)]
def wsX2_replayAt_r2 : List Cond := [Cond.fieldLink RX0 15 "SharedLog$Client" "members" "I", Cond.static yX2_highestOf, Cond.code yX2_highestOf cX2_highestOf 2 (some .int)]
def wsX2_replayAt : List Cond := .code yX2_replayAt cX2_replayAt 3 (some .int) :: ((wsX2_replayAt_r1 ++ wsX2_replayAt_r2) ++ wsX00 ++ wsX10)
def wsX2_sealAt : List Cond := .code yX2_sealAt cX2_sealAt 2 (some .int) :: ([.methodLink RX2 164 Lib.Math.max.name, .static Lib.Math.max.name, .initialized "java/lang/Math", .code Lib.Math.max.name Lib.Math.max.code 2 (some .int), .instanceMethod yX1_endOfWritten, .initialized RX1, .selects RX1 yX1_endOfWritten yX1_endOfWritten, .code yX1_endOfWritten cX1_endOfWritten 2 (some .int), .fieldLink RX1 19 "SharedLog$Unit" "cells" "[I", .methodLink RX2 169 yX2_withoutLowest, .static yX2_withoutLowest, .initialized RX2, .code yX2_withoutLowest cX2_withoutLowest 1 (some .int)] ++ wsX00 ++ wsX10)
def wsX2_stepAtUnit_r1 : List Cond := [Cond.methodLink RX2 135 yX2_appendAt, Cond.static yX2_appendAt, Cond.initialized RX2, Cond.code yX2_appendAt cX2_appendAt 3 (some .int), Cond.instanceMethod yX1_contentAt, Cond.initialized RX1, Cond.selects RX1 yX1_contentAt yX1_contentAt, Cond.code yX1_contentAt cX1_contentAt 2 (some .int), Cond.fieldLink RX1 19 "SharedLog$Unit" "cells" "[I", Cond.static yX2_isPosition, Cond.code yX2_isPosition cX2_isPosition 1 (some .boolean), Cond.instanceMethod yX0_isAtHead, Cond.initialized RX0, Cond.selects RX0 yX0_isAtHead yX0_isAtHead, Cond.code yX0_isAtHead cX0_isAtHead 1 (some .boolean), Cond.fieldLink RX0 27 "SharedLog$Client" "route" "I", Cond.fieldLink RX0 30 "SharedLog$Client" "position" "I", Cond.methodLink RX0 48 yX0_chainOf, Cond.instanceMethod yX0_chainOf, Cond.selects RX0 yX0_chainOf yX0_chainOf, Cond.code yX0_chainOf cX0_chainOf 2 (some .int), Cond.fieldLink RX0 15 "SharedLog$Client" "members" "I", Cond.instanceMethod yX1_writeOnce, Cond.selects RX1 yX1_writeOnce yX1_writeOnce]
def wsX2_stepAtUnit_r2 : List Cond := [Cond.code yX1_writeOnce cX1_writeOnce 3 none, Cond.instanceMethod yX0_goAlongChain, Cond.selects RX0 yX0_goAlongChain yX0_goAlongChain, Cond.code yX0_goAlongChain cX0_goAlongChain 2 (some .int), Cond.static yX2_withoutLowest, Cond.code yX2_withoutLowest cX2_withoutLowest 1 (some .int), Cond.methodLink RX0 58 yX0_end, Cond.instanceMethod yX0_end, Cond.selects RX0 yX0_end yX0_end, Cond.code yX0_end cX0_end 3 (some .int), Cond.fieldLink RX0 18 "SharedLog$Client" "kind" "I", Cond.fieldLink RX0 21 "SharedLog$Client" "outcome" "I", Cond.fieldLink RX0 24 "SharedLog$Client" "number" "I", Cond.methodLink RX2 138 yX2_fillAt, Cond.static yX2_fillAt, Cond.code yX2_fillAt cX2_fillAt 2 (some .int), Cond.methodLink RX2 141 yX2_readAt, Cond.static yX2_readAt, Cond.code yX2_readAt cX2_readAt 3 (some .int), Cond.methodLink RX2 144 yX2_replayAt, Cond.static yX2_replayAt, Cond.code yX2_replayAt cX2_replayAt 3 (some .int), Cond.instanceMethod yX0_replayRoute, Cond.selects RX0 yX0_replayRoute yX0_replayRoute]
def wsX2_stepAtUnit_r3 : List Cond := [Cond.code yX0_replayRoute cX0_replayRoute 1 (some .int), Cond.fieldLink RX0 36 "SharedLog$Client" "upto" "I", Cond.static yX2_highestOf, Cond.code yX2_highestOf cX2_highestOf 2 (some .int), Cond.methodLink RX2 147 yX2_sealAt, Cond.static yX2_sealAt, Cond.code yX2_sealAt cX2_sealAt 2 (some .int), Cond.methodLink RX2 164 Lib.Math.max.name, Cond.static Lib.Math.max.name, Cond.initialized "java/lang/Math", Cond.code Lib.Math.max.name Lib.Math.max.code 2 (some .int), Cond.instanceMethod yX1_endOfWritten, Cond.selects RX1 yX1_endOfWritten yX1_endOfWritten, Cond.code yX1_endOfWritten cX1_endOfWritten 2 (some .int), Cond.methodLink RX2 169 yX2_withoutLowest]
def wsX2_stepAtUnit : List Cond := .code yX2_stepAtUnit cX2_stepAtUnit 2 (some .int) :: ((wsX2_stepAtUnit_r1 ++ (wsX2_stepAtUnit_r2 ++ wsX2_stepAtUnit_r3)) ++ wsX00 ++ wsX10)
def wsX2_step_r1 : List Cond := [Cond.methodLink RX2 36 yX2_clientAt, Cond.instanceMethod yX2_clientAt, Cond.selects RX2 yX2_clientAt yX2_clientAt, Cond.initialized RX2, Cond.code yX2_clientAt cX2_clientAt 2 (some (.object "SharedLog$Client")), Cond.fieldLink RX2 17 "SharedLog" "clients" "[LSharedLog$Client;", Cond.methodLink RX2 87 yX2_lowestUnit, Cond.static yX2_lowestUnit, Cond.code yX2_lowestUnit cX2_lowestUnit 2 (some .int), Cond.methodLink RX2 90 yX2_unitAt, Cond.instanceMethod yX2_unitAt, Cond.selects RX2 yX2_unitAt yX2_unitAt, Cond.code yX2_unitAt cX2_unitAt 2 (some (.object "SharedLog$Unit")), Cond.fieldLink RX2 11 "SharedLog" "units" "[LSharedLog$Unit;", Cond.methodLink RX2 94 yX2_stepWithoutUnit, Cond.instanceMethod yX2_stepWithoutUnit, Cond.selects RX2 yX2_stepWithoutUnit yX2_stepWithoutUnit, Cond.code yX2_stepWithoutUnit cX2_stepWithoutUnit 2 (some .int), Cond.methodLink RX2 129 yX2_askSequencer, Cond.instanceMethod yX2_askSequencer, Cond.selects RX2 yX2_askSequencer yX2_askSequencer, Cond.code yX2_askSequencer cX2_askSequencer 2 (some .int), Cond.fieldLink RX2 28 "SharedLog" "sequencerEpoch" "I", Cond.fieldLink RX2 31 "SharedLog" "nextPosition" "I"]
def wsX2_step_r2 : List Cond := [Cond.instanceMethod yX0_end, Cond.initialized RX0, Cond.selects RX0 yX0_end yX0_end, Cond.code yX0_end cX0_end 3 (some .int), Cond.fieldLink RX0 18 "SharedLog$Client" "kind" "I", Cond.fieldLink RX0 21 "SharedLog$Client" "outcome" "I", Cond.fieldLink RX0 24 "SharedLog$Client" "number" "I", Cond.instanceMethod yX0_chainOf, Cond.selects RX0 yX0_chainOf yX0_chainOf, Cond.code yX0_chainOf cX0_chainOf 2 (some .int), Cond.fieldLink RX0 15 "SharedLog$Client" "members" "I", Cond.methodLink RX2 132 yX2_askStore, Cond.instanceMethod yX2_askStore, Cond.selects RX2 yX2_askStore yX2_askStore, Cond.code yX2_askStore cX2_askStore 2 (some .int), Cond.fieldLink RX2 21 "SharedLog" "storeEpoch" "I", Cond.fieldLink RX2 25 "SharedLog" "storeMembers" "I", Cond.methodLink RX2 115 yX2_takeStoreProjection, Cond.instanceMethod yX2_takeStoreProjection, Cond.selects RX2 yX2_takeStoreProjection yX2_takeStoreProjection, Cond.code yX2_takeStoreProjection cX2_takeStoreProjection 2 none, Cond.instanceMethod yX0_newestEpochItBears, Cond.selects RX0 yX0_newestEpochItBears yX0_newestEpochItBears, Cond.code yX0_newestEpochItBears cX0_newestEpochItBears 1 (some .int)]
def wsX2_step_r3 : List Cond := [Cond.fieldLink RX0 9 "SharedLog$Client" "epoch" "I", Cond.methodLink RX2 111 yX2_stepAtUnit, Cond.static yX2_stepAtUnit, Cond.code yX2_stepAtUnit cX2_stepAtUnit 2 (some .int), Cond.methodLink RX2 135 yX2_appendAt, Cond.static yX2_appendAt, Cond.code yX2_appendAt cX2_appendAt 3 (some .int), Cond.instanceMethod yX1_contentAt, Cond.initialized RX1, Cond.selects RX1 yX1_contentAt yX1_contentAt, Cond.code yX1_contentAt cX1_contentAt 2 (some .int), Cond.fieldLink RX1 19 "SharedLog$Unit" "cells" "[I", Cond.static yX2_isPosition, Cond.code yX2_isPosition cX2_isPosition 1 (some .boolean), Cond.instanceMethod yX0_isAtHead, Cond.selects RX0 yX0_isAtHead yX0_isAtHead, Cond.code yX0_isAtHead cX0_isAtHead 1 (some .boolean), Cond.fieldLink RX0 27 "SharedLog$Client" "route" "I", Cond.fieldLink RX0 30 "SharedLog$Client" "position" "I", Cond.methodLink RX0 48 yX0_chainOf, Cond.instanceMethod yX1_writeOnce, Cond.selects RX1 yX1_writeOnce yX1_writeOnce, Cond.code yX1_writeOnce cX1_writeOnce 3 none, Cond.instanceMethod yX0_goAlongChain]
def wsX2_step_r4 : List Cond := [Cond.selects RX0 yX0_goAlongChain yX0_goAlongChain, Cond.code yX0_goAlongChain cX0_goAlongChain 2 (some .int), Cond.static yX2_withoutLowest, Cond.code yX2_withoutLowest cX2_withoutLowest 1 (some .int), Cond.methodLink RX0 58 yX0_end, Cond.methodLink RX2 138 yX2_fillAt, Cond.static yX2_fillAt, Cond.code yX2_fillAt cX2_fillAt 2 (some .int), Cond.methodLink RX2 141 yX2_readAt, Cond.static yX2_readAt, Cond.code yX2_readAt cX2_readAt 3 (some .int), Cond.methodLink RX2 144 yX2_replayAt, Cond.static yX2_replayAt, Cond.code yX2_replayAt cX2_replayAt 3 (some .int), Cond.instanceMethod yX0_replayRoute, Cond.selects RX0 yX0_replayRoute yX0_replayRoute, Cond.code yX0_replayRoute cX0_replayRoute 1 (some .int), Cond.fieldLink RX0 36 "SharedLog$Client" "upto" "I", Cond.static yX2_highestOf, Cond.code yX2_highestOf cX2_highestOf 2 (some .int), Cond.methodLink RX2 147 yX2_sealAt, Cond.static yX2_sealAt, Cond.code yX2_sealAt cX2_sealAt 2 (some .int), Cond.methodLink RX2 164 Lib.Math.max.name]
def wsX2_step_r5 : List Cond := [Cond.static Lib.Math.max.name, Cond.initialized "java/lang/Math", Cond.code Lib.Math.max.name Lib.Math.max.code 2 (some .int), Cond.instanceMethod yX1_endOfWritten, Cond.selects RX1 yX1_endOfWritten yX1_endOfWritten, Cond.code yX1_endOfWritten cX1_endOfWritten 2 (some .int), Cond.methodLink RX2 169 yX2_withoutLowest]
def wsX2_step : List Cond := .code yX2_step cX2_step 4 (some .int) :: ((wsX2_step_r1 ++ (wsX2_step_r2 ++ (wsX2_step_r3 ++ (wsX2_step_r4 ++ wsX2_step_r5)))) ++ wsX00 ++ wsX10 ++ wsX20)
def wsX2_refresh : List Cond := .code yX2_refresh cX2_refresh 3 (some .int) :: ([.methodLink RX2 36 yX2_clientAt, .instanceMethod yX2_clientAt, .selects RX2 yX2_clientAt yX2_clientAt, .initialized RX2, .code yX2_clientAt cX2_clientAt 2 (some (.object "SharedLog$Client")), .fieldLink RX2 17 "SharedLog" "clients" "[LSharedLog$Client;", .methodLink RX2 115 yX2_takeStoreProjection, .instanceMethod yX2_takeStoreProjection, .selects RX2 yX2_takeStoreProjection yX2_takeStoreProjection, .code yX2_takeStoreProjection cX2_takeStoreProjection 2 none, .fieldLink RX2 21 "SharedLog" "storeEpoch" "I", .fieldLink RX2 25 "SharedLog" "storeMembers" "I"] ++ wsX00 ++ wsX20)
def wsX2_setUp : List Cond := .code yX2_setUp cX2_setUp 4 (some .boolean) :: ([.methodLink RX2 90 yX2_unitAt, .instanceMethod yX2_unitAt, .selects RX2 yX2_unitAt yX2_unitAt, .initialized RX2, .code yX2_unitAt cX2_unitAt 2 (some (.object "SharedLog$Unit")), .fieldLink RX2 11 "SharedLog" "units" "[LSharedLog$Unit;"] ++ wsX10 ++ wsX20)
def wsX2_loseSequencer : List Cond := .code yX2_loseSequencer cX2_loseSequencer 1 none :: ([.fieldLink RX2 31 "SharedLog" "nextPosition" "I"] ++ wsX20)
def wsX2_busy : List Cond := .code yX2_busy cX2_busy 3 (some .int) :: ([.methodLink RX2 36 yX2_clientAt, .instanceMethod yX2_clientAt, .selects RX2 yX2_clientAt yX2_clientAt, .initialized RX2, .code yX2_clientAt cX2_clientAt 2 (some (.object "SharedLog$Client")), .fieldLink RX2 17 "SharedLog" "clients" "[LSharedLog$Client;"] ++ wsX00 ++ wsX20)
def wsX2_outcome : List Cond := .code yX2_outcome cX2_outcome 3 (some .int) :: ([.methodLink RX2 36 yX2_clientAt, .instanceMethod yX2_clientAt, .selects RX2 yX2_clientAt yX2_clientAt, .initialized RX2, .code yX2_clientAt cX2_clientAt 2 (some (.object "SharedLog$Client")), .fieldLink RX2 17 "SharedLog" "clients" "[LSharedLog$Client;"] ++ wsX00 ++ wsX20)
def wsX2_number : List Cond := .code yX2_number cX2_number 3 (some .int) :: ([.methodLink RX2 36 yX2_clientAt, .instanceMethod yX2_clientAt, .selects RX2 yX2_clientAt yX2_clientAt, .initialized RX2, .code yX2_clientAt cX2_clientAt 2 (some (.object "SharedLog$Client")), .fieldLink RX2 17 "SharedLog" "clients" "[LSharedLog$Client;"] ++ wsX00 ++ wsX20)
def wsX2_epochOf : List Cond := .code yX2_epochOf cX2_epochOf 3 (some .int) :: ([.methodLink RX2 36 yX2_clientAt, .instanceMethod yX2_clientAt, .selects RX2 yX2_clientAt yX2_clientAt, .initialized RX2, .code yX2_clientAt cX2_clientAt 2 (some (.object "SharedLog$Client")), .fieldLink RX2 17 "SharedLog" "clients" "[LSharedLog$Client;"] ++ wsX00 ++ wsX20)
def wsX2_membersOf : List Cond := .code yX2_membersOf cX2_membersOf 3 (some .int) :: ([.methodLink RX2 36 yX2_clientAt, .instanceMethod yX2_clientAt, .selects RX2 yX2_clientAt yX2_clientAt, .initialized RX2, .code yX2_clientAt cX2_clientAt 2 (some (.object "SharedLog$Client")), .fieldLink RX2 17 "SharedLog" "clients" "[LSharedLog$Client;"] ++ wsX00 ++ wsX20)
def wsX2_tail : List Cond := .code yX2_tail cX2_tail 1 (some .int) :: ([.fieldLink RX2 31 "SharedLog" "nextPosition" "I"] ++ wsX20)
def wsX2_unitEpoch : List Cond := .code yX2_unitEpoch cX2_unitEpoch 3 (some .int) :: ([.methodLink RX2 90 yX2_unitAt, .instanceMethod yX2_unitAt, .selects RX2 yX2_unitAt yX2_unitAt, .initialized RX2, .code yX2_unitAt cX2_unitAt 2 (some (.object "SharedLog$Unit")), .fieldLink RX2 11 "SharedLog" "units" "[LSharedLog$Unit;"] ++ wsX10 ++ wsX20)
def wsX2_cell : List Cond := .code yX2_cell cX2_cell 4 (some .int) :: ([.methodLink RX2 90 yX2_unitAt, .instanceMethod yX2_unitAt, .selects RX2 yX2_unitAt yX2_unitAt, .initialized RX2, .code yX2_unitAt cX2_unitAt 2 (some (.object "SharedLog$Unit")), .fieldLink RX2 11 "SharedLog" "units" "[LSharedLog$Unit;", .instanceMethod yX1_contentAt, .initialized RX1, .selects RX1 yX1_contentAt yX1_contentAt, .code yX1_contentAt cX1_contentAt 2 (some .int), .fieldLink RX1 19 "SharedLog$Unit" "cells" "[I", .static yX2_isPosition, .code yX2_isPosition cX2_isPosition 1 (some .boolean)] ++ wsX20 ++ wsX10)
def wsX3_init : List Cond := .code yX3_init cX3_init 2 none :: ([.methodLink RX3 1 objectInit, .instanceMethod objectInit, .code objectInit ⟨#[0xb1]⟩ 1 none, .arrayClass .int, .fieldLink RX3 7 "SharedLogModel" "rowUnit" "[I", .fieldLink RX3 13 "SharedLogModel" "rowPos" "[I", .fieldLink RX3 16 "SharedLogModel" "rowVal" "[I", .fieldLink RX3 19 "SharedLogModel" "unitEpoch" "[I", .fieldLink RX3 22 "SharedLogModel" "down" "[I", .fieldLink RX3 25 "SharedLogModel" "kind" "[I", .fieldLink RX3 28 "SharedLogModel" "epoch" "[I", .fieldLink RX3 31 "SharedLogModel" "members" "[I", .fieldLink RX3 34 "SharedLogModel" "outcome" "[I", .fieldLink RX3 37 "SharedLogModel" "number" "[I", .fieldLink RX3 40 "SharedLogModel" "pos" "[I", .fieldLink RX3 43 "SharedLogModel" "val" "[I", .fieldLink RX3 46 "SharedLogModel" "at" "[I", .fieldLink RX3 49 "SharedLogModel" "want" "[I", .fieldLink RX3 52 "SharedLogModel" "storeMembers" "I"] ++ wsX30)
def wsX3_look : List Cond := .code yX3_look cX3_look 4 (some .int) :: ([.fieldLink RX3 56 "SharedLogModel" "rows" "I", .fieldLink RX3 7 "SharedLogModel" "rowUnit" "[I", .fieldLink RX3 13 "SharedLogModel" "rowPos" "[I", .fieldLink RX3 16 "SharedLogModel" "rowVal" "[I"] ++ wsX30)
def wsX3_put : List Cond := .code yX3_put cX3_put 4 none :: ([.fieldLink RX3 7 "SharedLogModel" "rowUnit" "[I", .fieldLink RX3 56 "SharedLogModel" "rows" "I", .fieldLink RX3 13 "SharedLogModel" "rowPos" "[I", .fieldLink RX3 16 "SharedLogModel" "rowVal" "[I"] ++ wsX30)
def wsX3_nth : List Cond := .code yX3_nth cX3_nth 5 (some .int) :: ([])
def wsX3_length : List Cond := .code yX3_length cX3_length 4 (some .int) :: ([])
def wsX3_begin : List Cond := .code yX3_begin cX3_begin 4 (some .int) :: ([.fieldLink RX3 25 "SharedLogModel" "kind" "[I", .fieldLink RX3 34 "SharedLogModel" "outcome" "[I", .fieldLink RX3 37 "SharedLogModel" "number" "[I", .fieldLink RX3 46 "SharedLogModel" "at" "[I", .fieldLink RX3 43 "SharedLogModel" "val" "[I", .fieldLink RX3 40 "SharedLogModel" "pos" "[I"] ++ wsX30)
def wsX3_append : List Cond := .code yX3_append cX3_append 4 (some .int) :: ([.constant RX3 59 (1073741823), .fieldLink RX3 43 "SharedLogModel" "val" "[I", .fieldLink RX3 40 "SharedLogModel" "pos" "[I", .methodLink RX3 60 yX3_begin, .instanceMethod yX3_begin, .selects RX3 yX3_begin yX3_begin, .initialized RX3, .code yX3_begin cX3_begin 4 (some .int), .fieldLink RX3 25 "SharedLogModel" "kind" "[I", .fieldLink RX3 34 "SharedLogModel" "outcome" "[I", .fieldLink RX3 37 "SharedLogModel" "number" "[I", .fieldLink RX3 46 "SharedLogModel" "at" "[I"] ++ wsX30)
def wsX3_fill : List Cond := .code yX3_fill cX3_fill 4 (some .int) :: ([.fieldLink RX3 40 "SharedLogModel" "pos" "[I", .methodLink RX3 60 yX3_begin, .instanceMethod yX3_begin, .selects RX3 yX3_begin yX3_begin, .initialized RX3, .code yX3_begin cX3_begin 4 (some .int), .fieldLink RX3 25 "SharedLogModel" "kind" "[I", .fieldLink RX3 34 "SharedLogModel" "outcome" "[I", .fieldLink RX3 37 "SharedLogModel" "number" "[I", .fieldLink RX3 46 "SharedLogModel" "at" "[I", .fieldLink RX3 43 "SharedLogModel" "val" "[I"] ++ wsX30)
def wsX3_read : List Cond := .code yX3_read cX3_read 4 (some .int) :: ([.fieldLink RX3 40 "SharedLogModel" "pos" "[I", .methodLink RX3 60 yX3_begin, .instanceMethod yX3_begin, .selects RX3 yX3_begin yX3_begin, .initialized RX3, .code yX3_begin cX3_begin 4 (some .int), .fieldLink RX3 25 "SharedLogModel" "kind" "[I", .fieldLink RX3 34 "SharedLogModel" "outcome" "[I", .fieldLink RX3 37 "SharedLogModel" "number" "[I", .fieldLink RX3 46 "SharedLogModel" "at" "[I", .fieldLink RX3 43 "SharedLogModel" "val" "[I"] ++ wsX30)
def wsX3_replay : List Cond := .code yX3_replay cX3_replay 4 (some .int) :: ([.fieldLink RX3 49 "SharedLogModel" "want" "[I", .methodLink RX3 60 yX3_begin, .instanceMethod yX3_begin, .selects RX3 yX3_begin yX3_begin, .initialized RX3, .code yX3_begin cX3_begin 4 (some .int), .fieldLink RX3 25 "SharedLogModel" "kind" "[I", .fieldLink RX3 34 "SharedLogModel" "outcome" "[I", .fieldLink RX3 37 "SharedLogModel" "number" "[I", .fieldLink RX3 46 "SharedLogModel" "at" "[I", .fieldLink RX3 43 "SharedLogModel" "val" "[I", .fieldLink RX3 40 "SharedLogModel" "pos" "[I"] ++ wsX30)
def wsX3_reform : List Cond := .code yX3_reform cX3_reform 5 (some .int) :: ([.fieldLink RX3 25 "SharedLogModel" "kind" "[I", .fieldLink RX3 31 "SharedLogModel" "members" "[I", .fieldLink RX3 49 "SharedLogModel" "want" "[I", .methodLink RX3 64 yX3_length, .static yX3_length, .initialized RX3, .code yX3_length cX3_length 4 (some .int), .methodLink RX3 60 yX3_begin, .instanceMethod yX3_begin, .selects RX3 yX3_begin yX3_begin, .code yX3_begin cX3_begin 4 (some .int), .fieldLink RX3 34 "SharedLogModel" "outcome" "[I", .fieldLink RX3 37 "SharedLogModel" "number" "[I", .fieldLink RX3 46 "SharedLogModel" "at" "[I", .fieldLink RX3 43 "SharedLogModel" "val" "[I", .fieldLink RX3 40 "SharedLogModel" "pos" "[I"] ++ wsX30)
def wsX3_end : List Cond := .code yX3_end cX3_end 4 (some .int) :: ([.fieldLink RX3 25 "SharedLogModel" "kind" "[I", .fieldLink RX3 34 "SharedLogModel" "outcome" "[I", .fieldLink RX3 37 "SharedLogModel" "number" "[I"] ++ wsX30)
def wsX3_alongChain_r1 : List Cond := [Cond.fieldLink RX3 31 "SharedLogModel" "members" "[I", Cond.fieldLink RX3 40 "SharedLogModel" "pos" "[I", Cond.fieldLink RX3 46 "SharedLogModel" "at" "[I", Cond.fieldLink RX3 22 "SharedLogModel" "down" "[I", Cond.fieldLink RX3 19 "SharedLogModel" "unitEpoch" "[I", Cond.fieldLink RX3 28 "SharedLogModel" "epoch" "[I", Cond.fieldLink RX3 25 "SharedLogModel" "kind" "[I", Cond.fieldLink RX3 43 "SharedLogModel" "val" "[I", Cond.methodLink RX3 64 yX3_length, Cond.static yX3_length, Cond.initialized RX3, Cond.code yX3_length cX3_length 4 (some .int), Cond.methodLink RX3 68 yX3_nth, Cond.static yX3_nth, Cond.code yX3_nth cX3_nth 5 (some .int), Cond.methodLink RX3 72 yX3_end, Cond.instanceMethod yX3_end, Cond.selects RX3 yX3_end yX3_end, Cond.code yX3_end cX3_end 4 (some .int), Cond.fieldLink RX3 34 "SharedLogModel" "outcome" "[I", Cond.fieldLink RX3 37 "SharedLogModel" "number" "[I", Cond.methodLink RX3 75 yX3_look, Cond.instanceMethod yX3_look, Cond.selects RX3 yX3_look yX3_look]
def wsX3_alongChain_r2 : List Cond := [Cond.code yX3_look cX3_look 4 (some .int), Cond.fieldLink RX3 56 "SharedLogModel" "rows" "I", Cond.fieldLink RX3 7 "SharedLogModel" "rowUnit" "[I", Cond.fieldLink RX3 13 "SharedLogModel" "rowPos" "[I", Cond.fieldLink RX3 16 "SharedLogModel" "rowVal" "[I", Cond.methodLink RX3 78 yX3_put, Cond.instanceMethod yX3_put, Cond.selects RX3 yX3_put yX3_put, Cond.code yX3_put cX3_put 4 none]
def wsX3_alongChain : List Cond := .code yX3_alongChain cX3_alongChain 5 (some .int) :: ((wsX3_alongChain_r1 ++ wsX3_alongChain_r2) ++ wsX30)
def wsX3_atTail_r1 : List Cond := [Cond.fieldLink RX3 25 "SharedLogModel" "kind" "[I", Cond.fieldLink RX3 40 "SharedLogModel" "pos" "[I", Cond.fieldLink RX3 49 "SharedLogModel" "want" "[I", Cond.fieldLink RX3 43 "SharedLogModel" "val" "[I", Cond.fieldLink RX3 31 "SharedLogModel" "members" "[I", Cond.fieldLink RX3 22 "SharedLogModel" "down" "[I", Cond.fieldLink RX3 19 "SharedLogModel" "unitEpoch" "[I", Cond.fieldLink RX3 28 "SharedLogModel" "epoch" "[I", Cond.methodLink RX3 72 yX3_end, Cond.instanceMethod yX3_end, Cond.selects RX3 yX3_end yX3_end, Cond.initialized RX3, Cond.code yX3_end cX3_end 4 (some .int), Cond.fieldLink RX3 34 "SharedLogModel" "outcome" "[I", Cond.fieldLink RX3 37 "SharedLogModel" "number" "[I", Cond.methodLink RX3 64 yX3_length, Cond.static yX3_length, Cond.code yX3_length cX3_length 4 (some .int), Cond.methodLink RX3 68 yX3_nth, Cond.static yX3_nth, Cond.code yX3_nth cX3_nth 5 (some .int), Cond.methodLink RX3 75 yX3_look, Cond.instanceMethod yX3_look, Cond.selects RX3 yX3_look yX3_look]
def wsX3_atTail_r2 : List Cond := [Cond.code yX3_look cX3_look 4 (some .int), Cond.fieldLink RX3 56 "SharedLogModel" "rows" "I", Cond.fieldLink RX3 7 "SharedLogModel" "rowUnit" "[I", Cond.fieldLink RX3 13 "SharedLogModel" "rowPos" "[I", Cond.fieldLink RX3 16 "SharedLogModel" "rowVal" "[I"]
def wsX3_atTail : List Cond := .code yX3_atTail cX3_atTail 5 (some .int) :: ((wsX3_atTail_r1 ++ wsX3_atTail_r2) ++ wsX30)
def wsX3_seal_r1 : List Cond := [Cond.fieldLink RX3 49 "SharedLogModel" "want" "[I", Cond.fieldLink RX3 46 "SharedLogModel" "at" "[I", Cond.fieldLink RX3 22 "SharedLogModel" "down" "[I", Cond.fieldLink RX3 19 "SharedLogModel" "unitEpoch" "[I", Cond.fieldLink RX3 28 "SharedLogModel" "epoch" "[I", Cond.fieldLink RX3 56 "SharedLogModel" "rows" "I", Cond.fieldLink RX3 7 "SharedLogModel" "rowUnit" "[I", Cond.fieldLink RX3 13 "SharedLogModel" "rowPos" "[I", Cond.fieldLink RX3 43 "SharedLogModel" "val" "[I", Cond.fieldLink RX3 82 "SharedLogModel" "storeEpoch" "I", Cond.fieldLink RX3 52 "SharedLogModel" "storeMembers" "I", Cond.fieldLink RX3 85 "SharedLogModel" "seqEpoch" "I", Cond.fieldLink RX3 88 "SharedLogModel" "seqNext" "I", Cond.fieldLink RX3 31 "SharedLogModel" "members" "[I", Cond.methodLink RX3 68 yX3_nth, Cond.static yX3_nth, Cond.initialized RX3, Cond.code yX3_nth cX3_nth 5 (some .int), Cond.methodLink RX3 72 yX3_end, Cond.instanceMethod yX3_end, Cond.selects RX3 yX3_end yX3_end, Cond.code yX3_end cX3_end 4 (some .int), Cond.fieldLink RX3 25 "SharedLogModel" "kind" "[I", Cond.fieldLink RX3 34 "SharedLogModel" "outcome" "[I"]
def wsX3_seal_r2 : List Cond := [Cond.fieldLink RX3 37 "SharedLogModel" "number" "[I"]
def wsX3_seal : List Cond := .code yX3_seal cX3_seal 4 (some .int) :: ((wsX3_seal_r1 ++ wsX3_seal_r2) ++ wsX30)
def wsX3_step_r1 : List Cond := [Cond.fieldLink RX3 25 "SharedLogModel" "kind" "[I", Cond.fieldLink RX3 40 "SharedLogModel" "pos" "[I", Cond.fieldLink RX3 28 "SharedLogModel" "epoch" "[I", Cond.fieldLink RX3 85 "SharedLogModel" "seqEpoch" "I", Cond.fieldLink RX3 88 "SharedLogModel" "seqNext" "I", Cond.fieldLink RX3 46 "SharedLogModel" "at" "[I", Cond.methodLink RX3 91 yX3_seal, Cond.instanceMethod yX3_seal, Cond.selects RX3 yX3_seal yX3_seal, Cond.initialized RX3, Cond.code yX3_seal cX3_seal 4 (some .int), Cond.fieldLink RX3 49 "SharedLogModel" "want" "[I", Cond.fieldLink RX3 22 "SharedLogModel" "down" "[I", Cond.fieldLink RX3 19 "SharedLogModel" "unitEpoch" "[I", Cond.fieldLink RX3 56 "SharedLogModel" "rows" "I", Cond.fieldLink RX3 7 "SharedLogModel" "rowUnit" "[I", Cond.fieldLink RX3 13 "SharedLogModel" "rowPos" "[I", Cond.fieldLink RX3 43 "SharedLogModel" "val" "[I", Cond.fieldLink RX3 82 "SharedLogModel" "storeEpoch" "I", Cond.fieldLink RX3 52 "SharedLogModel" "storeMembers" "I", Cond.fieldLink RX3 31 "SharedLogModel" "members" "[I", Cond.methodLink RX3 68 yX3_nth, Cond.static yX3_nth, Cond.code yX3_nth cX3_nth 5 (some .int)]
def wsX3_step_r2 : List Cond := [Cond.methodLink RX3 72 yX3_end, Cond.instanceMethod yX3_end, Cond.selects RX3 yX3_end yX3_end, Cond.code yX3_end cX3_end 4 (some .int), Cond.fieldLink RX3 34 "SharedLogModel" "outcome" "[I", Cond.fieldLink RX3 37 "SharedLogModel" "number" "[I", Cond.methodLink RX3 95 yX3_atTail, Cond.instanceMethod yX3_atTail, Cond.selects RX3 yX3_atTail yX3_atTail, Cond.code yX3_atTail cX3_atTail 5 (some .int), Cond.methodLink RX3 64 yX3_length, Cond.static yX3_length, Cond.code yX3_length cX3_length 4 (some .int), Cond.methodLink RX3 75 yX3_look, Cond.instanceMethod yX3_look, Cond.selects RX3 yX3_look yX3_look, Cond.code yX3_look cX3_look 4 (some .int), Cond.fieldLink RX3 16 "SharedLogModel" "rowVal" "[I", Cond.methodLink RX3 98 yX3_alongChain, Cond.instanceMethod yX3_alongChain, Cond.selects RX3 yX3_alongChain yX3_alongChain, Cond.code yX3_alongChain cX3_alongChain 5 (some .int), Cond.methodLink RX3 78 yX3_put, Cond.instanceMethod yX3_put]
def wsX3_step_r3 : List Cond := [Cond.selects RX3 yX3_put yX3_put, Cond.code yX3_put cX3_put 4 none]
def wsX3_step : List Cond := .code yX3_step cX3_step 2 (some .int) :: ((wsX3_step_r1 ++ (wsX3_step_r2 ++ wsX3_step_r3)) ++ wsX30)
def wsX3_refresh : List Cond := .code yX3_refresh cX3_refresh 2 (some .int) :: ([.fieldLink RX3 25 "SharedLogModel" "kind" "[I", .fieldLink RX3 28 "SharedLogModel" "epoch" "[I", .fieldLink RX3 82 "SharedLogModel" "storeEpoch" "I", .fieldLink RX3 31 "SharedLogModel" "members" "[I", .fieldLink RX3 52 "SharedLogModel" "storeMembers" "I"] ++ wsX30)
def wsX3_setUp : List Cond := .code yX3_setUp cX3_setUp 3 (some .boolean) :: ([.fieldLink RX3 22 "SharedLogModel" "down" "[I"] ++ wsX30)
def wsX3_loseSequencer : List Cond := .code yX3_loseSequencer cX3_loseSequencer 1 none :: ([.fieldLink RX3 88 "SharedLogModel" "seqNext" "I"] ++ wsX30)
def wsX3_busy : List Cond := .code yX3_busy cX3_busy 2 (some .int) :: ([.fieldLink RX3 25 "SharedLogModel" "kind" "[I"] ++ wsX30)
def wsX3_outcome : List Cond := .code yX3_outcome cX3_outcome 2 (some .int) :: ([.fieldLink RX3 34 "SharedLogModel" "outcome" "[I"] ++ wsX30)
def wsX3_number : List Cond := .code yX3_number cX3_number 2 (some .int) :: ([.fieldLink RX3 37 "SharedLogModel" "number" "[I"] ++ wsX30)
def wsX3_epochOf : List Cond := .code yX3_epochOf cX3_epochOf 2 (some .int) :: ([.fieldLink RX3 28 "SharedLogModel" "epoch" "[I"] ++ wsX30)
def wsX3_membersOf : List Cond := .code yX3_membersOf cX3_membersOf 2 (some .int) :: ([.fieldLink RX3 31 "SharedLogModel" "members" "[I"] ++ wsX30)
def wsX3_tail : List Cond := .code yX3_tail cX3_tail 1 (some .int) :: ([.fieldLink RX3 88 "SharedLogModel" "seqNext" "I"] ++ wsX30)
def wsX3_unitEpoch : List Cond := .code yX3_unitEpoch cX3_unitEpoch 2 (some .int) :: ([.fieldLink RX3 19 "SharedLogModel" "unitEpoch" "[I"] ++ wsX30)
def wsX3_cell : List Cond := .code yX3_cell cX3_cell 3 (some .int) :: ([.methodLink RX3 75 yX3_look, .instanceMethod yX3_look, .selects RX3 yX3_look yX3_look, .initialized RX3, .code yX3_look cX3_look 4 (some .int), .fieldLink RX3 56 "SharedLogModel" "rows" "I", .fieldLink RX3 7 "SharedLogModel" "rowUnit" "[I", .fieldLink RX3 13 "SharedLogModel" "rowPos" "[I", .fieldLink RX3 16 "SharedLogModel" "rowVal" "[I"] ++ wsX30)
def wsJ9_max_7cf53 : List Cond := .code yJ9_max_7cf53 cJ9_max_7cf53 2 (some .int) :: ([])
def wsL_law_r1 : List Cond := [Cond.classLink RL 7 RX2, Cond.instantiable RX2 6, Cond.initialized RX2, Cond.classLink RL 10 RX3, Cond.instantiable RX3 19, Cond.initialized RX3, Cond.methodLink RL 9 yX2_init, Cond.instanceMethod yX2_init, Cond.code yX2_init cX2_init 2 none, Cond.methodLink RX2 1 objectInit, Cond.instanceMethod objectInit, Cond.code objectInit ⟨#[0xb1]⟩ 1 none, Cond.classLink RX2 9 RX1, Cond.fieldLink RX2 11 "SharedLog" "units" "[LSharedLog$Unit;", Cond.classLink RX2 15 RX0, Cond.fieldLink RX2 17 "SharedLog" "clients" "[LSharedLog$Client;", Cond.fieldLink RX2 21 "SharedLog" "storeEpoch" "I", Cond.fieldLink RX2 25 "SharedLog" "storeMembers" "I", Cond.fieldLink RX2 28 "SharedLog" "sequencerEpoch" "I", Cond.fieldLink RX2 31 "SharedLog" "nextPosition" "I", Cond.instantiable RX1 3, Cond.initialized RX1, Cond.instantiable RX0 12, Cond.initialized RX0]
def wsL_law_r2 : List Cond := [Cond.instanceMethod yX1_init, Cond.code yX1_init cX1_init 2 none, Cond.methodLink RX1 3 objectInit, Cond.fieldLink RX1 9 "SharedLog$Unit" "epoch" "I", Cond.fieldLink RX1 15 "SharedLog$Unit" "up" "Z", Cond.arrayClass .int, Cond.fieldLink RX1 19 "SharedLog$Unit" "cells" "[I", Cond.instanceMethod yX0_init, Cond.code yX0_init cX0_init 1 none, Cond.methodLink RX0 3 objectInit, Cond.fieldLink RX0 9 "SharedLog$Client" "epoch" "I", Cond.fieldLink RX0 15 "SharedLog$Client" "members" "I", Cond.fieldLink RX0 18 "SharedLog$Client" "kind" "I", Cond.fieldLink RX0 21 "SharedLog$Client" "outcome" "I", Cond.fieldLink RX0 24 "SharedLog$Client" "number" "I", Cond.fieldLink RX0 27 "SharedLog$Client" "route" "I", Cond.fieldLink RX0 30 "SharedLog$Client" "position" "I", Cond.fieldLink RX0 33 "SharedLog$Client" "content" "I", Cond.fieldLink RX0 36 "SharedLog$Client" "upto" "I", Cond.fieldLink RX0 39 "SharedLog$Client" "sum" "I", Cond.fieldLink RX0 42 "SharedLog$Client" "survivors" "I", Cond.fieldLink RX0 45 "SharedLog$Client" "greatestEnd" "I", Cond.methodLink RL 12 yX3_init, Cond.instanceMethod yX3_init]
def wsL_law_r3 : List Cond := [Cond.code yX3_init cX3_init 2 none, Cond.methodLink RX3 1 objectInit, Cond.fieldLink RX3 7 "SharedLogModel" "rowUnit" "[I", Cond.fieldLink RX3 13 "SharedLogModel" "rowPos" "[I", Cond.fieldLink RX3 16 "SharedLogModel" "rowVal" "[I", Cond.fieldLink RX3 19 "SharedLogModel" "unitEpoch" "[I", Cond.fieldLink RX3 22 "SharedLogModel" "down" "[I", Cond.fieldLink RX3 25 "SharedLogModel" "kind" "[I", Cond.fieldLink RX3 28 "SharedLogModel" "epoch" "[I", Cond.fieldLink RX3 31 "SharedLogModel" "members" "[I", Cond.fieldLink RX3 34 "SharedLogModel" "outcome" "[I", Cond.fieldLink RX3 37 "SharedLogModel" "number" "[I", Cond.fieldLink RX3 40 "SharedLogModel" "pos" "[I", Cond.fieldLink RX3 43 "SharedLogModel" "val" "[I", Cond.fieldLink RX3 46 "SharedLogModel" "at" "[I", Cond.fieldLink RX3 49 "SharedLogModel" "want" "[I", Cond.fieldLink RX3 52 "SharedLogModel" "storeMembers" "I", Cond.methodLink RL 13 yX2_append, Cond.instanceMethod yX2_append, Cond.selects RX2 yX2_append yX2_append, Cond.code yX2_append cX2_append 4 (some .int), Cond.constant RX2 43 (1073741823), Cond.methodLink RX2 36 yX2_clientAt, Cond.instanceMethod yX2_clientAt]
def wsL_law_r4 : List Cond := [Cond.selects RX2 yX2_clientAt yX2_clientAt, Cond.code yX2_clientAt cX2_clientAt 2 (some (.object "SharedLog$Client")), Cond.instanceMethod yX0_begin, Cond.selects RX0 yX0_begin yX0_begin, Cond.code yX0_begin cX0_begin 3 (some .int), Cond.methodLink RL 17 yX3_append, Cond.instanceMethod yX3_append, Cond.selects RX3 yX3_append yX3_append, Cond.code yX3_append cX3_append 4 (some .int), Cond.constant RX3 59 (1073741823), Cond.methodLink RX3 60 yX3_begin, Cond.instanceMethod yX3_begin, Cond.selects RX3 yX3_begin yX3_begin, Cond.code yX3_begin cX3_begin 4 (some .int), Cond.methodLink RL 18 yX2_fill, Cond.instanceMethod yX2_fill, Cond.selects RX2 yX2_fill yX2_fill, Cond.code yX2_fill cX2_fill 4 (some .int), Cond.methodLink RX2 51 yX2_isPosition, Cond.static yX2_isPosition, Cond.code yX2_isPosition cX2_isPosition 1 (some .boolean), Cond.instanceMethod yX0_chainOf, Cond.selects RX0 yX0_chainOf yX0_chainOf, Cond.code yX0_chainOf cX0_chainOf 2 (some .int)]
def wsL_law_r5 : List Cond := [Cond.methodLink RL 21 yX3_fill, Cond.instanceMethod yX3_fill, Cond.selects RX3 yX3_fill yX3_fill, Cond.code yX3_fill cX3_fill 4 (some .int), Cond.methodLink RL 22 yX2_read, Cond.instanceMethod yX2_read, Cond.selects RX2 yX2_read yX2_read, Cond.code yX2_read cX2_read 4 (some .int), Cond.methodLink RX2 62 yX2_highestOf, Cond.static yX2_highestOf, Cond.code yX2_highestOf cX2_highestOf 2 (some .int), Cond.methodLink RL 25 yX3_read, Cond.instanceMethod yX3_read, Cond.selects RX3 yX3_read yX3_read, Cond.code yX3_read cX3_read 4 (some .int), Cond.methodLink RL 26 yX2_replay, Cond.instanceMethod yX2_replay, Cond.selects RX2 yX2_replay yX2_replay, Cond.code yX2_replay cX2_replay 4 (some .int), Cond.instanceMethod yX0_replayRoute, Cond.selects RX0 yX0_replayRoute yX0_replayRoute, Cond.code yX0_replayRoute cX0_replayRoute 1 (some .int), Cond.methodLink RX0 48 yX0_chainOf, Cond.methodLink RL 29 yX3_replay]
def wsL_law_r6 : List Cond := [Cond.instanceMethod yX3_replay, Cond.selects RX3 yX3_replay yX3_replay, Cond.code yX3_replay cX3_replay 4 (some .int), Cond.methodLink RL 30 yX2_reform, Cond.instanceMethod yX2_reform, Cond.selects RX2 yX2_reform yX2_reform, Cond.code yX2_reform cX2_reform 5 (some .int), Cond.methodLink RL 33 yX3_reform, Cond.instanceMethod yX3_reform, Cond.selects RX3 yX3_reform yX3_reform, Cond.code yX3_reform cX3_reform 5 (some .int), Cond.methodLink RX3 64 yX3_length, Cond.static yX3_length, Cond.code yX3_length cX3_length 4 (some .int), Cond.methodLink RL 34 yX2_step, Cond.instanceMethod yX2_step, Cond.selects RX2 yX2_step yX2_step, Cond.code yX2_step cX2_step 4 (some .int), Cond.methodLink RX2 87 yX2_lowestUnit, Cond.static yX2_lowestUnit, Cond.code yX2_lowestUnit cX2_lowestUnit 2 (some .int), Cond.methodLink RX2 90 yX2_unitAt, Cond.instanceMethod yX2_unitAt, Cond.selects RX2 yX2_unitAt yX2_unitAt]
def wsL_law_r7 : List Cond := [Cond.code yX2_unitAt cX2_unitAt 2 (some (.object "SharedLog$Unit")), Cond.methodLink RX2 94 yX2_stepWithoutUnit, Cond.instanceMethod yX2_stepWithoutUnit, Cond.selects RX2 yX2_stepWithoutUnit yX2_stepWithoutUnit, Cond.code yX2_stepWithoutUnit cX2_stepWithoutUnit 2 (some .int), Cond.methodLink RX2 129 yX2_askSequencer, Cond.instanceMethod yX2_askSequencer, Cond.selects RX2 yX2_askSequencer yX2_askSequencer, Cond.code yX2_askSequencer cX2_askSequencer 2 (some .int), Cond.instanceMethod yX0_end, Cond.selects RX0 yX0_end yX0_end, Cond.code yX0_end cX0_end 3 (some .int), Cond.methodLink RX2 132 yX2_askStore, Cond.instanceMethod yX2_askStore, Cond.selects RX2 yX2_askStore yX2_askStore, Cond.code yX2_askStore cX2_askStore 2 (some .int), Cond.methodLink RX2 115 yX2_takeStoreProjection, Cond.instanceMethod yX2_takeStoreProjection, Cond.selects RX2 yX2_takeStoreProjection yX2_takeStoreProjection, Cond.code yX2_takeStoreProjection cX2_takeStoreProjection 2 none, Cond.instanceMethod yX0_newestEpochItBears, Cond.selects RX0 yX0_newestEpochItBears yX0_newestEpochItBears, Cond.code yX0_newestEpochItBears cX0_newestEpochItBears 1 (some .int), Cond.methodLink RX2 111 yX2_stepAtUnit]
def wsL_law_r8 : List Cond := [Cond.static yX2_stepAtUnit, Cond.code yX2_stepAtUnit cX2_stepAtUnit 2 (some .int), Cond.methodLink RX2 135 yX2_appendAt, Cond.static yX2_appendAt, Cond.code yX2_appendAt cX2_appendAt 3 (some .int), Cond.instanceMethod yX1_contentAt, Cond.selects RX1 yX1_contentAt yX1_contentAt, Cond.code yX1_contentAt cX1_contentAt 2 (some .int), Cond.instanceMethod yX0_isAtHead, Cond.selects RX0 yX0_isAtHead yX0_isAtHead, Cond.code yX0_isAtHead cX0_isAtHead 1 (some .boolean), Cond.instanceMethod yX1_writeOnce, Cond.selects RX1 yX1_writeOnce yX1_writeOnce, Cond.code yX1_writeOnce cX1_writeOnce 3 none, Cond.instanceMethod yX0_goAlongChain, Cond.selects RX0 yX0_goAlongChain yX0_goAlongChain, Cond.code yX0_goAlongChain cX0_goAlongChain 2 (some .int), Cond.static yX2_withoutLowest, Cond.code yX2_withoutLowest cX2_withoutLowest 1 (some .int), Cond.methodLink RX0 58 yX0_end, Cond.methodLink RX2 138 yX2_fillAt, Cond.static yX2_fillAt, Cond.code yX2_fillAt cX2_fillAt 2 (some .int), Cond.methodLink RX2 141 yX2_readAt]
def wsL_law_r9 : List Cond := [Cond.static yX2_readAt, Cond.code yX2_readAt cX2_readAt 3 (some .int), Cond.methodLink RX2 144 yX2_replayAt, Cond.static yX2_replayAt, Cond.code yX2_replayAt cX2_replayAt 3 (some .int), Cond.methodLink RX2 147 yX2_sealAt, Cond.static yX2_sealAt, Cond.code yX2_sealAt cX2_sealAt 2 (some .int), Cond.methodLink RX2 164 Lib.Math.max.name, Cond.static Lib.Math.max.name, Cond.initialized "java/lang/Math", Cond.code Lib.Math.max.name Lib.Math.max.code 2 (some .int), Cond.instanceMethod yX1_endOfWritten, Cond.selects RX1 yX1_endOfWritten yX1_endOfWritten, Cond.code yX1_endOfWritten cX1_endOfWritten 2 (some .int), Cond.methodLink RX2 169 yX2_withoutLowest, Cond.methodLink RL 38 yX3_step, Cond.instanceMethod yX3_step, Cond.selects RX3 yX3_step yX3_step, Cond.code yX3_step cX3_step 2 (some .int), Cond.fieldLink RX3 85 "SharedLogModel" "seqEpoch" "I", Cond.fieldLink RX3 88 "SharedLogModel" "seqNext" "I", Cond.methodLink RX3 91 yX3_seal, Cond.instanceMethod yX3_seal]
def wsL_law_r10 : List Cond := [Cond.selects RX3 yX3_seal yX3_seal, Cond.code yX3_seal cX3_seal 4 (some .int), Cond.fieldLink RX3 56 "SharedLogModel" "rows" "I", Cond.fieldLink RX3 82 "SharedLogModel" "storeEpoch" "I", Cond.methodLink RX3 68 yX3_nth, Cond.static yX3_nth, Cond.code yX3_nth cX3_nth 5 (some .int), Cond.methodLink RX3 72 yX3_end, Cond.instanceMethod yX3_end, Cond.selects RX3 yX3_end yX3_end, Cond.code yX3_end cX3_end 4 (some .int), Cond.methodLink RX3 95 yX3_atTail, Cond.instanceMethod yX3_atTail, Cond.selects RX3 yX3_atTail yX3_atTail, Cond.code yX3_atTail cX3_atTail 5 (some .int), Cond.methodLink RX3 75 yX3_look, Cond.instanceMethod yX3_look, Cond.selects RX3 yX3_look yX3_look, Cond.code yX3_look cX3_look 4 (some .int), Cond.methodLink RX3 98 yX3_alongChain, Cond.instanceMethod yX3_alongChain, Cond.selects RX3 yX3_alongChain yX3_alongChain, Cond.code yX3_alongChain cX3_alongChain 5 (some .int), Cond.methodLink RX3 78 yX3_put]
def wsL_law_r11 : List Cond := [Cond.instanceMethod yX3_put, Cond.selects RX3 yX3_put yX3_put, Cond.code yX3_put cX3_put 4 none, Cond.methodLink RL 39 yX2_refresh, Cond.instanceMethod yX2_refresh, Cond.selects RX2 yX2_refresh yX2_refresh, Cond.code yX2_refresh cX2_refresh 3 (some .int), Cond.methodLink RL 42 yX3_refresh, Cond.instanceMethod yX3_refresh, Cond.selects RX3 yX3_refresh yX3_refresh, Cond.code yX3_refresh cX3_refresh 2 (some .int), Cond.methodLink RL 43 yX2_setUp, Cond.instanceMethod yX2_setUp, Cond.selects RX2 yX2_setUp yX2_setUp, Cond.code yX2_setUp cX2_setUp 4 (some .boolean), Cond.methodLink RL 47 yX3_setUp, Cond.instanceMethod yX3_setUp, Cond.selects RX3 yX3_setUp yX3_setUp, Cond.code yX3_setUp cX3_setUp 3 (some .boolean), Cond.methodLink RL 48 yX2_loseSequencer, Cond.instanceMethod yX2_loseSequencer, Cond.selects RX2 yX2_loseSequencer yX2_loseSequencer, Cond.code yX2_loseSequencer cX2_loseSequencer 1 none, Cond.methodLink RL 51 yX3_loseSequencer]
def wsL_law_r12 : List Cond := [Cond.instanceMethod yX3_loseSequencer, Cond.selects RX3 yX3_loseSequencer yX3_loseSequencer, Cond.code yX3_loseSequencer cX3_loseSequencer 1 none, Cond.methodLink RL 52 yX2_busy, Cond.instanceMethod yX2_busy, Cond.selects RX2 yX2_busy yX2_busy, Cond.code yX2_busy cX2_busy 3 (some .int), Cond.methodLink RL 55 yX3_busy, Cond.instanceMethod yX3_busy, Cond.selects RX3 yX3_busy yX3_busy, Cond.code yX3_busy cX3_busy 2 (some .int), Cond.methodLink RL 56 yX2_outcome, Cond.instanceMethod yX2_outcome, Cond.selects RX2 yX2_outcome yX2_outcome, Cond.code yX2_outcome cX2_outcome 3 (some .int), Cond.methodLink RL 59 yX3_outcome, Cond.instanceMethod yX3_outcome, Cond.selects RX3 yX3_outcome yX3_outcome, Cond.code yX3_outcome cX3_outcome 2 (some .int), Cond.methodLink RL 60 yX2_number, Cond.instanceMethod yX2_number, Cond.selects RX2 yX2_number yX2_number, Cond.code yX2_number cX2_number 3 (some .int), Cond.methodLink RL 63 yX3_number]
def wsL_law_r13 : List Cond := [Cond.instanceMethod yX3_number, Cond.selects RX3 yX3_number yX3_number, Cond.code yX3_number cX3_number 2 (some .int), Cond.methodLink RL 64 yX2_epochOf, Cond.instanceMethod yX2_epochOf, Cond.selects RX2 yX2_epochOf yX2_epochOf, Cond.code yX2_epochOf cX2_epochOf 3 (some .int), Cond.methodLink RL 67 yX3_epochOf, Cond.instanceMethod yX3_epochOf, Cond.selects RX3 yX3_epochOf yX3_epochOf, Cond.code yX3_epochOf cX3_epochOf 2 (some .int), Cond.methodLink RL 68 yX2_membersOf, Cond.instanceMethod yX2_membersOf, Cond.selects RX2 yX2_membersOf yX2_membersOf, Cond.code yX2_membersOf cX2_membersOf 3 (some .int), Cond.methodLink RL 71 yX3_membersOf, Cond.instanceMethod yX3_membersOf, Cond.selects RX3 yX3_membersOf yX3_membersOf, Cond.code yX3_membersOf cX3_membersOf 2 (some .int), Cond.methodLink RL 72 yX2_tail, Cond.instanceMethod yX2_tail, Cond.selects RX2 yX2_tail yX2_tail, Cond.code yX2_tail cX2_tail 1 (some .int), Cond.methodLink RL 76 yX3_tail]
def wsL_law_r14 : List Cond := [Cond.instanceMethod yX3_tail, Cond.selects RX3 yX3_tail yX3_tail, Cond.code yX3_tail cX3_tail 1 (some .int), Cond.methodLink RL 77 yX2_unitEpoch, Cond.instanceMethod yX2_unitEpoch, Cond.selects RX2 yX2_unitEpoch yX2_unitEpoch, Cond.code yX2_unitEpoch cX2_unitEpoch 3 (some .int), Cond.methodLink RL 80 yX3_unitEpoch, Cond.instanceMethod yX3_unitEpoch, Cond.selects RX3 yX3_unitEpoch yX3_unitEpoch, Cond.code yX3_unitEpoch cX3_unitEpoch 2 (some .int), Cond.methodLink RL 81 yX2_cell, Cond.instanceMethod yX2_cell, Cond.selects RX2 yX2_cell yX2_cell, Cond.code yX2_cell cX2_cell 4 (some .int), Cond.methodLink RL 84 yX3_cell, Cond.instanceMethod yX3_cell, Cond.selects RX3 yX3_cell yX3_cell, Cond.code yX3_cell cX3_cell 3 (some .int)]
def wsL_law : List Cond := (wsL_law_r1 ++ (wsL_law_r2 ++ (wsL_law_r3 ++ (wsL_law_r4 ++ (wsL_law_r5 ++ (wsL_law_r6 ++ (wsL_law_r7 ++ (wsL_law_r8 ++ (wsL_law_r9 ++ (wsL_law_r10 ++ (wsL_law_r11 ++ (wsL_law_r12 ++ (wsL_law_r13 ++ wsL_law_r14))))))))))))) ++ wsX20 ++ wsX30 ++ wsX10 ++ wsX00 ++ ([] : List Cond)
theorem wsL_law_by {big ws : List Cond} (ps qs : List Nat) (h1 : ws.filter k2_isCode = ps.filterMap (fun i => big[i]?)) (h2 : ws.filter (fun w => !k2_isCode w) = qs.filterMap (fun i => big[i]?)) : ∀ w ∈ ws, w ∈ big := by
  intro w hw
  by_cases hc : k2_isCode w = true
  · have h : w ∈ ws.filter k2_isCode := List.mem_filter.mpr ⟨hw, hc⟩
    rw [h1] at h
    obtain ⟨i, -, hi⟩ := List.mem_filterMap.mp h
    exact List.mem_of_getElem? hi
  · have h : w ∈ ws.filter (fun w => !k2_isCode w) := List.mem_filter.mpr ⟨hw, by simpa using hc⟩
    rw [h2] at h
    obtain ⟨i, -, hi⟩ := List.mem_filterMap.mp h
    exact List.mem_of_getElem? hi
set_option maxRecDepth 20000 in
theorem wsL_law_in : ∀ w ∈ wsL_law, w ∈ lw_tbl := wsL_law_by [33, 36, 44, 62, 307, 135, 139, 144, 370, 375, 148, 151, 155, 379, 159, 162, 383, 166, 170, 387, 176, 391, 394, 180, 183, 187, 191, 195, 199, 203, 207, 211, 214, 217, 221, 226, 230, 234, 237, 241, 244, 247, 250, 257, 254, 398, 402, 405, 409, 413, 417, 421, 425, 262, 429, 266, 433, 270, 437, 274, 441, 278, 445, 282, 449, 286, 453, 290, 457, 294, 461, 298, 465, 302, 469] [29, 30, 24, 303, 304, 27, 31, 32, 34, 35, 37, 113, 39, 114, 115, 116, 117, 118, 41, 25, 59, 26, 43, 45, 46, 48, 58, 50, 61, 63, 64, 66, 68, 70, 72, 74, 76, 78, 80, 82, 84, 86, 305, 306, 308, 310, 311, 312, 313, 314, 319, 320, 321, 322, 323, 324, 325, 326, 327, 316, 132, 133, 134, 140, 136, 138, 0, 143, 1, 367, 368, 369, 371, 372, 374, 16, 145, 146, 147, 149, 150, 154, 2, 376, 377, 378, 156, 157, 158, 160, 161, 380, 381, 382, 163, 164, 165, 169, 3, 171, 384, 385, 386, 173, 174, 175, 388, 389, 390, 392, 393, 177, 178, 179, 181, 182, 184, 186, 4, 188, 190, 5, 192, 194, 6, 198, 7, 200, 202, 8, 204, 206, 9, 210, 10, 212, 213, 215, 216, 220, 11, 225, 12, 229, 13, 233, 14, 236, 238, 239, 240, 242, 243, 245, 246, 248, 249, 255, 256, 28, 253, 15, 258, 395, 396, 397, 317, 318, 399, 401, 17, 309, 315, 403, 404, 406, 408, 18, 410, 412, 19, 414, 416, 20, 418, 420, 21, 422, 424, 22, 259, 260, 261, 426, 427, 428, 263, 264, 265, 430, 431, 432, 267, 268, 269, 434, 435, 436, 271, 272, 273, 438, 439, 440, 275, 276, 277, 442, 443, 444, 279, 280, 281, 446, 447, 448, 283, 284, 285, 450, 451, 452, 287, 288, 289, 454, 455, 456, 291, 292, 293, 458, 459, 460, 295, 296, 297, 462, 463, 464, 299, 300, 301, 466, 467, 468, 119, 121, 123, 125, 127, 129, 328, 330, 332, 334, 336, 338, 340, 342, 344, 346, 348, 350, 352, 354, 356, 358, 360, 362, 364, 51, 53, 55, 88, 90, 92, 94, 96, 98, 100, 102, 104, 106, 108, 110] (by decide +kernel) (by decide +kernel)
theorem inlX0 : ∀ w ∈ wsX00, w ∈ wsL_law := fun _ h => List.mem_append_left _ (List.mem_append_right _ h)
theorem inX0 : ∀ w ∈ wsX00, w ∈ lw_tbl := fun w h => wsL_law_in w (inlX0 w h)
theorem inlX1 : ∀ w ∈ wsX10, w ∈ wsL_law := fun _ h => List.mem_append_left _ (List.mem_append_left _ (List.mem_append_right _ h))
theorem inX1 : ∀ w ∈ wsX10, w ∈ lw_tbl := fun w h => wsL_law_in w (inlX1 w h)
theorem inlX2 : ∀ w ∈ wsX20, w ∈ wsL_law := fun _ h => List.mem_append_left _ (List.mem_append_left _ (List.mem_append_left _ (List.mem_append_left _ (List.mem_append_right _ h))))
theorem inX2 : ∀ w ∈ wsX20, w ∈ lw_tbl := fun w h => wsL_law_in w (inlX2 w h)
theorem inlX3 : ∀ w ∈ wsX30, w ∈ wsL_law := fun _ h => List.mem_append_left _ (List.mem_append_left _ (List.mem_append_left _ (List.mem_append_right _ h)))
theorem inX3 : ∀ w ∈ wsX30, w ∈ lw_tbl := fun w h => wsL_law_in w (inlX3 w h)
theorem inJ9 : ∀ w ∈ wsJ90, w ∈ lw_tbl := by decide +kernel
theorem dX0_init_0 : decode cX0_init 0 = .ok (.aload_n 0, 1) := by decide +kernel
theorem dX0_init_1 : decode cX0_init 1 = .ok (.invokespecial 3, 3) := by decide +kernel
theorem dX0_init_4 : decode cX0_init 4 = .ok (.aload_n 0, 1) := by decide +kernel
theorem dX0_init_5 : decode cX0_init 5 = .ok (.iconst 0, 1) := by decide +kernel
theorem dX0_init_6 : decode cX0_init 6 = .ok (.putfield 9, 3) := by decide +kernel
theorem dX0_init_9 : decode cX0_init 9 = .ok (.aload_n 0, 1) := by decide +kernel
theorem dX0_init_10 : decode cX0_init 10 = .ok (.bipush 63, 2) := by decide +kernel
theorem dX0_init_12 : decode cX0_init 12 = .ok (.putfield 15, 3) := by decide +kernel
theorem dX0_init_15 : decode cX0_init 15 = .ok (.aload_n 0, 1) := by decide +kernel
theorem dX0_init_16 : decode cX0_init 16 = .ok (.iconst 0, 1) := by decide +kernel
theorem dX0_init_17 : decode cX0_init 17 = .ok (.putfield 18, 3) := by decide +kernel
theorem dX0_init_20 : decode cX0_init 20 = .ok (.aload_n 0, 1) := by decide +kernel
theorem dX0_init_21 : decode cX0_init 21 = .ok (.iconst 0, 1) := by decide +kernel
theorem dX0_init_22 : decode cX0_init 22 = .ok (.putfield 21, 3) := by decide +kernel
theorem dX0_init_25 : decode cX0_init 25 = .ok (.aload_n 0, 1) := by decide +kernel
theorem dX0_init_26 : decode cX0_init 26 = .ok (.iconst 0, 1) := by decide +kernel
theorem dX0_init_27 : decode cX0_init 27 = .ok (.putfield 24, 3) := by decide +kernel
theorem dX0_init_30 : decode cX0_init 30 = .ok (.aload_n 0, 1) := by decide +kernel
theorem dX0_init_31 : decode cX0_init 31 = .ok (.iconst 0, 1) := by decide +kernel
theorem dX0_init_32 : decode cX0_init 32 = .ok (.putfield 27, 3) := by decide +kernel
theorem dX0_init_35 : decode cX0_init 35 = .ok (.aload_n 0, 1) := by decide +kernel
theorem dX0_init_36 : decode cX0_init 36 = .ok (.iconst 0, 1) := by decide +kernel
theorem dX0_init_37 : decode cX0_init 37 = .ok (.putfield 30, 3) := by decide +kernel
theorem dX0_init_40 : decode cX0_init 40 = .ok (.aload_n 0, 1) := by decide +kernel
theorem dX0_init_41 : decode cX0_init 41 = .ok (.bipush (-2), 2) := by decide +kernel
theorem dX0_init_43 : decode cX0_init 43 = .ok (.putfield 33, 3) := by decide +kernel
theorem dX0_init_46 : decode cX0_init 46 = .ok (.aload_n 0, 1) := by decide +kernel
theorem dX0_init_47 : decode cX0_init 47 = .ok (.iconst 0, 1) := by decide +kernel
theorem dX0_init_48 : decode cX0_init 48 = .ok (.putfield 36, 3) := by decide +kernel
theorem dX0_init_51 : decode cX0_init 51 = .ok (.aload_n 0, 1) := by decide +kernel
theorem dX0_init_52 : decode cX0_init 52 = .ok (.iconst 0, 1) := by decide +kernel
theorem dX0_init_53 : decode cX0_init 53 = .ok (.putfield 39, 3) := by decide +kernel
theorem dX0_init_56 : decode cX0_init 56 = .ok (.aload_n 0, 1) := by decide +kernel
theorem dX0_init_57 : decode cX0_init 57 = .ok (.iconst 0, 1) := by decide +kernel
theorem dX0_init_58 : decode cX0_init 58 = .ok (.putfield 42, 3) := by decide +kernel
theorem dX0_init_61 : decode cX0_init 61 = .ok (.aload_n 0, 1) := by decide +kernel
theorem dX0_init_62 : decode cX0_init 62 = .ok (.iconst 0, 1) := by decide +kernel
theorem dX0_init_63 : decode cX0_init 63 = .ok (.putfield 45, 3) := by decide +kernel
theorem dX0_init_66 : decode cX0_init 66 = .ok (.return_, 1) := by decide +kernel
theorem dX0_begin_0 : decode cX0_begin 0 = .ok (.aload_n 0, 1) := by decide +kernel
theorem dX0_begin_1 : decode cX0_begin 1 = .ok (.iload_n 1, 1) := by decide +kernel
theorem dX0_begin_2 : decode cX0_begin 2 = .ok (.putfield 18, 3) := by decide +kernel
theorem dX0_begin_5 : decode cX0_begin 5 = .ok (.aload_n 0, 1) := by decide +kernel
theorem dX0_begin_6 : decode cX0_begin 6 = .ok (.iload_n 2, 1) := by decide +kernel
theorem dX0_begin_7 : decode cX0_begin 7 = .ok (.putfield 27, 3) := by decide +kernel
theorem dX0_begin_10 : decode cX0_begin 10 = .ok (.aload_n 0, 1) := by decide +kernel
theorem dX0_begin_11 : decode cX0_begin 11 = .ok (.iconst 0, 1) := by decide +kernel
theorem dX0_begin_12 : decode cX0_begin 12 = .ok (.putfield 21, 3) := by decide +kernel
theorem dX0_begin_15 : decode cX0_begin 15 = .ok (.aload_n 0, 1) := by decide +kernel
theorem dX0_begin_16 : decode cX0_begin 16 = .ok (.iconst 0, 1) := by decide +kernel
theorem dX0_begin_17 : decode cX0_begin 17 = .ok (.putfield 24, 3) := by decide +kernel
theorem dX0_begin_20 : decode cX0_begin 20 = .ok (.iconst 0, 1) := by decide +kernel
theorem dX0_begin_21 : decode cX0_begin 21 = .ok (.ireturn, 1) := by decide +kernel
theorem dX0_end_0 : decode cX0_end 0 = .ok (.aload_n 0, 1) := by decide +kernel
theorem dX0_end_1 : decode cX0_end 1 = .ok (.iconst 0, 1) := by decide +kernel
theorem dX0_end_2 : decode cX0_end 2 = .ok (.putfield 18, 3) := by decide +kernel
theorem dX0_end_5 : decode cX0_end 5 = .ok (.aload_n 0, 1) := by decide +kernel
theorem dX0_end_6 : decode cX0_end 6 = .ok (.iload_n 1, 1) := by decide +kernel
theorem dX0_end_7 : decode cX0_end 7 = .ok (.putfield 21, 3) := by decide +kernel
theorem dX0_end_10 : decode cX0_end 10 = .ok (.aload_n 0, 1) := by decide +kernel
theorem dX0_end_11 : decode cX0_end 11 = .ok (.iload_n 2, 1) := by decide +kernel
theorem dX0_end_12 : decode cX0_end 12 = .ok (.putfield 24, 3) := by decide +kernel
theorem dX0_end_15 : decode cX0_end 15 = .ok (.iconst 1, 1) := by decide +kernel
theorem dX0_end_16 : decode cX0_end 16 = .ok (.ireturn, 1) := by decide +kernel
theorem dX0_chainOf_0 : decode cX0_chainOf 0 = .ok (.aload_n 0, 1) := by decide +kernel
theorem dX0_chainOf_1 : decode cX0_chainOf 1 = .ok (.getfield 15, 3) := by decide +kernel
theorem dX0_chainOf_4 : decode cX0_chainOf 4 = .ok (.iload_n 1, 1) := by decide +kernel
theorem dX0_chainOf_5 : decode cX0_chainOf 5 = .ok (.iconst 2, 1) := by decide +kernel
theorem dX0_chainOf_6 : decode cX0_chainOf 6 = .ok (.irem, 1) := by decide +kernel
theorem dX0_chainOf_7 : decode cX0_chainOf 7 = .ok (.ifCond .ne 8, 3) := by decide +kernel
theorem dX0_chainOf_10 : decode cX0_chainOf 10 = .ok (.bipush 21, 2) := by decide +kernel
theorem dX0_chainOf_12 : decode cX0_chainOf 12 = .ok (.goto 5, 3) := by decide +kernel
theorem dX0_chainOf_15 : decode cX0_chainOf 15 = .ok (.bipush 42, 2) := by decide +kernel
theorem dX0_chainOf_17 : decode cX0_chainOf 17 = .ok (.iand, 1) := by decide +kernel
theorem dX0_chainOf_18 : decode cX0_chainOf 18 = .ok (.ireturn, 1) := by decide +kernel
set_option maxRecDepth 20000 in
theorem ggX0_isAtHead_X0_chainOf : GoodIn wsX0_isAtHead wsX0_chainOf := goodIn_r _ [7, 8, 9, 10, 11, 12, 13, 14, 15, 16, 17, 18, 19, 20] (by decide +kernel) (by decide +kernel)
set_option maxRecDepth 20000 in
theorem gX0_isAtHead_X0_chainOf : GoodIn wsX0_isAtHead (wsV RX0 48 RX0 yX0_chainOf wsX0_chainOf) := goodIn_app (goodIn_of _ (by decide +kernel)) ggX0_isAtHead_X0_chainOf
theorem dX0_isAtHead_0 : decode cX0_isAtHead 0 = .ok (.aload_n 0, 1) := by decide +kernel
theorem dX0_isAtHead_1 : decode cX0_isAtHead 1 = .ok (.getfield 27, 3) := by decide +kernel
theorem dX0_isAtHead_4 : decode cX0_isAtHead 4 = .ok (.aload_n 0, 1) := by decide +kernel
theorem dX0_isAtHead_5 : decode cX0_isAtHead 5 = .ok (.aload_n 0, 1) := by decide +kernel
theorem dX0_isAtHead_6 : decode cX0_isAtHead 6 = .ok (.getfield 30, 3) := by decide +kernel
theorem dX0_isAtHead_9 : decode cX0_isAtHead 9 = .ok (.invokevirtual 48, 3) := by decide +kernel
theorem dX0_isAtHead_12 : decode cX0_isAtHead 12 = .ok (.if_icmp .ne 7, 3) := by decide +kernel
theorem dX0_isAtHead_15 : decode cX0_isAtHead 15 = .ok (.iconst 1, 1) := by decide +kernel
theorem dX0_isAtHead_16 : decode cX0_isAtHead 16 = .ok (.goto 4, 3) := by decide +kernel
theorem dX0_isAtHead_19 : decode cX0_isAtHead 19 = .ok (.iconst 0, 1) := by decide +kernel
theorem dX0_isAtHead_20 : decode cX0_isAtHead 20 = .ok (.ireturn, 1) := by decide +kernel
set_option maxRecDepth 20000 in
theorem ggX0_replayRoute_X0_chainOf : GoodIn wsX0_replayRoute wsX0_chainOf := goodIn_r _ [7, 8, 12, 13, 14, 15, 16, 17, 18, 19, 20, 21, 22, 23] (by decide +kernel) (by decide +kernel)
set_option maxRecDepth 20000 in
theorem gX0_replayRoute_X0_chainOf : GoodIn wsX0_replayRoute (wsV RX0 48 RX0 yX0_chainOf wsX0_chainOf) := goodIn_app (goodIn_of _ (by decide +kernel)) ggX0_replayRoute_X0_chainOf
set_option maxRecDepth 20000 in
theorem ggX0_replayRoute_X2_highestOf : GoodIn wsX0_replayRoute wsX2_highestOf := goodIn_r _ [11] (by decide +kernel) (by decide +kernel)
set_option maxRecDepth 20000 in
theorem gX0_replayRoute_X2_highestOf_n52 : GoodIn wsX0_replayRoute (wsX2_highestOf) := ggX0_replayRoute_X2_highestOf
theorem dX0_replayRoute_0 : decode cX0_replayRoute 0 = .ok (.aload_n 0, 1) := by decide +kernel
theorem dX0_replayRoute_1 : decode cX0_replayRoute 1 = .ok (.getfield 30, 3) := by decide +kernel
theorem dX0_replayRoute_4 : decode cX0_replayRoute 4 = .ok (.aload_n 0, 1) := by decide +kernel
theorem dX0_replayRoute_5 : decode cX0_replayRoute 5 = .ok (.getfield 36, 3) := by decide +kernel
theorem dX0_replayRoute_8 : decode cX0_replayRoute 8 = .ok (.if_icmp .ne 7, 3) := by decide +kernel
theorem dX0_replayRoute_11 : decode cX0_replayRoute 11 = .ok (.iconst 0, 1) := by decide +kernel
theorem dX0_replayRoute_12 : decode cX0_replayRoute 12 = .ok (.goto 14, 3) := by decide +kernel
theorem dX0_replayRoute_15 : decode cX0_replayRoute 15 = .ok (.aload_n 0, 1) := by decide +kernel
theorem dX0_replayRoute_16 : decode cX0_replayRoute 16 = .ok (.aload_n 0, 1) := by decide +kernel
theorem dX0_replayRoute_17 : decode cX0_replayRoute 17 = .ok (.getfield 30, 3) := by decide +kernel
theorem dX0_replayRoute_20 : decode cX0_replayRoute 20 = .ok (.invokevirtual 48, 3) := by decide +kernel
theorem dX0_replayRoute_23 : decode cX0_replayRoute 23 = .ok (.invokestatic 52, 3) := by decide +kernel
theorem dX0_replayRoute_26 : decode cX0_replayRoute 26 = .ok (.ireturn, 1) := by decide +kernel
theorem dX0_newestEpochItBears_0 : decode cX0_newestEpochItBears 0 = .ok (.aload_n 0, 1) := by decide +kernel
theorem dX0_newestEpochItBears_1 : decode cX0_newestEpochItBears 1 = .ok (.getfield 18, 3) := by decide +kernel
theorem dX0_newestEpochItBears_4 : decode cX0_newestEpochItBears 4 = .ok (.iconst 5, 1) := by decide +kernel
theorem dX0_newestEpochItBears_5 : decode cX0_newestEpochItBears 5 = .ok (.if_icmp .ne 12, 3) := by decide +kernel
theorem dX0_newestEpochItBears_8 : decode cX0_newestEpochItBears 8 = .ok (.aload_n 0, 1) := by decide +kernel
theorem dX0_newestEpochItBears_9 : decode cX0_newestEpochItBears 9 = .ok (.getfield 9, 3) := by decide +kernel
theorem dX0_newestEpochItBears_12 : decode cX0_newestEpochItBears 12 = .ok (.iconst 1, 1) := by decide +kernel
theorem dX0_newestEpochItBears_13 : decode cX0_newestEpochItBears 13 = .ok (.iadd, 1) := by decide +kernel
theorem dX0_newestEpochItBears_14 : decode cX0_newestEpochItBears 14 = .ok (.goto 7, 3) := by decide +kernel
theorem dX0_newestEpochItBears_17 : decode cX0_newestEpochItBears 17 = .ok (.aload_n 0, 1) := by decide +kernel
theorem dX0_newestEpochItBears_18 : decode cX0_newestEpochItBears 18 = .ok (.getfield 9, 3) := by decide +kernel
theorem dX0_newestEpochItBears_21 : decode cX0_newestEpochItBears 21 = .ok (.ireturn, 1) := by decide +kernel
set_option maxRecDepth 20000 in
theorem ggX0_goAlongChain_X2_withoutLowest : GoodIn wsX0_goAlongChain wsX2_withoutLowest := goodIn_r _ [4] (by decide +kernel) (by decide +kernel)
set_option maxRecDepth 20000 in
theorem gX0_goAlongChain_X2_withoutLowest_n55 : GoodIn wsX0_goAlongChain (wsX2_withoutLowest) := ggX0_goAlongChain_X2_withoutLowest
set_option maxRecDepth 20000 in
theorem ggX0_goAlongChain_X0_end : GoodIn wsX0_goAlongChain wsX0_end := goodIn_r _ [9, 10, 11, 12, 13, 14, 15, 16, 17, 18, 19, 20, 21, 22, 23, 24] (by decide +kernel) (by decide +kernel)
set_option maxRecDepth 20000 in
theorem gX0_goAlongChain_X0_end : GoodIn wsX0_goAlongChain (wsV RX0 58 RX0 yX0_end wsX0_end) := goodIn_app (goodIn_of _ (by decide +kernel)) ggX0_goAlongChain_X0_end
theorem dX0_goAlongChain_0 : decode cX0_goAlongChain 0 = .ok (.aload_n 0, 1) := by decide +kernel
theorem dX0_goAlongChain_1 : decode cX0_goAlongChain 1 = .ok (.aload_n 0, 1) := by decide +kernel
theorem dX0_goAlongChain_2 : decode cX0_goAlongChain 2 = .ok (.getfield 27, 3) := by decide +kernel
theorem dX0_goAlongChain_5 : decode cX0_goAlongChain 5 = .ok (.invokestatic 55, 3) := by decide +kernel
theorem dX0_goAlongChain_8 : decode cX0_goAlongChain 8 = .ok (.putfield 27, 3) := by decide +kernel
theorem dX0_goAlongChain_11 : decode cX0_goAlongChain 11 = .ok (.aload_n 0, 1) := by decide +kernel
theorem dX0_goAlongChain_12 : decode cX0_goAlongChain 12 = .ok (.getfield 27, 3) := by decide +kernel
theorem dX0_goAlongChain_15 : decode cX0_goAlongChain 15 = .ok (.ifCond .ne 12, 3) := by decide +kernel
theorem dX0_goAlongChain_18 : decode cX0_goAlongChain 18 = .ok (.aload_n 0, 1) := by decide +kernel
theorem dX0_goAlongChain_19 : decode cX0_goAlongChain 19 = .ok (.iconst 1, 1) := by decide +kernel
theorem dX0_goAlongChain_20 : decode cX0_goAlongChain 20 = .ok (.iload_n 1, 1) := by decide +kernel
theorem dX0_goAlongChain_21 : decode cX0_goAlongChain 21 = .ok (.invokevirtual 58, 3) := by decide +kernel
theorem dX0_goAlongChain_24 : decode cX0_goAlongChain 24 = .ok (.goto 4, 3) := by decide +kernel
theorem dX0_goAlongChain_27 : decode cX0_goAlongChain 27 = .ok (.iconst 0, 1) := by decide +kernel
theorem dX0_goAlongChain_28 : decode cX0_goAlongChain 28 = .ok (.ireturn, 1) := by decide +kernel
theorem dX1_init_0 : decode cX1_init 0 = .ok (.aload_n 0, 1) := by decide +kernel
theorem dX1_init_1 : decode cX1_init 1 = .ok (.invokespecial 3, 3) := by decide +kernel
theorem dX1_init_4 : decode cX1_init 4 = .ok (.aload_n 0, 1) := by decide +kernel
theorem dX1_init_5 : decode cX1_init 5 = .ok (.iconst 0, 1) := by decide +kernel
theorem dX1_init_6 : decode cX1_init 6 = .ok (.putfield 9, 3) := by decide +kernel
theorem dX1_init_9 : decode cX1_init 9 = .ok (.aload_n 0, 1) := by decide +kernel
theorem dX1_init_10 : decode cX1_init 10 = .ok (.iconst 1, 1) := by decide +kernel
theorem dX1_init_11 : decode cX1_init 11 = .ok (.putfield 15, 3) := by decide +kernel
theorem dX1_init_14 : decode cX1_init 14 = .ok (.aload_n 0, 1) := by decide +kernel
theorem dX1_init_15 : decode cX1_init 15 = .ok (.bipush 32, 2) := by decide +kernel
theorem dX1_init_17 : decode cX1_init 17 = .ok (.newarray .int, 2) := by decide +kernel
theorem dX1_init_19 : decode cX1_init 19 = .ok (.putfield 19, 3) := by decide +kernel
theorem dX1_init_22 : decode cX1_init 22 = .ok (.iconst 0, 1) := by decide +kernel
theorem dX1_init_23 : decode cX1_init 23 = .ok (.istore_n 1, 1) := by decide +kernel
theorem dX1_init_24 : decode cX1_init 24 = .ok (.iload_n 1, 1) := by decide +kernel
theorem dX1_init_25 : decode cX1_init 25 = .ok (.bipush 32, 2) := by decide +kernel
theorem dX1_init_27 : decode cX1_init 27 = .ok (.if_icmp .ge 17, 3) := by decide +kernel
theorem dX1_init_30 : decode cX1_init 30 = .ok (.aload_n 0, 1) := by decide +kernel
theorem dX1_init_31 : decode cX1_init 31 = .ok (.getfield 19, 3) := by decide +kernel
theorem dX1_init_34 : decode cX1_init 34 = .ok (.iload_n 1, 1) := by decide +kernel
theorem dX1_init_35 : decode cX1_init 35 = .ok (.bipush (-2), 2) := by decide +kernel
theorem dX1_init_37 : decode cX1_init 37 = .ok (.iastore, 1) := by decide +kernel
theorem dX1_init_38 : decode cX1_init 38 = .ok (.iinc 1 1, 3) := by decide +kernel
theorem dX1_init_41 : decode cX1_init 41 = .ok (.goto (-17), 3) := by decide +kernel
theorem dX1_init_44 : decode cX1_init 44 = .ok (.return_, 1) := by decide +kernel
set_option maxRecDepth 20000 in
theorem ggX1_contentAt_X2_isPosition : GoodIn wsX1_contentAt wsX2_isPosition := goodIn_r _ [4] (by decide +kernel) (by decide +kernel)
set_option maxRecDepth 20000 in
theorem gX1_contentAt_X2_isPosition_n23 : GoodIn wsX1_contentAt (wsX2_isPosition) := ggX1_contentAt_X2_isPosition
theorem dX1_contentAt_0 : decode cX1_contentAt 0 = .ok (.iload_n 1, 1) := by decide +kernel
theorem dX1_contentAt_1 : decode cX1_contentAt 1 = .ok (.invokestatic 23, 3) := by decide +kernel
theorem dX1_contentAt_4 : decode cX1_contentAt 4 = .ok (.ifCond .eq 12, 3) := by decide +kernel
theorem dX1_contentAt_7 : decode cX1_contentAt 7 = .ok (.aload_n 0, 1) := by decide +kernel
theorem dX1_contentAt_8 : decode cX1_contentAt 8 = .ok (.getfield 19, 3) := by decide +kernel
theorem dX1_contentAt_11 : decode cX1_contentAt 11 = .ok (.iload_n 1, 1) := by decide +kernel
theorem dX1_contentAt_12 : decode cX1_contentAt 12 = .ok (.iaload, 1) := by decide +kernel
theorem dX1_contentAt_13 : decode cX1_contentAt 13 = .ok (.goto 5, 3) := by decide +kernel
theorem dX1_contentAt_16 : decode cX1_contentAt 16 = .ok (.bipush (-9), 2) := by decide +kernel
theorem dX1_contentAt_18 : decode cX1_contentAt 18 = .ok (.ireturn, 1) := by decide +kernel
set_option maxRecDepth 20000 in
theorem ggX1_writeOnce_X2_isPosition : GoodIn wsX1_writeOnce wsX2_isPosition := goodIn_r _ [4] (by decide +kernel) (by decide +kernel)
set_option maxRecDepth 20000 in
theorem gX1_writeOnce_X2_isPosition_n23 : GoodIn wsX1_writeOnce (wsX2_isPosition) := ggX1_writeOnce_X2_isPosition
theorem dX1_writeOnce_0 : decode cX1_writeOnce 0 = .ok (.iload_n 1, 1) := by decide +kernel
theorem dX1_writeOnce_1 : decode cX1_writeOnce 1 = .ok (.invokestatic 23, 3) := by decide +kernel
theorem dX1_writeOnce_4 : decode cX1_writeOnce 4 = .ok (.ifCond .eq 21, 3) := by decide +kernel
theorem dX1_writeOnce_7 : decode cX1_writeOnce 7 = .ok (.aload_n 0, 1) := by decide +kernel
theorem dX1_writeOnce_8 : decode cX1_writeOnce 8 = .ok (.getfield 19, 3) := by decide +kernel
theorem dX1_writeOnce_11 : decode cX1_writeOnce 11 = .ok (.iload_n 1, 1) := by decide +kernel
theorem dX1_writeOnce_12 : decode cX1_writeOnce 12 = .ok (.iaload, 1) := by decide +kernel
theorem dX1_writeOnce_13 : decode cX1_writeOnce 13 = .ok (.bipush (-2), 2) := by decide +kernel
theorem dX1_writeOnce_15 : decode cX1_writeOnce 15 = .ok (.if_icmp .ne 10, 3) := by decide +kernel
theorem dX1_writeOnce_18 : decode cX1_writeOnce 18 = .ok (.aload_n 0, 1) := by decide +kernel
theorem dX1_writeOnce_19 : decode cX1_writeOnce 19 = .ok (.getfield 19, 3) := by decide +kernel
theorem dX1_writeOnce_22 : decode cX1_writeOnce 22 = .ok (.iload_n 1, 1) := by decide +kernel
theorem dX1_writeOnce_23 : decode cX1_writeOnce 23 = .ok (.iload_n 2, 1) := by decide +kernel
theorem dX1_writeOnce_24 : decode cX1_writeOnce 24 = .ok (.iastore, 1) := by decide +kernel
theorem dX1_writeOnce_25 : decode cX1_writeOnce 25 = .ok (.return_, 1) := by decide +kernel
theorem dX1_endOfWritten_0 : decode cX1_endOfWritten 0 = .ok (.bipush 31, 2) := by decide +kernel
theorem dX1_endOfWritten_2 : decode cX1_endOfWritten 2 = .ok (.istore_n 1, 1) := by decide +kernel
theorem dX1_endOfWritten_3 : decode cX1_endOfWritten 3 = .ok (.iload_n 1, 1) := by decide +kernel
theorem dX1_endOfWritten_4 : decode cX1_endOfWritten 4 = .ok (.ifCond .lt 24, 3) := by decide +kernel
theorem dX1_endOfWritten_7 : decode cX1_endOfWritten 7 = .ok (.aload_n 0, 1) := by decide +kernel
theorem dX1_endOfWritten_8 : decode cX1_endOfWritten 8 = .ok (.getfield 19, 3) := by decide +kernel
theorem dX1_endOfWritten_11 : decode cX1_endOfWritten 11 = .ok (.iload_n 1, 1) := by decide +kernel
theorem dX1_endOfWritten_12 : decode cX1_endOfWritten 12 = .ok (.iaload, 1) := by decide +kernel
theorem dX1_endOfWritten_13 : decode cX1_endOfWritten 13 = .ok (.bipush (-2), 2) := by decide +kernel
theorem dX1_endOfWritten_15 : decode cX1_endOfWritten 15 = .ok (.if_icmp .eq 7, 3) := by decide +kernel
theorem dX1_endOfWritten_18 : decode cX1_endOfWritten 18 = .ok (.iload_n 1, 1) := by decide +kernel
theorem dX1_endOfWritten_19 : decode cX1_endOfWritten 19 = .ok (.iconst 1, 1) := by decide +kernel
theorem dX1_endOfWritten_20 : decode cX1_endOfWritten 20 = .ok (.iadd, 1) := by decide +kernel
theorem dX1_endOfWritten_21 : decode cX1_endOfWritten 21 = .ok (.ireturn, 1) := by decide +kernel
theorem dX1_endOfWritten_22 : decode cX1_endOfWritten 22 = .ok (.iinc 1 (-1), 3) := by decide +kernel
theorem dX1_endOfWritten_25 : decode cX1_endOfWritten 25 = .ok (.goto (-22), 3) := by decide +kernel
theorem dX1_endOfWritten_28 : decode cX1_endOfWritten 28 = .ok (.iconst 0, 1) := by decide +kernel
theorem dX1_endOfWritten_29 : decode cX1_endOfWritten 29 = .ok (.ireturn, 1) := by decide +kernel
set_option maxRecDepth 20000 in
theorem ggX2_init_X1_init : GoodIn wsX2_init wsX1_init := goodIn_r _ [17, 18, 2, 3, 19, 20, 21, 22, 44, 45, 46] (by decide +kernel) (by decide +kernel)
set_option maxRecDepth 20000 in
theorem gX2_init_X1_init_n34 : GoodIn wsX2_init (wsX1_init) := ggX2_init_X1_init
set_option maxRecDepth 20000 in
theorem ggX2_init_X0_init : GoodIn wsX2_init wsX0_init := goodIn_r _ [24, 25, 2, 3, 26, 27, 28, 29, 30, 31, 32, 33, 34, 35, 36, 37, 47, 48, 49, 50, 51, 52, 53, 54, 55, 56, 57, 58] (by decide +kernel) (by decide +kernel)
set_option maxRecDepth 20000 in
theorem gX2_init_X0_init_n35 : GoodIn wsX2_init (wsX0_init) := ggX2_init_X0_init
theorem dX2_init_0 : decode cX2_init 0 = .ok (.aload_n 0, 1) := by decide +kernel
theorem dX2_init_1 : decode cX2_init 1 = .ok (.invokespecial 1, 3) := by decide +kernel
theorem dX2_init_4 : decode cX2_init 4 = .ok (.aload_n 0, 1) := by decide +kernel
theorem dX2_init_5 : decode cX2_init 5 = .ok (.bipush 6, 2) := by decide +kernel
theorem dX2_init_7 : decode cX2_init 7 = .ok (.anewarray 9, 3) := by decide +kernel
theorem dX2_init_10 : decode cX2_init 10 = .ok (.putfield 11, 3) := by decide +kernel
theorem dX2_init_13 : decode cX2_init 13 = .ok (.aload_n 0, 1) := by decide +kernel
theorem dX2_init_14 : decode cX2_init 14 = .ok (.iconst 3, 1) := by decide +kernel
theorem dX2_init_15 : decode cX2_init 15 = .ok (.anewarray 15, 3) := by decide +kernel
theorem dX2_init_18 : decode cX2_init 18 = .ok (.putfield 17, 3) := by decide +kernel
theorem dX2_init_21 : decode cX2_init 21 = .ok (.aload_n 0, 1) := by decide +kernel
theorem dX2_init_22 : decode cX2_init 22 = .ok (.iconst 0, 1) := by decide +kernel
theorem dX2_init_23 : decode cX2_init 23 = .ok (.putfield 21, 3) := by decide +kernel
theorem dX2_init_26 : decode cX2_init 26 = .ok (.aload_n 0, 1) := by decide +kernel
theorem dX2_init_27 : decode cX2_init 27 = .ok (.bipush 63, 2) := by decide +kernel
theorem dX2_init_29 : decode cX2_init 29 = .ok (.putfield 25, 3) := by decide +kernel
theorem dX2_init_32 : decode cX2_init 32 = .ok (.aload_n 0, 1) := by decide +kernel
theorem dX2_init_33 : decode cX2_init 33 = .ok (.iconst 0, 1) := by decide +kernel
theorem dX2_init_34 : decode cX2_init 34 = .ok (.putfield 28, 3) := by decide +kernel
theorem dX2_init_37 : decode cX2_init 37 = .ok (.aload_n 0, 1) := by decide +kernel
theorem dX2_init_38 : decode cX2_init 38 = .ok (.iconst 0, 1) := by decide +kernel
theorem dX2_init_39 : decode cX2_init 39 = .ok (.putfield 31, 3) := by decide +kernel
theorem dX2_init_42 : decode cX2_init 42 = .ok (.iconst 0, 1) := by decide +kernel
theorem dX2_init_43 : decode cX2_init 43 = .ok (.istore_n 1, 1) := by decide +kernel
theorem dX2_init_44 : decode cX2_init 44 = .ok (.iload_n 1, 1) := by decide +kernel
theorem dX2_init_45 : decode cX2_init 45 = .ok (.bipush 6, 2) := by decide +kernel
theorem dX2_init_47 : decode cX2_init 47 = .ok (.if_icmp .ge 22, 3) := by decide +kernel
theorem dX2_init_50 : decode cX2_init 50 = .ok (.aload_n 0, 1) := by decide +kernel
theorem dX2_init_51 : decode cX2_init 51 = .ok (.getfield 11, 3) := by decide +kernel
theorem dX2_init_54 : decode cX2_init 54 = .ok (.iload_n 1, 1) := by decide +kernel
theorem dX2_init_55 : decode cX2_init 55 = .ok (.new 9, 3) := by decide +kernel
theorem dX2_init_58 : decode cX2_init 58 = .ok (.dup, 1) := by decide +kernel
theorem dX2_init_59 : decode cX2_init 59 = .ok (.invokespecial 34, 3) := by decide +kernel
theorem dX2_init_62 : decode cX2_init 62 = .ok (.aastore, 1) := by decide +kernel
theorem dX2_init_63 : decode cX2_init 63 = .ok (.iinc 1 1, 3) := by decide +kernel
theorem dX2_init_66 : decode cX2_init 66 = .ok (.goto (-22), 3) := by decide +kernel
theorem dX2_init_69 : decode cX2_init 69 = .ok (.iconst 0, 1) := by decide +kernel
theorem dX2_init_70 : decode cX2_init 70 = .ok (.istore_n 1, 1) := by decide +kernel
theorem dX2_init_71 : decode cX2_init 71 = .ok (.iload_n 1, 1) := by decide +kernel
theorem dX2_init_72 : decode cX2_init 72 = .ok (.iconst 3, 1) := by decide +kernel
theorem dX2_init_73 : decode cX2_init 73 = .ok (.if_icmp .ge 22, 3) := by decide +kernel
theorem dX2_init_76 : decode cX2_init 76 = .ok (.aload_n 0, 1) := by decide +kernel
theorem dX2_init_77 : decode cX2_init 77 = .ok (.getfield 17, 3) := by decide +kernel
theorem dX2_init_80 : decode cX2_init 80 = .ok (.iload_n 1, 1) := by decide +kernel
theorem dX2_init_81 : decode cX2_init 81 = .ok (.new 15, 3) := by decide +kernel
theorem dX2_init_84 : decode cX2_init 84 = .ok (.dup, 1) := by decide +kernel
theorem dX2_init_85 : decode cX2_init 85 = .ok (.invokespecial 35, 3) := by decide +kernel
theorem dX2_init_88 : decode cX2_init 88 = .ok (.aastore, 1) := by decide +kernel
theorem dX2_init_89 : decode cX2_init 89 = .ok (.iinc 1 1, 3) := by decide +kernel
theorem dX2_init_92 : decode cX2_init 92 = .ok (.goto (-21), 3) := by decide +kernel
theorem dX2_init_95 : decode cX2_init 95 = .ok (.return_, 1) := by decide +kernel
set_option maxRecDepth 20000 in
theorem ggX2_append_X2_clientAt : GoodIn wsX2_append wsX2_clientAt := goodIn_r _ [6, 7, 28, 29, 30, 31, 32, 33] (by decide +kernel) (by decide +kernel)
set_option maxRecDepth 20000 in
theorem gX2_append_X2_clientAt : GoodIn wsX2_append (wsV RX2 36 RX2 yX2_clientAt wsX2_clientAt) := goodIn_app (goodIn_of _ (by decide +kernel)) ggX2_append_X2_clientAt
set_option maxRecDepth 20000 in
theorem ggX2_append_X0_begin : GoodIn wsX2_append wsX0_begin := goodIn_r _ [11, 12, 13, 14, 15, 16, 17, 18, 19, 20, 21, 22, 23, 24, 25, 26, 27] (by decide +kernel) (by decide +kernel)
set_option maxRecDepth 20000 in
theorem gX2_append_X0_begin_n47 : GoodIn wsX2_append (wsX0_begin) := ggX2_append_X0_begin
theorem dX2_append_0 : decode cX2_append 0 = .ok (.aload_n 0, 1) := by decide +kernel
theorem dX2_append_1 : decode cX2_append 1 = .ok (.iload_n 1, 1) := by decide +kernel
theorem dX2_append_2 : decode cX2_append 2 = .ok (.invokevirtual 36, 3) := by decide +kernel
theorem dX2_append_5 : decode cX2_append 5 = .ok (.astore_n 3, 1) := by decide +kernel
theorem dX2_append_6 : decode cX2_append 6 = .ok (.aload_n 3, 1) := by decide +kernel
theorem dX2_append_7 : decode cX2_append 7 = .ok (.ifnonnull 5, 3) := by decide +kernel
theorem dX2_append_10 : decode cX2_append 10 = .ok (.iconst (-1), 1) := by decide +kernel
theorem dX2_append_11 : decode cX2_append 11 = .ok (.ireturn, 1) := by decide +kernel
theorem dX2_append_12 : decode cX2_append 12 = .ok (.aload_n 3, 1) := by decide +kernel
theorem dX2_append_13 : decode cX2_append 13 = .ok (.getfield 40, 3) := by decide +kernel
theorem dX2_append_16 : decode cX2_append 16 = .ok (.ifCond .eq 6, 3) := by decide +kernel
theorem dX2_append_19 : decode cX2_append 19 = .ok (.bipush (-2), 2) := by decide +kernel
theorem dX2_append_21 : decode cX2_append 21 = .ok (.ireturn, 1) := by decide +kernel
theorem dX2_append_22 : decode cX2_append 22 = .ok (.iload_n 2, 1) := by decide +kernel
theorem dX2_append_23 : decode cX2_append 23 = .ok (.ifCond .lt 9, 3) := by decide +kernel
theorem dX2_append_26 : decode cX2_append 26 = .ok (.iload_n 2, 1) := by decide +kernel
theorem dX2_append_27 : decode cX2_append 27 = .ok (.ldc 43, 2) := by decide +kernel
theorem dX2_append_29 : decode cX2_append 29 = .ok (.if_icmp .le 6, 3) := by decide +kernel
theorem dX2_append_32 : decode cX2_append 32 = .ok (.bipush (-3), 2) := by decide +kernel
theorem dX2_append_34 : decode cX2_append 34 = .ok (.ireturn, 1) := by decide +kernel
theorem dX2_append_35 : decode cX2_append 35 = .ok (.aload_n 3, 1) := by decide +kernel
theorem dX2_append_36 : decode cX2_append 36 = .ok (.iload_n 2, 1) := by decide +kernel
theorem dX2_append_37 : decode cX2_append 37 = .ok (.putfield 44, 3) := by decide +kernel
theorem dX2_append_40 : decode cX2_append 40 = .ok (.aload_n 3, 1) := by decide +kernel
theorem dX2_append_41 : decode cX2_append 41 = .ok (.iconst 1, 1) := by decide +kernel
theorem dX2_append_42 : decode cX2_append 42 = .ok (.iconst 0, 1) := by decide +kernel
theorem dX2_append_43 : decode cX2_append 43 = .ok (.invokevirtual 47, 3) := by decide +kernel
theorem dX2_append_46 : decode cX2_append 46 = .ok (.ireturn, 1) := by decide +kernel
set_option maxRecDepth 20000 in
theorem ggX2_fill_X2_clientAt : GoodIn wsX2_fill wsX2_clientAt := goodIn_r _ [5, 6, 34, 35, 36, 37, 38, 39] (by decide +kernel) (by decide +kernel)
set_option maxRecDepth 20000 in
theorem gX2_fill_X2_clientAt : GoodIn wsX2_fill (wsV RX2 36 RX2 yX2_clientAt wsX2_clientAt) := goodIn_app (goodIn_of _ (by decide +kernel)) ggX2_fill_X2_clientAt
set_option maxRecDepth 20000 in
theorem ggX2_fill_X2_isPosition : GoodIn wsX2_fill wsX2_isPosition := goodIn_r _ [9] (by decide +kernel) (by decide +kernel)
set_option maxRecDepth 20000 in
theorem gX2_fill_X2_isPosition : GoodIn wsX2_fill (va_wsS RX2 51 yX2_isPosition wsX2_isPosition) := goodIn_app (goodIn_of _ (by decide +kernel)) ggX2_fill_X2_isPosition
set_option maxRecDepth 20000 in
theorem ggX2_fill_X0_chainOf : GoodIn wsX2_fill wsX0_chainOf := goodIn_r _ [13, 14, 22, 23, 24, 25, 26, 27, 28, 29, 30, 31, 32, 33] (by decide +kernel) (by decide +kernel)
set_option maxRecDepth 20000 in
theorem gX2_fill_X0_chainOf_n58 : GoodIn wsX2_fill (wsX0_chainOf) := ggX2_fill_X0_chainOf
set_option maxRecDepth 20000 in
theorem ggX2_fill_X0_begin : GoodIn wsX2_fill wsX0_begin := goodIn_r _ [17, 18, 19, 20, 21, 22, 23, 24, 25, 26, 27, 28, 29, 30, 31, 32, 33] (by decide +kernel) (by decide +kernel)
set_option maxRecDepth 20000 in
theorem gX2_fill_X0_begin_n47 : GoodIn wsX2_fill (wsX0_begin) := ggX2_fill_X0_begin
theorem dX2_fill_0 : decode cX2_fill 0 = .ok (.aload_n 0, 1) := by decide +kernel
theorem dX2_fill_1 : decode cX2_fill 1 = .ok (.iload_n 1, 1) := by decide +kernel
theorem dX2_fill_2 : decode cX2_fill 2 = .ok (.invokevirtual 36, 3) := by decide +kernel
theorem dX2_fill_5 : decode cX2_fill 5 = .ok (.astore_n 3, 1) := by decide +kernel
theorem dX2_fill_6 : decode cX2_fill 6 = .ok (.aload_n 3, 1) := by decide +kernel
theorem dX2_fill_7 : decode cX2_fill 7 = .ok (.ifnonnull 5, 3) := by decide +kernel
theorem dX2_fill_10 : decode cX2_fill 10 = .ok (.iconst (-1), 1) := by decide +kernel
theorem dX2_fill_11 : decode cX2_fill 11 = .ok (.ireturn, 1) := by decide +kernel
theorem dX2_fill_12 : decode cX2_fill 12 = .ok (.aload_n 3, 1) := by decide +kernel
theorem dX2_fill_13 : decode cX2_fill 13 = .ok (.getfield 40, 3) := by decide +kernel
theorem dX2_fill_16 : decode cX2_fill 16 = .ok (.ifCond .eq 6, 3) := by decide +kernel
theorem dX2_fill_19 : decode cX2_fill 19 = .ok (.bipush (-2), 2) := by decide +kernel
theorem dX2_fill_21 : decode cX2_fill 21 = .ok (.ireturn, 1) := by decide +kernel
theorem dX2_fill_22 : decode cX2_fill 22 = .ok (.iload_n 2, 1) := by decide +kernel
theorem dX2_fill_23 : decode cX2_fill 23 = .ok (.invokestatic 51, 3) := by decide +kernel
theorem dX2_fill_26 : decode cX2_fill 26 = .ok (.ifCond .ne 6, 3) := by decide +kernel
theorem dX2_fill_29 : decode cX2_fill 29 = .ok (.bipush (-3), 2) := by decide +kernel
theorem dX2_fill_31 : decode cX2_fill 31 = .ok (.ireturn, 1) := by decide +kernel
theorem dX2_fill_32 : decode cX2_fill 32 = .ok (.aload_n 3, 1) := by decide +kernel
theorem dX2_fill_33 : decode cX2_fill 33 = .ok (.iload_n 2, 1) := by decide +kernel
theorem dX2_fill_34 : decode cX2_fill 34 = .ok (.putfield 55, 3) := by decide +kernel
theorem dX2_fill_37 : decode cX2_fill 37 = .ok (.aload_n 3, 1) := by decide +kernel
theorem dX2_fill_38 : decode cX2_fill 38 = .ok (.iconst (-1), 1) := by decide +kernel
theorem dX2_fill_39 : decode cX2_fill 39 = .ok (.putfield 44, 3) := by decide +kernel
theorem dX2_fill_42 : decode cX2_fill 42 = .ok (.aload_n 3, 1) := by decide +kernel
theorem dX2_fill_43 : decode cX2_fill 43 = .ok (.iconst 2, 1) := by decide +kernel
theorem dX2_fill_44 : decode cX2_fill 44 = .ok (.aload_n 3, 1) := by decide +kernel
theorem dX2_fill_45 : decode cX2_fill 45 = .ok (.iload_n 2, 1) := by decide +kernel
theorem dX2_fill_46 : decode cX2_fill 46 = .ok (.invokevirtual 58, 3) := by decide +kernel
theorem dX2_fill_49 : decode cX2_fill 49 = .ok (.invokevirtual 47, 3) := by decide +kernel
theorem dX2_fill_52 : decode cX2_fill 52 = .ok (.ireturn, 1) := by decide +kernel
set_option maxRecDepth 20000 in
theorem ggX2_read_X2_clientAt : GoodIn wsX2_read wsX2_clientAt := goodIn_r _ [5, 6, 37, 38, 39, 40, 41, 42] (by decide +kernel) (by decide +kernel)
set_option maxRecDepth 20000 in
theorem gX2_read_X2_clientAt : GoodIn wsX2_read (wsV RX2 36 RX2 yX2_clientAt wsX2_clientAt) := goodIn_app (goodIn_of _ (by decide +kernel)) ggX2_read_X2_clientAt
set_option maxRecDepth 20000 in
theorem ggX2_read_X2_isPosition : GoodIn wsX2_read wsX2_isPosition := goodIn_r _ [9] (by decide +kernel) (by decide +kernel)
set_option maxRecDepth 20000 in
theorem gX2_read_X2_isPosition : GoodIn wsX2_read (va_wsS RX2 51 yX2_isPosition wsX2_isPosition) := goodIn_app (goodIn_of _ (by decide +kernel)) ggX2_read_X2_isPosition
set_option maxRecDepth 20000 in
theorem ggX2_read_X0_chainOf : GoodIn wsX2_read wsX0_chainOf := goodIn_r _ [13, 14, 25, 26, 27, 28, 29, 30, 31, 32, 33, 34, 35, 36] (by decide +kernel) (by decide +kernel)
set_option maxRecDepth 20000 in
theorem gX2_read_X0_chainOf_n58 : GoodIn wsX2_read (wsX0_chainOf) := ggX2_read_X0_chainOf
set_option maxRecDepth 20000 in
theorem ggX2_read_X2_highestOf : GoodIn wsX2_read wsX2_highestOf := goodIn_r _ [17] (by decide +kernel) (by decide +kernel)
set_option maxRecDepth 20000 in
theorem gX2_read_X2_highestOf : GoodIn wsX2_read (va_wsS RX2 62 yX2_highestOf wsX2_highestOf) := goodIn_app (goodIn_of _ (by decide +kernel)) ggX2_read_X2_highestOf
set_option maxRecDepth 20000 in
theorem ggX2_read_X0_begin : GoodIn wsX2_read wsX0_begin := goodIn_r _ [20, 21, 22, 23, 24, 25, 26, 27, 28, 29, 30, 31, 32, 33, 34, 35, 36] (by decide +kernel) (by decide +kernel)
set_option maxRecDepth 20000 in
theorem gX2_read_X0_begin_n47 : GoodIn wsX2_read (wsX0_begin) := ggX2_read_X0_begin
theorem dX2_read_0 : decode cX2_read 0 = .ok (.aload_n 0, 1) := by decide +kernel
theorem dX2_read_1 : decode cX2_read 1 = .ok (.iload_n 1, 1) := by decide +kernel
theorem dX2_read_2 : decode cX2_read 2 = .ok (.invokevirtual 36, 3) := by decide +kernel
theorem dX2_read_5 : decode cX2_read 5 = .ok (.astore_n 3, 1) := by decide +kernel
theorem dX2_read_6 : decode cX2_read 6 = .ok (.aload_n 3, 1) := by decide +kernel
theorem dX2_read_7 : decode cX2_read 7 = .ok (.ifnonnull 5, 3) := by decide +kernel
theorem dX2_read_10 : decode cX2_read 10 = .ok (.iconst (-1), 1) := by decide +kernel
theorem dX2_read_11 : decode cX2_read 11 = .ok (.ireturn, 1) := by decide +kernel
theorem dX2_read_12 : decode cX2_read 12 = .ok (.aload_n 3, 1) := by decide +kernel
theorem dX2_read_13 : decode cX2_read 13 = .ok (.getfield 40, 3) := by decide +kernel
theorem dX2_read_16 : decode cX2_read 16 = .ok (.ifCond .eq 6, 3) := by decide +kernel
theorem dX2_read_19 : decode cX2_read 19 = .ok (.bipush (-2), 2) := by decide +kernel
theorem dX2_read_21 : decode cX2_read 21 = .ok (.ireturn, 1) := by decide +kernel
theorem dX2_read_22 : decode cX2_read 22 = .ok (.iload_n 2, 1) := by decide +kernel
theorem dX2_read_23 : decode cX2_read 23 = .ok (.invokestatic 51, 3) := by decide +kernel
theorem dX2_read_26 : decode cX2_read 26 = .ok (.ifCond .ne 6, 3) := by decide +kernel
theorem dX2_read_29 : decode cX2_read 29 = .ok (.bipush (-3), 2) := by decide +kernel
theorem dX2_read_31 : decode cX2_read 31 = .ok (.ireturn, 1) := by decide +kernel
theorem dX2_read_32 : decode cX2_read 32 = .ok (.aload_n 3, 1) := by decide +kernel
theorem dX2_read_33 : decode cX2_read 33 = .ok (.iload_n 2, 1) := by decide +kernel
theorem dX2_read_34 : decode cX2_read 34 = .ok (.putfield 55, 3) := by decide +kernel
theorem dX2_read_37 : decode cX2_read 37 = .ok (.aload_n 3, 1) := by decide +kernel
theorem dX2_read_38 : decode cX2_read 38 = .ok (.iconst 3, 1) := by decide +kernel
theorem dX2_read_39 : decode cX2_read 39 = .ok (.aload_n 3, 1) := by decide +kernel
theorem dX2_read_40 : decode cX2_read 40 = .ok (.iload_n 2, 1) := by decide +kernel
theorem dX2_read_41 : decode cX2_read 41 = .ok (.invokevirtual 58, 3) := by decide +kernel
theorem dX2_read_44 : decode cX2_read 44 = .ok (.invokestatic 62, 3) := by decide +kernel
theorem dX2_read_47 : decode cX2_read 47 = .ok (.invokevirtual 47, 3) := by decide +kernel
theorem dX2_read_50 : decode cX2_read 50 = .ok (.ireturn, 1) := by decide +kernel
set_option maxRecDepth 20000 in
theorem ggX2_replay_X2_clientAt : GoodIn wsX2_replay wsX2_clientAt := goodIn_r _ [5, 6, 39, 40, 41, 42, 43, 44] (by decide +kernel) (by decide +kernel)
set_option maxRecDepth 20000 in
theorem gX2_replay_X2_clientAt : GoodIn wsX2_replay (wsV RX2 36 RX2 yX2_clientAt wsX2_clientAt) := goodIn_app (goodIn_of _ (by decide +kernel)) ggX2_replay_X2_clientAt
set_option maxRecDepth 20000 in
theorem ggX2_replay_X0_replayRoute : GoodIn wsX2_replay wsX0_replayRoute := goodIn_r _ [10, 11, 12, 13, 14, 15, 8, 16, 17, 18, 4, 19, 27, 28, 29, 30, 31, 32, 33, 34, 35, 36, 37, 38] (by decide +kernel) (by decide +kernel)
set_option maxRecDepth 20000 in
theorem gX2_replay_X0_replayRoute_n71 : GoodIn wsX2_replay (wsX0_replayRoute) := ggX2_replay_X0_replayRoute
set_option maxRecDepth 20000 in
theorem ggX2_replay_X0_begin : GoodIn wsX2_replay wsX0_begin := goodIn_r _ [22, 23, 24, 25, 26, 27, 28, 29, 30, 31, 32, 33, 34, 35, 36, 37, 38] (by decide +kernel) (by decide +kernel)
set_option maxRecDepth 20000 in
theorem gX2_replay_X0_begin_n47 : GoodIn wsX2_replay (wsX0_begin) := ggX2_replay_X0_begin
theorem dX2_replay_0 : decode cX2_replay 0 = .ok (.aload_n 0, 1) := by decide +kernel
theorem dX2_replay_1 : decode cX2_replay 1 = .ok (.iload_n 1, 1) := by decide +kernel
theorem dX2_replay_2 : decode cX2_replay 2 = .ok (.invokevirtual 36, 3) := by decide +kernel
theorem dX2_replay_5 : decode cX2_replay 5 = .ok (.astore_n 3, 1) := by decide +kernel
theorem dX2_replay_6 : decode cX2_replay 6 = .ok (.aload_n 3, 1) := by decide +kernel
theorem dX2_replay_7 : decode cX2_replay 7 = .ok (.ifnonnull 5, 3) := by decide +kernel
theorem dX2_replay_10 : decode cX2_replay 10 = .ok (.iconst (-1), 1) := by decide +kernel
theorem dX2_replay_11 : decode cX2_replay 11 = .ok (.ireturn, 1) := by decide +kernel
theorem dX2_replay_12 : decode cX2_replay 12 = .ok (.aload_n 3, 1) := by decide +kernel
theorem dX2_replay_13 : decode cX2_replay 13 = .ok (.getfield 40, 3) := by decide +kernel
theorem dX2_replay_16 : decode cX2_replay 16 = .ok (.ifCond .eq 6, 3) := by decide +kernel
theorem dX2_replay_19 : decode cX2_replay 19 = .ok (.bipush (-2), 2) := by decide +kernel
theorem dX2_replay_21 : decode cX2_replay 21 = .ok (.ireturn, 1) := by decide +kernel
theorem dX2_replay_22 : decode cX2_replay 22 = .ok (.iload_n 2, 1) := by decide +kernel
theorem dX2_replay_23 : decode cX2_replay 23 = .ok (.ifCond .lt 9, 3) := by decide +kernel
theorem dX2_replay_26 : decode cX2_replay 26 = .ok (.iload_n 2, 1) := by decide +kernel
theorem dX2_replay_27 : decode cX2_replay 27 = .ok (.bipush 32, 2) := by decide +kernel
theorem dX2_replay_29 : decode cX2_replay 29 = .ok (.if_icmp .le 6, 3) := by decide +kernel
theorem dX2_replay_32 : decode cX2_replay 32 = .ok (.bipush (-3), 2) := by decide +kernel
theorem dX2_replay_34 : decode cX2_replay 34 = .ok (.ireturn, 1) := by decide +kernel
theorem dX2_replay_35 : decode cX2_replay 35 = .ok (.aload_n 3, 1) := by decide +kernel
theorem dX2_replay_36 : decode cX2_replay 36 = .ok (.iconst 0, 1) := by decide +kernel
theorem dX2_replay_37 : decode cX2_replay 37 = .ok (.putfield 55, 3) := by decide +kernel
theorem dX2_replay_40 : decode cX2_replay 40 = .ok (.aload_n 3, 1) := by decide +kernel
theorem dX2_replay_41 : decode cX2_replay 41 = .ok (.iload_n 2, 1) := by decide +kernel
theorem dX2_replay_42 : decode cX2_replay 42 = .ok (.putfield 65, 3) := by decide +kernel
theorem dX2_replay_45 : decode cX2_replay 45 = .ok (.aload_n 3, 1) := by decide +kernel
theorem dX2_replay_46 : decode cX2_replay 46 = .ok (.iconst 0, 1) := by decide +kernel
theorem dX2_replay_47 : decode cX2_replay 47 = .ok (.putfield 68, 3) := by decide +kernel
theorem dX2_replay_50 : decode cX2_replay 50 = .ok (.aload_n 3, 1) := by decide +kernel
theorem dX2_replay_51 : decode cX2_replay 51 = .ok (.iconst 4, 1) := by decide +kernel
theorem dX2_replay_52 : decode cX2_replay 52 = .ok (.aload_n 3, 1) := by decide +kernel
theorem dX2_replay_53 : decode cX2_replay 53 = .ok (.invokevirtual 71, 3) := by decide +kernel
theorem dX2_replay_56 : decode cX2_replay 56 = .ok (.invokevirtual 47, 3) := by decide +kernel
theorem dX2_replay_59 : decode cX2_replay 59 = .ok (.ireturn, 1) := by decide +kernel
set_option maxRecDepth 20000 in
theorem ggX2_reform_X2_clientAt : GoodIn wsX2_reform wsX2_clientAt := goodIn_r _ [5, 6, 27, 28, 29, 30, 31, 32] (by decide +kernel) (by decide +kernel)
set_option maxRecDepth 20000 in
theorem gX2_reform_X2_clientAt : GoodIn wsX2_reform (wsV RX2 36 RX2 yX2_clientAt wsX2_clientAt) := goodIn_app (goodIn_of _ (by decide +kernel)) ggX2_reform_X2_clientAt
set_option maxRecDepth 20000 in
theorem ggX2_reform_X0_begin : GoodIn wsX2_reform wsX0_begin := goodIn_r _ [10, 11, 12, 13, 14, 15, 16, 17, 18, 19, 20, 21, 22, 23, 24, 25, 26] (by decide +kernel) (by decide +kernel)
set_option maxRecDepth 20000 in
theorem gX2_reform_X0_begin_n47 : GoodIn wsX2_reform (wsX0_begin) := ggX2_reform_X0_begin
theorem dX2_reform_0 : decode cX2_reform 0 = .ok (.aload_n 0, 1) := by decide +kernel
theorem dX2_reform_1 : decode cX2_reform 1 = .ok (.iload_n 1, 1) := by decide +kernel
theorem dX2_reform_2 : decode cX2_reform 2 = .ok (.invokevirtual 36, 3) := by decide +kernel
theorem dX2_reform_5 : decode cX2_reform 5 = .ok (.astore_n 3, 1) := by decide +kernel
theorem dX2_reform_6 : decode cX2_reform 6 = .ok (.aload_n 3, 1) := by decide +kernel
theorem dX2_reform_7 : decode cX2_reform 7 = .ok (.ifnonnull 5, 3) := by decide +kernel
theorem dX2_reform_10 : decode cX2_reform 10 = .ok (.iconst (-1), 1) := by decide +kernel
theorem dX2_reform_11 : decode cX2_reform 11 = .ok (.ireturn, 1) := by decide +kernel
theorem dX2_reform_12 : decode cX2_reform 12 = .ok (.aload_n 3, 1) := by decide +kernel
theorem dX2_reform_13 : decode cX2_reform 13 = .ok (.getfield 40, 3) := by decide +kernel
theorem dX2_reform_16 : decode cX2_reform 16 = .ok (.ifCond .eq 6, 3) := by decide +kernel
theorem dX2_reform_19 : decode cX2_reform 19 = .ok (.bipush (-2), 2) := by decide +kernel
theorem dX2_reform_21 : decode cX2_reform 21 = .ok (.ireturn, 1) := by decide +kernel
theorem dX2_reform_22 : decode cX2_reform 22 = .ok (.iload_n 2, 1) := by decide +kernel
theorem dX2_reform_23 : decode cX2_reform 23 = .ok (.ifCond .lt 9, 3) := by decide +kernel
theorem dX2_reform_26 : decode cX2_reform 26 = .ok (.iload_n 2, 1) := by decide +kernel
theorem dX2_reform_27 : decode cX2_reform 27 = .ok (.bipush 63, 2) := by decide +kernel
theorem dX2_reform_29 : decode cX2_reform 29 = .ok (.if_icmp .le 6, 3) := by decide +kernel
theorem dX2_reform_32 : decode cX2_reform 32 = .ok (.bipush (-3), 2) := by decide +kernel
theorem dX2_reform_34 : decode cX2_reform 34 = .ok (.ireturn, 1) := by decide +kernel
theorem dX2_reform_35 : decode cX2_reform 35 = .ok (.aload_n 3, 1) := by decide +kernel
theorem dX2_reform_36 : decode cX2_reform 36 = .ok (.getfield 75, 3) := by decide +kernel
theorem dX2_reform_39 : decode cX2_reform 39 = .ok (.iload_n 2, 1) := by decide +kernel
theorem dX2_reform_40 : decode cX2_reform 40 = .ok (.iconst (-1), 1) := by decide +kernel
theorem dX2_reform_41 : decode cX2_reform 41 = .ok (.ixor, 1) := by decide +kernel
theorem dX2_reform_42 : decode cX2_reform 42 = .ok (.iand, 1) := by decide +kernel
theorem dX2_reform_43 : decode cX2_reform 43 = .ok (.istore 4, 2) := by decide +kernel
theorem dX2_reform_45 : decode cX2_reform 45 = .ok (.iload 4, 2) := by decide +kernel
theorem dX2_reform_47 : decode cX2_reform 47 = .ok (.bipush 21, 2) := by decide +kernel
theorem dX2_reform_49 : decode cX2_reform 49 = .ok (.iand, 1) := by decide +kernel
theorem dX2_reform_50 : decode cX2_reform 50 = .ok (.ifCond .eq 11, 3) := by decide +kernel
theorem dX2_reform_53 : decode cX2_reform 53 = .ok (.iload 4, 2) := by decide +kernel
theorem dX2_reform_55 : decode cX2_reform 55 = .ok (.bipush 42, 2) := by decide +kernel
theorem dX2_reform_57 : decode cX2_reform 57 = .ok (.iand, 1) := by decide +kernel
theorem dX2_reform_58 : decode cX2_reform 58 = .ok (.ifCond .ne 6, 3) := by decide +kernel
theorem dX2_reform_61 : decode cX2_reform 61 = .ok (.bipush (-4), 2) := by decide +kernel
theorem dX2_reform_63 : decode cX2_reform 63 = .ok (.ireturn, 1) := by decide +kernel
theorem dX2_reform_64 : decode cX2_reform 64 = .ok (.aload_n 3, 1) := by decide +kernel
theorem dX2_reform_65 : decode cX2_reform 65 = .ok (.iload 4, 2) := by decide +kernel
theorem dX2_reform_67 : decode cX2_reform 67 = .ok (.putfield 78, 3) := by decide +kernel
theorem dX2_reform_70 : decode cX2_reform 70 = .ok (.aload_n 3, 1) := by decide +kernel
theorem dX2_reform_71 : decode cX2_reform 71 = .ok (.iconst 0, 1) := by decide +kernel
theorem dX2_reform_72 : decode cX2_reform 72 = .ok (.putfield 81, 3) := by decide +kernel
theorem dX2_reform_75 : decode cX2_reform 75 = .ok (.aload_n 3, 1) := by decide +kernel
theorem dX2_reform_76 : decode cX2_reform 76 = .ok (.iconst 5, 1) := by decide +kernel
theorem dX2_reform_77 : decode cX2_reform 77 = .ok (.iload 4, 2) := by decide +kernel
theorem dX2_reform_79 : decode cX2_reform 79 = .ok (.invokevirtual 47, 3) := by decide +kernel
theorem dX2_reform_82 : decode cX2_reform 82 = .ok (.ireturn, 1) := by decide +kernel
set_option maxRecDepth 20000 in
theorem ggX2_step_X2_clientAt : GoodIn wsX2_step wsX2_clientAt := goodIn_r _ [5, 6, 119, 120, 121, 122, 123, 124] (by decide +kernel) (by decide +kernel)
set_option maxRecDepth 20000 in
theorem gX2_step_X2_clientAt : GoodIn wsX2_step (wsV RX2 36 RX2 yX2_clientAt wsX2_clientAt) := goodIn_app (goodIn_of _ (by decide +kernel)) ggX2_step_X2_clientAt
set_option maxRecDepth 20000 in
theorem ggX2_step_X2_lowestUnit : GoodIn wsX2_step wsX2_lowestUnit := goodIn_r _ [9] (by decide +kernel) (by decide +kernel)
set_option maxRecDepth 20000 in
theorem gX2_step_X2_lowestUnit : GoodIn wsX2_step (va_wsS RX2 87 yX2_lowestUnit wsX2_lowestUnit) := goodIn_app (goodIn_of _ (by decide +kernel)) ggX2_step_X2_lowestUnit
set_option maxRecDepth 20000 in
theorem ggX2_step_X2_unitAt : GoodIn wsX2_step wsX2_unitAt := goodIn_r _ [13, 14, 119, 120, 121, 122, 123, 124] (by decide +kernel) (by decide +kernel)
set_option maxRecDepth 20000 in
theorem gX2_step_X2_unitAt : GoodIn wsX2_step (wsV RX2 90 RX2 yX2_unitAt wsX2_unitAt) := goodIn_app (goodIn_of _ (by decide +kernel)) ggX2_step_X2_unitAt
set_option maxRecDepth 20000 in
theorem ggX2_step_X2_stepWithoutUnit : GoodIn wsX2_step wsX2_stepWithoutUnit := goodIn_r _ [18, 19, 20, 21, 4, 22, 23, 24, 25, 26, 27, 28, 29, 30, 31, 32, 33, 34, 35, 36, 37, 38, 39, 40, 41, 42, 43, 44, 45, 104, 105, 106, 107, 108, 109, 110, 111, 112, 113, 114, 115, 119, 120, 121, 122, 123, 124] (by decide +kernel) (by decide +kernel)
set_option maxRecDepth 20000 in
theorem gX2_step_X2_stepWithoutUnit : GoodIn wsX2_step (wsV RX2 94 RX2 yX2_stepWithoutUnit wsX2_stepWithoutUnit) := goodIn_app (goodIn_of _ (by decide +kernel)) ggX2_step_X2_stepWithoutUnit
set_option maxRecDepth 20000 in
theorem ggX2_step_X0_newestEpochItBears : GoodIn wsX2_step wsX0_newestEpochItBears := goodIn_r _ [48, 29, 49, 104, 105, 106, 107, 108, 109, 110, 111, 112, 113, 114, 115] (by decide +kernel) (by decide +kernel)
set_option maxRecDepth 20000 in
theorem gX2_step_X0_newestEpochItBears_n105 : GoodIn wsX2_step (wsX0_newestEpochItBears) := ggX2_step_X0_newestEpochItBears
set_option maxRecDepth 20000 in
theorem ggX2_step_X0_end : GoodIn wsX2_step wsX0_end := goodIn_r _ [28, 29, 30, 31, 104, 105, 106, 107, 108, 109, 110, 111, 112, 113, 114, 115] (by decide +kernel) (by decide +kernel)
set_option maxRecDepth 20000 in
theorem gX2_step_X0_end_n108 : GoodIn wsX2_step (wsX0_end) := ggX2_step_X0_end
set_option maxRecDepth 20000 in
theorem ggX2_step_X2_stepAtUnit : GoodIn wsX2_step wsX2_stepAtUnit := goodIn_r _ [52, 53, 54, 4, 55, 56, 57, 58, 59, 60, 61, 62, 63, 26, 64, 65, 66, 67, 68, 32, 33, 34, 35, 69, 70, 71, 72, 73, 74, 75, 76, 77, 25, 27, 28, 29, 30, 31, 78, 79, 80, 81, 82, 83, 84, 85, 86, 87, 88, 89, 90, 91, 92, 93, 94, 95, 96, 97, 98, 99, 100, 101, 102, 103, 104, 105, 106, 107, 108, 109, 110, 111, 112, 113, 114, 115, 116, 117, 118] (by decide +kernel) (by decide +kernel)
set_option maxRecDepth 20000 in
theorem gX2_step_X2_stepAtUnit : GoodIn wsX2_step (va_wsS RX2 111 yX2_stepAtUnit wsX2_stepAtUnit) := goodIn_app (goodIn_of _ (by decide +kernel)) ggX2_step_X2_stepAtUnit
theorem dX2_step_0 : decode cX2_step 0 = .ok (.aload_n 0, 1) := by decide +kernel
theorem dX2_step_1 : decode cX2_step 1 = .ok (.iload_n 1, 1) := by decide +kernel
theorem dX2_step_2 : decode cX2_step 2 = .ok (.invokevirtual 36, 3) := by decide +kernel
theorem dX2_step_5 : decode cX2_step 5 = .ok (.astore_n 2, 1) := by decide +kernel
theorem dX2_step_6 : decode cX2_step 6 = .ok (.aload_n 2, 1) := by decide +kernel
theorem dX2_step_7 : decode cX2_step 7 = .ok (.ifnonnull 5, 3) := by decide +kernel
theorem dX2_step_10 : decode cX2_step 10 = .ok (.iconst (-1), 1) := by decide +kernel
theorem dX2_step_11 : decode cX2_step 11 = .ok (.ireturn, 1) := by decide +kernel
theorem dX2_step_12 : decode cX2_step 12 = .ok (.aload_n 2, 1) := by decide +kernel
theorem dX2_step_13 : decode cX2_step 13 = .ok (.getfield 40, 3) := by decide +kernel
theorem dX2_step_16 : decode cX2_step 16 = .ok (.ifCond .ne 6, 3) := by decide +kernel
theorem dX2_step_19 : decode cX2_step 19 = .ok (.bipush (-2), 2) := by decide +kernel
theorem dX2_step_21 : decode cX2_step 21 = .ok (.ireturn, 1) := by decide +kernel
theorem dX2_step_22 : decode cX2_step 22 = .ok (.aload_n 0, 1) := by decide +kernel
theorem dX2_step_23 : decode cX2_step 23 = .ok (.aload_n 2, 1) := by decide +kernel
theorem dX2_step_24 : decode cX2_step 24 = .ok (.getfield 84, 3) := by decide +kernel
theorem dX2_step_27 : decode cX2_step 27 = .ok (.invokestatic 87, 3) := by decide +kernel
theorem dX2_step_30 : decode cX2_step 30 = .ok (.invokevirtual 90, 3) := by decide +kernel
theorem dX2_step_33 : decode cX2_step 33 = .ok (.astore_n 3, 1) := by decide +kernel
theorem dX2_step_34 : decode cX2_step 34 = .ok (.aload_n 3, 1) := by decide +kernel
theorem dX2_step_35 : decode cX2_step 35 = .ok (.ifnonnull 9, 3) := by decide +kernel
theorem dX2_step_38 : decode cX2_step 38 = .ok (.aload_n 0, 1) := by decide +kernel
theorem dX2_step_39 : decode cX2_step 39 = .ok (.aload_n 2, 1) := by decide +kernel
theorem dX2_step_40 : decode cX2_step 40 = .ok (.invokevirtual 94, 3) := by decide +kernel
theorem dX2_step_43 : decode cX2_step 43 = .ok (.ireturn, 1) := by decide +kernel
theorem dX2_step_44 : decode cX2_step 44 = .ok (.aload_n 3, 1) := by decide +kernel
theorem dX2_step_45 : decode cX2_step 45 = .ok (.getfield 98, 3) := by decide +kernel
theorem dX2_step_48 : decode cX2_step 48 = .ok (.ifCond .ne 6, 3) := by decide +kernel
theorem dX2_step_51 : decode cX2_step 51 = .ok (.bipush (-3), 2) := by decide +kernel
theorem dX2_step_53 : decode cX2_step 53 = .ok (.ireturn, 1) := by decide +kernel
theorem dX2_step_54 : decode cX2_step 54 = .ok (.aload_n 3, 1) := by decide +kernel
theorem dX2_step_55 : decode cX2_step 55 = .ok (.getfield 102, 3) := by decide +kernel
theorem dX2_step_58 : decode cX2_step 58 = .ok (.aload_n 2, 1) := by decide +kernel
theorem dX2_step_59 : decode cX2_step 59 = .ok (.invokevirtual 105, 3) := by decide +kernel
theorem dX2_step_62 : decode cX2_step 62 = .ok (.if_icmp .le 10, 3) := by decide +kernel
theorem dX2_step_65 : decode cX2_step 65 = .ok (.aload_n 2, 1) := by decide +kernel
theorem dX2_step_66 : decode cX2_step 66 = .ok (.iconst 2, 1) := by decide +kernel
theorem dX2_step_67 : decode cX2_step 67 = .ok (.iconst 0, 1) := by decide +kernel
theorem dX2_step_68 : decode cX2_step 68 = .ok (.invokevirtual 108, 3) := by decide +kernel
theorem dX2_step_71 : decode cX2_step 71 = .ok (.ireturn, 1) := by decide +kernel
theorem dX2_step_72 : decode cX2_step 72 = .ok (.aload_n 2, 1) := by decide +kernel
theorem dX2_step_73 : decode cX2_step 73 = .ok (.aload_n 3, 1) := by decide +kernel
theorem dX2_step_74 : decode cX2_step 74 = .ok (.invokestatic 111, 3) := by decide +kernel
theorem dX2_step_77 : decode cX2_step 77 = .ok (.ireturn, 1) := by decide +kernel
set_option maxRecDepth 20000 in
theorem ggX2_refresh_X2_clientAt : GoodIn wsX2_refresh wsX2_clientAt := goodIn_r _ [5, 6, 25, 26, 27, 28, 29, 30] (by decide +kernel) (by decide +kernel)
set_option maxRecDepth 20000 in
theorem gX2_refresh_X2_clientAt : GoodIn wsX2_refresh (wsV RX2 36 RX2 yX2_clientAt wsX2_clientAt) := goodIn_app (goodIn_of _ (by decide +kernel)) ggX2_refresh_X2_clientAt
set_option maxRecDepth 20000 in
theorem ggX2_refresh_X2_takeStoreProjection : GoodIn wsX2_refresh wsX2_takeStoreProjection := goodIn_r _ [10, 11, 12, 25, 26, 27, 28, 29, 30, 13, 14, 15, 16, 17, 18, 19, 20, 21, 22, 23, 24] (by decide +kernel) (by decide +kernel)
set_option maxRecDepth 20000 in
theorem gX2_refresh_X2_takeStoreProjection : GoodIn wsX2_refresh (wsV RX2 115 RX2 yX2_takeStoreProjection wsX2_takeStoreProjection) := goodIn_app (goodIn_of _ (by decide +kernel)) ggX2_refresh_X2_takeStoreProjection
theorem dX2_refresh_0 : decode cX2_refresh 0 = .ok (.aload_n 0, 1) := by decide +kernel
theorem dX2_refresh_1 : decode cX2_refresh 1 = .ok (.iload_n 1, 1) := by decide +kernel
theorem dX2_refresh_2 : decode cX2_refresh 2 = .ok (.invokevirtual 36, 3) := by decide +kernel
theorem dX2_refresh_5 : decode cX2_refresh 5 = .ok (.astore_n 2, 1) := by decide +kernel
theorem dX2_refresh_6 : decode cX2_refresh 6 = .ok (.aload_n 2, 1) := by decide +kernel
theorem dX2_refresh_7 : decode cX2_refresh 7 = .ok (.ifnonnull 5, 3) := by decide +kernel
theorem dX2_refresh_10 : decode cX2_refresh 10 = .ok (.iconst (-1), 1) := by decide +kernel
theorem dX2_refresh_11 : decode cX2_refresh 11 = .ok (.ireturn, 1) := by decide +kernel
theorem dX2_refresh_12 : decode cX2_refresh 12 = .ok (.aload_n 2, 1) := by decide +kernel
theorem dX2_refresh_13 : decode cX2_refresh 13 = .ok (.getfield 40, 3) := by decide +kernel
theorem dX2_refresh_16 : decode cX2_refresh 16 = .ok (.ifCond .eq 6, 3) := by decide +kernel
theorem dX2_refresh_19 : decode cX2_refresh 19 = .ok (.bipush (-2), 2) := by decide +kernel
theorem dX2_refresh_21 : decode cX2_refresh 21 = .ok (.ireturn, 1) := by decide +kernel
theorem dX2_refresh_22 : decode cX2_refresh 22 = .ok (.aload_n 0, 1) := by decide +kernel
theorem dX2_refresh_23 : decode cX2_refresh 23 = .ok (.aload_n 2, 1) := by decide +kernel
theorem dX2_refresh_24 : decode cX2_refresh 24 = .ok (.invokevirtual 115, 3) := by decide +kernel
theorem dX2_refresh_27 : decode cX2_refresh 27 = .ok (.aload_n 2, 1) := by decide +kernel
theorem dX2_refresh_28 : decode cX2_refresh 28 = .ok (.getfield 119, 3) := by decide +kernel
theorem dX2_refresh_31 : decode cX2_refresh 31 = .ok (.ireturn, 1) := by decide +kernel
set_option maxRecDepth 20000 in
theorem ggX2_setUp_X2_unitAt : GoodIn wsX2_setUp wsX2_unitAt := goodIn_r _ [5, 6, 10, 11, 12, 13, 14, 15] (by decide +kernel) (by decide +kernel)
set_option maxRecDepth 20000 in
theorem gX2_setUp_X2_unitAt : GoodIn wsX2_setUp (wsV RX2 90 RX2 yX2_unitAt wsX2_unitAt) := goodIn_app (goodIn_of _ (by decide +kernel)) ggX2_setUp_X2_unitAt
theorem dX2_setUp_0 : decode cX2_setUp 0 = .ok (.aload_n 0, 1) := by decide +kernel
theorem dX2_setUp_1 : decode cX2_setUp 1 = .ok (.iload_n 1, 1) := by decide +kernel
theorem dX2_setUp_2 : decode cX2_setUp 2 = .ok (.invokevirtual 90, 3) := by decide +kernel
theorem dX2_setUp_5 : decode cX2_setUp 5 = .ok (.astore_n 3, 1) := by decide +kernel
theorem dX2_setUp_6 : decode cX2_setUp 6 = .ok (.aload_n 3, 1) := by decide +kernel
theorem dX2_setUp_7 : decode cX2_setUp 7 = .ok (.ifnonnull 5, 3) := by decide +kernel
theorem dX2_setUp_10 : decode cX2_setUp 10 = .ok (.iconst 0, 1) := by decide +kernel
theorem dX2_setUp_11 : decode cX2_setUp 11 = .ok (.ireturn, 1) := by decide +kernel
theorem dX2_setUp_12 : decode cX2_setUp 12 = .ok (.aload_n 3, 1) := by decide +kernel
theorem dX2_setUp_13 : decode cX2_setUp 13 = .ok (.iload_n 2, 1) := by decide +kernel
theorem dX2_setUp_14 : decode cX2_setUp 14 = .ok (.putfield 98, 3) := by decide +kernel
theorem dX2_setUp_17 : decode cX2_setUp 17 = .ok (.iconst 1, 1) := by decide +kernel
theorem dX2_setUp_18 : decode cX2_setUp 18 = .ok (.ireturn, 1) := by decide +kernel
theorem dX2_loseSequencer_0 : decode cX2_loseSequencer 0 = .ok (.aload_n 0, 1) := by decide +kernel
theorem dX2_loseSequencer_1 : decode cX2_loseSequencer 1 = .ok (.iconst 0, 1) := by decide +kernel
theorem dX2_loseSequencer_2 : decode cX2_loseSequencer 2 = .ok (.putfield 31, 3) := by decide +kernel
theorem dX2_loseSequencer_5 : decode cX2_loseSequencer 5 = .ok (.return_, 1) := by decide +kernel
set_option maxRecDepth 20000 in
theorem ggX2_busy_X2_clientAt : GoodIn wsX2_busy wsX2_clientAt := goodIn_r _ [5, 6, 19, 20, 21, 22, 23, 24] (by decide +kernel) (by decide +kernel)
set_option maxRecDepth 20000 in
theorem gX2_busy_X2_clientAt : GoodIn wsX2_busy (wsV RX2 36 RX2 yX2_clientAt wsX2_clientAt) := goodIn_app (goodIn_of _ (by decide +kernel)) ggX2_busy_X2_clientAt
theorem dX2_busy_0 : decode cX2_busy 0 = .ok (.aload_n 0, 1) := by decide +kernel
theorem dX2_busy_1 : decode cX2_busy 1 = .ok (.iload_n 1, 1) := by decide +kernel
theorem dX2_busy_2 : decode cX2_busy 2 = .ok (.invokevirtual 36, 3) := by decide +kernel
theorem dX2_busy_5 : decode cX2_busy 5 = .ok (.astore_n 2, 1) := by decide +kernel
theorem dX2_busy_6 : decode cX2_busy 6 = .ok (.aload_n 2, 1) := by decide +kernel
theorem dX2_busy_7 : decode cX2_busy 7 = .ok (.ifnonnull 8, 3) := by decide +kernel
theorem dX2_busy_10 : decode cX2_busy 10 = .ok (.bipush (-9), 2) := by decide +kernel
theorem dX2_busy_12 : decode cX2_busy 12 = .ok (.goto 7, 3) := by decide +kernel
theorem dX2_busy_15 : decode cX2_busy 15 = .ok (.aload_n 2, 1) := by decide +kernel
theorem dX2_busy_16 : decode cX2_busy 16 = .ok (.getfield 40, 3) := by decide +kernel
theorem dX2_busy_19 : decode cX2_busy 19 = .ok (.ireturn, 1) := by decide +kernel
set_option maxRecDepth 20000 in
theorem ggX2_outcome_X2_clientAt : GoodIn wsX2_outcome wsX2_clientAt := goodIn_r _ [5, 6, 19, 20, 21, 22, 23, 24] (by decide +kernel) (by decide +kernel)
set_option maxRecDepth 20000 in
theorem gX2_outcome_X2_clientAt : GoodIn wsX2_outcome (wsV RX2 36 RX2 yX2_clientAt wsX2_clientAt) := goodIn_app (goodIn_of _ (by decide +kernel)) ggX2_outcome_X2_clientAt
theorem dX2_outcome_0 : decode cX2_outcome 0 = .ok (.aload_n 0, 1) := by decide +kernel
theorem dX2_outcome_1 : decode cX2_outcome 1 = .ok (.iload_n 1, 1) := by decide +kernel
theorem dX2_outcome_2 : decode cX2_outcome 2 = .ok (.invokevirtual 36, 3) := by decide +kernel
theorem dX2_outcome_5 : decode cX2_outcome 5 = .ok (.astore_n 2, 1) := by decide +kernel
theorem dX2_outcome_6 : decode cX2_outcome 6 = .ok (.aload_n 2, 1) := by decide +kernel
theorem dX2_outcome_7 : decode cX2_outcome 7 = .ok (.ifnonnull 8, 3) := by decide +kernel
theorem dX2_outcome_10 : decode cX2_outcome 10 = .ok (.bipush (-9), 2) := by decide +kernel
theorem dX2_outcome_12 : decode cX2_outcome 12 = .ok (.goto 7, 3) := by decide +kernel
theorem dX2_outcome_15 : decode cX2_outcome 15 = .ok (.aload_n 2, 1) := by decide +kernel
theorem dX2_outcome_16 : decode cX2_outcome 16 = .ok (.getfield 120, 3) := by decide +kernel
theorem dX2_outcome_19 : decode cX2_outcome 19 = .ok (.ireturn, 1) := by decide +kernel
set_option maxRecDepth 20000 in
theorem ggX2_number_X2_clientAt : GoodIn wsX2_number wsX2_clientAt := goodIn_r _ [5, 6, 19, 20, 21, 22, 23, 24] (by decide +kernel) (by decide +kernel)
set_option maxRecDepth 20000 in
theorem gX2_number_X2_clientAt : GoodIn wsX2_number (wsV RX2 36 RX2 yX2_clientAt wsX2_clientAt) := goodIn_app (goodIn_of _ (by decide +kernel)) ggX2_number_X2_clientAt
theorem dX2_number_0 : decode cX2_number 0 = .ok (.aload_n 0, 1) := by decide +kernel
theorem dX2_number_1 : decode cX2_number 1 = .ok (.iload_n 1, 1) := by decide +kernel
theorem dX2_number_2 : decode cX2_number 2 = .ok (.invokevirtual 36, 3) := by decide +kernel
theorem dX2_number_5 : decode cX2_number 5 = .ok (.astore_n 2, 1) := by decide +kernel
theorem dX2_number_6 : decode cX2_number 6 = .ok (.aload_n 2, 1) := by decide +kernel
theorem dX2_number_7 : decode cX2_number 7 = .ok (.ifnonnull 8, 3) := by decide +kernel
theorem dX2_number_10 : decode cX2_number 10 = .ok (.bipush (-9), 2) := by decide +kernel
theorem dX2_number_12 : decode cX2_number 12 = .ok (.goto 7, 3) := by decide +kernel
theorem dX2_number_15 : decode cX2_number 15 = .ok (.aload_n 2, 1) := by decide +kernel
theorem dX2_number_16 : decode cX2_number 16 = .ok (.getfield 123, 3) := by decide +kernel
theorem dX2_number_19 : decode cX2_number 19 = .ok (.ireturn, 1) := by decide +kernel
set_option maxRecDepth 20000 in
theorem ggX2_epochOf_X2_clientAt : GoodIn wsX2_epochOf wsX2_clientAt := goodIn_r _ [5, 6, 19, 20, 21, 22, 23, 24] (by decide +kernel) (by decide +kernel)
set_option maxRecDepth 20000 in
theorem gX2_epochOf_X2_clientAt : GoodIn wsX2_epochOf (wsV RX2 36 RX2 yX2_clientAt wsX2_clientAt) := goodIn_app (goodIn_of _ (by decide +kernel)) ggX2_epochOf_X2_clientAt
theorem dX2_epochOf_0 : decode cX2_epochOf 0 = .ok (.aload_n 0, 1) := by decide +kernel
theorem dX2_epochOf_1 : decode cX2_epochOf 1 = .ok (.iload_n 1, 1) := by decide +kernel
theorem dX2_epochOf_2 : decode cX2_epochOf 2 = .ok (.invokevirtual 36, 3) := by decide +kernel
theorem dX2_epochOf_5 : decode cX2_epochOf 5 = .ok (.astore_n 2, 1) := by decide +kernel
theorem dX2_epochOf_6 : decode cX2_epochOf 6 = .ok (.aload_n 2, 1) := by decide +kernel
theorem dX2_epochOf_7 : decode cX2_epochOf 7 = .ok (.ifnonnull 8, 3) := by decide +kernel
theorem dX2_epochOf_10 : decode cX2_epochOf 10 = .ok (.bipush (-9), 2) := by decide +kernel
theorem dX2_epochOf_12 : decode cX2_epochOf 12 = .ok (.goto 7, 3) := by decide +kernel
theorem dX2_epochOf_15 : decode cX2_epochOf 15 = .ok (.aload_n 2, 1) := by decide +kernel
theorem dX2_epochOf_16 : decode cX2_epochOf 16 = .ok (.getfield 119, 3) := by decide +kernel
theorem dX2_epochOf_19 : decode cX2_epochOf 19 = .ok (.ireturn, 1) := by decide +kernel
set_option maxRecDepth 20000 in
theorem ggX2_membersOf_X2_clientAt : GoodIn wsX2_membersOf wsX2_clientAt := goodIn_r _ [5, 6, 19, 20, 21, 22, 23, 24] (by decide +kernel) (by decide +kernel)
set_option maxRecDepth 20000 in
theorem gX2_membersOf_X2_clientAt : GoodIn wsX2_membersOf (wsV RX2 36 RX2 yX2_clientAt wsX2_clientAt) := goodIn_app (goodIn_of _ (by decide +kernel)) ggX2_membersOf_X2_clientAt
theorem dX2_membersOf_0 : decode cX2_membersOf 0 = .ok (.aload_n 0, 1) := by decide +kernel
theorem dX2_membersOf_1 : decode cX2_membersOf 1 = .ok (.iload_n 1, 1) := by decide +kernel
theorem dX2_membersOf_2 : decode cX2_membersOf 2 = .ok (.invokevirtual 36, 3) := by decide +kernel
theorem dX2_membersOf_5 : decode cX2_membersOf 5 = .ok (.astore_n 2, 1) := by decide +kernel
theorem dX2_membersOf_6 : decode cX2_membersOf 6 = .ok (.aload_n 2, 1) := by decide +kernel
theorem dX2_membersOf_7 : decode cX2_membersOf 7 = .ok (.ifnonnull 8, 3) := by decide +kernel
theorem dX2_membersOf_10 : decode cX2_membersOf 10 = .ok (.bipush (-9), 2) := by decide +kernel
theorem dX2_membersOf_12 : decode cX2_membersOf 12 = .ok (.goto 7, 3) := by decide +kernel
theorem dX2_membersOf_15 : decode cX2_membersOf 15 = .ok (.aload_n 2, 1) := by decide +kernel
theorem dX2_membersOf_16 : decode cX2_membersOf 16 = .ok (.getfield 75, 3) := by decide +kernel
theorem dX2_membersOf_19 : decode cX2_membersOf 19 = .ok (.ireturn, 1) := by decide +kernel
theorem dX2_tail_0 : decode cX2_tail 0 = .ok (.aload_n 0, 1) := by decide +kernel
theorem dX2_tail_1 : decode cX2_tail 1 = .ok (.getfield 31, 3) := by decide +kernel
theorem dX2_tail_4 : decode cX2_tail 4 = .ok (.ireturn, 1) := by decide +kernel
set_option maxRecDepth 20000 in
theorem ggX2_unitEpoch_X2_unitAt : GoodIn wsX2_unitEpoch wsX2_unitAt := goodIn_r _ [5, 6, 10, 11, 12, 13, 14, 15] (by decide +kernel) (by decide +kernel)
set_option maxRecDepth 20000 in
theorem gX2_unitEpoch_X2_unitAt : GoodIn wsX2_unitEpoch (wsV RX2 90 RX2 yX2_unitAt wsX2_unitAt) := goodIn_app (goodIn_of _ (by decide +kernel)) ggX2_unitEpoch_X2_unitAt
theorem dX2_unitEpoch_0 : decode cX2_unitEpoch 0 = .ok (.aload_n 0, 1) := by decide +kernel
theorem dX2_unitEpoch_1 : decode cX2_unitEpoch 1 = .ok (.iload_n 1, 1) := by decide +kernel
theorem dX2_unitEpoch_2 : decode cX2_unitEpoch 2 = .ok (.invokevirtual 90, 3) := by decide +kernel
theorem dX2_unitEpoch_5 : decode cX2_unitEpoch 5 = .ok (.astore_n 2, 1) := by decide +kernel
theorem dX2_unitEpoch_6 : decode cX2_unitEpoch 6 = .ok (.aload_n 2, 1) := by decide +kernel
theorem dX2_unitEpoch_7 : decode cX2_unitEpoch 7 = .ok (.ifnonnull 8, 3) := by decide +kernel
theorem dX2_unitEpoch_10 : decode cX2_unitEpoch 10 = .ok (.bipush (-9), 2) := by decide +kernel
theorem dX2_unitEpoch_12 : decode cX2_unitEpoch 12 = .ok (.goto 7, 3) := by decide +kernel
theorem dX2_unitEpoch_15 : decode cX2_unitEpoch 15 = .ok (.aload_n 2, 1) := by decide +kernel
theorem dX2_unitEpoch_16 : decode cX2_unitEpoch 16 = .ok (.getfield 102, 3) := by decide +kernel
theorem dX2_unitEpoch_19 : decode cX2_unitEpoch 19 = .ok (.ireturn, 1) := by decide +kernel
set_option maxRecDepth 20000 in
theorem ggX2_cell_X2_unitAt : GoodIn wsX2_cell wsX2_unitAt := goodIn_r _ [5, 6, 14, 15, 16, 17, 18, 19] (by decide +kernel) (by decide +kernel)
set_option maxRecDepth 20000 in
theorem gX2_cell_X2_unitAt : GoodIn wsX2_cell (wsV RX2 90 RX2 yX2_unitAt wsX2_unitAt) := goodIn_app (goodIn_of _ (by decide +kernel)) ggX2_cell_X2_unitAt
set_option maxRecDepth 20000 in
theorem ggX2_cell_X1_contentAt : GoodIn wsX2_cell wsX1_contentAt := goodIn_r _ [10, 11, 12, 4, 13, 20, 21, 22] (by decide +kernel) (by decide +kernel)
set_option maxRecDepth 20000 in
theorem gX2_cell_X1_contentAt_n126 : GoodIn wsX2_cell (wsX1_contentAt) := ggX2_cell_X1_contentAt
theorem dX2_cell_0 : decode cX2_cell 0 = .ok (.aload_n 0, 1) := by decide +kernel
theorem dX2_cell_1 : decode cX2_cell 1 = .ok (.iload_n 1, 1) := by decide +kernel
theorem dX2_cell_2 : decode cX2_cell 2 = .ok (.invokevirtual 90, 3) := by decide +kernel
theorem dX2_cell_5 : decode cX2_cell 5 = .ok (.astore_n 3, 1) := by decide +kernel
theorem dX2_cell_6 : decode cX2_cell 6 = .ok (.aload_n 3, 1) := by decide +kernel
theorem dX2_cell_7 : decode cX2_cell 7 = .ok (.ifnonnull 8, 3) := by decide +kernel
theorem dX2_cell_10 : decode cX2_cell 10 = .ok (.bipush (-9), 2) := by decide +kernel
theorem dX2_cell_12 : decode cX2_cell 12 = .ok (.goto 8, 3) := by decide +kernel
theorem dX2_cell_15 : decode cX2_cell 15 = .ok (.aload_n 3, 1) := by decide +kernel
theorem dX2_cell_16 : decode cX2_cell 16 = .ok (.iload_n 2, 1) := by decide +kernel
theorem dX2_cell_17 : decode cX2_cell 17 = .ok (.invokevirtual 126, 3) := by decide +kernel
theorem dX2_cell_20 : decode cX2_cell 20 = .ok (.ireturn, 1) := by decide +kernel
theorem dX2_clientAt_0 : decode cX2_clientAt 0 = .ok (.iload_n 1, 1) := by decide +kernel
theorem dX2_clientAt_1 : decode cX2_clientAt 1 = .ok (.ifCond .lt 17, 3) := by decide +kernel
theorem dX2_clientAt_4 : decode cX2_clientAt 4 = .ok (.iload_n 1, 1) := by decide +kernel
theorem dX2_clientAt_5 : decode cX2_clientAt 5 = .ok (.iconst 3, 1) := by decide +kernel
theorem dX2_clientAt_6 : decode cX2_clientAt 6 = .ok (.if_icmp .ge 12, 3) := by decide +kernel
theorem dX2_clientAt_9 : decode cX2_clientAt 9 = .ok (.aload_n 0, 1) := by decide +kernel
theorem dX2_clientAt_10 : decode cX2_clientAt 10 = .ok (.getfield 17, 3) := by decide +kernel
theorem dX2_clientAt_13 : decode cX2_clientAt 13 = .ok (.iload_n 1, 1) := by decide +kernel
theorem dX2_clientAt_14 : decode cX2_clientAt 14 = .ok (.aaload, 1) := by decide +kernel
theorem dX2_clientAt_15 : decode cX2_clientAt 15 = .ok (.goto 4, 3) := by decide +kernel
theorem dX2_clientAt_18 : decode cX2_clientAt 18 = .ok (.aconst_null, 1) := by decide +kernel
theorem dX2_clientAt_19 : decode cX2_clientAt 19 = .ok (.areturn, 1) := by decide +kernel
theorem dX2_unitAt_0 : decode cX2_unitAt 0 = .ok (.iload_n 1, 1) := by decide +kernel
theorem dX2_unitAt_1 : decode cX2_unitAt 1 = .ok (.ifCond .lt 18, 3) := by decide +kernel
theorem dX2_unitAt_4 : decode cX2_unitAt 4 = .ok (.iload_n 1, 1) := by decide +kernel
theorem dX2_unitAt_5 : decode cX2_unitAt 5 = .ok (.bipush 6, 2) := by decide +kernel
theorem dX2_unitAt_7 : decode cX2_unitAt 7 = .ok (.if_icmp .ge 12, 3) := by decide +kernel
theorem dX2_unitAt_10 : decode cX2_unitAt 10 = .ok (.aload_n 0, 1) := by decide +kernel
theorem dX2_unitAt_11 : decode cX2_unitAt 11 = .ok (.getfield 11, 3) := by decide +kernel
theorem dX2_unitAt_14 : decode cX2_unitAt 14 = .ok (.iload_n 1, 1) := by decide +kernel
theorem dX2_unitAt_15 : decode cX2_unitAt 15 = .ok (.aaload, 1) := by decide +kernel
theorem dX2_unitAt_16 : decode cX2_unitAt 16 = .ok (.goto 4, 3) := by decide +kernel
theorem dX2_unitAt_19 : decode cX2_unitAt 19 = .ok (.aconst_null, 1) := by decide +kernel
theorem dX2_unitAt_20 : decode cX2_unitAt 20 = .ok (.areturn, 1) := by decide +kernel
theorem dX2_isPosition_0 : decode cX2_isPosition 0 = .ok (.iload_n 0, 1) := by decide +kernel
theorem dX2_isPosition_1 : decode cX2_isPosition 1 = .ok (.ifCond .lt 13, 3) := by decide +kernel
theorem dX2_isPosition_4 : decode cX2_isPosition 4 = .ok (.iload_n 0, 1) := by decide +kernel
theorem dX2_isPosition_5 : decode cX2_isPosition 5 = .ok (.bipush 32, 2) := by decide +kernel
theorem dX2_isPosition_7 : decode cX2_isPosition 7 = .ok (.if_icmp .ge 7, 3) := by decide +kernel
theorem dX2_isPosition_10 : decode cX2_isPosition 10 = .ok (.iconst 1, 1) := by decide +kernel
theorem dX2_isPosition_11 : decode cX2_isPosition 11 = .ok (.goto 4, 3) := by decide +kernel
theorem dX2_isPosition_14 : decode cX2_isPosition 14 = .ok (.iconst 0, 1) := by decide +kernel
theorem dX2_isPosition_15 : decode cX2_isPosition 15 = .ok (.ireturn, 1) := by decide +kernel
theorem dX2_lowestUnit_0 : decode cX2_lowestUnit 0 = .ok (.iconst 0, 1) := by decide +kernel
theorem dX2_lowestUnit_1 : decode cX2_lowestUnit 1 = .ok (.istore_n 1, 1) := by decide +kernel
theorem dX2_lowestUnit_2 : decode cX2_lowestUnit 2 = .ok (.iload_n 1, 1) := by decide +kernel
theorem dX2_lowestUnit_3 : decode cX2_lowestUnit 3 = .ok (.bipush 6, 2) := by decide +kernel
theorem dX2_lowestUnit_5 : decode cX2_lowestUnit 5 = .ok (.if_icmp .ge 19, 3) := by decide +kernel
theorem dX2_lowestUnit_8 : decode cX2_lowestUnit 8 = .ok (.iload_n 0, 1) := by decide +kernel
theorem dX2_lowestUnit_9 : decode cX2_lowestUnit 9 = .ok (.iconst 1, 1) := by decide +kernel
theorem dX2_lowestUnit_10 : decode cX2_lowestUnit 10 = .ok (.iload_n 1, 1) := by decide +kernel
theorem dX2_lowestUnit_11 : decode cX2_lowestUnit 11 = .ok (.ishl, 1) := by decide +kernel
theorem dX2_lowestUnit_12 : decode cX2_lowestUnit 12 = .ok (.iand, 1) := by decide +kernel
theorem dX2_lowestUnit_13 : decode cX2_lowestUnit 13 = .ok (.ifCond .eq 5, 3) := by decide +kernel
theorem dX2_lowestUnit_16 : decode cX2_lowestUnit 16 = .ok (.iload_n 1, 1) := by decide +kernel
theorem dX2_lowestUnit_17 : decode cX2_lowestUnit 17 = .ok (.ireturn, 1) := by decide +kernel
theorem dX2_lowestUnit_18 : decode cX2_lowestUnit 18 = .ok (.iinc 1 1, 3) := by decide +kernel
theorem dX2_lowestUnit_21 : decode cX2_lowestUnit 21 = .ok (.goto (-19), 3) := by decide +kernel
theorem dX2_lowestUnit_24 : decode cX2_lowestUnit 24 = .ok (.iconst (-1), 1) := by decide +kernel
theorem dX2_lowestUnit_25 : decode cX2_lowestUnit 25 = .ok (.ireturn, 1) := by decide +kernel
theorem dX2_withoutLowest_0 : decode cX2_withoutLowest 0 = .ok (.iload_n 0, 1) := by decide +kernel
theorem dX2_withoutLowest_1 : decode cX2_withoutLowest 1 = .ok (.iload_n 0, 1) := by decide +kernel
theorem dX2_withoutLowest_2 : decode cX2_withoutLowest 2 = .ok (.iconst 1, 1) := by decide +kernel
theorem dX2_withoutLowest_3 : decode cX2_withoutLowest 3 = .ok (.isub, 1) := by decide +kernel
theorem dX2_withoutLowest_4 : decode cX2_withoutLowest 4 = .ok (.iand, 1) := by decide +kernel
theorem dX2_withoutLowest_5 : decode cX2_withoutLowest 5 = .ok (.ireturn, 1) := by decide +kernel
theorem dX2_highestOf_0 : decode cX2_highestOf 0 = .ok (.iconst 5, 1) := by decide +kernel
theorem dX2_highestOf_1 : decode cX2_highestOf 1 = .ok (.istore_n 1, 1) := by decide +kernel
theorem dX2_highestOf_2 : decode cX2_highestOf 2 = .ok (.iload_n 1, 1) := by decide +kernel
theorem dX2_highestOf_3 : decode cX2_highestOf 3 = .ok (.ifCond .lt 21, 3) := by decide +kernel
theorem dX2_highestOf_6 : decode cX2_highestOf 6 = .ok (.iload_n 0, 1) := by decide +kernel
theorem dX2_highestOf_7 : decode cX2_highestOf 7 = .ok (.iconst 1, 1) := by decide +kernel
theorem dX2_highestOf_8 : decode cX2_highestOf 8 = .ok (.iload_n 1, 1) := by decide +kernel
theorem dX2_highestOf_9 : decode cX2_highestOf 9 = .ok (.ishl, 1) := by decide +kernel
theorem dX2_highestOf_10 : decode cX2_highestOf 10 = .ok (.iand, 1) := by decide +kernel
theorem dX2_highestOf_11 : decode cX2_highestOf 11 = .ok (.ifCond .eq 7, 3) := by decide +kernel
theorem dX2_highestOf_14 : decode cX2_highestOf 14 = .ok (.iconst 1, 1) := by decide +kernel
theorem dX2_highestOf_15 : decode cX2_highestOf 15 = .ok (.iload_n 1, 1) := by decide +kernel
theorem dX2_highestOf_16 : decode cX2_highestOf 16 = .ok (.ishl, 1) := by decide +kernel
theorem dX2_highestOf_17 : decode cX2_highestOf 17 = .ok (.ireturn, 1) := by decide +kernel
theorem dX2_highestOf_18 : decode cX2_highestOf 18 = .ok (.iinc 1 (-1), 3) := by decide +kernel
theorem dX2_highestOf_21 : decode cX2_highestOf 21 = .ok (.goto (-19), 3) := by decide +kernel
theorem dX2_highestOf_24 : decode cX2_highestOf 24 = .ok (.iconst 0, 1) := by decide +kernel
theorem dX2_highestOf_25 : decode cX2_highestOf 25 = .ok (.ireturn, 1) := by decide +kernel
set_option maxRecDepth 20000 in
theorem ggX2_stepWithoutUnit_X2_askSequencer : GoodIn wsX2_stepWithoutUnit wsX2_askSequencer := goodIn_r _ [5, 6, 7, 8, 9, 10, 11, 12, 13, 14, 15, 16, 17, 18, 29, 30, 31, 32, 33, 34, 35, 36, 37, 38, 39, 40, 41, 42, 43, 44, 45, 46] (by decide +kernel) (by decide +kernel)
set_option maxRecDepth 20000 in
theorem gX2_stepWithoutUnit_X2_askSequencer : GoodIn wsX2_stepWithoutUnit (wsV RX2 129 RX2 yX2_askSequencer wsX2_askSequencer) := goodIn_app (goodIn_of _ (by decide +kernel)) ggX2_stepWithoutUnit_X2_askSequencer
set_option maxRecDepth 20000 in
theorem ggX2_stepWithoutUnit_X0_end : GoodIn wsX2_stepWithoutUnit wsX0_end := goodIn_r _ [11, 12, 13, 14, 29, 30, 31, 32, 33, 34, 35, 36, 37, 38, 39, 40] (by decide +kernel) (by decide +kernel)
set_option maxRecDepth 20000 in
theorem gX2_stepWithoutUnit_X0_end_n108 : GoodIn wsX2_stepWithoutUnit (wsX0_end) := ggX2_stepWithoutUnit_X0_end
set_option maxRecDepth 20000 in
theorem ggX2_stepWithoutUnit_X2_askStore : GoodIn wsX2_stepWithoutUnit wsX2_askStore := goodIn_r _ [22, 23, 24, 6, 7, 8, 9, 10, 11, 12, 13, 14, 25, 26, 27, 4, 28, 41, 42, 43, 44, 45, 46, 29, 30, 31, 32, 33, 34, 35, 36, 37, 38, 39, 40] (by decide +kernel) (by decide +kernel)
set_option maxRecDepth 20000 in
theorem gX2_stepWithoutUnit_X2_askStore : GoodIn wsX2_stepWithoutUnit (wsV RX2 132 RX2 yX2_askStore wsX2_askStore) := goodIn_app (goodIn_of _ (by decide +kernel)) ggX2_stepWithoutUnit_X2_askStore
theorem dX2_stepWithoutUnit_0 : decode cX2_stepWithoutUnit 0 = .ok (.aload_n 1, 1) := by decide +kernel
theorem dX2_stepWithoutUnit_1 : decode cX2_stepWithoutUnit 1 = .ok (.getfield 40, 3) := by decide +kernel
theorem dX2_stepWithoutUnit_4 : decode cX2_stepWithoutUnit 4 = .ok (.lookupswitch 44 #[(1, 28), (4, 34)], 28) := by decide +kernel
theorem dX2_stepWithoutUnit_32 : decode cX2_stepWithoutUnit 32 = .ok (.aload_n 0, 1) := by decide +kernel
theorem dX2_stepWithoutUnit_33 : decode cX2_stepWithoutUnit 33 = .ok (.aload_n 1, 1) := by decide +kernel
theorem dX2_stepWithoutUnit_34 : decode cX2_stepWithoutUnit 34 = .ok (.invokevirtual 129, 3) := by decide +kernel
theorem dX2_stepWithoutUnit_37 : decode cX2_stepWithoutUnit 37 = .ok (.ireturn, 1) := by decide +kernel
theorem dX2_stepWithoutUnit_38 : decode cX2_stepWithoutUnit 38 = .ok (.aload_n 1, 1) := by decide +kernel
theorem dX2_stepWithoutUnit_39 : decode cX2_stepWithoutUnit 39 = .ok (.iconst 1, 1) := by decide +kernel
theorem dX2_stepWithoutUnit_40 : decode cX2_stepWithoutUnit 40 = .ok (.aload_n 1, 1) := by decide +kernel
theorem dX2_stepWithoutUnit_41 : decode cX2_stepWithoutUnit 41 = .ok (.getfield 68, 3) := by decide +kernel
theorem dX2_stepWithoutUnit_44 : decode cX2_stepWithoutUnit 44 = .ok (.invokevirtual 108, 3) := by decide +kernel
theorem dX2_stepWithoutUnit_47 : decode cX2_stepWithoutUnit 47 = .ok (.ireturn, 1) := by decide +kernel
theorem dX2_stepWithoutUnit_48 : decode cX2_stepWithoutUnit 48 = .ok (.aload_n 0, 1) := by decide +kernel
theorem dX2_stepWithoutUnit_49 : decode cX2_stepWithoutUnit 49 = .ok (.aload_n 1, 1) := by decide +kernel
theorem dX2_stepWithoutUnit_50 : decode cX2_stepWithoutUnit 50 = .ok (.invokevirtual 132, 3) := by decide +kernel
theorem dX2_stepWithoutUnit_53 : decode cX2_stepWithoutUnit 53 = .ok (.ireturn, 1) := by decide +kernel
set_option maxRecDepth 20000 in
theorem ggX2_stepAtUnit_X2_appendAt : GoodIn wsX2_stepAtUnit wsX2_appendAt := goodIn_r _ [4, 5, 6, 7, 8, 9, 10, 3, 11, 12, 13, 14, 15, 16, 17, 18, 19, 20, 21, 22, 23, 24, 25, 26, 27, 28, 29, 30, 31, 32, 33, 34, 35, 36, 37, 64, 65, 66, 67, 68, 69, 70, 71, 72, 73, 74, 75, 76, 77, 78] (by decide +kernel) (by decide +kernel)
set_option maxRecDepth 20000 in
theorem gX2_stepAtUnit_X2_appendAt : GoodIn wsX2_stepAtUnit (va_wsS RX2 135 yX2_appendAt wsX2_appendAt) := goodIn_app (goodIn_of _ (by decide +kernel)) ggX2_stepAtUnit_X2_appendAt
set_option maxRecDepth 20000 in
theorem ggX2_stepAtUnit_X2_fillAt : GoodIn wsX2_stepAtUnit wsX2_fillAt := goodIn_r _ [40, 23, 6, 24, 25, 9, 10, 3, 11, 12, 13, 14, 15, 16, 17, 18, 19, 20, 21, 22, 5, 7, 8, 26, 27, 28, 29, 30, 31, 32, 33, 34, 35, 36, 37, 64, 65, 66, 67, 68, 69, 70, 71, 72, 73, 74, 75, 76, 77, 78] (by decide +kernel) (by decide +kernel)
set_option maxRecDepth 20000 in
theorem gX2_stepAtUnit_X2_fillAt : GoodIn wsX2_stepAtUnit (va_wsS RX2 138 yX2_fillAt wsX2_fillAt) := goodIn_app (goodIn_of _ (by decide +kernel)) ggX2_stepAtUnit_X2_fillAt
set_option maxRecDepth 20000 in
theorem ggX2_stepAtUnit_X2_readAt : GoodIn wsX2_stepAtUnit wsX2_readAt := goodIn_r _ [43, 5, 6, 7, 8, 9, 10, 3, 11, 32, 13, 33, 34, 35, 36, 37, 64, 65, 66, 67, 68, 69, 70, 71, 72, 73, 74, 75, 76, 77, 78] (by decide +kernel) (by decide +kernel)
set_option maxRecDepth 20000 in
theorem gX2_stepAtUnit_X2_readAt : GoodIn wsX2_stepAtUnit (va_wsS RX2 141 yX2_readAt wsX2_readAt) := goodIn_app (goodIn_of _ (by decide +kernel)) ggX2_stepAtUnit_X2_readAt
set_option maxRecDepth 20000 in
theorem ggX2_stepAtUnit_X2_replayAt : GoodIn wsX2_stepAtUnit wsX2_replayAt := goodIn_r _ [46, 5, 6, 7, 8, 9, 10, 3, 11, 32, 13, 33, 34, 35, 36, 37, 47, 48, 49, 17, 50, 18, 19, 20, 21, 22, 51, 52, 64, 65, 66, 67, 68, 69, 70, 71, 72, 73, 74, 75, 76, 77, 78] (by decide +kernel) (by decide +kernel)
set_option maxRecDepth 20000 in
theorem gX2_stepAtUnit_X2_replayAt : GoodIn wsX2_stepAtUnit (va_wsS RX2 144 yX2_replayAt wsX2_replayAt) := goodIn_app (goodIn_of _ (by decide +kernel)) ggX2_stepAtUnit_X2_replayAt
set_option maxRecDepth 20000 in
theorem ggX2_stepAtUnit_X2_sealAt : GoodIn wsX2_stepAtUnit wsX2_sealAt := goodIn_r _ [55, 56, 57, 58, 59, 60, 6, 61, 62, 9, 63, 29, 3, 30, 64, 65, 66, 67, 68, 69, 70, 71, 72, 73, 74, 75, 76, 77, 78] (by decide +kernel) (by decide +kernel)
set_option maxRecDepth 20000 in
theorem gX2_stepAtUnit_X2_sealAt : GoodIn wsX2_stepAtUnit (va_wsS RX2 147 yX2_sealAt wsX2_sealAt) := goodIn_app (goodIn_of _ (by decide +kernel)) ggX2_stepAtUnit_X2_sealAt
theorem dX2_stepAtUnit_0 : decode cX2_stepAtUnit 0 = .ok (.aload_n 0, 1) := by decide +kernel
theorem dX2_stepAtUnit_1 : decode cX2_stepAtUnit 1 = .ok (.getfield 40, 3) := by decide +kernel
theorem dX2_stepAtUnit_4 : decode cX2_stepAtUnit 4 = .ok (.tableswitch 56 1 4 #[32, 38, 44, 50], 32) := by decide +kernel
theorem dX2_stepAtUnit_36 : decode cX2_stepAtUnit 36 = .ok (.aload_n 0, 1) := by decide +kernel
theorem dX2_stepAtUnit_37 : decode cX2_stepAtUnit 37 = .ok (.aload_n 1, 1) := by decide +kernel
theorem dX2_stepAtUnit_38 : decode cX2_stepAtUnit 38 = .ok (.invokestatic 135, 3) := by decide +kernel
theorem dX2_stepAtUnit_41 : decode cX2_stepAtUnit 41 = .ok (.ireturn, 1) := by decide +kernel
theorem dX2_stepAtUnit_42 : decode cX2_stepAtUnit 42 = .ok (.aload_n 0, 1) := by decide +kernel
theorem dX2_stepAtUnit_43 : decode cX2_stepAtUnit 43 = .ok (.aload_n 1, 1) := by decide +kernel
theorem dX2_stepAtUnit_44 : decode cX2_stepAtUnit 44 = .ok (.invokestatic 138, 3) := by decide +kernel
theorem dX2_stepAtUnit_47 : decode cX2_stepAtUnit 47 = .ok (.ireturn, 1) := by decide +kernel
theorem dX2_stepAtUnit_48 : decode cX2_stepAtUnit 48 = .ok (.aload_n 0, 1) := by decide +kernel
theorem dX2_stepAtUnit_49 : decode cX2_stepAtUnit 49 = .ok (.aload_n 1, 1) := by decide +kernel
theorem dX2_stepAtUnit_50 : decode cX2_stepAtUnit 50 = .ok (.invokestatic 141, 3) := by decide +kernel
theorem dX2_stepAtUnit_53 : decode cX2_stepAtUnit 53 = .ok (.ireturn, 1) := by decide +kernel
theorem dX2_stepAtUnit_54 : decode cX2_stepAtUnit 54 = .ok (.aload_n 0, 1) := by decide +kernel
theorem dX2_stepAtUnit_55 : decode cX2_stepAtUnit 55 = .ok (.aload_n 1, 1) := by decide +kernel
theorem dX2_stepAtUnit_56 : decode cX2_stepAtUnit 56 = .ok (.invokestatic 144, 3) := by decide +kernel
theorem dX2_stepAtUnit_59 : decode cX2_stepAtUnit 59 = .ok (.ireturn, 1) := by decide +kernel
theorem dX2_stepAtUnit_60 : decode cX2_stepAtUnit 60 = .ok (.aload_n 0, 1) := by decide +kernel
theorem dX2_stepAtUnit_61 : decode cX2_stepAtUnit 61 = .ok (.aload_n 1, 1) := by decide +kernel
theorem dX2_stepAtUnit_62 : decode cX2_stepAtUnit 62 = .ok (.invokestatic 147, 3) := by decide +kernel
theorem dX2_stepAtUnit_65 : decode cX2_stepAtUnit 65 = .ok (.ireturn, 1) := by decide +kernel
set_option maxRecDepth 20000 in
theorem ggX2_askSequencer_X0_end : GoodIn wsX2_askSequencer wsX0_end := goodIn_r _ [6, 7, 8, 9, 14, 15, 16, 17, 18, 19, 20, 21, 22, 23, 24, 25] (by decide +kernel) (by decide +kernel)
set_option maxRecDepth 20000 in
theorem gX2_askSequencer_X0_end_n108 : GoodIn wsX2_askSequencer (wsX0_end) := ggX2_askSequencer_X0_end
set_option maxRecDepth 20000 in
theorem ggX2_askSequencer_X0_chainOf : GoodIn wsX2_askSequencer wsX0_chainOf := goodIn_r _ [12, 13, 14, 15, 16, 17, 18, 19, 20, 21, 22, 23, 24, 25] (by decide +kernel) (by decide +kernel)
set_option maxRecDepth 20000 in
theorem gX2_askSequencer_X0_chainOf_n58 : GoodIn wsX2_askSequencer (wsX0_chainOf) := ggX2_askSequencer_X0_chainOf
theorem dX2_askSequencer_0 : decode cX2_askSequencer 0 = .ok (.aload_n 1, 1) := by decide +kernel
theorem dX2_askSequencer_1 : decode cX2_askSequencer 1 = .ok (.getfield 119, 3) := by decide +kernel
theorem dX2_askSequencer_4 : decode cX2_askSequencer 4 = .ok (.aload_n 0, 1) := by decide +kernel
theorem dX2_askSequencer_5 : decode cX2_askSequencer 5 = .ok (.getfield 28, 3) := by decide +kernel
theorem dX2_askSequencer_8 : decode cX2_askSequencer 8 = .ok (.if_icmp .eq 10, 3) := by decide +kernel
theorem dX2_askSequencer_11 : decode cX2_askSequencer 11 = .ok (.aload_n 1, 1) := by decide +kernel
theorem dX2_askSequencer_12 : decode cX2_askSequencer 12 = .ok (.iconst 2, 1) := by decide +kernel
theorem dX2_askSequencer_13 : decode cX2_askSequencer 13 = .ok (.iconst 0, 1) := by decide +kernel
theorem dX2_askSequencer_14 : decode cX2_askSequencer 14 = .ok (.invokevirtual 108, 3) := by decide +kernel
theorem dX2_askSequencer_17 : decode cX2_askSequencer 17 = .ok (.ireturn, 1) := by decide +kernel
theorem dX2_askSequencer_18 : decode cX2_askSequencer 18 = .ok (.aload_n 0, 1) := by decide +kernel
theorem dX2_askSequencer_19 : decode cX2_askSequencer 19 = .ok (.getfield 31, 3) := by decide +kernel
theorem dX2_askSequencer_22 : decode cX2_askSequencer 22 = .ok (.bipush 32, 2) := by decide +kernel
theorem dX2_askSequencer_24 : decode cX2_askSequencer 24 = .ok (.if_icmp .lt 10, 3) := by decide +kernel
theorem dX2_askSequencer_27 : decode cX2_askSequencer 27 = .ok (.aload_n 1, 1) := by decide +kernel
theorem dX2_askSequencer_28 : decode cX2_askSequencer 28 = .ok (.iconst 4, 1) := by decide +kernel
theorem dX2_askSequencer_29 : decode cX2_askSequencer 29 = .ok (.iconst 0, 1) := by decide +kernel
theorem dX2_askSequencer_30 : decode cX2_askSequencer 30 = .ok (.invokevirtual 108, 3) := by decide +kernel
theorem dX2_askSequencer_33 : decode cX2_askSequencer 33 = .ok (.ireturn, 1) := by decide +kernel
theorem dX2_askSequencer_34 : decode cX2_askSequencer 34 = .ok (.aload_n 1, 1) := by decide +kernel
theorem dX2_askSequencer_35 : decode cX2_askSequencer 35 = .ok (.aload_n 0, 1) := by decide +kernel
theorem dX2_askSequencer_36 : decode cX2_askSequencer 36 = .ok (.getfield 31, 3) := by decide +kernel
theorem dX2_askSequencer_39 : decode cX2_askSequencer 39 = .ok (.putfield 55, 3) := by decide +kernel
theorem dX2_askSequencer_42 : decode cX2_askSequencer 42 = .ok (.aload_n 1, 1) := by decide +kernel
theorem dX2_askSequencer_43 : decode cX2_askSequencer 43 = .ok (.aload_n 1, 1) := by decide +kernel
theorem dX2_askSequencer_44 : decode cX2_askSequencer 44 = .ok (.aload_n 1, 1) := by decide +kernel
theorem dX2_askSequencer_45 : decode cX2_askSequencer 45 = .ok (.getfield 55, 3) := by decide +kernel
theorem dX2_askSequencer_48 : decode cX2_askSequencer 48 = .ok (.invokevirtual 58, 3) := by decide +kernel
theorem dX2_askSequencer_51 : decode cX2_askSequencer 51 = .ok (.putfield 84, 3) := by decide +kernel
theorem dX2_askSequencer_54 : decode cX2_askSequencer 54 = .ok (.aload_n 0, 1) := by decide +kernel
theorem dX2_askSequencer_55 : decode cX2_askSequencer 55 = .ok (.dup, 1) := by decide +kernel
theorem dX2_askSequencer_56 : decode cX2_askSequencer 56 = .ok (.getfield 31, 3) := by decide +kernel
theorem dX2_askSequencer_59 : decode cX2_askSequencer 59 = .ok (.iconst 1, 1) := by decide +kernel
theorem dX2_askSequencer_60 : decode cX2_askSequencer 60 = .ok (.iadd, 1) := by decide +kernel
theorem dX2_askSequencer_61 : decode cX2_askSequencer 61 = .ok (.putfield 31, 3) := by decide +kernel
theorem dX2_askSequencer_64 : decode cX2_askSequencer 64 = .ok (.iconst 0, 1) := by decide +kernel
theorem dX2_askSequencer_65 : decode cX2_askSequencer 65 = .ok (.ireturn, 1) := by decide +kernel
set_option maxRecDepth 20000 in
theorem ggX2_askStore_X0_end : GoodIn wsX2_askStore wsX0_end := goodIn_r _ [8, 9, 10, 11, 23, 24, 25, 26, 27, 28, 29, 30, 31, 32, 33, 34] (by decide +kernel) (by decide +kernel)
set_option maxRecDepth 20000 in
theorem gX2_askStore_X0_end_n108 : GoodIn wsX2_askStore (wsX0_end) := ggX2_askStore_X0_end
set_option maxRecDepth 20000 in
theorem ggX2_askStore_X2_takeStoreProjection : GoodIn wsX2_askStore wsX2_takeStoreProjection := goodIn_r _ [16, 1, 2, 17, 18, 19, 20, 21, 22, 23, 24, 25, 26, 27, 28, 29, 30, 31, 32, 33, 34] (by decide +kernel) (by decide +kernel)
set_option maxRecDepth 20000 in
theorem gX2_askStore_X2_takeStoreProjection : GoodIn wsX2_askStore (wsV RX2 115 RX2 yX2_takeStoreProjection wsX2_takeStoreProjection) := goodIn_app (goodIn_of _ (by decide +kernel)) ggX2_askStore_X2_takeStoreProjection
theorem dX2_askStore_0 : decode cX2_askStore 0 = .ok (.aload_n 0, 1) := by decide +kernel
theorem dX2_askStore_1 : decode cX2_askStore 1 = .ok (.getfield 21, 3) := by decide +kernel
theorem dX2_askStore_4 : decode cX2_askStore 4 = .ok (.aload_n 1, 1) := by decide +kernel
theorem dX2_askStore_5 : decode cX2_askStore 5 = .ok (.getfield 119, 3) := by decide +kernel
theorem dX2_askStore_8 : decode cX2_askStore 8 = .ok (.if_icmp .eq 13, 3) := by decide +kernel
theorem dX2_askStore_11 : decode cX2_askStore 11 = .ok (.aload_n 1, 1) := by decide +kernel
theorem dX2_askStore_12 : decode cX2_askStore 12 = .ok (.iconst 5, 1) := by decide +kernel
theorem dX2_askStore_13 : decode cX2_askStore 13 = .ok (.aload_n 0, 1) := by decide +kernel
theorem dX2_askStore_14 : decode cX2_askStore 14 = .ok (.getfield 21, 3) := by decide +kernel
theorem dX2_askStore_17 : decode cX2_askStore 17 = .ok (.invokevirtual 108, 3) := by decide +kernel
theorem dX2_askStore_20 : decode cX2_askStore 20 = .ok (.ireturn, 1) := by decide +kernel
theorem dX2_askStore_21 : decode cX2_askStore 21 = .ok (.aload_n 0, 1) := by decide +kernel
theorem dX2_askStore_22 : decode cX2_askStore 22 = .ok (.aload_n 1, 1) := by decide +kernel
theorem dX2_askStore_23 : decode cX2_askStore 23 = .ok (.getfield 119, 3) := by decide +kernel
theorem dX2_askStore_26 : decode cX2_askStore 26 = .ok (.iconst 1, 1) := by decide +kernel
theorem dX2_askStore_27 : decode cX2_askStore 27 = .ok (.iadd, 1) := by decide +kernel
theorem dX2_askStore_28 : decode cX2_askStore 28 = .ok (.putfield 21, 3) := by decide +kernel
theorem dX2_askStore_31 : decode cX2_askStore 31 = .ok (.aload_n 0, 1) := by decide +kernel
theorem dX2_askStore_32 : decode cX2_askStore 32 = .ok (.aload_n 1, 1) := by decide +kernel
theorem dX2_askStore_33 : decode cX2_askStore 33 = .ok (.getfield 78, 3) := by decide +kernel
theorem dX2_askStore_36 : decode cX2_askStore 36 = .ok (.putfield 25, 3) := by decide +kernel
theorem dX2_askStore_39 : decode cX2_askStore 39 = .ok (.aload_n 0, 1) := by decide +kernel
theorem dX2_askStore_40 : decode cX2_askStore 40 = .ok (.aload_n 0, 1) := by decide +kernel
theorem dX2_askStore_41 : decode cX2_askStore 41 = .ok (.getfield 21, 3) := by decide +kernel
theorem dX2_askStore_44 : decode cX2_askStore 44 = .ok (.putfield 28, 3) := by decide +kernel
theorem dX2_askStore_47 : decode cX2_askStore 47 = .ok (.aload_n 0, 1) := by decide +kernel
theorem dX2_askStore_48 : decode cX2_askStore 48 = .ok (.aload_n 1, 1) := by decide +kernel
theorem dX2_askStore_49 : decode cX2_askStore 49 = .ok (.getfield 81, 3) := by decide +kernel
theorem dX2_askStore_52 : decode cX2_askStore 52 = .ok (.putfield 31, 3) := by decide +kernel
theorem dX2_askStore_55 : decode cX2_askStore 55 = .ok (.aload_n 0, 1) := by decide +kernel
theorem dX2_askStore_56 : decode cX2_askStore 56 = .ok (.aload_n 1, 1) := by decide +kernel
theorem dX2_askStore_57 : decode cX2_askStore 57 = .ok (.invokevirtual 115, 3) := by decide +kernel
theorem dX2_askStore_60 : decode cX2_askStore 60 = .ok (.aload_n 1, 1) := by decide +kernel
theorem dX2_askStore_61 : decode cX2_askStore 61 = .ok (.iconst 1, 1) := by decide +kernel
theorem dX2_askStore_62 : decode cX2_askStore 62 = .ok (.aload_n 0, 1) := by decide +kernel
theorem dX2_askStore_63 : decode cX2_askStore 63 = .ok (.getfield 21, 3) := by decide +kernel
theorem dX2_askStore_66 : decode cX2_askStore 66 = .ok (.invokevirtual 108, 3) := by decide +kernel
theorem dX2_askStore_69 : decode cX2_askStore 69 = .ok (.ireturn, 1) := by decide +kernel
theorem dX2_takeStoreProjection_0 : decode cX2_takeStoreProjection 0 = .ok (.aload_n 1, 1) := by decide +kernel
theorem dX2_takeStoreProjection_1 : decode cX2_takeStoreProjection 1 = .ok (.aload_n 0, 1) := by decide +kernel
theorem dX2_takeStoreProjection_2 : decode cX2_takeStoreProjection 2 = .ok (.getfield 21, 3) := by decide +kernel
theorem dX2_takeStoreProjection_5 : decode cX2_takeStoreProjection 5 = .ok (.putfield 119, 3) := by decide +kernel
theorem dX2_takeStoreProjection_8 : decode cX2_takeStoreProjection 8 = .ok (.aload_n 1, 1) := by decide +kernel
theorem dX2_takeStoreProjection_9 : decode cX2_takeStoreProjection 9 = .ok (.aload_n 0, 1) := by decide +kernel
theorem dX2_takeStoreProjection_10 : decode cX2_takeStoreProjection 10 = .ok (.getfield 25, 3) := by decide +kernel
theorem dX2_takeStoreProjection_13 : decode cX2_takeStoreProjection 13 = .ok (.putfield 75, 3) := by decide +kernel
theorem dX2_takeStoreProjection_16 : decode cX2_takeStoreProjection 16 = .ok (.return_, 1) := by decide +kernel
set_option maxRecDepth 20000 in
theorem ggX2_appendAt_X1_contentAt : GoodIn wsX2_appendAt wsX1_contentAt := goodIn_r _ [4, 5, 6, 7, 8, 47, 48, 49] (by decide +kernel) (by decide +kernel)
set_option maxRecDepth 20000 in
theorem gX2_appendAt_X1_contentAt_n126 : GoodIn wsX2_appendAt (wsX1_contentAt) := ggX2_appendAt_X1_contentAt
set_option maxRecDepth 20000 in
theorem ggX2_appendAt_X0_isAtHead : GoodIn wsX2_appendAt wsX0_isAtHead := goodIn_r _ [12, 13, 14, 15, 16, 17, 10, 18, 19, 35, 36, 37, 38, 39, 40, 41, 42, 43, 44, 45, 46] (by decide +kernel) (by decide +kernel)
set_option maxRecDepth 20000 in
theorem gX2_appendAt_X0_isAtHead_n150 : GoodIn wsX2_appendAt (wsX0_isAtHead) := ggX2_appendAt_X0_isAtHead
set_option maxRecDepth 20000 in
theorem ggX2_appendAt_X1_writeOnce : GoodIn wsX2_appendAt wsX1_writeOnce := goodIn_r _ [22, 5, 6, 7, 8, 47, 48, 49] (by decide +kernel) (by decide +kernel)
set_option maxRecDepth 20000 in
theorem gX2_appendAt_X1_writeOnce_n154 : GoodIn wsX2_appendAt (wsX1_writeOnce) := ggX2_appendAt_X1_writeOnce
set_option maxRecDepth 20000 in
theorem ggX2_appendAt_X0_goAlongChain : GoodIn wsX2_appendAt wsX0_goAlongChain := goodIn_r _ [25, 13, 26, 7, 27, 28, 29, 30, 10, 31, 32, 33, 34, 35, 36, 37, 38, 39, 40, 41, 42, 43, 44, 45, 46] (by decide +kernel) (by decide +kernel)
set_option maxRecDepth 20000 in
theorem gX2_appendAt_X0_goAlongChain_n158 : GoodIn wsX2_appendAt (wsX0_goAlongChain) := ggX2_appendAt_X0_goAlongChain
theorem dX2_appendAt_0 : decode cX2_appendAt 0 = .ok (.aload_n 1, 1) := by decide +kernel
theorem dX2_appendAt_1 : decode cX2_appendAt 1 = .ok (.aload_n 0, 1) := by decide +kernel
theorem dX2_appendAt_2 : decode cX2_appendAt 2 = .ok (.getfield 55, 3) := by decide +kernel
theorem dX2_appendAt_5 : decode cX2_appendAt 5 = .ok (.invokevirtual 126, 3) := by decide +kernel
theorem dX2_appendAt_8 : decode cX2_appendAt 8 = .ok (.bipush (-2), 2) := by decide +kernel
theorem dX2_appendAt_10 : decode cX2_appendAt 10 = .ok (.if_icmp .eq 7, 3) := by decide +kernel
theorem dX2_appendAt_13 : decode cX2_appendAt 13 = .ok (.iconst 1, 1) := by decide +kernel
theorem dX2_appendAt_14 : decode cX2_appendAt 14 = .ok (.goto 4, 3) := by decide +kernel
theorem dX2_appendAt_17 : decode cX2_appendAt 17 = .ok (.iconst 0, 1) := by decide +kernel
theorem dX2_appendAt_18 : decode cX2_appendAt 18 = .ok (.istore_n 2, 1) := by decide +kernel
theorem dX2_appendAt_19 : decode cX2_appendAt 19 = .ok (.iload_n 2, 1) := by decide +kernel
theorem dX2_appendAt_20 : decode cX2_appendAt 20 = .ok (.ifCond .eq 17, 3) := by decide +kernel
theorem dX2_appendAt_23 : decode cX2_appendAt 23 = .ok (.aload_n 0, 1) := by decide +kernel
theorem dX2_appendAt_24 : decode cX2_appendAt 24 = .ok (.invokevirtual 150, 3) := by decide +kernel
theorem dX2_appendAt_27 : decode cX2_appendAt 27 = .ok (.ifCond .eq 10, 3) := by decide +kernel
theorem dX2_appendAt_30 : decode cX2_appendAt 30 = .ok (.aload_n 0, 1) := by decide +kernel
theorem dX2_appendAt_31 : decode cX2_appendAt 31 = .ok (.iconst 0, 1) := by decide +kernel
theorem dX2_appendAt_32 : decode cX2_appendAt 32 = .ok (.putfield 84, 3) := by decide +kernel
theorem dX2_appendAt_35 : decode cX2_appendAt 35 = .ok (.iconst 0, 1) := by decide +kernel
theorem dX2_appendAt_36 : decode cX2_appendAt 36 = .ok (.ireturn, 1) := by decide +kernel
theorem dX2_appendAt_37 : decode cX2_appendAt 37 = .ok (.aload_n 1, 1) := by decide +kernel
theorem dX2_appendAt_38 : decode cX2_appendAt 38 = .ok (.aload_n 0, 1) := by decide +kernel
theorem dX2_appendAt_39 : decode cX2_appendAt 39 = .ok (.getfield 55, 3) := by decide +kernel
theorem dX2_appendAt_42 : decode cX2_appendAt 42 = .ok (.aload_n 0, 1) := by decide +kernel
theorem dX2_appendAt_43 : decode cX2_appendAt 43 = .ok (.getfield 44, 3) := by decide +kernel
theorem dX2_appendAt_46 : decode cX2_appendAt 46 = .ok (.invokevirtual 154, 3) := by decide +kernel
theorem dX2_appendAt_49 : decode cX2_appendAt 49 = .ok (.aload_n 0, 1) := by decide +kernel
theorem dX2_appendAt_50 : decode cX2_appendAt 50 = .ok (.aload_n 0, 1) := by decide +kernel
theorem dX2_appendAt_51 : decode cX2_appendAt 51 = .ok (.getfield 55, 3) := by decide +kernel
theorem dX2_appendAt_54 : decode cX2_appendAt 54 = .ok (.invokevirtual 158, 3) := by decide +kernel
theorem dX2_appendAt_57 : decode cX2_appendAt 57 = .ok (.ireturn, 1) := by decide +kernel
set_option maxRecDepth 20000 in
theorem ggX2_fillAt_X1_writeOnce : GoodIn wsX2_fillAt wsX1_writeOnce := goodIn_r _ [4, 5, 6, 7, 8, 47, 48, 49] (by decide +kernel) (by decide +kernel)
set_option maxRecDepth 20000 in
theorem gX2_fillAt_X1_writeOnce_n154 : GoodIn wsX2_fillAt (wsX1_writeOnce) := ggX2_fillAt_X1_writeOnce
set_option maxRecDepth 20000 in
theorem ggX2_fillAt_X0_isAtHead : GoodIn wsX2_fillAt wsX0_isAtHead := goodIn_r _ [12, 13, 14, 15, 16, 17, 10, 18, 19, 35, 36, 37, 38, 39, 40, 41, 42, 43, 44, 45, 46] (by decide +kernel) (by decide +kernel)
set_option maxRecDepth 20000 in
theorem gX2_fillAt_X0_isAtHead_n150 : GoodIn wsX2_fillAt (wsX0_isAtHead) := ggX2_fillAt_X0_isAtHead
set_option maxRecDepth 20000 in
theorem ggX2_fillAt_X1_contentAt : GoodIn wsX2_fillAt wsX1_contentAt := goodIn_r _ [22, 5, 6, 7, 8, 47, 48, 49] (by decide +kernel) (by decide +kernel)
set_option maxRecDepth 20000 in
theorem gX2_fillAt_X1_contentAt_n126 : GoodIn wsX2_fillAt (wsX1_contentAt) := ggX2_fillAt_X1_contentAt
set_option maxRecDepth 20000 in
theorem ggX2_fillAt_X0_goAlongChain : GoodIn wsX2_fillAt wsX0_goAlongChain := goodIn_r _ [25, 13, 26, 7, 27, 28, 29, 30, 10, 31, 32, 33, 34, 35, 36, 37, 38, 39, 40, 41, 42, 43, 44, 45, 46] (by decide +kernel) (by decide +kernel)
set_option maxRecDepth 20000 in
theorem gX2_fillAt_X0_goAlongChain_n158 : GoodIn wsX2_fillAt (wsX0_goAlongChain) := ggX2_fillAt_X0_goAlongChain
theorem dX2_fillAt_0 : decode cX2_fillAt 0 = .ok (.aload_n 1, 1) := by decide +kernel
theorem dX2_fillAt_1 : decode cX2_fillAt 1 = .ok (.aload_n 0, 1) := by decide +kernel
theorem dX2_fillAt_2 : decode cX2_fillAt 2 = .ok (.getfield 55, 3) := by decide +kernel
theorem dX2_fillAt_5 : decode cX2_fillAt 5 = .ok (.aload_n 0, 1) := by decide +kernel
theorem dX2_fillAt_6 : decode cX2_fillAt 6 = .ok (.getfield 44, 3) := by decide +kernel
theorem dX2_fillAt_9 : decode cX2_fillAt 9 = .ok (.invokevirtual 154, 3) := by decide +kernel
theorem dX2_fillAt_12 : decode cX2_fillAt 12 = .ok (.aload_n 0, 1) := by decide +kernel
theorem dX2_fillAt_13 : decode cX2_fillAt 13 = .ok (.invokevirtual 150, 3) := by decide +kernel
theorem dX2_fillAt_16 : decode cX2_fillAt 16 = .ok (.ifCond .eq 15, 3) := by decide +kernel
theorem dX2_fillAt_19 : decode cX2_fillAt 19 = .ok (.aload_n 0, 1) := by decide +kernel
theorem dX2_fillAt_20 : decode cX2_fillAt 20 = .ok (.aload_n 1, 1) := by decide +kernel
theorem dX2_fillAt_21 : decode cX2_fillAt 21 = .ok (.aload_n 0, 1) := by decide +kernel
theorem dX2_fillAt_22 : decode cX2_fillAt 22 = .ok (.getfield 55, 3) := by decide +kernel
theorem dX2_fillAt_25 : decode cX2_fillAt 25 = .ok (.invokevirtual 126, 3) := by decide +kernel
theorem dX2_fillAt_28 : decode cX2_fillAt 28 = .ok (.putfield 44, 3) := by decide +kernel
theorem dX2_fillAt_31 : decode cX2_fillAt 31 = .ok (.aload_n 0, 1) := by decide +kernel
theorem dX2_fillAt_32 : decode cX2_fillAt 32 = .ok (.aload_n 0, 1) := by decide +kernel
theorem dX2_fillAt_33 : decode cX2_fillAt 33 = .ok (.getfield 44, 3) := by decide +kernel
theorem dX2_fillAt_36 : decode cX2_fillAt 36 = .ok (.invokevirtual 158, 3) := by decide +kernel
theorem dX2_fillAt_39 : decode cX2_fillAt 39 = .ok (.ireturn, 1) := by decide +kernel
set_option maxRecDepth 20000 in
theorem ggX2_readAt_X1_contentAt : GoodIn wsX2_readAt wsX1_contentAt := goodIn_r _ [4, 5, 6, 7, 8, 28, 29, 30] (by decide +kernel) (by decide +kernel)
set_option maxRecDepth 20000 in
theorem gX2_readAt_X1_contentAt_n126 : GoodIn wsX2_readAt (wsX1_contentAt) := ggX2_readAt_X1_contentAt
set_option maxRecDepth 20000 in
theorem ggX2_readAt_X0_end : GoodIn wsX2_readAt wsX0_end := goodIn_r _ [12, 13, 14, 15, 16, 17, 18, 19, 20, 21, 22, 23, 24, 25, 26, 27] (by decide +kernel) (by decide +kernel)
set_option maxRecDepth 20000 in
theorem gX2_readAt_X0_end_n108 : GoodIn wsX2_readAt (wsX0_end) := ggX2_readAt_X0_end
theorem dX2_readAt_0 : decode cX2_readAt 0 = .ok (.aload_n 1, 1) := by decide +kernel
theorem dX2_readAt_1 : decode cX2_readAt 1 = .ok (.aload_n 0, 1) := by decide +kernel
theorem dX2_readAt_2 : decode cX2_readAt 2 = .ok (.getfield 55, 3) := by decide +kernel
theorem dX2_readAt_5 : decode cX2_readAt 5 = .ok (.invokevirtual 126, 3) := by decide +kernel
theorem dX2_readAt_8 : decode cX2_readAt 8 = .ok (.istore_n 2, 1) := by decide +kernel
theorem dX2_readAt_9 : decode cX2_readAt 9 = .ok (.aload_n 0, 1) := by decide +kernel
theorem dX2_readAt_10 : decode cX2_readAt 10 = .ok (.iload_n 2, 1) := by decide +kernel
theorem dX2_readAt_11 : decode cX2_readAt 11 = .ok (.bipush (-2), 2) := by decide +kernel
theorem dX2_readAt_13 : decode cX2_readAt 13 = .ok (.if_icmp .ne 7, 3) := by decide +kernel
theorem dX2_readAt_16 : decode cX2_readAt 16 = .ok (.iconst 3, 1) := by decide +kernel
theorem dX2_readAt_17 : decode cX2_readAt 17 = .ok (.goto 4, 3) := by decide +kernel
theorem dX2_readAt_20 : decode cX2_readAt 20 = .ok (.iconst 1, 1) := by decide +kernel
theorem dX2_readAt_21 : decode cX2_readAt 21 = .ok (.iload_n 2, 1) := by decide +kernel
theorem dX2_readAt_22 : decode cX2_readAt 22 = .ok (.invokevirtual 108, 3) := by decide +kernel
theorem dX2_readAt_25 : decode cX2_readAt 25 = .ok (.ireturn, 1) := by decide +kernel
set_option maxRecDepth 20000 in
theorem ggX2_replayAt_X1_contentAt : GoodIn wsX2_replayAt wsX1_contentAt := goodIn_r _ [4, 5, 6, 7, 8, 40, 41, 42] (by decide +kernel) (by decide +kernel)
set_option maxRecDepth 20000 in
theorem gX2_replayAt_X1_contentAt_n126 : GoodIn wsX2_replayAt (wsX1_contentAt) := ggX2_replayAt_X1_contentAt
set_option maxRecDepth 20000 in
theorem ggX2_replayAt_X0_end : GoodIn wsX2_replayAt wsX0_end := goodIn_r _ [12, 13, 14, 15, 28, 29, 30, 31, 32, 33, 34, 35, 36, 37, 38, 39] (by decide +kernel) (by decide +kernel)
set_option maxRecDepth 20000 in
theorem gX2_replayAt_X0_end_n108 : GoodIn wsX2_replayAt (wsX0_end) := ggX2_replayAt_X0_end
set_option maxRecDepth 20000 in
theorem ggX2_replayAt_X0_replayRoute : GoodIn wsX2_replayAt wsX0_replayRoute := goodIn_r _ [18, 19, 20, 21, 22, 23, 10, 24, 25, 26, 7, 27, 28, 29, 30, 31, 32, 33, 34, 35, 36, 37, 38, 39] (by decide +kernel) (by decide +kernel)
set_option maxRecDepth 20000 in
theorem gX2_replayAt_X0_replayRoute_n71 : GoodIn wsX2_replayAt (wsX0_replayRoute) := ggX2_replayAt_X0_replayRoute
theorem dX2_replayAt_0 : decode cX2_replayAt 0 = .ok (.aload_n 1, 1) := by decide +kernel
theorem dX2_replayAt_1 : decode cX2_replayAt 1 = .ok (.aload_n 0, 1) := by decide +kernel
theorem dX2_replayAt_2 : decode cX2_replayAt 2 = .ok (.getfield 55, 3) := by decide +kernel
theorem dX2_replayAt_5 : decode cX2_replayAt 5 = .ok (.invokevirtual 126, 3) := by decide +kernel
theorem dX2_replayAt_8 : decode cX2_replayAt 8 = .ok (.istore_n 2, 1) := by decide +kernel
theorem dX2_replayAt_9 : decode cX2_replayAt 9 = .ok (.iload_n 2, 1) := by decide +kernel
theorem dX2_replayAt_10 : decode cX2_replayAt 10 = .ok (.bipush (-2), 2) := by decide +kernel
theorem dX2_replayAt_12 : decode cX2_replayAt 12 = .ok (.if_icmp .ne 13, 3) := by decide +kernel
theorem dX2_replayAt_15 : decode cX2_replayAt 15 = .ok (.aload_n 0, 1) := by decide +kernel
theorem dX2_replayAt_16 : decode cX2_replayAt 16 = .ok (.iconst 3, 1) := by decide +kernel
theorem dX2_replayAt_17 : decode cX2_replayAt 17 = .ok (.aload_n 0, 1) := by decide +kernel
theorem dX2_replayAt_18 : decode cX2_replayAt 18 = .ok (.getfield 55, 3) := by decide +kernel
theorem dX2_replayAt_21 : decode cX2_replayAt 21 = .ok (.invokevirtual 108, 3) := by decide +kernel
theorem dX2_replayAt_24 : decode cX2_replayAt 24 = .ok (.ireturn, 1) := by decide +kernel
theorem dX2_replayAt_25 : decode cX2_replayAt 25 = .ok (.iload_n 2, 1) := by decide +kernel
theorem dX2_replayAt_26 : decode cX2_replayAt 26 = .ok (.iconst (-1), 1) := by decide +kernel
theorem dX2_replayAt_27 : decode cX2_replayAt 27 = .ok (.if_icmp .eq 16, 3) := by decide +kernel
theorem dX2_replayAt_30 : decode cX2_replayAt 30 = .ok (.aload_n 0, 1) := by decide +kernel
theorem dX2_replayAt_31 : decode cX2_replayAt 31 = .ok (.aload_n 0, 1) := by decide +kernel
theorem dX2_replayAt_32 : decode cX2_replayAt 32 = .ok (.getfield 68, 3) := by decide +kernel
theorem dX2_replayAt_35 : decode cX2_replayAt 35 = .ok (.bipush 31, 2) := by decide +kernel
theorem dX2_replayAt_37 : decode cX2_replayAt 37 = .ok (.imul, 1) := by decide +kernel
theorem dX2_replayAt_38 : decode cX2_replayAt 38 = .ok (.iload_n 2, 1) := by decide +kernel
theorem dX2_replayAt_39 : decode cX2_replayAt 39 = .ok (.iadd, 1) := by decide +kernel
theorem dX2_replayAt_40 : decode cX2_replayAt 40 = .ok (.putfield 68, 3) := by decide +kernel
theorem dX2_replayAt_43 : decode cX2_replayAt 43 = .ok (.aload_n 0, 1) := by decide +kernel
theorem dX2_replayAt_44 : decode cX2_replayAt 44 = .ok (.dup, 1) := by decide +kernel
theorem dX2_replayAt_45 : decode cX2_replayAt 45 = .ok (.getfield 55, 3) := by decide +kernel
theorem dX2_replayAt_48 : decode cX2_replayAt 48 = .ok (.iconst 1, 1) := by decide +kernel
theorem dX2_replayAt_49 : decode cX2_replayAt 49 = .ok (.iadd, 1) := by decide +kernel
theorem dX2_replayAt_50 : decode cX2_replayAt 50 = .ok (.putfield 55, 3) := by decide +kernel
theorem dX2_replayAt_53 : decode cX2_replayAt 53 = .ok (.aload_n 0, 1) := by decide +kernel
theorem dX2_replayAt_54 : decode cX2_replayAt 54 = .ok (.aload_n 0, 1) := by decide +kernel
theorem dX2_replayAt_55 : decode cX2_replayAt 55 = .ok (.invokevirtual 71, 3) := by decide +kernel
theorem dX2_replayAt_58 : decode cX2_replayAt 58 = .ok (.putfield 84, 3) := by decide +kernel
theorem dX2_replayAt_61 : decode cX2_replayAt 61 = .ok (.iconst 0, 1) := by decide +kernel
theorem dX2_replayAt_62 : decode cX2_replayAt 62 = .ok (.ireturn, 1) := by decide +kernel
set_option maxRecDepth 20000 in
theorem ggX2_sealAt_X1_endOfWritten : GoodIn wsX2_sealAt wsX1_endOfWritten := goodIn_r _ [8, 9, 26, 27, 28] (by decide +kernel) (by decide +kernel)
set_option maxRecDepth 20000 in
theorem gX2_sealAt_X1_endOfWritten_n161 : GoodIn wsX2_sealAt (wsX1_endOfWritten) := ggX2_sealAt_X1_endOfWritten
set_option maxRecDepth 20000 in
theorem ggX2_sealAt_X2_withoutLowest : GoodIn wsX2_sealAt wsX2_withoutLowest := goodIn_r _ [13] (by decide +kernel) (by decide +kernel)
set_option maxRecDepth 20000 in
theorem gX2_sealAt_X2_withoutLowest : GoodIn wsX2_sealAt (va_wsS RX2 169 yX2_withoutLowest wsX2_withoutLowest) := goodIn_app (goodIn_of _ (by decide +kernel)) ggX2_sealAt_X2_withoutLowest
theorem dX2_sealAt_0 : decode cX2_sealAt 0 = .ok (.aload_n 1, 1) := by decide +kernel
theorem dX2_sealAt_1 : decode cX2_sealAt 1 = .ok (.aload_n 0, 1) := by decide +kernel
theorem dX2_sealAt_2 : decode cX2_sealAt 2 = .ok (.getfield 119, 3) := by decide +kernel
theorem dX2_sealAt_5 : decode cX2_sealAt 5 = .ok (.iconst 1, 1) := by decide +kernel
theorem dX2_sealAt_6 : decode cX2_sealAt 6 = .ok (.iadd, 1) := by decide +kernel
theorem dX2_sealAt_7 : decode cX2_sealAt 7 = .ok (.putfield 102, 3) := by decide +kernel
theorem dX2_sealAt_10 : decode cX2_sealAt 10 = .ok (.aload_n 0, 1) := by decide +kernel
theorem dX2_sealAt_11 : decode cX2_sealAt 11 = .ok (.aload_n 0, 1) := by decide +kernel
theorem dX2_sealAt_12 : decode cX2_sealAt 12 = .ok (.getfield 81, 3) := by decide +kernel
theorem dX2_sealAt_15 : decode cX2_sealAt 15 = .ok (.aload_n 1, 1) := by decide +kernel
theorem dX2_sealAt_16 : decode cX2_sealAt 16 = .ok (.invokevirtual 161, 3) := by decide +kernel
theorem dX2_sealAt_19 : decode cX2_sealAt 19 = .ok (.invokestatic 164, 3) := by decide +kernel
theorem dX2_sealAt_22 : decode cX2_sealAt 22 = .ok (.putfield 81, 3) := by decide +kernel
theorem dX2_sealAt_25 : decode cX2_sealAt 25 = .ok (.aload_n 0, 1) := by decide +kernel
theorem dX2_sealAt_26 : decode cX2_sealAt 26 = .ok (.aload_n 0, 1) := by decide +kernel
theorem dX2_sealAt_27 : decode cX2_sealAt 27 = .ok (.getfield 84, 3) := by decide +kernel
theorem dX2_sealAt_30 : decode cX2_sealAt 30 = .ok (.invokestatic 169, 3) := by decide +kernel
theorem dX2_sealAt_33 : decode cX2_sealAt 33 = .ok (.putfield 84, 3) := by decide +kernel
theorem dX2_sealAt_36 : decode cX2_sealAt 36 = .ok (.iconst 0, 1) := by decide +kernel
theorem dX2_sealAt_37 : decode cX2_sealAt 37 = .ok (.ireturn, 1) := by decide +kernel
