section
-- ===== PART A: goes FIRST, ahead of the names: the tables' words, and 'selects' of the private methods out of them =====
/-- a private method of a class that the tables say can be made, by its rows of tables_1 -/
def lw_okq (q : MethodName × Nat) : Prop := (q.1.cls ≠ "java/lang/invoke/MethodHandle" ∧ q.1.cls ≠ "java/lang/invoke/VarHandle") ∧ Cond.instantiable q.1.cls q.2 ∈ tables_1 ∧ Cond.privateMethod q.1 ∈ tables_1 ∧ Cond.instanceMethod q.1 ∈ tables_1
theorem lw_p0 : lw_okq (⟨"SharedLog", "clientAt", "(I)LSharedLog$Client;"⟩, 6) := ⟨⟨by decide +kernel, by decide +kernel⟩, List.mem_of_getElem? (i := 7) (by decide +kernel), List.mem_of_getElem? (i := 114) (by decide +kernel), List.mem_of_getElem? (i := 115) (by decide +kernel)⟩
theorem lw_p1 : lw_okq (⟨"SharedLog$Client", "begin", "(II)I"⟩, 12) := ⟨⟨by decide +kernel, by decide +kernel⟩, List.mem_of_getElem? (i := 36) (by decide +kernel), List.mem_of_getElem? (i := 119) (by decide +kernel), List.mem_of_getElem? (i := 120) (by decide +kernel)⟩
theorem lw_p2 : lw_okq (⟨"SharedLog$Client", "chainOf", "(I)I"⟩, 12) := ⟨⟨by decide +kernel, by decide +kernel⟩, List.mem_of_getElem? (i := 36) (by decide +kernel), List.mem_of_getElem? (i := 130) (by decide +kernel), List.mem_of_getElem? (i := 131) (by decide +kernel)⟩
theorem lw_p3 : lw_okq (⟨"SharedLog$Client", "replayRoute", "()I"⟩, 12) := ⟨⟨by decide +kernel, by decide +kernel⟩, List.mem_of_getElem? (i := 36) (by decide +kernel), List.mem_of_getElem? (i := 145) (by decide +kernel), List.mem_of_getElem? (i := 146) (by decide +kernel)⟩
theorem lw_p4 : lw_okq (⟨"SharedLog", "unitAt", "(I)LSharedLog$Unit;"⟩, 6) := ⟨⟨by decide +kernel, by decide +kernel⟩, List.mem_of_getElem? (i := 7) (by decide +kernel), List.mem_of_getElem? (i := 162) (by decide +kernel), List.mem_of_getElem? (i := 163) (by decide +kernel)⟩
theorem lw_p5 : lw_okq (⟨"SharedLog", "stepWithoutUnit", "(LSharedLog$Client;)I"⟩, 6) := ⟨⟨by decide +kernel, by decide +kernel⟩, List.mem_of_getElem? (i := 7) (by decide +kernel), List.mem_of_getElem? (i := 166) (by decide +kernel), List.mem_of_getElem? (i := 167) (by decide +kernel)⟩
theorem lw_p6 : lw_okq (⟨"SharedLog", "askSequencer", "(LSharedLog$Client;)I"⟩, 6) := ⟨⟨by decide +kernel, by decide +kernel⟩, List.mem_of_getElem? (i := 7) (by decide +kernel), List.mem_of_getElem? (i := 170) (by decide +kernel), List.mem_of_getElem? (i := 171) (by decide +kernel)⟩
theorem lw_p7 : lw_okq (⟨"SharedLog$Client", "end", "(II)I"⟩, 12) := ⟨⟨by decide +kernel, by decide +kernel⟩, List.mem_of_getElem? (i := 36) (by decide +kernel), List.mem_of_getElem? (i := 174) (by decide +kernel), List.mem_of_getElem? (i := 175) (by decide +kernel)⟩
theorem lw_p8 : lw_okq (⟨"SharedLog", "askStore", "(LSharedLog$Client;)I"⟩, 6) := ⟨⟨by decide +kernel, by decide +kernel⟩, List.mem_of_getElem? (i := 7) (by decide +kernel), List.mem_of_getElem? (i := 178) (by decide +kernel), List.mem_of_getElem? (i := 179) (by decide +kernel)⟩
theorem lw_p9 : lw_okq (⟨"SharedLog", "takeStoreProjection", "(LSharedLog$Client;)V"⟩, 6) := ⟨⟨by decide +kernel, by decide +kernel⟩, List.mem_of_getElem? (i := 7) (by decide +kernel), List.mem_of_getElem? (i := 182) (by decide +kernel), List.mem_of_getElem? (i := 183) (by decide +kernel)⟩
theorem lw_p10 : lw_okq (⟨"SharedLog$Client", "newestEpochItBears", "()I"⟩, 12) := ⟨⟨by decide +kernel, by decide +kernel⟩, List.mem_of_getElem? (i := 36) (by decide +kernel), List.mem_of_getElem? (i := 186) (by decide +kernel), List.mem_of_getElem? (i := 187) (by decide +kernel)⟩
theorem lw_p11 : lw_okq (⟨"SharedLog$Unit", "contentAt", "(I)I"⟩, 3) := ⟨⟨by decide +kernel, by decide +kernel⟩, List.mem_of_getElem? (i := 18) (by decide +kernel), List.mem_of_getElem? (i := 196) (by decide +kernel), List.mem_of_getElem? (i := 197) (by decide +kernel)⟩
theorem lw_p12 : lw_okq (⟨"SharedLog$Client", "isAtHead", "()Z"⟩, 12) := ⟨⟨by decide +kernel, by decide +kernel⟩, List.mem_of_getElem? (i := 36) (by decide +kernel), List.mem_of_getElem? (i := 201) (by decide +kernel), List.mem_of_getElem? (i := 202) (by decide +kernel)⟩
theorem lw_p13 : lw_okq (⟨"SharedLog$Unit", "writeOnce", "(II)V"⟩, 3) := ⟨⟨by decide +kernel, by decide +kernel⟩, List.mem_of_getElem? (i := 18) (by decide +kernel), List.mem_of_getElem? (i := 205) (by decide +kernel), List.mem_of_getElem? (i := 206) (by decide +kernel)⟩
theorem lw_p14 : lw_okq (⟨"SharedLog$Client", "goAlongChain", "(I)I"⟩, 12) := ⟨⟨by decide +kernel, by decide +kernel⟩, List.mem_of_getElem? (i := 36) (by decide +kernel), List.mem_of_getElem? (i := 209) (by decide +kernel), List.mem_of_getElem? (i := 210) (by decide +kernel)⟩
theorem lw_p15 : lw_okq (⟨"SharedLog$Unit", "endOfWritten", "()I"⟩, 3) := ⟨⟨by decide +kernel, by decide +kernel⟩, List.mem_of_getElem? (i := 18) (by decide +kernel), List.mem_of_getElem? (i := 229) (by decide +kernel), List.mem_of_getElem? (i := 230) (by decide +kernel)⟩
def lw_privs_1 : List (MethodName × Nat) := [(⟨"SharedLog", "clientAt", "(I)LSharedLog$Client;"⟩, 6), (⟨"SharedLog$Client", "begin", "(II)I"⟩, 12), (⟨"SharedLog$Client", "chainOf", "(I)I"⟩, 12), (⟨"SharedLog$Client", "replayRoute", "()I"⟩, 12), (⟨"SharedLog", "unitAt", "(I)LSharedLog$Unit;"⟩, 6), (⟨"SharedLog", "stepWithoutUnit", "(LSharedLog$Client;)I"⟩, 6), (⟨"SharedLog", "askSequencer", "(LSharedLog$Client;)I"⟩, 6), (⟨"SharedLog$Client", "end", "(II)I"⟩, 12), (⟨"SharedLog", "askStore", "(LSharedLog$Client;)I"⟩, 6), (⟨"SharedLog", "takeStoreProjection", "(LSharedLog$Client;)V"⟩, 6), (⟨"SharedLog$Client", "newestEpochItBears", "()I"⟩, 12), (⟨"SharedLog$Unit", "contentAt", "(I)I"⟩, 3), (⟨"SharedLog$Client", "isAtHead", "()Z"⟩, 12), (⟨"SharedLog$Unit", "writeOnce", "(II)V"⟩, 3), (⟨"SharedLog$Client", "goAlongChain", "(I)I"⟩, 12), (⟨"SharedLog$Unit", "endOfWritten", "()I"⟩, 3)]
theorem lw_r1 : ∀ q ∈ lw_privs_1, lw_okq q := List.forall_mem_cons.mpr ⟨lw_p0, List.forall_mem_cons.mpr ⟨lw_p1, List.forall_mem_cons.mpr ⟨lw_p2, List.forall_mem_cons.mpr ⟨lw_p3, List.forall_mem_cons.mpr ⟨lw_p4, List.forall_mem_cons.mpr ⟨lw_p5, List.forall_mem_cons.mpr ⟨lw_p6, List.forall_mem_cons.mpr ⟨lw_p7, List.forall_mem_cons.mpr ⟨lw_p8, List.forall_mem_cons.mpr ⟨lw_p9, List.forall_mem_cons.mpr ⟨lw_p10, List.forall_mem_cons.mpr ⟨lw_p11, List.forall_mem_cons.mpr ⟨lw_p12, List.forall_mem_cons.mpr ⟨lw_p13, List.forall_mem_cons.mpr ⟨lw_p14, List.forall_mem_cons.mpr ⟨lw_p15, fun _ h => absurd h List.not_mem_nil⟩⟩⟩⟩⟩⟩⟩⟩⟩⟩⟩⟩⟩⟩⟩⟩
theorem lw_p16 : lw_okq (⟨"SharedLogModel", "begin", "(IIZ)I"⟩, 19) := ⟨⟨by decide +kernel, by decide +kernel⟩, List.mem_of_getElem? (i := 281) (by decide +kernel), List.mem_of_getElem? (i := 350) (by decide +kernel), List.mem_of_getElem? (i := 351) (by decide +kernel)⟩
theorem lw_p17 : lw_okq (⟨"SharedLogModel", "seal", "(I)I"⟩, 19) := ⟨⟨by decide +kernel, by decide +kernel⟩, List.mem_of_getElem? (i := 281) (by decide +kernel), List.mem_of_getElem? (i := 377) (by decide +kernel), List.mem_of_getElem? (i := 378) (by decide +kernel)⟩
theorem lw_p18 : lw_okq (⟨"SharedLogModel", "end", "(III)I"⟩, 19) := ⟨⟨by decide +kernel, by decide +kernel⟩, List.mem_of_getElem? (i := 281) (by decide +kernel), List.mem_of_getElem? (i := 384) (by decide +kernel), List.mem_of_getElem? (i := 385) (by decide +kernel)⟩
theorem lw_p19 : lw_okq (⟨"SharedLogModel", "atTail", "(I)I"⟩, 19) := ⟨⟨by decide +kernel, by decide +kernel⟩, List.mem_of_getElem? (i := 281) (by decide +kernel), List.mem_of_getElem? (i := 388) (by decide +kernel), List.mem_of_getElem? (i := 389) (by decide +kernel)⟩
theorem lw_p20 : lw_okq (⟨"SharedLogModel", "look", "(II)I"⟩, 19) := ⟨⟨by decide +kernel, by decide +kernel⟩, List.mem_of_getElem? (i := 281) (by decide +kernel), List.mem_of_getElem? (i := 392) (by decide +kernel), List.mem_of_getElem? (i := 393) (by decide +kernel)⟩
theorem lw_p21 : lw_okq (⟨"SharedLogModel", "alongChain", "(I)I"⟩, 19) := ⟨⟨by decide +kernel, by decide +kernel⟩, List.mem_of_getElem? (i := 281) (by decide +kernel), List.mem_of_getElem? (i := 396) (by decide +kernel), List.mem_of_getElem? (i := 397) (by decide +kernel)⟩
theorem lw_p22 : lw_okq (⟨"SharedLogModel", "put", "(III)V"⟩, 19) := ⟨⟨by decide +kernel, by decide +kernel⟩, List.mem_of_getElem? (i := 281) (by decide +kernel), List.mem_of_getElem? (i := 400) (by decide +kernel), List.mem_of_getElem? (i := 401) (by decide +kernel)⟩
def lw_privs_2 : List (MethodName × Nat) := [(⟨"SharedLogModel", "begin", "(IIZ)I"⟩, 19), (⟨"SharedLogModel", "seal", "(I)I"⟩, 19), (⟨"SharedLogModel", "end", "(III)I"⟩, 19), (⟨"SharedLogModel", "atTail", "(I)I"⟩, 19), (⟨"SharedLogModel", "look", "(II)I"⟩, 19), (⟨"SharedLogModel", "alongChain", "(I)I"⟩, 19), (⟨"SharedLogModel", "put", "(III)V"⟩, 19)]
theorem lw_r2 : ∀ q ∈ lw_privs_2, lw_okq q := List.forall_mem_cons.mpr ⟨lw_p16, List.forall_mem_cons.mpr ⟨lw_p17, List.forall_mem_cons.mpr ⟨lw_p18, List.forall_mem_cons.mpr ⟨lw_p19, List.forall_mem_cons.mpr ⟨lw_p20, List.forall_mem_cons.mpr ⟨lw_p21, List.forall_mem_cons.mpr ⟨lw_p22, fun _ h => absurd h List.not_mem_nil⟩⟩⟩⟩⟩⟩⟩
def lw_privs : List (MethodName × Nat) := lw_privs_1 ++ (lw_privs_2)
def lw_tbl : List Cond := k2_sels lw_privs ++ tables_1
theorem lw_privs_ok : ∀ q ∈ lw_privs, lw_okq q := by
  show ∀ q ∈ lw_privs_1 ++ (lw_privs_2), lw_okq q
  exact List.forall_mem_append.mpr ⟨lw_r1, lw_r2⟩
-- ===== end of PART A; then your names; then what follows =====
end
section
/-! ===== BEGIN words of one list among another's, by their places ===== -/
theorem goodIn_r {big : List Cond} (ws : List Cond) (ps : List Nat) (hp : ws = ps.filterMap (fun i => big[i]?)) (h : ws.all goodWord = true) : GoodIn big ws := by
  intro w hw
  have h1 := List.all_eq_true.mp h w hw
  rw [hp] at hw
  obtain ⟨i, -, hi⟩ := List.mem_filterMap.mp hw
  have hm : w ∈ big := by first | exact List.mem_of_getElem? hi | exact List.getElem?_mem hi
  exact ⟨hm, good_of_word h1⟩
theorem goodIn_app {big a b : List Cond} (ha : GoodIn big a) (hb : GoodIn big b) : GoodIn big (a ++ b) := fun w h => (List.mem_append.mp h).elim (ha w) (hb w)
theorem goodIn_ca {big a b : List Cond} {c : Cond} (ha : GoodIn big (c :: a)) (hb : GoodIn big b) : GoodIn big (c :: (a ++ b)) := fun w h => (List.mem_cons.mp h).elim (fun e => ha w (List.mem_cons.mpr (Or.inl e))) (fun h => (List.mem_append.mp h).elim (fun h => ha w (List.mem_cons.mpr (Or.inr h))) (hb w))
theorem goodIn_sub {big ws : List Cond} (hm : ∀ w ∈ ws, w ∈ big) (h : ws.all goodWord = true) : GoodIn big ws := fun w hw => ⟨hm w hw, good_of_word (List.all_eq_true.mp h w hw)⟩
/-! ===== END ===== -/

/-! ===== BEGIN printed: names, fields, word lists, decode rows ===== -/
def RX0 : String := "SharedLog$Client"
def TX0 : u_T := fun k => match k with
  | 0 => ("SharedLog$Client", "epoch", "I", false)
  | 1 => ("SharedLog$Client", "members", "I", false)
  | 2 => ("SharedLog$Client", "kind", "I", false)
  | 3 => ("SharedLog$Client", "outcome", "I", false)
  | 4 => ("SharedLog$Client", "number", "I", false)
  | 5 => ("SharedLog$Client", "route", "I", false)
  | 6 => ("SharedLog$Client", "position", "I", false)
  | 7 => ("SharedLog$Client", "content", "I", false)
  | 8 => ("SharedLog$Client", "upto", "I", false)
  | 9 => ("SharedLog$Client", "sum", "I", false)
  | 10 => ("SharedLog$Client", "survivors", "I", false)
  | _ => ("SharedLog$Client", "greatestEnd", "I", false)
def tyX0 : Nat → FieldType := fun k => match k with
  | 0 => .int
  | 1 => .int
  | 2 => .int
  | 3 => .int
  | 4 => .int
  | 5 => .int
  | 6 => .int
  | 7 => .int
  | 8 => .int
  | 9 => .int
  | 10 => .int
  | _ => .int
abbrev wsX00 : List Cond := u_ws RX0 TX0 12
theorem nmX0 : ∀ a, a < 12 → ∀ b, b < 12 → a ≠ b → (TX0 a).2.1 ≠ (TX0 b).2.1 := by decide +kernel
theorem tyX0_ok : ∀ k, k < 12 → parseFieldDescriptor (TX0 k).2.2.1 = some (tyX0 k) := by decide +kernel
abbrev cX0_init : ByteArray := prog_2_method_1_code
def yX0_init : MethodName := ⟨RX0, "<init>", "()V"⟩
abbrev cX0_begin : ByteArray := prog_2_method_2_code
def yX0_begin : MethodName := ⟨RX0, "begin", "(II)I"⟩
abbrev cX0_end : ByteArray := prog_2_method_3_code
def yX0_end : MethodName := ⟨RX0, "end", "(II)I"⟩
abbrev cX0_chainOf : ByteArray := prog_2_method_4_code
def yX0_chainOf : MethodName := ⟨RX0, "chainOf", "(I)I"⟩
abbrev cX0_isAtHead : ByteArray := prog_2_method_5_code
def yX0_isAtHead : MethodName := ⟨RX0, "isAtHead", "()Z"⟩
abbrev cX0_replayRoute : ByteArray := prog_2_method_6_code
def yX0_replayRoute : MethodName := ⟨RX0, "replayRoute", "()I"⟩
abbrev cX0_newestEpochItBears : ByteArray := prog_2_method_7_code
def yX0_newestEpochItBears : MethodName := ⟨RX0, "newestEpochItBears", "()I"⟩
abbrev cX0_goAlongChain : ByteArray := prog_2_method_8_code
def yX0_goAlongChain : MethodName := ⟨RX0, "goAlongChain", "(I)I"⟩
def RX1 : String := "SharedLog$Unit"
def TX1 : u_T := fun k => match k with
  | 0 => ("SharedLog$Unit", "epoch", "I", false)
  | 1 => ("SharedLog$Unit", "up", "Z", false)
  | _ => ("SharedLog$Unit", "cells", "[I", true)
def tyX1 : Nat → FieldType := fun k => match k with
  | 0 => .int
  | 1 => .boolean
  | _ => .array .int
abbrev wsX10 : List Cond := u_ws RX1 TX1 3
theorem nmX1 : ∀ a, a < 3 → ∀ b, b < 3 → a ≠ b → (TX1 a).2.1 ≠ (TX1 b).2.1 := by decide +kernel
theorem tyX1_ok : ∀ k, k < 3 → parseFieldDescriptor (TX1 k).2.2.1 = some (tyX1 k) := by decide +kernel
abbrev cX1_init : ByteArray := prog_3_method_1_code
def yX1_init : MethodName := ⟨RX1, "<init>", "()V"⟩
abbrev cX1_contentAt : ByteArray := prog_3_method_2_code
def yX1_contentAt : MethodName := ⟨RX1, "contentAt", "(I)I"⟩
abbrev cX1_writeOnce : ByteArray := prog_3_method_3_code
def yX1_writeOnce : MethodName := ⟨RX1, "writeOnce", "(II)V"⟩
abbrev cX1_endOfWritten : ByteArray := prog_3_method_4_code
def yX1_endOfWritten : MethodName := ⟨RX1, "endOfWritten", "()I"⟩
def RX2 : String := "SharedLog"
def TX2 : u_T := fun k => match k with
  | 0 => ("SharedLog", "units", "[LSharedLog$Unit;", true)
  | 1 => ("SharedLog", "clients", "[LSharedLog$Client;", true)
  | 2 => ("SharedLog", "storeEpoch", "I", false)
  | 3 => ("SharedLog", "storeMembers", "I", false)
  | 4 => ("SharedLog", "sequencerEpoch", "I", false)
  | _ => ("SharedLog", "nextPosition", "I", false)
def tyX2 : Nat → FieldType := fun k => match k with
  | 0 => .array (.object "SharedLog$Unit")
  | 1 => .array (.object "SharedLog$Client")
  | 2 => .int
  | 3 => .int
  | 4 => .int
  | _ => .int
abbrev wsX20 : List Cond := u_ws RX2 TX2 6
theorem nmX2 : ∀ a, a < 6 → ∀ b, b < 6 → a ≠ b → (TX2 a).2.1 ≠ (TX2 b).2.1 := by decide +kernel
theorem tyX2_ok : ∀ k, k < 6 → parseFieldDescriptor (TX2 k).2.2.1 = some (tyX2 k) := by decide +kernel
abbrev cX2_init : ByteArray := prog_1_method_1_code
def yX2_init : MethodName := ⟨RX2, "<init>", "()V"⟩
abbrev cX2_append : ByteArray := prog_1_method_2_code
def yX2_append : MethodName := ⟨RX2, "append", "(II)I"⟩
abbrev cX2_fill : ByteArray := prog_1_method_3_code
def yX2_fill : MethodName := ⟨RX2, "fill", "(II)I"⟩
abbrev cX2_read : ByteArray := prog_1_method_4_code
def yX2_read : MethodName := ⟨RX2, "read", "(II)I"⟩
abbrev cX2_replay : ByteArray := prog_1_method_5_code
def yX2_replay : MethodName := ⟨RX2, "replay", "(II)I"⟩
abbrev cX2_reform : ByteArray := prog_1_method_6_code
def yX2_reform : MethodName := ⟨RX2, "reform", "(II)I"⟩
abbrev cX2_step : ByteArray := prog_1_method_7_code
def yX2_step : MethodName := ⟨RX2, "step", "(I)I"⟩
abbrev cX2_refresh : ByteArray := prog_1_method_8_code
def yX2_refresh : MethodName := ⟨RX2, "refresh", "(I)I"⟩
abbrev cX2_setUp : ByteArray := prog_1_method_9_code
def yX2_setUp : MethodName := ⟨RX2, "setUp", "(IZ)Z"⟩
abbrev cX2_loseSequencer : ByteArray := prog_1_method_10_code
def yX2_loseSequencer : MethodName := ⟨RX2, "loseSequencer", "()V"⟩
abbrev cX2_busy : ByteArray := prog_1_method_11_code
def yX2_busy : MethodName := ⟨RX2, "busy", "(I)I"⟩
abbrev cX2_outcome : ByteArray := prog_1_method_12_code
def yX2_outcome : MethodName := ⟨RX2, "outcome", "(I)I"⟩
abbrev cX2_number : ByteArray := prog_1_method_13_code
def yX2_number : MethodName := ⟨RX2, "number", "(I)I"⟩
abbrev cX2_epochOf : ByteArray := prog_1_method_14_code
def yX2_epochOf : MethodName := ⟨RX2, "epochOf", "(I)I"⟩
abbrev cX2_membersOf : ByteArray := prog_1_method_15_code
def yX2_membersOf : MethodName := ⟨RX2, "membersOf", "(I)I"⟩
abbrev cX2_tail : ByteArray := prog_1_method_16_code
def yX2_tail : MethodName := ⟨RX2, "tail", "()I"⟩
abbrev cX2_unitEpoch : ByteArray := prog_1_method_17_code
def yX2_unitEpoch : MethodName := ⟨RX2, "unitEpoch", "(I)I"⟩
abbrev cX2_cell : ByteArray := prog_1_method_18_code
def yX2_cell : MethodName := ⟨RX2, "cell", "(II)I"⟩
abbrev cX2_clientAt : ByteArray := prog_1_method_19_code
def yX2_clientAt : MethodName := ⟨RX2, "clientAt", "(I)LSharedLog$Client;"⟩
abbrev cX2_unitAt : ByteArray := prog_1_method_20_code
def yX2_unitAt : MethodName := ⟨RX2, "unitAt", "(I)LSharedLog$Unit;"⟩
abbrev cX2_isPosition : ByteArray := prog_1_method_21_code
def yX2_isPosition : MethodName := ⟨RX2, "isPosition", "(I)Z"⟩
abbrev cX2_lowestUnit : ByteArray := prog_1_method_22_code
def yX2_lowestUnit : MethodName := ⟨RX2, "lowestUnit", "(I)I"⟩
abbrev cX2_withoutLowest : ByteArray := prog_1_method_23_code
def yX2_withoutLowest : MethodName := ⟨RX2, "withoutLowest", "(I)I"⟩
abbrev cX2_highestOf : ByteArray := prog_1_method_24_code
def yX2_highestOf : MethodName := ⟨RX2, "highestOf", "(I)I"⟩
abbrev cX2_stepWithoutUnit : ByteArray := prog_1_method_25_code
def yX2_stepWithoutUnit : MethodName := ⟨RX2, "stepWithoutUnit", "(LSharedLog$Client;)I"⟩
abbrev cX2_stepAtUnit : ByteArray := prog_1_method_26_code
def yX2_stepAtUnit : MethodName := ⟨RX2, "stepAtUnit", "(LSharedLog$Client;LSharedLog$Unit;)I"⟩
abbrev cX2_askSequencer : ByteArray := prog_1_method_27_code
def yX2_askSequencer : MethodName := ⟨RX2, "askSequencer", "(LSharedLog$Client;)I"⟩
abbrev cX2_askStore : ByteArray := prog_1_method_28_code
def yX2_askStore : MethodName := ⟨RX2, "askStore", "(LSharedLog$Client;)I"⟩
abbrev cX2_takeStoreProjection : ByteArray := prog_1_method_29_code
def yX2_takeStoreProjection : MethodName := ⟨RX2, "takeStoreProjection", "(LSharedLog$Client;)V"⟩
abbrev cX2_appendAt : ByteArray := prog_1_method_30_code
def yX2_appendAt : MethodName := ⟨RX2, "appendAt", "(LSharedLog$Client;LSharedLog$Unit;)I"⟩
abbrev cX2_fillAt : ByteArray := prog_1_method_31_code
def yX2_fillAt : MethodName := ⟨RX2, "fillAt", "(LSharedLog$Client;LSharedLog$Unit;)I"⟩
abbrev cX2_readAt : ByteArray := prog_1_method_32_code
def yX2_readAt : MethodName := ⟨RX2, "readAt", "(LSharedLog$Client;LSharedLog$Unit;)I"⟩
abbrev cX2_replayAt : ByteArray := prog_1_method_33_code
def yX2_replayAt : MethodName := ⟨RX2, "replayAt", "(LSharedLog$Client;LSharedLog$Unit;)I"⟩
abbrev cX2_sealAt : ByteArray := prog_1_method_34_code
def yX2_sealAt : MethodName := ⟨RX2, "sealAt", "(LSharedLog$Client;LSharedLog$Unit;)I"⟩
def RX3 : String := "SharedLogModel"
def TX3 : u_T := fun k => match k with
  | 0 => ("SharedLogModel", "rows", "I", false)
  | 1 => ("SharedLogModel", "rowUnit", "[I", true)
  | 2 => ("SharedLogModel", "rowPos", "[I", true)
  | 3 => ("SharedLogModel", "rowVal", "[I", true)
  | 4 => ("SharedLogModel", "unitEpoch", "[I", true)
  | 5 => ("SharedLogModel", "down", "[I", true)
  | 6 => ("SharedLogModel", "storeEpoch", "I", false)
  | 7 => ("SharedLogModel", "storeMembers", "I", false)
  | 8 => ("SharedLogModel", "seqEpoch", "I", false)
  | 9 => ("SharedLogModel", "seqNext", "I", false)
  | 10 => ("SharedLogModel", "kind", "[I", true)
  | 11 => ("SharedLogModel", "epoch", "[I", true)
  | 12 => ("SharedLogModel", "members", "[I", true)
  | 13 => ("SharedLogModel", "outcome", "[I", true)
  | 14 => ("SharedLogModel", "number", "[I", true)
  | 15 => ("SharedLogModel", "pos", "[I", true)
  | 16 => ("SharedLogModel", "val", "[I", true)
  | 17 => ("SharedLogModel", "at", "[I", true)
  | _ => ("SharedLogModel", "want", "[I", true)
def tyX3 : Nat → FieldType := fun k => match k with
  | 0 => .int
  | 1 => .array .int
  | 2 => .array .int
  | 3 => .array .int
  | 4 => .array .int
  | 5 => .array .int
  | 6 => .int
  | 7 => .int
  | 8 => .int
  | 9 => .int
  | 10 => .array .int
  | 11 => .array .int
  | 12 => .array .int
  | 13 => .array .int
  | 14 => .array .int
  | 15 => .array .int
  | 16 => .array .int
  | 17 => .array .int
  | _ => .array .int
abbrev wsX30 : List Cond := u_ws RX3 TX3 19
theorem nmX3 : ∀ a, a < 19 → ∀ b, b < 19 → a ≠ b → (TX3 a).2.1 ≠ (TX3 b).2.1 := by decide +kernel
theorem tyX3_ok : ∀ k, k < 19 → parseFieldDescriptor (TX3 k).2.2.1 = some (tyX3 k) := by decide +kernel
abbrev cX3_init : ByteArray := prog_5_method_1_code
def yX3_init : MethodName := ⟨RX3, "<init>", "()V"⟩
abbrev cX3_look : ByteArray := prog_5_method_2_code
def yX3_look : MethodName := ⟨RX3, "look", "(II)I"⟩
abbrev cX3_put : ByteArray := prog_5_method_3_code
def yX3_put : MethodName := ⟨RX3, "put", "(III)V"⟩
abbrev cX3_nth : ByteArray := prog_5_method_4_code
def yX3_nth : MethodName := ⟨RX3, "nth", "(III)I"⟩
abbrev cX3_length : ByteArray := prog_5_method_5_code
def yX3_length : MethodName := ⟨RX3, "length", "(II)I"⟩
abbrev cX3_begin : ByteArray := prog_5_method_6_code
def yX3_begin : MethodName := ⟨RX3, "begin", "(IIZ)I"⟩
abbrev cX3_append : ByteArray := prog_5_method_7_code
def yX3_append : MethodName := ⟨RX3, "append", "(II)I"⟩
abbrev cX3_fill : ByteArray := prog_5_method_8_code
def yX3_fill : MethodName := ⟨RX3, "fill", "(II)I"⟩
abbrev cX3_read : ByteArray := prog_5_method_9_code
def yX3_read : MethodName := ⟨RX3, "read", "(II)I"⟩
abbrev cX3_replay : ByteArray := prog_5_method_10_code
def yX3_replay : MethodName := ⟨RX3, "replay", "(II)I"⟩
abbrev cX3_reform : ByteArray := prog_5_method_11_code
def yX3_reform : MethodName := ⟨RX3, "reform", "(II)I"⟩
abbrev cX3_end : ByteArray := prog_5_method_12_code
def yX3_end : MethodName := ⟨RX3, "end", "(III)I"⟩
abbrev cX3_alongChain : ByteArray := prog_5_method_13_code
def yX3_alongChain : MethodName := ⟨RX3, "alongChain", "(I)I"⟩
abbrev cX3_atTail : ByteArray := prog_5_method_14_code
def yX3_atTail : MethodName := ⟨RX3, "atTail", "(I)I"⟩
abbrev cX3_seal : ByteArray := prog_5_method_15_code
def yX3_seal : MethodName := ⟨RX3, "seal", "(I)I"⟩
abbrev cX3_step : ByteArray := prog_5_method_16_code
def yX3_step : MethodName := ⟨RX3, "step", "(I)I"⟩
abbrev cX3_refresh : ByteArray := prog_5_method_17_code
def yX3_refresh : MethodName := ⟨RX3, "refresh", "(I)I"⟩
abbrev cX3_setUp : ByteArray := prog_5_method_18_code
def yX3_setUp : MethodName := ⟨RX3, "setUp", "(IZ)Z"⟩
abbrev cX3_loseSequencer : ByteArray := prog_5_method_19_code
def yX3_loseSequencer : MethodName := ⟨RX3, "loseSequencer", "()V"⟩
abbrev cX3_busy : ByteArray := prog_5_method_20_code
def yX3_busy : MethodName := ⟨RX3, "busy", "(I)I"⟩
abbrev cX3_outcome : ByteArray := prog_5_method_21_code
def yX3_outcome : MethodName := ⟨RX3, "outcome", "(I)I"⟩
abbrev cX3_number : ByteArray := prog_5_method_22_code
def yX3_number : MethodName := ⟨RX3, "number", "(I)I"⟩
abbrev cX3_epochOf : ByteArray := prog_5_method_23_code
def yX3_epochOf : MethodName := ⟨RX3, "epochOf", "(I)I"⟩
abbrev cX3_membersOf : ByteArray := prog_5_method_24_code
def yX3_membersOf : MethodName := ⟨RX3, "membersOf", "(I)I"⟩
abbrev cX3_tail : ByteArray := prog_5_method_25_code
def yX3_tail : MethodName := ⟨RX3, "tail", "()I"⟩
abbrev cX3_unitEpoch : ByteArray := prog_5_method_26_code
def yX3_unitEpoch : MethodName := ⟨RX3, "unitEpoch", "(I)I"⟩
abbrev cX3_cell : ByteArray := prog_5_method_27_code
def yX3_cell : MethodName := ⟨RX3, "cell", "(II)I"⟩
def RJ9 : String := "java/lang/Math"
def TJ9 : u_T := fun k => match k with
  | _ => ("", "", "", false)
def tyJ9 : Nat → FieldType := fun k => match k with
  | _ => .int
abbrev wsJ90 : List Cond := u_ws RJ9 TJ9 0
theorem nmJ9 : ∀ a, a < 0 → ∀ b, b < 0 → a ≠ b → (TJ9 a).2.1 ≠ (TJ9 b).2.1 := by decide +kernel
theorem tyJ9_ok : ∀ k, k < 0 → parseFieldDescriptor (TJ9 k).2.2.1 = some (tyJ9 k) := by decide +kernel
abbrev cJ9_max_7cf53 : ByteArray := prog_6_method_65_code
def yJ9_max_7cf53 : MethodName := ⟨RJ9, "max", "(II)I"⟩
def RL : String := "SharedLogLaw"
abbrev cL_law : ByteArray := code
def yL_law : MethodName := ⟨RL, "law", "([I)Z"⟩
def wsX0_init : List Cond := .code yX0_init cX0_init 1 none :: ([.methodLink RX0 3 objectInit, .instanceMethod objectInit, .code objectInit ⟨#[0xb1]⟩ 1 none, .fieldLink RX0 9 "SharedLog$Client" "epoch" "I", .fieldLink RX0 15 "SharedLog$Client" "members" "I", .fieldLink RX0 18 "SharedLog$Client" "kind" "I", .fieldLink RX0 21 "SharedLog$Client" "outcome" "I", .fieldLink RX0 24 "SharedLog$Client" "number" "I", .fieldLink RX0 27 "SharedLog$Client" "route" "I", .fieldLink RX0 30 "SharedLog$Client" "position" "I", .fieldLink RX0 33 "SharedLog$Client" "content" "I", .fieldLink RX0 36 "SharedLog$Client" "upto" "I", .fieldLink RX0 39 "SharedLog$Client" "sum" "I", .fieldLink RX0 42 "SharedLog$Client" "survivors" "I", .fieldLink RX0 45 "SharedLog$Client" "greatestEnd" "I"] ++ wsX00)
def wsX0_begin : List Cond := .code yX0_begin cX0_begin 3 (some .int) :: ([.fieldLink RX0 18 "SharedLog$Client" "kind" "I", .fieldLink RX0 27 "SharedLog$Client" "route" "I", .fieldLink RX0 21 "SharedLog$Client" "outcome" "I", .fieldLink RX0 24 "SharedLog$Client" "number" "I"] ++ wsX00)
def wsX0_end : List Cond := .code yX0_end cX0_end 3 (some .int) :: ([.fieldLink RX0 18 "SharedLog$Client" "kind" "I", .fieldLink RX0 21 "SharedLog$Client" "outcome" "I", .fieldLink RX0 24 "SharedLog$Client" "number" "I"] ++ wsX00)
def wsX0_chainOf : List Cond := .code yX0_chainOf cX0_chainOf 2 (some .int) :: ([.fieldLink RX0 15 "SharedLog$Client" "members" "I"] ++ wsX00)
def wsX0_isAtHead : List Cond := .code yX0_isAtHead cX0_isAtHead 1 (some .boolean) :: ([.fieldLink RX0 27 "SharedLog$Client" "route" "I", .fieldLink RX0 30 "SharedLog$Client" "position" "I", .methodLink RX0 48 yX0_chainOf, .instanceMethod yX0_chainOf, .selects RX0 yX0_chainOf yX0_chainOf, .initialized RX0, .code yX0_chainOf cX0_chainOf 2 (some .int), .fieldLink RX0 15 "SharedLog$Client" "members" "I"] ++ wsX00)
def wsX2_highestOf : List Cond := .code yX2_highestOf cX2_highestOf 2 (some .int) :: ([])
def wsX0_replayRoute : List Cond := .code yX0_replayRoute cX0_replayRoute 1 (some .int) :: ([.fieldLink RX0 30 "SharedLog$Client" "position" "I", .fieldLink RX0 36 "SharedLog$Client" "upto" "I", .methodLink RX0 48 yX0_chainOf, .instanceMethod yX0_chainOf, .selects RX0 yX0_chainOf yX0_chainOf, .initialized RX0, .code yX0_chainOf cX0_chainOf 2 (some .int), .fieldLink RX0 15 "SharedLog$Client" "members" "I", .static yX2_highestOf, .initialized RX2, .code yX2_highestOf cX2_highestOf 2 (some .int)] ++ wsX00)
def wsX0_newestEpochItBears : List Cond := .code yX0_newestEpochItBears cX0_newestEpochItBears 1 (some .int) :: ([.fieldLink RX0 18 "SharedLog$Client" "kind" "I", .fieldLink RX0 9 "SharedLog$Client" "epoch" "I"] ++ wsX00)
def wsX2_withoutLowest : List Cond := .code yX2_withoutLowest cX2_withoutLowest 1 (some .int) :: ([])
def wsX0_goAlongChain : List Cond := .code yX0_goAlongChain cX0_goAlongChain 2 (some .int) :: ([.fieldLink RX0 27 "SharedLog$Client" "route" "I", .static yX2_withoutLowest, .initialized RX2, .code yX2_withoutLowest cX2_withoutLowest 1 (some .int), .methodLink RX0 58 yX0_end, .instanceMethod yX0_end, .selects RX0 yX0_end yX0_end, .initialized RX0, .code yX0_end cX0_end 3 (some .int), .fieldLink RX0 18 "SharedLog$Client" "kind" "I", .fieldLink RX0 21 "SharedLog$Client" "outcome" "I", .fieldLink RX0 24 "SharedLog$Client" "number" "I"] ++ wsX00)
def wsX1_init : List Cond := .code yX1_init cX1_init 2 none :: ([.methodLink RX1 3 objectInit, .instanceMethod objectInit, .code objectInit ⟨#[0xb1]⟩ 1 none, .fieldLink RX1 9 "SharedLog$Unit" "epoch" "I", .fieldLink RX1 15 "SharedLog$Unit" "up" "Z", .arrayClass .int, .fieldLink RX1 19 "SharedLog$Unit" "cells" "[I"] ++ wsX10)
def wsX2_isPosition : List Cond := .code yX2_isPosition cX2_isPosition 1 (some .boolean) :: ([])
def wsX1_contentAt : List Cond := .code yX1_contentAt cX1_contentAt 2 (some .int) :: ([.fieldLink RX1 19 "SharedLog$Unit" "cells" "[I", .static yX2_isPosition, .initialized RX2, .code yX2_isPosition cX2_isPosition 1 (some .boolean)] ++ wsX10)
def wsX1_writeOnce : List Cond := .code yX1_writeOnce cX1_writeOnce 3 none :: ([.fieldLink RX1 19 "SharedLog$Unit" "cells" "[I", .static yX2_isPosition, .initialized RX2, .code yX2_isPosition cX2_isPosition 1 (some .boolean)] ++ wsX10)
def wsX1_endOfWritten : List Cond := .code yX1_endOfWritten cX1_endOfWritten 2 (some .int) :: ([.fieldLink RX1 19 "SharedLog$Unit" "cells" "[I"] ++ wsX10)
def wsX2_init_r1 : List Cond := [Cond.methodLink RX2 1 objectInit, Cond.instanceMethod objectInit, Cond.code objectInit ⟨#[0xb1]⟩ 1 none, Cond.classLink RX2 9 RX1, Cond.fieldLink RX2 11 "SharedLog" "units" "[LSharedLog$Unit;", Cond.classLink RX2 15 RX0, Cond.fieldLink RX2 17 "SharedLog" "clients" "[LSharedLog$Client;", Cond.fieldLink RX2 21 "SharedLog" "storeEpoch" "I", Cond.fieldLink RX2 25 "SharedLog" "storeMembers" "I", Cond.fieldLink RX2 28 "SharedLog" "sequencerEpoch" "I", Cond.fieldLink RX2 31 "SharedLog" "nextPosition" "I", Cond.instantiable RX1 3, Cond.initialized RX1, Cond.instantiable RX0 12, Cond.initialized RX0, Cond.instanceMethod yX1_init, Cond.code yX1_init cX1_init 2 none, Cond.methodLink RX1 3 objectInit, Cond.fieldLink RX1 9 "SharedLog$Unit" "epoch" "I", Cond.fieldLink RX1 15 "SharedLog$Unit" "up" "Z", Cond.arrayClass .int, Cond.fieldLink RX1 19 "SharedLog$Unit" "cells" "[I", Cond.instanceMethod yX0_init, Cond.code yX0_init cX0_init 1 none]
def wsX2_init_r2 : List Cond := [Cond.methodLink RX0 3 objectInit, Cond.fieldLink RX0 9 "SharedLog$Client" "epoch" "I", Cond.fieldLink RX0 15 "SharedLog$Client" "members" "I", Cond.fieldLink RX0 18 "SharedLog$Client" "kind" "I", Cond.fieldLink RX0 21 "SharedLog$Client" "outcome" "I", Cond.fieldLink RX0 24 "SharedLog$Client" "number" "I", Cond.fieldLink RX0 27 "SharedLog$Client" "route" "I", Cond.fieldLink RX0 30 "SharedLog$Client" "position" "I", Cond.fieldLink RX0 33 "SharedLog$Client" "content" "I", Cond.fieldLink RX0 36 "SharedLog$Client" "upto" "I", Cond.fieldLink RX0 39 "SharedLog$Client" "sum" "I", Cond.fieldLink RX0 42 "SharedLog$Client" "survivors" "I", Cond.fieldLink RX0 45 "SharedLog$Client" "greatestEnd" "I"]
def wsX2_init : List Cond := .code yX2_init cX2_init 2 none :: ((wsX2_init_r1 ++ wsX2_init_r2) ++ wsX20 ++ wsX10 ++ wsX00)
def wsX2_clientAt : List Cond := .code yX2_clientAt cX2_clientAt 2 (some (.object "SharedLog$Client")) :: ([.fieldLink RX2 17 "SharedLog" "clients" "[LSharedLog$Client;"] ++ wsX20)
def wsX2_append : List Cond := .code yX2_append cX2_append 4 (some .int) :: ([.constant RX2 43 (1073741823), .methodLink RX2 36 yX2_clientAt, .instanceMethod yX2_clientAt, .selects RX2 yX2_clientAt yX2_clientAt, .initialized RX2, .code yX2_clientAt cX2_clientAt 2 (some (.object "SharedLog$Client")), .fieldLink RX2 17 "SharedLog" "clients" "[LSharedLog$Client;", .instanceMethod yX0_begin, .initialized RX0, .selects RX0 yX0_begin yX0_begin, .code yX0_begin cX0_begin 3 (some .int), .fieldLink RX0 18 "SharedLog$Client" "kind" "I", .fieldLink RX0 27 "SharedLog$Client" "route" "I", .fieldLink RX0 21 "SharedLog$Client" "outcome" "I", .fieldLink RX0 24 "SharedLog$Client" "number" "I"] ++ wsX00 ++ wsX20)
def wsX2_fill : List Cond := .code yX2_fill cX2_fill 4 (some .int) :: ([.methodLink RX2 36 yX2_clientAt, .instanceMethod yX2_clientAt, .selects RX2 yX2_clientAt yX2_clientAt, .initialized RX2, .code yX2_clientAt cX2_clientAt 2 (some (.object "SharedLog$Client")), .fieldLink RX2 17 "SharedLog" "clients" "[LSharedLog$Client;", .methodLink RX2 51 yX2_isPosition, .static yX2_isPosition, .code yX2_isPosition cX2_isPosition 1 (some .boolean), .instanceMethod yX0_chainOf, .initialized RX0, .selects RX0 yX0_chainOf yX0_chainOf, .code yX0_chainOf cX0_chainOf 2 (some .int), .fieldLink RX0 15 "SharedLog$Client" "members" "I", .instanceMethod yX0_begin, .selects RX0 yX0_begin yX0_begin, .code yX0_begin cX0_begin 3 (some .int), .fieldLink RX0 18 "SharedLog$Client" "kind" "I", .fieldLink RX0 27 "SharedLog$Client" "route" "I", .fieldLink RX0 21 "SharedLog$Client" "outcome" "I", .fieldLink RX0 24 "SharedLog$Client" "number" "I"] ++ wsX00 ++ wsX20)
def wsX2_read : List Cond := .code yX2_read cX2_read 4 (some .int) :: ([.methodLink RX2 36 yX2_clientAt, .instanceMethod yX2_clientAt, .selects RX2 yX2_clientAt yX2_clientAt, .initialized RX2, .code yX2_clientAt cX2_clientAt 2 (some (.object "SharedLog$Client")), .fieldLink RX2 17 "SharedLog" "clients" "[LSharedLog$Client;", .methodLink RX2 51 yX2_isPosition, .static yX2_isPosition, .code yX2_isPosition cX2_isPosition 1 (some .boolean), .instanceMethod yX0_chainOf, .initialized RX0, .selects RX0 yX0_chainOf yX0_chainOf, .code yX0_chainOf cX0_chainOf 2 (some .int), .fieldLink RX0 15 "SharedLog$Client" "members" "I", .methodLink RX2 62 yX2_highestOf, .static yX2_highestOf, .code yX2_highestOf cX2_highestOf 2 (some .int), .instanceMethod yX0_begin, .selects RX0 yX0_begin yX0_begin, .code yX0_begin cX0_begin 3 (some .int), .fieldLink RX0 18 "SharedLog$Client" "kind" "I", .fieldLink RX0 27 "SharedLog$Client" "route" "I", .fieldLink RX0 21 "SharedLog$Client" "outcome" "I", .fieldLink RX0 24 "SharedLog$Client" "number" "I"] ++ wsX00 ++ wsX20)
def wsX2_replay_r1 : List Cond := [Cond.methodLink RX2 36 yX2_clientAt, Cond.instanceMethod yX2_clientAt, Cond.selects RX2 yX2_clientAt yX2_clientAt, Cond.initialized RX2, Cond.code yX2_clientAt cX2_clientAt 2 (some (.object "SharedLog$Client")), Cond.fieldLink RX2 17 "SharedLog" "clients" "[LSharedLog$Client;", Cond.instanceMethod yX0_replayRoute, Cond.initialized RX0, Cond.selects RX0 yX0_replayRoute yX0_replayRoute, Cond.code yX0_replayRoute cX0_replayRoute 1 (some .int), Cond.fieldLink RX0 30 "SharedLog$Client" "position" "I", Cond.fieldLink RX0 36 "SharedLog$Client" "upto" "I", Cond.methodLink RX0 48 yX0_chainOf, Cond.instanceMethod yX0_chainOf, Cond.selects RX0 yX0_chainOf yX0_chainOf, Cond.code yX0_chainOf cX0_chainOf 2 (some .int), Cond.fieldLink RX0 15 "SharedLog$Client" "members" "I", Cond.static yX2_highestOf, Cond.code yX2_highestOf cX2_highestOf 2 (some .int), Cond.instanceMethod yX0_begin, Cond.selects RX0 yX0_begin yX0_begin, Cond.code yX0_begin cX0_begin 3 (some .int), Cond.fieldLink RX0 18 "SharedLog$Client" "kind" "I", Cond.fieldLink RX0 27 "SharedLog$Client" "route" "I"]
def wsX2_replay_r2 : List Cond := [Cond.fieldLink RX0 21 "SharedLog$Client" "outcome" "I", Cond.fieldLink RX0 24 "SharedLog$Client" "number" "I"]
def wsX2_replay : List Cond := .code yX2_replay cX2_replay 4 (some .int) :: ((wsX2_replay_r1 ++ wsX2_replay_r2) ++ wsX00 ++ wsX20)
def wsX2_reform : List Cond := .code yX2_reform cX2_reform 5 (some .int) :: ([.methodLink RX2 36 yX2_clientAt, .instanceMethod yX2_clientAt, .selects RX2 yX2_clientAt yX2_clientAt, .initialized RX2, .code yX2_clientAt cX2_clientAt 2 (some (.object "SharedLog$Client")), .fieldLink RX2 17 "SharedLog" "clients" "[LSharedLog$Client;", .instanceMethod yX0_begin, .initialized RX0, .selects RX0 yX0_begin yX0_begin, .code yX0_begin cX0_begin 3 (some .int), .fieldLink RX0 18 "SharedLog$Client" "kind" "I", .fieldLink RX0 27 "SharedLog$Client" "route" "I", .fieldLink RX0 21 "SharedLog$Client" "outcome" "I", .fieldLink RX0 24 "SharedLog$Client" "number" "I"] ++ wsX00 ++ wsX20)
def wsX2_lowestUnit : List Cond := .code yX2_lowestUnit cX2_lowestUnit 2 (some .int) :: ([])
def wsX2_unitAt : List Cond := .code yX2_unitAt cX2_unitAt 2 (some (.object "SharedLog$Unit")) :: ([.fieldLink RX2 11 "SharedLog" "units" "[LSharedLog$Unit;"] ++ wsX20)
def wsX2_askSequencer : List Cond := .code yX2_askSequencer cX2_askSequencer 2 (some .int) :: ([.fieldLink RX2 28 "SharedLog" "sequencerEpoch" "I", .fieldLink RX2 31 "SharedLog" "nextPosition" "I", .instanceMethod yX0_end, .initialized RX0, .selects RX0 yX0_end yX0_end, .code yX0_end cX0_end 3 (some .int), .fieldLink RX0 18 "SharedLog$Client" "kind" "I", .fieldLink RX0 21 "SharedLog$Client" "outcome" "I", .fieldLink RX0 24 "SharedLog$Client" "number" "I", .instanceMethod yX0_chainOf, .selects RX0 yX0_chainOf yX0_chainOf, .code yX0_chainOf cX0_chainOf 2 (some .int), .fieldLink RX0 15 "SharedLog$Client" "members" "I"] ++ wsX00 ++ wsX20)
def wsX2_takeStoreProjection : List Cond := .code yX2_takeStoreProjection cX2_takeStoreProjection 2 none :: ([.fieldLink RX2 21 "SharedLog" "storeEpoch" "I", .fieldLink RX2 25 "SharedLog" "storeMembers" "I"] ++ wsX20 ++ wsX00)
def wsX2_askStore : List Cond := .code yX2_askStore cX2_askStore 2 (some .int) :: ([.fieldLink RX2 21 "SharedLog" "storeEpoch" "I", .fieldLink RX2 25 "SharedLog" "storeMembers" "I", .fieldLink RX2 28 "SharedLog" "sequencerEpoch" "I", .fieldLink RX2 31 "SharedLog" "nextPosition" "I", .instanceMethod yX0_end, .initialized RX0, .selects RX0 yX0_end yX0_end, .code yX0_end cX0_end 3 (some .int), .fieldLink RX0 18 "SharedLog$Client" "kind" "I", .fieldLink RX0 21 "SharedLog$Client" "outcome" "I", .fieldLink RX0 24 "SharedLog$Client" "number" "I", .methodLink RX2 115 yX2_takeStoreProjection, .instanceMethod yX2_takeStoreProjection, .selects RX2 yX2_takeStoreProjection yX2_takeStoreProjection, .initialized RX2, .code yX2_takeStoreProjection cX2_takeStoreProjection 2 none] ++ wsX20 ++ wsX00)
def wsX2_stepWithoutUnit_r1 : List Cond := [Cond.methodLink RX2 129 yX2_askSequencer, Cond.instanceMethod yX2_askSequencer, Cond.selects RX2 yX2_askSequencer yX2_askSequencer, Cond.initialized RX2, Cond.code yX2_askSequencer cX2_askSequencer 2 (some .int), Cond.fieldLink RX2 28 "SharedLog" "sequencerEpoch" "I", Cond.fieldLink RX2 31 "SharedLog" "nextPosition" "I", Cond.instanceMethod yX0_end, Cond.initialized RX0, Cond.selects RX0 yX0_end yX0_end, Cond.code yX0_end cX0_end 3 (some .int), Cond.fieldLink RX0 18 "SharedLog$Client" "kind" "I", Cond.fieldLink RX0 21 "SharedLog$Client" "outcome" "I", Cond.fieldLink RX0 24 "SharedLog$Client" "number" "I", Cond.instanceMethod yX0_chainOf, Cond.selects RX0 yX0_chainOf yX0_chainOf, Cond.code yX0_chainOf cX0_chainOf 2 (some .int), Cond.fieldLink RX0 15 "SharedLog$Client" "members" "I", Cond.methodLink RX2 132 yX2_askStore, Cond.instanceMethod yX2_askStore, Cond.selects RX2 yX2_askStore yX2_askStore, Cond.code yX2_askStore cX2_askStore 2 (some .int), Cond.fieldLink RX2 21 "SharedLog" "storeEpoch" "I", Cond.fieldLink RX2 25 "SharedLog" "storeMembers" "I"]
def wsX2_stepWithoutUnit_r2 : List Cond := [Cond.methodLink RX2 115 yX2_takeStoreProjection, Cond.instanceMethod yX2_takeStoreProjection, Cond.selects RX2 yX2_takeStoreProjection yX2_takeStoreProjection, Cond.code yX2_takeStoreProjection cX2_takeStoreProjection 2 none]
def wsX2_stepWithoutUnit : List Cond := .code yX2_stepWithoutUnit cX2_stepWithoutUnit 2 (some .int) :: ((wsX2_stepWithoutUnit_r1 ++ wsX2_stepWithoutUnit_r2) ++ wsX00 ++ wsX20)
def wsX2_appendAt_r1 : List Cond := [Cond.instanceMethod yX1_contentAt, Cond.initialized RX1, Cond.selects RX1 yX1_contentAt yX1_contentAt, Cond.code yX1_contentAt cX1_contentAt 2 (some .int), Cond.fieldLink RX1 19 "SharedLog$Unit" "cells" "[I", Cond.static yX2_isPosition, Cond.initialized RX2, Cond.code yX2_isPosition cX2_isPosition 1 (some .boolean), Cond.instanceMethod yX0_isAtHead, Cond.initialized RX0, Cond.selects RX0 yX0_isAtHead yX0_isAtHead, Cond.code yX0_isAtHead cX0_isAtHead 1 (some .boolean), Cond.fieldLink RX0 27 "SharedLog$Client" "route" "I", Cond.fieldLink RX0 30 "SharedLog$Client" "position" "I", Cond.methodLink RX0 48 yX0_chainOf, Cond.instanceMethod yX0_chainOf, Cond.selects RX0 yX0_chainOf yX0_chainOf, Cond.code yX0_chainOf cX0_chainOf 2 (some .int), Cond.fieldLink RX0 15 "SharedLog$Client" "members" "I", Cond.instanceMethod yX1_writeOnce, Cond.selects RX1 yX1_writeOnce yX1_writeOnce, Cond.code yX1_writeOnce cX1_writeOnce 3 none, Cond.instanceMethod yX0_goAlongChain, Cond.selects RX0 yX0_goAlongChain yX0_goAlongChain]
def wsX2_appendAt_r2 : List Cond := [Cond.code yX0_goAlongChain cX0_goAlongChain 2 (some .int), Cond.static yX2_withoutLowest, Cond.code yX2_withoutLowest cX2_withoutLowest 1 (some .int), Cond.methodLink RX0 58 yX0_end, Cond.instanceMethod yX0_end, Cond.selects RX0 yX0_end yX0_end, Cond.code yX0_end cX0_end 3 (some .int), Cond.fieldLink RX0 18 "SharedLog$Client" "kind" "I", Cond.fieldLink RX0 21 "SharedLog$Client" "outcome" "I", Cond.fieldLink RX0 24 "SharedLog$Client" "number" "I"]
def wsX2_appendAt : List Cond := .code yX2_appendAt cX2_appendAt 3 (some .int) :: ((wsX2_appendAt_r1 ++ wsX2_appendAt_r2) ++ wsX00 ++ wsX10)
def wsX2_fillAt_r1 : List Cond := [Cond.instanceMethod yX1_writeOnce, Cond.initialized RX1, Cond.selects RX1 yX1_writeOnce yX1_writeOnce, Cond.code yX1_writeOnce cX1_writeOnce 3 none, Cond.fieldLink RX1 19 "SharedLog$Unit" "cells" "[I", Cond.static yX2_isPosition, Cond.initialized RX2, Cond.code yX2_isPosition cX2_isPosition 1 (some .boolean), Cond.instanceMethod yX0_isAtHead, Cond.initialized RX0, Cond.selects RX0 yX0_isAtHead yX0_isAtHead, Cond.code yX0_isAtHead cX0_isAtHead 1 (some .boolean), Cond.fieldLink RX0 27 "SharedLog$Client" "route" "I", Cond.fieldLink RX0 30 "SharedLog$Client" "position" "I", Cond.methodLink RX0 48 yX0_chainOf, Cond.instanceMethod yX0_chainOf, Cond.selects RX0 yX0_chainOf yX0_chainOf, Cond.code yX0_chainOf cX0_chainOf 2 (some .int), Cond.fieldLink RX0 15 "SharedLog$Client" "members" "I", Cond.instanceMethod yX1_contentAt, Cond.selects RX1 yX1_contentAt yX1_contentAt, Cond.code yX1_contentAt cX1_contentAt 2 (some .int), Cond.instanceMethod yX0_goAlongChain, Cond.selects RX0 yX0_goAlongChain yX0_goAlongChain]
def wsX2_fillAt_r2 : List Cond := [Cond.code yX0_goAlongChain cX0_goAlongChain 2 (some .int), Cond.static yX2_withoutLowest, Cond.code yX2_withoutLowest cX2_withoutLowest 1 (some .int), Cond.methodLink RX0 58 yX0_end, Cond.instanceMethod yX0_end, Cond.selects RX0 yX0_end yX0_end, Cond.code yX0_end cX0_end 3 (some .int), Cond.fieldLink RX0 18 "SharedLog$Client" "kind" "I", Cond.fieldLink RX0 21 "SharedLog$Client" "outcome" "I", Cond.fieldLink RX0 24 "SharedLog$Client" "number" "I"]
def wsX2_fillAt : List Cond := .code yX2_fillAt cX2_fillAt 2 (some .int) :: ((wsX2_fillAt_r1 ++ wsX2_fillAt_r2) ++ wsX00 ++ wsX10)
def wsX2_readAt : List Cond := .code yX2_readAt cX2_readAt 3 (some .int) :: ([.instanceMethod yX1_contentAt, .initialized RX1, .selects RX1 yX1_contentAt yX1_contentAt, .code yX1_contentAt cX1_contentAt 2 (some .int), .fieldLink RX1 19 "SharedLog$Unit" "cells" "[I", .static yX2_isPosition, .initialized RX2, .code yX2_isPosition cX2_isPosition 1 (some .boolean), .instanceMethod yX0_end, .initialized RX0, .selects RX0 yX0_end yX0_end, .code yX0_end cX0_end 3 (some .int), .fieldLink RX0 18 "SharedLog$Client" "kind" "I", .fieldLink RX0 21 "SharedLog$Client" "outcome" "I", .fieldLink RX0 24 "SharedLog$Client" "number" "I"] ++ wsX00 ++ wsX10)
def wsX2_replayAt_r1 : List Cond := [Cond.instanceMethod yX1_contentAt, Cond.initialized RX1, Cond.selects RX1 yX1_contentAt yX1_contentAt, Cond.code yX1_contentAt cX1_contentAt 2 (some .int), Cond.fieldLink RX1 19 "SharedLog$Unit" "cells" "[I", Cond.static yX2_isPosition, Cond.initialized RX2, Cond.code yX2_isPosition cX2_isPosition 1 (some .boolean), Cond.instanceMethod yX0_end, Cond.initialized RX0, Cond.selects RX0 yX0_end yX0_end, Cond.code yX0_end cX0_end 3 (some .int), Cond.fieldLink RX0 18 "SharedLog$Client" "kind" "I", Cond.fieldLink RX0 21 "SharedLog$Client" "outcome" "I", Cond.fieldLink RX0 24 "SharedLog$Client" "number" "I", Cond.instanceMethod yX0_replayRoute, Cond.selects RX0 yX0_replayRoute yX0_replayRoute, Cond.code yX0_replayRoute cX0_replayRoute 1 (some .int), Cond.fieldLink RX0 30 "SharedLog$Client" "position" "I", Cond.fieldLink RX0 36 "SharedLog$Client" "upto" "I", Cond.methodLink RX0 48 yX0_chainOf, Cond.instanceMethod yX0_chainOf, Cond.selects RX0 yX0_chainOf yX0_chainOf, Cond.code yX0_chainOf cX0_chainOf 2 (some .int)]
def wsX2_replayAt_r2 : List Cond := [Cond.fieldLink RX0 15 "SharedLog$Client" "members" "I", Cond.static yX2_highestOf, Cond.code yX2_highestOf cX2_highestOf 2 (some .int)]
def wsX2_replayAt : List Cond := .code yX2_replayAt cX2_replayAt 3 (some .int) :: ((wsX2_replayAt_r1 ++ wsX2_replayAt_r2) ++ wsX00 ++ wsX10)
def wsX2_sealAt : List Cond := .code yX2_sealAt cX2_sealAt 2 (some .int) :: ([.methodLink RX2 164 Lib.Math.max.name, .static Lib.Math.max.name, .initialized "java/lang/Math", .code Lib.Math.max.name Lib.Math.max.code 2 (some .int), .instanceMethod yX1_endOfWritten, .initialized RX1, .selects RX1 yX1_endOfWritten yX1_endOfWritten, .code yX1_endOfWritten cX1_endOfWritten 2 (some .int), .fieldLink RX1 19 "SharedLog$Unit" "cells" "[I", .methodLink RX2 169 yX2_withoutLowest, .static yX2_withoutLowest, .initialized RX2, .code yX2_withoutLowest cX2_withoutLowest 1 (some .int)] ++ wsX00 ++ wsX10)
def wsX2_stepAtUnit_r1 : List Cond := [Cond.methodLink RX2 135 yX2_appendAt, Cond.static yX2_appendAt, Cond.initialized RX2, Cond.code yX2_appendAt cX2_appendAt 3 (some .int), Cond.instanceMethod yX1_contentAt, Cond.initialized RX1, Cond.selects RX1 yX1_contentAt yX1_contentAt, Cond.code yX1_contentAt cX1_contentAt 2 (some .int), Cond.fieldLink RX1 19 "SharedLog$Unit" "cells" "[I", Cond.static yX2_isPosition, Cond.code yX2_isPosition cX2_isPosition 1 (some .boolean), Cond.instanceMethod yX0_isAtHead, Cond.initialized RX0, Cond.selects RX0 yX0_isAtHead yX0_isAtHead, Cond.code yX0_isAtHead cX0_isAtHead 1 (some .boolean), Cond.fieldLink RX0 27 "SharedLog$Client" "route" "I", Cond.fieldLink RX0 30 "SharedLog$Client" "position" "I", Cond.methodLink RX0 48 yX0_chainOf, Cond.instanceMethod yX0_chainOf, Cond.selects RX0 yX0_chainOf yX0_chainOf, Cond.code yX0_chainOf cX0_chainOf 2 (some .int), Cond.fieldLink RX0 15 "SharedLog$Client" "members" "I", Cond.instanceMethod yX1_writeOnce, Cond.selects RX1 yX1_writeOnce yX1_writeOnce]
def wsX2_stepAtUnit_r2 : List Cond := [Cond.code yX1_writeOnce cX1_writeOnce 3 none, Cond.instanceMethod yX0_goAlongChain, Cond.selects RX0 yX0_goAlongChain yX0_goAlongChain, Cond.code yX0_goAlongChain cX0_goAlongChain 2 (some .int), Cond.static yX2_withoutLowest, Cond.code yX2_withoutLowest cX2_withoutLowest 1 (some .int), Cond.methodLink RX0 58 yX0_end, Cond.instanceMethod yX0_end, Cond.selects RX0 yX0_end yX0_end, Cond.code yX0_end cX0_end 3 (some .int), Cond.fieldLink RX0 18 "SharedLog$Client" "kind" "I", Cond.fieldLink RX0 21 "SharedLog$Client" "outcome" "I", Cond.fieldLink RX0 24 "SharedLog$Client" "number" "I", Cond.methodLink RX2 138 yX2_fillAt, Cond.static yX2_fillAt, Cond.code yX2_fillAt cX2_fillAt 2 (some .int), Cond.methodLink RX2 141 yX2_readAt, Cond.static yX2_readAt, Cond.code yX2_readAt cX2_readAt 3 (some .int), Cond.methodLink RX2 144 yX2_replayAt, Cond.static yX2_replayAt, Cond.code yX2_replayAt cX2_replayAt 3 (some .int), Cond.instanceMethod yX0_replayRoute, Cond.selects RX0 yX0_replayRoute yX0_replayRoute]
def wsX2_stepAtUnit_r3 : List Cond := [Cond.code yX0_replayRoute cX0_replayRoute 1 (some .int), Cond.fieldLink RX0 36 "SharedLog$Client" "upto" "I", Cond.static yX2_highestOf, Cond.code yX2_highestOf cX2_highestOf 2 (some .int), Cond.methodLink RX2 147 yX2_sealAt, Cond.static yX2_sealAt, Cond.code yX2_sealAt cX2_sealAt 2 (some .int), Cond.methodLink RX2 164 Lib.Math.max.name, Cond.static Lib.Math.max.name, Cond.initialized "java/lang/Math", Cond.code Lib.Math.max.name Lib.Math.max.code 2 (some .int), Cond.instanceMethod yX1_endOfWritten, Cond.selects RX1 yX1_endOfWritten yX1_endOfWritten, Cond.code yX1_endOfWritten cX1_endOfWritten 2 (some .int), Cond.methodLink RX2 169 yX2_withoutLowest]
def wsX2_stepAtUnit : List Cond := .code yX2_stepAtUnit cX2_stepAtUnit 2 (some .int) :: ((wsX2_stepAtUnit_r1 ++ (wsX2_stepAtUnit_r2 ++ wsX2_stepAtUnit_r3)) ++ wsX00 ++ wsX10)
def wsX2_step_r1 : List Cond := [Cond.methodLink RX2 36 yX2_clientAt, Cond.instanceMethod yX2_clientAt, Cond.selects RX2 yX2_clientAt yX2_clientAt, Cond.initialized RX2, Cond.code yX2_clientAt cX2_clientAt 2 (some (.object "SharedLog$Client")), Cond.fieldLink RX2 17 "SharedLog" "clients" "[LSharedLog$Client;", Cond.methodLink RX2 87 yX2_lowestUnit, Cond.static yX2_lowestUnit, Cond.code yX2_lowestUnit cX2_lowestUnit 2 (some .int), Cond.methodLink RX2 90 yX2_unitAt, Cond.instanceMethod yX2_unitAt, Cond.selects RX2 yX2_unitAt yX2_unitAt, Cond.code yX2_unitAt cX2_unitAt 2 (some (.object "SharedLog$Unit")), Cond.fieldLink RX2 11 "SharedLog" "units" "[LSharedLog$Unit;", Cond.methodLink RX2 94 yX2_stepWithoutUnit, Cond.instanceMethod yX2_stepWithoutUnit, Cond.selects RX2 yX2_stepWithoutUnit yX2_stepWithoutUnit, Cond.code yX2_stepWithoutUnit cX2_stepWithoutUnit 2 (some .int), Cond.methodLink RX2 129 yX2_askSequencer, Cond.instanceMethod yX2_askSequencer, Cond.selects RX2 yX2_askSequencer yX2_askSequencer, Cond.code yX2_askSequencer cX2_askSequencer 2 (some .int), Cond.fieldLink RX2 28 "SharedLog" "sequencerEpoch" "I", Cond.fieldLink RX2 31 "SharedLog" "nextPosition" "I"]
def wsX2_step_r2 : List Cond := [Cond.instanceMethod yX0_end, Cond.initialized RX0, Cond.selects RX0 yX0_end yX0_end, Cond.code yX0_end cX0_end 3 (some .int), Cond.fieldLink RX0 18 "SharedLog$Client" "kind" "I", Cond.fieldLink RX0 21 "SharedLog$Client" "outcome" "I", Cond.fieldLink RX0 24 "SharedLog$Client" "number" "I", Cond.instanceMethod yX0_chainOf, Cond.selects RX0 yX0_chainOf yX0_chainOf, Cond.code yX0_chainOf cX0_chainOf 2 (some .int), Cond.fieldLink RX0 15 "SharedLog$Client" "members" "I", Cond.methodLink RX2 132 yX2_askStore, Cond.instanceMethod yX2_askStore, Cond.selects RX2 yX2_askStore yX2_askStore, Cond.code yX2_askStore cX2_askStore 2 (some .int), Cond.fieldLink RX2 21 "SharedLog" "storeEpoch" "I", Cond.fieldLink RX2 25 "SharedLog" "storeMembers" "I", Cond.methodLink RX2 115 yX2_takeStoreProjection, Cond.instanceMethod yX2_takeStoreProjection, Cond.selects RX2 yX2_takeStoreProjection yX2_takeStoreProjection, Cond.code yX2_takeStoreProjection cX2_takeStoreProjection 2 none, Cond.instanceMethod yX0_newestEpochItBears, Cond.selects RX0 yX0_newestEpochItBears yX0_newestEpochItBears, Cond.code yX0_newestEpochItBears cX0_newestEpochItBears 1 (some .int)]
def wsX2_step_r3 : List Cond := [Cond.fieldLink RX0 9 "SharedLog$Client" "epoch" "I", Cond.methodLink RX2 111 yX2_stepAtUnit, Cond.static yX2_stepAtUnit, Cond.code yX2_stepAtUnit cX2_stepAtUnit 2 (some .int), Cond.methodLink RX2 135 yX2_appendAt, Cond.static yX2_appendAt, Cond.code yX2_appendAt cX2_appendAt 3 (some .int), Cond.instanceMethod yX1_contentAt, Cond.initialized RX1, Cond.selects RX1 yX1_contentAt yX1_contentAt, Cond.code yX1_contentAt cX1_contentAt 2 (some .int), Cond.fieldLink RX1 19 "SharedLog$Unit" "cells" "[I", Cond.static yX2_isPosition, Cond.code yX2_isPosition cX2_isPosition 1 (some .boolean), Cond.instanceMethod yX0_isAtHead, Cond.selects RX0 yX0_isAtHead yX0_isAtHead, Cond.code yX0_isAtHead cX0_isAtHead 1 (some .boolean), Cond.fieldLink RX0 27 "SharedLog$Client" "route" "I", Cond.fieldLink RX0 30 "SharedLog$Client" "position" "I", Cond.methodLink RX0 48 yX0_chainOf, Cond.instanceMethod yX1_writeOnce, Cond.selects RX1 yX1_writeOnce yX1_writeOnce, Cond.code yX1_writeOnce cX1_writeOnce 3 none, Cond.instanceMethod yX0_goAlongChain]
def wsX2_step_r4 : List Cond := [Cond.selects RX0 yX0_goAlongChain yX0_goAlongChain, Cond.code yX0_goAlongChain cX0_goAlongChain 2 (some .int), Cond.static yX2_withoutLowest, Cond.code yX2_withoutLowest cX2_withoutLowest 1 (some .int), Cond.methodLink RX0 58 yX0_end, Cond.methodLink RX2 138 yX2_fillAt, Cond.static yX2_fillAt, Cond.code yX2_fillAt cX2_fillAt 2 (some .int), Cond.methodLink RX2 141 yX2_readAt, Cond.static yX2_readAt, Cond.code yX2_readAt cX2_readAt 3 (some .int), Cond.methodLink RX2 144 yX2_replayAt, Cond.static yX2_replayAt, Cond.code yX2_replayAt cX2_replayAt 3 (some .int), Cond.instanceMethod yX0_replayRoute, Cond.selects RX0 yX0_replayRoute yX0_replayRoute, Cond.code yX0_replayRoute cX0_replayRoute 1 (some .int), Cond.fieldLink RX0 36 "SharedLog$Client" "upto" "I", Cond.static yX2_highestOf, Cond.code yX2_highestOf cX2_highestOf 2 (some .int), Cond.methodLink RX2 147 yX2_sealAt, Cond.static yX2_sealAt, Cond.code yX2_sealAt cX2_sealAt 2 (some .int), Cond.methodLink RX2 164 Lib.Math.max.name]
def wsX2_step_r5 : List Cond := [Cond.static Lib.Math.max.name, Cond.initialized "java/lang/Math", Cond.code Lib.Math.max.name Lib.Math.max.code 2 (some .int), Cond.instanceMethod yX1_endOfWritten, Cond.selects RX1 yX1_endOfWritten yX1_endOfWritten, Cond.code yX1_endOfWritten cX1_endOfWritten 2 (some .int), Cond.methodLink RX2 169 yX2_withoutLowest]
def wsX2_step : List Cond := .code yX2_step cX2_step 4 (some .int) :: ((wsX2_step_r1 ++ (wsX2_step_r2 ++ (wsX2_step_r3 ++ (wsX2_step_r4 ++ wsX2_step_r5)))) ++ wsX00 ++ wsX10 ++ wsX20)
def wsX2_refresh : List Cond := .code yX2_refresh cX2_refresh 3 (some .int) :: ([.methodLink RX2 36 yX2_clientAt, .instanceMethod yX2_clientAt, .selects RX2 yX2_clientAt yX2_clientAt, .initialized RX2, .code yX2_clientAt cX2_clientAt 2 (some (.object "SharedLog$Client")), .fieldLink RX2 17 "SharedLog" "clients" "[LSharedLog$Client;", .methodLink RX2 115 yX2_takeStoreProjection, .instanceMethod yX2_takeStoreProjection, .selects RX2 yX2_takeStoreProjection yX2_takeStoreProjection, .code yX2_takeStoreProjection cX2_takeStoreProjection 2 none, .fieldLink RX2 21 "SharedLog" "storeEpoch" "I", .fieldLink RX2 25 "SharedLog" "storeMembers" "I"] ++ wsX00 ++ wsX20)
def wsX2_setUp : List Cond := .code yX2_setUp cX2_setUp 4 (some .boolean) :: ([.methodLink RX2 90 yX2_unitAt, .instanceMethod yX2_unitAt, .selects RX2 yX2_unitAt yX2_unitAt, .initialized RX2, .code yX2_unitAt cX2_unitAt 2 (some (.object "SharedLog$Unit")), .fieldLink RX2 11 "SharedLog" "units" "[LSharedLog$Unit;"] ++ wsX10 ++ wsX20)
def wsX2_loseSequencer : List Cond := .code yX2_loseSequencer cX2_loseSequencer 1 none :: ([.fieldLink RX2 31 "SharedLog" "nextPosition" "I"] ++ wsX20)
def wsX2_busy : List Cond := .code yX2_busy cX2_busy 3 (some .int) :: ([.methodLink RX2 36 yX2_clientAt, .instanceMethod yX2_clientAt, .selects RX2 yX2_clientAt yX2_clientAt, .initialized RX2, .code yX2_clientAt cX2_clientAt 2 (some (.object "SharedLog$Client")), .fieldLink RX2 17 "SharedLog" "clients" "[LSharedLog$Client;"] ++ wsX00 ++ wsX20)
def wsX2_outcome : List Cond := .code yX2_outcome cX2_outcome 3 (some .int) :: ([.methodLink RX2 36 yX2_clientAt, .instanceMethod yX2_clientAt, .selects RX2 yX2_clientAt yX2_clientAt, .initialized RX2, .code yX2_clientAt cX2_clientAt 2 (some (.object "SharedLog$Client")), .fieldLink RX2 17 "SharedLog" "clients" "[LSharedLog$Client;"] ++ wsX00 ++ wsX20)
def wsX2_number : List Cond := .code yX2_number cX2_number 3 (some .int) :: ([.methodLink RX2 36 yX2_clientAt, .instanceMethod yX2_clientAt, .selects RX2 yX2_clientAt yX2_clientAt, .initialized RX2, .code yX2_clientAt cX2_clientAt 2 (some (.object "SharedLog$Client")), .fieldLink RX2 17 "SharedLog" "clients" "[LSharedLog$Client;"] ++ wsX00 ++ wsX20)
def wsX2_epochOf : List Cond := .code yX2_epochOf cX2_epochOf 3 (some .int) :: ([.methodLink RX2 36 yX2_clientAt, .instanceMethod yX2_clientAt, .selects RX2 yX2_clientAt yX2_clientAt, .initialized RX2, .code yX2_clientAt cX2_clientAt 2 (some (.object "SharedLog$Client")), .fieldLink RX2 17 "SharedLog" "clients" "[LSharedLog$Client;"] ++ wsX00 ++ wsX20)
def wsX2_membersOf : List Cond := .code yX2_membersOf cX2_membersOf 3 (some .int) :: ([.methodLink RX2 36 yX2_clientAt, .instanceMethod yX2_clientAt, .selects RX2 yX2_clientAt yX2_clientAt, .initialized RX2, .code yX2_clientAt cX2_clientAt 2 (some (.object "SharedLog$Client")), .fieldLink RX2 17 "SharedLog" "clients" "[LSharedLog$Client;"] ++ wsX00 ++ wsX20)
def wsX2_tail : List Cond := .code yX2_tail cX2_tail 1 (some .int) :: ([.fieldLink RX2 31 "SharedLog" "nextPosition" "I"] ++ wsX20)
def wsX2_unitEpoch : List Cond := .code yX2_unitEpoch cX2_unitEpoch 3 (some .int) :: ([.methodLink RX2 90 yX2_unitAt, .instanceMethod yX2_unitAt, .selects RX2 yX2_unitAt yX2_unitAt, .initialized RX2, .code yX2_unitAt cX2_unitAt 2 (some (.object "SharedLog$Unit")), .fieldLink RX2 11 "SharedLog" "units" "[LSharedLog$Unit;"] ++ wsX10 ++ wsX20)
def wsX2_cell : List Cond := .code yX2_cell cX2_cell 4 (some .int) :: ([.methodLink RX2 90 yX2_unitAt, .instanceMethod yX2_unitAt, .selects RX2 yX2_unitAt yX2_unitAt, .initialized RX2, .code yX2_unitAt cX2_unitAt 2 (some (.object "SharedLog$Unit")), .fieldLink RX2 11 "SharedLog" "units" "[LSharedLog$Unit;", .instanceMethod yX1_contentAt, .initialized RX1, .selects RX1 yX1_contentAt yX1_contentAt, .code yX1_contentAt cX1_contentAt 2 (some .int), .fieldLink RX1 19 "SharedLog$Unit" "cells" "[I", .static yX2_isPosition, .code yX2_isPosition cX2_isPosition 1 (some .boolean)] ++ wsX20 ++ wsX10)
def wsX3_init : List Cond := .code yX3_init cX3_init 2 none :: ([.methodLink RX3 1 objectInit, .instanceMethod objectInit, .code objectInit ⟨#[0xb1]⟩ 1 none, .arrayClass .int, .fieldLink RX3 7 "SharedLogModel" "rowUnit" "[I", .fieldLink RX3 13 "SharedLogModel" "rowPos" "[I", .fieldLink RX3 16 "SharedLogModel" "rowVal" "[I", .fieldLink RX3 19 "SharedLogModel" "unitEpoch" "[I", .fieldLink RX3 22 "SharedLogModel" "down" "[I", .fieldLink RX3 25 "SharedLogModel" "kind" "[I", .fieldLink RX3 28 "SharedLogModel" "epoch" "[I", .fieldLink RX3 31 "SharedLogModel" "members" "[I", .fieldLink RX3 34 "SharedLogModel" "outcome" "[I", .fieldLink RX3 37 "SharedLogModel" "number" "[I", .fieldLink RX3 40 "SharedLogModel" "pos" "[I", .fieldLink RX3 43 "SharedLogModel" "val" "[I", .fieldLink RX3 46 "SharedLogModel" "at" "[I", .fieldLink RX3 49 "SharedLogModel" "want" "[I", .fieldLink RX3 52 "SharedLogModel" "storeMembers" "I"] ++ wsX30)
def wsX3_look : List Cond := .code yX3_look cX3_look 4 (some .int) :: ([.fieldLink RX3 56 "SharedLogModel" "rows" "I", .fieldLink RX3 7 "SharedLogModel" "rowUnit" "[I", .fieldLink RX3 13 "SharedLogModel" "rowPos" "[I", .fieldLink RX3 16 "SharedLogModel" "rowVal" "[I"] ++ wsX30)
def wsX3_put : List Cond := .code yX3_put cX3_put 4 none :: ([.fieldLink RX3 7 "SharedLogModel" "rowUnit" "[I", .fieldLink RX3 56 "SharedLogModel" "rows" "I", .fieldLink RX3 13 "SharedLogModel" "rowPos" "[I", .fieldLink RX3 16 "SharedLogModel" "rowVal" "[I"] ++ wsX30)
def wsX3_nth : List Cond := .code yX3_nth cX3_nth 5 (some .int) :: ([])
def wsX3_length : List Cond := .code yX3_length cX3_length 4 (some .int) :: ([])
def wsX3_begin : List Cond := .code yX3_begin cX3_begin 4 (some .int) :: ([.fieldLink RX3 25 "SharedLogModel" "kind" "[I", .fieldLink RX3 34 "SharedLogModel" "outcome" "[I", .fieldLink RX3 37 "SharedLogModel" "number" "[I", .fieldLink RX3 46 "SharedLogModel" "at" "[I", .fieldLink RX3 43 "SharedLogModel" "val" "[I", .fieldLink RX3 40 "SharedLogModel" "pos" "[I"] ++ wsX30)
def wsX3_append : List Cond := .code yX3_append cX3_append 4 (some .int) :: ([.constant RX3 59 (1073741823), .fieldLink RX3 43 "SharedLogModel" "val" "[I", .fieldLink RX3 40 "SharedLogModel" "pos" "[I", .methodLink RX3 60 yX3_begin, .instanceMethod yX3_begin, .selects RX3 yX3_begin yX3_begin, .initialized RX3, .code yX3_begin cX3_begin 4 (some .int), .fieldLink RX3 25 "SharedLogModel" "kind" "[I", .fieldLink RX3 34 "SharedLogModel" "outcome" "[I", .fieldLink RX3 37 "SharedLogModel" "number" "[I", .fieldLink RX3 46 "SharedLogModel" "at" "[I"] ++ wsX30)
def wsX3_fill : List Cond := .code yX3_fill cX3_fill 4 (some .int) :: ([.fieldLink RX3 40 "SharedLogModel" "pos" "[I", .methodLink RX3 60 yX3_begin, .instanceMethod yX3_begin, .selects RX3 yX3_begin yX3_begin, .initialized RX3, .code yX3_begin cX3_begin 4 (some .int), .fieldLink RX3 25 "SharedLogModel" "kind" "[I", .fieldLink RX3 34 "SharedLogModel" "outcome" "[I", .fieldLink RX3 37 "SharedLogModel" "number" "[I", .fieldLink RX3 46 "SharedLogModel" "at" "[I", .fieldLink RX3 43 "SharedLogModel" "val" "[I"] ++ wsX30)
def wsX3_read : List Cond := .code yX3_read cX3_read 4 (some .int) :: ([.fieldLink RX3 40 "SharedLogModel" "pos" "[I", .methodLink RX3 60 yX3_begin, .instanceMethod yX3_begin, .selects RX3 yX3_begin yX3_begin, .initialized RX3, .code yX3_begin cX3_begin 4 (some .int), .fieldLink RX3 25 "SharedLogModel" "kind" "[I", .fieldLink RX3 34 "SharedLogModel" "outcome" "[I", .fieldLink RX3 37 "SharedLogModel" "number" "[I", .fieldLink RX3 46 "SharedLogModel" "at" "[I", .fieldLink RX3 43 "SharedLogModel" "val" "[I"] ++ wsX30)
def wsX3_replay : List Cond := .code yX3_replay cX3_replay 4 (some .int) :: ([.fieldLink RX3 49 "SharedLogModel" "want" "[I", .methodLink RX3 60 yX3_begin, .instanceMethod yX3_begin, .selects RX3 yX3_begin yX3_begin, .initialized RX3, .code yX3_begin cX3_begin 4 (some .int), .fieldLink RX3 25 "SharedLogModel" "kind" "[I", .fieldLink RX3 34 "SharedLogModel" "outcome" "[I", .fieldLink RX3 37 "SharedLogModel" "number" "[I", .fieldLink RX3 46 "SharedLogModel" "at" "[I", .fieldLink RX3 43 "SharedLogModel" "val" "[I", .fieldLink RX3 40 "SharedLogModel" "pos" "[I"] ++ wsX30)
def wsX3_reform : List Cond := .code yX3_reform cX3_reform 5 (some .int) :: ([.fieldLink RX3 25 "SharedLogModel" "kind" "[I", .fieldLink RX3 31 "SharedLogModel" "members" "[I", .fieldLink RX3 49 "SharedLogModel" "want" "[I", .methodLink RX3 64 yX3_length, .static yX3_length, .initialized RX3, .code yX3_length cX3_length 4 (some .int), .methodLink RX3 60 yX3_begin, .instanceMethod yX3_begin, .selects RX3 yX3_begin yX3_begin, .code yX3_begin cX3_begin 4 (some .int), .fieldLink RX3 34 "SharedLogModel" "outcome" "[I", .fieldLink RX3 37 "SharedLogModel" "number" "[I", .fieldLink RX3 46 "SharedLogModel" "at" "[I", .fieldLink RX3 43 "SharedLogModel" "val" "[I", .fieldLink RX3 40 "SharedLogModel" "pos" "[I"] ++ wsX30)
def wsX3_end : List Cond := .code yX3_end cX3_end 4 (some .int) :: ([.fieldLink RX3 25 "SharedLogModel" "kind" "[I", .fieldLink RX3 34 "SharedLogModel" "outcome" "[I", .fieldLink RX3 37 "SharedLogModel" "number" "[I"] ++ wsX30)
def wsX3_alongChain_r1 : List Cond := [Cond.fieldLink RX3 31 "SharedLogModel" "members" "[I", Cond.fieldLink RX3 40 "SharedLogModel" "pos" "[I", Cond.fieldLink RX3 46 "SharedLogModel" "at" "[I", Cond.fieldLink RX3 22 "SharedLogModel" "down" "[I", Cond.fieldLink RX3 19 "SharedLogModel" "unitEpoch" "[I", Cond.fieldLink RX3 28 "SharedLogModel" "epoch" "[I", Cond.fieldLink RX3 25 "SharedLogModel" "kind" "[I", Cond.fieldLink RX3 43 "SharedLogModel" "val" "[I", Cond.methodLink RX3 64 yX3_length, Cond.static yX3_length, Cond.initialized RX3, Cond.code yX3_length cX3_length 4 (some .int), Cond.methodLink RX3 68 yX3_nth, Cond.static yX3_nth, Cond.code yX3_nth cX3_nth 5 (some .int), Cond.methodLink RX3 72 yX3_end, Cond.instanceMethod yX3_end, Cond.selects RX3 yX3_end yX3_end, Cond.code yX3_end cX3_end 4 (some .int), Cond.fieldLink RX3 34 "SharedLogModel" "outcome" "[I", Cond.fieldLink RX3 37 "SharedLogModel" "number" "[I", Cond.methodLink RX3 75 yX3_look, Cond.instanceMethod yX3_look, Cond.selects RX3 yX3_look yX3_look]
def wsX3_alongChain_r2 : List Cond := [Cond.code yX3_look cX3_look 4 (some .int), Cond.fieldLink RX3 56 "SharedLogModel" "rows" "I", Cond.fieldLink RX3 7 "SharedLogModel" "rowUnit" "[I", Cond.fieldLink RX3 13 "SharedLogModel" "rowPos" "[I", Cond.fieldLink RX3 16 "SharedLogModel" "rowVal" "[I", Cond.methodLink RX3 78 yX3_put, Cond.instanceMethod yX3_put, Cond.selects RX3 yX3_put yX3_put, Cond.code yX3_put cX3_put 4 none]
def wsX3_alongChain : List Cond := .code yX3_alongChain cX3_alongChain 5 (some .int) :: ((wsX3_alongChain_r1 ++ wsX3_alongChain_r2) ++ wsX30)
def wsX3_atTail_r1 : List Cond := [Cond.fieldLink RX3 25 "SharedLogModel" "kind" "[I", Cond.fieldLink RX3 40 "SharedLogModel" "pos" "[I", Cond.fieldLink RX3 49 "SharedLogModel" "want" "[I", Cond.fieldLink RX3 43 "SharedLogModel" "val" "[I", Cond.fieldLink RX3 31 "SharedLogModel" "members" "[I", Cond.fieldLink RX3 22 "SharedLogModel" "down" "[I", Cond.fieldLink RX3 19 "SharedLogModel" "unitEpoch" "[I", Cond.fieldLink RX3 28 "SharedLogModel" "epoch" "[I", Cond.methodLink RX3 72 yX3_end, Cond.instanceMethod yX3_end, Cond.selects RX3 yX3_end yX3_end, Cond.initialized RX3, Cond.code yX3_end cX3_end 4 (some .int), Cond.fieldLink RX3 34 "SharedLogModel" "outcome" "[I", Cond.fieldLink RX3 37 "SharedLogModel" "number" "[I", Cond.methodLink RX3 64 yX3_length, Cond.static yX3_length, Cond.code yX3_length cX3_length 4 (some .int), Cond.methodLink RX3 68 yX3_nth, Cond.static yX3_nth, Cond.code yX3_nth cX3_nth 5 (some .int), Cond.methodLink RX3 75 yX3_look, Cond.instanceMethod yX3_look, Cond.selects RX3 yX3_look yX3_look]
def wsX3_atTail_r2 : List Cond := [Cond.code yX3_look cX3_look 4 (some .int), Cond.fieldLink RX3 56 "SharedLogModel" "rows" "I", Cond.fieldLink RX3 7 "SharedLogModel" "rowUnit" "[I", Cond.fieldLink RX3 13 "SharedLogModel" "rowPos" "[I", Cond.fieldLink RX3 16 "SharedLogModel" "rowVal" "[I"]
def wsX3_atTail : List Cond := .code yX3_atTail cX3_atTail 5 (some .int) :: ((wsX3_atTail_r1 ++ wsX3_atTail_r2) ++ wsX30)
def wsX3_seal_r1 : List Cond := [Cond.fieldLink RX3 49 "SharedLogModel" "want" "[I", Cond.fieldLink RX3 46 "SharedLogModel" "at" "[I", Cond.fieldLink RX3 22 "SharedLogModel" "down" "[I", Cond.fieldLink RX3 19 "SharedLogModel" "unitEpoch" "[I", Cond.fieldLink RX3 28 "SharedLogModel" "epoch" "[I", Cond.fieldLink RX3 56 "SharedLogModel" "rows" "I", Cond.fieldLink RX3 7 "SharedLogModel" "rowUnit" "[I", Cond.fieldLink RX3 13 "SharedLogModel" "rowPos" "[I", Cond.fieldLink RX3 43 "SharedLogModel" "val" "[I", Cond.fieldLink RX3 82 "SharedLogModel" "storeEpoch" "I", Cond.fieldLink RX3 52 "SharedLogModel" "storeMembers" "I", Cond.fieldLink RX3 85 "SharedLogModel" "seqEpoch" "I", Cond.fieldLink RX3 88 "SharedLogModel" "seqNext" "I", Cond.fieldLink RX3 31 "SharedLogModel" "members" "[I", Cond.methodLink RX3 68 yX3_nth, Cond.static yX3_nth, Cond.initialized RX3, Cond.code yX3_nth cX3_nth 5 (some .int), Cond.methodLink RX3 72 yX3_end, Cond.instanceMethod yX3_end, Cond.selects RX3 yX3_end yX3_end, Cond.code yX3_end cX3_end 4 (some .int), Cond.fieldLink RX3 25 "SharedLogModel" "kind" "[I", Cond.fieldLink RX3 34 "SharedLogModel" "outcome" "[I"]
def wsX3_seal_r2 : List Cond := [Cond.fieldLink RX3 37 "SharedLogModel" "number" "[I"]
def wsX3_seal : List Cond := .code yX3_seal cX3_seal 4 (some .int) :: ((wsX3_seal_r1 ++ wsX3_seal_r2) ++ wsX30)
def wsX3_step_r1 : List Cond := [Cond.fieldLink RX3 25 "SharedLogModel" "kind" "[I", Cond.fieldLink RX3 40 "SharedLogModel" "pos" "[I", Cond.fieldLink RX3 28 "SharedLogModel" "epoch" "[I", Cond.fieldLink RX3 85 "SharedLogModel" "seqEpoch" "I", Cond.fieldLink RX3 88 "SharedLogModel" "seqNext" "I", Cond.fieldLink RX3 46 "SharedLogModel" "at" "[I", Cond.methodLink RX3 91 yX3_seal, Cond.instanceMethod yX3_seal, Cond.selects RX3 yX3_seal yX3_seal, Cond.initialized RX3, Cond.code yX3_seal cX3_seal 4 (some .int), Cond.fieldLink RX3 49 "SharedLogModel" "want" "[I", Cond.fieldLink RX3 22 "SharedLogModel" "down" "[I", Cond.fieldLink RX3 19 "SharedLogModel" "unitEpoch" "[I", Cond.fieldLink RX3 56 "SharedLogModel" "rows" "I", Cond.fieldLink RX3 7 "SharedLogModel" "rowUnit" "[I", Cond.fieldLink RX3 13 "SharedLogModel" "rowPos" "[I", Cond.fieldLink RX3 43 "SharedLogModel" "val" "[I", Cond.fieldLink RX3 82 "SharedLogModel" "storeEpoch" "I", Cond.fieldLink RX3 52 "SharedLogModel" "storeMembers" "I", Cond.fieldLink RX3 31 "SharedLogModel" "members" "[I", Cond.methodLink RX3 68 yX3_nth, Cond.static yX3_nth, Cond.code yX3_nth cX3_nth 5 (some .int)]
def wsX3_step_r2 : List Cond := [Cond.methodLink RX3 72 yX3_end, Cond.instanceMethod yX3_end, Cond.selects RX3 yX3_end yX3_end, Cond.code yX3_end cX3_end 4 (some .int), Cond.fieldLink RX3 34 "SharedLogModel" "outcome" "[I", Cond.fieldLink RX3 37 "SharedLogModel" "number" "[I", Cond.methodLink RX3 95 yX3_atTail, Cond.instanceMethod yX3_atTail, Cond.selects RX3 yX3_atTail yX3_atTail, Cond.code yX3_atTail cX3_atTail 5 (some .int), Cond.methodLink RX3 64 yX3_length, Cond.static yX3_length, Cond.code yX3_length cX3_length 4 (some .int), Cond.methodLink RX3 75 yX3_look, Cond.instanceMethod yX3_look, Cond.selects RX3 yX3_look yX3_look, Cond.code yX3_look cX3_look 4 (some .int), Cond.fieldLink RX3 16 "SharedLogModel" "rowVal" "[I", Cond.methodLink RX3 98 yX3_alongChain, Cond.instanceMethod yX3_alongChain, Cond.selects RX3 yX3_alongChain yX3_alongChain, Cond.code yX3_alongChain cX3_alongChain 5 (some .int), Cond.methodLink RX3 78 yX3_put, Cond.instanceMethod yX3_put]
def wsX3_step_r3 : List Cond := [Cond.selects RX3 yX3_put yX3_put, Cond.code yX3_put cX3_put 4 none]
def wsX3_step : List Cond := .code yX3_step cX3_step 2 (some .int) :: ((wsX3_step_r1 ++ (wsX3_step_r2 ++ wsX3_step_r3)) ++ wsX30)
def wsX3_refresh : List Cond := .code yX3_refresh cX3_refresh 2 (some .int) :: ([.fieldLink RX3 25 "SharedLogModel" "kind" "[I", .fieldLink RX3 28 "SharedLogModel" "epoch" "[I", .fieldLink RX3 82 "SharedLogModel" "storeEpoch" "I", .fieldLink RX3 31 "SharedLogModel" "members" "[I", .fieldLink RX3 52 "SharedLogModel" "storeMembers" "I"] ++ wsX30)
def wsX3_setUp : List Cond := .code yX3_setUp cX3_setUp 3 (some .boolean) :: ([.fieldLink RX3 22 "SharedLogModel" "down" "[I"] ++ wsX30)
def wsX3_loseSequencer : List Cond := .code yX3_loseSequencer cX3_loseSequencer 1 none :: ([.fieldLink RX3 88 "SharedLogModel" "seqNext" "I"] ++ wsX30)
def wsX3_busy : List Cond := .code yX3_busy cX3_busy 2 (some .int) :: ([.fieldLink RX3 25 "SharedLogModel" "kind" "[I"] ++ wsX30)
def wsX3_outcome : List Cond := .code yX3_outcome cX3_outcome 2 (some .int) :: ([.fieldLink RX3 34 "SharedLogModel" "outcome" "[I"] ++ wsX30)
def wsX3_number : List Cond := .code yX3_number cX3_number 2 (some .int) :: ([.fieldLink RX3 37 "SharedLogModel" "number" "[I"] ++ wsX30)
def wsX3_epochOf : List Cond := .code yX3_epochOf cX3_epochOf 2 (some .int) :: ([.fieldLink RX3 28 "SharedLogModel" "epoch" "[I"] ++ wsX30)
def wsX3_membersOf : List Cond := .code yX3_membersOf cX3_membersOf 2 (some .int) :: ([.fieldLink RX3 31 "SharedLogModel" "members" "[I"] ++ wsX30)
def wsX3_tail : List Cond := .code yX3_tail cX3_tail 1 (some .int) :: ([.fieldLink RX3 88 "SharedLogModel" "seqNext" "I"] ++ wsX30)
def wsX3_unitEpoch : List Cond := .code yX3_unitEpoch cX3_unitEpoch 2 (some .int) :: ([.fieldLink RX3 19 "SharedLogModel" "unitEpoch" "[I"] ++ wsX30)
def wsX3_cell : List Cond := .code yX3_cell cX3_cell 3 (some .int) :: ([.methodLink RX3 75 yX3_look, .instanceMethod yX3_look, .selects RX3 yX3_look yX3_look, .initialized RX3, .code yX3_look cX3_look 4 (some .int), .fieldLink RX3 56 "SharedLogModel" "rows" "I", .fieldLink RX3 7 "SharedLogModel" "rowUnit" "[I", .fieldLink RX3 13 "SharedLogModel" "rowPos" "[I", .fieldLink RX3 16 "SharedLogModel" "rowVal" "[I"] ++ wsX30)
def wsJ9_max_7cf53 : List Cond := .code yJ9_max_7cf53 cJ9_max_7cf53 2 (some .int) :: ([])
def wsL_law_r1 : List Cond := [Cond.classLink RL 7 RX2, Cond.instantiable RX2 6, Cond.initialized RX2, Cond.classLink RL 10 RX3, Cond.instantiable RX3 19, Cond.initialized RX3, Cond.methodLink RL 9 yX2_init, Cond.instanceMethod yX2_init, Cond.code yX2_init cX2_init 2 none, Cond.methodLink RX2 1 objectInit, Cond.instanceMethod objectInit, Cond.code objectInit ⟨#[0xb1]⟩ 1 none, Cond.classLink RX2 9 RX1, Cond.fieldLink RX2 11 "SharedLog" "units" "[LSharedLog$Unit;", Cond.classLink RX2 15 RX0, Cond.fieldLink RX2 17 "SharedLog" "clients" "[LSharedLog$Client;", Cond.fieldLink RX2 21 "SharedLog" "storeEpoch" "I", Cond.fieldLink RX2 25 "SharedLog" "storeMembers" "I", Cond.fieldLink RX2 28 "SharedLog" "sequencerEpoch" "I", Cond.fieldLink RX2 31 "SharedLog" "nextPosition" "I", Cond.instantiable RX1 3, Cond.initialized RX1, Cond.instantiable RX0 12, Cond.initialized RX0]
def wsL_law_r2 : List Cond := [Cond.instanceMethod yX1_init, Cond.code yX1_init cX1_init 2 none, Cond.methodLink RX1 3 objectInit, Cond.fieldLink RX1 9 "SharedLog$Unit" "epoch" "I", Cond.fieldLink RX1 15 "SharedLog$Unit" "up" "Z", Cond.arrayClass .int, Cond.fieldLink RX1 19 "SharedLog$Unit" "cells" "[I", Cond.instanceMethod yX0_init, Cond.code yX0_init cX0_init 1 none, Cond.methodLink RX0 3 objectInit, Cond.fieldLink RX0 9 "SharedLog$Client" "epoch" "I", Cond.fieldLink RX0 15 "SharedLog$Client" "members" "I", Cond.fieldLink RX0 18 "SharedLog$Client" "kind" "I", Cond.fieldLink RX0 21 "SharedLog$Client" "outcome" "I", Cond.fieldLink RX0 24 "SharedLog$Client" "number" "I", Cond.fieldLink RX0 27 "SharedLog$Client" "route" "I", Cond.fieldLink RX0 30 "SharedLog$Client" "position" "I", Cond.fieldLink RX0 33 "SharedLog$Client" "content" "I", Cond.fieldLink RX0 36 "SharedLog$Client" "upto" "I", Cond.fieldLink RX0 39 "SharedLog$Client" "sum" "I", Cond.fieldLink RX0 42 "SharedLog$Client" "survivors" "I", Cond.fieldLink RX0 45 "SharedLog$Client" "greatestEnd" "I", Cond.methodLink RL 12 yX3_init, Cond.instanceMethod yX3_init]
def wsL_law_r3 : List Cond := [Cond.code yX3_init cX3_init 2 none, Cond.methodLink RX3 1 objectInit, Cond.fieldLink RX3 7 "SharedLogModel" "rowUnit" "[I", Cond.fieldLink RX3 13 "SharedLogModel" "rowPos" "[I", Cond.fieldLink RX3 16 "SharedLogModel" "rowVal" "[I", Cond.fieldLink RX3 19 "SharedLogModel" "unitEpoch" "[I", Cond.fieldLink RX3 22 "SharedLogModel" "down" "[I", Cond.fieldLink RX3 25 "SharedLogModel" "kind" "[I", Cond.fieldLink RX3 28 "SharedLogModel" "epoch" "[I", Cond.fieldLink RX3 31 "SharedLogModel" "members" "[I", Cond.fieldLink RX3 34 "SharedLogModel" "outcome" "[I", Cond.fieldLink RX3 37 "SharedLogModel" "number" "[I", Cond.fieldLink RX3 40 "SharedLogModel" "pos" "[I", Cond.fieldLink RX3 43 "SharedLogModel" "val" "[I", Cond.fieldLink RX3 46 "SharedLogModel" "at" "[I", Cond.fieldLink RX3 49 "SharedLogModel" "want" "[I", Cond.fieldLink RX3 52 "SharedLogModel" "storeMembers" "I", Cond.methodLink RL 13 yX2_append, Cond.instanceMethod yX2_append, Cond.selects RX2 yX2_append yX2_append, Cond.code yX2_append cX2_append 4 (some .int), Cond.constant RX2 43 (1073741823), Cond.methodLink RX2 36 yX2_clientAt, Cond.instanceMethod yX2_clientAt]
def wsL_law_r4 : List Cond := [Cond.selects RX2 yX2_clientAt yX2_clientAt, Cond.code yX2_clientAt cX2_clientAt 2 (some (.object "SharedLog$Client")), Cond.instanceMethod yX0_begin, Cond.selects RX0 yX0_begin yX0_begin, Cond.code yX0_begin cX0_begin 3 (some .int), Cond.methodLink RL 17 yX3_append, Cond.instanceMethod yX3_append, Cond.selects RX3 yX3_append yX3_append, Cond.code yX3_append cX3_append 4 (some .int), Cond.constant RX3 59 (1073741823), Cond.methodLink RX3 60 yX3_begin, Cond.instanceMethod yX3_begin, Cond.selects RX3 yX3_begin yX3_begin, Cond.code yX3_begin cX3_begin 4 (some .int), Cond.methodLink RL 18 yX2_fill, Cond.instanceMethod yX2_fill, Cond.selects RX2 yX2_fill yX2_fill, Cond.code yX2_fill cX2_fill 4 (some .int), Cond.methodLink RX2 51 yX2_isPosition, Cond.static yX2_isPosition, Cond.code yX2_isPosition cX2_isPosition 1 (some .boolean), Cond.instanceMethod yX0_chainOf, Cond.selects RX0 yX0_chainOf yX0_chainOf, Cond.code yX0_chainOf cX0_chainOf 2 (some .int)]
def wsL_law_r5 : List Cond := [Cond.methodLink RL 21 yX3_fill, Cond.instanceMethod yX3_fill, Cond.selects RX3 yX3_fill yX3_fill, Cond.code yX3_fill cX3_fill 4 (some .int), Cond.methodLink RL 22 yX2_read, Cond.instanceMethod yX2_read, Cond.selects RX2 yX2_read yX2_read, Cond.code yX2_read cX2_read 4 (some .int), Cond.methodLink RX2 62 yX2_highestOf, Cond.static yX2_highestOf, Cond.code yX2_highestOf cX2_highestOf 2 (some .int), Cond.methodLink RL 25 yX3_read, Cond.instanceMethod yX3_read, Cond.selects RX3 yX3_read yX3_read, Cond.code yX3_read cX3_read 4 (some .int), Cond.methodLink RL 26 yX2_replay, Cond.instanceMethod yX2_replay, Cond.selects RX2 yX2_replay yX2_replay, Cond.code yX2_replay cX2_replay 4 (some .int), Cond.instanceMethod yX0_replayRoute, Cond.selects RX0 yX0_replayRoute yX0_replayRoute, Cond.code yX0_replayRoute cX0_replayRoute 1 (some .int), Cond.methodLink RX0 48 yX0_chainOf, Cond.methodLink RL 29 yX3_replay]
def wsL_law_r6 : List Cond := [Cond.instanceMethod yX3_replay, Cond.selects RX3 yX3_replay yX3_replay, Cond.code yX3_replay cX3_replay 4 (some .int), Cond.methodLink RL 30 yX2_reform, Cond.instanceMethod yX2_reform, Cond.selects RX2 yX2_reform yX2_reform, Cond.code yX2_reform cX2_reform 5 (some .int), Cond.methodLink RL 33 yX3_reform, Cond.instanceMethod yX3_reform, Cond.selects RX3 yX3_reform yX3_reform, Cond.code yX3_reform cX3_reform 5 (some .int), Cond.methodLink RX3 64 yX3_length, Cond.static yX3_length, Cond.code yX3_length cX3_length 4 (some .int), Cond.methodLink RL 34 yX2_step, Cond.instanceMethod yX2_step, Cond.selects RX2 yX2_step yX2_step, Cond.code yX2_step cX2_step 4 (some .int), Cond.methodLink RX2 87 yX2_lowestUnit, Cond.static yX2_lowestUnit, Cond.code yX2_lowestUnit cX2_lowestUnit 2 (some .int), Cond.methodLink RX2 90 yX2_unitAt, Cond.instanceMethod yX2_unitAt, Cond.selects RX2 yX2_unitAt yX2_unitAt]
def wsL_law_r7 : List Cond := [Cond.code yX2_unitAt cX2_unitAt 2 (some (.object "SharedLog$Unit")), Cond.methodLink RX2 94 yX2_stepWithoutUnit, Cond.instanceMethod yX2_stepWithoutUnit, Cond.selects RX2 yX2_stepWithoutUnit yX2_stepWithoutUnit, Cond.code yX2_stepWithoutUnit cX2_stepWithoutUnit 2 (some .int), Cond.methodLink RX2 129 yX2_askSequencer, Cond.instanceMethod yX2_askSequencer, Cond.selects RX2 yX2_askSequencer yX2_askSequencer, Cond.code yX2_askSequencer cX2_askSequencer 2 (some .int), Cond.instanceMethod yX0_end, Cond.selects RX0 yX0_end yX0_end, Cond.code yX0_end cX0_end 3 (some .int), Cond.methodLink RX2 132 yX2_askStore, Cond.instanceMethod yX2_askStore, Cond.selects RX2 yX2_askStore yX2_askStore, Cond.code yX2_askStore cX2_askStore 2 (some .int), Cond.methodLink RX2 115 yX2_takeStoreProjection, Cond.instanceMethod yX2_takeStoreProjection, Cond.selects RX2 yX2_takeStoreProjection yX2_takeStoreProjection, Cond.code yX2_takeStoreProjection cX2_takeStoreProjection 2 none, Cond.instanceMethod yX0_newestEpochItBears, Cond.selects RX0 yX0_newestEpochItBears yX0_newestEpochItBears, Cond.code yX0_newestEpochItBears cX0_newestEpochItBears 1 (some .int), Cond.methodLink RX2 111 yX2_stepAtUnit]
def wsL_law_r8 : List Cond := [Cond.static yX2_stepAtUnit, Cond.code yX2_stepAtUnit cX2_stepAtUnit 2 (some .int), Cond.methodLink RX2 135 yX2_appendAt, Cond.static yX2_appendAt, Cond.code yX2_appendAt cX2_appendAt 3 (some .int), Cond.instanceMethod yX1_contentAt, Cond.selects RX1 yX1_contentAt yX1_contentAt, Cond.code yX1_contentAt cX1_contentAt 2 (some .int), Cond.instanceMethod yX0_isAtHead, Cond.selects RX0 yX0_isAtHead yX0_isAtHead, Cond.code yX0_isAtHead cX0_isAtHead 1 (some .boolean), Cond.instanceMethod yX1_writeOnce, Cond.selects RX1 yX1_writeOnce yX1_writeOnce, Cond.code yX1_writeOnce cX1_writeOnce 3 none, Cond.instanceMethod yX0_goAlongChain, Cond.selects RX0 yX0_goAlongChain yX0_goAlongChain, Cond.code yX0_goAlongChain cX0_goAlongChain 2 (some .int), Cond.static yX2_withoutLowest, Cond.code yX2_withoutLowest cX2_withoutLowest 1 (some .int), Cond.methodLink RX0 58 yX0_end, Cond.methodLink RX2 138 yX2_fillAt, Cond.static yX2_fillAt, Cond.code yX2_fillAt cX2_fillAt 2 (some .int), Cond.methodLink RX2 141 yX2_readAt]
def wsL_law_r9 : List Cond := [Cond.static yX2_readAt, Cond.code yX2_readAt cX2_readAt 3 (some .int), Cond.methodLink RX2 144 yX2_replayAt, Cond.static yX2_replayAt, Cond.code yX2_replayAt cX2_replayAt 3 (some .int), Cond.methodLink RX2 147 yX2_sealAt, Cond.static yX2_sealAt, Cond.code yX2_sealAt cX2_sealAt 2 (some .int), Cond.methodLink RX2 164 Lib.Math.max.name, Cond.static Lib.Math.max.name, Cond.initialized "java/lang/Math", Cond.code Lib.Math.max.name Lib.Math.max.code 2 (some .int), Cond.instanceMethod yX1_endOfWritten, Cond.selects RX1 yX1_endOfWritten yX1_endOfWritten, Cond.code yX1_endOfWritten cX1_endOfWritten 2 (some .int), Cond.methodLink RX2 169 yX2_withoutLowest, Cond.methodLink RL 38 yX3_step, Cond.instanceMethod yX3_step, Cond.selects RX3 yX3_step yX3_step, Cond.code yX3_step cX3_step 2 (some .int), Cond.fieldLink RX3 85 "SharedLogModel" "seqEpoch" "I", Cond.fieldLink RX3 88 "SharedLogModel" "seqNext" "I", Cond.methodLink RX3 91 yX3_seal, Cond.instanceMethod yX3_seal]
def wsL_law_r10 : List Cond := [Cond.selects RX3 yX3_seal yX3_seal, Cond.code yX3_seal cX3_seal 4 (some .int), Cond.fieldLink RX3 56 "SharedLogModel" "rows" "I", Cond.fieldLink RX3 82 "SharedLogModel" "storeEpoch" "I", Cond.methodLink RX3 68 yX3_nth, Cond.static yX3_nth, Cond.code yX3_nth cX3_nth 5 (some .int), Cond.methodLink RX3 72 yX3_end, Cond.instanceMethod yX3_end, Cond.selects RX3 yX3_end yX3_end, Cond.code yX3_end cX3_end 4 (some .int), Cond.methodLink RX3 95 yX3_atTail, Cond.instanceMethod yX3_atTail, Cond.selects RX3 yX3_atTail yX3_atTail, Cond.code yX3_atTail cX3_atTail 5 (some .int), Cond.methodLink RX3 75 yX3_look, Cond.instanceMethod yX3_look, Cond.selects RX3 yX3_look yX3_look, Cond.code yX3_look cX3_look 4 (some .int), Cond.methodLink RX3 98 yX3_alongChain, Cond.instanceMethod yX3_alongChain, Cond.selects RX3 yX3_alongChain yX3_alongChain, Cond.code yX3_alongChain cX3_alongChain 5 (some .int), Cond.methodLink RX3 78 yX3_put]
def wsL_law_r11 : List Cond := [Cond.instanceMethod yX3_put, Cond.selects RX3 yX3_put yX3_put, Cond.code yX3_put cX3_put 4 none, Cond.methodLink RL 39 yX2_refresh, Cond.instanceMethod yX2_refresh, Cond.selects RX2 yX2_refresh yX2_refresh, Cond.code yX2_refresh cX2_refresh 3 (some .int), Cond.methodLink RL 42 yX3_refresh, Cond.instanceMethod yX3_refresh, Cond.selects RX3 yX3_refresh yX3_refresh, Cond.code yX3_refresh cX3_refresh 2 (some .int), Cond.methodLink RL 43 yX2_setUp, Cond.instanceMethod yX2_setUp, Cond.selects RX2 yX2_setUp yX2_setUp, Cond.code yX2_setUp cX2_setUp 4 (some .boolean), Cond.methodLink RL 47 yX3_setUp, Cond.instanceMethod yX3_setUp, Cond.selects RX3 yX3_setUp yX3_setUp, Cond.code yX3_setUp cX3_setUp 3 (some .boolean), Cond.methodLink RL 48 yX2_loseSequencer, Cond.instanceMethod yX2_loseSequencer, Cond.selects RX2 yX2_loseSequencer yX2_loseSequencer, Cond.code yX2_loseSequencer cX2_loseSequencer 1 none, Cond.methodLink RL 51 yX3_loseSequencer]
def wsL_law_r12 : List Cond := [Cond.instanceMethod yX3_loseSequencer, Cond.selects RX3 yX3_loseSequencer yX3_loseSequencer, Cond.code yX3_loseSequencer cX3_loseSequencer 1 none, Cond.methodLink RL 52 yX2_busy, Cond.instanceMethod yX2_busy, Cond.selects RX2 yX2_busy yX2_busy, Cond.code yX2_busy cX2_busy 3 (some .int), Cond.methodLink RL 55 yX3_busy, Cond.instanceMethod yX3_busy, Cond.selects RX3 yX3_busy yX3_busy, Cond.code yX3_busy cX3_busy 2 (some .int), Cond.methodLink RL 56 yX2_outcome, Cond.instanceMethod yX2_outcome, Cond.selects RX2 yX2_outcome yX2_outcome, Cond.code yX2_outcome cX2_outcome 3 (some .int), Cond.methodLink RL 59 yX3_outcome, Cond.instanceMethod yX3_outcome, Cond.selects RX3 yX3_outcome yX3_outcome, Cond.code yX3_outcome cX3_outcome 2 (some .int), Cond.methodLink RL 60 yX2_number, Cond.instanceMethod yX2_number, Cond.selects RX2 yX2_number yX2_number, Cond.code yX2_number cX2_number 3 (some .int), Cond.methodLink RL 63 yX3_number]
def wsL_law_r13 : List Cond := [Cond.instanceMethod yX3_number, Cond.selects RX3 yX3_number yX3_number, Cond.code yX3_number cX3_number 2 (some .int), Cond.methodLink RL 64 yX2_epochOf, Cond.instanceMethod yX2_epochOf, Cond.selects RX2 yX2_epochOf yX2_epochOf, Cond.code yX2_epochOf cX2_epochOf 3 (some .int), Cond.methodLink RL 67 yX3_epochOf, Cond.instanceMethod yX3_epochOf, Cond.selects RX3 yX3_epochOf yX3_epochOf, Cond.code yX3_epochOf cX3_epochOf 2 (some .int), Cond.methodLink RL 68 yX2_membersOf, Cond.instanceMethod yX2_membersOf, Cond.selects RX2 yX2_membersOf yX2_membersOf, Cond.code yX2_membersOf cX2_membersOf 3 (some .int), Cond.methodLink RL 71 yX3_membersOf, Cond.instanceMethod yX3_membersOf, Cond.selects RX3 yX3_membersOf yX3_membersOf, Cond.code yX3_membersOf cX3_membersOf 2 (some .int), Cond.methodLink RL 72 yX2_tail, Cond.instanceMethod yX2_tail, Cond.selects RX2 yX2_tail yX2_tail, Cond.code yX2_tail cX2_tail 1 (some .int), Cond.methodLink RL 76 yX3_tail]
def wsL_law_r14 : List Cond := [Cond.instanceMethod yX3_tail, Cond.selects RX3 yX3_tail yX3_tail, Cond.code yX3_tail cX3_tail 1 (some .int), Cond.methodLink RL 77 yX2_unitEpoch, Cond.instanceMethod yX2_unitEpoch, Cond.selects RX2 yX2_unitEpoch yX2_unitEpoch, Cond.code yX2_unitEpoch cX2_unitEpoch 3 (some .int), Cond.methodLink RL 80 yX3_unitEpoch, Cond.instanceMethod yX3_unitEpoch, Cond.selects RX3 yX3_unitEpoch yX3_unitEpoch, Cond.code yX3_unitEpoch cX3_unitEpoch 2 (some .int), Cond.methodLink RL 81 yX2_cell, Cond.instanceMethod yX2_cell, Cond.selects RX2 yX2_cell yX2_cell, Cond.code yX2_cell cX2_cell 4 (some .int), Cond.methodLink RL 84 yX3_cell, Cond.instanceMethod yX3_cell, Cond.selects RX3 yX3_cell yX3_cell, Cond.code yX3_cell cX3_cell 3 (some .int)]
def wsL_law : List Cond := (wsL_law_r1 ++ (wsL_law_r2 ++ (wsL_law_r3 ++ (wsL_law_r4 ++ (wsL_law_r5 ++ (wsL_law_r6 ++ (wsL_law_r7 ++ (wsL_law_r8 ++ (wsL_law_r9 ++ (wsL_law_r10 ++ (wsL_law_r11 ++ (wsL_law_r12 ++ (wsL_law_r13 ++ wsL_law_r14))))))))))))) ++ wsX20 ++ wsX30 ++ wsX10 ++ wsX00 ++ ([] : List Cond)
set_option maxRecDepth 20000 in
theorem wsL_law_in : ∀ w ∈ wsL_law, w ∈ lw_tbl := fun w h => (goodIn_p wsL_law [33, 36, 44, 62, 307, 135, 139, 144, 370, 375, 148, 151, 155, 379, 159, 162, 383, 166, 170, 387, 176, 391, 394, 180, 183, 187, 191, 195, 199, 203, 207, 211, 214, 217, 221, 226, 230, 234, 237, 241, 244, 247, 250, 257, 254, 398, 402, 405, 409, 413, 417, 421, 425, 262, 429, 266, 433, 270, 437, 274, 441, 278, 445, 282, 449, 286, 453, 290, 457, 294, 461, 298, 465, 302, 469] (by decide +kernel) (by decide +kernel) w h).1
theorem inlX0 : ∀ w ∈ wsX00, w ∈ wsL_law := fun _ h => List.mem_append_left _ (List.mem_append_right _ h)
theorem inX0 : ∀ w ∈ wsX00, w ∈ lw_tbl := fun w h => wsL_law_in w (inlX0 w h)
theorem inlX1 : ∀ w ∈ wsX10, w ∈ wsL_law := fun _ h => List.mem_append_left _ (List.mem_append_left _ (List.mem_append_right _ h))
theorem inX1 : ∀ w ∈ wsX10, w ∈ lw_tbl := fun w h => wsL_law_in w (inlX1 w h)
theorem inlX2 : ∀ w ∈ wsX20, w ∈ wsL_law := fun _ h => List.mem_append_left _ (List.mem_append_left _ (List.mem_append_left _ (List.mem_append_left _ (List.mem_append_right _ h))))
theorem inX2 : ∀ w ∈ wsX20, w ∈ lw_tbl := fun w h => wsL_law_in w (inlX2 w h)
theorem inlX3 : ∀ w ∈ wsX30, w ∈ wsL_law := fun _ h => List.mem_append_left _ (List.mem_append_left _ (List.mem_append_left _ (List.mem_append_right _ h)))
theorem inX3 : ∀ w ∈ wsX30, w ∈ lw_tbl := fun w h => wsL_law_in w (inlX3 w h)
theorem inJ9 : ∀ w ∈ wsJ90, w ∈ lw_tbl := by decide +kernel
theorem dX0_init_0 : decode cX0_init 0 = .ok (.aload_n 0, 1) := by decide +kernel
theorem dX0_init_1 : decode cX0_init 1 = .ok (.invokespecial 3, 3) := by decide +kernel
theorem dX0_init_4 : decode cX0_init 4 = .ok (.aload_n 0, 1) := by decide +kernel
theorem dX0_init_5 : decode cX0_init 5 = .ok (.iconst 0, 1) := by decide +kernel
theorem dX0_init_6 : decode cX0_init 6 = .ok (.putfield 9, 3) := by decide +kernel
theorem dX0_init_9 : decode cX0_init 9 = .ok (.aload_n 0, 1) := by decide +kernel
theorem dX0_init_10 : decode cX0_init 10 = .ok (.bipush 63, 2) := by decide +kernel
theorem dX0_init_12 : decode cX0_init 12 = .ok (.putfield 15, 3) := by decide +kernel
theorem dX0_init_15 : decode cX0_init 15 = .ok (.aload_n 0, 1) := by decide +kernel
theorem dX0_init_16 : decode cX0_init 16 = .ok (.iconst 0, 1) := by decide +kernel
theorem dX0_init_17 : decode cX0_init 17 = .ok (.putfield 18, 3) := by decide +kernel
theorem dX0_init_20 : decode cX0_init 20 = .ok (.aload_n 0, 1) := by decide +kernel
theorem dX0_init_21 : decode cX0_init 21 = .ok (.iconst 0, 1) := by decide +kernel
theorem dX0_init_22 : decode cX0_init 22 = .ok (.putfield 21, 3) := by decide +kernel
theorem dX0_init_25 : decode cX0_init 25 = .ok (.aload_n 0, 1) := by decide +kernel
theorem dX0_init_26 : decode cX0_init 26 = .ok (.iconst 0, 1) := by decide +kernel
theorem dX0_init_27 : decode cX0_init 27 = .ok (.putfield 24, 3) := by decide +kernel
theorem dX0_init_30 : decode cX0_init 30 = .ok (.aload_n 0, 1) := by decide +kernel
theorem dX0_init_31 : decode cX0_init 31 = .ok (.iconst 0, 1) := by decide +kernel
theorem dX0_init_32 : decode cX0_init 32 = .ok (.putfield 27, 3) := by decide +kernel
theorem dX0_init_35 : decode cX0_init 35 = .ok (.aload_n 0, 1) := by decide +kernel
theorem dX0_init_36 : decode cX0_init 36 = .ok (.iconst 0, 1) := by decide +kernel
theorem dX0_init_37 : decode cX0_init 37 = .ok (.putfield 30, 3) := by decide +kernel
theorem dX0_init_40 : decode cX0_init 40 = .ok (.aload_n 0, 1) := by decide +kernel
theorem dX0_init_41 : decode cX0_init 41 = .ok (.bipush (-2), 2) := by decide +kernel
theorem dX0_init_43 : decode cX0_init 43 = .ok (.putfield 33, 3) := by decide +kernel
theorem dX0_init_46 : decode cX0_init 46 = .ok (.aload_n 0, 1) := by decide +kernel
theorem dX0_init_47 : decode cX0_init 47 = .ok (.iconst 0, 1) := by decide +kernel
theorem dX0_init_48 : decode cX0_init 48 = .ok (.putfield 36, 3) := by decide +kernel
theorem dX0_init_51 : decode cX0_init 51 = .ok (.aload_n 0, 1) := by decide +kernel
theorem dX0_init_52 : decode cX0_init 52 = .ok (.iconst 0, 1) := by decide +kernel
theorem dX0_init_53 : decode cX0_init 53 = .ok (.putfield 39, 3) := by decide +kernel
theorem dX0_init_56 : decode cX0_init 56 = .ok (.aload_n 0, 1) := by decide +kernel
theorem dX0_init_57 : decode cX0_init 57 = .ok (.iconst 0, 1) := by decide +kernel
theorem dX0_init_58 : decode cX0_init 58 = .ok (.putfield 42, 3) := by decide +kernel
theorem dX0_init_61 : decode cX0_init 61 = .ok (.aload_n 0, 1) := by decide +kernel
theorem dX0_init_62 : decode cX0_init 62 = .ok (.iconst 0, 1) := by decide +kernel
theorem dX0_init_63 : decode cX0_init 63 = .ok (.putfield 45, 3) := by decide +kernel
theorem dX0_init_66 : decode cX0_init 66 = .ok (.return_, 1) := by decide +kernel
theorem dX0_begin_0 : decode cX0_begin 0 = .ok (.aload_n 0, 1) := by decide +kernel
theorem dX0_begin_1 : decode cX0_begin 1 = .ok (.iload_n 1, 1) := by decide +kernel
theorem dX0_begin_2 : decode cX0_begin 2 = .ok (.putfield 18, 3) := by decide +kernel
theorem dX0_begin_5 : decode cX0_begin 5 = .ok (.aload_n 0, 1) := by decide +kernel
theorem dX0_begin_6 : decode cX0_begin 6 = .ok (.iload_n 2, 1) := by decide +kernel
theorem dX0_begin_7 : decode cX0_begin 7 = .ok (.putfield 27, 3) := by decide +kernel
theorem dX0_begin_10 : decode cX0_begin 10 = .ok (.aload_n 0, 1) := by decide +kernel
theorem dX0_begin_11 : decode cX0_begin 11 = .ok (.iconst 0, 1) := by decide +kernel
theorem dX0_begin_12 : decode cX0_begin 12 = .ok (.putfield 21, 3) := by decide +kernel
theorem dX0_begin_15 : decode cX0_begin 15 = .ok (.aload_n 0, 1) := by decide +kernel
theorem dX0_begin_16 : decode cX0_begin 16 = .ok (.iconst 0, 1) := by decide +kernel
theorem dX0_begin_17 : decode cX0_begin 17 = .ok (.putfield 24, 3) := by decide +kernel
theorem dX0_begin_20 : decode cX0_begin 20 = .ok (.iconst 0, 1) := by decide +kernel
theorem dX0_begin_21 : decode cX0_begin 21 = .ok (.ireturn, 1) := by decide +kernel
theorem dX0_end_0 : decode cX0_end 0 = .ok (.aload_n 0, 1) := by decide +kernel
theorem dX0_end_1 : decode cX0_end 1 = .ok (.iconst 0, 1) := by decide +kernel
theorem dX0_end_2 : decode cX0_end 2 = .ok (.putfield 18, 3) := by decide +kernel
theorem dX0_end_5 : decode cX0_end 5 = .ok (.aload_n 0, 1) := by decide +kernel
theorem dX0_end_6 : decode cX0_end 6 = .ok (.iload_n 1, 1) := by decide +kernel
theorem dX0_end_7 : decode cX0_end 7 = .ok (.putfield 21, 3) := by decide +kernel
theorem dX0_end_10 : decode cX0_end 10 = .ok (.aload_n 0, 1) := by decide +kernel
theorem dX0_end_11 : decode cX0_end 11 = .ok (.iload_n 2, 1) := by decide +kernel
theorem dX0_end_12 : decode cX0_end 12 = .ok (.putfield 24, 3) := by decide +kernel
theorem dX0_end_15 : decode cX0_end 15 = .ok (.iconst 1, 1) := by decide +kernel
theorem dX0_end_16 : decode cX0_end 16 = .ok (.ireturn, 1) := by decide +kernel
theorem dX0_chainOf_0 : decode cX0_chainOf 0 = .ok (.aload_n 0, 1) := by decide +kernel
theorem dX0_chainOf_1 : decode cX0_chainOf 1 = .ok (.getfield 15, 3) := by decide +kernel
theorem dX0_chainOf_4 : decode cX0_chainOf 4 = .ok (.iload_n 1, 1) := by decide +kernel
theorem dX0_chainOf_5 : decode cX0_chainOf 5 = .ok (.iconst 2, 1) := by decide +kernel
theorem dX0_chainOf_6 : decode cX0_chainOf 6 = .ok (.irem, 1) := by decide +kernel
theorem dX0_chainOf_7 : decode cX0_chainOf 7 = .ok (.ifCond .ne 8, 3) := by decide +kernel
theorem dX0_chainOf_10 : decode cX0_chainOf 10 = .ok (.bipush 21, 2) := by decide +kernel
theorem dX0_chainOf_12 : decode cX0_chainOf 12 = .ok (.goto 5, 3) := by decide +kernel
theorem dX0_chainOf_15 : decode cX0_chainOf 15 = .ok (.bipush 42, 2) := by decide +kernel
theorem dX0_chainOf_17 : decode cX0_chainOf 17 = .ok (.iand, 1) := by decide +kernel
theorem dX0_chainOf_18 : decode cX0_chainOf 18 = .ok (.ireturn, 1) := by decide +kernel
set_option maxRecDepth 20000 in
theorem ggX0_isAtHead_X0_chainOf : GoodIn wsX0_isAtHead wsX0_chainOf := goodIn_r _ [7, 8, 9, 10, 11, 12, 13, 14, 15, 16, 17, 18, 19, 20] (by decide +kernel) (by decide +kernel)
set_option maxRecDepth 20000 in
theorem gX0_isAtHead_X0_chainOf : GoodIn wsX0_isAtHead (wsV RX0 48 RX0 yX0_chainOf wsX0_chainOf) := goodIn_app (goodIn_of _ (by decide +kernel)) ggX0_isAtHead_X0_chainOf
theorem dX0_isAtHead_0 : decode cX0_isAtHead 0 = .ok (.aload_n 0, 1) := by decide +kernel
theorem dX0_isAtHead_1 : decode cX0_isAtHead 1 = .ok (.getfield 27, 3) := by decide +kernel
theorem dX0_isAtHead_4 : decode cX0_isAtHead 4 = .ok (.aload_n 0, 1) := by decide +kernel
theorem dX0_isAtHead_5 : decode cX0_isAtHead 5 = .ok (.aload_n 0, 1) := by decide +kernel
theorem dX0_isAtHead_6 : decode cX0_isAtHead 6 = .ok (.getfield 30, 3) := by decide +kernel
theorem dX0_isAtHead_9 : decode cX0_isAtHead 9 = .ok (.invokevirtual 48, 3) := by decide +kernel
theorem dX0_isAtHead_12 : decode cX0_isAtHead 12 = .ok (.if_icmp .ne 7, 3) := by decide +kernel
theorem dX0_isAtHead_15 : decode cX0_isAtHead 15 = .ok (.iconst 1, 1) := by decide +kernel
theorem dX0_isAtHead_16 : decode cX0_isAtHead 16 = .ok (.goto 4, 3) := by decide +kernel
theorem dX0_isAtHead_19 : decode cX0_isAtHead 19 = .ok (.iconst 0, 1) := by decide +kernel
theorem dX0_isAtHead_20 : decode cX0_isAtHead 20 = .ok (.ireturn, 1) := by decide +kernel
set_option maxRecDepth 20000 in
theorem ggX0_replayRoute_X0_chainOf : GoodIn wsX0_replayRoute wsX0_chainOf := goodIn_r _ [7, 8, 12, 13, 14, 15, 16, 17, 18, 19, 20, 21, 22, 23] (by decide +kernel) (by decide +kernel)
set_option maxRecDepth 20000 in
theorem gX0_replayRoute_X0_chainOf : GoodIn wsX0_replayRoute (wsV RX0 48 RX0 yX0_chainOf wsX0_chainOf) := goodIn_app (goodIn_of _ (by decide +kernel)) ggX0_replayRoute_X0_chainOf
set_option maxRecDepth 20000 in
theorem ggX0_replayRoute_X2_highestOf : GoodIn wsX0_replayRoute wsX2_highestOf := goodIn_r _ [11] (by decide +kernel) (by decide +kernel)
set_option maxRecDepth 20000 in
theorem gX0_replayRoute_X2_highestOf_n52 : GoodIn wsX0_replayRoute (wsX2_highestOf) := ggX0_replayRoute_X2_highestOf
theorem dX0_replayRoute_0 : decode cX0_replayRoute 0 = .ok (.aload_n 0, 1) := by decide +kernel
theorem dX0_replayRoute_1 : decode cX0_replayRoute 1 = .ok (.getfield 30, 3) := by decide +kernel
theorem dX0_replayRoute_4 : decode cX0_replayRoute 4 = .ok (.aload_n 0, 1) := by decide +kernel
theorem dX0_replayRoute_5 : decode cX0_replayRoute 5 = .ok (.getfield 36, 3) := by decide +kernel
theorem dX0_replayRoute_8 : decode cX0_replayRoute 8 = .ok (.if_icmp .ne 7, 3) := by decide +kernel
theorem dX0_replayRoute_11 : decode cX0_replayRoute 11 = .ok (.iconst 0, 1) := by decide +kernel
theorem dX0_replayRoute_12 : decode cX0_replayRoute 12 = .ok (.goto 14, 3) := by decide +kernel
theorem dX0_replayRoute_15 : decode cX0_replayRoute 15 = .ok (.aload_n 0, 1) := by decide +kernel
theorem dX0_replayRoute_16 : decode cX0_replayRoute 16 = .ok (.aload_n 0, 1) := by decide +kernel
theorem dX0_replayRoute_17 : decode cX0_replayRoute 17 = .ok (.getfield 30, 3) := by decide +kernel
theorem dX0_replayRoute_20 : decode cX0_replayRoute 20 = .ok (.invokevirtual 48, 3) := by decide +kernel
theorem dX0_replayRoute_23 : decode cX0_replayRoute 23 = .ok (.invokestatic 52, 3) := by decide +kernel
theorem dX0_replayRoute_26 : decode cX0_replayRoute 26 = .ok (.ireturn, 1) := by decide +kernel
theorem dX0_newestEpochItBears_0 : decode cX0_newestEpochItBears 0 = .ok (.aload_n 0, 1) := by decide +kernel
theorem dX0_newestEpochItBears_1 : decode cX0_newestEpochItBears 1 = .ok (.getfield 18, 3) := by decide +kernel
theorem dX0_newestEpochItBears_4 : decode cX0_newestEpochItBears 4 = .ok (.iconst 5, 1) := by decide +kernel
theorem dX0_newestEpochItBears_5 : decode cX0_newestEpochItBears 5 = .ok (.if_icmp .ne 12, 3) := by decide +kernel
theorem dX0_newestEpochItBears_8 : decode cX0_newestEpochItBears 8 = .ok (.aload_n 0, 1) := by decide +kernel
theorem dX0_newestEpochItBears_9 : decode cX0_newestEpochItBears 9 = .ok (.getfield 9, 3) := by decide +kernel
theorem dX0_newestEpochItBears_12 : decode cX0_newestEpochItBears 12 = .ok (.iconst 1, 1) := by decide +kernel
theorem dX0_newestEpochItBears_13 : decode cX0_newestEpochItBears 13 = .ok (.iadd, 1) := by decide +kernel
theorem dX0_newestEpochItBears_14 : decode cX0_newestEpochItBears 14 = .ok (.goto 7, 3) := by decide +kernel
theorem dX0_newestEpochItBears_17 : decode cX0_newestEpochItBears 17 = .ok (.aload_n 0, 1) := by decide +kernel
theorem dX0_newestEpochItBears_18 : decode cX0_newestEpochItBears 18 = .ok (.getfield 9, 3) := by decide +kernel
theorem dX0_newestEpochItBears_21 : decode cX0_newestEpochItBears 21 = .ok (.ireturn, 1) := by decide +kernel
set_option maxRecDepth 20000 in
theorem ggX0_goAlongChain_X2_withoutLowest : GoodIn wsX0_goAlongChain wsX2_withoutLowest := goodIn_r _ [4] (by decide +kernel) (by decide +kernel)
set_option maxRecDepth 20000 in
theorem gX0_goAlongChain_X2_withoutLowest_n55 : GoodIn wsX0_goAlongChain (wsX2_withoutLowest) := ggX0_goAlongChain_X2_withoutLowest
set_option maxRecDepth 20000 in
theorem ggX0_goAlongChain_X0_end : GoodIn wsX0_goAlongChain wsX0_end := goodIn_r _ [9, 10, 11, 12, 13, 14, 15, 16, 17, 18, 19, 20, 21, 22, 23, 24] (by decide +kernel) (by decide +kernel)
set_option maxRecDepth 20000 in
theorem gX0_goAlongChain_X0_end : GoodIn wsX0_goAlongChain (wsV RX0 58 RX0 yX0_end wsX0_end) := goodIn_app (goodIn_of _ (by decide +kernel)) ggX0_goAlongChain_X0_end
theorem dX0_goAlongChain_0 : decode cX0_goAlongChain 0 = .ok (.aload_n 0, 1) := by decide +kernel
theorem dX0_goAlongChain_1 : decode cX0_goAlongChain 1 = .ok (.aload_n 0, 1) := by decide +kernel
theorem dX0_goAlongChain_2 : decode cX0_goAlongChain 2 = .ok (.getfield 27, 3) := by decide +kernel
theorem dX0_goAlongChain_5 : decode cX0_goAlongChain 5 = .ok (.invokestatic 55, 3) := by decide +kernel
theorem dX0_goAlongChain_8 : decode cX0_goAlongChain 8 = .ok (.putfield 27, 3) := by decide +kernel
theorem dX0_goAlongChain_11 : decode cX0_goAlongChain 11 = .ok (.aload_n 0, 1) := by decide +kernel
theorem dX0_goAlongChain_12 : decode cX0_goAlongChain 12 = .ok (.getfield 27, 3) := by decide +kernel
theorem dX0_goAlongChain_15 : decode cX0_goAlongChain 15 = .ok (.ifCond .ne 12, 3) := by decide +kernel
theorem dX0_goAlongChain_18 : decode cX0_goAlongChain 18 = .ok (.aload_n 0, 1) := by decide +kernel
theorem dX0_goAlongChain_19 : decode cX0_goAlongChain 19 = .ok (.iconst 1, 1) := by decide +kernel
theorem dX0_goAlongChain_20 : decode cX0_goAlongChain 20 = .ok (.iload_n 1, 1) := by decide +kernel
theorem dX0_goAlongChain_21 : decode cX0_goAlongChain 21 = .ok (.invokevirtual 58, 3) := by decide +kernel
theorem dX0_goAlongChain_24 : decode cX0_goAlongChain 24 = .ok (.goto 4, 3) := by decide +kernel
theorem dX0_goAlongChain_27 : decode cX0_goAlongChain 27 = .ok (.iconst 0, 1) := by decide +kernel
theorem dX0_goAlongChain_28 : decode cX0_goAlongChain 28 = .ok (.ireturn, 1) := by decide +kernel
theorem dX1_init_0 : decode cX1_init 0 = .ok (.aload_n 0, 1) := by decide +kernel
theorem dX1_init_1 : decode cX1_init 1 = .ok (.invokespecial 3, 3) := by decide +kernel
theorem dX1_init_4 : decode cX1_init 4 = .ok (.aload_n 0, 1) := by decide +kernel
theorem dX1_init_5 : decode cX1_init 5 = .ok (.iconst 0, 1) := by decide +kernel
theorem dX1_init_6 : decode cX1_init 6 = .ok (.putfield 9, 3) := by decide +kernel
theorem dX1_init_9 : decode cX1_init 9 = .ok (.aload_n 0, 1) := by decide +kernel
theorem dX1_init_10 : decode cX1_init 10 = .ok (.iconst 1, 1) := by decide +kernel
theorem dX1_init_11 : decode cX1_init 11 = .ok (.putfield 15, 3) := by decide +kernel
theorem dX1_init_14 : decode cX1_init 14 = .ok (.aload_n 0, 1) := by decide +kernel
theorem dX1_init_15 : decode cX1_init 15 = .ok (.bipush 32, 2) := by decide +kernel
theorem dX1_init_17 : decode cX1_init 17 = .ok (.newarray .int, 2) := by decide +kernel
theorem dX1_init_19 : decode cX1_init 19 = .ok (.putfield 19, 3) := by decide +kernel
theorem dX1_init_22 : decode cX1_init 22 = .ok (.iconst 0, 1) := by decide +kernel
theorem dX1_init_23 : decode cX1_init 23 = .ok (.istore_n 1, 1) := by decide +kernel
theorem dX1_init_24 : decode cX1_init 24 = .ok (.iload_n 1, 1) := by decide +kernel
theorem dX1_init_25 : decode cX1_init 25 = .ok (.bipush 32, 2) := by decide +kernel
theorem dX1_init_27 : decode cX1_init 27 = .ok (.if_icmp .ge 17, 3) := by decide +kernel
theorem dX1_init_30 : decode cX1_init 30 = .ok (.aload_n 0, 1) := by decide +kernel
theorem dX1_init_31 : decode cX1_init 31 = .ok (.getfield 19, 3) := by decide +kernel
theorem dX1_init_34 : decode cX1_init 34 = .ok (.iload_n 1, 1) := by decide +kernel
theorem dX1_init_35 : decode cX1_init 35 = .ok (.bipush (-2), 2) := by decide +kernel
theorem dX1_init_37 : decode cX1_init 37 = .ok (.iastore, 1) := by decide +kernel
theorem dX1_init_38 : decode cX1_init 38 = .ok (.iinc 1 1, 3) := by decide +kernel
theorem dX1_init_41 : decode cX1_init 41 = .ok (.goto (-17), 3) := by decide +kernel
theorem dX1_init_44 : decode cX1_init 44 = .ok (.return_, 1) := by decide +kernel
set_option maxRecDepth 20000 in
theorem ggX1_contentAt_X2_isPosition : GoodIn wsX1_contentAt wsX2_isPosition := goodIn_r _ [4] (by decide +kernel) (by decide +kernel)
set_option maxRecDepth 20000 in
theorem gX1_contentAt_X2_isPosition_n23 : GoodIn wsX1_contentAt (wsX2_isPosition) := ggX1_contentAt_X2_isPosition
theorem dX1_contentAt_0 : decode cX1_contentAt 0 = .ok (.iload_n 1, 1) := by decide +kernel
theorem dX1_contentAt_1 : decode cX1_contentAt 1 = .ok (.invokestatic 23, 3) := by decide +kernel
theorem dX1_contentAt_4 : decode cX1_contentAt 4 = .ok (.ifCond .eq 12, 3) := by decide +kernel
theorem dX1_contentAt_7 : decode cX1_contentAt 7 = .ok (.aload_n 0, 1) := by decide +kernel
theorem dX1_contentAt_8 : decode cX1_contentAt 8 = .ok (.getfield 19, 3) := by decide +kernel
theorem dX1_contentAt_11 : decode cX1_contentAt 11 = .ok (.iload_n 1, 1) := by decide +kernel
theorem dX1_contentAt_12 : decode cX1_contentAt 12 = .ok (.iaload, 1) := by decide +kernel
theorem dX1_contentAt_13 : decode cX1_contentAt 13 = .ok (.goto 5, 3) := by decide +kernel
theorem dX1_contentAt_16 : decode cX1_contentAt 16 = .ok (.bipush (-9), 2) := by decide +kernel
theorem dX1_contentAt_18 : decode cX1_contentAt 18 = .ok (.ireturn, 1) := by decide +kernel
set_option maxRecDepth 20000 in
theorem ggX1_writeOnce_X2_isPosition : GoodIn wsX1_writeOnce wsX2_isPosition := goodIn_r _ [4] (by decide +kernel) (by decide +kernel)
set_option maxRecDepth 20000 in
theorem gX1_writeOnce_X2_isPosition_n23 : GoodIn wsX1_writeOnce (wsX2_isPosition) := ggX1_writeOnce_X2_isPosition
theorem dX1_writeOnce_0 : decode cX1_writeOnce 0 = .ok (.iload_n 1, 1) := by decide +kernel
theorem dX1_writeOnce_1 : decode cX1_writeOnce 1 = .ok (.invokestatic 23, 3) := by decide +kernel
theorem dX1_writeOnce_4 : decode cX1_writeOnce 4 = .ok (.ifCond .eq 21, 3) := by decide +kernel
theorem dX1_writeOnce_7 : decode cX1_writeOnce 7 = .ok (.aload_n 0, 1) := by decide +kernel
theorem dX1_writeOnce_8 : decode cX1_writeOnce 8 = .ok (.getfield 19, 3) := by decide +kernel
theorem dX1_writeOnce_11 : decode cX1_writeOnce 11 = .ok (.iload_n 1, 1) := by decide +kernel
theorem dX1_writeOnce_12 : decode cX1_writeOnce 12 = .ok (.iaload, 1) := by decide +kernel
theorem dX1_writeOnce_13 : decode cX1_writeOnce 13 = .ok (.bipush (-2), 2) := by decide +kernel
theorem dX1_writeOnce_15 : decode cX1_writeOnce 15 = .ok (.if_icmp .ne 10, 3) := by decide +kernel
theorem dX1_writeOnce_18 : decode cX1_writeOnce 18 = .ok (.aload_n 0, 1) := by decide +kernel
theorem dX1_writeOnce_19 : decode cX1_writeOnce 19 = .ok (.getfield 19, 3) := by decide +kernel
theorem dX1_writeOnce_22 : decode cX1_writeOnce 22 = .ok (.iload_n 1, 1) := by decide +kernel
theorem dX1_writeOnce_23 : decode cX1_writeOnce 23 = .ok (.iload_n 2, 1) := by decide +kernel
theorem dX1_writeOnce_24 : decode cX1_writeOnce 24 = .ok (.iastore, 1) := by decide +kernel
theorem dX1_writeOnce_25 : decode cX1_writeOnce 25 = .ok (.return_, 1) := by decide +kernel
theorem dX1_endOfWritten_0 : decode cX1_endOfWritten 0 = .ok (.bipush 31, 2) := by decide +kernel
theorem dX1_endOfWritten_2 : decode cX1_endOfWritten 2 = .ok (.istore_n 1, 1) := by decide +kernel
theorem dX1_endOfWritten_3 : decode cX1_endOfWritten 3 = .ok (.iload_n 1, 1) := by decide +kernel
theorem dX1_endOfWritten_4 : decode cX1_endOfWritten 4 = .ok (.ifCond .lt 24, 3) := by decide +kernel
theorem dX1_endOfWritten_7 : decode cX1_endOfWritten 7 = .ok (.aload_n 0, 1) := by decide +kernel
theorem dX1_endOfWritten_8 : decode cX1_endOfWritten 8 = .ok (.getfield 19, 3) := by decide +kernel
theorem dX1_endOfWritten_11 : decode cX1_endOfWritten 11 = .ok (.iload_n 1, 1) := by decide +kernel
theorem dX1_endOfWritten_12 : decode cX1_endOfWritten 12 = .ok (.iaload, 1) := by decide +kernel
theorem dX1_endOfWritten_13 : decode cX1_endOfWritten 13 = .ok (.bipush (-2), 2) := by decide +kernel
theorem dX1_endOfWritten_15 : decode cX1_endOfWritten 15 = .ok (.if_icmp .eq 7, 3) := by decide +kernel
theorem dX1_endOfWritten_18 : decode cX1_endOfWritten 18 = .ok (.iload_n 1, 1) := by decide +kernel
theorem dX1_endOfWritten_19 : decode cX1_endOfWritten 19 = .ok (.iconst 1, 1) := by decide +kernel
theorem dX1_endOfWritten_20 : decode cX1_endOfWritten 20 = .ok (.iadd, 1) := by decide +kernel
theorem dX1_endOfWritten_21 : decode cX1_endOfWritten 21 = .ok (.ireturn, 1) := by decide +kernel
theorem dX1_endOfWritten_22 : decode cX1_endOfWritten 22 = .ok (.iinc 1 (-1), 3) := by decide +kernel
theorem dX1_endOfWritten_25 : decode cX1_endOfWritten 25 = .ok (.goto (-22), 3) := by decide +kernel
theorem dX1_endOfWritten_28 : decode cX1_endOfWritten 28 = .ok (.iconst 0, 1) := by decide +kernel
theorem dX1_endOfWritten_29 : decode cX1_endOfWritten 29 = .ok (.ireturn, 1) := by decide +kernel
set_option maxRecDepth 20000 in
theorem ggX2_init_X1_init : GoodIn wsX2_init wsX1_init := goodIn_r _ [17, 18, 2, 3, 19, 20, 21, 22, 44, 45, 46] (by decide +kernel) (by decide +kernel)
set_option maxRecDepth 20000 in
theorem gX2_init_X1_init_n34 : GoodIn wsX2_init (wsX1_init) := ggX2_init_X1_init
set_option maxRecDepth 20000 in
theorem ggX2_init_X0_init : GoodIn wsX2_init wsX0_init := goodIn_r _ [24, 25, 2, 3, 26, 27, 28, 29, 30, 31, 32, 33, 34, 35, 36, 37, 47, 48, 49, 50, 51, 52, 53, 54, 55, 56, 57, 58] (by decide +kernel) (by decide +kernel)
set_option maxRecDepth 20000 in
theorem gX2_init_X0_init_n35 : GoodIn wsX2_init (wsX0_init) := ggX2_init_X0_init
theorem dX2_init_0 : decode cX2_init 0 = .ok (.aload_n 0, 1) := by decide +kernel
theorem dX2_init_1 : decode cX2_init 1 = .ok (.invokespecial 1, 3) := by decide +kernel
theorem dX2_init_4 : decode cX2_init 4 = .ok (.aload_n 0, 1) := by decide +kernel
theorem dX2_init_5 : decode cX2_init 5 = .ok (.bipush 6, 2) := by decide +kernel
theorem dX2_init_7 : decode cX2_init 7 = .ok (.anewarray 9, 3) := by decide +kernel
theorem dX2_init_10 : decode cX2_init 10 = .ok (.putfield 11, 3) := by decide +kernel
theorem dX2_init_13 : decode cX2_init 13 = .ok (.aload_n 0, 1) := by decide +kernel
theorem dX2_init_14 : decode cX2_init 14 = .ok (.iconst 3, 1) := by decide +kernel
theorem dX2_init_15 : decode cX2_init 15 = .ok (.anewarray 15, 3) := by decide +kernel
theorem dX2_init_18 : decode cX2_init 18 = .ok (.putfield 17, 3) := by decide +kernel
theorem dX2_init_21 : decode cX2_init 21 = .ok (.aload_n 0, 1) := by decide +kernel
theorem dX2_init_22 : decode cX2_init 22 = .ok (.iconst 0, 1) := by decide +kernel
theorem dX2_init_23 : decode cX2_init 23 = .ok (.putfield 21, 3) := by decide +kernel
theorem dX2_init_26 : decode cX2_init 26 = .ok (.aload_n 0, 1) := by decide +kernel
theorem dX2_init_27 : decode cX2_init 27 = .ok (.bipush 63, 2) := by decide +kernel
theorem dX2_init_29 : decode cX2_init 29 = .ok (.putfield 25, 3) := by decide +kernel
theorem dX2_init_32 : decode cX2_init 32 = .ok (.aload_n 0, 1) := by decide +kernel
theorem dX2_init_33 : decode cX2_init 33 = .ok (.iconst 0, 1) := by decide +kernel
theorem dX2_init_34 : decode cX2_init 34 = .ok (.putfield 28, 3) := by decide +kernel
theorem dX2_init_37 : decode cX2_init 37 = .ok (.aload_n 0, 1) := by decide +kernel
theorem dX2_init_38 : decode cX2_init 38 = .ok (.iconst 0, 1) := by decide +kernel
theorem dX2_init_39 : decode cX2_init 39 = .ok (.putfield 31, 3) := by decide +kernel
theorem dX2_init_42 : decode cX2_init 42 = .ok (.iconst 0, 1) := by decide +kernel
theorem dX2_init_43 : decode cX2_init 43 = .ok (.istore_n 1, 1) := by decide +kernel
theorem dX2_init_44 : decode cX2_init 44 = .ok (.iload_n 1, 1) := by decide +kernel
theorem dX2_init_45 : decode cX2_init 45 = .ok (.bipush 6, 2) := by decide +kernel
theorem dX2_init_47 : decode cX2_init 47 = .ok (.if_icmp .ge 22, 3) := by decide +kernel
theorem dX2_init_50 : decode cX2_init 50 = .ok (.aload_n 0, 1) := by decide +kernel
theorem dX2_init_51 : decode cX2_init 51 = .ok (.getfield 11, 3) := by decide +kernel
theorem dX2_init_54 : decode cX2_init 54 = .ok (.iload_n 1, 1) := by decide +kernel
theorem dX2_init_55 : decode cX2_init 55 = .ok (.new 9, 3) := by decide +kernel
theorem dX2_init_58 : decode cX2_init 58 = .ok (.dup, 1) := by decide +kernel
theorem dX2_init_59 : decode cX2_init 59 = .ok (.invokespecial 34, 3) := by decide +kernel
theorem dX2_init_62 : decode cX2_init 62 = .ok (.aastore, 1) := by decide +kernel
theorem dX2_init_63 : decode cX2_init 63 = .ok (.iinc 1 1, 3) := by decide +kernel
theorem dX2_init_66 : decode cX2_init 66 = .ok (.goto (-22), 3) := by decide +kernel
theorem dX2_init_69 : decode cX2_init 69 = .ok (.iconst 0, 1) := by decide +kernel
theorem dX2_init_70 : decode cX2_init 70 = .ok (.istore_n 1, 1) := by decide +kernel
theorem dX2_init_71 : decode cX2_init 71 = .ok (.iload_n 1, 1) := by decide +kernel
theorem dX2_init_72 : decode cX2_init 72 = .ok (.iconst 3, 1) := by decide +kernel
theorem dX2_init_73 : decode cX2_init 73 = .ok (.if_icmp .ge 22, 3) := by decide +kernel
theorem dX2_init_76 : decode cX2_init 76 = .ok (.aload_n 0, 1) := by decide +kernel
theorem dX2_init_77 : decode cX2_init 77 = .ok (.getfield 17, 3) := by decide +kernel
theorem dX2_init_80 : decode cX2_init 80 = .ok (.iload_n 1, 1) := by decide +kernel
theorem dX2_init_81 : decode cX2_init 81 = .ok (.new 15, 3) := by decide +kernel
theorem dX2_init_84 : decode cX2_init 84 = .ok (.dup, 1) := by decide +kernel
theorem dX2_init_85 : decode cX2_init 85 = .ok (.invokespecial 35, 3) := by decide +kernel
theorem dX2_init_88 : decode cX2_init 88 = .ok (.aastore, 1) := by decide +kernel
theorem dX2_init_89 : decode cX2_init 89 = .ok (.iinc 1 1, 3) := by decide +kernel
theorem dX2_init_92 : decode cX2_init 92 = .ok (.goto (-21), 3) := by decide +kernel
theorem dX2_init_95 : decode cX2_init 95 = .ok (.return_, 1) := by decide +kernel
set_option maxRecDepth 20000 in
theorem ggX2_append_X2_clientAt : GoodIn wsX2_append wsX2_clientAt := goodIn_r _ [6, 7, 28, 29, 30, 31, 32, 33] (by decide +kernel) (by decide +kernel)
set_option maxRecDepth 20000 in
theorem gX2_append_X2_clientAt : GoodIn wsX2_append (wsV RX2 36 RX2 yX2_clientAt wsX2_clientAt) := goodIn_app (goodIn_of _ (by decide +kernel)) ggX2_append_X2_clientAt
set_option maxRecDepth 20000 in
theorem ggX2_append_X0_begin : GoodIn wsX2_append wsX0_begin := goodIn_r _ [11, 12, 13, 14, 15, 16, 17, 18, 19, 20, 21, 22, 23, 24, 25, 26, 27] (by decide +kernel) (by decide +kernel)
set_option maxRecDepth 20000 in
theorem gX2_append_X0_begin_n47 : GoodIn wsX2_append (wsX0_begin) := ggX2_append_X0_begin
theorem dX2_append_0 : decode cX2_append 0 = .ok (.aload_n 0, 1) := by decide +kernel
theorem dX2_append_1 : decode cX2_append 1 = .ok (.iload_n 1, 1) := by decide +kernel
theorem dX2_append_2 : decode cX2_append 2 = .ok (.invokevirtual 36, 3) := by decide +kernel
theorem dX2_append_5 : decode cX2_append 5 = .ok (.astore_n 3, 1) := by decide +kernel
theorem dX2_append_6 : decode cX2_append 6 = .ok (.aload_n 3, 1) := by decide +kernel
theorem dX2_append_7 : decode cX2_append 7 = .ok (.ifnonnull 5, 3) := by decide +kernel
theorem dX2_append_10 : decode cX2_append 10 = .ok (.iconst (-1), 1) := by decide +kernel
theorem dX2_append_11 : decode cX2_append 11 = .ok (.ireturn, 1) := by decide +kernel
theorem dX2_append_12 : decode cX2_append 12 = .ok (.aload_n 3, 1) := by decide +kernel
theorem dX2_append_13 : decode cX2_append 13 = .ok (.getfield 40, 3) := by decide +kernel
theorem dX2_append_16 : decode cX2_append 16 = .ok (.ifCond .eq 6, 3) := by decide +kernel
theorem dX2_append_19 : decode cX2_append 19 = .ok (.bipush (-2), 2) := by decide +kernel
theorem dX2_append_21 : decode cX2_append 21 = .ok (.ireturn, 1) := by decide +kernel
theorem dX2_append_22 : decode cX2_append 22 = .ok (.iload_n 2, 1) := by decide +kernel
theorem dX2_append_23 : decode cX2_append 23 = .ok (.ifCond .lt 9, 3) := by decide +kernel
theorem dX2_append_26 : decode cX2_append 26 = .ok (.iload_n 2, 1) := by decide +kernel
theorem dX2_append_27 : decode cX2_append 27 = .ok (.ldc 43, 2) := by decide +kernel
theorem dX2_append_29 : decode cX2_append 29 = .ok (.if_icmp .le 6, 3) := by decide +kernel
theorem dX2_append_32 : decode cX2_append 32 = .ok (.bipush (-3), 2) := by decide +kernel
theorem dX2_append_34 : decode cX2_append 34 = .ok (.ireturn, 1) := by decide +kernel
theorem dX2_append_35 : decode cX2_append 35 = .ok (.aload_n 3, 1) := by decide +kernel
theorem dX2_append_36 : decode cX2_append 36 = .ok (.iload_n 2, 1) := by decide +kernel
theorem dX2_append_37 : decode cX2_append 37 = .ok (.putfield 44, 3) := by decide +kernel
theorem dX2_append_40 : decode cX2_append 40 = .ok (.aload_n 3, 1) := by decide +kernel
theorem dX2_append_41 : decode cX2_append 41 = .ok (.iconst 1, 1) := by decide +kernel
theorem dX2_append_42 : decode cX2_append 42 = .ok (.iconst 0, 1) := by decide +kernel
theorem dX2_append_43 : decode cX2_append 43 = .ok (.invokevirtual 47, 3) := by decide +kernel
theorem dX2_append_46 : decode cX2_append 46 = .ok (.ireturn, 1) := by decide +kernel
set_option maxRecDepth 20000 in
theorem ggX2_fill_X2_clientAt : GoodIn wsX2_fill wsX2_clientAt := goodIn_r _ [5, 6, 34, 35, 36, 37, 38, 39] (by decide +kernel) (by decide +kernel)
set_option maxRecDepth 20000 in
theorem gX2_fill_X2_clientAt : GoodIn wsX2_fill (wsV RX2 36 RX2 yX2_clientAt wsX2_clientAt) := goodIn_app (goodIn_of _ (by decide +kernel)) ggX2_fill_X2_clientAt
set_option maxRecDepth 20000 in
theorem ggX2_fill_X2_isPosition : GoodIn wsX2_fill wsX2_isPosition := goodIn_r _ [9] (by decide +kernel) (by decide +kernel)
set_option maxRecDepth 20000 in
theorem gX2_fill_X2_isPosition : GoodIn wsX2_fill (va_wsS RX2 51 yX2_isPosition wsX2_isPosition) := goodIn_app (goodIn_of _ (by decide +kernel)) ggX2_fill_X2_isPosition
set_option maxRecDepth 20000 in
theorem ggX2_fill_X0_chainOf : GoodIn wsX2_fill wsX0_chainOf := goodIn_r _ [13, 14, 22, 23, 24, 25, 26, 27, 28, 29, 30, 31, 32, 33] (by decide +kernel) (by decide +kernel)
set_option maxRecDepth 20000 in
theorem gX2_fill_X0_chainOf_n58 : GoodIn wsX2_fill (wsX0_chainOf) := ggX2_fill_X0_chainOf
set_option maxRecDepth 20000 in
theorem ggX2_fill_X0_begin : GoodIn wsX2_fill wsX0_begin := goodIn_r _ [17, 18, 19, 20, 21, 22, 23, 24, 25, 26, 27, 28, 29, 30, 31, 32, 33] (by decide +kernel) (by decide +kernel)
set_option maxRecDepth 20000 in
theorem gX2_fill_X0_begin_n47 : GoodIn wsX2_fill (wsX0_begin) := ggX2_fill_X0_begin
theorem dX2_fill_0 : decode cX2_fill 0 = .ok (.aload_n 0, 1) := by decide +kernel
theorem dX2_fill_1 : decode cX2_fill 1 = .ok (.iload_n 1, 1) := by decide +kernel
theorem dX2_fill_2 : decode cX2_fill 2 = .ok (.invokevirtual 36, 3) := by decide +kernel
theorem dX2_fill_5 : decode cX2_fill 5 = .ok (.astore_n 3, 1) := by decide +kernel
theorem dX2_fill_6 : decode cX2_fill 6 = .ok (.aload_n 3, 1) := by decide +kernel
theorem dX2_fill_7 : decode cX2_fill 7 = .ok (.ifnonnull 5, 3) := by decide +kernel
theorem dX2_fill_10 : decode cX2_fill 10 = .ok (.iconst (-1), 1) := by decide +kernel
theorem dX2_fill_11 : decode cX2_fill 11 = .ok (.ireturn, 1) := by decide +kernel
theorem dX2_fill_12 : decode cX2_fill 12 = .ok (.aload_n 3, 1) := by decide +kernel
theorem dX2_fill_13 : decode cX2_fill 13 = .ok (.getfield 40, 3) := by decide +kernel
theorem dX2_fill_16 : decode cX2_fill 16 = .ok (.ifCond .eq 6, 3) := by decide +kernel
theorem dX2_fill_19 : decode cX2_fill 19 = .ok (.bipush (-2), 2) := by decide +kernel
theorem dX2_fill_21 : decode cX2_fill 21 = .ok (.ireturn, 1) := by decide +kernel
theorem dX2_fill_22 : decode cX2_fill 22 = .ok (.iload_n 2, 1) := by decide +kernel
theorem dX2_fill_23 : decode cX2_fill 23 = .ok (.invokestatic 51, 3) := by decide +kernel
theorem dX2_fill_26 : decode cX2_fill 26 = .ok (.ifCond .ne 6, 3) := by decide +kernel
theorem dX2_fill_29 : decode cX2_fill 29 = .ok (.bipush (-3), 2) := by decide +kernel
theorem dX2_fill_31 : decode cX2_fill 31 = .ok (.ireturn, 1) := by decide +kernel
theorem dX2_fill_32 : decode cX2_fill 32 = .ok (.aload_n 3, 1) := by decide +kernel
theorem dX2_fill_33 : decode cX2_fill 33 = .ok (.iload_n 2, 1) := by decide +kernel
theorem dX2_fill_34 : decode cX2_fill 34 = .ok (.putfield 55, 3) := by decide +kernel
theorem dX2_fill_37 : decode cX2_fill 37 = .ok (.aload_n 3, 1) := by decide +kernel
theorem dX2_fill_38 : decode cX2_fill 38 = .ok (.iconst (-1), 1) := by decide +kernel
theorem dX2_fill_39 : decode cX2_fill 39 = .ok (.putfield 44, 3) := by decide +kernel
theorem dX2_fill_42 : decode cX2_fill 42 = .ok (.aload_n 3, 1) := by decide +kernel
theorem dX2_fill_43 : decode cX2_fill 43 = .ok (.iconst 2, 1) := by decide +kernel
theorem dX2_fill_44 : decode cX2_fill 44 = .ok (.aload_n 3, 1) := by decide +kernel
theorem dX2_fill_45 : decode cX2_fill 45 = .ok (.iload_n 2, 1) := by decide +kernel
theorem dX2_fill_46 : decode cX2_fill 46 = .ok (.invokevirtual 58, 3) := by decide +kernel
theorem dX2_fill_49 : decode cX2_fill 49 = .ok (.invokevirtual 47, 3) := by decide +kernel
theorem dX2_fill_52 : decode cX2_fill 52 = .ok (.ireturn, 1) := by decide +kernel
set_option maxRecDepth 20000 in
theorem ggX2_read_X2_clientAt : GoodIn wsX2_read wsX2_clientAt := goodIn_r _ [5, 6, 37, 38, 39, 40, 41, 42] (by decide +kernel) (by decide +kernel)
set_option maxRecDepth 20000 in
theorem gX2_read_X2_clientAt : GoodIn wsX2_read (wsV RX2 36 RX2 yX2_clientAt wsX2_clientAt) := goodIn_app (goodIn_of _ (by decide +kernel)) ggX2_read_X2_clientAt
set_option maxRecDepth 20000 in
theorem ggX2_read_X2_isPosition : GoodIn wsX2_read wsX2_isPosition := goodIn_r _ [9] (by decide +kernel) (by decide +kernel)
set_option maxRecDepth 20000 in
theorem gX2_read_X2_isPosition : GoodIn wsX2_read (va_wsS RX2 51 yX2_isPosition wsX2_isPosition) := goodIn_app (goodIn_of _ (by decide +kernel)) ggX2_read_X2_isPosition
set_option maxRecDepth 20000 in
theorem ggX2_read_X0_chainOf : GoodIn wsX2_read wsX0_chainOf := goodIn_r _ [13, 14, 25, 26, 27, 28, 29, 30, 31, 32, 33, 34, 35, 36] (by decide +kernel) (by decide +kernel)
set_option maxRecDepth 20000 in
theorem gX2_read_X0_chainOf_n58 : GoodIn wsX2_read (wsX0_chainOf) := ggX2_read_X0_chainOf
set_option maxRecDepth 20000 in
theorem ggX2_read_X2_highestOf : GoodIn wsX2_read wsX2_highestOf := goodIn_r _ [17] (by decide +kernel) (by decide +kernel)
set_option maxRecDepth 20000 in
theorem gX2_read_X2_highestOf : GoodIn wsX2_read (va_wsS RX2 62 yX2_highestOf wsX2_highestOf) := goodIn_app (goodIn_of _ (by decide +kernel)) ggX2_read_X2_highestOf
set_option maxRecDepth 20000 in
theorem ggX2_read_X0_begin : GoodIn wsX2_read wsX0_begin := goodIn_r _ [20, 21, 22, 23, 24, 25, 26, 27, 28, 29, 30, 31, 32, 33, 34, 35, 36] (by decide +kernel) (by decide +kernel)
set_option maxRecDepth 20000 in
theorem gX2_read_X0_begin_n47 : GoodIn wsX2_read (wsX0_begin) := ggX2_read_X0_begin
theorem dX2_read_0 : decode cX2_read 0 = .ok (.aload_n 0, 1) := by decide +kernel
theorem dX2_read_1 : decode cX2_read 1 = .ok (.iload_n 1, 1) := by decide +kernel
theorem dX2_read_2 : decode cX2_read 2 = .ok (.invokevirtual 36, 3) := by decide +kernel
theorem dX2_read_5 : decode cX2_read 5 = .ok (.astore_n 3, 1) := by decide +kernel
theorem dX2_read_6 : decode cX2_read 6 = .ok (.aload_n 3, 1) := by decide +kernel
theorem dX2_read_7 : decode cX2_read 7 = .ok (.ifnonnull 5, 3) := by decide +kernel
theorem dX2_read_10 : decode cX2_read 10 = .ok (.iconst (-1), 1) := by decide +kernel
theorem dX2_read_11 : decode cX2_read 11 = .ok (.ireturn, 1) := by decide +kernel
theorem dX2_read_12 : decode cX2_read 12 = .ok (.aload_n 3, 1) := by decide +kernel
theorem dX2_read_13 : decode cX2_read 13 = .ok (.getfield 40, 3) := by decide +kernel
theorem dX2_read_16 : decode cX2_read 16 = .ok (.ifCond .eq 6, 3) := by decide +kernel
theorem dX2_read_19 : decode cX2_read 19 = .ok (.bipush (-2), 2) := by decide +kernel
theorem dX2_read_21 : decode cX2_read 21 = .ok (.ireturn, 1) := by decide +kernel
theorem dX2_read_22 : decode cX2_read 22 = .ok (.iload_n 2, 1) := by decide +kernel
theorem dX2_read_23 : decode cX2_read 23 = .ok (.invokestatic 51, 3) := by decide +kernel
theorem dX2_read_26 : decode cX2_read 26 = .ok (.ifCond .ne 6, 3) := by decide +kernel
theorem dX2_read_29 : decode cX2_read 29 = .ok (.bipush (-3), 2) := by decide +kernel
theorem dX2_read_31 : decode cX2_read 31 = .ok (.ireturn, 1) := by decide +kernel
theorem dX2_read_32 : decode cX2_read 32 = .ok (.aload_n 3, 1) := by decide +kernel
theorem dX2_read_33 : decode cX2_read 33 = .ok (.iload_n 2, 1) := by decide +kernel
theorem dX2_read_34 : decode cX2_read 34 = .ok (.putfield 55, 3) := by decide +kernel
theorem dX2_read_37 : decode cX2_read 37 = .ok (.aload_n 3, 1) := by decide +kernel
theorem dX2_read_38 : decode cX2_read 38 = .ok (.iconst 3, 1) := by decide +kernel
theorem dX2_read_39 : decode cX2_read 39 = .ok (.aload_n 3, 1) := by decide +kernel
theorem dX2_read_40 : decode cX2_read 40 = .ok (.iload_n 2, 1) := by decide +kernel
theorem dX2_read_41 : decode cX2_read 41 = .ok (.invokevirtual 58, 3) := by decide +kernel
theorem dX2_read_44 : decode cX2_read 44 = .ok (.invokestatic 62, 3) := by decide +kernel
theorem dX2_read_47 : decode cX2_read 47 = .ok (.invokevirtual 47, 3) := by decide +kernel
theorem dX2_read_50 : decode cX2_read 50 = .ok (.ireturn, 1) := by decide +kernel
set_option maxRecDepth 20000 in
theorem ggX2_replay_X2_clientAt : GoodIn wsX2_replay wsX2_clientAt := goodIn_r _ [5, 6, 39, 40, 41, 42, 43, 44] (by decide +kernel) (by decide +kernel)
set_option maxRecDepth 20000 in
theorem gX2_replay_X2_clientAt : GoodIn wsX2_replay (wsV RX2 36 RX2 yX2_clientAt wsX2_clientAt) := goodIn_app (goodIn_of _ (by decide +kernel)) ggX2_replay_X2_clientAt
set_option maxRecDepth 20000 in
theorem ggX2_replay_X0_replayRoute : GoodIn wsX2_replay wsX0_replayRoute := goodIn_r _ [10, 11, 12, 13, 14, 15, 8, 16, 17, 18, 4, 19, 27, 28, 29, 30, 31, 32, 33, 34, 35, 36, 37, 38] (by decide +kernel) (by decide +kernel)
set_option maxRecDepth 20000 in
theorem gX2_replay_X0_replayRoute_n71 : GoodIn wsX2_replay (wsX0_replayRoute) := ggX2_replay_X0_replayRoute
set_option maxRecDepth 20000 in
theorem ggX2_replay_X0_begin : GoodIn wsX2_replay wsX0_begin := goodIn_r _ [22, 23, 24, 25, 26, 27, 28, 29, 30, 31, 32, 33, 34, 35, 36, 37, 38] (by decide +kernel) (by decide +kernel)
set_option maxRecDepth 20000 in
theorem gX2_replay_X0_begin_n47 : GoodIn wsX2_replay (wsX0_begin) := ggX2_replay_X0_begin
theorem dX2_replay_0 : decode cX2_replay 0 = .ok (.aload_n 0, 1) := by decide +kernel
theorem dX2_replay_1 : decode cX2_replay 1 = .ok (.iload_n 1, 1) := by decide +kernel
theorem dX2_replay_2 : decode cX2_replay 2 = .ok (.invokevirtual 36, 3) := by decide +kernel
theorem dX2_replay_5 : decode cX2_replay 5 = .ok (.astore_n 3, 1) := by decide +kernel
theorem dX2_replay_6 : decode cX2_replay 6 = .ok (.aload_n 3, 1) := by decide +kernel
theorem dX2_replay_7 : decode cX2_replay 7 = .ok (.ifnonnull 5, 3) := by decide +kernel
theorem dX2_replay_10 : decode cX2_replay 10 = .ok (.iconst (-1), 1) := by decide +kernel
theorem dX2_replay_11 : decode cX2_replay 11 = .ok (.ireturn, 1) := by decide +kernel
theorem dX2_replay_12 : decode cX2_replay 12 = .ok (.aload_n 3, 1) := by decide +kernel
theorem dX2_replay_13 : decode cX2_replay 13 = .ok (.getfield 40, 3) := by decide +kernel
theorem dX2_replay_16 : decode cX2_replay 16 = .ok (.ifCond .eq 6, 3) := by decide +kernel
theorem dX2_replay_19 : decode cX2_replay 19 = .ok (.bipush (-2), 2) := by decide +kernel
theorem dX2_replay_21 : decode cX2_replay 21 = .ok (.ireturn, 1) := by decide +kernel
theorem dX2_replay_22 : decode cX2_replay 22 = .ok (.iload_n 2, 1) := by decide +kernel
theorem dX2_replay_23 : decode cX2_replay 23 = .ok (.ifCond .lt 9, 3) := by decide +kernel
theorem dX2_replay_26 : decode cX2_replay 26 = .ok (.iload_n 2, 1) := by decide +kernel
theorem dX2_replay_27 : decode cX2_replay 27 = .ok (.bipush 32, 2) := by decide +kernel
theorem dX2_replay_29 : decode cX2_replay 29 = .ok (.if_icmp .le 6, 3) := by decide +kernel
theorem dX2_replay_32 : decode cX2_replay 32 = .ok (.bipush (-3), 2) := by decide +kernel
theorem dX2_replay_34 : decode cX2_replay 34 = .ok (.ireturn, 1) := by decide +kernel
theorem dX2_replay_35 : decode cX2_replay 35 = .ok (.aload_n 3, 1) := by decide +kernel
theorem dX2_replay_36 : decode cX2_replay 36 = .ok (.iconst 0, 1) := by decide +kernel
theorem dX2_replay_37 : decode cX2_replay 37 = .ok (.putfield 55, 3) := by decide +kernel
theorem dX2_replay_40 : decode cX2_replay 40 = .ok (.aload_n 3, 1) := by decide +kernel
theorem dX2_replay_41 : decode cX2_replay 41 = .ok (.iload_n 2, 1) := by decide +kernel
theorem dX2_replay_42 : decode cX2_replay 42 = .ok (.putfield 65, 3) := by decide +kernel
theorem dX2_replay_45 : decode cX2_replay 45 = .ok (.aload_n 3, 1) := by decide +kernel
theorem dX2_replay_46 : decode cX2_replay 46 = .ok (.iconst 0, 1) := by decide +kernel
theorem dX2_replay_47 : decode cX2_replay 47 = .ok (.putfield 68, 3) := by decide +kernel
theorem dX2_replay_50 : decode cX2_replay 50 = .ok (.aload_n 3, 1) := by decide +kernel
theorem dX2_replay_51 : decode cX2_replay 51 = .ok (.iconst 4, 1) := by decide +kernel
theorem dX2_replay_52 : decode cX2_replay 52 = .ok (.aload_n 3, 1) := by decide +kernel
theorem dX2_replay_53 : decode cX2_replay 53 = .ok (.invokevirtual 71, 3) := by decide +kernel
theorem dX2_replay_56 : decode cX2_replay 56 = .ok (.invokevirtual 47, 3) := by decide +kernel
theorem dX2_replay_59 : decode cX2_replay 59 = .ok (.ireturn, 1) := by decide +kernel
set_option maxRecDepth 20000 in
theorem ggX2_reform_X2_clientAt : GoodIn wsX2_reform wsX2_clientAt := goodIn_r _ [5, 6, 27, 28, 29, 30, 31, 32] (by decide +kernel) (by decide +kernel)
set_option maxRecDepth 20000 in
theorem gX2_reform_X2_clientAt : GoodIn wsX2_reform (wsV RX2 36 RX2 yX2_clientAt wsX2_clientAt) := goodIn_app (goodIn_of _ (by decide +kernel)) ggX2_reform_X2_clientAt
set_option maxRecDepth 20000 in
theorem ggX2_reform_X0_begin : GoodIn wsX2_reform wsX0_begin := goodIn_r _ [10, 11, 12, 13, 14, 15, 16, 17, 18, 19, 20, 21, 22, 23, 24, 25, 26] (by decide +kernel) (by decide +kernel)
set_option maxRecDepth 20000 in
theorem gX2_reform_X0_begin_n47 : GoodIn wsX2_reform (wsX0_begin) := ggX2_reform_X0_begin
theorem dX2_reform_0 : decode cX2_reform 0 = .ok (.aload_n 0, 1) := by decide +kernel
theorem dX2_reform_1 : decode cX2_reform 1 = .ok (.iload_n 1, 1) := by decide +kernel
theorem dX2_reform_2 : decode cX2_reform 2 = .ok (.invokevirtual 36, 3) := by decide +kernel
theorem dX2_reform_5 : decode cX2_reform 5 = .ok (.astore_n 3, 1) := by decide +kernel
theorem dX2_reform_6 : decode cX2_reform 6 = .ok (.aload_n 3, 1) := by decide +kernel
theorem dX2_reform_7 : decode cX2_reform 7 = .ok (.ifnonnull 5, 3) := by decide +kernel
theorem dX2_reform_10 : decode cX2_reform 10 = .ok (.iconst (-1), 1) := by decide +kernel
theorem dX2_reform_11 : decode cX2_reform 11 = .ok (.ireturn, 1) := by decide +kernel
theorem dX2_reform_12 : decode cX2_reform 12 = .ok (.aload_n 3, 1) := by decide +kernel
theorem dX2_reform_13 : decode cX2_reform 13 = .ok (.getfield 40, 3) := by decide +kernel
theorem dX2_reform_16 : decode cX2_reform 16 = .ok (.ifCond .eq 6, 3) := by decide +kernel
theorem dX2_reform_19 : decode cX2_reform 19 = .ok (.bipush (-2), 2) := by decide +kernel
theorem dX2_reform_21 : decode cX2_reform 21 = .ok (.ireturn, 1) := by decide +kernel
theorem dX2_reform_22 : decode cX2_reform 22 = .ok (.iload_n 2, 1) := by decide +kernel
theorem dX2_reform_23 : decode cX2_reform 23 = .ok (.ifCond .lt 9, 3) := by decide +kernel
theorem dX2_reform_26 : decode cX2_reform 26 = .ok (.iload_n 2, 1) := by decide +kernel
theorem dX2_reform_27 : decode cX2_reform 27 = .ok (.bipush 63, 2) := by decide +kernel
theorem dX2_reform_29 : decode cX2_reform 29 = .ok (.if_icmp .le 6, 3) := by decide +kernel
theorem dX2_reform_32 : decode cX2_reform 32 = .ok (.bipush (-3), 2) := by decide +kernel
theorem dX2_reform_34 : decode cX2_reform 34 = .ok (.ireturn, 1) := by decide +kernel
theorem dX2_reform_35 : decode cX2_reform 35 = .ok (.aload_n 3, 1) := by decide +kernel
theorem dX2_reform_36 : decode cX2_reform 36 = .ok (.getfield 75, 3) := by decide +kernel
theorem dX2_reform_39 : decode cX2_reform 39 = .ok (.iload_n 2, 1) := by decide +kernel
theorem dX2_reform_40 : decode cX2_reform 40 = .ok (.iconst (-1), 1) := by decide +kernel
theorem dX2_reform_41 : decode cX2_reform 41 = .ok (.ixor, 1) := by decide +kernel
theorem dX2_reform_42 : decode cX2_reform 42 = .ok (.iand, 1) := by decide +kernel
theorem dX2_reform_43 : decode cX2_reform 43 = .ok (.istore 4, 2) := by decide +kernel
theorem dX2_reform_45 : decode cX2_reform 45 = .ok (.iload 4, 2) := by decide +kernel
theorem dX2_reform_47 : decode cX2_reform 47 = .ok (.bipush 21, 2) := by decide +kernel
theorem dX2_reform_49 : decode cX2_reform 49 = .ok (.iand, 1) := by decide +kernel
theorem dX2_reform_50 : decode cX2_reform 50 = .ok (.ifCond .eq 11, 3) := by decide +kernel
theorem dX2_reform_53 : decode cX2_reform 53 = .ok (.iload 4, 2) := by decide +kernel
theorem dX2_reform_55 : decode cX2_reform 55 = .ok (.bipush 42, 2) := by decide +kernel
theorem dX2_reform_57 : decode cX2_reform 57 = .ok (.iand, 1) := by decide +kernel
theorem dX2_reform_58 : decode cX2_reform 58 = .ok (.ifCond .ne 6, 3) := by decide +kernel
theorem dX2_reform_61 : decode cX2_reform 61 = .ok (.bipush (-4), 2) := by decide +kernel
theorem dX2_reform_63 : decode cX2_reform 63 = .ok (.ireturn, 1) := by decide +kernel
theorem dX2_reform_64 : decode cX2_reform 64 = .ok (.aload_n 3, 1) := by decide +kernel
theorem dX2_reform_65 : decode cX2_reform 65 = .ok (.iload 4, 2) := by decide +kernel
theorem dX2_reform_67 : decode cX2_reform 67 = .ok (.putfield 78, 3) := by decide +kernel
theorem dX2_reform_70 : decode cX2_reform 70 = .ok (.aload_n 3, 1) := by decide +kernel
theorem dX2_reform_71 : decode cX2_reform 71 = .ok (.iconst 0, 1) := by decide +kernel
theorem dX2_reform_72 : decode cX2_reform 72 = .ok (.putfield 81, 3) := by decide +kernel
theorem dX2_reform_75 : decode cX2_reform 75 = .ok (.aload_n 3, 1) := by decide +kernel
theorem dX2_reform_76 : decode cX2_reform 76 = .ok (.iconst 5, 1) := by decide +kernel
theorem dX2_reform_77 : decode cX2_reform 77 = .ok (.iload 4, 2) := by decide +kernel
theorem dX2_reform_79 : decode cX2_reform 79 = .ok (.invokevirtual 47, 3) := by decide +kernel
theorem dX2_reform_82 : decode cX2_reform 82 = .ok (.ireturn, 1) := by decide +kernel
set_option maxRecDepth 20000 in
theorem ggX2_step_X2_clientAt : GoodIn wsX2_step wsX2_clientAt := goodIn_r _ [5, 6, 119, 120, 121, 122, 123, 124] (by decide +kernel) (by decide +kernel)
set_option maxRecDepth 20000 in
theorem gX2_step_X2_clientAt : GoodIn wsX2_step (wsV RX2 36 RX2 yX2_clientAt wsX2_clientAt) := goodIn_app (goodIn_of _ (by decide +kernel)) ggX2_step_X2_clientAt
set_option maxRecDepth 20000 in
theorem ggX2_step_X2_lowestUnit : GoodIn wsX2_step wsX2_lowestUnit := goodIn_r _ [9] (by decide +kernel) (by decide +kernel)
set_option maxRecDepth 20000 in
theorem gX2_step_X2_lowestUnit : GoodIn wsX2_step (va_wsS RX2 87 yX2_lowestUnit wsX2_lowestUnit) := goodIn_app (goodIn_of _ (by decide +kernel)) ggX2_step_X2_lowestUnit
set_option maxRecDepth 20000 in
theorem ggX2_step_X2_unitAt : GoodIn wsX2_step wsX2_unitAt := goodIn_r _ [13, 14, 119, 120, 121, 122, 123, 124] (by decide +kernel) (by decide +kernel)
set_option maxRecDepth 20000 in
theorem gX2_step_X2_unitAt : GoodIn wsX2_step (wsV RX2 90 RX2 yX2_unitAt wsX2_unitAt) := goodIn_app (goodIn_of _ (by decide +kernel)) ggX2_step_X2_unitAt
set_option maxRecDepth 20000 in
theorem ggX2_step_X2_stepWithoutUnit : GoodIn wsX2_step wsX2_stepWithoutUnit := goodIn_r _ [18, 19, 20, 21, 4, 22, 23, 24, 25, 26, 27, 28, 29, 30, 31, 32, 33, 34, 35, 36, 37, 38, 39, 40, 41, 42, 43, 44, 45, 104, 105, 106, 107, 108, 109, 110, 111, 112, 113, 114, 115, 119, 120, 121, 122, 123, 124] (by decide +kernel) (by decide +kernel)
set_option maxRecDepth 20000 in
theorem gX2_step_X2_stepWithoutUnit : GoodIn wsX2_step (wsV RX2 94 RX2 yX2_stepWithoutUnit wsX2_stepWithoutUnit) := goodIn_app (goodIn_of _ (by decide +kernel)) ggX2_step_X2_stepWithoutUnit
set_option maxRecDepth 20000 in
theorem ggX2_step_X0_newestEpochItBears : GoodIn wsX2_step wsX0_newestEpochItBears := goodIn_r _ [48, 29, 49, 104, 105, 106, 107, 108, 109, 110, 111, 112, 113, 114, 115] (by decide +kernel) (by decide +kernel)
set_option maxRecDepth 20000 in
theorem gX2_step_X0_newestEpochItBears_n105 : GoodIn wsX2_step (wsX0_newestEpochItBears) := ggX2_step_X0_newestEpochItBears
set_option maxRecDepth 20000 in
theorem ggX2_step_X0_end : GoodIn wsX2_step wsX0_end := goodIn_r _ [28, 29, 30, 31, 104, 105, 106, 107, 108, 109, 110, 111, 112, 113, 114, 115] (by decide +kernel) (by decide +kernel)
set_option maxRecDepth 20000 in
theorem gX2_step_X0_end_n108 : GoodIn wsX2_step (wsX0_end) := ggX2_step_X0_end
set_option maxRecDepth 20000 in
theorem ggX2_step_X2_stepAtUnit : GoodIn wsX2_step wsX2_stepAtUnit := goodIn_r _ [52, 53, 54, 4, 55, 56, 57, 58, 59, 60, 61, 62, 63, 26, 64, 65, 66, 67, 68, 32, 33, 34, 35, 69, 70, 71, 72, 73, 74, 75, 76, 77, 25, 27, 28, 29, 30, 31, 78, 79, 80, 81, 82, 83, 84, 85, 86, 87, 88, 89, 90, 91, 92, 93, 94, 95, 96, 97, 98, 99, 100, 101, 102, 103, 104, 105, 106, 107, 108, 109, 110, 111, 112, 113, 114, 115, 116, 117, 118] (by decide +kernel) (by decide +kernel)
set_option maxRecDepth 20000 in
theorem gX2_step_X2_stepAtUnit : GoodIn wsX2_step (va_wsS RX2 111 yX2_stepAtUnit wsX2_stepAtUnit) := goodIn_app (goodIn_of _ (by decide +kernel)) ggX2_step_X2_stepAtUnit
theorem dX2_step_0 : decode cX2_step 0 = .ok (.aload_n 0, 1) := by decide +kernel
theorem dX2_step_1 : decode cX2_step 1 = .ok (.iload_n 1, 1) := by decide +kernel
theorem dX2_step_2 : decode cX2_step 2 = .ok (.invokevirtual 36, 3) := by decide +kernel
theorem dX2_step_5 : decode cX2_step 5 = .ok (.astore_n 2, 1) := by decide +kernel
theorem dX2_step_6 : decode cX2_step 6 = .ok (.aload_n 2, 1) := by decide +kernel
theorem dX2_step_7 : decode cX2_step 7 = .ok (.ifnonnull 5, 3) := by decide +kernel
theorem dX2_step_10 : decode cX2_step 10 = .ok (.iconst (-1), 1) := by decide +kernel
theorem dX2_step_11 : decode cX2_step 11 = .ok (.ireturn, 1) := by decide +kernel
theorem dX2_step_12 : decode cX2_step 12 = .ok (.aload_n 2, 1) := by decide +kernel
theorem dX2_step_13 : decode cX2_step 13 = .ok (.getfield 40, 3) := by decide +kernel
theorem dX2_step_16 : decode cX2_step 16 = .ok (.ifCond .ne 6, 3) := by decide +kernel
theorem dX2_step_19 : decode cX2_step 19 = .ok (.bipush (-2), 2) := by decide +kernel
theorem dX2_step_21 : decode cX2_step 21 = .ok (.ireturn, 1) := by decide +kernel
theorem dX2_step_22 : decode cX2_step 22 = .ok (.aload_n 0, 1) := by decide +kernel
theorem dX2_step_23 : decode cX2_step 23 = .ok (.aload_n 2, 1) := by decide +kernel
theorem dX2_step_24 : decode cX2_step 24 = .ok (.getfield 84, 3) := by decide +kernel
theorem dX2_step_27 : decode cX2_step 27 = .ok (.invokestatic 87, 3) := by decide +kernel
theorem dX2_step_30 : decode cX2_step 30 = .ok (.invokevirtual 90, 3) := by decide +kernel
theorem dX2_step_33 : decode cX2_step 33 = .ok (.astore_n 3, 1) := by decide +kernel
theorem dX2_step_34 : decode cX2_step 34 = .ok (.aload_n 3, 1) := by decide +kernel
theorem dX2_step_35 : decode cX2_step 35 = .ok (.ifnonnull 9, 3) := by decide +kernel
theorem dX2_step_38 : decode cX2_step 38 = .ok (.aload_n 0, 1) := by decide +kernel
theorem dX2_step_39 : decode cX2_step 39 = .ok (.aload_n 2, 1) := by decide +kernel
theorem dX2_step_40 : decode cX2_step 40 = .ok (.invokevirtual 94, 3) := by decide +kernel
theorem dX2_step_43 : decode cX2_step 43 = .ok (.ireturn, 1) := by decide +kernel
theorem dX2_step_44 : decode cX2_step 44 = .ok (.aload_n 3, 1) := by decide +kernel
theorem dX2_step_45 : decode cX2_step 45 = .ok (.getfield 98, 3) := by decide +kernel
theorem dX2_step_48 : decode cX2_step 48 = .ok (.ifCond .ne 6, 3) := by decide +kernel
theorem dX2_step_51 : decode cX2_step 51 = .ok (.bipush (-3), 2) := by decide +kernel
theorem dX2_step_53 : decode cX2_step 53 = .ok (.ireturn, 1) := by decide +kernel
theorem dX2_step_54 : decode cX2_step 54 = .ok (.aload_n 3, 1) := by decide +kernel
theorem dX2_step_55 : decode cX2_step 55 = .ok (.getfield 102, 3) := by decide +kernel
theorem dX2_step_58 : decode cX2_step 58 = .ok (.aload_n 2, 1) := by decide +kernel
theorem dX2_step_59 : decode cX2_step 59 = .ok (.invokevirtual 105, 3) := by decide +kernel
theorem dX2_step_62 : decode cX2_step 62 = .ok (.if_icmp .le 10, 3) := by decide +kernel
theorem dX2_step_65 : decode cX2_step 65 = .ok (.aload_n 2, 1) := by decide +kernel
theorem dX2_step_66 : decode cX2_step 66 = .ok (.iconst 2, 1) := by decide +kernel
theorem dX2_step_67 : decode cX2_step 67 = .ok (.iconst 0, 1) := by decide +kernel
theorem dX2_step_68 : decode cX2_step 68 = .ok (.invokevirtual 108, 3) := by decide +kernel
theorem dX2_step_71 : decode cX2_step 71 = .ok (.ireturn, 1) := by decide +kernel
theorem dX2_step_72 : decode cX2_step 72 = .ok (.aload_n 2, 1) := by decide +kernel
theorem dX2_step_73 : decode cX2_step 73 = .ok (.aload_n 3, 1) := by decide +kernel
theorem dX2_step_74 : decode cX2_step 74 = .ok (.invokestatic 111, 3) := by decide +kernel
theorem dX2_step_77 : decode cX2_step 77 = .ok (.ireturn, 1) := by decide +kernel
set_option maxRecDepth 20000 in
theorem ggX2_refresh_X2_clientAt : GoodIn wsX2_refresh wsX2_clientAt := goodIn_r _ [5, 6, 25, 26, 27, 28, 29, 30] (by decide +kernel) (by decide +kernel)
set_option maxRecDepth 20000 in
theorem gX2_refresh_X2_clientAt : GoodIn wsX2_refresh (wsV RX2 36 RX2 yX2_clientAt wsX2_clientAt) := goodIn_app (goodIn_of _ (by decide +kernel)) ggX2_refresh_X2_clientAt
set_option maxRecDepth 20000 in
theorem ggX2_refresh_X2_takeStoreProjection : GoodIn wsX2_refresh wsX2_takeStoreProjection := goodIn_r _ [10, 11, 12, 25, 26, 27, 28, 29, 30, 13, 14, 15, 16, 17, 18, 19, 20, 21, 22, 23, 24] (by decide +kernel) (by decide +kernel)
set_option maxRecDepth 20000 in
theorem gX2_refresh_X2_takeStoreProjection : GoodIn wsX2_refresh (wsV RX2 115 RX2 yX2_takeStoreProjection wsX2_takeStoreProjection) := goodIn_app (goodIn_of _ (by decide +kernel)) ggX2_refresh_X2_takeStoreProjection
theorem dX2_refresh_0 : decode cX2_refresh 0 = .ok (.aload_n 0, 1) := by decide +kernel
theorem dX2_refresh_1 : decode cX2_refresh 1 = .ok (.iload_n 1, 1) := by decide +kernel
theorem dX2_refresh_2 : decode cX2_refresh 2 = .ok (.invokevirtual 36, 3) := by decide +kernel
theorem dX2_refresh_5 : decode cX2_refresh 5 = .ok (.astore_n 2, 1) := by decide +kernel
theorem dX2_refresh_6 : decode cX2_refresh 6 = .ok (.aload_n 2, 1) := by decide +kernel
theorem dX2_refresh_7 : decode cX2_refresh 7 = .ok (.ifnonnull 5, 3) := by decide +kernel
theorem dX2_refresh_10 : decode cX2_refresh 10 = .ok (.iconst (-1), 1) := by decide +kernel
theorem dX2_refresh_11 : decode cX2_refresh 11 = .ok (.ireturn, 1) := by decide +kernel
theorem dX2_refresh_12 : decode cX2_refresh 12 = .ok (.aload_n 2, 1) := by decide +kernel
theorem dX2_refresh_13 : decode cX2_refresh 13 = .ok (.getfield 40, 3) := by decide +kernel
theorem dX2_refresh_16 : decode cX2_refresh 16 = .ok (.ifCond .eq 6, 3) := by decide +kernel
theorem dX2_refresh_19 : decode cX2_refresh 19 = .ok (.bipush (-2), 2) := by decide +kernel
theorem dX2_refresh_21 : decode cX2_refresh 21 = .ok (.ireturn, 1) := by decide +kernel
theorem dX2_refresh_22 : decode cX2_refresh 22 = .ok (.aload_n 0, 1) := by decide +kernel
theorem dX2_refresh_23 : decode cX2_refresh 23 = .ok (.aload_n 2, 1) := by decide +kernel
theorem dX2_refresh_24 : decode cX2_refresh 24 = .ok (.invokevirtual 115, 3) := by decide +kernel
theorem dX2_refresh_27 : decode cX2_refresh 27 = .ok (.aload_n 2, 1) := by decide +kernel
theorem dX2_refresh_28 : decode cX2_refresh 28 = .ok (.getfield 119, 3) := by decide +kernel
theorem dX2_refresh_31 : decode cX2_refresh 31 = .ok (.ireturn, 1) := by decide +kernel
set_option maxRecDepth 20000 in
theorem ggX2_setUp_X2_unitAt : GoodIn wsX2_setUp wsX2_unitAt := goodIn_r _ [5, 6, 10, 11, 12, 13, 14, 15] (by decide +kernel) (by decide +kernel)
set_option maxRecDepth 20000 in
theorem gX2_setUp_X2_unitAt : GoodIn wsX2_setUp (wsV RX2 90 RX2 yX2_unitAt wsX2_unitAt) := goodIn_app (goodIn_of _ (by decide +kernel)) ggX2_setUp_X2_unitAt
theorem dX2_setUp_0 : decode cX2_setUp 0 = .ok (.aload_n 0, 1) := by decide +kernel
theorem dX2_setUp_1 : decode cX2_setUp 1 = .ok (.iload_n 1, 1) := by decide +kernel
theorem dX2_setUp_2 : decode cX2_setUp 2 = .ok (.invokevirtual 90, 3) := by decide +kernel
theorem dX2_setUp_5 : decode cX2_setUp 5 = .ok (.astore_n 3, 1) := by decide +kernel
theorem dX2_setUp_6 : decode cX2_setUp 6 = .ok (.aload_n 3, 1) := by decide +kernel
theorem dX2_setUp_7 : decode cX2_setUp 7 = .ok (.ifnonnull 5, 3) := by decide +kernel
theorem dX2_setUp_10 : decode cX2_setUp 10 = .ok (.iconst 0, 1) := by decide +kernel
theorem dX2_setUp_11 : decode cX2_setUp 11 = .ok (.ireturn, 1) := by decide +kernel
theorem dX2_setUp_12 : decode cX2_setUp 12 = .ok (.aload_n 3, 1) := by decide +kernel
theorem dX2_setUp_13 : decode cX2_setUp 13 = .ok (.iload_n 2, 1) := by decide +kernel
theorem dX2_setUp_14 : decode cX2_setUp 14 = .ok (.putfield 98, 3) := by decide +kernel
theorem dX2_setUp_17 : decode cX2_setUp 17 = .ok (.iconst 1, 1) := by decide +kernel
theorem dX2_setUp_18 : decode cX2_setUp 18 = .ok (.ireturn, 1) := by decide +kernel
theorem dX2_loseSequencer_0 : decode cX2_loseSequencer 0 = .ok (.aload_n 0, 1) := by decide +kernel
theorem dX2_loseSequencer_1 : decode cX2_loseSequencer 1 = .ok (.iconst 0, 1) := by decide +kernel
theorem dX2_loseSequencer_2 : decode cX2_loseSequencer 2 = .ok (.putfield 31, 3) := by decide +kernel
theorem dX2_loseSequencer_5 : decode cX2_loseSequencer 5 = .ok (.return_, 1) := by decide +kernel
set_option maxRecDepth 20000 in
theorem ggX2_busy_X2_clientAt : GoodIn wsX2_busy wsX2_clientAt := goodIn_r _ [5, 6, 19, 20, 21, 22, 23, 24] (by decide +kernel) (by decide +kernel)
set_option maxRecDepth 20000 in
theorem gX2_busy_X2_clientAt : GoodIn wsX2_busy (wsV RX2 36 RX2 yX2_clientAt wsX2_clientAt) := goodIn_app (goodIn_of _ (by decide +kernel)) ggX2_busy_X2_clientAt
theorem dX2_busy_0 : decode cX2_busy 0 = .ok (.aload_n 0, 1) := by decide +kernel
theorem dX2_busy_1 : decode cX2_busy 1 = .ok (.iload_n 1, 1) := by decide +kernel
theorem dX2_busy_2 : decode cX2_busy 2 = .ok (.invokevirtual 36, 3) := by decide +kernel
theorem dX2_busy_5 : decode cX2_busy 5 = .ok (.astore_n 2, 1) := by decide +kernel
theorem dX2_busy_6 : decode cX2_busy 6 = .ok (.aload_n 2, 1) := by decide +kernel
theorem dX2_busy_7 : decode cX2_busy 7 = .ok (.ifnonnull 8, 3) := by decide +kernel
theorem dX2_busy_10 : decode cX2_busy 10 = .ok (.bipush (-9), 2) := by decide +kernel
theorem dX2_busy_12 : decode cX2_busy 12 = .ok (.goto 7, 3) := by decide +kernel
theorem dX2_busy_15 : decode cX2_busy 15 = .ok (.aload_n 2, 1) := by decide +kernel
theorem dX2_busy_16 : decode cX2_busy 16 = .ok (.getfield 40, 3) := by decide +kernel
theorem dX2_busy_19 : decode cX2_busy 19 = .ok (.ireturn, 1) := by decide +kernel
set_option maxRecDepth 20000 in
theorem ggX2_outcome_X2_clientAt : GoodIn wsX2_outcome wsX2_clientAt := goodIn_r _ [5, 6, 19, 20, 21, 22, 23, 24] (by decide +kernel) (by decide +kernel)
set_option maxRecDepth 20000 in
theorem gX2_outcome_X2_clientAt : GoodIn wsX2_outcome (wsV RX2 36 RX2 yX2_clientAt wsX2_clientAt) := goodIn_app (goodIn_of _ (by decide +kernel)) ggX2_outcome_X2_clientAt
theorem dX2_outcome_0 : decode cX2_outcome 0 = .ok (.aload_n 0, 1) := by decide +kernel
theorem dX2_outcome_1 : decode cX2_outcome 1 = .ok (.iload_n 1, 1) := by decide +kernel
theorem dX2_outcome_2 : decode cX2_outcome 2 = .ok (.invokevirtual 36, 3) := by decide +kernel
theorem dX2_outcome_5 : decode cX2_outcome 5 = .ok (.astore_n 2, 1) := by decide +kernel
theorem dX2_outcome_6 : decode cX2_outcome 6 = .ok (.aload_n 2, 1) := by decide +kernel
theorem dX2_outcome_7 : decode cX2_outcome 7 = .ok (.ifnonnull 8, 3) := by decide +kernel
theorem dX2_outcome_10 : decode cX2_outcome 10 = .ok (.bipush (-9), 2) := by decide +kernel
theorem dX2_outcome_12 : decode cX2_outcome 12 = .ok (.goto 7, 3) := by decide +kernel
theorem dX2_outcome_15 : decode cX2_outcome 15 = .ok (.aload_n 2, 1) := by decide +kernel
theorem dX2_outcome_16 : decode cX2_outcome 16 = .ok (.getfield 120, 3) := by decide +kernel
theorem dX2_outcome_19 : decode cX2_outcome 19 = .ok (.ireturn, 1) := by decide +kernel
set_option maxRecDepth 20000 in
theorem ggX2_number_X2_clientAt : GoodIn wsX2_number wsX2_clientAt := goodIn_r _ [5, 6, 19, 20, 21, 22, 23, 24] (by decide +kernel) (by decide +kernel)
set_option maxRecDepth 20000 in
theorem gX2_number_X2_clientAt : GoodIn wsX2_number (wsV RX2 36 RX2 yX2_clientAt wsX2_clientAt) := goodIn_app (goodIn_of _ (by decide +kernel)) ggX2_number_X2_clientAt
theorem dX2_number_0 : decode cX2_number 0 = .ok (.aload_n 0, 1) := by decide +kernel
theorem dX2_number_1 : decode cX2_number 1 = .ok (.iload_n 1, 1) := by decide +kernel
theorem dX2_number_2 : decode cX2_number 2 = .ok (.invokevirtual 36, 3) := by decide +kernel
theorem dX2_number_5 : decode cX2_number 5 = .ok (.astore_n 2, 1) := by decide +kernel
theorem dX2_number_6 : decode cX2_number 6 = .ok (.aload_n 2, 1) := by decide +kernel
theorem dX2_number_7 : decode cX2_number 7 = .ok (.ifnonnull 8, 3) := by decide +kernel
theorem dX2_number_10 : decode cX2_number 10 = .ok (.bipush (-9), 2) := by decide +kernel
theorem dX2_number_12 : decode cX2_number 12 = .ok (.goto 7, 3) := by decide +kernel
theorem dX2_number_15 : decode cX2_number 15 = .ok (.aload_n 2, 1) := by decide +kernel
theorem dX2_number_16 : decode cX2_number 16 = .ok (.getfield 123, 3) := by decide +kernel
theorem dX2_number_19 : decode cX2_number 19 = .ok (.ireturn, 1) := by decide +kernel
set_option maxRecDepth 20000 in
theorem ggX2_epochOf_X2_clientAt : GoodIn wsX2_epochOf wsX2_clientAt := goodIn_r _ [5, 6, 19, 20, 21, 22, 23, 24] (by decide +kernel) (by decide +kernel)
set_option maxRecDepth 20000 in
theorem gX2_epochOf_X2_clientAt : GoodIn wsX2_epochOf (wsV RX2 36 RX2 yX2_clientAt wsX2_clientAt) := goodIn_app (goodIn_of _ (by decide +kernel)) ggX2_epochOf_X2_clientAt
theorem dX2_epochOf_0 : decode cX2_epochOf 0 = .ok (.aload_n 0, 1) := by decide +kernel
theorem dX2_epochOf_1 : decode cX2_epochOf 1 = .ok (.iload_n 1, 1) := by decide +kernel
theorem dX2_epochOf_2 : decode cX2_epochOf 2 = .ok (.invokevirtual 36, 3) := by decide +kernel
theorem dX2_epochOf_5 : decode cX2_epochOf 5 = .ok (.astore_n 2, 1) := by decide +kernel
theorem dX2_epochOf_6 : decode cX2_epochOf 6 = .ok (.aload_n 2, 1) := by decide +kernel
theorem dX2_epochOf_7 : decode cX2_epochOf 7 = .ok (.ifnonnull 8, 3) := by decide +kernel
theorem dX2_epochOf_10 : decode cX2_epochOf 10 = .ok (.bipush (-9), 2) := by decide +kernel
theorem dX2_epochOf_12 : decode cX2_epochOf 12 = .ok (.goto 7, 3) := by decide +kernel
theorem dX2_epochOf_15 : decode cX2_epochOf 15 = .ok (.aload_n 2, 1) := by decide +kernel
theorem dX2_epochOf_16 : decode cX2_epochOf 16 = .ok (.getfield 119, 3) := by decide +kernel
theorem dX2_epochOf_19 : decode cX2_epochOf 19 = .ok (.ireturn, 1) := by decide +kernel
set_option maxRecDepth 20000 in
theorem ggX2_membersOf_X2_clientAt : GoodIn wsX2_membersOf wsX2_clientAt := goodIn_r _ [5, 6, 19, 20, 21, 22, 23, 24] (by decide +kernel) (by decide +kernel)
set_option maxRecDepth 20000 in
theorem gX2_membersOf_X2_clientAt : GoodIn wsX2_membersOf (wsV RX2 36 RX2 yX2_clientAt wsX2_clientAt) := goodIn_app (goodIn_of _ (by decide +kernel)) ggX2_membersOf_X2_clientAt
theorem dX2_membersOf_0 : decode cX2_membersOf 0 = .ok (.aload_n 0, 1) := by decide +kernel
theorem dX2_membersOf_1 : decode cX2_membersOf 1 = .ok (.iload_n 1, 1) := by decide +kernel
theorem dX2_membersOf_2 : decode cX2_membersOf 2 = .ok (.invokevirtual 36, 3) := by decide +kernel
theorem dX2_membersOf_5 : decode cX2_membersOf 5 = .ok (.astore_n 2, 1) := by decide +kernel
theorem dX2_membersOf_6 : decode cX2_membersOf 6 = .ok (.aload_n 2, 1) := by decide +kernel
theorem dX2_membersOf_7 : decode cX2_membersOf 7 = .ok (.ifnonnull 8, 3) := by decide +kernel
theorem dX2_membersOf_10 : decode cX2_membersOf 10 = .ok (.bipush (-9), 2) := by decide +kernel
theorem dX2_membersOf_12 : decode cX2_membersOf 12 = .ok (.goto 7, 3) := by decide +kernel
theorem dX2_membersOf_15 : decode cX2_membersOf 15 = .ok (.aload_n 2, 1) := by decide +kernel
theorem dX2_membersOf_16 : decode cX2_membersOf 16 = .ok (.getfield 75, 3) := by decide +kernel
theorem dX2_membersOf_19 : decode cX2_membersOf 19 = .ok (.ireturn, 1) := by decide +kernel
theorem dX2_tail_0 : decode cX2_tail 0 = .ok (.aload_n 0, 1) := by decide +kernel
theorem dX2_tail_1 : decode cX2_tail 1 = .ok (.getfield 31, 3) := by decide +kernel
theorem dX2_tail_4 : decode cX2_tail 4 = .ok (.ireturn, 1) := by decide +kernel
set_option maxRecDepth 20000 in
theorem ggX2_unitEpoch_X2_unitAt : GoodIn wsX2_unitEpoch wsX2_unitAt := goodIn_r _ [5, 6, 10, 11, 12, 13, 14, 15] (by decide +kernel) (by decide +kernel)
set_option maxRecDepth 20000 in
theorem gX2_unitEpoch_X2_unitAt : GoodIn wsX2_unitEpoch (wsV RX2 90 RX2 yX2_unitAt wsX2_unitAt) := goodIn_app (goodIn_of _ (by decide +kernel)) ggX2_unitEpoch_X2_unitAt
theorem dX2_unitEpoch_0 : decode cX2_unitEpoch 0 = .ok (.aload_n 0, 1) := by decide +kernel
theorem dX2_unitEpoch_1 : decode cX2_unitEpoch 1 = .ok (.iload_n 1, 1) := by decide +kernel
theorem dX2_unitEpoch_2 : decode cX2_unitEpoch 2 = .ok (.invokevirtual 90, 3) := by decide +kernel
theorem dX2_unitEpoch_5 : decode cX2_unitEpoch 5 = .ok (.astore_n 2, 1) := by decide +kernel
theorem dX2_unitEpoch_6 : decode cX2_unitEpoch 6 = .ok (.aload_n 2, 1) := by decide +kernel
theorem dX2_unitEpoch_7 : decode cX2_unitEpoch 7 = .ok (.ifnonnull 8, 3) := by decide +kernel
theorem dX2_unitEpoch_10 : decode cX2_unitEpoch 10 = .ok (.bipush (-9), 2) := by decide +kernel
theorem dX2_unitEpoch_12 : decode cX2_unitEpoch 12 = .ok (.goto 7, 3) := by decide +kernel
theorem dX2_unitEpoch_15 : decode cX2_unitEpoch 15 = .ok (.aload_n 2, 1) := by decide +kernel
theorem dX2_unitEpoch_16 : decode cX2_unitEpoch 16 = .ok (.getfield 102, 3) := by decide +kernel
theorem dX2_unitEpoch_19 : decode cX2_unitEpoch 19 = .ok (.ireturn, 1) := by decide +kernel
set_option maxRecDepth 20000 in
theorem ggX2_cell_X2_unitAt : GoodIn wsX2_cell wsX2_unitAt := goodIn_r _ [5, 6, 14, 15, 16, 17, 18, 19] (by decide +kernel) (by decide +kernel)
set_option maxRecDepth 20000 in
theorem gX2_cell_X2_unitAt : GoodIn wsX2_cell (wsV RX2 90 RX2 yX2_unitAt wsX2_unitAt) := goodIn_app (goodIn_of _ (by decide +kernel)) ggX2_cell_X2_unitAt
set_option maxRecDepth 20000 in
theorem ggX2_cell_X1_contentAt : GoodIn wsX2_cell wsX1_contentAt := goodIn_r _ [10, 11, 12, 4, 13, 20, 21, 22] (by decide +kernel) (by decide +kernel)
set_option maxRecDepth 20000 in
theorem gX2_cell_X1_contentAt_n126 : GoodIn wsX2_cell (wsX1_contentAt) := ggX2_cell_X1_contentAt
theorem dX2_cell_0 : decode cX2_cell 0 = .ok (.aload_n 0, 1) := by decide +kernel
theorem dX2_cell_1 : decode cX2_cell 1 = .ok (.iload_n 1, 1) := by decide +kernel
theorem dX2_cell_2 : decode cX2_cell 2 = .ok (.invokevirtual 90, 3) := by decide +kernel
theorem dX2_cell_5 : decode cX2_cell 5 = .ok (.astore_n 3, 1) := by decide +kernel
theorem dX2_cell_6 : decode cX2_cell 6 = .ok (.aload_n 3, 1) := by decide +kernel
theorem dX2_cell_7 : decode cX2_cell 7 = .ok (.ifnonnull 8, 3) := by decide +kernel
theorem dX2_cell_10 : decode cX2_cell 10 = .ok (.bipush (-9), 2) := by decide +kernel
theorem dX2_cell_12 : decode cX2_cell 12 = .ok (.goto 8, 3) := by decide +kernel
theorem dX2_cell_15 : decode cX2_cell 15 = .ok (.aload_n 3, 1) := by decide +kernel
theorem dX2_cell_16 : decode cX2_cell 16 = .ok (.iload_n 2, 1) := by decide +kernel
theorem dX2_cell_17 : decode cX2_cell 17 = .ok (.invokevirtual 126, 3) := by decide +kernel
theorem dX2_cell_20 : decode cX2_cell 20 = .ok (.ireturn, 1) := by decide +kernel
theorem dX2_clientAt_0 : decode cX2_clientAt 0 = .ok (.iload_n 1, 1) := by decide +kernel
theorem dX2_clientAt_1 : decode cX2_clientAt 1 = .ok (.ifCond .lt 17, 3) := by decide +kernel
theorem dX2_clientAt_4 : decode cX2_clientAt 4 = .ok (.iload_n 1, 1) := by decide +kernel
theorem dX2_clientAt_5 : decode cX2_clientAt 5 = .ok (.iconst 3, 1) := by decide +kernel
theorem dX2_clientAt_6 : decode cX2_clientAt 6 = .ok (.if_icmp .ge 12, 3) := by decide +kernel
theorem dX2_clientAt_9 : decode cX2_clientAt 9 = .ok (.aload_n 0, 1) := by decide +kernel
theorem dX2_clientAt_10 : decode cX2_clientAt 10 = .ok (.getfield 17, 3) := by decide +kernel
theorem dX2_clientAt_13 : decode cX2_clientAt 13 = .ok (.iload_n 1, 1) := by decide +kernel
theorem dX2_clientAt_14 : decode cX2_clientAt 14 = .ok (.aaload, 1) := by decide +kernel
theorem dX2_clientAt_15 : decode cX2_clientAt 15 = .ok (.goto 4, 3) := by decide +kernel
theorem dX2_clientAt_18 : decode cX2_clientAt 18 = .ok (.aconst_null, 1) := by decide +kernel
theorem dX2_clientAt_19 : decode cX2_clientAt 19 = .ok (.areturn, 1) := by decide +kernel
theorem dX2_unitAt_0 : decode cX2_unitAt 0 = .ok (.iload_n 1, 1) := by decide +kernel
theorem dX2_unitAt_1 : decode cX2_unitAt 1 = .ok (.ifCond .lt 18, 3) := by decide +kernel
theorem dX2_unitAt_4 : decode cX2_unitAt 4 = .ok (.iload_n 1, 1) := by decide +kernel
theorem dX2_unitAt_5 : decode cX2_unitAt 5 = .ok (.bipush 6, 2) := by decide +kernel
theorem dX2_unitAt_7 : decode cX2_unitAt 7 = .ok (.if_icmp .ge 12, 3) := by decide +kernel
theorem dX2_unitAt_10 : decode cX2_unitAt 10 = .ok (.aload_n 0, 1) := by decide +kernel
theorem dX2_unitAt_11 : decode cX2_unitAt 11 = .ok (.getfield 11, 3) := by decide +kernel
theorem dX2_unitAt_14 : decode cX2_unitAt 14 = .ok (.iload_n 1, 1) := by decide +kernel
theorem dX2_unitAt_15 : decode cX2_unitAt 15 = .ok (.aaload, 1) := by decide +kernel
theorem dX2_unitAt_16 : decode cX2_unitAt 16 = .ok (.goto 4, 3) := by decide +kernel
theorem dX2_unitAt_19 : decode cX2_unitAt 19 = .ok (.aconst_null, 1) := by decide +kernel
theorem dX2_unitAt_20 : decode cX2_unitAt 20 = .ok (.areturn, 1) := by decide +kernel
theorem dX2_isPosition_0 : decode cX2_isPosition 0 = .ok (.iload_n 0, 1) := by decide +kernel
theorem dX2_isPosition_1 : decode cX2_isPosition 1 = .ok (.ifCond .lt 13, 3) := by decide +kernel
theorem dX2_isPosition_4 : decode cX2_isPosition 4 = .ok (.iload_n 0, 1) := by decide +kernel
theorem dX2_isPosition_5 : decode cX2_isPosition 5 = .ok (.bipush 32, 2) := by decide +kernel
theorem dX2_isPosition_7 : decode cX2_isPosition 7 = .ok (.if_icmp .ge 7, 3) := by decide +kernel
theorem dX2_isPosition_10 : decode cX2_isPosition 10 = .ok (.iconst 1, 1) := by decide +kernel
theorem dX2_isPosition_11 : decode cX2_isPosition 11 = .ok (.goto 4, 3) := by decide +kernel
theorem dX2_isPosition_14 : decode cX2_isPosition 14 = .ok (.iconst 0, 1) := by decide +kernel
theorem dX2_isPosition_15 : decode cX2_isPosition 15 = .ok (.ireturn, 1) := by decide +kernel
theorem dX2_lowestUnit_0 : decode cX2_lowestUnit 0 = .ok (.iconst 0, 1) := by decide +kernel
theorem dX2_lowestUnit_1 : decode cX2_lowestUnit 1 = .ok (.istore_n 1, 1) := by decide +kernel
theorem dX2_lowestUnit_2 : decode cX2_lowestUnit 2 = .ok (.iload_n 1, 1) := by decide +kernel
theorem dX2_lowestUnit_3 : decode cX2_lowestUnit 3 = .ok (.bipush 6, 2) := by decide +kernel
theorem dX2_lowestUnit_5 : decode cX2_lowestUnit 5 = .ok (.if_icmp .ge 19, 3) := by decide +kernel
theorem dX2_lowestUnit_8 : decode cX2_lowestUnit 8 = .ok (.iload_n 0, 1) := by decide +kernel
theorem dX2_lowestUnit_9 : decode cX2_lowestUnit 9 = .ok (.iconst 1, 1) := by decide +kernel
theorem dX2_lowestUnit_10 : decode cX2_lowestUnit 10 = .ok (.iload_n 1, 1) := by decide +kernel
theorem dX2_lowestUnit_11 : decode cX2_lowestUnit 11 = .ok (.ishl, 1) := by decide +kernel
theorem dX2_lowestUnit_12 : decode cX2_lowestUnit 12 = .ok (.iand, 1) := by decide +kernel
theorem dX2_lowestUnit_13 : decode cX2_lowestUnit 13 = .ok (.ifCond .eq 5, 3) := by decide +kernel
theorem dX2_lowestUnit_16 : decode cX2_lowestUnit 16 = .ok (.iload_n 1, 1) := by decide +kernel
theorem dX2_lowestUnit_17 : decode cX2_lowestUnit 17 = .ok (.ireturn, 1) := by decide +kernel
theorem dX2_lowestUnit_18 : decode cX2_lowestUnit 18 = .ok (.iinc 1 1, 3) := by decide +kernel
theorem dX2_lowestUnit_21 : decode cX2_lowestUnit 21 = .ok (.goto (-19), 3) := by decide +kernel
theorem dX2_lowestUnit_24 : decode cX2_lowestUnit 24 = .ok (.iconst (-1), 1) := by decide +kernel
theorem dX2_lowestUnit_25 : decode cX2_lowestUnit 25 = .ok (.ireturn, 1) := by decide +kernel
theorem dX2_withoutLowest_0 : decode cX2_withoutLowest 0 = .ok (.iload_n 0, 1) := by decide +kernel
theorem dX2_withoutLowest_1 : decode cX2_withoutLowest 1 = .ok (.iload_n 0, 1) := by decide +kernel
theorem dX2_withoutLowest_2 : decode cX2_withoutLowest 2 = .ok (.iconst 1, 1) := by decide +kernel
theorem dX2_withoutLowest_3 : decode cX2_withoutLowest 3 = .ok (.isub, 1) := by decide +kernel
theorem dX2_withoutLowest_4 : decode cX2_withoutLowest 4 = .ok (.iand, 1) := by decide +kernel
theorem dX2_withoutLowest_5 : decode cX2_withoutLowest 5 = .ok (.ireturn, 1) := by decide +kernel
theorem dX2_highestOf_0 : decode cX2_highestOf 0 = .ok (.iconst 5, 1) := by decide +kernel
theorem dX2_highestOf_1 : decode cX2_highestOf 1 = .ok (.istore_n 1, 1) := by decide +kernel
theorem dX2_highestOf_2 : decode cX2_highestOf 2 = .ok (.iload_n 1, 1) := by decide +kernel
theorem dX2_highestOf_3 : decode cX2_highestOf 3 = .ok (.ifCond .lt 21, 3) := by decide +kernel
theorem dX2_highestOf_6 : decode cX2_highestOf 6 = .ok (.iload_n 0, 1) := by decide +kernel
theorem dX2_highestOf_7 : decode cX2_highestOf 7 = .ok (.iconst 1, 1) := by decide +kernel
theorem dX2_highestOf_8 : decode cX2_highestOf 8 = .ok (.iload_n 1, 1) := by decide +kernel
theorem dX2_highestOf_9 : decode cX2_highestOf 9 = .ok (.ishl, 1) := by decide +kernel
theorem dX2_highestOf_10 : decode cX2_highestOf 10 = .ok (.iand, 1) := by decide +kernel
theorem dX2_highestOf_11 : decode cX2_highestOf 11 = .ok (.ifCond .eq 7, 3) := by decide +kernel
theorem dX2_highestOf_14 : decode cX2_highestOf 14 = .ok (.iconst 1, 1) := by decide +kernel
theorem dX2_highestOf_15 : decode cX2_highestOf 15 = .ok (.iload_n 1, 1) := by decide +kernel
theorem dX2_highestOf_16 : decode cX2_highestOf 16 = .ok (.ishl, 1) := by decide +kernel
theorem dX2_highestOf_17 : decode cX2_highestOf 17 = .ok (.ireturn, 1) := by decide +kernel
theorem dX2_highestOf_18 : decode cX2_highestOf 18 = .ok (.iinc 1 (-1), 3) := by decide +kernel
theorem dX2_highestOf_21 : decode cX2_highestOf 21 = .ok (.goto (-19), 3) := by decide +kernel
theorem dX2_highestOf_24 : decode cX2_highestOf 24 = .ok (.iconst 0, 1) := by decide +kernel
theorem dX2_highestOf_25 : decode cX2_highestOf 25 = .ok (.ireturn, 1) := by decide +kernel
set_option maxRecDepth 20000 in
theorem ggX2_stepWithoutUnit_X2_askSequencer : GoodIn wsX2_stepWithoutUnit wsX2_askSequencer := goodIn_r _ [5, 6, 7, 8, 9, 10, 11, 12, 13, 14, 15, 16, 17, 18, 29, 30, 31, 32, 33, 34, 35, 36, 37, 38, 39, 40, 41, 42, 43, 44, 45, 46] (by decide +kernel) (by decide +kernel)
set_option maxRecDepth 20000 in
theorem gX2_stepWithoutUnit_X2_askSequencer : GoodIn wsX2_stepWithoutUnit (wsV RX2 129 RX2 yX2_askSequencer wsX2_askSequencer) := goodIn_app (goodIn_of _ (by decide +kernel)) ggX2_stepWithoutUnit_X2_askSequencer
set_option maxRecDepth 20000 in
theorem ggX2_stepWithoutUnit_X0_end : GoodIn wsX2_stepWithoutUnit wsX0_end := goodIn_r _ [11, 12, 13, 14, 29, 30, 31, 32, 33, 34, 35, 36, 37, 38, 39, 40] (by decide +kernel) (by decide +kernel)
set_option maxRecDepth 20000 in
theorem gX2_stepWithoutUnit_X0_end_n108 : GoodIn wsX2_stepWithoutUnit (wsX0_end) := ggX2_stepWithoutUnit_X0_end
set_option maxRecDepth 20000 in
theorem ggX2_stepWithoutUnit_X2_askStore : GoodIn wsX2_stepWithoutUnit wsX2_askStore := goodIn_r _ [22, 23, 24, 6, 7, 8, 9, 10, 11, 12, 13, 14, 25, 26, 27, 4, 28, 41, 42, 43, 44, 45, 46, 29, 30, 31, 32, 33, 34, 35, 36, 37, 38, 39, 40] (by decide +kernel) (by decide +kernel)
set_option maxRecDepth 20000 in
theorem gX2_stepWithoutUnit_X2_askStore : GoodIn wsX2_stepWithoutUnit (wsV RX2 132 RX2 yX2_askStore wsX2_askStore) := goodIn_app (goodIn_of _ (by decide +kernel)) ggX2_stepWithoutUnit_X2_askStore
theorem dX2_stepWithoutUnit_0 : decode cX2_stepWithoutUnit 0 = .ok (.aload_n 1, 1) := by decide +kernel
theorem dX2_stepWithoutUnit_1 : decode cX2_stepWithoutUnit 1 = .ok (.getfield 40, 3) := by decide +kernel
theorem dX2_stepWithoutUnit_4 : decode cX2_stepWithoutUnit 4 = .ok (.lookupswitch 44 #[(1, 28), (4, 34)], 28) := by decide +kernel
theorem dX2_stepWithoutUnit_32 : decode cX2_stepWithoutUnit 32 = .ok (.aload_n 0, 1) := by decide +kernel
theorem dX2_stepWithoutUnit_33 : decode cX2_stepWithoutUnit 33 = .ok (.aload_n 1, 1) := by decide +kernel
theorem dX2_stepWithoutUnit_34 : decode cX2_stepWithoutUnit 34 = .ok (.invokevirtual 129, 3) := by decide +kernel
theorem dX2_stepWithoutUnit_37 : decode cX2_stepWithoutUnit 37 = .ok (.ireturn, 1) := by decide +kernel
theorem dX2_stepWithoutUnit_38 : decode cX2_stepWithoutUnit 38 = .ok (.aload_n 1, 1) := by decide +kernel
theorem dX2_stepWithoutUnit_39 : decode cX2_stepWithoutUnit 39 = .ok (.iconst 1, 1) := by decide +kernel
theorem dX2_stepWithoutUnit_40 : decode cX2_stepWithoutUnit 40 = .ok (.aload_n 1, 1) := by decide +kernel
theorem dX2_stepWithoutUnit_41 : decode cX2_stepWithoutUnit 41 = .ok (.getfield 68, 3) := by decide +kernel
theorem dX2_stepWithoutUnit_44 : decode cX2_stepWithoutUnit 44 = .ok (.invokevirtual 108, 3) := by decide +kernel
theorem dX2_stepWithoutUnit_47 : decode cX2_stepWithoutUnit 47 = .ok (.ireturn, 1) := by decide +kernel
theorem dX2_stepWithoutUnit_48 : decode cX2_stepWithoutUnit 48 = .ok (.aload_n 0, 1) := by decide +kernel
theorem dX2_stepWithoutUnit_49 : decode cX2_stepWithoutUnit 49 = .ok (.aload_n 1, 1) := by decide +kernel
theorem dX2_stepWithoutUnit_50 : decode cX2_stepWithoutUnit 50 = .ok (.invokevirtual 132, 3) := by decide +kernel
theorem dX2_stepWithoutUnit_53 : decode cX2_stepWithoutUnit 53 = .ok (.ireturn, 1) := by decide +kernel
set_option maxRecDepth 20000 in
theorem ggX2_stepAtUnit_X2_appendAt : GoodIn wsX2_stepAtUnit wsX2_appendAt := goodIn_r _ [4, 5, 6, 7, 8, 9, 10, 3, 11, 12, 13, 14, 15, 16, 17, 18, 19, 20, 21, 22, 23, 24, 25, 26, 27, 28, 29, 30, 31, 32, 33, 34, 35, 36, 37, 64, 65, 66, 67, 68, 69, 70, 71, 72, 73, 74, 75, 76, 77, 78] (by decide +kernel) (by decide +kernel)
set_option maxRecDepth 20000 in
theorem gX2_stepAtUnit_X2_appendAt : GoodIn wsX2_stepAtUnit (va_wsS RX2 135 yX2_appendAt wsX2_appendAt) := goodIn_app (goodIn_of _ (by decide +kernel)) ggX2_stepAtUnit_X2_appendAt
set_option maxRecDepth 20000 in
theorem ggX2_stepAtUnit_X2_fillAt : GoodIn wsX2_stepAtUnit wsX2_fillAt := goodIn_r _ [40, 23, 6, 24, 25, 9, 10, 3, 11, 12, 13, 14, 15, 16, 17, 18, 19, 20, 21, 22, 5, 7, 8, 26, 27, 28, 29, 30, 31, 32, 33, 34, 35, 36, 37, 64, 65, 66, 67, 68, 69, 70, 71, 72, 73, 74, 75, 76, 77, 78] (by decide +kernel) (by decide +kernel)
set_option maxRecDepth 20000 in
theorem gX2_stepAtUnit_X2_fillAt : GoodIn wsX2_stepAtUnit (va_wsS RX2 138 yX2_fillAt wsX2_fillAt) := goodIn_app (goodIn_of _ (by decide +kernel)) ggX2_stepAtUnit_X2_fillAt
set_option maxRecDepth 20000 in
theorem ggX2_stepAtUnit_X2_readAt : GoodIn wsX2_stepAtUnit wsX2_readAt := goodIn_r _ [43, 5, 6, 7, 8, 9, 10, 3, 11, 32, 13, 33, 34, 35, 36, 37, 64, 65, 66, 67, 68, 69, 70, 71, 72, 73, 74, 75, 76, 77, 78] (by decide +kernel) (by decide +kernel)
set_option maxRecDepth 20000 in
theorem gX2_stepAtUnit_X2_readAt : GoodIn wsX2_stepAtUnit (va_wsS RX2 141 yX2_readAt wsX2_readAt) := goodIn_app (goodIn_of _ (by decide +kernel)) ggX2_stepAtUnit_X2_readAt
set_option maxRecDepth 20000 in
theorem ggX2_stepAtUnit_X2_replayAt : GoodIn wsX2_stepAtUnit wsX2_replayAt := goodIn_r _ [46, 5, 6, 7, 8, 9, 10, 3, 11, 32, 13, 33, 34, 35, 36, 37, 47, 48, 49, 17, 50, 18, 19, 20, 21, 22, 51, 52, 64, 65, 66, 67, 68, 69, 70, 71, 72, 73, 74, 75, 76, 77, 78] (by decide +kernel) (by decide +kernel)
set_option maxRecDepth 20000 in
theorem gX2_stepAtUnit_X2_replayAt : GoodIn wsX2_stepAtUnit (va_wsS RX2 144 yX2_replayAt wsX2_replayAt) := goodIn_app (goodIn_of _ (by decide +kernel)) ggX2_stepAtUnit_X2_replayAt
set_option maxRecDepth 20000 in
theorem ggX2_stepAtUnit_X2_sealAt : GoodIn wsX2_stepAtUnit wsX2_sealAt := goodIn_r _ [55, 56, 57, 58, 59, 60, 6, 61, 62, 9, 63, 29, 3, 30, 64, 65, 66, 67, 68, 69, 70, 71, 72, 73, 74, 75, 76, 77, 78] (by decide +kernel) (by decide +kernel)
set_option maxRecDepth 20000 in
theorem gX2_stepAtUnit_X2_sealAt : GoodIn wsX2_stepAtUnit (va_wsS RX2 147 yX2_sealAt wsX2_sealAt) := goodIn_app (goodIn_of _ (by decide +kernel)) ggX2_stepAtUnit_X2_sealAt
theorem dX2_stepAtUnit_0 : decode cX2_stepAtUnit 0 = .ok (.aload_n 0, 1) := by decide +kernel
theorem dX2_stepAtUnit_1 : decode cX2_stepAtUnit 1 = .ok (.getfield 40, 3) := by decide +kernel
theorem dX2_stepAtUnit_4 : decode cX2_stepAtUnit 4 = .ok (.tableswitch 56 1 4 #[32, 38, 44, 50], 32) := by decide +kernel
theorem dX2_stepAtUnit_36 : decode cX2_stepAtUnit 36 = .ok (.aload_n 0, 1) := by decide +kernel
theorem dX2_stepAtUnit_37 : decode cX2_stepAtUnit 37 = .ok (.aload_n 1, 1) := by decide +kernel
theorem dX2_stepAtUnit_38 : decode cX2_stepAtUnit 38 = .ok (.invokestatic 135, 3) := by decide +kernel
theorem dX2_stepAtUnit_41 : decode cX2_stepAtUnit 41 = .ok (.ireturn, 1) := by decide +kernel
theorem dX2_stepAtUnit_42 : decode cX2_stepAtUnit 42 = .ok (.aload_n 0, 1) := by decide +kernel
theorem dX2_stepAtUnit_43 : decode cX2_stepAtUnit 43 = .ok (.aload_n 1, 1) := by decide +kernel
theorem dX2_stepAtUnit_44 : decode cX2_stepAtUnit 44 = .ok (.invokestatic 138, 3) := by decide +kernel
theorem dX2_stepAtUnit_47 : decode cX2_stepAtUnit 47 = .ok (.ireturn, 1) := by decide +kernel
theorem dX2_stepAtUnit_48 : decode cX2_stepAtUnit 48 = .ok (.aload_n 0, 1) := by decide +kernel
theorem dX2_stepAtUnit_49 : decode cX2_stepAtUnit 49 = .ok (.aload_n 1, 1) := by decide +kernel
theorem dX2_stepAtUnit_50 : decode cX2_stepAtUnit 50 = .ok (.invokestatic 141, 3) := by decide +kernel
theorem dX2_stepAtUnit_53 : decode cX2_stepAtUnit 53 = .ok (.ireturn, 1) := by decide +kernel
theorem dX2_stepAtUnit_54 : decode cX2_stepAtUnit 54 = .ok (.aload_n 0, 1) := by decide +kernel
theorem dX2_stepAtUnit_55 : decode cX2_stepAtUnit 55 = .ok (.aload_n 1, 1) := by decide +kernel
theorem dX2_stepAtUnit_56 : decode cX2_stepAtUnit 56 = .ok (.invokestatic 144, 3) := by decide +kernel
theorem dX2_stepAtUnit_59 : decode cX2_stepAtUnit 59 = .ok (.ireturn, 1) := by decide +kernel
theorem dX2_stepAtUnit_60 : decode cX2_stepAtUnit 60 = .ok (.aload_n 0, 1) := by decide +kernel
theorem dX2_stepAtUnit_61 : decode cX2_stepAtUnit 61 = .ok (.aload_n 1, 1) := by decide +kernel
theorem dX2_stepAtUnit_62 : decode cX2_stepAtUnit 62 = .ok (.invokestatic 147, 3) := by decide +kernel
theorem dX2_stepAtUnit_65 : decode cX2_stepAtUnit 65 = .ok (.ireturn, 1) := by decide +kernel
set_option maxRecDepth 20000 in
theorem ggX2_askSequencer_X0_end : GoodIn wsX2_askSequencer wsX0_end := goodIn_r _ [6, 7, 8, 9, 14, 15, 16, 17, 18, 19, 20, 21, 22, 23, 24, 25] (by decide +kernel) (by decide +kernel)
set_option maxRecDepth 20000 in
theorem gX2_askSequencer_X0_end_n108 : GoodIn wsX2_askSequencer (wsX0_end) := ggX2_askSequencer_X0_end
set_option maxRecDepth 20000 in
theorem ggX2_askSequencer_X0_chainOf : GoodIn wsX2_askSequencer wsX0_chainOf := goodIn_r _ [12, 13, 14, 15, 16, 17, 18, 19, 20, 21, 22, 23, 24, 25] (by decide +kernel) (by decide +kernel)
set_option maxRecDepth 20000 in
theorem gX2_askSequencer_X0_chainOf_n58 : GoodIn wsX2_askSequencer (wsX0_chainOf) := ggX2_askSequencer_X0_chainOf
theorem dX2_askSequencer_0 : decode cX2_askSequencer 0 = .ok (.aload_n 1, 1) := by decide +kernel
theorem dX2_askSequencer_1 : decode cX2_askSequencer 1 = .ok (.getfield 119, 3) := by decide +kernel
theorem dX2_askSequencer_4 : decode cX2_askSequencer 4 = .ok (.aload_n 0, 1) := by decide +kernel
theorem dX2_askSequencer_5 : decode cX2_askSequencer 5 = .ok (.getfield 28, 3) := by decide +kernel
theorem dX2_askSequencer_8 : decode cX2_askSequencer 8 = .ok (.if_icmp .eq 10, 3) := by decide +kernel
theorem dX2_askSequencer_11 : decode cX2_askSequencer 11 = .ok (.aload_n 1, 1) := by decide +kernel
theorem dX2_askSequencer_12 : decode cX2_askSequencer 12 = .ok (.iconst 2, 1) := by decide +kernel
theorem dX2_askSequencer_13 : decode cX2_askSequencer 13 = .ok (.iconst 0, 1) := by decide +kernel
theorem dX2_askSequencer_14 : decode cX2_askSequencer 14 = .ok (.invokevirtual 108, 3) := by decide +kernel
theorem dX2_askSequencer_17 : decode cX2_askSequencer 17 = .ok (.ireturn, 1) := by decide +kernel
theorem dX2_askSequencer_18 : decode cX2_askSequencer 18 = .ok (.aload_n 0, 1) := by decide +kernel
theorem dX2_askSequencer_19 : decode cX2_askSequencer 19 = .ok (.getfield 31, 3) := by decide +kernel
theorem dX2_askSequencer_22 : decode cX2_askSequencer 22 = .ok (.bipush 32, 2) := by decide +kernel
theorem dX2_askSequencer_24 : decode cX2_askSequencer 24 = .ok (.if_icmp .lt 10, 3) := by decide +kernel
theorem dX2_askSequencer_27 : decode cX2_askSequencer 27 = .ok (.aload_n 1, 1) := by decide +kernel
theorem dX2_askSequencer_28 : decode cX2_askSequencer 28 = .ok (.iconst 4, 1) := by decide +kernel
theorem dX2_askSequencer_29 : decode cX2_askSequencer 29 = .ok (.iconst 0, 1) := by decide +kernel
theorem dX2_askSequencer_30 : decode cX2_askSequencer 30 = .ok (.invokevirtual 108, 3) := by decide +kernel
theorem dX2_askSequencer_33 : decode cX2_askSequencer 33 = .ok (.ireturn, 1) := by decide +kernel
theorem dX2_askSequencer_34 : decode cX2_askSequencer 34 = .ok (.aload_n 1, 1) := by decide +kernel
theorem dX2_askSequencer_35 : decode cX2_askSequencer 35 = .ok (.aload_n 0, 1) := by decide +kernel
theorem dX2_askSequencer_36 : decode cX2_askSequencer 36 = .ok (.getfield 31, 3) := by decide +kernel
theorem dX2_askSequencer_39 : decode cX2_askSequencer 39 = .ok (.putfield 55, 3) := by decide +kernel
theorem dX2_askSequencer_42 : decode cX2_askSequencer 42 = .ok (.aload_n 1, 1) := by decide +kernel
theorem dX2_askSequencer_43 : decode cX2_askSequencer 43 = .ok (.aload_n 1, 1) := by decide +kernel
theorem dX2_askSequencer_44 : decode cX2_askSequencer 44 = .ok (.aload_n 1, 1) := by decide +kernel
theorem dX2_askSequencer_45 : decode cX2_askSequencer 45 = .ok (.getfield 55, 3) := by decide +kernel
theorem dX2_askSequencer_48 : decode cX2_askSequencer 48 = .ok (.invokevirtual 58, 3) := by decide +kernel
theorem dX2_askSequencer_51 : decode cX2_askSequencer 51 = .ok (.putfield 84, 3) := by decide +kernel
theorem dX2_askSequencer_54 : decode cX2_askSequencer 54 = .ok (.aload_n 0, 1) := by decide +kernel
theorem dX2_askSequencer_55 : decode cX2_askSequencer 55 = .ok (.dup, 1) := by decide +kernel
theorem dX2_askSequencer_56 : decode cX2_askSequencer 56 = .ok (.getfield 31, 3) := by decide +kernel
theorem dX2_askSequencer_59 : decode cX2_askSequencer 59 = .ok (.iconst 1, 1) := by decide +kernel
theorem dX2_askSequencer_60 : decode cX2_askSequencer 60 = .ok (.iadd, 1) := by decide +kernel
theorem dX2_askSequencer_61 : decode cX2_askSequencer 61 = .ok (.putfield 31, 3) := by decide +kernel
theorem dX2_askSequencer_64 : decode cX2_askSequencer 64 = .ok (.iconst 0, 1) := by decide +kernel
theorem dX2_askSequencer_65 : decode cX2_askSequencer 65 = .ok (.ireturn, 1) := by decide +kernel
set_option maxRecDepth 20000 in
theorem ggX2_askStore_X0_end : GoodIn wsX2_askStore wsX0_end := goodIn_r _ [8, 9, 10, 11, 23, 24, 25, 26, 27, 28, 29, 30, 31, 32, 33, 34] (by decide +kernel) (by decide +kernel)
set_option maxRecDepth 20000 in
theorem gX2_askStore_X0_end_n108 : GoodIn wsX2_askStore (wsX0_end) := ggX2_askStore_X0_end
set_option maxRecDepth 20000 in
theorem ggX2_askStore_X2_takeStoreProjection : GoodIn wsX2_askStore wsX2_takeStoreProjection := goodIn_r _ [16, 1, 2, 17, 18, 19, 20, 21, 22, 23, 24, 25, 26, 27, 28, 29, 30, 31, 32, 33, 34] (by decide +kernel) (by decide +kernel)
set_option maxRecDepth 20000 in
theorem gX2_askStore_X2_takeStoreProjection : GoodIn wsX2_askStore (wsV RX2 115 RX2 yX2_takeStoreProjection wsX2_takeStoreProjection) := goodIn_app (goodIn_of _ (by decide +kernel)) ggX2_askStore_X2_takeStoreProjection
theorem dX2_askStore_0 : decode cX2_askStore 0 = .ok (.aload_n 0, 1) := by decide +kernel
theorem dX2_askStore_1 : decode cX2_askStore 1 = .ok (.getfield 21, 3) := by decide +kernel
theorem dX2_askStore_4 : decode cX2_askStore 4 = .ok (.aload_n 1, 1) := by decide +kernel
theorem dX2_askStore_5 : decode cX2_askStore 5 = .ok (.getfield 119, 3) := by decide +kernel
theorem dX2_askStore_8 : decode cX2_askStore 8 = .ok (.if_icmp .eq 13, 3) := by decide +kernel
theorem dX2_askStore_11 : decode cX2_askStore 11 = .ok (.aload_n 1, 1) := by decide +kernel
theorem dX2_askStore_12 : decode cX2_askStore 12 = .ok (.iconst 5, 1) := by decide +kernel
theorem dX2_askStore_13 : decode cX2_askStore 13 = .ok (.aload_n 0, 1) := by decide +kernel
theorem dX2_askStore_14 : decode cX2_askStore 14 = .ok (.getfield 21, 3) := by decide +kernel
theorem dX2_askStore_17 : decode cX2_askStore 17 = .ok (.invokevirtual 108, 3) := by decide +kernel
theorem dX2_askStore_20 : decode cX2_askStore 20 = .ok (.ireturn, 1) := by decide +kernel
theorem dX2_askStore_21 : decode cX2_askStore 21 = .ok (.aload_n 0, 1) := by decide +kernel
theorem dX2_askStore_22 : decode cX2_askStore 22 = .ok (.aload_n 1, 1) := by decide +kernel
theorem dX2_askStore_23 : decode cX2_askStore 23 = .ok (.getfield 119, 3) := by decide +kernel
theorem dX2_askStore_26 : decode cX2_askStore 26 = .ok (.iconst 1, 1) := by decide +kernel
theorem dX2_askStore_27 : decode cX2_askStore 27 = .ok (.iadd, 1) := by decide +kernel
theorem dX2_askStore_28 : decode cX2_askStore 28 = .ok (.putfield 21, 3) := by decide +kernel
theorem dX2_askStore_31 : decode cX2_askStore 31 = .ok (.aload_n 0, 1) := by decide +kernel
theorem dX2_askStore_32 : decode cX2_askStore 32 = .ok (.aload_n 1, 1) := by decide +kernel
theorem dX2_askStore_33 : decode cX2_askStore 33 = .ok (.getfield 78, 3) := by decide +kernel
theorem dX2_askStore_36 : decode cX2_askStore 36 = .ok (.putfield 25, 3) := by decide +kernel
theorem dX2_askStore_39 : decode cX2_askStore 39 = .ok (.aload_n 0, 1) := by decide +kernel
theorem dX2_askStore_40 : decode cX2_askStore 40 = .ok (.aload_n 0, 1) := by decide +kernel
theorem dX2_askStore_41 : decode cX2_askStore 41 = .ok (.getfield 21, 3) := by decide +kernel
theorem dX2_askStore_44 : decode cX2_askStore 44 = .ok (.putfield 28, 3) := by decide +kernel
theorem dX2_askStore_47 : decode cX2_askStore 47 = .ok (.aload_n 0, 1) := by decide +kernel
theorem dX2_askStore_48 : decode cX2_askStore 48 = .ok (.aload_n 1, 1) := by decide +kernel
theorem dX2_askStore_49 : decode cX2_askStore 49 = .ok (.getfield 81, 3) := by decide +kernel
theorem dX2_askStore_52 : decode cX2_askStore 52 = .ok (.putfield 31, 3) := by decide +kernel
theorem dX2_askStore_55 : decode cX2_askStore 55 = .ok (.aload_n 0, 1) := by decide +kernel
theorem dX2_askStore_56 : decode cX2_askStore 56 = .ok (.aload_n 1, 1) := by decide +kernel
theorem dX2_askStore_57 : decode cX2_askStore 57 = .ok (.invokevirtual 115, 3) := by decide +kernel
theorem dX2_askStore_60 : decode cX2_askStore 60 = .ok (.aload_n 1, 1) := by decide +kernel
theorem dX2_askStore_61 : decode cX2_askStore 61 = .ok (.iconst 1, 1) := by decide +kernel
theorem dX2_askStore_62 : decode cX2_askStore 62 = .ok (.aload_n 0, 1) := by decide +kernel
theorem dX2_askStore_63 : decode cX2_askStore 63 = .ok (.getfield 21, 3) := by decide +kernel
theorem dX2_askStore_66 : decode cX2_askStore 66 = .ok (.invokevirtual 108, 3) := by decide +kernel
theorem dX2_askStore_69 : decode cX2_askStore 69 = .ok (.ireturn, 1) := by decide +kernel
theorem dX2_takeStoreProjection_0 : decode cX2_takeStoreProjection 0 = .ok (.aload_n 1, 1) := by decide +kernel
theorem dX2_takeStoreProjection_1 : decode cX2_takeStoreProjection 1 = .ok (.aload_n 0, 1) := by decide +kernel
theorem dX2_takeStoreProjection_2 : decode cX2_takeStoreProjection 2 = .ok (.getfield 21, 3) := by decide +kernel
theorem dX2_takeStoreProjection_5 : decode cX2_takeStoreProjection 5 = .ok (.putfield 119, 3) := by decide +kernel
theorem dX2_takeStoreProjection_8 : decode cX2_takeStoreProjection 8 = .ok (.aload_n 1, 1) := by decide +kernel
theorem dX2_takeStoreProjection_9 : decode cX2_takeStoreProjection 9 = .ok (.aload_n 0, 1) := by decide +kernel
theorem dX2_takeStoreProjection_10 : decode cX2_takeStoreProjection 10 = .ok (.getfield 25, 3) := by decide +kernel
theorem dX2_takeStoreProjection_13 : decode cX2_takeStoreProjection 13 = .ok (.putfield 75, 3) := by decide +kernel
theorem dX2_takeStoreProjection_16 : decode cX2_takeStoreProjection 16 = .ok (.return_, 1) := by decide +kernel
set_option maxRecDepth 20000 in
theorem ggX2_appendAt_X1_contentAt : GoodIn wsX2_appendAt wsX1_contentAt := goodIn_r _ [4, 5, 6, 7, 8, 47, 48, 49] (by decide +kernel) (by decide +kernel)
set_option maxRecDepth 20000 in
theorem gX2_appendAt_X1_contentAt_n126 : GoodIn wsX2_appendAt (wsX1_contentAt) := ggX2_appendAt_X1_contentAt
set_option maxRecDepth 20000 in
theorem ggX2_appendAt_X0_isAtHead : GoodIn wsX2_appendAt wsX0_isAtHead := goodIn_r _ [12, 13, 14, 15, 16, 17, 10, 18, 19, 35, 36, 37, 38, 39, 40, 41, 42, 43, 44, 45, 46] (by decide +kernel) (by decide +kernel)
set_option maxRecDepth 20000 in
theorem gX2_appendAt_X0_isAtHead_n150 : GoodIn wsX2_appendAt (wsX0_isAtHead) := ggX2_appendAt_X0_isAtHead
set_option maxRecDepth 20000 in
theorem ggX2_appendAt_X1_writeOnce : GoodIn wsX2_appendAt wsX1_writeOnce := goodIn_r _ [22, 5, 6, 7, 8, 47, 48, 49] (by decide +kernel) (by decide +kernel)
set_option maxRecDepth 20000 in
theorem gX2_appendAt_X1_writeOnce_n154 : GoodIn wsX2_appendAt (wsX1_writeOnce) := ggX2_appendAt_X1_writeOnce
set_option maxRecDepth 20000 in
theorem ggX2_appendAt_X0_goAlongChain : GoodIn wsX2_appendAt wsX0_goAlongChain := goodIn_r _ [25, 13, 26, 7, 27, 28, 29, 30, 10, 31, 32, 33, 34, 35, 36, 37, 38, 39, 40, 41, 42, 43, 44, 45, 46] (by decide +kernel) (by decide +kernel)
set_option maxRecDepth 20000 in
theorem gX2_appendAt_X0_goAlongChain_n158 : GoodIn wsX2_appendAt (wsX0_goAlongChain) := ggX2_appendAt_X0_goAlongChain
theorem dX2_appendAt_0 : decode cX2_appendAt 0 = .ok (.aload_n 1, 1) := by decide +kernel
theorem dX2_appendAt_1 : decode cX2_appendAt 1 = .ok (.aload_n 0, 1) := by decide +kernel
theorem dX2_appendAt_2 : decode cX2_appendAt 2 = .ok (.getfield 55, 3) := by decide +kernel
theorem dX2_appendAt_5 : decode cX2_appendAt 5 = .ok (.invokevirtual 126, 3) := by decide +kernel
theorem dX2_appendAt_8 : decode cX2_appendAt 8 = .ok (.bipush (-2), 2) := by decide +kernel
theorem dX2_appendAt_10 : decode cX2_appendAt 10 = .ok (.if_icmp .eq 7, 3) := by decide +kernel
theorem dX2_appendAt_13 : decode cX2_appendAt 13 = .ok (.iconst 1, 1) := by decide +kernel
theorem dX2_appendAt_14 : decode cX2_appendAt 14 = .ok (.goto 4, 3) := by decide +kernel
theorem dX2_appendAt_17 : decode cX2_appendAt 17 = .ok (.iconst 0, 1) := by decide +kernel
theorem dX2_appendAt_18 : decode cX2_appendAt 18 = .ok (.istore_n 2, 1) := by decide +kernel
theorem dX2_appendAt_19 : decode cX2_appendAt 19 = .ok (.iload_n 2, 1) := by decide +kernel
theorem dX2_appendAt_20 : decode cX2_appendAt 20 = .ok (.ifCond .eq 17, 3) := by decide +kernel
theorem dX2_appendAt_23 : decode cX2_appendAt 23 = .ok (.aload_n 0, 1) := by decide +kernel
theorem dX2_appendAt_24 : decode cX2_appendAt 24 = .ok (.invokevirtual 150, 3) := by decide +kernel
theorem dX2_appendAt_27 : decode cX2_appendAt 27 = .ok (.ifCond .eq 10, 3) := by decide +kernel
theorem dX2_appendAt_30 : decode cX2_appendAt 30 = .ok (.aload_n 0, 1) := by decide +kernel
theorem dX2_appendAt_31 : decode cX2_appendAt 31 = .ok (.iconst 0, 1) := by decide +kernel
theorem dX2_appendAt_32 : decode cX2_appendAt 32 = .ok (.putfield 84, 3) := by decide +kernel
theorem dX2_appendAt_35 : decode cX2_appendAt 35 = .ok (.iconst 0, 1) := by decide +kernel
theorem dX2_appendAt_36 : decode cX2_appendAt 36 = .ok (.ireturn, 1) := by decide +kernel
theorem dX2_appendAt_37 : decode cX2_appendAt 37 = .ok (.aload_n 1, 1) := by decide +kernel
theorem dX2_appendAt_38 : decode cX2_appendAt 38 = .ok (.aload_n 0, 1) := by decide +kernel
theorem dX2_appendAt_39 : decode cX2_appendAt 39 = .ok (.getfield 55, 3) := by decide +kernel
theorem dX2_appendAt_42 : decode cX2_appendAt 42 = .ok (.aload_n 0, 1) := by decide +kernel
theorem dX2_appendAt_43 : decode cX2_appendAt 43 = .ok (.getfield 44, 3) := by decide +kernel
theorem dX2_appendAt_46 : decode cX2_appendAt 46 = .ok (.invokevirtual 154, 3) := by decide +kernel
theorem dX2_appendAt_49 : decode cX2_appendAt 49 = .ok (.aload_n 0, 1) := by decide +kernel
theorem dX2_appendAt_50 : decode cX2_appendAt 50 = .ok (.aload_n 0, 1) := by decide +kernel
theorem dX2_appendAt_51 : decode cX2_appendAt 51 = .ok (.getfield 55, 3) := by decide +kernel
theorem dX2_appendAt_54 : decode cX2_appendAt 54 = .ok (.invokevirtual 158, 3) := by decide +kernel
theorem dX2_appendAt_57 : decode cX2_appendAt 57 = .ok (.ireturn, 1) := by decide +kernel
set_option maxRecDepth 20000 in
theorem ggX2_fillAt_X1_writeOnce : GoodIn wsX2_fillAt wsX1_writeOnce := goodIn_r _ [4, 5, 6, 7, 8, 47, 48, 49] (by decide +kernel) (by decide +kernel)
set_option maxRecDepth 20000 in
theorem gX2_fillAt_X1_writeOnce_n154 : GoodIn wsX2_fillAt (wsX1_writeOnce) := ggX2_fillAt_X1_writeOnce
set_option maxRecDepth 20000 in
theorem ggX2_fillAt_X0_isAtHead : GoodIn wsX2_fillAt wsX0_isAtHead := goodIn_r _ [12, 13, 14, 15, 16, 17, 10, 18, 19, 35, 36, 37, 38, 39, 40, 41, 42, 43, 44, 45, 46] (by decide +kernel) (by decide +kernel)
set_option maxRecDepth 20000 in
theorem gX2_fillAt_X0_isAtHead_n150 : GoodIn wsX2_fillAt (wsX0_isAtHead) := ggX2_fillAt_X0_isAtHead
set_option maxRecDepth 20000 in
theorem ggX2_fillAt_X1_contentAt : GoodIn wsX2_fillAt wsX1_contentAt := goodIn_r _ [22, 5, 6, 7, 8, 47, 48, 49] (by decide +kernel) (by decide +kernel)
set_option maxRecDepth 20000 in
theorem gX2_fillAt_X1_contentAt_n126 : GoodIn wsX2_fillAt (wsX1_contentAt) := ggX2_fillAt_X1_contentAt
set_option maxRecDepth 20000 in
theorem ggX2_fillAt_X0_goAlongChain : GoodIn wsX2_fillAt wsX0_goAlongChain := goodIn_r _ [25, 13, 26, 7, 27, 28, 29, 30, 10, 31, 32, 33, 34, 35, 36, 37, 38, 39, 40, 41, 42, 43, 44, 45, 46] (by decide +kernel) (by decide +kernel)
set_option maxRecDepth 20000 in
theorem gX2_fillAt_X0_goAlongChain_n158 : GoodIn wsX2_fillAt (wsX0_goAlongChain) := ggX2_fillAt_X0_goAlongChain
theorem dX2_fillAt_0 : decode cX2_fillAt 0 = .ok (.aload_n 1, 1) := by decide +kernel
theorem dX2_fillAt_1 : decode cX2_fillAt 1 = .ok (.aload_n 0, 1) := by decide +kernel
theorem dX2_fillAt_2 : decode cX2_fillAt 2 = .ok (.getfield 55, 3) := by decide +kernel
theorem dX2_fillAt_5 : decode cX2_fillAt 5 = .ok (.aload_n 0, 1) := by decide +kernel
theorem dX2_fillAt_6 : decode cX2_fillAt 6 = .ok (.getfield 44, 3) := by decide +kernel
theorem dX2_fillAt_9 : decode cX2_fillAt 9 = .ok (.invokevirtual 154, 3) := by decide +kernel
theorem dX2_fillAt_12 : decode cX2_fillAt 12 = .ok (.aload_n 0, 1) := by decide +kernel
theorem dX2_fillAt_13 : decode cX2_fillAt 13 = .ok (.invokevirtual 150, 3) := by decide +kernel
theorem dX2_fillAt_16 : decode cX2_fillAt 16 = .ok (.ifCond .eq 15, 3) := by decide +kernel
theorem dX2_fillAt_19 : decode cX2_fillAt 19 = .ok (.aload_n 0, 1) := by decide +kernel
theorem dX2_fillAt_20 : decode cX2_fillAt 20 = .ok (.aload_n 1, 1) := by decide +kernel
theorem dX2_fillAt_21 : decode cX2_fillAt 21 = .ok (.aload_n 0, 1) := by decide +kernel
theorem dX2_fillAt_22 : decode cX2_fillAt 22 = .ok (.getfield 55, 3) := by decide +kernel
theorem dX2_fillAt_25 : decode cX2_fillAt 25 = .ok (.invokevirtual 126, 3) := by decide +kernel
theorem dX2_fillAt_28 : decode cX2_fillAt 28 = .ok (.putfield 44, 3) := by decide +kernel
theorem dX2_fillAt_31 : decode cX2_fillAt 31 = .ok (.aload_n 0, 1) := by decide +kernel
theorem dX2_fillAt_32 : decode cX2_fillAt 32 = .ok (.aload_n 0, 1) := by decide +kernel
theorem dX2_fillAt_33 : decode cX2_fillAt 33 = .ok (.getfield 44, 3) := by decide +kernel
theorem dX2_fillAt_36 : decode cX2_fillAt 36 = .ok (.invokevirtual 158, 3) := by decide +kernel
theorem dX2_fillAt_39 : decode cX2_fillAt 39 = .ok (.ireturn, 1) := by decide +kernel
set_option maxRecDepth 20000 in
theorem ggX2_readAt_X1_contentAt : GoodIn wsX2_readAt wsX1_contentAt := goodIn_r _ [4, 5, 6, 7, 8, 28, 29, 30] (by decide +kernel) (by decide +kernel)
set_option maxRecDepth 20000 in
theorem gX2_readAt_X1_contentAt_n126 : GoodIn wsX2_readAt (wsX1_contentAt) := ggX2_readAt_X1_contentAt
set_option maxRecDepth 20000 in
theorem ggX2_readAt_X0_end : GoodIn wsX2_readAt wsX0_end := goodIn_r _ [12, 13, 14, 15, 16, 17, 18, 19, 20, 21, 22, 23, 24, 25, 26, 27] (by decide +kernel) (by decide +kernel)
set_option maxRecDepth 20000 in
theorem gX2_readAt_X0_end_n108 : GoodIn wsX2_readAt (wsX0_end) := ggX2_readAt_X0_end
theorem dX2_readAt_0 : decode cX2_readAt 0 = .ok (.aload_n 1, 1) := by decide +kernel
theorem dX2_readAt_1 : decode cX2_readAt 1 = .ok (.aload_n 0, 1) := by decide +kernel
theorem dX2_readAt_2 : decode cX2_readAt 2 = .ok (.getfield 55, 3) := by decide +kernel
theorem dX2_readAt_5 : decode cX2_readAt 5 = .ok (.invokevirtual 126, 3) := by decide +kernel
theorem dX2_readAt_8 : decode cX2_readAt 8 = .ok (.istore_n 2, 1) := by decide +kernel
theorem dX2_readAt_9 : decode cX2_readAt 9 = .ok (.aload_n 0, 1) := by decide +kernel
theorem dX2_readAt_10 : decode cX2_readAt 10 = .ok (.iload_n 2, 1) := by decide +kernel
theorem dX2_readAt_11 : decode cX2_readAt 11 = .ok (.bipush (-2), 2) := by decide +kernel
theorem dX2_readAt_13 : decode cX2_readAt 13 = .ok (.if_icmp .ne 7, 3) := by decide +kernel
theorem dX2_readAt_16 : decode cX2_readAt 16 = .ok (.iconst 3, 1) := by decide +kernel
theorem dX2_readAt_17 : decode cX2_readAt 17 = .ok (.goto 4, 3) := by decide +kernel
theorem dX2_readAt_20 : decode cX2_readAt 20 = .ok (.iconst 1, 1) := by decide +kernel
theorem dX2_readAt_21 : decode cX2_readAt 21 = .ok (.iload_n 2, 1) := by decide +kernel
theorem dX2_readAt_22 : decode cX2_readAt 22 = .ok (.invokevirtual 108, 3) := by decide +kernel
theorem dX2_readAt_25 : decode cX2_readAt 25 = .ok (.ireturn, 1) := by decide +kernel
set_option maxRecDepth 20000 in
theorem ggX2_replayAt_X1_contentAt : GoodIn wsX2_replayAt wsX1_contentAt := goodIn_r _ [4, 5, 6, 7, 8, 40, 41, 42] (by decide +kernel) (by decide +kernel)
set_option maxRecDepth 20000 in
theorem gX2_replayAt_X1_contentAt_n126 : GoodIn wsX2_replayAt (wsX1_contentAt) := ggX2_replayAt_X1_contentAt
set_option maxRecDepth 20000 in
theorem ggX2_replayAt_X0_end : GoodIn wsX2_replayAt wsX0_end := goodIn_r _ [12, 13, 14, 15, 28, 29, 30, 31, 32, 33, 34, 35, 36, 37, 38, 39] (by decide +kernel) (by decide +kernel)
set_option maxRecDepth 20000 in
theorem gX2_replayAt_X0_end_n108 : GoodIn wsX2_replayAt (wsX0_end) := ggX2_replayAt_X0_end
set_option maxRecDepth 20000 in
theorem ggX2_replayAt_X0_replayRoute : GoodIn wsX2_replayAt wsX0_replayRoute := goodIn_r _ [18, 19, 20, 21, 22, 23, 10, 24, 25, 26, 7, 27, 28, 29, 30, 31, 32, 33, 34, 35, 36, 37, 38, 39] (by decide +kernel) (by decide +kernel)
set_option maxRecDepth 20000 in
theorem gX2_replayAt_X0_replayRoute_n71 : GoodIn wsX2_replayAt (wsX0_replayRoute) := ggX2_replayAt_X0_replayRoute
theorem dX2_replayAt_0 : decode cX2_replayAt 0 = .ok (.aload_n 1, 1) := by decide +kernel
theorem dX2_replayAt_1 : decode cX2_replayAt 1 = .ok (.aload_n 0, 1) := by decide +kernel
theorem dX2_replayAt_2 : decode cX2_replayAt 2 = .ok (.getfield 55, 3) := by decide +kernel
theorem dX2_replayAt_5 : decode cX2_replayAt 5 = .ok (.invokevirtual 126, 3) := by decide +kernel
theorem dX2_replayAt_8 : decode cX2_replayAt 8 = .ok (.istore_n 2, 1) := by decide +kernel
theorem dX2_replayAt_9 : decode cX2_replayAt 9 = .ok (.iload_n 2, 1) := by decide +kernel
theorem dX2_replayAt_10 : decode cX2_replayAt 10 = .ok (.bipush (-2), 2) := by decide +kernel
theorem dX2_replayAt_12 : decode cX2_replayAt 12 = .ok (.if_icmp .ne 13, 3) := by decide +kernel
theorem dX2_replayAt_15 : decode cX2_replayAt 15 = .ok (.aload_n 0, 1) := by decide +kernel
theorem dX2_replayAt_16 : decode cX2_replayAt 16 = .ok (.iconst 3, 1) := by decide +kernel
theorem dX2_replayAt_17 : decode cX2_replayAt 17 = .ok (.aload_n 0, 1) := by decide +kernel
theorem dX2_replayAt_18 : decode cX2_replayAt 18 = .ok (.getfield 55, 3) := by decide +kernel
theorem dX2_replayAt_21 : decode cX2_replayAt 21 = .ok (.invokevirtual 108, 3) := by decide +kernel
theorem dX2_replayAt_24 : decode cX2_replayAt 24 = .ok (.ireturn, 1) := by decide +kernel
theorem dX2_replayAt_25 : decode cX2_replayAt 25 = .ok (.iload_n 2, 1) := by decide +kernel
theorem dX2_replayAt_26 : decode cX2_replayAt 26 = .ok (.iconst (-1), 1) := by decide +kernel
theorem dX2_replayAt_27 : decode cX2_replayAt 27 = .ok (.if_icmp .eq 16, 3) := by decide +kernel
theorem dX2_replayAt_30 : decode cX2_replayAt 30 = .ok (.aload_n 0, 1) := by decide +kernel
theorem dX2_replayAt_31 : decode cX2_replayAt 31 = .ok (.aload_n 0, 1) := by decide +kernel
theorem dX2_replayAt_32 : decode cX2_replayAt 32 = .ok (.getfield 68, 3) := by decide +kernel
theorem dX2_replayAt_35 : decode cX2_replayAt 35 = .ok (.bipush 31, 2) := by decide +kernel
theorem dX2_replayAt_37 : decode cX2_replayAt 37 = .ok (.imul, 1) := by decide +kernel
theorem dX2_replayAt_38 : decode cX2_replayAt 38 = .ok (.iload_n 2, 1) := by decide +kernel
theorem dX2_replayAt_39 : decode cX2_replayAt 39 = .ok (.iadd, 1) := by decide +kernel
theorem dX2_replayAt_40 : decode cX2_replayAt 40 = .ok (.putfield 68, 3) := by decide +kernel
theorem dX2_replayAt_43 : decode cX2_replayAt 43 = .ok (.aload_n 0, 1) := by decide +kernel
theorem dX2_replayAt_44 : decode cX2_replayAt 44 = .ok (.dup, 1) := by decide +kernel
theorem dX2_replayAt_45 : decode cX2_replayAt 45 = .ok (.getfield 55, 3) := by decide +kernel
theorem dX2_replayAt_48 : decode cX2_replayAt 48 = .ok (.iconst 1, 1) := by decide +kernel
theorem dX2_replayAt_49 : decode cX2_replayAt 49 = .ok (.iadd, 1) := by decide +kernel
theorem dX2_replayAt_50 : decode cX2_replayAt 50 = .ok (.putfield 55, 3) := by decide +kernel
theorem dX2_replayAt_53 : decode cX2_replayAt 53 = .ok (.aload_n 0, 1) := by decide +kernel
theorem dX2_replayAt_54 : decode cX2_replayAt 54 = .ok (.aload_n 0, 1) := by decide +kernel
theorem dX2_replayAt_55 : decode cX2_replayAt 55 = .ok (.invokevirtual 71, 3) := by decide +kernel
theorem dX2_replayAt_58 : decode cX2_replayAt 58 = .ok (.putfield 84, 3) := by decide +kernel
theorem dX2_replayAt_61 : decode cX2_replayAt 61 = .ok (.iconst 0, 1) := by decide +kernel
theorem dX2_replayAt_62 : decode cX2_replayAt 62 = .ok (.ireturn, 1) := by decide +kernel
set_option maxRecDepth 20000 in
theorem ggX2_sealAt_X1_endOfWritten : GoodIn wsX2_sealAt wsX1_endOfWritten := goodIn_r _ [8, 9, 26, 27, 28] (by decide +kernel) (by decide +kernel)
set_option maxRecDepth 20000 in
theorem gX2_sealAt_X1_endOfWritten_n161 : GoodIn wsX2_sealAt (wsX1_endOfWritten) := ggX2_sealAt_X1_endOfWritten
set_option maxRecDepth 20000 in
theorem ggX2_sealAt_X2_withoutLowest : GoodIn wsX2_sealAt wsX2_withoutLowest := goodIn_r _ [13] (by decide +kernel) (by decide +kernel)
set_option maxRecDepth 20000 in
theorem gX2_sealAt_X2_withoutLowest : GoodIn wsX2_sealAt (va_wsS RX2 169 yX2_withoutLowest wsX2_withoutLowest) := goodIn_app (goodIn_of _ (by decide +kernel)) ggX2_sealAt_X2_withoutLowest
theorem dX2_sealAt_0 : decode cX2_sealAt 0 = .ok (.aload_n 1, 1) := by decide +kernel
theorem dX2_sealAt_1 : decode cX2_sealAt 1 = .ok (.aload_n 0, 1) := by decide +kernel
theorem dX2_sealAt_2 : decode cX2_sealAt 2 = .ok (.getfield 119, 3) := by decide +kernel
theorem dX2_sealAt_5 : decode cX2_sealAt 5 = .ok (.iconst 1, 1) := by decide +kernel
theorem dX2_sealAt_6 : decode cX2_sealAt 6 = .ok (.iadd, 1) := by decide +kernel
theorem dX2_sealAt_7 : decode cX2_sealAt 7 = .ok (.putfield 102, 3) := by decide +kernel
theorem dX2_sealAt_10 : decode cX2_sealAt 10 = .ok (.aload_n 0, 1) := by decide +kernel
theorem dX2_sealAt_11 : decode cX2_sealAt 11 = .ok (.aload_n 0, 1) := by decide +kernel
theorem dX2_sealAt_12 : decode cX2_sealAt 12 = .ok (.getfield 81, 3) := by decide +kernel
theorem dX2_sealAt_15 : decode cX2_sealAt 15 = .ok (.aload_n 1, 1) := by decide +kernel
theorem dX2_sealAt_16 : decode cX2_sealAt 16 = .ok (.invokevirtual 161, 3) := by decide +kernel
theorem dX2_sealAt_19 : decode cX2_sealAt 19 = .ok (.invokestatic 164, 3) := by decide +kernel
theorem dX2_sealAt_22 : decode cX2_sealAt 22 = .ok (.putfield 81, 3) := by decide +kernel
theorem dX2_sealAt_25 : decode cX2_sealAt 25 = .ok (.aload_n 0, 1) := by decide +kernel
theorem dX2_sealAt_26 : decode cX2_sealAt 26 = .ok (.aload_n 0, 1) := by decide +kernel
theorem dX2_sealAt_27 : decode cX2_sealAt 27 = .ok (.getfield 84, 3) := by decide +kernel
theorem dX2_sealAt_30 : decode cX2_sealAt 30 = .ok (.invokestatic 169, 3) := by decide +kernel
theorem dX2_sealAt_33 : decode cX2_sealAt 33 = .ok (.putfield 84, 3) := by decide +kernel
theorem dX2_sealAt_36 : decode cX2_sealAt 36 = .ok (.iconst 0, 1) := by decide +kernel
theorem dX2_sealAt_37 : decode cX2_sealAt 37 = .ok (.ireturn, 1) := by decide +kernel
end
section
theorem dX3_init_0 : decode cX3_init 0 = .ok (.aload_n 0, 1) := by decide +kernel
theorem dX3_init_1 : decode cX3_init 1 = .ok (.invokespecial 1, 3) := by decide +kernel
theorem dX3_init_4 : decode cX3_init 4 = .ok (.aload_n 0, 1) := by decide +kernel
theorem dX3_init_5 : decode cX3_init 5 = .ok (.sipush 192, 3) := by decide +kernel
theorem dX3_init_8 : decode cX3_init 8 = .ok (.newarray .int, 2) := by decide +kernel
theorem dX3_init_10 : decode cX3_init 10 = .ok (.putfield 7, 3) := by decide +kernel
theorem dX3_init_13 : decode cX3_init 13 = .ok (.aload_n 0, 1) := by decide +kernel
theorem dX3_init_14 : decode cX3_init 14 = .ok (.sipush 192, 3) := by decide +kernel
theorem dX3_init_17 : decode cX3_init 17 = .ok (.newarray .int, 2) := by decide +kernel
theorem dX3_init_19 : decode cX3_init 19 = .ok (.putfield 13, 3) := by decide +kernel
theorem dX3_init_22 : decode cX3_init 22 = .ok (.aload_n 0, 1) := by decide +kernel
theorem dX3_init_23 : decode cX3_init 23 = .ok (.sipush 192, 3) := by decide +kernel
theorem dX3_init_26 : decode cX3_init 26 = .ok (.newarray .int, 2) := by decide +kernel
theorem dX3_init_28 : decode cX3_init 28 = .ok (.putfield 16, 3) := by decide +kernel
theorem dX3_init_31 : decode cX3_init 31 = .ok (.aload_n 0, 1) := by decide +kernel
theorem dX3_init_32 : decode cX3_init 32 = .ok (.bipush 6, 2) := by decide +kernel
theorem dX3_init_34 : decode cX3_init 34 = .ok (.newarray .int, 2) := by decide +kernel
theorem dX3_init_36 : decode cX3_init 36 = .ok (.putfield 19, 3) := by decide +kernel
theorem dX3_init_39 : decode cX3_init 39 = .ok (.aload_n 0, 1) := by decide +kernel
theorem dX3_init_40 : decode cX3_init 40 = .ok (.bipush 6, 2) := by decide +kernel
theorem dX3_init_42 : decode cX3_init 42 = .ok (.newarray .int, 2) := by decide +kernel
theorem dX3_init_44 : decode cX3_init 44 = .ok (.putfield 22, 3) := by decide +kernel
theorem dX3_init_47 : decode cX3_init 47 = .ok (.aload_n 0, 1) := by decide +kernel
theorem dX3_init_48 : decode cX3_init 48 = .ok (.iconst 3, 1) := by decide +kernel
theorem dX3_init_49 : decode cX3_init 49 = .ok (.newarray .int, 2) := by decide +kernel
theorem dX3_init_51 : decode cX3_init 51 = .ok (.putfield 25, 3) := by decide +kernel
theorem dX3_init_54 : decode cX3_init 54 = .ok (.aload_n 0, 1) := by decide +kernel
theorem dX3_init_55 : decode cX3_init 55 = .ok (.iconst 3, 1) := by decide +kernel
theorem dX3_init_56 : decode cX3_init 56 = .ok (.newarray .int, 2) := by decide +kernel
theorem dX3_init_58 : decode cX3_init 58 = .ok (.putfield 28, 3) := by decide +kernel
theorem dX3_init_61 : decode cX3_init 61 = .ok (.aload_n 0, 1) := by decide +kernel
theorem dX3_init_62 : decode cX3_init 62 = .ok (.iconst 3, 1) := by decide +kernel
theorem dX3_init_63 : decode cX3_init 63 = .ok (.newarray .int, 2) := by decide +kernel
theorem dX3_init_65 : decode cX3_init 65 = .ok (.putfield 31, 3) := by decide +kernel
theorem dX3_init_68 : decode cX3_init 68 = .ok (.aload_n 0, 1) := by decide +kernel
theorem dX3_init_69 : decode cX3_init 69 = .ok (.iconst 3, 1) := by decide +kernel
theorem dX3_init_70 : decode cX3_init 70 = .ok (.newarray .int, 2) := by decide +kernel
theorem dX3_init_72 : decode cX3_init 72 = .ok (.putfield 34, 3) := by decide +kernel
theorem dX3_init_75 : decode cX3_init 75 = .ok (.aload_n 0, 1) := by decide +kernel
theorem dX3_init_76 : decode cX3_init 76 = .ok (.iconst 3, 1) := by decide +kernel
theorem dX3_init_77 : decode cX3_init 77 = .ok (.newarray .int, 2) := by decide +kernel
theorem dX3_init_79 : decode cX3_init 79 = .ok (.putfield 37, 3) := by decide +kernel
theorem dX3_init_82 : decode cX3_init 82 = .ok (.aload_n 0, 1) := by decide +kernel
theorem dX3_init_83 : decode cX3_init 83 = .ok (.iconst 3, 1) := by decide +kernel
theorem dX3_init_84 : decode cX3_init 84 = .ok (.newarray .int, 2) := by decide +kernel
theorem dX3_init_86 : decode cX3_init 86 = .ok (.putfield 40, 3) := by decide +kernel
theorem dX3_init_89 : decode cX3_init 89 = .ok (.aload_n 0, 1) := by decide +kernel
theorem dX3_init_90 : decode cX3_init 90 = .ok (.iconst 3, 1) := by decide +kernel
theorem dX3_init_91 : decode cX3_init 91 = .ok (.newarray .int, 2) := by decide +kernel
theorem dX3_init_93 : decode cX3_init 93 = .ok (.putfield 43, 3) := by decide +kernel
theorem dX3_init_96 : decode cX3_init 96 = .ok (.aload_n 0, 1) := by decide +kernel
theorem dX3_init_97 : decode cX3_init 97 = .ok (.iconst 3, 1) := by decide +kernel
theorem dX3_init_98 : decode cX3_init 98 = .ok (.newarray .int, 2) := by decide +kernel
theorem dX3_init_100 : decode cX3_init 100 = .ok (.putfield 46, 3) := by decide +kernel
theorem dX3_init_103 : decode cX3_init 103 = .ok (.aload_n 0, 1) := by decide +kernel
theorem dX3_init_104 : decode cX3_init 104 = .ok (.iconst 3, 1) := by decide +kernel
theorem dX3_init_105 : decode cX3_init 105 = .ok (.newarray .int, 2) := by decide +kernel
theorem dX3_init_107 : decode cX3_init 107 = .ok (.putfield 49, 3) := by decide +kernel
theorem dX3_init_110 : decode cX3_init 110 = .ok (.aload_n 0, 1) := by decide +kernel
theorem dX3_init_111 : decode cX3_init 111 = .ok (.bipush 63, 2) := by decide +kernel
theorem dX3_init_113 : decode cX3_init 113 = .ok (.putfield 52, 3) := by decide +kernel
theorem dX3_init_116 : decode cX3_init 116 = .ok (.iconst 0, 1) := by decide +kernel
theorem dX3_init_117 : decode cX3_init 117 = .ok (.istore_n 1, 1) := by decide +kernel
theorem dX3_init_118 : decode cX3_init 118 = .ok (.iload_n 1, 1) := by decide +kernel
theorem dX3_init_119 : decode cX3_init 119 = .ok (.iconst 3, 1) := by decide +kernel
theorem dX3_init_120 : decode cX3_init 120 = .ok (.if_icmp .ge 17, 3) := by decide +kernel
theorem dX3_init_123 : decode cX3_init 123 = .ok (.aload_n 0, 1) := by decide +kernel
theorem dX3_init_124 : decode cX3_init 124 = .ok (.getfield 31, 3) := by decide +kernel
theorem dX3_init_127 : decode cX3_init 127 = .ok (.iload_n 1, 1) := by decide +kernel
theorem dX3_init_128 : decode cX3_init 128 = .ok (.bipush 63, 2) := by decide +kernel
theorem dX3_init_130 : decode cX3_init 130 = .ok (.iastore, 1) := by decide +kernel
theorem dX3_init_131 : decode cX3_init 131 = .ok (.iinc 1 1, 3) := by decide +kernel
theorem dX3_init_134 : decode cX3_init 134 = .ok (.goto (-16), 3) := by decide +kernel
theorem dX3_init_137 : decode cX3_init 137 = .ok (.return_, 1) := by decide +kernel
theorem dX3_look_0 : decode cX3_look 0 = .ok (.iconst 0, 1) := by decide +kernel
theorem dX3_look_1 : decode cX3_look 1 = .ok (.istore_n 3, 1) := by decide +kernel
theorem dX3_look_2 : decode cX3_look 2 = .ok (.iload_n 3, 1) := by decide +kernel
theorem dX3_look_3 : decode cX3_look 3 = .ok (.aload_n 0, 1) := by decide +kernel
theorem dX3_look_4 : decode cX3_look 4 = .ok (.getfield 56, 3) := by decide +kernel
theorem dX3_look_7 : decode cX3_look 7 = .ok (.if_icmp .ge 36, 3) := by decide +kernel
theorem dX3_look_10 : decode cX3_look 10 = .ok (.aload_n 0, 1) := by decide +kernel
theorem dX3_look_11 : decode cX3_look 11 = .ok (.getfield 7, 3) := by decide +kernel
theorem dX3_look_14 : decode cX3_look 14 = .ok (.iload_n 3, 1) := by decide +kernel
theorem dX3_look_15 : decode cX3_look 15 = .ok (.iaload, 1) := by decide +kernel
theorem dX3_look_16 : decode cX3_look 16 = .ok (.iload_n 1, 1) := by decide +kernel
theorem dX3_look_17 : decode cX3_look 17 = .ok (.if_icmp .ne 20, 3) := by decide +kernel
theorem dX3_look_20 : decode cX3_look 20 = .ok (.aload_n 0, 1) := by decide +kernel
theorem dX3_look_21 : decode cX3_look 21 = .ok (.getfield 13, 3) := by decide +kernel
theorem dX3_look_24 : decode cX3_look 24 = .ok (.iload_n 3, 1) := by decide +kernel
theorem dX3_look_25 : decode cX3_look 25 = .ok (.iaload, 1) := by decide +kernel
theorem dX3_look_26 : decode cX3_look 26 = .ok (.iload_n 2, 1) := by decide +kernel
theorem dX3_look_27 : decode cX3_look 27 = .ok (.if_icmp .ne 10, 3) := by decide +kernel
theorem dX3_look_30 : decode cX3_look 30 = .ok (.aload_n 0, 1) := by decide +kernel
theorem dX3_look_31 : decode cX3_look 31 = .ok (.getfield 16, 3) := by decide +kernel
theorem dX3_look_34 : decode cX3_look 34 = .ok (.iload_n 3, 1) := by decide +kernel
theorem dX3_look_35 : decode cX3_look 35 = .ok (.iaload, 1) := by decide +kernel
theorem dX3_look_36 : decode cX3_look 36 = .ok (.ireturn, 1) := by decide +kernel
theorem dX3_look_37 : decode cX3_look 37 = .ok (.iinc 3 1, 3) := by decide +kernel
theorem dX3_look_40 : decode cX3_look 40 = .ok (.goto (-38), 3) := by decide +kernel
theorem dX3_look_43 : decode cX3_look 43 = .ok (.bipush (-2), 2) := by decide +kernel
theorem dX3_look_45 : decode cX3_look 45 = .ok (.ireturn, 1) := by decide +kernel
theorem dX3_put_0 : decode cX3_put 0 = .ok (.aload_n 0, 1) := by decide +kernel
theorem dX3_put_1 : decode cX3_put 1 = .ok (.getfield 7, 3) := by decide +kernel
theorem dX3_put_4 : decode cX3_put 4 = .ok (.aload_n 0, 1) := by decide +kernel
theorem dX3_put_5 : decode cX3_put 5 = .ok (.getfield 56, 3) := by decide +kernel
theorem dX3_put_8 : decode cX3_put 8 = .ok (.iload_n 1, 1) := by decide +kernel
theorem dX3_put_9 : decode cX3_put 9 = .ok (.iastore, 1) := by decide +kernel
theorem dX3_put_10 : decode cX3_put 10 = .ok (.aload_n 0, 1) := by decide +kernel
theorem dX3_put_11 : decode cX3_put 11 = .ok (.getfield 13, 3) := by decide +kernel
theorem dX3_put_14 : decode cX3_put 14 = .ok (.aload_n 0, 1) := by decide +kernel
theorem dX3_put_15 : decode cX3_put 15 = .ok (.getfield 56, 3) := by decide +kernel
theorem dX3_put_18 : decode cX3_put 18 = .ok (.iload_n 2, 1) := by decide +kernel
theorem dX3_put_19 : decode cX3_put 19 = .ok (.iastore, 1) := by decide +kernel
theorem dX3_put_20 : decode cX3_put 20 = .ok (.aload_n 0, 1) := by decide +kernel
theorem dX3_put_21 : decode cX3_put 21 = .ok (.getfield 16, 3) := by decide +kernel
theorem dX3_put_24 : decode cX3_put 24 = .ok (.aload_n 0, 1) := by decide +kernel
theorem dX3_put_25 : decode cX3_put 25 = .ok (.getfield 56, 3) := by decide +kernel
theorem dX3_put_28 : decode cX3_put 28 = .ok (.iload_n 3, 1) := by decide +kernel
theorem dX3_put_29 : decode cX3_put 29 = .ok (.iastore, 1) := by decide +kernel
theorem dX3_put_30 : decode cX3_put 30 = .ok (.aload_n 0, 1) := by decide +kernel
theorem dX3_put_31 : decode cX3_put 31 = .ok (.aload_n 0, 1) := by decide +kernel
theorem dX3_put_32 : decode cX3_put 32 = .ok (.getfield 56, 3) := by decide +kernel
theorem dX3_put_35 : decode cX3_put 35 = .ok (.iconst 1, 1) := by decide +kernel
theorem dX3_put_36 : decode cX3_put 36 = .ok (.iadd, 1) := by decide +kernel
theorem dX3_put_37 : decode cX3_put 37 = .ok (.putfield 56, 3) := by decide +kernel
theorem dX3_put_40 : decode cX3_put 40 = .ok (.return_, 1) := by decide +kernel
theorem dX3_nth_0 : decode cX3_nth 0 = .ok (.iconst 0, 1) := by decide +kernel
theorem dX3_nth_1 : decode cX3_nth 1 = .ok (.istore_n 3, 1) := by decide +kernel
theorem dX3_nth_2 : decode cX3_nth 2 = .ok (.iconst 0, 1) := by decide +kernel
theorem dX3_nth_3 : decode cX3_nth 3 = .ok (.istore 4, 2) := by decide +kernel
theorem dX3_nth_5 : decode cX3_nth 5 = .ok (.iload 4, 2) := by decide +kernel
theorem dX3_nth_7 : decode cX3_nth 7 = .ok (.bipush 6, 2) := by decide +kernel
theorem dX3_nth_9 : decode cX3_nth 9 = .ok (.if_icmp .ge 44, 3) := by decide +kernel
theorem dX3_nth_12 : decode cX3_nth 12 = .ok (.iload_n 0, 1) := by decide +kernel
theorem dX3_nth_13 : decode cX3_nth 13 = .ok (.iload 4, 2) := by decide +kernel
theorem dX3_nth_15 : decode cX3_nth 15 = .ok (.iushr, 1) := by decide +kernel
theorem dX3_nth_16 : decode cX3_nth 16 = .ok (.iconst 1, 1) := by decide +kernel
theorem dX3_nth_17 : decode cX3_nth 17 = .ok (.iand, 1) := by decide +kernel
theorem dX3_nth_18 : decode cX3_nth 18 = .ok (.iconst 1, 1) := by decide +kernel
theorem dX3_nth_19 : decode cX3_nth 19 = .ok (.if_icmp .ne 28, 3) := by decide +kernel
theorem dX3_nth_22 : decode cX3_nth 22 = .ok (.iload_n 1, 1) := by decide +kernel
theorem dX3_nth_23 : decode cX3_nth 23 = .ok (.iconst 2, 1) := by decide +kernel
theorem dX3_nth_24 : decode cX3_nth 24 = .ok (.if_icmp .eq 11, 3) := by decide +kernel
theorem dX3_nth_27 : decode cX3_nth 27 = .ok (.iload 4, 2) := by decide +kernel
theorem dX3_nth_29 : decode cX3_nth 29 = .ok (.iconst 2, 1) := by decide +kernel
theorem dX3_nth_30 : decode cX3_nth 30 = .ok (.irem, 1) := by decide +kernel
theorem dX3_nth_31 : decode cX3_nth 31 = .ok (.iload_n 1, 1) := by decide +kernel
theorem dX3_nth_32 : decode cX3_nth 32 = .ok (.if_icmp .ne 15, 3) := by decide +kernel
theorem dX3_nth_35 : decode cX3_nth 35 = .ok (.iload_n 3, 1) := by decide +kernel
theorem dX3_nth_36 : decode cX3_nth 36 = .ok (.iload_n 2, 1) := by decide +kernel
theorem dX3_nth_37 : decode cX3_nth 37 = .ok (.if_icmp .ne 6, 3) := by decide +kernel
theorem dX3_nth_40 : decode cX3_nth 40 = .ok (.iload 4, 2) := by decide +kernel
theorem dX3_nth_42 : decode cX3_nth 42 = .ok (.ireturn, 1) := by decide +kernel
theorem dX3_nth_43 : decode cX3_nth 43 = .ok (.iload_n 3, 1) := by decide +kernel
theorem dX3_nth_44 : decode cX3_nth 44 = .ok (.iconst 1, 1) := by decide +kernel
theorem dX3_nth_45 : decode cX3_nth 45 = .ok (.iadd, 1) := by decide +kernel
theorem dX3_nth_46 : decode cX3_nth 46 = .ok (.istore_n 3, 1) := by decide +kernel
theorem dX3_nth_47 : decode cX3_nth 47 = .ok (.iinc 4 1, 3) := by decide +kernel
theorem dX3_nth_50 : decode cX3_nth 50 = .ok (.goto (-45), 3) := by decide +kernel
theorem dX3_nth_53 : decode cX3_nth 53 = .ok (.iconst (-1), 1) := by decide +kernel
theorem dX3_nth_54 : decode cX3_nth 54 = .ok (.ireturn, 1) := by decide +kernel
theorem dX3_length_0 : decode cX3_length 0 = .ok (.iconst 0, 1) := by decide +kernel
theorem dX3_length_1 : decode cX3_length 1 = .ok (.istore_n 2, 1) := by decide +kernel
theorem dX3_length_2 : decode cX3_length 2 = .ok (.iconst 0, 1) := by decide +kernel
theorem dX3_length_3 : decode cX3_length 3 = .ok (.istore_n 3, 1) := by decide +kernel
theorem dX3_length_4 : decode cX3_length 4 = .ok (.iload_n 3, 1) := by decide +kernel
theorem dX3_length_5 : decode cX3_length 5 = .ok (.bipush 6, 2) := by decide +kernel
theorem dX3_length_7 : decode cX3_length 7 = .ok (.if_icmp .ge 29, 3) := by decide +kernel
theorem dX3_length_10 : decode cX3_length 10 = .ok (.iload_n 0, 1) := by decide +kernel
theorem dX3_length_11 : decode cX3_length 11 = .ok (.iload_n 3, 1) := by decide +kernel
theorem dX3_length_12 : decode cX3_length 12 = .ok (.iushr, 1) := by decide +kernel
theorem dX3_length_13 : decode cX3_length 13 = .ok (.iconst 1, 1) := by decide +kernel
theorem dX3_length_14 : decode cX3_length 14 = .ok (.iand, 1) := by decide +kernel
theorem dX3_length_15 : decode cX3_length 15 = .ok (.iconst 1, 1) := by decide +kernel
theorem dX3_length_16 : decode cX3_length 16 = .ok (.if_icmp .ne 14, 3) := by decide +kernel
theorem dX3_length_19 : decode cX3_length 19 = .ok (.iload_n 3, 1) := by decide +kernel
theorem dX3_length_20 : decode cX3_length 20 = .ok (.iconst 2, 1) := by decide +kernel
theorem dX3_length_21 : decode cX3_length 21 = .ok (.irem, 1) := by decide +kernel
theorem dX3_length_22 : decode cX3_length 22 = .ok (.iload_n 1, 1) := by decide +kernel
theorem dX3_length_23 : decode cX3_length 23 = .ok (.if_icmp .ne 7, 3) := by decide +kernel
theorem dX3_length_26 : decode cX3_length 26 = .ok (.iload_n 2, 1) := by decide +kernel
theorem dX3_length_27 : decode cX3_length 27 = .ok (.iconst 1, 1) := by decide +kernel
theorem dX3_length_28 : decode cX3_length 28 = .ok (.iadd, 1) := by decide +kernel
theorem dX3_length_29 : decode cX3_length 29 = .ok (.istore_n 2, 1) := by decide +kernel
theorem dX3_length_30 : decode cX3_length 30 = .ok (.iinc 3 1, 3) := by decide +kernel
theorem dX3_length_33 : decode cX3_length 33 = .ok (.goto (-29), 3) := by decide +kernel
theorem dX3_length_36 : decode cX3_length 36 = .ok (.iload_n 2, 1) := by decide +kernel
theorem dX3_length_37 : decode cX3_length 37 = .ok (.ireturn, 1) := by decide +kernel
theorem dX3_begin_0 : decode cX3_begin 0 = .ok (.iload_n 1, 1) := by decide +kernel
theorem dX3_begin_1 : decode cX3_begin 1 = .ok (.ifCond .lt 8, 3) := by decide +kernel
theorem dX3_begin_4 : decode cX3_begin 4 = .ok (.iload_n 1, 1) := by decide +kernel
theorem dX3_begin_5 : decode cX3_begin 5 = .ok (.iconst 2, 1) := by decide +kernel
theorem dX3_begin_6 : decode cX3_begin 6 = .ok (.if_icmp .le 5, 3) := by decide +kernel
theorem dX3_begin_9 : decode cX3_begin 9 = .ok (.iconst (-1), 1) := by decide +kernel
theorem dX3_begin_10 : decode cX3_begin 10 = .ok (.ireturn, 1) := by decide +kernel
theorem dX3_begin_11 : decode cX3_begin 11 = .ok (.aload_n 0, 1) := by decide +kernel
theorem dX3_begin_12 : decode cX3_begin 12 = .ok (.getfield 25, 3) := by decide +kernel
theorem dX3_begin_15 : decode cX3_begin 15 = .ok (.iload_n 1, 1) := by decide +kernel
theorem dX3_begin_16 : decode cX3_begin 16 = .ok (.iaload, 1) := by decide +kernel
theorem dX3_begin_17 : decode cX3_begin 17 = .ok (.ifCond .eq 6, 3) := by decide +kernel
theorem dX3_begin_20 : decode cX3_begin 20 = .ok (.bipush (-2), 2) := by decide +kernel
theorem dX3_begin_22 : decode cX3_begin 22 = .ok (.ireturn, 1) := by decide +kernel
theorem dX3_begin_23 : decode cX3_begin 23 = .ok (.iload_n 3, 1) := by decide +kernel
theorem dX3_begin_24 : decode cX3_begin 24 = .ok (.ifCond .ne 6, 3) := by decide +kernel
theorem dX3_begin_27 : decode cX3_begin 27 = .ok (.bipush (-3), 2) := by decide +kernel
theorem dX3_begin_29 : decode cX3_begin 29 = .ok (.ireturn, 1) := by decide +kernel
theorem dX3_begin_30 : decode cX3_begin 30 = .ok (.aload_n 0, 1) := by decide +kernel
theorem dX3_begin_31 : decode cX3_begin 31 = .ok (.getfield 25, 3) := by decide +kernel
theorem dX3_begin_34 : decode cX3_begin 34 = .ok (.iload_n 1, 1) := by decide +kernel
theorem dX3_begin_35 : decode cX3_begin 35 = .ok (.iload_n 2, 1) := by decide +kernel
theorem dX3_begin_36 : decode cX3_begin 36 = .ok (.iastore, 1) := by decide +kernel
theorem dX3_begin_37 : decode cX3_begin 37 = .ok (.aload_n 0, 1) := by decide +kernel
theorem dX3_begin_38 : decode cX3_begin 38 = .ok (.getfield 34, 3) := by decide +kernel
theorem dX3_begin_41 : decode cX3_begin 41 = .ok (.iload_n 1, 1) := by decide +kernel
theorem dX3_begin_42 : decode cX3_begin 42 = .ok (.iconst 0, 1) := by decide +kernel
theorem dX3_begin_43 : decode cX3_begin 43 = .ok (.iastore, 1) := by decide +kernel
theorem dX3_begin_44 : decode cX3_begin 44 = .ok (.aload_n 0, 1) := by decide +kernel
theorem dX3_begin_45 : decode cX3_begin 45 = .ok (.getfield 37, 3) := by decide +kernel
theorem dX3_begin_48 : decode cX3_begin 48 = .ok (.iload_n 1, 1) := by decide +kernel
theorem dX3_begin_49 : decode cX3_begin 49 = .ok (.iconst 0, 1) := by decide +kernel
theorem dX3_begin_50 : decode cX3_begin 50 = .ok (.iastore, 1) := by decide +kernel
theorem dX3_begin_51 : decode cX3_begin 51 = .ok (.aload_n 0, 1) := by decide +kernel
theorem dX3_begin_52 : decode cX3_begin 52 = .ok (.getfield 46, 3) := by decide +kernel
theorem dX3_begin_55 : decode cX3_begin 55 = .ok (.iload_n 1, 1) := by decide +kernel
theorem dX3_begin_56 : decode cX3_begin 56 = .ok (.iconst 0, 1) := by decide +kernel
theorem dX3_begin_57 : decode cX3_begin 57 = .ok (.iastore, 1) := by decide +kernel
theorem dX3_begin_58 : decode cX3_begin 58 = .ok (.aload_n 0, 1) := by decide +kernel
theorem dX3_begin_59 : decode cX3_begin 59 = .ok (.getfield 43, 3) := by decide +kernel
theorem dX3_begin_62 : decode cX3_begin 62 = .ok (.iload_n 1, 1) := by decide +kernel
theorem dX3_begin_63 : decode cX3_begin 63 = .ok (.iconst 0, 1) := by decide +kernel
theorem dX3_begin_64 : decode cX3_begin 64 = .ok (.iastore, 1) := by decide +kernel
theorem dX3_begin_65 : decode cX3_begin 65 = .ok (.aload_n 0, 1) := by decide +kernel
theorem dX3_begin_66 : decode cX3_begin 66 = .ok (.getfield 40, 3) := by decide +kernel
theorem dX3_begin_69 : decode cX3_begin 69 = .ok (.iload_n 1, 1) := by decide +kernel
theorem dX3_begin_70 : decode cX3_begin 70 = .ok (.iconst 0, 1) := by decide +kernel
theorem dX3_begin_71 : decode cX3_begin 71 = .ok (.iastore, 1) := by decide +kernel
theorem dX3_begin_72 : decode cX3_begin 72 = .ok (.iconst 0, 1) := by decide +kernel
theorem dX3_begin_73 : decode cX3_begin 73 = .ok (.ireturn, 1) := by decide +kernel
set_option maxRecDepth 20000 in
theorem ggX3_append_X3_begin : GoodIn wsX3_append wsX3_begin := goodIn_r _ [8, 9, 10, 11, 12, 2, 3, 13, 14, 15, 16, 17, 18, 19, 20, 21, 22, 23, 24, 25, 26, 27, 28, 29, 30, 31] (by decide +kernel) (by decide +kernel)
set_option maxRecDepth 20000 in
theorem gX3_append_X3_begin : GoodIn wsX3_append (wsV RX3 60 RX3 yX3_begin wsX3_begin) := goodIn_app (goodIn_of _ (by decide +kernel)) ggX3_append_X3_begin
theorem dX3_append_0 : decode cX3_append 0 = .ok (.aload_n 0, 1) := by decide +kernel
theorem dX3_append_1 : decode cX3_append 1 = .ok (.iload_n 1, 1) := by decide +kernel
theorem dX3_append_2 : decode cX3_append 2 = .ok (.iconst 1, 1) := by decide +kernel
theorem dX3_append_3 : decode cX3_append 3 = .ok (.iload_n 2, 1) := by decide +kernel
theorem dX3_append_4 : decode cX3_append 4 = .ok (.ifCond .lt 13, 3) := by decide +kernel
theorem dX3_append_7 : decode cX3_append 7 = .ok (.iload_n 2, 1) := by decide +kernel
theorem dX3_append_8 : decode cX3_append 8 = .ok (.ldc 59, 2) := by decide +kernel
theorem dX3_append_10 : decode cX3_append 10 = .ok (.if_icmp .gt 7, 3) := by decide +kernel
theorem dX3_append_13 : decode cX3_append 13 = .ok (.iconst 1, 1) := by decide +kernel
theorem dX3_append_14 : decode cX3_append 14 = .ok (.goto 4, 3) := by decide +kernel
theorem dX3_append_17 : decode cX3_append 17 = .ok (.iconst 0, 1) := by decide +kernel
theorem dX3_append_18 : decode cX3_append 18 = .ok (.invokevirtual 60, 3) := by decide +kernel
theorem dX3_append_21 : decode cX3_append 21 = .ok (.istore_n 3, 1) := by decide +kernel
theorem dX3_append_22 : decode cX3_append 22 = .ok (.iload_n 3, 1) := by decide +kernel
theorem dX3_append_23 : decode cX3_append 23 = .ok (.ifCond .ne 17, 3) := by decide +kernel
theorem dX3_append_26 : decode cX3_append 26 = .ok (.aload_n 0, 1) := by decide +kernel
theorem dX3_append_27 : decode cX3_append 27 = .ok (.getfield 43, 3) := by decide +kernel
theorem dX3_append_30 : decode cX3_append 30 = .ok (.iload_n 1, 1) := by decide +kernel
theorem dX3_append_31 : decode cX3_append 31 = .ok (.iload_n 2, 1) := by decide +kernel
theorem dX3_append_32 : decode cX3_append 32 = .ok (.iastore, 1) := by decide +kernel
theorem dX3_append_33 : decode cX3_append 33 = .ok (.aload_n 0, 1) := by decide +kernel
theorem dX3_append_34 : decode cX3_append 34 = .ok (.getfield 40, 3) := by decide +kernel
theorem dX3_append_37 : decode cX3_append 37 = .ok (.iload_n 1, 1) := by decide +kernel
theorem dX3_append_38 : decode cX3_append 38 = .ok (.iconst (-1), 1) := by decide +kernel
theorem dX3_append_39 : decode cX3_append 39 = .ok (.iastore, 1) := by decide +kernel
theorem dX3_append_40 : decode cX3_append 40 = .ok (.iload_n 3, 1) := by decide +kernel
theorem dX3_append_41 : decode cX3_append 41 = .ok (.ireturn, 1) := by decide +kernel
set_option maxRecDepth 20000 in
theorem ggX3_fill_X3_begin : GoodIn wsX3_fill wsX3_begin := goodIn_r _ [6, 7, 8, 9, 10, 11, 1, 12, 13, 14, 15, 16, 17, 18, 19, 20, 21, 22, 23, 24, 25, 26, 27, 28, 29, 30] (by decide +kernel) (by decide +kernel)
set_option maxRecDepth 20000 in
theorem gX3_fill_X3_begin : GoodIn wsX3_fill (wsV RX3 60 RX3 yX3_begin wsX3_begin) := goodIn_app (goodIn_of _ (by decide +kernel)) ggX3_fill_X3_begin
theorem dX3_fill_0 : decode cX3_fill 0 = .ok (.aload_n 0, 1) := by decide +kernel
theorem dX3_fill_1 : decode cX3_fill 1 = .ok (.iload_n 1, 1) := by decide +kernel
theorem dX3_fill_2 : decode cX3_fill 2 = .ok (.iconst 2, 1) := by decide +kernel
theorem dX3_fill_3 : decode cX3_fill 3 = .ok (.iload_n 2, 1) := by decide +kernel
theorem dX3_fill_4 : decode cX3_fill 4 = .ok (.ifCond .lt 13, 3) := by decide +kernel
theorem dX3_fill_7 : decode cX3_fill 7 = .ok (.iload_n 2, 1) := by decide +kernel
theorem dX3_fill_8 : decode cX3_fill 8 = .ok (.bipush 31, 2) := by decide +kernel
theorem dX3_fill_10 : decode cX3_fill 10 = .ok (.if_icmp .gt 7, 3) := by decide +kernel
theorem dX3_fill_13 : decode cX3_fill 13 = .ok (.iconst 1, 1) := by decide +kernel
theorem dX3_fill_14 : decode cX3_fill 14 = .ok (.goto 4, 3) := by decide +kernel
theorem dX3_fill_17 : decode cX3_fill 17 = .ok (.iconst 0, 1) := by decide +kernel
theorem dX3_fill_18 : decode cX3_fill 18 = .ok (.invokevirtual 60, 3) := by decide +kernel
theorem dX3_fill_21 : decode cX3_fill 21 = .ok (.istore_n 3, 1) := by decide +kernel
theorem dX3_fill_22 : decode cX3_fill 22 = .ok (.iload_n 3, 1) := by decide +kernel
theorem dX3_fill_23 : decode cX3_fill 23 = .ok (.ifCond .ne 10, 3) := by decide +kernel
theorem dX3_fill_26 : decode cX3_fill 26 = .ok (.aload_n 0, 1) := by decide +kernel
theorem dX3_fill_27 : decode cX3_fill 27 = .ok (.getfield 40, 3) := by decide +kernel
theorem dX3_fill_30 : decode cX3_fill 30 = .ok (.iload_n 1, 1) := by decide +kernel
theorem dX3_fill_31 : decode cX3_fill 31 = .ok (.iload_n 2, 1) := by decide +kernel
theorem dX3_fill_32 : decode cX3_fill 32 = .ok (.iastore, 1) := by decide +kernel
theorem dX3_fill_33 : decode cX3_fill 33 = .ok (.iload_n 3, 1) := by decide +kernel
theorem dX3_fill_34 : decode cX3_fill 34 = .ok (.ireturn, 1) := by decide +kernel
set_option maxRecDepth 20000 in
theorem ggX3_read_X3_begin : GoodIn wsX3_read wsX3_begin := goodIn_r _ [6, 7, 8, 9, 10, 11, 1, 12, 13, 14, 15, 16, 17, 18, 19, 20, 21, 22, 23, 24, 25, 26, 27, 28, 29, 30] (by decide +kernel) (by decide +kernel)
set_option maxRecDepth 20000 in
theorem gX3_read_X3_begin : GoodIn wsX3_read (wsV RX3 60 RX3 yX3_begin wsX3_begin) := goodIn_app (goodIn_of _ (by decide +kernel)) ggX3_read_X3_begin
theorem dX3_read_0 : decode cX3_read 0 = .ok (.aload_n 0, 1) := by decide +kernel
theorem dX3_read_1 : decode cX3_read 1 = .ok (.iload_n 1, 1) := by decide +kernel
theorem dX3_read_2 : decode cX3_read 2 = .ok (.iconst 3, 1) := by decide +kernel
theorem dX3_read_3 : decode cX3_read 3 = .ok (.iload_n 2, 1) := by decide +kernel
theorem dX3_read_4 : decode cX3_read 4 = .ok (.ifCond .lt 13, 3) := by decide +kernel
theorem dX3_read_7 : decode cX3_read 7 = .ok (.iload_n 2, 1) := by decide +kernel
theorem dX3_read_8 : decode cX3_read 8 = .ok (.bipush 31, 2) := by decide +kernel
theorem dX3_read_10 : decode cX3_read 10 = .ok (.if_icmp .gt 7, 3) := by decide +kernel
theorem dX3_read_13 : decode cX3_read 13 = .ok (.iconst 1, 1) := by decide +kernel
theorem dX3_read_14 : decode cX3_read 14 = .ok (.goto 4, 3) := by decide +kernel
theorem dX3_read_17 : decode cX3_read 17 = .ok (.iconst 0, 1) := by decide +kernel
theorem dX3_read_18 : decode cX3_read 18 = .ok (.invokevirtual 60, 3) := by decide +kernel
theorem dX3_read_21 : decode cX3_read 21 = .ok (.istore_n 3, 1) := by decide +kernel
theorem dX3_read_22 : decode cX3_read 22 = .ok (.iload_n 3, 1) := by decide +kernel
theorem dX3_read_23 : decode cX3_read 23 = .ok (.ifCond .ne 10, 3) := by decide +kernel
theorem dX3_read_26 : decode cX3_read 26 = .ok (.aload_n 0, 1) := by decide +kernel
theorem dX3_read_27 : decode cX3_read 27 = .ok (.getfield 40, 3) := by decide +kernel
theorem dX3_read_30 : decode cX3_read 30 = .ok (.iload_n 1, 1) := by decide +kernel
theorem dX3_read_31 : decode cX3_read 31 = .ok (.iload_n 2, 1) := by decide +kernel
theorem dX3_read_32 : decode cX3_read 32 = .ok (.iastore, 1) := by decide +kernel
theorem dX3_read_33 : decode cX3_read 33 = .ok (.iload_n 3, 1) := by decide +kernel
theorem dX3_read_34 : decode cX3_read 34 = .ok (.ireturn, 1) := by decide +kernel
set_option maxRecDepth 20000 in
theorem ggX3_replay_X3_begin : GoodIn wsX3_replay wsX3_begin := goodIn_r _ [6, 7, 8, 9, 10, 11, 12, 13, 14, 15, 16, 17, 18, 19, 20, 21, 22, 23, 24, 25, 26, 27, 28, 29, 30, 31] (by decide +kernel) (by decide +kernel)
set_option maxRecDepth 20000 in
theorem gX3_replay_X3_begin : GoodIn wsX3_replay (wsV RX3 60 RX3 yX3_begin wsX3_begin) := goodIn_app (goodIn_of _ (by decide +kernel)) ggX3_replay_X3_begin
theorem dX3_replay_0 : decode cX3_replay 0 = .ok (.aload_n 0, 1) := by decide +kernel
theorem dX3_replay_1 : decode cX3_replay 1 = .ok (.iload_n 1, 1) := by decide +kernel
theorem dX3_replay_2 : decode cX3_replay 2 = .ok (.iconst 4, 1) := by decide +kernel
theorem dX3_replay_3 : decode cX3_replay 3 = .ok (.iload_n 2, 1) := by decide +kernel
theorem dX3_replay_4 : decode cX3_replay 4 = .ok (.ifCond .lt 13, 3) := by decide +kernel
theorem dX3_replay_7 : decode cX3_replay 7 = .ok (.iload_n 2, 1) := by decide +kernel
theorem dX3_replay_8 : decode cX3_replay 8 = .ok (.bipush 32, 2) := by decide +kernel
theorem dX3_replay_10 : decode cX3_replay 10 = .ok (.if_icmp .gt 7, 3) := by decide +kernel
theorem dX3_replay_13 : decode cX3_replay 13 = .ok (.iconst 1, 1) := by decide +kernel
theorem dX3_replay_14 : decode cX3_replay 14 = .ok (.goto 4, 3) := by decide +kernel
theorem dX3_replay_17 : decode cX3_replay 17 = .ok (.iconst 0, 1) := by decide +kernel
theorem dX3_replay_18 : decode cX3_replay 18 = .ok (.invokevirtual 60, 3) := by decide +kernel
theorem dX3_replay_21 : decode cX3_replay 21 = .ok (.istore_n 3, 1) := by decide +kernel
theorem dX3_replay_22 : decode cX3_replay 22 = .ok (.iload_n 3, 1) := by decide +kernel
theorem dX3_replay_23 : decode cX3_replay 23 = .ok (.ifCond .ne 10, 3) := by decide +kernel
theorem dX3_replay_26 : decode cX3_replay 26 = .ok (.aload_n 0, 1) := by decide +kernel
theorem dX3_replay_27 : decode cX3_replay 27 = .ok (.getfield 49, 3) := by decide +kernel
theorem dX3_replay_30 : decode cX3_replay 30 = .ok (.iload_n 1, 1) := by decide +kernel
theorem dX3_replay_31 : decode cX3_replay 31 = .ok (.iload_n 2, 1) := by decide +kernel
theorem dX3_replay_32 : decode cX3_replay 32 = .ok (.iastore, 1) := by decide +kernel
theorem dX3_replay_33 : decode cX3_replay 33 = .ok (.iload_n 3, 1) := by decide +kernel
theorem dX3_replay_34 : decode cX3_replay 34 = .ok (.ireturn, 1) := by decide +kernel
set_option maxRecDepth 20000 in
theorem ggX3_reform_X3_length : GoodIn wsX3_reform wsX3_length := goodIn_r _ [7] (by decide +kernel) (by decide +kernel)
set_option maxRecDepth 20000 in
theorem gX3_reform_X3_length : GoodIn wsX3_reform (va_wsS RX3 64 yX3_length wsX3_length) := goodIn_app (goodIn_of _ (by decide +kernel)) ggX3_reform_X3_length
set_option maxRecDepth 20000 in
theorem ggX3_reform_X3_begin : GoodIn wsX3_reform wsX3_begin := goodIn_r _ [11, 1, 12, 13, 14, 15, 16, 17, 18, 19, 20, 21, 22, 23, 24, 25, 26, 27, 28, 29, 30, 31, 32, 33, 34, 35] (by decide +kernel) (by decide +kernel)
set_option maxRecDepth 20000 in
theorem gX3_reform_X3_begin : GoodIn wsX3_reform (wsV RX3 60 RX3 yX3_begin wsX3_begin) := goodIn_app (goodIn_of _ (by decide +kernel)) ggX3_reform_X3_begin
theorem dX3_reform_0 : decode cX3_reform 0 = .ok (.iload_n 2, 1) := by decide +kernel
theorem dX3_reform_1 : decode cX3_reform 1 = .ok (.ifCond .lt 13, 3) := by decide +kernel
theorem dX3_reform_4 : decode cX3_reform 4 = .ok (.iload_n 2, 1) := by decide +kernel
theorem dX3_reform_5 : decode cX3_reform 5 = .ok (.bipush 63, 2) := by decide +kernel
theorem dX3_reform_7 : decode cX3_reform 7 = .ok (.if_icmp .gt 7, 3) := by decide +kernel
theorem dX3_reform_10 : decode cX3_reform 10 = .ok (.iconst 1, 1) := by decide +kernel
theorem dX3_reform_11 : decode cX3_reform 11 = .ok (.goto 4, 3) := by decide +kernel
theorem dX3_reform_14 : decode cX3_reform 14 = .ok (.iconst 0, 1) := by decide +kernel
theorem dX3_reform_15 : decode cX3_reform 15 = .ok (.istore_n 3, 1) := by decide +kernel
theorem dX3_reform_16 : decode cX3_reform 16 = .ok (.iload_n 1, 1) := by decide +kernel
theorem dX3_reform_17 : decode cX3_reform 17 = .ok (.ifCond .lt 54, 3) := by decide +kernel
theorem dX3_reform_20 : decode cX3_reform 20 = .ok (.iload_n 1, 1) := by decide +kernel
theorem dX3_reform_21 : decode cX3_reform 21 = .ok (.iconst 2, 1) := by decide +kernel
theorem dX3_reform_22 : decode cX3_reform 22 = .ok (.if_icmp .gt 49, 3) := by decide +kernel
theorem dX3_reform_25 : decode cX3_reform 25 = .ok (.aload_n 0, 1) := by decide +kernel
theorem dX3_reform_26 : decode cX3_reform 26 = .ok (.getfield 25, 3) := by decide +kernel
theorem dX3_reform_29 : decode cX3_reform 29 = .ok (.iload_n 1, 1) := by decide +kernel
theorem dX3_reform_30 : decode cX3_reform 30 = .ok (.iaload, 1) := by decide +kernel
theorem dX3_reform_31 : decode cX3_reform 31 = .ok (.ifCond .ne 40, 3) := by decide +kernel
theorem dX3_reform_34 : decode cX3_reform 34 = .ok (.iload_n 3, 1) := by decide +kernel
theorem dX3_reform_35 : decode cX3_reform 35 = .ok (.ifCond .eq 36, 3) := by decide +kernel
theorem dX3_reform_38 : decode cX3_reform 38 = .ok (.aload_n 0, 1) := by decide +kernel
theorem dX3_reform_39 : decode cX3_reform 39 = .ok (.getfield 31, 3) := by decide +kernel
theorem dX3_reform_42 : decode cX3_reform 42 = .ok (.iload_n 1, 1) := by decide +kernel
theorem dX3_reform_43 : decode cX3_reform 43 = .ok (.iaload, 1) := by decide +kernel
theorem dX3_reform_44 : decode cX3_reform 44 = .ok (.iload_n 2, 1) := by decide +kernel
theorem dX3_reform_45 : decode cX3_reform 45 = .ok (.iconst (-1), 1) := by decide +kernel
theorem dX3_reform_46 : decode cX3_reform 46 = .ok (.ixor, 1) := by decide +kernel
theorem dX3_reform_47 : decode cX3_reform 47 = .ok (.iand, 1) := by decide +kernel
theorem dX3_reform_48 : decode cX3_reform 48 = .ok (.istore 4, 2) := by decide +kernel
theorem dX3_reform_50 : decode cX3_reform 50 = .ok (.iload 4, 2) := by decide +kernel
theorem dX3_reform_52 : decode cX3_reform 52 = .ok (.iconst 0, 1) := by decide +kernel
theorem dX3_reform_53 : decode cX3_reform 53 = .ok (.invokestatic 64, 3) := by decide +kernel
theorem dX3_reform_56 : decode cX3_reform 56 = .ok (.ifCond .eq 12, 3) := by decide +kernel
theorem dX3_reform_59 : decode cX3_reform 59 = .ok (.iload 4, 2) := by decide +kernel
theorem dX3_reform_61 : decode cX3_reform 61 = .ok (.iconst 1, 1) := by decide +kernel
theorem dX3_reform_62 : decode cX3_reform 62 = .ok (.invokestatic 64, 3) := by decide +kernel
theorem dX3_reform_65 : decode cX3_reform 65 = .ok (.ifCond .ne 6, 3) := by decide +kernel
theorem dX3_reform_68 : decode cX3_reform 68 = .ok (.bipush (-4), 2) := by decide +kernel
theorem dX3_reform_70 : decode cX3_reform 70 = .ok (.ireturn, 1) := by decide +kernel
theorem dX3_reform_71 : decode cX3_reform 71 = .ok (.aload_n 0, 1) := by decide +kernel
theorem dX3_reform_72 : decode cX3_reform 72 = .ok (.iload_n 1, 1) := by decide +kernel
theorem dX3_reform_73 : decode cX3_reform 73 = .ok (.iconst 5, 1) := by decide +kernel
theorem dX3_reform_74 : decode cX3_reform 74 = .ok (.iload_n 3, 1) := by decide +kernel
theorem dX3_reform_75 : decode cX3_reform 75 = .ok (.invokevirtual 60, 3) := by decide +kernel
theorem dX3_reform_78 : decode cX3_reform 78 = .ok (.istore 4, 2) := by decide +kernel
theorem dX3_reform_80 : decode cX3_reform 80 = .ok (.iload 4, 2) := by decide +kernel
theorem dX3_reform_82 : decode cX3_reform 82 = .ok (.ifCond .ne 19, 3) := by decide +kernel
theorem dX3_reform_85 : decode cX3_reform 85 = .ok (.aload_n 0, 1) := by decide +kernel
theorem dX3_reform_86 : decode cX3_reform 86 = .ok (.getfield 49, 3) := by decide +kernel
theorem dX3_reform_89 : decode cX3_reform 89 = .ok (.iload_n 1, 1) := by decide +kernel
theorem dX3_reform_90 : decode cX3_reform 90 = .ok (.aload_n 0, 1) := by decide +kernel
theorem dX3_reform_91 : decode cX3_reform 91 = .ok (.getfield 31, 3) := by decide +kernel
theorem dX3_reform_94 : decode cX3_reform 94 = .ok (.iload_n 1, 1) := by decide +kernel
theorem dX3_reform_95 : decode cX3_reform 95 = .ok (.iaload, 1) := by decide +kernel
theorem dX3_reform_96 : decode cX3_reform 96 = .ok (.iload_n 2, 1) := by decide +kernel
theorem dX3_reform_97 : decode cX3_reform 97 = .ok (.iconst (-1), 1) := by decide +kernel
theorem dX3_reform_98 : decode cX3_reform 98 = .ok (.ixor, 1) := by decide +kernel
theorem dX3_reform_99 : decode cX3_reform 99 = .ok (.iand, 1) := by decide +kernel
theorem dX3_reform_100 : decode cX3_reform 100 = .ok (.iastore, 1) := by decide +kernel
theorem dX3_reform_101 : decode cX3_reform 101 = .ok (.iload 4, 2) := by decide +kernel
theorem dX3_reform_103 : decode cX3_reform 103 = .ok (.ireturn, 1) := by decide +kernel
theorem dX3_end_0 : decode cX3_end 0 = .ok (.aload_n 0, 1) := by decide +kernel
theorem dX3_end_1 : decode cX3_end 1 = .ok (.getfield 25, 3) := by decide +kernel
theorem dX3_end_4 : decode cX3_end 4 = .ok (.iload_n 1, 1) := by decide +kernel
theorem dX3_end_5 : decode cX3_end 5 = .ok (.iconst 0, 1) := by decide +kernel
theorem dX3_end_6 : decode cX3_end 6 = .ok (.iastore, 1) := by decide +kernel
theorem dX3_end_7 : decode cX3_end 7 = .ok (.aload_n 0, 1) := by decide +kernel
theorem dX3_end_8 : decode cX3_end 8 = .ok (.getfield 34, 3) := by decide +kernel
theorem dX3_end_11 : decode cX3_end 11 = .ok (.iload_n 1, 1) := by decide +kernel
theorem dX3_end_12 : decode cX3_end 12 = .ok (.iload_n 2, 1) := by decide +kernel
theorem dX3_end_13 : decode cX3_end 13 = .ok (.iastore, 1) := by decide +kernel
theorem dX3_end_14 : decode cX3_end 14 = .ok (.aload_n 0, 1) := by decide +kernel
theorem dX3_end_15 : decode cX3_end 15 = .ok (.getfield 37, 3) := by decide +kernel
theorem dX3_end_18 : decode cX3_end 18 = .ok (.iload_n 1, 1) := by decide +kernel
theorem dX3_end_19 : decode cX3_end 19 = .ok (.iload_n 3, 1) := by decide +kernel
theorem dX3_end_20 : decode cX3_end 20 = .ok (.iastore, 1) := by decide +kernel
theorem dX3_end_21 : decode cX3_end 21 = .ok (.iconst 1, 1) := by decide +kernel
theorem dX3_end_22 : decode cX3_end 22 = .ok (.ireturn, 1) := by decide +kernel
set_option maxRecDepth 20000 in
theorem ggX3_alongChain_X3_length : GoodIn wsX3_alongChain wsX3_length := goodIn_r _ [12] (by decide +kernel) (by decide +kernel)
set_option maxRecDepth 20000 in
theorem gX3_alongChain_X3_length : GoodIn wsX3_alongChain (va_wsS RX3 64 yX3_length wsX3_length) := goodIn_app (goodIn_of _ (by decide +kernel)) ggX3_alongChain_X3_length
set_option maxRecDepth 20000 in
theorem ggX3_alongChain_X3_nth : GoodIn wsX3_alongChain wsX3_nth := goodIn_r _ [15] (by decide +kernel) (by decide +kernel)
set_option maxRecDepth 20000 in
theorem gX3_alongChain_X3_nth : GoodIn wsX3_alongChain (va_wsS RX3 68 yX3_nth wsX3_nth) := goodIn_app (goodIn_of _ (by decide +kernel)) ggX3_alongChain_X3_nth
set_option maxRecDepth 20000 in
theorem ggX3_alongChain_X3_end : GoodIn wsX3_alongChain wsX3_end := goodIn_r _ [19, 7, 20, 21, 34, 35, 36, 37, 38, 39, 40, 41, 42, 43, 44, 45, 46, 47, 48, 49, 50, 51, 52] (by decide +kernel) (by decide +kernel)
set_option maxRecDepth 20000 in
theorem gX3_alongChain_X3_end : GoodIn wsX3_alongChain (wsV RX3 72 RX3 yX3_end wsX3_end) := goodIn_app (goodIn_of _ (by decide +kernel)) ggX3_alongChain_X3_end
set_option maxRecDepth 20000 in
theorem ggX3_alongChain_X3_look : GoodIn wsX3_alongChain wsX3_look := goodIn_r _ [25, 26, 27, 28, 29, 34, 35, 36, 37, 38, 39, 40, 41, 42, 43, 44, 45, 46, 47, 48, 49, 50, 51, 52] (by decide +kernel) (by decide +kernel)
set_option maxRecDepth 20000 in
theorem gX3_alongChain_X3_look : GoodIn wsX3_alongChain (wsV RX3 75 RX3 yX3_look wsX3_look) := goodIn_app (goodIn_of _ (by decide +kernel)) ggX3_alongChain_X3_look
set_option maxRecDepth 20000 in
theorem ggX3_alongChain_X3_put : GoodIn wsX3_alongChain wsX3_put := goodIn_r _ [33, 27, 26, 28, 29, 34, 35, 36, 37, 38, 39, 40, 41, 42, 43, 44, 45, 46, 47, 48, 49, 50, 51, 52] (by decide +kernel) (by decide +kernel)
set_option maxRecDepth 20000 in
theorem gX3_alongChain_X3_put : GoodIn wsX3_alongChain (wsV RX3 78 RX3 yX3_put wsX3_put) := goodIn_app (goodIn_of _ (by decide +kernel)) ggX3_alongChain_X3_put
theorem dX3_alongChain_0 : decode cX3_alongChain 0 = .ok (.aload_n 0, 1) := by decide +kernel
theorem dX3_alongChain_1 : decode cX3_alongChain 1 = .ok (.getfield 31, 3) := by decide +kernel
theorem dX3_alongChain_4 : decode cX3_alongChain 4 = .ok (.iload_n 1, 1) := by decide +kernel
theorem dX3_alongChain_5 : decode cX3_alongChain 5 = .ok (.iaload, 1) := by decide +kernel
theorem dX3_alongChain_6 : decode cX3_alongChain 6 = .ok (.aload_n 0, 1) := by decide +kernel
theorem dX3_alongChain_7 : decode cX3_alongChain 7 = .ok (.getfield 40, 3) := by decide +kernel
theorem dX3_alongChain_10 : decode cX3_alongChain 10 = .ok (.iload_n 1, 1) := by decide +kernel
theorem dX3_alongChain_11 : decode cX3_alongChain 11 = .ok (.iaload, 1) := by decide +kernel
theorem dX3_alongChain_12 : decode cX3_alongChain 12 = .ok (.iconst 2, 1) := by decide +kernel
theorem dX3_alongChain_13 : decode cX3_alongChain 13 = .ok (.irem, 1) := by decide +kernel
theorem dX3_alongChain_14 : decode cX3_alongChain 14 = .ok (.invokestatic 64, 3) := by decide +kernel
theorem dX3_alongChain_17 : decode cX3_alongChain 17 = .ok (.istore_n 2, 1) := by decide +kernel
theorem dX3_alongChain_18 : decode cX3_alongChain 18 = .ok (.aload_n 0, 1) := by decide +kernel
theorem dX3_alongChain_19 : decode cX3_alongChain 19 = .ok (.getfield 31, 3) := by decide +kernel
theorem dX3_alongChain_22 : decode cX3_alongChain 22 = .ok (.iload_n 1, 1) := by decide +kernel
theorem dX3_alongChain_23 : decode cX3_alongChain 23 = .ok (.iaload, 1) := by decide +kernel
theorem dX3_alongChain_24 : decode cX3_alongChain 24 = .ok (.aload_n 0, 1) := by decide +kernel
theorem dX3_alongChain_25 : decode cX3_alongChain 25 = .ok (.getfield 40, 3) := by decide +kernel
theorem dX3_alongChain_28 : decode cX3_alongChain 28 = .ok (.iload_n 1, 1) := by decide +kernel
theorem dX3_alongChain_29 : decode cX3_alongChain 29 = .ok (.iaload, 1) := by decide +kernel
theorem dX3_alongChain_30 : decode cX3_alongChain 30 = .ok (.iconst 2, 1) := by decide +kernel
theorem dX3_alongChain_31 : decode cX3_alongChain 31 = .ok (.irem, 1) := by decide +kernel
theorem dX3_alongChain_32 : decode cX3_alongChain 32 = .ok (.aload_n 0, 1) := by decide +kernel
theorem dX3_alongChain_33 : decode cX3_alongChain 33 = .ok (.getfield 46, 3) := by decide +kernel
theorem dX3_alongChain_36 : decode cX3_alongChain 36 = .ok (.iload_n 1, 1) := by decide +kernel
theorem dX3_alongChain_37 : decode cX3_alongChain 37 = .ok (.iaload, 1) := by decide +kernel
theorem dX3_alongChain_38 : decode cX3_alongChain 38 = .ok (.invokestatic 68, 3) := by decide +kernel
theorem dX3_alongChain_41 : decode cX3_alongChain 41 = .ok (.istore_n 3, 1) := by decide +kernel
theorem dX3_alongChain_42 : decode cX3_alongChain 42 = .ok (.aload_n 0, 1) := by decide +kernel
theorem dX3_alongChain_43 : decode cX3_alongChain 43 = .ok (.getfield 22, 3) := by decide +kernel
theorem dX3_alongChain_46 : decode cX3_alongChain 46 = .ok (.iload_n 3, 1) := by decide +kernel
theorem dX3_alongChain_47 : decode cX3_alongChain 47 = .ok (.iaload, 1) := by decide +kernel
theorem dX3_alongChain_48 : decode cX3_alongChain 48 = .ok (.iconst 1, 1) := by decide +kernel
theorem dX3_alongChain_49 : decode cX3_alongChain 49 = .ok (.if_icmp .ne 6, 3) := by decide +kernel
theorem dX3_alongChain_52 : decode cX3_alongChain 52 = .ok (.bipush (-3), 2) := by decide +kernel
theorem dX3_alongChain_54 : decode cX3_alongChain 54 = .ok (.ireturn, 1) := by decide +kernel
theorem dX3_alongChain_55 : decode cX3_alongChain 55 = .ok (.aload_n 0, 1) := by decide +kernel
theorem dX3_alongChain_56 : decode cX3_alongChain 56 = .ok (.getfield 19, 3) := by decide +kernel
theorem dX3_alongChain_59 : decode cX3_alongChain 59 = .ok (.iload_n 3, 1) := by decide +kernel
theorem dX3_alongChain_60 : decode cX3_alongChain 60 = .ok (.iaload, 1) := by decide +kernel
theorem dX3_alongChain_61 : decode cX3_alongChain 61 = .ok (.aload_n 0, 1) := by decide +kernel
theorem dX3_alongChain_62 : decode cX3_alongChain 62 = .ok (.getfield 28, 3) := by decide +kernel
theorem dX3_alongChain_65 : decode cX3_alongChain 65 = .ok (.iload_n 1, 1) := by decide +kernel
theorem dX3_alongChain_66 : decode cX3_alongChain 66 = .ok (.iaload, 1) := by decide +kernel
theorem dX3_alongChain_67 : decode cX3_alongChain 67 = .ok (.if_icmp .le 11, 3) := by decide +kernel
theorem dX3_alongChain_70 : decode cX3_alongChain 70 = .ok (.aload_n 0, 1) := by decide +kernel
theorem dX3_alongChain_71 : decode cX3_alongChain 71 = .ok (.iload_n 1, 1) := by decide +kernel
theorem dX3_alongChain_72 : decode cX3_alongChain 72 = .ok (.iconst 2, 1) := by decide +kernel
theorem dX3_alongChain_73 : decode cX3_alongChain 73 = .ok (.iconst 0, 1) := by decide +kernel
theorem dX3_alongChain_74 : decode cX3_alongChain 74 = .ok (.invokevirtual 72, 3) := by decide +kernel
theorem dX3_alongChain_77 : decode cX3_alongChain 77 = .ok (.ireturn, 1) := by decide +kernel
theorem dX3_alongChain_78 : decode cX3_alongChain 78 = .ok (.aload_n 0, 1) := by decide +kernel
theorem dX3_alongChain_79 : decode cX3_alongChain 79 = .ok (.iload_n 3, 1) := by decide +kernel
theorem dX3_alongChain_80 : decode cX3_alongChain 80 = .ok (.aload_n 0, 1) := by decide +kernel
theorem dX3_alongChain_81 : decode cX3_alongChain 81 = .ok (.getfield 40, 3) := by decide +kernel
theorem dX3_alongChain_84 : decode cX3_alongChain 84 = .ok (.iload_n 1, 1) := by decide +kernel
theorem dX3_alongChain_85 : decode cX3_alongChain 85 = .ok (.iaload, 1) := by decide +kernel
theorem dX3_alongChain_86 : decode cX3_alongChain 86 = .ok (.invokevirtual 75, 3) := by decide +kernel
theorem dX3_alongChain_89 : decode cX3_alongChain 89 = .ok (.istore 4, 2) := by decide +kernel
theorem dX3_alongChain_91 : decode cX3_alongChain 91 = .ok (.aload_n 0, 1) := by decide +kernel
theorem dX3_alongChain_92 : decode cX3_alongChain 92 = .ok (.getfield 25, 3) := by decide +kernel
theorem dX3_alongChain_95 : decode cX3_alongChain 95 = .ok (.iload_n 1, 1) := by decide +kernel
theorem dX3_alongChain_96 : decode cX3_alongChain 96 = .ok (.iaload, 1) := by decide +kernel
theorem dX3_alongChain_97 : decode cX3_alongChain 97 = .ok (.iconst 1, 1) := by decide +kernel
theorem dX3_alongChain_98 : decode cX3_alongChain 98 = .ok (.if_icmp .ne 28, 3) := by decide +kernel
theorem dX3_alongChain_101 : decode cX3_alongChain 101 = .ok (.iload 4, 2) := by decide +kernel
theorem dX3_alongChain_103 : decode cX3_alongChain 103 = .ok (.bipush (-2), 2) := by decide +kernel
theorem dX3_alongChain_105 : decode cX3_alongChain 105 = .ok (.if_icmp .eq 49, 3) := by decide +kernel
theorem dX3_alongChain_108 : decode cX3_alongChain 108 = .ok (.aload_n 0, 1) := by decide +kernel
theorem dX3_alongChain_109 : decode cX3_alongChain 109 = .ok (.getfield 46, 3) := by decide +kernel
theorem dX3_alongChain_112 : decode cX3_alongChain 112 = .ok (.iload_n 1, 1) := by decide +kernel
theorem dX3_alongChain_113 : decode cX3_alongChain 113 = .ok (.iaload, 1) := by decide +kernel
theorem dX3_alongChain_114 : decode cX3_alongChain 114 = .ok (.ifCond .ne 40, 3) := by decide +kernel
theorem dX3_alongChain_117 : decode cX3_alongChain 117 = .ok (.aload_n 0, 1) := by decide +kernel
theorem dX3_alongChain_118 : decode cX3_alongChain 118 = .ok (.getfield 40, 3) := by decide +kernel
theorem dX3_alongChain_121 : decode cX3_alongChain 121 = .ok (.iload_n 1, 1) := by decide +kernel
theorem dX3_alongChain_122 : decode cX3_alongChain 122 = .ok (.iconst (-1), 1) := by decide +kernel
theorem dX3_alongChain_123 : decode cX3_alongChain 123 = .ok (.iastore, 1) := by decide +kernel
theorem dX3_alongChain_124 : decode cX3_alongChain 124 = .ok (.iconst 0, 1) := by decide +kernel
theorem dX3_alongChain_125 : decode cX3_alongChain 125 = .ok (.ireturn, 1) := by decide +kernel
theorem dX3_alongChain_126 : decode cX3_alongChain 126 = .ok (.aload_n 0, 1) := by decide +kernel
theorem dX3_alongChain_127 : decode cX3_alongChain 127 = .ok (.getfield 46, 3) := by decide +kernel
theorem dX3_alongChain_130 : decode cX3_alongChain 130 = .ok (.iload_n 1, 1) := by decide +kernel
theorem dX3_alongChain_131 : decode cX3_alongChain 131 = .ok (.iaload, 1) := by decide +kernel
theorem dX3_alongChain_132 : decode cX3_alongChain 132 = .ok (.ifCond .ne 22, 3) := by decide +kernel
theorem dX3_alongChain_135 : decode cX3_alongChain 135 = .ok (.aload_n 0, 1) := by decide +kernel
theorem dX3_alongChain_136 : decode cX3_alongChain 136 = .ok (.getfield 43, 3) := by decide +kernel
theorem dX3_alongChain_139 : decode cX3_alongChain 139 = .ok (.iload_n 1, 1) := by decide +kernel
theorem dX3_alongChain_140 : decode cX3_alongChain 140 = .ok (.iload 4, 2) := by decide +kernel
theorem dX3_alongChain_142 : decode cX3_alongChain 142 = .ok (.bipush (-2), 2) := by decide +kernel
theorem dX3_alongChain_144 : decode cX3_alongChain 144 = .ok (.if_icmp .ne 7, 3) := by decide +kernel
theorem dX3_alongChain_147 : decode cX3_alongChain 147 = .ok (.iconst (-1), 1) := by decide +kernel
theorem dX3_alongChain_148 : decode cX3_alongChain 148 = .ok (.goto 5, 3) := by decide +kernel
theorem dX3_alongChain_151 : decode cX3_alongChain 151 = .ok (.iload 4, 2) := by decide +kernel
theorem dX3_alongChain_153 : decode cX3_alongChain 153 = .ok (.iastore, 1) := by decide +kernel
theorem dX3_alongChain_154 : decode cX3_alongChain 154 = .ok (.iload 4, 2) := by decide +kernel
theorem dX3_alongChain_156 : decode cX3_alongChain 156 = .ok (.bipush (-2), 2) := by decide +kernel
theorem dX3_alongChain_158 : decode cX3_alongChain 158 = .ok (.if_icmp .ne 20, 3) := by decide +kernel
theorem dX3_alongChain_161 : decode cX3_alongChain 161 = .ok (.aload_n 0, 1) := by decide +kernel
theorem dX3_alongChain_162 : decode cX3_alongChain 162 = .ok (.iload_n 3, 1) := by decide +kernel
theorem dX3_alongChain_163 : decode cX3_alongChain 163 = .ok (.aload_n 0, 1) := by decide +kernel
theorem dX3_alongChain_164 : decode cX3_alongChain 164 = .ok (.getfield 40, 3) := by decide +kernel
theorem dX3_alongChain_167 : decode cX3_alongChain 167 = .ok (.iload_n 1, 1) := by decide +kernel
theorem dX3_alongChain_168 : decode cX3_alongChain 168 = .ok (.iaload, 1) := by decide +kernel
theorem dX3_alongChain_169 : decode cX3_alongChain 169 = .ok (.aload_n 0, 1) := by decide +kernel
theorem dX3_alongChain_170 : decode cX3_alongChain 170 = .ok (.getfield 43, 3) := by decide +kernel
theorem dX3_alongChain_173 : decode cX3_alongChain 173 = .ok (.iload_n 1, 1) := by decide +kernel
theorem dX3_alongChain_174 : decode cX3_alongChain 174 = .ok (.iaload, 1) := by decide +kernel
theorem dX3_alongChain_175 : decode cX3_alongChain 175 = .ok (.invokevirtual 78, 3) := by decide +kernel
theorem dX3_alongChain_178 : decode cX3_alongChain 178 = .ok (.aload_n 0, 1) := by decide +kernel
theorem dX3_alongChain_179 : decode cX3_alongChain 179 = .ok (.getfield 46, 3) := by decide +kernel
theorem dX3_alongChain_182 : decode cX3_alongChain 182 = .ok (.iload_n 1, 1) := by decide +kernel
theorem dX3_alongChain_183 : decode cX3_alongChain 183 = .ok (.aload_n 0, 1) := by decide +kernel
theorem dX3_alongChain_184 : decode cX3_alongChain 184 = .ok (.getfield 46, 3) := by decide +kernel
theorem dX3_alongChain_187 : decode cX3_alongChain 187 = .ok (.iload_n 1, 1) := by decide +kernel
theorem dX3_alongChain_188 : decode cX3_alongChain 188 = .ok (.iaload, 1) := by decide +kernel
theorem dX3_alongChain_189 : decode cX3_alongChain 189 = .ok (.iconst 1, 1) := by decide +kernel
theorem dX3_alongChain_190 : decode cX3_alongChain 190 = .ok (.iadd, 1) := by decide +kernel
theorem dX3_alongChain_191 : decode cX3_alongChain 191 = .ok (.iastore, 1) := by decide +kernel
theorem dX3_alongChain_192 : decode cX3_alongChain 192 = .ok (.aload_n 0, 1) := by decide +kernel
theorem dX3_alongChain_193 : decode cX3_alongChain 193 = .ok (.getfield 46, 3) := by decide +kernel
theorem dX3_alongChain_196 : decode cX3_alongChain 196 = .ok (.iload_n 1, 1) := by decide +kernel
theorem dX3_alongChain_197 : decode cX3_alongChain 197 = .ok (.iaload, 1) := by decide +kernel
theorem dX3_alongChain_198 : decode cX3_alongChain 198 = .ok (.iload_n 2, 1) := by decide +kernel
theorem dX3_alongChain_199 : decode cX3_alongChain 199 = .ok (.if_icmp .ge 5, 3) := by decide +kernel
theorem dX3_alongChain_202 : decode cX3_alongChain 202 = .ok (.iconst 0, 1) := by decide +kernel
theorem dX3_alongChain_203 : decode cX3_alongChain 203 = .ok (.ireturn, 1) := by decide +kernel
theorem dX3_alongChain_204 : decode cX3_alongChain 204 = .ok (.aload_n 0, 1) := by decide +kernel
theorem dX3_alongChain_205 : decode cX3_alongChain 205 = .ok (.iload_n 1, 1) := by decide +kernel
theorem dX3_alongChain_206 : decode cX3_alongChain 206 = .ok (.iconst 1, 1) := by decide +kernel
theorem dX3_alongChain_207 : decode cX3_alongChain 207 = .ok (.aload_n 0, 1) := by decide +kernel
theorem dX3_alongChain_208 : decode cX3_alongChain 208 = .ok (.getfield 25, 3) := by decide +kernel
theorem dX3_alongChain_211 : decode cX3_alongChain 211 = .ok (.iload_n 1, 1) := by decide +kernel
theorem dX3_alongChain_212 : decode cX3_alongChain 212 = .ok (.iaload, 1) := by decide +kernel
theorem dX3_alongChain_213 : decode cX3_alongChain 213 = .ok (.iconst 1, 1) := by decide +kernel
theorem dX3_alongChain_214 : decode cX3_alongChain 214 = .ok (.if_icmp .ne 12, 3) := by decide +kernel
theorem dX3_alongChain_217 : decode cX3_alongChain 217 = .ok (.aload_n 0, 1) := by decide +kernel
theorem dX3_alongChain_218 : decode cX3_alongChain 218 = .ok (.getfield 40, 3) := by decide +kernel
theorem dX3_alongChain_221 : decode cX3_alongChain 221 = .ok (.iload_n 1, 1) := by decide +kernel
theorem dX3_alongChain_222 : decode cX3_alongChain 222 = .ok (.iaload, 1) := by decide +kernel
theorem dX3_alongChain_223 : decode cX3_alongChain 223 = .ok (.goto 9, 3) := by decide +kernel
theorem dX3_alongChain_226 : decode cX3_alongChain 226 = .ok (.aload_n 0, 1) := by decide +kernel
theorem dX3_alongChain_227 : decode cX3_alongChain 227 = .ok (.getfield 43, 3) := by decide +kernel
theorem dX3_alongChain_230 : decode cX3_alongChain 230 = .ok (.iload_n 1, 1) := by decide +kernel
theorem dX3_alongChain_231 : decode cX3_alongChain 231 = .ok (.iaload, 1) := by decide +kernel
theorem dX3_alongChain_232 : decode cX3_alongChain 232 = .ok (.invokevirtual 72, 3) := by decide +kernel
theorem dX3_alongChain_235 : decode cX3_alongChain 235 = .ok (.ireturn, 1) := by decide +kernel
set_option maxRecDepth 20000 in
theorem ggX3_atTail_X3_end : GoodIn wsX3_atTail wsX3_end := goodIn_r _ [13, 1, 14, 15, 30, 31, 32, 33, 34, 35, 36, 37, 38, 39, 40, 41, 42, 43, 44, 45, 46, 47, 48] (by decide +kernel) (by decide +kernel)
set_option maxRecDepth 20000 in
theorem gX3_atTail_X3_end : GoodIn wsX3_atTail (wsV RX3 72 RX3 yX3_end wsX3_end) := goodIn_app (goodIn_of _ (by decide +kernel)) ggX3_atTail_X3_end
set_option maxRecDepth 20000 in
theorem ggX3_atTail_X3_length : GoodIn wsX3_atTail wsX3_length := goodIn_r _ [18] (by decide +kernel) (by decide +kernel)
set_option maxRecDepth 20000 in
theorem gX3_atTail_X3_length : GoodIn wsX3_atTail (va_wsS RX3 64 yX3_length wsX3_length) := goodIn_app (goodIn_of _ (by decide +kernel)) ggX3_atTail_X3_length
set_option maxRecDepth 20000 in
theorem ggX3_atTail_X3_nth : GoodIn wsX3_atTail wsX3_nth := goodIn_r _ [21] (by decide +kernel) (by decide +kernel)
set_option maxRecDepth 20000 in
theorem gX3_atTail_X3_nth : GoodIn wsX3_atTail (va_wsS RX3 68 yX3_nth wsX3_nth) := goodIn_app (goodIn_of _ (by decide +kernel)) ggX3_atTail_X3_nth
set_option maxRecDepth 20000 in
theorem ggX3_atTail_X3_look : GoodIn wsX3_atTail wsX3_look := goodIn_r _ [25, 26, 27, 28, 29, 30, 31, 32, 33, 34, 35, 36, 37, 38, 39, 40, 41, 42, 43, 44, 45, 46, 47, 48] (by decide +kernel) (by decide +kernel)
set_option maxRecDepth 20000 in
theorem gX3_atTail_X3_look : GoodIn wsX3_atTail (wsV RX3 75 RX3 yX3_look wsX3_look) := goodIn_app (goodIn_of _ (by decide +kernel)) ggX3_atTail_X3_look
theorem dX3_atTail_0 : decode cX3_atTail 0 = .ok (.aload_n 0, 1) := by decide +kernel
theorem dX3_atTail_1 : decode cX3_atTail 1 = .ok (.getfield 25, 3) := by decide +kernel
theorem dX3_atTail_4 : decode cX3_atTail 4 = .ok (.iload_n 1, 1) := by decide +kernel
theorem dX3_atTail_5 : decode cX3_atTail 5 = .ok (.iaload, 1) := by decide +kernel
theorem dX3_atTail_6 : decode cX3_atTail 6 = .ok (.iconst 4, 1) := by decide +kernel
theorem dX3_atTail_7 : decode cX3_atTail 7 = .ok (.if_icmp .ne 31, 3) := by decide +kernel
theorem dX3_atTail_10 : decode cX3_atTail 10 = .ok (.aload_n 0, 1) := by decide +kernel
theorem dX3_atTail_11 : decode cX3_atTail 11 = .ok (.getfield 40, 3) := by decide +kernel
theorem dX3_atTail_14 : decode cX3_atTail 14 = .ok (.iload_n 1, 1) := by decide +kernel
theorem dX3_atTail_15 : decode cX3_atTail 15 = .ok (.iaload, 1) := by decide +kernel
theorem dX3_atTail_16 : decode cX3_atTail 16 = .ok (.aload_n 0, 1) := by decide +kernel
theorem dX3_atTail_17 : decode cX3_atTail 17 = .ok (.getfield 49, 3) := by decide +kernel
theorem dX3_atTail_20 : decode cX3_atTail 20 = .ok (.iload_n 1, 1) := by decide +kernel
theorem dX3_atTail_21 : decode cX3_atTail 21 = .ok (.iaload, 1) := by decide +kernel
theorem dX3_atTail_22 : decode cX3_atTail 22 = .ok (.if_icmp .ne 16, 3) := by decide +kernel
theorem dX3_atTail_25 : decode cX3_atTail 25 = .ok (.aload_n 0, 1) := by decide +kernel
theorem dX3_atTail_26 : decode cX3_atTail 26 = .ok (.iload_n 1, 1) := by decide +kernel
theorem dX3_atTail_27 : decode cX3_atTail 27 = .ok (.iconst 1, 1) := by decide +kernel
theorem dX3_atTail_28 : decode cX3_atTail 28 = .ok (.aload_n 0, 1) := by decide +kernel
theorem dX3_atTail_29 : decode cX3_atTail 29 = .ok (.getfield 43, 3) := by decide +kernel
theorem dX3_atTail_32 : decode cX3_atTail 32 = .ok (.iload_n 1, 1) := by decide +kernel
theorem dX3_atTail_33 : decode cX3_atTail 33 = .ok (.iaload, 1) := by decide +kernel
theorem dX3_atTail_34 : decode cX3_atTail 34 = .ok (.invokevirtual 72, 3) := by decide +kernel
theorem dX3_atTail_37 : decode cX3_atTail 37 = .ok (.ireturn, 1) := by decide +kernel
theorem dX3_atTail_38 : decode cX3_atTail 38 = .ok (.aload_n 0, 1) := by decide +kernel
theorem dX3_atTail_39 : decode cX3_atTail 39 = .ok (.getfield 31, 3) := by decide +kernel
theorem dX3_atTail_42 : decode cX3_atTail 42 = .ok (.iload_n 1, 1) := by decide +kernel
theorem dX3_atTail_43 : decode cX3_atTail 43 = .ok (.iaload, 1) := by decide +kernel
theorem dX3_atTail_44 : decode cX3_atTail 44 = .ok (.aload_n 0, 1) := by decide +kernel
theorem dX3_atTail_45 : decode cX3_atTail 45 = .ok (.getfield 40, 3) := by decide +kernel
theorem dX3_atTail_48 : decode cX3_atTail 48 = .ok (.iload_n 1, 1) := by decide +kernel
theorem dX3_atTail_49 : decode cX3_atTail 49 = .ok (.iaload, 1) := by decide +kernel
theorem dX3_atTail_50 : decode cX3_atTail 50 = .ok (.iconst 2, 1) := by decide +kernel
theorem dX3_atTail_51 : decode cX3_atTail 51 = .ok (.irem, 1) := by decide +kernel
theorem dX3_atTail_52 : decode cX3_atTail 52 = .ok (.invokestatic 64, 3) := by decide +kernel
theorem dX3_atTail_55 : decode cX3_atTail 55 = .ok (.istore_n 2, 1) := by decide +kernel
theorem dX3_atTail_56 : decode cX3_atTail 56 = .ok (.aload_n 0, 1) := by decide +kernel
theorem dX3_atTail_57 : decode cX3_atTail 57 = .ok (.getfield 31, 3) := by decide +kernel
theorem dX3_atTail_60 : decode cX3_atTail 60 = .ok (.iload_n 1, 1) := by decide +kernel
theorem dX3_atTail_61 : decode cX3_atTail 61 = .ok (.iaload, 1) := by decide +kernel
theorem dX3_atTail_62 : decode cX3_atTail 62 = .ok (.aload_n 0, 1) := by decide +kernel
theorem dX3_atTail_63 : decode cX3_atTail 63 = .ok (.getfield 40, 3) := by decide +kernel
theorem dX3_atTail_66 : decode cX3_atTail 66 = .ok (.iload_n 1, 1) := by decide +kernel
theorem dX3_atTail_67 : decode cX3_atTail 67 = .ok (.iaload, 1) := by decide +kernel
theorem dX3_atTail_68 : decode cX3_atTail 68 = .ok (.iconst 2, 1) := by decide +kernel
theorem dX3_atTail_69 : decode cX3_atTail 69 = .ok (.irem, 1) := by decide +kernel
theorem dX3_atTail_70 : decode cX3_atTail 70 = .ok (.iload_n 2, 1) := by decide +kernel
theorem dX3_atTail_71 : decode cX3_atTail 71 = .ok (.iconst 1, 1) := by decide +kernel
theorem dX3_atTail_72 : decode cX3_atTail 72 = .ok (.isub, 1) := by decide +kernel
theorem dX3_atTail_73 : decode cX3_atTail 73 = .ok (.invokestatic 68, 3) := by decide +kernel
theorem dX3_atTail_76 : decode cX3_atTail 76 = .ok (.istore_n 3, 1) := by decide +kernel
theorem dX3_atTail_77 : decode cX3_atTail 77 = .ok (.aload_n 0, 1) := by decide +kernel
theorem dX3_atTail_78 : decode cX3_atTail 78 = .ok (.getfield 22, 3) := by decide +kernel
theorem dX3_atTail_81 : decode cX3_atTail 81 = .ok (.iload_n 3, 1) := by decide +kernel
theorem dX3_atTail_82 : decode cX3_atTail 82 = .ok (.iaload, 1) := by decide +kernel
theorem dX3_atTail_83 : decode cX3_atTail 83 = .ok (.iconst 1, 1) := by decide +kernel
theorem dX3_atTail_84 : decode cX3_atTail 84 = .ok (.if_icmp .ne 6, 3) := by decide +kernel
theorem dX3_atTail_87 : decode cX3_atTail 87 = .ok (.bipush (-3), 2) := by decide +kernel
theorem dX3_atTail_89 : decode cX3_atTail 89 = .ok (.ireturn, 1) := by decide +kernel
theorem dX3_atTail_90 : decode cX3_atTail 90 = .ok (.aload_n 0, 1) := by decide +kernel
theorem dX3_atTail_91 : decode cX3_atTail 91 = .ok (.getfield 19, 3) := by decide +kernel
theorem dX3_atTail_94 : decode cX3_atTail 94 = .ok (.iload_n 3, 1) := by decide +kernel
theorem dX3_atTail_95 : decode cX3_atTail 95 = .ok (.iaload, 1) := by decide +kernel
theorem dX3_atTail_96 : decode cX3_atTail 96 = .ok (.aload_n 0, 1) := by decide +kernel
theorem dX3_atTail_97 : decode cX3_atTail 97 = .ok (.getfield 28, 3) := by decide +kernel
theorem dX3_atTail_100 : decode cX3_atTail 100 = .ok (.iload_n 1, 1) := by decide +kernel
theorem dX3_atTail_101 : decode cX3_atTail 101 = .ok (.iaload, 1) := by decide +kernel
theorem dX3_atTail_102 : decode cX3_atTail 102 = .ok (.if_icmp .le 11, 3) := by decide +kernel
theorem dX3_atTail_105 : decode cX3_atTail 105 = .ok (.aload_n 0, 1) := by decide +kernel
theorem dX3_atTail_106 : decode cX3_atTail 106 = .ok (.iload_n 1, 1) := by decide +kernel
theorem dX3_atTail_107 : decode cX3_atTail 107 = .ok (.iconst 2, 1) := by decide +kernel
theorem dX3_atTail_108 : decode cX3_atTail 108 = .ok (.iconst 0, 1) := by decide +kernel
theorem dX3_atTail_109 : decode cX3_atTail 109 = .ok (.invokevirtual 72, 3) := by decide +kernel
theorem dX3_atTail_112 : decode cX3_atTail 112 = .ok (.ireturn, 1) := by decide +kernel
theorem dX3_atTail_113 : decode cX3_atTail 113 = .ok (.aload_n 0, 1) := by decide +kernel
theorem dX3_atTail_114 : decode cX3_atTail 114 = .ok (.iload_n 3, 1) := by decide +kernel
theorem dX3_atTail_115 : decode cX3_atTail 115 = .ok (.aload_n 0, 1) := by decide +kernel
theorem dX3_atTail_116 : decode cX3_atTail 116 = .ok (.getfield 40, 3) := by decide +kernel
theorem dX3_atTail_119 : decode cX3_atTail 119 = .ok (.iload_n 1, 1) := by decide +kernel
theorem dX3_atTail_120 : decode cX3_atTail 120 = .ok (.iaload, 1) := by decide +kernel
theorem dX3_atTail_121 : decode cX3_atTail 121 = .ok (.invokevirtual 75, 3) := by decide +kernel
theorem dX3_atTail_124 : decode cX3_atTail 124 = .ok (.istore 4, 2) := by decide +kernel
theorem dX3_atTail_126 : decode cX3_atTail 126 = .ok (.aload_n 0, 1) := by decide +kernel
theorem dX3_atTail_127 : decode cX3_atTail 127 = .ok (.getfield 25, 3) := by decide +kernel
theorem dX3_atTail_130 : decode cX3_atTail 130 = .ok (.iload_n 1, 1) := by decide +kernel
theorem dX3_atTail_131 : decode cX3_atTail 131 = .ok (.iaload, 1) := by decide +kernel
theorem dX3_atTail_132 : decode cX3_atTail 132 = .ok (.iconst 3, 1) := by decide +kernel
theorem dX3_atTail_133 : decode cX3_atTail 133 = .ok (.if_icmp .ne 30, 3) := by decide +kernel
theorem dX3_atTail_136 : decode cX3_atTail 136 = .ok (.iload 4, 2) := by decide +kernel
theorem dX3_atTail_138 : decode cX3_atTail 138 = .ok (.bipush (-2), 2) := by decide +kernel
theorem dX3_atTail_140 : decode cX3_atTail 140 = .ok (.if_icmp .ne 14, 3) := by decide +kernel
theorem dX3_atTail_143 : decode cX3_atTail 143 = .ok (.aload_n 0, 1) := by decide +kernel
theorem dX3_atTail_144 : decode cX3_atTail 144 = .ok (.iload_n 1, 1) := by decide +kernel
theorem dX3_atTail_145 : decode cX3_atTail 145 = .ok (.iconst 3, 1) := by decide +kernel
theorem dX3_atTail_146 : decode cX3_atTail 146 = .ok (.bipush (-2), 2) := by decide +kernel
theorem dX3_atTail_148 : decode cX3_atTail 148 = .ok (.invokevirtual 72, 3) := by decide +kernel
theorem dX3_atTail_151 : decode cX3_atTail 151 = .ok (.goto 11, 3) := by decide +kernel
theorem dX3_atTail_154 : decode cX3_atTail 154 = .ok (.aload_n 0, 1) := by decide +kernel
theorem dX3_atTail_155 : decode cX3_atTail 155 = .ok (.iload_n 1, 1) := by decide +kernel
theorem dX3_atTail_156 : decode cX3_atTail 156 = .ok (.iconst 1, 1) := by decide +kernel
theorem dX3_atTail_157 : decode cX3_atTail 157 = .ok (.iload 4, 2) := by decide +kernel
theorem dX3_atTail_159 : decode cX3_atTail 159 = .ok (.invokevirtual 72, 3) := by decide +kernel
theorem dX3_atTail_162 : decode cX3_atTail 162 = .ok (.ireturn, 1) := by decide +kernel
theorem dX3_atTail_163 : decode cX3_atTail 163 = .ok (.iload 4, 2) := by decide +kernel
theorem dX3_atTail_165 : decode cX3_atTail 165 = .ok (.bipush (-2), 2) := by decide +kernel
theorem dX3_atTail_167 : decode cX3_atTail 167 = .ok (.if_icmp .ne 16, 3) := by decide +kernel
theorem dX3_atTail_170 : decode cX3_atTail 170 = .ok (.aload_n 0, 1) := by decide +kernel
theorem dX3_atTail_171 : decode cX3_atTail 171 = .ok (.iload_n 1, 1) := by decide +kernel
theorem dX3_atTail_172 : decode cX3_atTail 172 = .ok (.iconst 3, 1) := by decide +kernel
theorem dX3_atTail_173 : decode cX3_atTail 173 = .ok (.aload_n 0, 1) := by decide +kernel
theorem dX3_atTail_174 : decode cX3_atTail 174 = .ok (.getfield 40, 3) := by decide +kernel
theorem dX3_atTail_177 : decode cX3_atTail 177 = .ok (.iload_n 1, 1) := by decide +kernel
theorem dX3_atTail_178 : decode cX3_atTail 178 = .ok (.iaload, 1) := by decide +kernel
theorem dX3_atTail_179 : decode cX3_atTail 179 = .ok (.invokevirtual 72, 3) := by decide +kernel
theorem dX3_atTail_182 : decode cX3_atTail 182 = .ok (.ireturn, 1) := by decide +kernel
theorem dX3_atTail_183 : decode cX3_atTail 183 = .ok (.iload 4, 2) := by decide +kernel
theorem dX3_atTail_185 : decode cX3_atTail 185 = .ok (.ifCond .lt 21, 3) := by decide +kernel
theorem dX3_atTail_188 : decode cX3_atTail 188 = .ok (.aload_n 0, 1) := by decide +kernel
theorem dX3_atTail_189 : decode cX3_atTail 189 = .ok (.getfield 43, 3) := by decide +kernel
theorem dX3_atTail_192 : decode cX3_atTail 192 = .ok (.iload_n 1, 1) := by decide +kernel
theorem dX3_atTail_193 : decode cX3_atTail 193 = .ok (.aload_n 0, 1) := by decide +kernel
theorem dX3_atTail_194 : decode cX3_atTail 194 = .ok (.getfield 43, 3) := by decide +kernel
theorem dX3_atTail_197 : decode cX3_atTail 197 = .ok (.iload_n 1, 1) := by decide +kernel
theorem dX3_atTail_198 : decode cX3_atTail 198 = .ok (.iaload, 1) := by decide +kernel
theorem dX3_atTail_199 : decode cX3_atTail 199 = .ok (.bipush 31, 2) := by decide +kernel
theorem dX3_atTail_201 : decode cX3_atTail 201 = .ok (.imul, 1) := by decide +kernel
theorem dX3_atTail_202 : decode cX3_atTail 202 = .ok (.iload 4, 2) := by decide +kernel
theorem dX3_atTail_204 : decode cX3_atTail 204 = .ok (.iadd, 1) := by decide +kernel
theorem dX3_atTail_205 : decode cX3_atTail 205 = .ok (.iastore, 1) := by decide +kernel
theorem dX3_atTail_206 : decode cX3_atTail 206 = .ok (.aload_n 0, 1) := by decide +kernel
theorem dX3_atTail_207 : decode cX3_atTail 207 = .ok (.getfield 40, 3) := by decide +kernel
theorem dX3_atTail_210 : decode cX3_atTail 210 = .ok (.iload_n 1, 1) := by decide +kernel
theorem dX3_atTail_211 : decode cX3_atTail 211 = .ok (.aload_n 0, 1) := by decide +kernel
theorem dX3_atTail_212 : decode cX3_atTail 212 = .ok (.getfield 40, 3) := by decide +kernel
theorem dX3_atTail_215 : decode cX3_atTail 215 = .ok (.iload_n 1, 1) := by decide +kernel
theorem dX3_atTail_216 : decode cX3_atTail 216 = .ok (.iaload, 1) := by decide +kernel
theorem dX3_atTail_217 : decode cX3_atTail 217 = .ok (.iconst 1, 1) := by decide +kernel
theorem dX3_atTail_218 : decode cX3_atTail 218 = .ok (.iadd, 1) := by decide +kernel
theorem dX3_atTail_219 : decode cX3_atTail 219 = .ok (.iastore, 1) := by decide +kernel
theorem dX3_atTail_220 : decode cX3_atTail 220 = .ok (.iconst 0, 1) := by decide +kernel
theorem dX3_atTail_221 : decode cX3_atTail 221 = .ok (.ireturn, 1) := by decide +kernel
set_option maxRecDepth 20000 in
theorem ggX3_seal_X3_nth : GoodIn wsX3_seal wsX3_nth := goodIn_r _ [18] (by decide +kernel) (by decide +kernel)
set_option maxRecDepth 20000 in
theorem gX3_seal_X3_nth : GoodIn wsX3_seal (va_wsS RX3 68 yX3_nth wsX3_nth) := goodIn_app (goodIn_of _ (by decide +kernel)) ggX3_seal_X3_nth
set_option maxRecDepth 20000 in
theorem ggX3_seal_X3_end : GoodIn wsX3_seal wsX3_end := goodIn_r _ [22, 23, 24, 25, 26, 27, 28, 29, 30, 31, 32, 33, 34, 35, 36, 37, 38, 39, 40, 41, 42, 43, 44] (by decide +kernel) (by decide +kernel)
set_option maxRecDepth 20000 in
theorem gX3_seal_X3_end : GoodIn wsX3_seal (wsV RX3 72 RX3 yX3_end wsX3_end) := goodIn_app (goodIn_of _ (by decide +kernel)) ggX3_seal_X3_end
theorem dX3_seal_0 : decode cX3_seal 0 = .ok (.aload_n 0, 1) := by decide +kernel
theorem dX3_seal_1 : decode cX3_seal 1 = .ok (.getfield 49, 3) := by decide +kernel
theorem dX3_seal_4 : decode cX3_seal 4 = .ok (.iload_n 1, 1) := by decide +kernel
theorem dX3_seal_5 : decode cX3_seal 5 = .ok (.iaload, 1) := by decide +kernel
theorem dX3_seal_6 : decode cX3_seal 6 = .ok (.iconst 2, 1) := by decide +kernel
theorem dX3_seal_7 : decode cX3_seal 7 = .ok (.aload_n 0, 1) := by decide +kernel
theorem dX3_seal_8 : decode cX3_seal 8 = .ok (.getfield 46, 3) := by decide +kernel
theorem dX3_seal_11 : decode cX3_seal 11 = .ok (.iload_n 1, 1) := by decide +kernel
theorem dX3_seal_12 : decode cX3_seal 12 = .ok (.iaload, 1) := by decide +kernel
theorem dX3_seal_13 : decode cX3_seal 13 = .ok (.invokestatic 68, 3) := by decide +kernel
theorem dX3_seal_16 : decode cX3_seal 16 = .ok (.istore_n 2, 1) := by decide +kernel
theorem dX3_seal_17 : decode cX3_seal 17 = .ok (.iload_n 2, 1) := by decide +kernel
theorem dX3_seal_18 : decode cX3_seal 18 = .ok (.ifCond .lt 128, 3) := by decide +kernel
theorem dX3_seal_21 : decode cX3_seal 21 = .ok (.aload_n 0, 1) := by decide +kernel
theorem dX3_seal_22 : decode cX3_seal 22 = .ok (.getfield 22, 3) := by decide +kernel
theorem dX3_seal_25 : decode cX3_seal 25 = .ok (.iload_n 2, 1) := by decide +kernel
theorem dX3_seal_26 : decode cX3_seal 26 = .ok (.iaload, 1) := by decide +kernel
theorem dX3_seal_27 : decode cX3_seal 27 = .ok (.iconst 1, 1) := by decide +kernel
theorem dX3_seal_28 : decode cX3_seal 28 = .ok (.if_icmp .ne 6, 3) := by decide +kernel
theorem dX3_seal_31 : decode cX3_seal 31 = .ok (.bipush (-3), 2) := by decide +kernel
theorem dX3_seal_33 : decode cX3_seal 33 = .ok (.ireturn, 1) := by decide +kernel
theorem dX3_seal_34 : decode cX3_seal 34 = .ok (.aload_n 0, 1) := by decide +kernel
theorem dX3_seal_35 : decode cX3_seal 35 = .ok (.getfield 19, 3) := by decide +kernel
theorem dX3_seal_38 : decode cX3_seal 38 = .ok (.iload_n 2, 1) := by decide +kernel
theorem dX3_seal_39 : decode cX3_seal 39 = .ok (.iaload, 1) := by decide +kernel
theorem dX3_seal_40 : decode cX3_seal 40 = .ok (.aload_n 0, 1) := by decide +kernel
theorem dX3_seal_41 : decode cX3_seal 41 = .ok (.getfield 28, 3) := by decide +kernel
theorem dX3_seal_44 : decode cX3_seal 44 = .ok (.iload_n 1, 1) := by decide +kernel
theorem dX3_seal_45 : decode cX3_seal 45 = .ok (.iaload, 1) := by decide +kernel
theorem dX3_seal_46 : decode cX3_seal 46 = .ok (.iconst 1, 1) := by decide +kernel
theorem dX3_seal_47 : decode cX3_seal 47 = .ok (.iadd, 1) := by decide +kernel
theorem dX3_seal_48 : decode cX3_seal 48 = .ok (.if_icmp .le 11, 3) := by decide +kernel
theorem dX3_seal_51 : decode cX3_seal 51 = .ok (.aload_n 0, 1) := by decide +kernel
theorem dX3_seal_52 : decode cX3_seal 52 = .ok (.iload_n 1, 1) := by decide +kernel
theorem dX3_seal_53 : decode cX3_seal 53 = .ok (.iconst 2, 1) := by decide +kernel
theorem dX3_seal_54 : decode cX3_seal 54 = .ok (.iconst 0, 1) := by decide +kernel
theorem dX3_seal_55 : decode cX3_seal 55 = .ok (.invokevirtual 72, 3) := by decide +kernel
theorem dX3_seal_58 : decode cX3_seal 58 = .ok (.ireturn, 1) := by decide +kernel
theorem dX3_seal_59 : decode cX3_seal 59 = .ok (.aload_n 0, 1) := by decide +kernel
theorem dX3_seal_60 : decode cX3_seal 60 = .ok (.getfield 19, 3) := by decide +kernel
theorem dX3_seal_63 : decode cX3_seal 63 = .ok (.iload_n 2, 1) := by decide +kernel
theorem dX3_seal_64 : decode cX3_seal 64 = .ok (.aload_n 0, 1) := by decide +kernel
theorem dX3_seal_65 : decode cX3_seal 65 = .ok (.getfield 28, 3) := by decide +kernel
theorem dX3_seal_68 : decode cX3_seal 68 = .ok (.iload_n 1, 1) := by decide +kernel
theorem dX3_seal_69 : decode cX3_seal 69 = .ok (.iaload, 1) := by decide +kernel
theorem dX3_seal_70 : decode cX3_seal 70 = .ok (.iconst 1, 1) := by decide +kernel
theorem dX3_seal_71 : decode cX3_seal 71 = .ok (.iadd, 1) := by decide +kernel
theorem dX3_seal_72 : decode cX3_seal 72 = .ok (.iastore, 1) := by decide +kernel
theorem dX3_seal_73 : decode cX3_seal 73 = .ok (.iconst 0, 1) := by decide +kernel
theorem dX3_seal_74 : decode cX3_seal 74 = .ok (.istore_n 3, 1) := by decide +kernel
theorem dX3_seal_75 : decode cX3_seal 75 = .ok (.iload_n 3, 1) := by decide +kernel
theorem dX3_seal_76 : decode cX3_seal 76 = .ok (.aload_n 0, 1) := by decide +kernel
theorem dX3_seal_77 : decode cX3_seal 77 = .ok (.getfield 56, 3) := by decide +kernel
theorem dX3_seal_80 : decode cX3_seal 80 = .ok (.if_icmp .ge 50, 3) := by decide +kernel
theorem dX3_seal_83 : decode cX3_seal 83 = .ok (.aload_n 0, 1) := by decide +kernel
theorem dX3_seal_84 : decode cX3_seal 84 = .ok (.getfield 7, 3) := by decide +kernel
theorem dX3_seal_87 : decode cX3_seal 87 = .ok (.iload_n 3, 1) := by decide +kernel
theorem dX3_seal_88 : decode cX3_seal 88 = .ok (.iaload, 1) := by decide +kernel
theorem dX3_seal_89 : decode cX3_seal 89 = .ok (.iload_n 2, 1) := by decide +kernel
theorem dX3_seal_90 : decode cX3_seal 90 = .ok (.if_icmp .ne 34, 3) := by decide +kernel
theorem dX3_seal_93 : decode cX3_seal 93 = .ok (.aload_n 0, 1) := by decide +kernel
theorem dX3_seal_94 : decode cX3_seal 94 = .ok (.getfield 13, 3) := by decide +kernel
theorem dX3_seal_97 : decode cX3_seal 97 = .ok (.iload_n 3, 1) := by decide +kernel
theorem dX3_seal_98 : decode cX3_seal 98 = .ok (.iaload, 1) := by decide +kernel
theorem dX3_seal_99 : decode cX3_seal 99 = .ok (.iconst 1, 1) := by decide +kernel
theorem dX3_seal_100 : decode cX3_seal 100 = .ok (.iadd, 1) := by decide +kernel
theorem dX3_seal_101 : decode cX3_seal 101 = .ok (.aload_n 0, 1) := by decide +kernel
theorem dX3_seal_102 : decode cX3_seal 102 = .ok (.getfield 43, 3) := by decide +kernel
theorem dX3_seal_105 : decode cX3_seal 105 = .ok (.iload_n 1, 1) := by decide +kernel
theorem dX3_seal_106 : decode cX3_seal 106 = .ok (.iaload, 1) := by decide +kernel
theorem dX3_seal_107 : decode cX3_seal 107 = .ok (.if_icmp .le 17, 3) := by decide +kernel
theorem dX3_seal_110 : decode cX3_seal 110 = .ok (.aload_n 0, 1) := by decide +kernel
theorem dX3_seal_111 : decode cX3_seal 111 = .ok (.getfield 43, 3) := by decide +kernel
theorem dX3_seal_114 : decode cX3_seal 114 = .ok (.iload_n 1, 1) := by decide +kernel
theorem dX3_seal_115 : decode cX3_seal 115 = .ok (.aload_n 0, 1) := by decide +kernel
theorem dX3_seal_116 : decode cX3_seal 116 = .ok (.getfield 13, 3) := by decide +kernel
theorem dX3_seal_119 : decode cX3_seal 119 = .ok (.iload_n 3, 1) := by decide +kernel
theorem dX3_seal_120 : decode cX3_seal 120 = .ok (.iaload, 1) := by decide +kernel
theorem dX3_seal_121 : decode cX3_seal 121 = .ok (.iconst 1, 1) := by decide +kernel
theorem dX3_seal_122 : decode cX3_seal 122 = .ok (.iadd, 1) := by decide +kernel
theorem dX3_seal_123 : decode cX3_seal 123 = .ok (.iastore, 1) := by decide +kernel
theorem dX3_seal_124 : decode cX3_seal 124 = .ok (.iinc 3 1, 3) := by decide +kernel
theorem dX3_seal_127 : decode cX3_seal 127 = .ok (.goto (-52), 3) := by decide +kernel
theorem dX3_seal_130 : decode cX3_seal 130 = .ok (.aload_n 0, 1) := by decide +kernel
theorem dX3_seal_131 : decode cX3_seal 131 = .ok (.getfield 46, 3) := by decide +kernel
theorem dX3_seal_134 : decode cX3_seal 134 = .ok (.iload_n 1, 1) := by decide +kernel
theorem dX3_seal_135 : decode cX3_seal 135 = .ok (.aload_n 0, 1) := by decide +kernel
theorem dX3_seal_136 : decode cX3_seal 136 = .ok (.getfield 46, 3) := by decide +kernel
theorem dX3_seal_139 : decode cX3_seal 139 = .ok (.iload_n 1, 1) := by decide +kernel
theorem dX3_seal_140 : decode cX3_seal 140 = .ok (.iaload, 1) := by decide +kernel
theorem dX3_seal_141 : decode cX3_seal 141 = .ok (.iconst 1, 1) := by decide +kernel
theorem dX3_seal_142 : decode cX3_seal 142 = .ok (.iadd, 1) := by decide +kernel
theorem dX3_seal_143 : decode cX3_seal 143 = .ok (.iastore, 1) := by decide +kernel
theorem dX3_seal_144 : decode cX3_seal 144 = .ok (.iconst 0, 1) := by decide +kernel
theorem dX3_seal_145 : decode cX3_seal 145 = .ok (.ireturn, 1) := by decide +kernel
theorem dX3_seal_146 : decode cX3_seal 146 = .ok (.aload_n 0, 1) := by decide +kernel
theorem dX3_seal_147 : decode cX3_seal 147 = .ok (.getfield 82, 3) := by decide +kernel
theorem dX3_seal_150 : decode cX3_seal 150 = .ok (.aload_n 0, 1) := by decide +kernel
theorem dX3_seal_151 : decode cX3_seal 151 = .ok (.getfield 28, 3) := by decide +kernel
theorem dX3_seal_154 : decode cX3_seal 154 = .ok (.iload_n 1, 1) := by decide +kernel
theorem dX3_seal_155 : decode cX3_seal 155 = .ok (.iaload, 1) := by decide +kernel
theorem dX3_seal_156 : decode cX3_seal 156 = .ok (.if_icmp .eq 14, 3) := by decide +kernel
theorem dX3_seal_159 : decode cX3_seal 159 = .ok (.aload_n 0, 1) := by decide +kernel
theorem dX3_seal_160 : decode cX3_seal 160 = .ok (.iload_n 1, 1) := by decide +kernel
theorem dX3_seal_161 : decode cX3_seal 161 = .ok (.iconst 5, 1) := by decide +kernel
theorem dX3_seal_162 : decode cX3_seal 162 = .ok (.aload_n 0, 1) := by decide +kernel
theorem dX3_seal_163 : decode cX3_seal 163 = .ok (.getfield 82, 3) := by decide +kernel
theorem dX3_seal_166 : decode cX3_seal 166 = .ok (.invokevirtual 72, 3) := by decide +kernel
theorem dX3_seal_169 : decode cX3_seal 169 = .ok (.ireturn, 1) := by decide +kernel
theorem dX3_seal_170 : decode cX3_seal 170 = .ok (.aload_n 0, 1) := by decide +kernel
theorem dX3_seal_171 : decode cX3_seal 171 = .ok (.aload_n 0, 1) := by decide +kernel
theorem dX3_seal_172 : decode cX3_seal 172 = .ok (.getfield 28, 3) := by decide +kernel
theorem dX3_seal_175 : decode cX3_seal 175 = .ok (.iload_n 1, 1) := by decide +kernel
theorem dX3_seal_176 : decode cX3_seal 176 = .ok (.iaload, 1) := by decide +kernel
theorem dX3_seal_177 : decode cX3_seal 177 = .ok (.iconst 1, 1) := by decide +kernel
theorem dX3_seal_178 : decode cX3_seal 178 = .ok (.iadd, 1) := by decide +kernel
theorem dX3_seal_179 : decode cX3_seal 179 = .ok (.putfield 82, 3) := by decide +kernel
theorem dX3_seal_182 : decode cX3_seal 182 = .ok (.aload_n 0, 1) := by decide +kernel
theorem dX3_seal_183 : decode cX3_seal 183 = .ok (.aload_n 0, 1) := by decide +kernel
theorem dX3_seal_184 : decode cX3_seal 184 = .ok (.getfield 49, 3) := by decide +kernel
theorem dX3_seal_187 : decode cX3_seal 187 = .ok (.iload_n 1, 1) := by decide +kernel
theorem dX3_seal_188 : decode cX3_seal 188 = .ok (.iaload, 1) := by decide +kernel
theorem dX3_seal_189 : decode cX3_seal 189 = .ok (.putfield 52, 3) := by decide +kernel
theorem dX3_seal_192 : decode cX3_seal 192 = .ok (.aload_n 0, 1) := by decide +kernel
theorem dX3_seal_193 : decode cX3_seal 193 = .ok (.aload_n 0, 1) := by decide +kernel
theorem dX3_seal_194 : decode cX3_seal 194 = .ok (.getfield 82, 3) := by decide +kernel
theorem dX3_seal_197 : decode cX3_seal 197 = .ok (.putfield 85, 3) := by decide +kernel
theorem dX3_seal_200 : decode cX3_seal 200 = .ok (.aload_n 0, 1) := by decide +kernel
theorem dX3_seal_201 : decode cX3_seal 201 = .ok (.aload_n 0, 1) := by decide +kernel
theorem dX3_seal_202 : decode cX3_seal 202 = .ok (.getfield 43, 3) := by decide +kernel
theorem dX3_seal_205 : decode cX3_seal 205 = .ok (.iload_n 1, 1) := by decide +kernel
theorem dX3_seal_206 : decode cX3_seal 206 = .ok (.iaload, 1) := by decide +kernel
theorem dX3_seal_207 : decode cX3_seal 207 = .ok (.putfield 88, 3) := by decide +kernel
theorem dX3_seal_210 : decode cX3_seal 210 = .ok (.aload_n 0, 1) := by decide +kernel
theorem dX3_seal_211 : decode cX3_seal 211 = .ok (.getfield 28, 3) := by decide +kernel
theorem dX3_seal_214 : decode cX3_seal 214 = .ok (.iload_n 1, 1) := by decide +kernel
theorem dX3_seal_215 : decode cX3_seal 215 = .ok (.aload_n 0, 1) := by decide +kernel
theorem dX3_seal_216 : decode cX3_seal 216 = .ok (.getfield 82, 3) := by decide +kernel
theorem dX3_seal_219 : decode cX3_seal 219 = .ok (.iastore, 1) := by decide +kernel
theorem dX3_seal_220 : decode cX3_seal 220 = .ok (.aload_n 0, 1) := by decide +kernel
theorem dX3_seal_221 : decode cX3_seal 221 = .ok (.getfield 31, 3) := by decide +kernel
theorem dX3_seal_224 : decode cX3_seal 224 = .ok (.iload_n 1, 1) := by decide +kernel
theorem dX3_seal_225 : decode cX3_seal 225 = .ok (.aload_n 0, 1) := by decide +kernel
theorem dX3_seal_226 : decode cX3_seal 226 = .ok (.getfield 52, 3) := by decide +kernel
theorem dX3_seal_229 : decode cX3_seal 229 = .ok (.iastore, 1) := by decide +kernel
theorem dX3_seal_230 : decode cX3_seal 230 = .ok (.aload_n 0, 1) := by decide +kernel
theorem dX3_seal_231 : decode cX3_seal 231 = .ok (.iload_n 1, 1) := by decide +kernel
theorem dX3_seal_232 : decode cX3_seal 232 = .ok (.iconst 1, 1) := by decide +kernel
theorem dX3_seal_233 : decode cX3_seal 233 = .ok (.aload_n 0, 1) := by decide +kernel
theorem dX3_seal_234 : decode cX3_seal 234 = .ok (.getfield 82, 3) := by decide +kernel
theorem dX3_seal_237 : decode cX3_seal 237 = .ok (.invokevirtual 72, 3) := by decide +kernel
theorem dX3_seal_240 : decode cX3_seal 240 = .ok (.ireturn, 1) := by decide +kernel
set_option maxRecDepth 20000 in
theorem ggX3_step_X3_seal : GoodIn wsX3_step wsX3_seal := goodIn_r _ [11, 12, 6, 13, 14, 3, 15, 16, 17, 18, 19, 20, 4, 5, 21, 22, 23, 10, 24, 25, 26, 27, 28, 1, 29, 30, 51, 52, 53, 54, 55, 56, 57, 58, 59, 60, 61, 62, 63, 64, 65, 66, 67, 68, 69] (by decide +kernel) (by decide +kernel)
set_option maxRecDepth 20000 in
theorem gX3_step_X3_seal : GoodIn wsX3_step (wsV RX3 91 RX3 yX3_seal wsX3_seal) := goodIn_app (goodIn_of _ (by decide +kernel)) ggX3_step_X3_seal
set_option maxRecDepth 20000 in
theorem ggX3_step_X3_atTail : GoodIn wsX3_step wsX3_atTail := goodIn_r _ [34, 1, 2, 12, 18, 21, 13, 14, 3, 25, 26, 27, 10, 28, 29, 30, 35, 36, 37, 22, 23, 24, 38, 39, 40, 41, 15, 16, 17, 42, 51, 52, 53, 54, 55, 56, 57, 58, 59, 60, 61, 62, 63, 64, 65, 66, 67, 68, 69] (by decide +kernel) (by decide +kernel)
set_option maxRecDepth 20000 in
theorem gX3_step_X3_atTail : GoodIn wsX3_step (wsV RX3 95 RX3 yX3_atTail wsX3_atTail) := goodIn_app (goodIn_of _ (by decide +kernel)) ggX3_step_X3_atTail
set_option maxRecDepth 20000 in
theorem ggX3_step_X3_alongChain : GoodIn wsX3_step wsX3_alongChain := goodIn_r _ [46, 21, 2, 6, 13, 14, 3, 1, 18, 35, 36, 10, 37, 22, 23, 24, 25, 26, 27, 28, 29, 30, 38, 39, 40, 41, 15, 16, 17, 42, 47, 48, 49, 50, 51, 52, 53, 54, 55, 56, 57, 58, 59, 60, 61, 62, 63, 64, 65, 66, 67, 68, 69] (by decide +kernel) (by decide +kernel)
set_option maxRecDepth 20000 in
theorem gX3_step_X3_alongChain : GoodIn wsX3_step (wsV RX3 98 RX3 yX3_alongChain wsX3_alongChain) := goodIn_app (goodIn_of _ (by decide +kernel)) ggX3_step_X3_alongChain
set_option maxRecDepth 20000 in
theorem ggX3_step_X3_end : GoodIn wsX3_step wsX3_end := goodIn_r _ [28, 1, 29, 30, 51, 52, 53, 54, 55, 56, 57, 58, 59, 60, 61, 62, 63, 64, 65, 66, 67, 68, 69] (by decide +kernel) (by decide +kernel)
set_option maxRecDepth 20000 in
theorem gX3_step_X3_end : GoodIn wsX3_step (wsV RX3 72 RX3 yX3_end wsX3_end) := goodIn_app (goodIn_of _ (by decide +kernel)) ggX3_step_X3_end
theorem dX3_step_0 : decode cX3_step 0 = .ok (.iload_n 1, 1) := by decide +kernel
theorem dX3_step_1 : decode cX3_step 1 = .ok (.ifCond .lt 8, 3) := by decide +kernel
theorem dX3_step_4 : decode cX3_step 4 = .ok (.iload_n 1, 1) := by decide +kernel
theorem dX3_step_5 : decode cX3_step 5 = .ok (.iconst 2, 1) := by decide +kernel
theorem dX3_step_6 : decode cX3_step 6 = .ok (.if_icmp .le 5, 3) := by decide +kernel
theorem dX3_step_9 : decode cX3_step 9 = .ok (.iconst (-1), 1) := by decide +kernel
theorem dX3_step_10 : decode cX3_step 10 = .ok (.ireturn, 1) := by decide +kernel
theorem dX3_step_11 : decode cX3_step 11 = .ok (.aload_n 0, 1) := by decide +kernel
theorem dX3_step_12 : decode cX3_step 12 = .ok (.getfield 25, 3) := by decide +kernel
theorem dX3_step_15 : decode cX3_step 15 = .ok (.iload_n 1, 1) := by decide +kernel
theorem dX3_step_16 : decode cX3_step 16 = .ok (.iaload, 1) := by decide +kernel
theorem dX3_step_17 : decode cX3_step 17 = .ok (.ifCond .ne 6, 3) := by decide +kernel
theorem dX3_step_20 : decode cX3_step 20 = .ok (.bipush (-2), 2) := by decide +kernel
theorem dX3_step_22 : decode cX3_step 22 = .ok (.ireturn, 1) := by decide +kernel
theorem dX3_step_23 : decode cX3_step 23 = .ok (.aload_n 0, 1) := by decide +kernel
theorem dX3_step_24 : decode cX3_step 24 = .ok (.getfield 25, 3) := by decide +kernel
theorem dX3_step_27 : decode cX3_step 27 = .ok (.iload_n 1, 1) := by decide +kernel
theorem dX3_step_28 : decode cX3_step 28 = .ok (.iaload, 1) := by decide +kernel
theorem dX3_step_29 : decode cX3_step 29 = .ok (.iconst 5, 1) := by decide +kernel
theorem dX3_step_30 : decode cX3_step 30 = .ok (.if_icmp .ne 9, 3) := by decide +kernel
theorem dX3_step_33 : decode cX3_step 33 = .ok (.aload_n 0, 1) := by decide +kernel
theorem dX3_step_34 : decode cX3_step 34 = .ok (.iload_n 1, 1) := by decide +kernel
theorem dX3_step_35 : decode cX3_step 35 = .ok (.invokevirtual 91, 3) := by decide +kernel
theorem dX3_step_38 : decode cX3_step 38 = .ok (.ireturn, 1) := by decide +kernel
theorem dX3_step_39 : decode cX3_step 39 = .ok (.aload_n 0, 1) := by decide +kernel
theorem dX3_step_40 : decode cX3_step 40 = .ok (.getfield 25, 3) := by decide +kernel
theorem dX3_step_43 : decode cX3_step 43 = .ok (.iload_n 1, 1) := by decide +kernel
theorem dX3_step_44 : decode cX3_step 44 = .ok (.iaload, 1) := by decide +kernel
theorem dX3_step_45 : decode cX3_step 45 = .ok (.iconst 3, 1) := by decide +kernel
theorem dX3_step_46 : decode cX3_step 46 = .ok (.if_icmp .eq 13, 3) := by decide +kernel
theorem dX3_step_49 : decode cX3_step 49 = .ok (.aload_n 0, 1) := by decide +kernel
theorem dX3_step_50 : decode cX3_step 50 = .ok (.getfield 25, 3) := by decide +kernel
theorem dX3_step_53 : decode cX3_step 53 = .ok (.iload_n 1, 1) := by decide +kernel
theorem dX3_step_54 : decode cX3_step 54 = .ok (.iaload, 1) := by decide +kernel
theorem dX3_step_55 : decode cX3_step 55 = .ok (.iconst 4, 1) := by decide +kernel
theorem dX3_step_56 : decode cX3_step 56 = .ok (.if_icmp .ne 9, 3) := by decide +kernel
theorem dX3_step_59 : decode cX3_step 59 = .ok (.aload_n 0, 1) := by decide +kernel
theorem dX3_step_60 : decode cX3_step 60 = .ok (.iload_n 1, 1) := by decide +kernel
theorem dX3_step_61 : decode cX3_step 61 = .ok (.invokevirtual 95, 3) := by decide +kernel
theorem dX3_step_64 : decode cX3_step 64 = .ok (.ireturn, 1) := by decide +kernel
theorem dX3_step_65 : decode cX3_step 65 = .ok (.aload_n 0, 1) := by decide +kernel
theorem dX3_step_66 : decode cX3_step 66 = .ok (.getfield 25, 3) := by decide +kernel
theorem dX3_step_69 : decode cX3_step 69 = .ok (.iload_n 1, 1) := by decide +kernel
theorem dX3_step_70 : decode cX3_step 70 = .ok (.iaload, 1) := by decide +kernel
theorem dX3_step_71 : decode cX3_step 71 = .ok (.iconst 2, 1) := by decide +kernel
theorem dX3_step_72 : decode cX3_step 72 = .ok (.if_icmp .eq 12, 3) := by decide +kernel
theorem dX3_step_75 : decode cX3_step 75 = .ok (.aload_n 0, 1) := by decide +kernel
theorem dX3_step_76 : decode cX3_step 76 = .ok (.getfield 40, 3) := by decide +kernel
theorem dX3_step_79 : decode cX3_step 79 = .ok (.iload_n 1, 1) := by decide +kernel
theorem dX3_step_80 : decode cX3_step 80 = .ok (.iaload, 1) := by decide +kernel
theorem dX3_step_81 : decode cX3_step 81 = .ok (.ifCond .lt 9, 3) := by decide +kernel
theorem dX3_step_84 : decode cX3_step 84 = .ok (.aload_n 0, 1) := by decide +kernel
theorem dX3_step_85 : decode cX3_step 85 = .ok (.iload_n 1, 1) := by decide +kernel
theorem dX3_step_86 : decode cX3_step 86 = .ok (.invokevirtual 98, 3) := by decide +kernel
theorem dX3_step_89 : decode cX3_step 89 = .ok (.ireturn, 1) := by decide +kernel
theorem dX3_step_90 : decode cX3_step 90 = .ok (.aload_n 0, 1) := by decide +kernel
theorem dX3_step_91 : decode cX3_step 91 = .ok (.getfield 28, 3) := by decide +kernel
theorem dX3_step_94 : decode cX3_step 94 = .ok (.iload_n 1, 1) := by decide +kernel
theorem dX3_step_95 : decode cX3_step 95 = .ok (.iaload, 1) := by decide +kernel
theorem dX3_step_96 : decode cX3_step 96 = .ok (.aload_n 0, 1) := by decide +kernel
theorem dX3_step_97 : decode cX3_step 97 = .ok (.getfield 85, 3) := by decide +kernel
theorem dX3_step_100 : decode cX3_step 100 = .ok (.if_icmp .eq 11, 3) := by decide +kernel
theorem dX3_step_103 : decode cX3_step 103 = .ok (.aload_n 0, 1) := by decide +kernel
theorem dX3_step_104 : decode cX3_step 104 = .ok (.iload_n 1, 1) := by decide +kernel
theorem dX3_step_105 : decode cX3_step 105 = .ok (.iconst 2, 1) := by decide +kernel
theorem dX3_step_106 : decode cX3_step 106 = .ok (.iconst 0, 1) := by decide +kernel
theorem dX3_step_107 : decode cX3_step 107 = .ok (.invokevirtual 72, 3) := by decide +kernel
theorem dX3_step_110 : decode cX3_step 110 = .ok (.ireturn, 1) := by decide +kernel
theorem dX3_step_111 : decode cX3_step 111 = .ok (.aload_n 0, 1) := by decide +kernel
theorem dX3_step_112 : decode cX3_step 112 = .ok (.getfield 88, 3) := by decide +kernel
theorem dX3_step_115 : decode cX3_step 115 = .ok (.bipush 32, 2) := by decide +kernel
theorem dX3_step_117 : decode cX3_step 117 = .ok (.if_icmp .ne 11, 3) := by decide +kernel
theorem dX3_step_120 : decode cX3_step 120 = .ok (.aload_n 0, 1) := by decide +kernel
theorem dX3_step_121 : decode cX3_step 121 = .ok (.iload_n 1, 1) := by decide +kernel
theorem dX3_step_122 : decode cX3_step 122 = .ok (.iconst 4, 1) := by decide +kernel
theorem dX3_step_123 : decode cX3_step 123 = .ok (.iconst 0, 1) := by decide +kernel
theorem dX3_step_124 : decode cX3_step 124 = .ok (.invokevirtual 72, 3) := by decide +kernel
theorem dX3_step_127 : decode cX3_step 127 = .ok (.ireturn, 1) := by decide +kernel
theorem dX3_step_128 : decode cX3_step 128 = .ok (.aload_n 0, 1) := by decide +kernel
theorem dX3_step_129 : decode cX3_step 129 = .ok (.getfield 40, 3) := by decide +kernel
theorem dX3_step_132 : decode cX3_step 132 = .ok (.iload_n 1, 1) := by decide +kernel
theorem dX3_step_133 : decode cX3_step 133 = .ok (.aload_n 0, 1) := by decide +kernel
theorem dX3_step_134 : decode cX3_step 134 = .ok (.getfield 88, 3) := by decide +kernel
theorem dX3_step_137 : decode cX3_step 137 = .ok (.iastore, 1) := by decide +kernel
theorem dX3_step_138 : decode cX3_step 138 = .ok (.aload_n 0, 1) := by decide +kernel
theorem dX3_step_139 : decode cX3_step 139 = .ok (.aload_n 0, 1) := by decide +kernel
theorem dX3_step_140 : decode cX3_step 140 = .ok (.getfield 88, 3) := by decide +kernel
theorem dX3_step_143 : decode cX3_step 143 = .ok (.iconst 1, 1) := by decide +kernel
theorem dX3_step_144 : decode cX3_step 144 = .ok (.iadd, 1) := by decide +kernel
theorem dX3_step_145 : decode cX3_step 145 = .ok (.putfield 88, 3) := by decide +kernel
theorem dX3_step_148 : decode cX3_step 148 = .ok (.aload_n 0, 1) := by decide +kernel
theorem dX3_step_149 : decode cX3_step 149 = .ok (.getfield 46, 3) := by decide +kernel
theorem dX3_step_152 : decode cX3_step 152 = .ok (.iload_n 1, 1) := by decide +kernel
theorem dX3_step_153 : decode cX3_step 153 = .ok (.iconst 0, 1) := by decide +kernel
theorem dX3_step_154 : decode cX3_step 154 = .ok (.iastore, 1) := by decide +kernel
theorem dX3_step_155 : decode cX3_step 155 = .ok (.iconst 0, 1) := by decide +kernel
theorem dX3_step_156 : decode cX3_step 156 = .ok (.ireturn, 1) := by decide +kernel
theorem dX3_refresh_0 : decode cX3_refresh 0 = .ok (.iload_n 1, 1) := by decide +kernel
theorem dX3_refresh_1 : decode cX3_refresh 1 = .ok (.ifCond .lt 8, 3) := by decide +kernel
theorem dX3_refresh_4 : decode cX3_refresh 4 = .ok (.iload_n 1, 1) := by decide +kernel
theorem dX3_refresh_5 : decode cX3_refresh 5 = .ok (.iconst 2, 1) := by decide +kernel
theorem dX3_refresh_6 : decode cX3_refresh 6 = .ok (.if_icmp .le 5, 3) := by decide +kernel
theorem dX3_refresh_9 : decode cX3_refresh 9 = .ok (.iconst (-1), 1) := by decide +kernel
theorem dX3_refresh_10 : decode cX3_refresh 10 = .ok (.ireturn, 1) := by decide +kernel
theorem dX3_refresh_11 : decode cX3_refresh 11 = .ok (.aload_n 0, 1) := by decide +kernel
theorem dX3_refresh_12 : decode cX3_refresh 12 = .ok (.getfield 25, 3) := by decide +kernel
theorem dX3_refresh_15 : decode cX3_refresh 15 = .ok (.iload_n 1, 1) := by decide +kernel
theorem dX3_refresh_16 : decode cX3_refresh 16 = .ok (.iaload, 1) := by decide +kernel
theorem dX3_refresh_17 : decode cX3_refresh 17 = .ok (.ifCond .eq 6, 3) := by decide +kernel
theorem dX3_refresh_20 : decode cX3_refresh 20 = .ok (.bipush (-2), 2) := by decide +kernel
theorem dX3_refresh_22 : decode cX3_refresh 22 = .ok (.ireturn, 1) := by decide +kernel
theorem dX3_refresh_23 : decode cX3_refresh 23 = .ok (.aload_n 0, 1) := by decide +kernel
theorem dX3_refresh_24 : decode cX3_refresh 24 = .ok (.getfield 28, 3) := by decide +kernel
theorem dX3_refresh_27 : decode cX3_refresh 27 = .ok (.iload_n 1, 1) := by decide +kernel
theorem dX3_refresh_28 : decode cX3_refresh 28 = .ok (.aload_n 0, 1) := by decide +kernel
theorem dX3_refresh_29 : decode cX3_refresh 29 = .ok (.getfield 82, 3) := by decide +kernel
theorem dX3_refresh_32 : decode cX3_refresh 32 = .ok (.iastore, 1) := by decide +kernel
theorem dX3_refresh_33 : decode cX3_refresh 33 = .ok (.aload_n 0, 1) := by decide +kernel
theorem dX3_refresh_34 : decode cX3_refresh 34 = .ok (.getfield 31, 3) := by decide +kernel
theorem dX3_refresh_37 : decode cX3_refresh 37 = .ok (.iload_n 1, 1) := by decide +kernel
theorem dX3_refresh_38 : decode cX3_refresh 38 = .ok (.aload_n 0, 1) := by decide +kernel
theorem dX3_refresh_39 : decode cX3_refresh 39 = .ok (.getfield 52, 3) := by decide +kernel
theorem dX3_refresh_42 : decode cX3_refresh 42 = .ok (.iastore, 1) := by decide +kernel
theorem dX3_refresh_43 : decode cX3_refresh 43 = .ok (.aload_n 0, 1) := by decide +kernel
theorem dX3_refresh_44 : decode cX3_refresh 44 = .ok (.getfield 82, 3) := by decide +kernel
theorem dX3_refresh_47 : decode cX3_refresh 47 = .ok (.ireturn, 1) := by decide +kernel
theorem dX3_setUp_0 : decode cX3_setUp 0 = .ok (.iload_n 1, 1) := by decide +kernel
theorem dX3_setUp_1 : decode cX3_setUp 1 = .ok (.ifCond .lt 8, 3) := by decide +kernel
theorem dX3_setUp_4 : decode cX3_setUp 4 = .ok (.iload_n 1, 1) := by decide +kernel
theorem dX3_setUp_5 : decode cX3_setUp 5 = .ok (.iconst 5, 1) := by decide +kernel
theorem dX3_setUp_6 : decode cX3_setUp 6 = .ok (.if_icmp .le 5, 3) := by decide +kernel
theorem dX3_setUp_9 : decode cX3_setUp 9 = .ok (.iconst 0, 1) := by decide +kernel
theorem dX3_setUp_10 : decode cX3_setUp 10 = .ok (.ireturn, 1) := by decide +kernel
theorem dX3_setUp_11 : decode cX3_setUp 11 = .ok (.aload_n 0, 1) := by decide +kernel
theorem dX3_setUp_12 : decode cX3_setUp 12 = .ok (.getfield 22, 3) := by decide +kernel
theorem dX3_setUp_15 : decode cX3_setUp 15 = .ok (.iload_n 1, 1) := by decide +kernel
theorem dX3_setUp_16 : decode cX3_setUp 16 = .ok (.iload_n 2, 1) := by decide +kernel
theorem dX3_setUp_17 : decode cX3_setUp 17 = .ok (.ifCond .eq 7, 3) := by decide +kernel
theorem dX3_setUp_20 : decode cX3_setUp 20 = .ok (.iconst 0, 1) := by decide +kernel
theorem dX3_setUp_21 : decode cX3_setUp 21 = .ok (.goto 4, 3) := by decide +kernel
theorem dX3_setUp_24 : decode cX3_setUp 24 = .ok (.iconst 1, 1) := by decide +kernel
theorem dX3_setUp_25 : decode cX3_setUp 25 = .ok (.iastore, 1) := by decide +kernel
theorem dX3_setUp_26 : decode cX3_setUp 26 = .ok (.iconst 1, 1) := by decide +kernel
theorem dX3_setUp_27 : decode cX3_setUp 27 = .ok (.ireturn, 1) := by decide +kernel
theorem dX3_loseSequencer_0 : decode cX3_loseSequencer 0 = .ok (.aload_n 0, 1) := by decide +kernel
theorem dX3_loseSequencer_1 : decode cX3_loseSequencer 1 = .ok (.iconst 0, 1) := by decide +kernel
theorem dX3_loseSequencer_2 : decode cX3_loseSequencer 2 = .ok (.putfield 88, 3) := by decide +kernel
theorem dX3_loseSequencer_5 : decode cX3_loseSequencer 5 = .ok (.return_, 1) := by decide +kernel
theorem dX3_busy_0 : decode cX3_busy 0 = .ok (.iload_n 1, 1) := by decide +kernel
theorem dX3_busy_1 : decode cX3_busy 1 = .ok (.ifCond .lt 8, 3) := by decide +kernel
theorem dX3_busy_4 : decode cX3_busy 4 = .ok (.iload_n 1, 1) := by decide +kernel
theorem dX3_busy_5 : decode cX3_busy 5 = .ok (.iconst 2, 1) := by decide +kernel
theorem dX3_busy_6 : decode cX3_busy 6 = .ok (.if_icmp .le 8, 3) := by decide +kernel
theorem dX3_busy_9 : decode cX3_busy 9 = .ok (.bipush (-9), 2) := by decide +kernel
theorem dX3_busy_11 : decode cX3_busy 11 = .ok (.goto 9, 3) := by decide +kernel
theorem dX3_busy_14 : decode cX3_busy 14 = .ok (.aload_n 0, 1) := by decide +kernel
theorem dX3_busy_15 : decode cX3_busy 15 = .ok (.getfield 25, 3) := by decide +kernel
theorem dX3_busy_18 : decode cX3_busy 18 = .ok (.iload_n 1, 1) := by decide +kernel
theorem dX3_busy_19 : decode cX3_busy 19 = .ok (.iaload, 1) := by decide +kernel
theorem dX3_busy_20 : decode cX3_busy 20 = .ok (.ireturn, 1) := by decide +kernel
theorem dX3_outcome_0 : decode cX3_outcome 0 = .ok (.iload_n 1, 1) := by decide +kernel
theorem dX3_outcome_1 : decode cX3_outcome 1 = .ok (.ifCond .lt 8, 3) := by decide +kernel
theorem dX3_outcome_4 : decode cX3_outcome 4 = .ok (.iload_n 1, 1) := by decide +kernel
theorem dX3_outcome_5 : decode cX3_outcome 5 = .ok (.iconst 2, 1) := by decide +kernel
theorem dX3_outcome_6 : decode cX3_outcome 6 = .ok (.if_icmp .le 8, 3) := by decide +kernel
theorem dX3_outcome_9 : decode cX3_outcome 9 = .ok (.bipush (-9), 2) := by decide +kernel
theorem dX3_outcome_11 : decode cX3_outcome 11 = .ok (.goto 9, 3) := by decide +kernel
theorem dX3_outcome_14 : decode cX3_outcome 14 = .ok (.aload_n 0, 1) := by decide +kernel
theorem dX3_outcome_15 : decode cX3_outcome 15 = .ok (.getfield 34, 3) := by decide +kernel
theorem dX3_outcome_18 : decode cX3_outcome 18 = .ok (.iload_n 1, 1) := by decide +kernel
theorem dX3_outcome_19 : decode cX3_outcome 19 = .ok (.iaload, 1) := by decide +kernel
theorem dX3_outcome_20 : decode cX3_outcome 20 = .ok (.ireturn, 1) := by decide +kernel
theorem dX3_number_0 : decode cX3_number 0 = .ok (.iload_n 1, 1) := by decide +kernel
theorem dX3_number_1 : decode cX3_number 1 = .ok (.ifCond .lt 8, 3) := by decide +kernel
theorem dX3_number_4 : decode cX3_number 4 = .ok (.iload_n 1, 1) := by decide +kernel
theorem dX3_number_5 : decode cX3_number 5 = .ok (.iconst 2, 1) := by decide +kernel
theorem dX3_number_6 : decode cX3_number 6 = .ok (.if_icmp .le 8, 3) := by decide +kernel
theorem dX3_number_9 : decode cX3_number 9 = .ok (.bipush (-9), 2) := by decide +kernel
theorem dX3_number_11 : decode cX3_number 11 = .ok (.goto 9, 3) := by decide +kernel
theorem dX3_number_14 : decode cX3_number 14 = .ok (.aload_n 0, 1) := by decide +kernel
theorem dX3_number_15 : decode cX3_number 15 = .ok (.getfield 37, 3) := by decide +kernel
theorem dX3_number_18 : decode cX3_number 18 = .ok (.iload_n 1, 1) := by decide +kernel
theorem dX3_number_19 : decode cX3_number 19 = .ok (.iaload, 1) := by decide +kernel
theorem dX3_number_20 : decode cX3_number 20 = .ok (.ireturn, 1) := by decide +kernel
theorem dX3_epochOf_0 : decode cX3_epochOf 0 = .ok (.iload_n 1, 1) := by decide +kernel
theorem dX3_epochOf_1 : decode cX3_epochOf 1 = .ok (.ifCond .lt 8, 3) := by decide +kernel
theorem dX3_epochOf_4 : decode cX3_epochOf 4 = .ok (.iload_n 1, 1) := by decide +kernel
theorem dX3_epochOf_5 : decode cX3_epochOf 5 = .ok (.iconst 2, 1) := by decide +kernel
theorem dX3_epochOf_6 : decode cX3_epochOf 6 = .ok (.if_icmp .le 8, 3) := by decide +kernel
theorem dX3_epochOf_9 : decode cX3_epochOf 9 = .ok (.bipush (-9), 2) := by decide +kernel
theorem dX3_epochOf_11 : decode cX3_epochOf 11 = .ok (.goto 9, 3) := by decide +kernel
theorem dX3_epochOf_14 : decode cX3_epochOf 14 = .ok (.aload_n 0, 1) := by decide +kernel
theorem dX3_epochOf_15 : decode cX3_epochOf 15 = .ok (.getfield 28, 3) := by decide +kernel
theorem dX3_epochOf_18 : decode cX3_epochOf 18 = .ok (.iload_n 1, 1) := by decide +kernel
theorem dX3_epochOf_19 : decode cX3_epochOf 19 = .ok (.iaload, 1) := by decide +kernel
theorem dX3_epochOf_20 : decode cX3_epochOf 20 = .ok (.ireturn, 1) := by decide +kernel
theorem dX3_membersOf_0 : decode cX3_membersOf 0 = .ok (.iload_n 1, 1) := by decide +kernel
theorem dX3_membersOf_1 : decode cX3_membersOf 1 = .ok (.ifCond .lt 8, 3) := by decide +kernel
theorem dX3_membersOf_4 : decode cX3_membersOf 4 = .ok (.iload_n 1, 1) := by decide +kernel
theorem dX3_membersOf_5 : decode cX3_membersOf 5 = .ok (.iconst 2, 1) := by decide +kernel
theorem dX3_membersOf_6 : decode cX3_membersOf 6 = .ok (.if_icmp .le 8, 3) := by decide +kernel
theorem dX3_membersOf_9 : decode cX3_membersOf 9 = .ok (.bipush (-9), 2) := by decide +kernel
theorem dX3_membersOf_11 : decode cX3_membersOf 11 = .ok (.goto 9, 3) := by decide +kernel
theorem dX3_membersOf_14 : decode cX3_membersOf 14 = .ok (.aload_n 0, 1) := by decide +kernel
theorem dX3_membersOf_15 : decode cX3_membersOf 15 = .ok (.getfield 31, 3) := by decide +kernel
theorem dX3_membersOf_18 : decode cX3_membersOf 18 = .ok (.iload_n 1, 1) := by decide +kernel
theorem dX3_membersOf_19 : decode cX3_membersOf 19 = .ok (.iaload, 1) := by decide +kernel
theorem dX3_membersOf_20 : decode cX3_membersOf 20 = .ok (.ireturn, 1) := by decide +kernel
theorem dX3_tail_0 : decode cX3_tail 0 = .ok (.aload_n 0, 1) := by decide +kernel
theorem dX3_tail_1 : decode cX3_tail 1 = .ok (.getfield 88, 3) := by decide +kernel
theorem dX3_tail_4 : decode cX3_tail 4 = .ok (.ireturn, 1) := by decide +kernel
theorem dX3_unitEpoch_0 : decode cX3_unitEpoch 0 = .ok (.iload_n 1, 1) := by decide +kernel
theorem dX3_unitEpoch_1 : decode cX3_unitEpoch 1 = .ok (.ifCond .lt 8, 3) := by decide +kernel
theorem dX3_unitEpoch_4 : decode cX3_unitEpoch 4 = .ok (.iload_n 1, 1) := by decide +kernel
theorem dX3_unitEpoch_5 : decode cX3_unitEpoch 5 = .ok (.iconst 5, 1) := by decide +kernel
theorem dX3_unitEpoch_6 : decode cX3_unitEpoch 6 = .ok (.if_icmp .le 8, 3) := by decide +kernel
theorem dX3_unitEpoch_9 : decode cX3_unitEpoch 9 = .ok (.bipush (-9), 2) := by decide +kernel
theorem dX3_unitEpoch_11 : decode cX3_unitEpoch 11 = .ok (.goto 9, 3) := by decide +kernel
theorem dX3_unitEpoch_14 : decode cX3_unitEpoch 14 = .ok (.aload_n 0, 1) := by decide +kernel
theorem dX3_unitEpoch_15 : decode cX3_unitEpoch 15 = .ok (.getfield 19, 3) := by decide +kernel
theorem dX3_unitEpoch_18 : decode cX3_unitEpoch 18 = .ok (.iload_n 1, 1) := by decide +kernel
theorem dX3_unitEpoch_19 : decode cX3_unitEpoch 19 = .ok (.iaload, 1) := by decide +kernel
theorem dX3_unitEpoch_20 : decode cX3_unitEpoch 20 = .ok (.ireturn, 1) := by decide +kernel
set_option maxRecDepth 20000 in
theorem ggX3_cell_X3_look : GoodIn wsX3_cell wsX3_look := goodIn_r _ [5, 6, 7, 8, 9, 10, 11, 12, 13, 14, 15, 16, 17, 18, 19, 20, 21, 22, 23, 24, 25, 26, 27, 28] (by decide +kernel) (by decide +kernel)
set_option maxRecDepth 20000 in
theorem gX3_cell_X3_look : GoodIn wsX3_cell (wsV RX3 75 RX3 yX3_look wsX3_look) := goodIn_app (goodIn_of _ (by decide +kernel)) ggX3_cell_X3_look
theorem dX3_cell_0 : decode cX3_cell 0 = .ok (.iload_n 1, 1) := by decide +kernel
theorem dX3_cell_1 : decode cX3_cell 1 = .ok (.ifCond .lt 18, 3) := by decide +kernel
theorem dX3_cell_4 : decode cX3_cell 4 = .ok (.iload_n 1, 1) := by decide +kernel
theorem dX3_cell_5 : decode cX3_cell 5 = .ok (.iconst 5, 1) := by decide +kernel
theorem dX3_cell_6 : decode cX3_cell 6 = .ok (.if_icmp .gt 13, 3) := by decide +kernel
theorem dX3_cell_9 : decode cX3_cell 9 = .ok (.iload_n 2, 1) := by decide +kernel
theorem dX3_cell_10 : decode cX3_cell 10 = .ok (.ifCond .lt 9, 3) := by decide +kernel
theorem dX3_cell_13 : decode cX3_cell 13 = .ok (.iload_n 2, 1) := by decide +kernel
theorem dX3_cell_14 : decode cX3_cell 14 = .ok (.bipush 31, 2) := by decide +kernel
theorem dX3_cell_16 : decode cX3_cell 16 = .ok (.if_icmp .le 8, 3) := by decide +kernel
theorem dX3_cell_19 : decode cX3_cell 19 = .ok (.bipush (-9), 2) := by decide +kernel
theorem dX3_cell_21 : decode cX3_cell 21 = .ok (.goto 9, 3) := by decide +kernel
theorem dX3_cell_24 : decode cX3_cell 24 = .ok (.aload_n 0, 1) := by decide +kernel
theorem dX3_cell_25 : decode cX3_cell 25 = .ok (.iload_n 1, 1) := by decide +kernel
theorem dX3_cell_26 : decode cX3_cell 26 = .ok (.iload_n 2, 1) := by decide +kernel
theorem dX3_cell_27 : decode cX3_cell 27 = .ok (.invokevirtual 75, 3) := by decide +kernel
theorem dX3_cell_30 : decode cX3_cell 30 = .ok (.ireturn, 1) := by decide +kernel
theorem dJ9_max_7cf53_0 : decode cJ9_max_7cf53 0 = .ok (.iload_n 0, 1) := by decide +kernel
theorem dJ9_max_7cf53_1 : decode cJ9_max_7cf53 1 = .ok (.iload_n 1, 1) := by decide +kernel
theorem dJ9_max_7cf53_2 : decode cJ9_max_7cf53 2 = .ok (.if_icmp .lt 7, 3) := by decide +kernel
theorem dJ9_max_7cf53_5 : decode cJ9_max_7cf53 5 = .ok (.iload_n 0, 1) := by decide +kernel
theorem dJ9_max_7cf53_6 : decode cJ9_max_7cf53 6 = .ok (.goto 4, 3) := by decide +kernel
theorem dJ9_max_7cf53_9 : decode cJ9_max_7cf53 9 = .ok (.iload_n 1, 1) := by decide +kernel
theorem dJ9_max_7cf53_10 : decode cJ9_max_7cf53 10 = .ok (.ireturn, 1) := by decide +kernel
set_option maxRecDepth 20000 in
theorem ggL_law_X2_init : GoodIn wsL_law wsX2_init := goodIn_r _ [8, 9, 10, 11, 12, 13, 14, 15, 16, 17, 18, 19, 20, 21, 22, 23, 24, 25, 26, 27, 28, 29, 30, 31, 32, 33, 34, 35, 36, 37, 38, 39, 40, 41, 42, 43, 44, 45, 331, 332, 333, 334, 335, 336, 356, 357, 358, 359, 360, 361, 362, 363, 364, 365, 366, 367, 368, 369, 370] (by decide +kernel) (by decide +kernel)
set_option maxRecDepth 20000 in
theorem gL_law_X2_init : GoodIn wsL_law (wsX2_init) := ggL_law_X2_init
set_option maxRecDepth 20000 in
theorem ggL_law_X3_init : GoodIn wsL_law wsX3_init := goodIn_r _ [48, 49, 10, 11, 29, 50, 51, 52, 53, 54, 55, 56, 57, 58, 59, 60, 61, 62, 63, 64, 337, 338, 339, 340, 341, 342, 343, 344, 345, 346, 347, 348, 349, 350, 351, 352, 353, 354, 355] (by decide +kernel) (by decide +kernel)
set_option maxRecDepth 20000 in
theorem gL_law_X3_init : GoodIn wsL_law (wsX3_init) := ggL_law_X3_init
set_option maxRecDepth 20000 in
theorem ggL_law_X2_append : GoodIn wsL_law wsX2_append := goodIn_r _ [68, 69, 70, 71, 72, 2, 73, 15, 74, 23, 75, 76, 36, 39, 37, 38, 359, 360, 361, 362, 363, 364, 365, 366, 367, 368, 369, 370, 331, 332, 333, 334, 335, 336] (by decide +kernel) (by decide +kernel)
set_option maxRecDepth 20000 in
theorem gL_law_X2_append : GoodIn wsL_law (wsV RL 13 RX2 yX2_append wsX2_append) := goodIn_app (goodIn_of _ (by decide +kernel)) ggL_law_X2_append
set_option maxRecDepth 20000 in
theorem ggL_law_X3_append : GoodIn wsL_law wsX3_append := goodIn_r _ [80, 81, 61, 60, 82, 83, 84, 5, 85, 55, 58, 59, 62, 337, 338, 339, 340, 341, 342, 343, 344, 345, 346, 347, 348, 349, 350, 351, 352, 353, 354, 355] (by decide +kernel) (by decide +kernel)
set_option maxRecDepth 20000 in
theorem gL_law_X3_append : GoodIn wsL_law (wsV RL 17 RX3 yX3_append wsX3_append) := goodIn_app (goodIn_of _ (by decide +kernel)) ggL_law_X3_append
set_option maxRecDepth 20000 in
theorem ggL_law_X2_fill : GoodIn wsL_law wsX2_fill := goodIn_r _ [89, 70, 71, 72, 2, 73, 15, 90, 91, 92, 93, 23, 94, 95, 35, 74, 75, 76, 36, 39, 37, 38, 359, 360, 361, 362, 363, 364, 365, 366, 367, 368, 369, 370, 331, 332, 333, 334, 335, 336] (by decide +kernel) (by decide +kernel)
set_option maxRecDepth 20000 in
theorem gL_law_X2_fill : GoodIn wsL_law (wsV RL 18 RX2 yX2_fill wsX2_fill) := goodIn_app (goodIn_of _ (by decide +kernel)) ggL_law_X2_fill
set_option maxRecDepth 20000 in
theorem ggL_law_X3_fill : GoodIn wsL_law wsX3_fill := goodIn_r _ [99, 60, 82, 83, 84, 5, 85, 55, 58, 59, 62, 61, 337, 338, 339, 340, 341, 342, 343, 344, 345, 346, 347, 348, 349, 350, 351, 352, 353, 354, 355] (by decide +kernel) (by decide +kernel)
set_option maxRecDepth 20000 in
theorem gL_law_X3_fill : GoodIn wsL_law (wsV RL 21 RX3 yX3_fill wsX3_fill) := goodIn_app (goodIn_of _ (by decide +kernel)) ggL_law_X3_fill
set_option maxRecDepth 20000 in
theorem ggL_law_X2_read : GoodIn wsL_law wsX2_read := goodIn_r _ [103, 70, 71, 72, 2, 73, 15, 90, 91, 92, 93, 23, 94, 95, 35, 104, 105, 106, 74, 75, 76, 36, 39, 37, 38, 359, 360, 361, 362, 363, 364, 365, 366, 367, 368, 369, 370, 331, 332, 333, 334, 335, 336] (by decide +kernel) (by decide +kernel)
set_option maxRecDepth 20000 in
theorem gL_law_X2_read : GoodIn wsL_law (wsV RL 22 RX2 yX2_read wsX2_read) := goodIn_app (goodIn_of _ (by decide +kernel)) ggL_law_X2_read
set_option maxRecDepth 20000 in
theorem ggL_law_X3_read : GoodIn wsL_law wsX3_read := goodIn_r _ [110, 60, 82, 83, 84, 5, 85, 55, 58, 59, 62, 61, 337, 338, 339, 340, 341, 342, 343, 344, 345, 346, 347, 348, 349, 350, 351, 352, 353, 354, 355] (by decide +kernel) (by decide +kernel)
set_option maxRecDepth 20000 in
theorem gL_law_X3_read : GoodIn wsL_law (wsV RL 25 RX3 yX3_read wsX3_read) := goodIn_app (goodIn_of _ (by decide +kernel)) ggL_law_X3_read
set_option maxRecDepth 20000 in
theorem ggL_law_X2_replay : GoodIn wsL_law wsX2_replay := goodIn_r _ [114, 70, 71, 72, 2, 73, 15, 115, 23, 116, 117, 40, 42, 118, 93, 94, 95, 35, 105, 106, 74, 75, 76, 36, 39, 37, 38, 359, 360, 361, 362, 363, 364, 365, 366, 367, 368, 369, 370, 331, 332, 333, 334, 335, 336] (by decide +kernel) (by decide +kernel)
set_option maxRecDepth 20000 in
theorem gL_law_X2_replay : GoodIn wsL_law (wsV RL 26 RX2 yX2_replay wsX2_replay) := goodIn_app (goodIn_of _ (by decide +kernel)) ggL_law_X2_replay
set_option maxRecDepth 20000 in
theorem ggL_law_X3_replay : GoodIn wsL_law wsX3_replay := goodIn_r _ [122, 63, 82, 83, 84, 5, 85, 55, 58, 59, 62, 61, 60, 337, 338, 339, 340, 341, 342, 343, 344, 345, 346, 347, 348, 349, 350, 351, 352, 353, 354, 355] (by decide +kernel) (by decide +kernel)
set_option maxRecDepth 20000 in
theorem gL_law_X3_replay : GoodIn wsL_law (wsV RL 29 RX3 yX3_replay wsX3_replay) := goodIn_app (goodIn_of _ (by decide +kernel)) ggL_law_X3_replay
set_option maxRecDepth 20000 in
theorem ggL_law_X2_reform : GoodIn wsL_law wsX2_reform := goodIn_r _ [126, 70, 71, 72, 2, 73, 15, 74, 23, 75, 76, 36, 39, 37, 38, 359, 360, 361, 362, 363, 364, 365, 366, 367, 368, 369, 370, 331, 332, 333, 334, 335, 336] (by decide +kernel) (by decide +kernel)
set_option maxRecDepth 20000 in
theorem gL_law_X2_reform : GoodIn wsL_law (wsV RL 30 RX2 yX2_reform wsX2_reform) := goodIn_app (goodIn_of _ (by decide +kernel)) ggL_law_X2_reform
set_option maxRecDepth 20000 in
theorem ggL_law_X3_reform : GoodIn wsL_law wsX3_reform := goodIn_r _ [130, 55, 57, 63, 131, 132, 5, 133, 82, 83, 84, 85, 58, 59, 62, 61, 60, 337, 338, 339, 340, 341, 342, 343, 344, 345, 346, 347, 348, 349, 350, 351, 352, 353, 354, 355] (by decide +kernel) (by decide +kernel)
set_option maxRecDepth 20000 in
theorem gL_law_X3_reform : GoodIn wsL_law (wsV RL 33 RX3 yX3_reform wsX3_reform) := goodIn_app (goodIn_of _ (by decide +kernel)) ggL_law_X3_reform
set_option maxRecDepth 20000 in
theorem ggL_law_X2_step : GoodIn wsL_law wsX2_step := goodIn_r _ [137, 70, 71, 72, 2, 73, 15, 138, 139, 140, 141, 142, 143, 144, 13, 145, 146, 147, 148, 149, 150, 151, 152, 18, 19, 153, 23, 154, 155, 36, 37, 38, 93, 94, 95, 35, 156, 157, 158, 159, 16, 17, 160, 161, 162, 163, 164, 165, 166, 34, 167, 168, 169, 170, 171, 172, 173, 21, 174, 175, 30, 91, 92, 176, 177, 178, 39, 40, 118, 179, 180, 181, 182, 183, 184, 185, 186, 187, 188, 189, 190, 191, 192, 193, 194, 195, 196, 115, 116, 117, 42, 105, 106, 197, 198, 199, 200, 201, 202, 203, 204, 205, 206, 207, 359, 360, 361, 362, 363, 364, 365, 366, 367, 368, 369, 370, 356, 357, 358, 331, 332, 333, 334, 335, 336] (by decide +kernel) (by decide +kernel)
set_option maxRecDepth 20000 in
theorem gL_law_X2_step : GoodIn wsL_law (wsV RL 34 RX2 yX2_step wsX2_step) := goodIn_app (goodIn_of _ (by decide +kernel)) ggL_law_X2_step
set_option maxRecDepth 20000 in
theorem ggL_law_X3_step : GoodIn wsL_law wsX3_step := goodIn_r _ [211, 55, 60, 56, 212, 213, 62, 214, 215, 216, 5, 217, 63, 54, 53, 218, 50, 51, 61, 219, 64, 57, 220, 221, 222, 223, 224, 225, 226, 58, 59, 227, 228, 229, 230, 131, 132, 133, 231, 232, 233, 234, 52, 235, 236, 237, 238, 239, 240, 241, 242, 337, 338, 339, 340, 341, 342, 343, 344, 345, 346, 347, 348, 349, 350, 351, 352, 353, 354, 355] (by decide +kernel) (by decide +kernel)
set_option maxRecDepth 20000 in
theorem gL_law_X3_step : GoodIn wsL_law (wsV RL 38 RX3 yX3_step wsX3_step) := goodIn_app (goodIn_of _ (by decide +kernel)) ggL_law_X3_step
set_option maxRecDepth 20000 in
theorem ggL_law_X2_refresh : GoodIn wsL_law wsX2_refresh := goodIn_r _ [246, 70, 71, 72, 2, 73, 15, 160, 161, 162, 163, 16, 17, 359, 360, 361, 362, 363, 364, 365, 366, 367, 368, 369, 370, 331, 332, 333, 334, 335, 336] (by decide +kernel) (by decide +kernel)
set_option maxRecDepth 20000 in
theorem gL_law_X2_refresh : GoodIn wsL_law (wsV RL 39 RX2 yX2_refresh wsX2_refresh) := goodIn_app (goodIn_of _ (by decide +kernel)) ggL_law_X2_refresh
set_option maxRecDepth 20000 in
theorem ggL_law_X3_refresh : GoodIn wsL_law wsX3_refresh := goodIn_r _ [250, 55, 56, 219, 57, 64, 337, 338, 339, 340, 341, 342, 343, 344, 345, 346, 347, 348, 349, 350, 351, 352, 353, 354, 355] (by decide +kernel) (by decide +kernel)
set_option maxRecDepth 20000 in
theorem gL_law_X3_refresh : GoodIn wsL_law (wsV RL 42 RX3 yX3_refresh wsX3_refresh) := goodIn_app (goodIn_of _ (by decide +kernel)) ggL_law_X3_refresh
set_option maxRecDepth 20000 in
theorem ggL_law_X2_setUp : GoodIn wsL_law wsX2_setUp := goodIn_r _ [254, 141, 142, 143, 2, 144, 13, 356, 357, 358, 331, 332, 333, 334, 335, 336] (by decide +kernel) (by decide +kernel)
set_option maxRecDepth 20000 in
theorem gL_law_X2_setUp : GoodIn wsL_law (wsV RL 43 RX2 yX2_setUp wsX2_setUp) := goodIn_app (goodIn_of _ (by decide +kernel)) ggL_law_X2_setUp
set_option maxRecDepth 20000 in
theorem ggL_law_X3_setUp : GoodIn wsL_law wsX3_setUp := goodIn_r _ [258, 54, 337, 338, 339, 340, 341, 342, 343, 344, 345, 346, 347, 348, 349, 350, 351, 352, 353, 354, 355] (by decide +kernel) (by decide +kernel)
set_option maxRecDepth 20000 in
theorem gL_law_X3_setUp : GoodIn wsL_law (wsV RL 47 RX3 yX3_setUp wsX3_setUp) := goodIn_app (goodIn_of _ (by decide +kernel)) ggL_law_X3_setUp
set_option maxRecDepth 20000 in
theorem ggL_law_X2_loseSequencer : GoodIn wsL_law wsX2_loseSequencer := goodIn_r _ [262, 19, 331, 332, 333, 334, 335, 336] (by decide +kernel) (by decide +kernel)
set_option maxRecDepth 20000 in
theorem gL_law_X2_loseSequencer : GoodIn wsL_law (wsV RL 48 RX2 yX2_loseSequencer wsX2_loseSequencer) := goodIn_app (goodIn_of _ (by decide +kernel)) ggL_law_X2_loseSequencer
set_option maxRecDepth 20000 in
theorem ggL_law_X3_loseSequencer : GoodIn wsL_law wsX3_loseSequencer := goodIn_r _ [266, 213, 337, 338, 339, 340, 341, 342, 343, 344, 345, 346, 347, 348, 349, 350, 351, 352, 353, 354, 355] (by decide +kernel) (by decide +kernel)
set_option maxRecDepth 20000 in
theorem gL_law_X3_loseSequencer : GoodIn wsL_law (wsV RL 51 RX3 yX3_loseSequencer wsX3_loseSequencer) := goodIn_app (goodIn_of _ (by decide +kernel)) ggL_law_X3_loseSequencer
set_option maxRecDepth 20000 in
theorem ggL_law_X2_busy : GoodIn wsL_law wsX2_busy := goodIn_r _ [270, 70, 71, 72, 2, 73, 15, 359, 360, 361, 362, 363, 364, 365, 366, 367, 368, 369, 370, 331, 332, 333, 334, 335, 336] (by decide +kernel) (by decide +kernel)
set_option maxRecDepth 20000 in
theorem gL_law_X2_busy : GoodIn wsL_law (wsV RL 52 RX2 yX2_busy wsX2_busy) := goodIn_app (goodIn_of _ (by decide +kernel)) ggL_law_X2_busy
set_option maxRecDepth 20000 in
theorem ggL_law_X3_busy : GoodIn wsL_law wsX3_busy := goodIn_r _ [274, 55, 337, 338, 339, 340, 341, 342, 343, 344, 345, 346, 347, 348, 349, 350, 351, 352, 353, 354, 355] (by decide +kernel) (by decide +kernel)
set_option maxRecDepth 20000 in
theorem gL_law_X3_busy : GoodIn wsL_law (wsV RL 55 RX3 yX3_busy wsX3_busy) := goodIn_app (goodIn_of _ (by decide +kernel)) ggL_law_X3_busy
set_option maxRecDepth 20000 in
theorem ggL_law_X2_outcome : GoodIn wsL_law wsX2_outcome := goodIn_r _ [278, 70, 71, 72, 2, 73, 15, 359, 360, 361, 362, 363, 364, 365, 366, 367, 368, 369, 370, 331, 332, 333, 334, 335, 336] (by decide +kernel) (by decide +kernel)
set_option maxRecDepth 20000 in
theorem gL_law_X2_outcome : GoodIn wsL_law (wsV RL 56 RX2 yX2_outcome wsX2_outcome) := goodIn_app (goodIn_of _ (by decide +kernel)) ggL_law_X2_outcome
set_option maxRecDepth 20000 in
theorem ggL_law_X3_outcome : GoodIn wsL_law wsX3_outcome := goodIn_r _ [282, 58, 337, 338, 339, 340, 341, 342, 343, 344, 345, 346, 347, 348, 349, 350, 351, 352, 353, 354, 355] (by decide +kernel) (by decide +kernel)
set_option maxRecDepth 20000 in
theorem gL_law_X3_outcome : GoodIn wsL_law (wsV RL 59 RX3 yX3_outcome wsX3_outcome) := goodIn_app (goodIn_of _ (by decide +kernel)) ggL_law_X3_outcome
set_option maxRecDepth 20000 in
theorem ggL_law_X2_number : GoodIn wsL_law wsX2_number := goodIn_r _ [286, 70, 71, 72, 2, 73, 15, 359, 360, 361, 362, 363, 364, 365, 366, 367, 368, 369, 370, 331, 332, 333, 334, 335, 336] (by decide +kernel) (by decide +kernel)
set_option maxRecDepth 20000 in
theorem gL_law_X2_number : GoodIn wsL_law (wsV RL 60 RX2 yX2_number wsX2_number) := goodIn_app (goodIn_of _ (by decide +kernel)) ggL_law_X2_number
set_option maxRecDepth 20000 in
theorem ggL_law_X3_number : GoodIn wsL_law wsX3_number := goodIn_r _ [290, 59, 337, 338, 339, 340, 341, 342, 343, 344, 345, 346, 347, 348, 349, 350, 351, 352, 353, 354, 355] (by decide +kernel) (by decide +kernel)
set_option maxRecDepth 20000 in
theorem gL_law_X3_number : GoodIn wsL_law (wsV RL 63 RX3 yX3_number wsX3_number) := goodIn_app (goodIn_of _ (by decide +kernel)) ggL_law_X3_number
set_option maxRecDepth 20000 in
theorem ggL_law_X2_epochOf : GoodIn wsL_law wsX2_epochOf := goodIn_r _ [294, 70, 71, 72, 2, 73, 15, 359, 360, 361, 362, 363, 364, 365, 366, 367, 368, 369, 370, 331, 332, 333, 334, 335, 336] (by decide +kernel) (by decide +kernel)
set_option maxRecDepth 20000 in
theorem gL_law_X2_epochOf : GoodIn wsL_law (wsV RL 64 RX2 yX2_epochOf wsX2_epochOf) := goodIn_app (goodIn_of _ (by decide +kernel)) ggL_law_X2_epochOf
set_option maxRecDepth 20000 in
theorem ggL_law_X3_epochOf : GoodIn wsL_law wsX3_epochOf := goodIn_r _ [298, 56, 337, 338, 339, 340, 341, 342, 343, 344, 345, 346, 347, 348, 349, 350, 351, 352, 353, 354, 355] (by decide +kernel) (by decide +kernel)
set_option maxRecDepth 20000 in
theorem gL_law_X3_epochOf : GoodIn wsL_law (wsV RL 67 RX3 yX3_epochOf wsX3_epochOf) := goodIn_app (goodIn_of _ (by decide +kernel)) ggL_law_X3_epochOf
set_option maxRecDepth 20000 in
theorem ggL_law_X2_membersOf : GoodIn wsL_law wsX2_membersOf := goodIn_r _ [302, 70, 71, 72, 2, 73, 15, 359, 360, 361, 362, 363, 364, 365, 366, 367, 368, 369, 370, 331, 332, 333, 334, 335, 336] (by decide +kernel) (by decide +kernel)
set_option maxRecDepth 20000 in
theorem gL_law_X2_membersOf : GoodIn wsL_law (wsV RL 68 RX2 yX2_membersOf wsX2_membersOf) := goodIn_app (goodIn_of _ (by decide +kernel)) ggL_law_X2_membersOf
set_option maxRecDepth 20000 in
theorem ggL_law_X3_membersOf : GoodIn wsL_law wsX3_membersOf := goodIn_r _ [306, 57, 337, 338, 339, 340, 341, 342, 343, 344, 345, 346, 347, 348, 349, 350, 351, 352, 353, 354, 355] (by decide +kernel) (by decide +kernel)
set_option maxRecDepth 20000 in
theorem gL_law_X3_membersOf : GoodIn wsL_law (wsV RL 71 RX3 yX3_membersOf wsX3_membersOf) := goodIn_app (goodIn_of _ (by decide +kernel)) ggL_law_X3_membersOf
set_option maxRecDepth 20000 in
theorem ggL_law_X2_tail : GoodIn wsL_law wsX2_tail := goodIn_r _ [310, 19, 331, 332, 333, 334, 335, 336] (by decide +kernel) (by decide +kernel)
set_option maxRecDepth 20000 in
theorem gL_law_X2_tail : GoodIn wsL_law (wsV RL 72 RX2 yX2_tail wsX2_tail) := goodIn_app (goodIn_of _ (by decide +kernel)) ggL_law_X2_tail
set_option maxRecDepth 20000 in
theorem ggL_law_X3_tail : GoodIn wsL_law wsX3_tail := goodIn_r _ [314, 213, 337, 338, 339, 340, 341, 342, 343, 344, 345, 346, 347, 348, 349, 350, 351, 352, 353, 354, 355] (by decide +kernel) (by decide +kernel)
set_option maxRecDepth 20000 in
theorem gL_law_X3_tail : GoodIn wsL_law (wsV RL 76 RX3 yX3_tail wsX3_tail) := goodIn_app (goodIn_of _ (by decide +kernel)) ggL_law_X3_tail
set_option maxRecDepth 20000 in
theorem ggL_law_X2_unitEpoch : GoodIn wsL_law wsX2_unitEpoch := goodIn_r _ [318, 141, 142, 143, 2, 144, 13, 356, 357, 358, 331, 332, 333, 334, 335, 336] (by decide +kernel) (by decide +kernel)
set_option maxRecDepth 20000 in
theorem gL_law_X2_unitEpoch : GoodIn wsL_law (wsV RL 77 RX2 yX2_unitEpoch wsX2_unitEpoch) := goodIn_app (goodIn_of _ (by decide +kernel)) ggL_law_X2_unitEpoch
set_option maxRecDepth 20000 in
theorem ggL_law_X3_unitEpoch : GoodIn wsL_law wsX3_unitEpoch := goodIn_r _ [322, 53, 337, 338, 339, 340, 341, 342, 343, 344, 345, 346, 347, 348, 349, 350, 351, 352, 353, 354, 355] (by decide +kernel) (by decide +kernel)
set_option maxRecDepth 20000 in
theorem gL_law_X3_unitEpoch : GoodIn wsL_law (wsV RL 80 RX3 yX3_unitEpoch wsX3_unitEpoch) := goodIn_app (goodIn_of _ (by decide +kernel)) ggL_law_X3_unitEpoch
set_option maxRecDepth 20000 in
theorem ggL_law_X2_cell : GoodIn wsL_law wsX2_cell := goodIn_r _ [326, 141, 142, 143, 2, 144, 13, 173, 21, 174, 175, 30, 91, 92, 331, 332, 333, 334, 335, 336, 356, 357, 358] (by decide +kernel) (by decide +kernel)
set_option maxRecDepth 20000 in
theorem gL_law_X2_cell : GoodIn wsL_law (wsV RL 81 RX2 yX2_cell wsX2_cell) := goodIn_app (goodIn_of _ (by decide +kernel)) ggL_law_X2_cell
set_option maxRecDepth 20000 in
theorem ggL_law_X3_cell : GoodIn wsL_law wsX3_cell := goodIn_r _ [330, 231, 232, 233, 5, 234, 218, 50, 51, 52, 337, 338, 339, 340, 341, 342, 343, 344, 345, 346, 347, 348, 349, 350, 351, 352, 353, 354, 355] (by decide +kernel) (by decide +kernel)
set_option maxRecDepth 20000 in
theorem gL_law_X3_cell : GoodIn wsL_law (wsV RL 84 RX3 yX3_cell wsX3_cell) := goodIn_app (goodIn_of _ (by decide +kernel)) ggL_law_X3_cell
end
section
theorem dL_law_0 : decode cL_law 0 = .ok (.new 7, 3) := by decide +kernel
theorem dL_law_3 : decode cL_law 3 = .ok (.dup, 1) := by decide +kernel
theorem dL_law_4 : decode cL_law 4 = .ok (.invokespecial 9, 3) := by decide +kernel
theorem dL_law_7 : decode cL_law 7 = .ok (.astore_n 1, 1) := by decide +kernel
theorem dL_law_8 : decode cL_law 8 = .ok (.new 10, 3) := by decide +kernel
theorem dL_law_11 : decode cL_law 11 = .ok (.dup, 1) := by decide +kernel
theorem dL_law_12 : decode cL_law 12 = .ok (.invokespecial 12, 3) := by decide +kernel
theorem dL_law_15 : decode cL_law 15 = .ok (.astore_n 2, 1) := by decide +kernel
theorem dL_law_16 : decode cL_law 16 = .ok (.iconst 0, 1) := by decide +kernel
theorem dL_law_17 : decode cL_law 17 = .ok (.istore_n 3, 1) := by decide +kernel
theorem dL_law_18 : decode cL_law 18 = .ok (.iload_n 3, 1) := by decide +kernel
theorem dL_law_19 : decode cL_law 19 = .ok (.aload_n 0, 1) := by decide +kernel
theorem dL_law_20 : decode cL_law 20 = .ok (.arraylength, 1) := by decide +kernel
theorem dL_law_21 : decode cL_law 21 = .ok (.iconst 3, 1) := by decide +kernel
theorem dL_law_22 : decode cL_law 22 = .ok (.isub, 1) := by decide +kernel
theorem dL_law_23 : decode cL_law 23 = .ok (.if_icmp .gt 554, 3) := by decide +kernel
theorem dL_law_26 : decode cL_law 26 = .ok (.aload_n 0, 1) := by decide +kernel
theorem dL_law_27 : decode cL_law 27 = .ok (.iload_n 3, 1) := by decide +kernel
theorem dL_law_28 : decode cL_law 28 = .ok (.iaload, 1) := by decide +kernel
theorem dL_law_29 : decode cL_law 29 = .ok (.bipush 31, 2) := by decide +kernel
theorem dL_law_31 : decode cL_law 31 = .ok (.iand, 1) := by decide +kernel
theorem dL_law_32 : decode cL_law 32 = .ok (.tableswitch 539 0 16 #[84, 117, 150, 183, 216, 249, 272, 295, 344, 355, 378, 401, 424, 447, 470, 483, 506], 84) := by decide +kernel
theorem dL_law_116 : decode cL_law 116 = .ok (.aload_n 1, 1) := by decide +kernel
theorem dL_law_117 : decode cL_law 117 = .ok (.aload_n 0, 1) := by decide +kernel
theorem dL_law_118 : decode cL_law 118 = .ok (.iload_n 3, 1) := by decide +kernel
theorem dL_law_119 : decode cL_law 119 = .ok (.iconst 1, 1) := by decide +kernel
theorem dL_law_120 : decode cL_law 120 = .ok (.iadd, 1) := by decide +kernel
theorem dL_law_121 : decode cL_law 121 = .ok (.iaload, 1) := by decide +kernel
theorem dL_law_122 : decode cL_law 122 = .ok (.aload_n 0, 1) := by decide +kernel
theorem dL_law_123 : decode cL_law 123 = .ok (.iload_n 3, 1) := by decide +kernel
theorem dL_law_124 : decode cL_law 124 = .ok (.iconst 2, 1) := by decide +kernel
theorem dL_law_125 : decode cL_law 125 = .ok (.iadd, 1) := by decide +kernel
theorem dL_law_126 : decode cL_law 126 = .ok (.iaload, 1) := by decide +kernel
theorem dL_law_127 : decode cL_law 127 = .ok (.invokevirtual 13, 3) := by decide +kernel
theorem dL_law_130 : decode cL_law 130 = .ok (.aload_n 2, 1) := by decide +kernel
theorem dL_law_131 : decode cL_law 131 = .ok (.aload_n 0, 1) := by decide +kernel
theorem dL_law_132 : decode cL_law 132 = .ok (.iload_n 3, 1) := by decide +kernel
theorem dL_law_133 : decode cL_law 133 = .ok (.iconst 1, 1) := by decide +kernel
theorem dL_law_134 : decode cL_law 134 = .ok (.iadd, 1) := by decide +kernel
theorem dL_law_135 : decode cL_law 135 = .ok (.iaload, 1) := by decide +kernel
theorem dL_law_136 : decode cL_law 136 = .ok (.aload_n 0, 1) := by decide +kernel
theorem dL_law_137 : decode cL_law 137 = .ok (.iload_n 3, 1) := by decide +kernel
theorem dL_law_138 : decode cL_law 138 = .ok (.iconst 2, 1) := by decide +kernel
theorem dL_law_139 : decode cL_law 139 = .ok (.iadd, 1) := by decide +kernel
theorem dL_law_140 : decode cL_law 140 = .ok (.iaload, 1) := by decide +kernel
theorem dL_law_141 : decode cL_law 141 = .ok (.invokevirtual 17, 3) := by decide +kernel
theorem dL_law_144 : decode cL_law 144 = .ok (.if_icmp .eq 427, 3) := by decide +kernel
theorem dL_law_147 : decode cL_law 147 = .ok (.iconst 0, 1) := by decide +kernel
theorem dL_law_148 : decode cL_law 148 = .ok (.ireturn, 1) := by decide +kernel
theorem dL_law_149 : decode cL_law 149 = .ok (.aload_n 1, 1) := by decide +kernel
theorem dL_law_150 : decode cL_law 150 = .ok (.aload_n 0, 1) := by decide +kernel
theorem dL_law_151 : decode cL_law 151 = .ok (.iload_n 3, 1) := by decide +kernel
theorem dL_law_152 : decode cL_law 152 = .ok (.iconst 1, 1) := by decide +kernel
theorem dL_law_153 : decode cL_law 153 = .ok (.iadd, 1) := by decide +kernel
theorem dL_law_154 : decode cL_law 154 = .ok (.iaload, 1) := by decide +kernel
theorem dL_law_155 : decode cL_law 155 = .ok (.aload_n 0, 1) := by decide +kernel
theorem dL_law_156 : decode cL_law 156 = .ok (.iload_n 3, 1) := by decide +kernel
theorem dL_law_157 : decode cL_law 157 = .ok (.iconst 2, 1) := by decide +kernel
theorem dL_law_158 : decode cL_law 158 = .ok (.iadd, 1) := by decide +kernel
theorem dL_law_159 : decode cL_law 159 = .ok (.iaload, 1) := by decide +kernel
theorem dL_law_160 : decode cL_law 160 = .ok (.invokevirtual 18, 3) := by decide +kernel
theorem dL_law_163 : decode cL_law 163 = .ok (.aload_n 2, 1) := by decide +kernel
theorem dL_law_164 : decode cL_law 164 = .ok (.aload_n 0, 1) := by decide +kernel
theorem dL_law_165 : decode cL_law 165 = .ok (.iload_n 3, 1) := by decide +kernel
theorem dL_law_166 : decode cL_law 166 = .ok (.iconst 1, 1) := by decide +kernel
theorem dL_law_167 : decode cL_law 167 = .ok (.iadd, 1) := by decide +kernel
theorem dL_law_168 : decode cL_law 168 = .ok (.iaload, 1) := by decide +kernel
theorem dL_law_169 : decode cL_law 169 = .ok (.aload_n 0, 1) := by decide +kernel
theorem dL_law_170 : decode cL_law 170 = .ok (.iload_n 3, 1) := by decide +kernel
theorem dL_law_171 : decode cL_law 171 = .ok (.iconst 2, 1) := by decide +kernel
theorem dL_law_172 : decode cL_law 172 = .ok (.iadd, 1) := by decide +kernel
theorem dL_law_173 : decode cL_law 173 = .ok (.iaload, 1) := by decide +kernel
theorem dL_law_174 : decode cL_law 174 = .ok (.invokevirtual 21, 3) := by decide +kernel
theorem dL_law_177 : decode cL_law 177 = .ok (.if_icmp .eq 394, 3) := by decide +kernel
theorem dL_law_180 : decode cL_law 180 = .ok (.iconst 0, 1) := by decide +kernel
theorem dL_law_181 : decode cL_law 181 = .ok (.ireturn, 1) := by decide +kernel
theorem dL_law_182 : decode cL_law 182 = .ok (.aload_n 1, 1) := by decide +kernel
theorem dL_law_183 : decode cL_law 183 = .ok (.aload_n 0, 1) := by decide +kernel
theorem dL_law_184 : decode cL_law 184 = .ok (.iload_n 3, 1) := by decide +kernel
theorem dL_law_185 : decode cL_law 185 = .ok (.iconst 1, 1) := by decide +kernel
theorem dL_law_186 : decode cL_law 186 = .ok (.iadd, 1) := by decide +kernel
theorem dL_law_187 : decode cL_law 187 = .ok (.iaload, 1) := by decide +kernel
theorem dL_law_188 : decode cL_law 188 = .ok (.aload_n 0, 1) := by decide +kernel
theorem dL_law_189 : decode cL_law 189 = .ok (.iload_n 3, 1) := by decide +kernel
theorem dL_law_190 : decode cL_law 190 = .ok (.iconst 2, 1) := by decide +kernel
theorem dL_law_191 : decode cL_law 191 = .ok (.iadd, 1) := by decide +kernel
theorem dL_law_192 : decode cL_law 192 = .ok (.iaload, 1) := by decide +kernel
theorem dL_law_193 : decode cL_law 193 = .ok (.invokevirtual 22, 3) := by decide +kernel
theorem dL_law_196 : decode cL_law 196 = .ok (.aload_n 2, 1) := by decide +kernel
theorem dL_law_197 : decode cL_law 197 = .ok (.aload_n 0, 1) := by decide +kernel
theorem dL_law_198 : decode cL_law 198 = .ok (.iload_n 3, 1) := by decide +kernel
theorem dL_law_199 : decode cL_law 199 = .ok (.iconst 1, 1) := by decide +kernel
theorem dL_law_200 : decode cL_law 200 = .ok (.iadd, 1) := by decide +kernel
theorem dL_law_201 : decode cL_law 201 = .ok (.iaload, 1) := by decide +kernel
theorem dL_law_202 : decode cL_law 202 = .ok (.aload_n 0, 1) := by decide +kernel
theorem dL_law_203 : decode cL_law 203 = .ok (.iload_n 3, 1) := by decide +kernel
theorem dL_law_204 : decode cL_law 204 = .ok (.iconst 2, 1) := by decide +kernel
theorem dL_law_205 : decode cL_law 205 = .ok (.iadd, 1) := by decide +kernel
theorem dL_law_206 : decode cL_law 206 = .ok (.iaload, 1) := by decide +kernel
theorem dL_law_207 : decode cL_law 207 = .ok (.invokevirtual 25, 3) := by decide +kernel
theorem dL_law_210 : decode cL_law 210 = .ok (.if_icmp .eq 361, 3) := by decide +kernel
theorem dL_law_213 : decode cL_law 213 = .ok (.iconst 0, 1) := by decide +kernel
theorem dL_law_214 : decode cL_law 214 = .ok (.ireturn, 1) := by decide +kernel
theorem dL_law_215 : decode cL_law 215 = .ok (.aload_n 1, 1) := by decide +kernel
theorem dL_law_216 : decode cL_law 216 = .ok (.aload_n 0, 1) := by decide +kernel
theorem dL_law_217 : decode cL_law 217 = .ok (.iload_n 3, 1) := by decide +kernel
theorem dL_law_218 : decode cL_law 218 = .ok (.iconst 1, 1) := by decide +kernel
theorem dL_law_219 : decode cL_law 219 = .ok (.iadd, 1) := by decide +kernel
theorem dL_law_220 : decode cL_law 220 = .ok (.iaload, 1) := by decide +kernel
theorem dL_law_221 : decode cL_law 221 = .ok (.aload_n 0, 1) := by decide +kernel
theorem dL_law_222 : decode cL_law 222 = .ok (.iload_n 3, 1) := by decide +kernel
theorem dL_law_223 : decode cL_law 223 = .ok (.iconst 2, 1) := by decide +kernel
theorem dL_law_224 : decode cL_law 224 = .ok (.iadd, 1) := by decide +kernel
theorem dL_law_225 : decode cL_law 225 = .ok (.iaload, 1) := by decide +kernel
theorem dL_law_226 : decode cL_law 226 = .ok (.invokevirtual 26, 3) := by decide +kernel
theorem dL_law_229 : decode cL_law 229 = .ok (.aload_n 2, 1) := by decide +kernel
theorem dL_law_230 : decode cL_law 230 = .ok (.aload_n 0, 1) := by decide +kernel
theorem dL_law_231 : decode cL_law 231 = .ok (.iload_n 3, 1) := by decide +kernel
theorem dL_law_232 : decode cL_law 232 = .ok (.iconst 1, 1) := by decide +kernel
theorem dL_law_233 : decode cL_law 233 = .ok (.iadd, 1) := by decide +kernel
theorem dL_law_234 : decode cL_law 234 = .ok (.iaload, 1) := by decide +kernel
theorem dL_law_235 : decode cL_law 235 = .ok (.aload_n 0, 1) := by decide +kernel
theorem dL_law_236 : decode cL_law 236 = .ok (.iload_n 3, 1) := by decide +kernel
theorem dL_law_237 : decode cL_law 237 = .ok (.iconst 2, 1) := by decide +kernel
theorem dL_law_238 : decode cL_law 238 = .ok (.iadd, 1) := by decide +kernel
theorem dL_law_239 : decode cL_law 239 = .ok (.iaload, 1) := by decide +kernel
theorem dL_law_240 : decode cL_law 240 = .ok (.invokevirtual 29, 3) := by decide +kernel
theorem dL_law_243 : decode cL_law 243 = .ok (.if_icmp .eq 328, 3) := by decide +kernel
theorem dL_law_246 : decode cL_law 246 = .ok (.iconst 0, 1) := by decide +kernel
theorem dL_law_247 : decode cL_law 247 = .ok (.ireturn, 1) := by decide +kernel
theorem dL_law_248 : decode cL_law 248 = .ok (.aload_n 1, 1) := by decide +kernel
theorem dL_law_249 : decode cL_law 249 = .ok (.aload_n 0, 1) := by decide +kernel
theorem dL_law_250 : decode cL_law 250 = .ok (.iload_n 3, 1) := by decide +kernel
theorem dL_law_251 : decode cL_law 251 = .ok (.iconst 1, 1) := by decide +kernel
theorem dL_law_252 : decode cL_law 252 = .ok (.iadd, 1) := by decide +kernel
theorem dL_law_253 : decode cL_law 253 = .ok (.iaload, 1) := by decide +kernel
theorem dL_law_254 : decode cL_law 254 = .ok (.aload_n 0, 1) := by decide +kernel
theorem dL_law_255 : decode cL_law 255 = .ok (.iload_n 3, 1) := by decide +kernel
theorem dL_law_256 : decode cL_law 256 = .ok (.iconst 2, 1) := by decide +kernel
theorem dL_law_257 : decode cL_law 257 = .ok (.iadd, 1) := by decide +kernel
theorem dL_law_258 : decode cL_law 258 = .ok (.iaload, 1) := by decide +kernel
theorem dL_law_259 : decode cL_law 259 = .ok (.invokevirtual 30, 3) := by decide +kernel
theorem dL_law_262 : decode cL_law 262 = .ok (.aload_n 2, 1) := by decide +kernel
theorem dL_law_263 : decode cL_law 263 = .ok (.aload_n 0, 1) := by decide +kernel
theorem dL_law_264 : decode cL_law 264 = .ok (.iload_n 3, 1) := by decide +kernel
theorem dL_law_265 : decode cL_law 265 = .ok (.iconst 1, 1) := by decide +kernel
theorem dL_law_266 : decode cL_law 266 = .ok (.iadd, 1) := by decide +kernel
theorem dL_law_267 : decode cL_law 267 = .ok (.iaload, 1) := by decide +kernel
theorem dL_law_268 : decode cL_law 268 = .ok (.aload_n 0, 1) := by decide +kernel
theorem dL_law_269 : decode cL_law 269 = .ok (.iload_n 3, 1) := by decide +kernel
theorem dL_law_270 : decode cL_law 270 = .ok (.iconst 2, 1) := by decide +kernel
theorem dL_law_271 : decode cL_law 271 = .ok (.iadd, 1) := by decide +kernel
theorem dL_law_272 : decode cL_law 272 = .ok (.iaload, 1) := by decide +kernel
theorem dL_law_273 : decode cL_law 273 = .ok (.invokevirtual 33, 3) := by decide +kernel
theorem dL_law_276 : decode cL_law 276 = .ok (.if_icmp .eq 295, 3) := by decide +kernel
theorem dL_law_279 : decode cL_law 279 = .ok (.iconst 0, 1) := by decide +kernel
theorem dL_law_280 : decode cL_law 280 = .ok (.ireturn, 1) := by decide +kernel
theorem dL_law_281 : decode cL_law 281 = .ok (.aload_n 1, 1) := by decide +kernel
theorem dL_law_282 : decode cL_law 282 = .ok (.aload_n 0, 1) := by decide +kernel
theorem dL_law_283 : decode cL_law 283 = .ok (.iload_n 3, 1) := by decide +kernel
theorem dL_law_284 : decode cL_law 284 = .ok (.iconst 1, 1) := by decide +kernel
theorem dL_law_285 : decode cL_law 285 = .ok (.iadd, 1) := by decide +kernel
theorem dL_law_286 : decode cL_law 286 = .ok (.iaload, 1) := by decide +kernel
theorem dL_law_287 : decode cL_law 287 = .ok (.invokevirtual 34, 3) := by decide +kernel
theorem dL_law_290 : decode cL_law 290 = .ok (.aload_n 2, 1) := by decide +kernel
theorem dL_law_291 : decode cL_law 291 = .ok (.aload_n 0, 1) := by decide +kernel
theorem dL_law_292 : decode cL_law 292 = .ok (.iload_n 3, 1) := by decide +kernel
theorem dL_law_293 : decode cL_law 293 = .ok (.iconst 1, 1) := by decide +kernel
theorem dL_law_294 : decode cL_law 294 = .ok (.iadd, 1) := by decide +kernel
theorem dL_law_295 : decode cL_law 295 = .ok (.iaload, 1) := by decide +kernel
theorem dL_law_296 : decode cL_law 296 = .ok (.invokevirtual 38, 3) := by decide +kernel
theorem dL_law_299 : decode cL_law 299 = .ok (.if_icmp .eq 272, 3) := by decide +kernel
theorem dL_law_302 : decode cL_law 302 = .ok (.iconst 0, 1) := by decide +kernel
theorem dL_law_303 : decode cL_law 303 = .ok (.ireturn, 1) := by decide +kernel
theorem dL_law_304 : decode cL_law 304 = .ok (.aload_n 1, 1) := by decide +kernel
theorem dL_law_305 : decode cL_law 305 = .ok (.aload_n 0, 1) := by decide +kernel
theorem dL_law_306 : decode cL_law 306 = .ok (.iload_n 3, 1) := by decide +kernel
theorem dL_law_307 : decode cL_law 307 = .ok (.iconst 1, 1) := by decide +kernel
theorem dL_law_308 : decode cL_law 308 = .ok (.iadd, 1) := by decide +kernel
theorem dL_law_309 : decode cL_law 309 = .ok (.iaload, 1) := by decide +kernel
theorem dL_law_310 : decode cL_law 310 = .ok (.invokevirtual 39, 3) := by decide +kernel
theorem dL_law_313 : decode cL_law 313 = .ok (.aload_n 2, 1) := by decide +kernel
theorem dL_law_314 : decode cL_law 314 = .ok (.aload_n 0, 1) := by decide +kernel
theorem dL_law_315 : decode cL_law 315 = .ok (.iload_n 3, 1) := by decide +kernel
theorem dL_law_316 : decode cL_law 316 = .ok (.iconst 1, 1) := by decide +kernel
theorem dL_law_317 : decode cL_law 317 = .ok (.iadd, 1) := by decide +kernel
theorem dL_law_318 : decode cL_law 318 = .ok (.iaload, 1) := by decide +kernel
theorem dL_law_319 : decode cL_law 319 = .ok (.invokevirtual 42, 3) := by decide +kernel
theorem dL_law_322 : decode cL_law 322 = .ok (.if_icmp .eq 249, 3) := by decide +kernel
theorem dL_law_325 : decode cL_law 325 = .ok (.iconst 0, 1) := by decide +kernel
theorem dL_law_326 : decode cL_law 326 = .ok (.ireturn, 1) := by decide +kernel
theorem dL_law_327 : decode cL_law 327 = .ok (.aload_n 1, 1) := by decide +kernel
theorem dL_law_328 : decode cL_law 328 = .ok (.aload_n 0, 1) := by decide +kernel
theorem dL_law_329 : decode cL_law 329 = .ok (.iload_n 3, 1) := by decide +kernel
theorem dL_law_330 : decode cL_law 330 = .ok (.iconst 1, 1) := by decide +kernel
theorem dL_law_331 : decode cL_law 331 = .ok (.iadd, 1) := by decide +kernel
theorem dL_law_332 : decode cL_law 332 = .ok (.iaload, 1) := by decide +kernel
theorem dL_law_333 : decode cL_law 333 = .ok (.aload_n 0, 1) := by decide +kernel
theorem dL_law_334 : decode cL_law 334 = .ok (.iload_n 3, 1) := by decide +kernel
theorem dL_law_335 : decode cL_law 335 = .ok (.iconst 2, 1) := by decide +kernel
theorem dL_law_336 : decode cL_law 336 = .ok (.iadd, 1) := by decide +kernel
theorem dL_law_337 : decode cL_law 337 = .ok (.iaload, 1) := by decide +kernel
theorem dL_law_338 : decode cL_law 338 = .ok (.ifCond .eq 7, 3) := by decide +kernel
theorem dL_law_341 : decode cL_law 341 = .ok (.iconst 1, 1) := by decide +kernel
theorem dL_law_342 : decode cL_law 342 = .ok (.goto 4, 3) := by decide +kernel
theorem dL_law_345 : decode cL_law 345 = .ok (.iconst 0, 1) := by decide +kernel
theorem dL_law_346 : decode cL_law 346 = .ok (.invokevirtual 43, 3) := by decide +kernel
theorem dL_law_349 : decode cL_law 349 = .ok (.aload_n 2, 1) := by decide +kernel
theorem dL_law_350 : decode cL_law 350 = .ok (.aload_n 0, 1) := by decide +kernel
theorem dL_law_351 : decode cL_law 351 = .ok (.iload_n 3, 1) := by decide +kernel
theorem dL_law_352 : decode cL_law 352 = .ok (.iconst 1, 1) := by decide +kernel
theorem dL_law_353 : decode cL_law 353 = .ok (.iadd, 1) := by decide +kernel
theorem dL_law_354 : decode cL_law 354 = .ok (.iaload, 1) := by decide +kernel
theorem dL_law_355 : decode cL_law 355 = .ok (.aload_n 0, 1) := by decide +kernel
theorem dL_law_356 : decode cL_law 356 = .ok (.iload_n 3, 1) := by decide +kernel
theorem dL_law_357 : decode cL_law 357 = .ok (.iconst 2, 1) := by decide +kernel
theorem dL_law_358 : decode cL_law 358 = .ok (.iadd, 1) := by decide +kernel
theorem dL_law_359 : decode cL_law 359 = .ok (.iaload, 1) := by decide +kernel
theorem dL_law_360 : decode cL_law 360 = .ok (.ifCond .eq 7, 3) := by decide +kernel
theorem dL_law_363 : decode cL_law 363 = .ok (.iconst 1, 1) := by decide +kernel
theorem dL_law_364 : decode cL_law 364 = .ok (.goto 4, 3) := by decide +kernel
theorem dL_law_367 : decode cL_law 367 = .ok (.iconst 0, 1) := by decide +kernel
theorem dL_law_368 : decode cL_law 368 = .ok (.invokevirtual 47, 3) := by decide +kernel
theorem dL_law_371 : decode cL_law 371 = .ok (.if_icmp .eq 200, 3) := by decide +kernel
theorem dL_law_374 : decode cL_law 374 = .ok (.iconst 0, 1) := by decide +kernel
theorem dL_law_375 : decode cL_law 375 = .ok (.ireturn, 1) := by decide +kernel
theorem dL_law_376 : decode cL_law 376 = .ok (.aload_n 1, 1) := by decide +kernel
theorem dL_law_377 : decode cL_law 377 = .ok (.invokevirtual 48, 3) := by decide +kernel
theorem dL_law_380 : decode cL_law 380 = .ok (.aload_n 2, 1) := by decide +kernel
theorem dL_law_381 : decode cL_law 381 = .ok (.invokevirtual 51, 3) := by decide +kernel
theorem dL_law_384 : decode cL_law 384 = .ok (.goto 187, 3) := by decide +kernel
theorem dL_law_387 : decode cL_law 387 = .ok (.aload_n 1, 1) := by decide +kernel
theorem dL_law_388 : decode cL_law 388 = .ok (.aload_n 0, 1) := by decide +kernel
theorem dL_law_389 : decode cL_law 389 = .ok (.iload_n 3, 1) := by decide +kernel
theorem dL_law_390 : decode cL_law 390 = .ok (.iconst 1, 1) := by decide +kernel
theorem dL_law_391 : decode cL_law 391 = .ok (.iadd, 1) := by decide +kernel
theorem dL_law_392 : decode cL_law 392 = .ok (.iaload, 1) := by decide +kernel
theorem dL_law_393 : decode cL_law 393 = .ok (.invokevirtual 52, 3) := by decide +kernel
theorem dL_law_396 : decode cL_law 396 = .ok (.aload_n 2, 1) := by decide +kernel
theorem dL_law_397 : decode cL_law 397 = .ok (.aload_n 0, 1) := by decide +kernel
theorem dL_law_398 : decode cL_law 398 = .ok (.iload_n 3, 1) := by decide +kernel
theorem dL_law_399 : decode cL_law 399 = .ok (.iconst 1, 1) := by decide +kernel
theorem dL_law_400 : decode cL_law 400 = .ok (.iadd, 1) := by decide +kernel
theorem dL_law_401 : decode cL_law 401 = .ok (.iaload, 1) := by decide +kernel
theorem dL_law_402 : decode cL_law 402 = .ok (.invokevirtual 55, 3) := by decide +kernel
theorem dL_law_405 : decode cL_law 405 = .ok (.if_icmp .eq 166, 3) := by decide +kernel
theorem dL_law_408 : decode cL_law 408 = .ok (.iconst 0, 1) := by decide +kernel
theorem dL_law_409 : decode cL_law 409 = .ok (.ireturn, 1) := by decide +kernel
theorem dL_law_410 : decode cL_law 410 = .ok (.aload_n 1, 1) := by decide +kernel
theorem dL_law_411 : decode cL_law 411 = .ok (.aload_n 0, 1) := by decide +kernel
theorem dL_law_412 : decode cL_law 412 = .ok (.iload_n 3, 1) := by decide +kernel
theorem dL_law_413 : decode cL_law 413 = .ok (.iconst 1, 1) := by decide +kernel
theorem dL_law_414 : decode cL_law 414 = .ok (.iadd, 1) := by decide +kernel
theorem dL_law_415 : decode cL_law 415 = .ok (.iaload, 1) := by decide +kernel
theorem dL_law_416 : decode cL_law 416 = .ok (.invokevirtual 56, 3) := by decide +kernel
theorem dL_law_419 : decode cL_law 419 = .ok (.aload_n 2, 1) := by decide +kernel
theorem dL_law_420 : decode cL_law 420 = .ok (.aload_n 0, 1) := by decide +kernel
theorem dL_law_421 : decode cL_law 421 = .ok (.iload_n 3, 1) := by decide +kernel
theorem dL_law_422 : decode cL_law 422 = .ok (.iconst 1, 1) := by decide +kernel
theorem dL_law_423 : decode cL_law 423 = .ok (.iadd, 1) := by decide +kernel
theorem dL_law_424 : decode cL_law 424 = .ok (.iaload, 1) := by decide +kernel
theorem dL_law_425 : decode cL_law 425 = .ok (.invokevirtual 59, 3) := by decide +kernel
theorem dL_law_428 : decode cL_law 428 = .ok (.if_icmp .eq 143, 3) := by decide +kernel
theorem dL_law_431 : decode cL_law 431 = .ok (.iconst 0, 1) := by decide +kernel
theorem dL_law_432 : decode cL_law 432 = .ok (.ireturn, 1) := by decide +kernel
theorem dL_law_433 : decode cL_law 433 = .ok (.aload_n 1, 1) := by decide +kernel
theorem dL_law_434 : decode cL_law 434 = .ok (.aload_n 0, 1) := by decide +kernel
theorem dL_law_435 : decode cL_law 435 = .ok (.iload_n 3, 1) := by decide +kernel
theorem dL_law_436 : decode cL_law 436 = .ok (.iconst 1, 1) := by decide +kernel
theorem dL_law_437 : decode cL_law 437 = .ok (.iadd, 1) := by decide +kernel
theorem dL_law_438 : decode cL_law 438 = .ok (.iaload, 1) := by decide +kernel
theorem dL_law_439 : decode cL_law 439 = .ok (.invokevirtual 60, 3) := by decide +kernel
theorem dL_law_442 : decode cL_law 442 = .ok (.aload_n 2, 1) := by decide +kernel
theorem dL_law_443 : decode cL_law 443 = .ok (.aload_n 0, 1) := by decide +kernel
theorem dL_law_444 : decode cL_law 444 = .ok (.iload_n 3, 1) := by decide +kernel
theorem dL_law_445 : decode cL_law 445 = .ok (.iconst 1, 1) := by decide +kernel
theorem dL_law_446 : decode cL_law 446 = .ok (.iadd, 1) := by decide +kernel
theorem dL_law_447 : decode cL_law 447 = .ok (.iaload, 1) := by decide +kernel
theorem dL_law_448 : decode cL_law 448 = .ok (.invokevirtual 63, 3) := by decide +kernel
theorem dL_law_451 : decode cL_law 451 = .ok (.if_icmp .eq 120, 3) := by decide +kernel
theorem dL_law_454 : decode cL_law 454 = .ok (.iconst 0, 1) := by decide +kernel
theorem dL_law_455 : decode cL_law 455 = .ok (.ireturn, 1) := by decide +kernel
theorem dL_law_456 : decode cL_law 456 = .ok (.aload_n 1, 1) := by decide +kernel
theorem dL_law_457 : decode cL_law 457 = .ok (.aload_n 0, 1) := by decide +kernel
theorem dL_law_458 : decode cL_law 458 = .ok (.iload_n 3, 1) := by decide +kernel
theorem dL_law_459 : decode cL_law 459 = .ok (.iconst 1, 1) := by decide +kernel
theorem dL_law_460 : decode cL_law 460 = .ok (.iadd, 1) := by decide +kernel
theorem dL_law_461 : decode cL_law 461 = .ok (.iaload, 1) := by decide +kernel
theorem dL_law_462 : decode cL_law 462 = .ok (.invokevirtual 64, 3) := by decide +kernel
theorem dL_law_465 : decode cL_law 465 = .ok (.aload_n 2, 1) := by decide +kernel
theorem dL_law_466 : decode cL_law 466 = .ok (.aload_n 0, 1) := by decide +kernel
theorem dL_law_467 : decode cL_law 467 = .ok (.iload_n 3, 1) := by decide +kernel
theorem dL_law_468 : decode cL_law 468 = .ok (.iconst 1, 1) := by decide +kernel
theorem dL_law_469 : decode cL_law 469 = .ok (.iadd, 1) := by decide +kernel
theorem dL_law_470 : decode cL_law 470 = .ok (.iaload, 1) := by decide +kernel
theorem dL_law_471 : decode cL_law 471 = .ok (.invokevirtual 67, 3) := by decide +kernel
theorem dL_law_474 : decode cL_law 474 = .ok (.if_icmp .eq 97, 3) := by decide +kernel
theorem dL_law_477 : decode cL_law 477 = .ok (.iconst 0, 1) := by decide +kernel
theorem dL_law_478 : decode cL_law 478 = .ok (.ireturn, 1) := by decide +kernel
theorem dL_law_479 : decode cL_law 479 = .ok (.aload_n 1, 1) := by decide +kernel
theorem dL_law_480 : decode cL_law 480 = .ok (.aload_n 0, 1) := by decide +kernel
theorem dL_law_481 : decode cL_law 481 = .ok (.iload_n 3, 1) := by decide +kernel
theorem dL_law_482 : decode cL_law 482 = .ok (.iconst 1, 1) := by decide +kernel
theorem dL_law_483 : decode cL_law 483 = .ok (.iadd, 1) := by decide +kernel
theorem dL_law_484 : decode cL_law 484 = .ok (.iaload, 1) := by decide +kernel
theorem dL_law_485 : decode cL_law 485 = .ok (.invokevirtual 68, 3) := by decide +kernel
theorem dL_law_488 : decode cL_law 488 = .ok (.aload_n 2, 1) := by decide +kernel
theorem dL_law_489 : decode cL_law 489 = .ok (.aload_n 0, 1) := by decide +kernel
theorem dL_law_490 : decode cL_law 490 = .ok (.iload_n 3, 1) := by decide +kernel
theorem dL_law_491 : decode cL_law 491 = .ok (.iconst 1, 1) := by decide +kernel
theorem dL_law_492 : decode cL_law 492 = .ok (.iadd, 1) := by decide +kernel
theorem dL_law_493 : decode cL_law 493 = .ok (.iaload, 1) := by decide +kernel
theorem dL_law_494 : decode cL_law 494 = .ok (.invokevirtual 71, 3) := by decide +kernel
theorem dL_law_497 : decode cL_law 497 = .ok (.if_icmp .eq 74, 3) := by decide +kernel
theorem dL_law_500 : decode cL_law 500 = .ok (.iconst 0, 1) := by decide +kernel
theorem dL_law_501 : decode cL_law 501 = .ok (.ireturn, 1) := by decide +kernel
theorem dL_law_502 : decode cL_law 502 = .ok (.aload_n 1, 1) := by decide +kernel
theorem dL_law_503 : decode cL_law 503 = .ok (.invokevirtual 72, 3) := by decide +kernel
theorem dL_law_506 : decode cL_law 506 = .ok (.aload_n 2, 1) := by decide +kernel
theorem dL_law_507 : decode cL_law 507 = .ok (.invokevirtual 76, 3) := by decide +kernel
theorem dL_law_510 : decode cL_law 510 = .ok (.if_icmp .eq 61, 3) := by decide +kernel
theorem dL_law_513 : decode cL_law 513 = .ok (.iconst 0, 1) := by decide +kernel
theorem dL_law_514 : decode cL_law 514 = .ok (.ireturn, 1) := by decide +kernel
theorem dL_law_515 : decode cL_law 515 = .ok (.aload_n 1, 1) := by decide +kernel
theorem dL_law_516 : decode cL_law 516 = .ok (.aload_n 0, 1) := by decide +kernel
theorem dL_law_517 : decode cL_law 517 = .ok (.iload_n 3, 1) := by decide +kernel
theorem dL_law_518 : decode cL_law 518 = .ok (.iconst 1, 1) := by decide +kernel
theorem dL_law_519 : decode cL_law 519 = .ok (.iadd, 1) := by decide +kernel
theorem dL_law_520 : decode cL_law 520 = .ok (.iaload, 1) := by decide +kernel
theorem dL_law_521 : decode cL_law 521 = .ok (.invokevirtual 77, 3) := by decide +kernel
theorem dL_law_524 : decode cL_law 524 = .ok (.aload_n 2, 1) := by decide +kernel
theorem dL_law_525 : decode cL_law 525 = .ok (.aload_n 0, 1) := by decide +kernel
theorem dL_law_526 : decode cL_law 526 = .ok (.iload_n 3, 1) := by decide +kernel
theorem dL_law_527 : decode cL_law 527 = .ok (.iconst 1, 1) := by decide +kernel
theorem dL_law_528 : decode cL_law 528 = .ok (.iadd, 1) := by decide +kernel
theorem dL_law_529 : decode cL_law 529 = .ok (.iaload, 1) := by decide +kernel
theorem dL_law_530 : decode cL_law 530 = .ok (.invokevirtual 80, 3) := by decide +kernel
theorem dL_law_533 : decode cL_law 533 = .ok (.if_icmp .eq 38, 3) := by decide +kernel
theorem dL_law_536 : decode cL_law 536 = .ok (.iconst 0, 1) := by decide +kernel
theorem dL_law_537 : decode cL_law 537 = .ok (.ireturn, 1) := by decide +kernel
theorem dL_law_538 : decode cL_law 538 = .ok (.aload_n 1, 1) := by decide +kernel
theorem dL_law_539 : decode cL_law 539 = .ok (.aload_n 0, 1) := by decide +kernel
theorem dL_law_540 : decode cL_law 540 = .ok (.iload_n 3, 1) := by decide +kernel
theorem dL_law_541 : decode cL_law 541 = .ok (.iconst 1, 1) := by decide +kernel
theorem dL_law_542 : decode cL_law 542 = .ok (.iadd, 1) := by decide +kernel
theorem dL_law_543 : decode cL_law 543 = .ok (.iaload, 1) := by decide +kernel
theorem dL_law_544 : decode cL_law 544 = .ok (.aload_n 0, 1) := by decide +kernel
theorem dL_law_545 : decode cL_law 545 = .ok (.iload_n 3, 1) := by decide +kernel
theorem dL_law_546 : decode cL_law 546 = .ok (.iconst 2, 1) := by decide +kernel
theorem dL_law_547 : decode cL_law 547 = .ok (.iadd, 1) := by decide +kernel
theorem dL_law_548 : decode cL_law 548 = .ok (.iaload, 1) := by decide +kernel
theorem dL_law_549 : decode cL_law 549 = .ok (.invokevirtual 81, 3) := by decide +kernel
theorem dL_law_552 : decode cL_law 552 = .ok (.aload_n 2, 1) := by decide +kernel
theorem dL_law_553 : decode cL_law 553 = .ok (.aload_n 0, 1) := by decide +kernel
theorem dL_law_554 : decode cL_law 554 = .ok (.iload_n 3, 1) := by decide +kernel
theorem dL_law_555 : decode cL_law 555 = .ok (.iconst 1, 1) := by decide +kernel
theorem dL_law_556 : decode cL_law 556 = .ok (.iadd, 1) := by decide +kernel
theorem dL_law_557 : decode cL_law 557 = .ok (.iaload, 1) := by decide +kernel
theorem dL_law_558 : decode cL_law 558 = .ok (.aload_n 0, 1) := by decide +kernel
theorem dL_law_559 : decode cL_law 559 = .ok (.iload_n 3, 1) := by decide +kernel
theorem dL_law_560 : decode cL_law 560 = .ok (.iconst 2, 1) := by decide +kernel
theorem dL_law_561 : decode cL_law 561 = .ok (.iadd, 1) := by decide +kernel
theorem dL_law_562 : decode cL_law 562 = .ok (.iaload, 1) := by decide +kernel
theorem dL_law_563 : decode cL_law 563 = .ok (.invokevirtual 84, 3) := by decide +kernel
theorem dL_law_566 : decode cL_law 566 = .ok (.if_icmp .eq 5, 3) := by decide +kernel
theorem dL_law_569 : decode cL_law 569 = .ok (.iconst 0, 1) := by decide +kernel
theorem dL_law_570 : decode cL_law 570 = .ok (.ireturn, 1) := by decide +kernel
theorem dL_law_571 : decode cL_law 571 = .ok (.iinc 3 3, 3) := by decide +kernel
theorem dL_law_574 : decode cL_law 574 = .ok (.goto (-556), 3) := by decide +kernel
theorem dL_law_577 : decode cL_law 577 = .ok (.iconst 1, 1) := by decide +kernel
theorem dL_law_578 : decode cL_law 578 = .ok (.ireturn, 1) := by decide +kernel
abbrev vwCl : List vw_C := [(RX0, TX0, 12), (RX1, TX1, 3), (RX2, TX2, 6), (RX3, TX3, 19)]
end
section
/-! The flat memory of both systems, and the world that holds it. Cells: 0 the log, 1 its array of units, 2 its array of clients, 3..5 the clients, 6..11 the units, 12..17 their cells, 18 the model, 19..32 its arrays. -/
abbrev sl_M : Type := Nat → Nat → Int32
def sl_up (σ : sl_M) (k f : Nat) (v : Int32) : sl_M := fun a b => if a = k ∧ b = f then v else σ a b
theorem sl_up_s (σ : sl_M) (k f : Nat) (v : Int32) : sl_up σ k f v k f = v := by simp [sl_up]
theorem sl_up_k {σ : sl_M} {k f a b : Nat} {v : Int32} (h : a ≠ k) : sl_up σ k f v a b = σ a b := by simp [sl_up, h]
theorem sl_up_f {σ : sl_M} {k f a b : Nat} {v : Int32} (h : b ≠ f) : sl_up σ k f v a b = σ a b := by simp [sl_up, h]
theorem sl_up_row {σ : sl_M} {k f a : Nat} {v : Int32} (h : a ≠ k) : sl_up σ k f v a = σ a := by funext b; simp [sl_up, h]
theorem sl_up_own (σ : sl_M) (k f : Nat) (v : Int32) : sl_up σ k f v k = upd (σ k) f v := by funext b; by_cases h : b = f <;> simp [sl_up, upd, h]
abbrev sl_fC (σ : sl_M) (k : Nat) : List Value := [.int (σ k 0), .int (σ k 1), .int (σ k 2), .int (σ k 3), .int (σ k 4), .int (σ k 5), .int (σ k 6), .int (σ k 7), .int (σ k 8), .int (σ k 9), .int (σ k 10), .int (σ k 11)]
abbrev sl_fU (ad : Nat → Nat) (σ : sl_M) (k : Nat) : List Value := [.int (σ k 0), .int (σ k 1), .ref (ad (k + 6))]
abbrev sl_fL (ad : Nat → Nat) (σ : sl_M) : List Value := [.ref (ad 1), .ref (ad 2), .int (σ 0 2), .int (σ 0 3), .int (σ 0 4), .int (σ 0 5)]
abbrev sl_fM (ad : Nat → Nat) (τ : sl_M) : List Value := [.int (τ 18 0), .ref (ad 19), .ref (ad 20), .ref (ad 21), .ref (ad 22), .ref (ad 23), .int (τ 18 6), .int (τ 18 7), .int (τ 18 8), .int (τ 18 9), .ref (ad 24), .ref (ad 25), .ref (ad 26), .ref (ad 27), .ref (ad 28), .ref (ad 29), .ref (ad 30), .ref (ad 31), .ref (ad 32)]
def sl_len (k : Nat) : Nat := if k < 22 then 192 else if k < 24 then 6 else 3
def sl_ent (cy : Nat → ClassId) (ad : Nat → Nat) (σ τ : sl_M) (k : Nat) : va_E :=
  if k = 0 then .inr (2, sl_fL ad σ)
  else if k = 1 then .inl (cy 2, 6, .inr (.inr (.inr (.inr (fun j => some (ad (6 + j)))))))
  else if k = 2 then .inl (cy 1, 3, .inr (.inr (.inr (.inr (fun j => some (ad (3 + j)))))))
  else if k < 6 then .inr (0, sl_fC σ k)
  else if k < 12 then .inr (1, sl_fU ad σ k)
  else if k < 18 then .inl (cy 0, 32, .inl (σ k))
  else if k = 18 then .inr (3, sl_fM ad τ)
  else .inl (cy 0, sl_len k, .inl (τ k))
def sl_wd (cy : Nat → ClassId) (ad : Nat → Nat) (σ τ : sl_M) : va_W := (List.range 33).map (fun k => (ad k, sl_ent cy ad σ τ k))
section SLW
variable {cy : Nat → ClassId} {ad : Nat → Nat} {σ τ σ' τ' : sl_M} {i j k : Nat}
theorem sl_wd_at (hk : k < 33) : (sl_wd cy ad σ τ)[k]? = some (ad k, sl_ent cy ad σ τ k) := by simp [sl_wd, hk]
theorem sl_wd_of {q : Nat × va_E} (h : (sl_wd cy ad σ τ)[k]? = some q) : k < 33 ∧ q = (ad k, sl_ent cy ad σ τ k) := by
  by_cases hk : k < 33
  · rw [sl_wd_at hk] at h
    exact ⟨hk, (Option.some.inj h).symm⟩
  · have : (sl_wd cy ad σ τ)[k]? = none := by
      rw [List.getElem?_eq_none]
      simp [sl_wd]
      omega
    rw [this] at h
    cases h
theorem sl_wd_set {e : va_E} (h1 : sl_ent cy ad σ' τ' k = e) (h2 : ∀ j, j < 33 → j ≠ k → sl_ent cy ad σ' τ' j = sl_ent cy ad σ τ j) : (sl_wd cy ad σ τ).set k (ad k, e) = sl_wd cy ad σ' τ' := by
  apply List.ext_getElem?
  intro j
  by_cases hj : j < 33
  · rw [sl_wd_at hj]
    by_cases hjk : j = k
    · subst hjk
      rw [List.getElem?_set_self (by simp [sl_wd]; exact hj), h1]
    · rw [List.getElem?_set_ne (fun q => hjk q.symm), sl_wd_at hj, h2 j hj hjk]
  · rw [List.getElem?_eq_none (by simp [sl_wd]; omega), List.getElem?_eq_none (by simp [sl_wd]; omega)]
theorem sl_aL : (sl_wd cy ad σ τ)[0]? = some (ad 0, .inr (2, sl_fL ad σ)) := sl_wd_at (by decide)
theorem sl_a1 : (sl_wd cy ad σ τ)[1]? = some (ad 1, .inl (cy 2, 6, .inr (.inr (.inr (.inr (fun j => some (ad (6 + j)))))))) := sl_wd_at (by decide)
theorem sl_a2 : (sl_wd cy ad σ τ)[2]? = some (ad 2, .inl (cy 1, 3, .inr (.inr (.inr (.inr (fun j => some (ad (3 + j)))))))) := sl_wd_at (by decide)
theorem sl_aC (hi : i < 3) : (sl_wd cy ad σ τ)[3 + i]? = some (ad (3 + i), .inr (0, sl_fC σ (3 + i))) := by
  rw [sl_wd_at (by omega), sl_ent, if_neg (by omega), if_neg (by omega), if_neg (by omega), if_pos (by omega)]
theorem sl_aU (hj : j < 6) : (sl_wd cy ad σ τ)[6 + j]? = some (ad (6 + j), .inr (1, sl_fU ad σ (6 + j))) := by
  rw [sl_wd_at (by omega), sl_ent, if_neg (by omega), if_neg (by omega), if_neg (by omega), if_neg (by omega), if_pos (by omega)]
theorem sl_aA (hj : j < 6) : (sl_wd cy ad σ τ)[6 + j + 6]? = some (ad (6 + j + 6), .inl (cy 0, 32, .inl (σ (6 + j + 6)))) := by
  rw [sl_wd_at (by omega), sl_ent, if_neg (by omega), if_neg (by omega), if_neg (by omega), if_neg (by omega), if_neg (by omega), if_pos (by omega)]
theorem sl_aM : (sl_wd cy ad σ τ)[18]? = some (ad 18, .inr (3, sl_fM ad τ)) := sl_wd_at (by decide)
theorem sl_aR {n : Nat} (h1 : 18 < k) (h2 : k < 33) (hn : sl_len k = n) : (sl_wd cy ad σ τ)[k]? = some (ad k, .inl (cy 0, n, .inl (τ k))) := by
  subst hn
  rw [sl_wd_at h2, sl_ent, if_neg (by omega), if_neg (by omega), if_neg (by omega), if_neg (by omega), if_neg (by omega), if_neg (by omega), if_neg (by omega)]
theorem sl_sC (hi : i < 3) {f : Nat} (hf : f < 12) (v : Int32) : (sl_wd cy ad σ τ).set (3 + i) (ad (3 + i), .inr (0, (sl_fC σ (3 + i)).set f (.int v))) = sl_wd cy ad (sl_up σ (3 + i) f v) τ := by
  refine sl_wd_set ?_ (fun j hj hjk => ?_)
  · rw [sl_ent, if_neg (by omega), if_neg (by omega), if_neg (by omega), if_pos (by omega)]
    rcases (show f = 0 ∨ f = 1 ∨ f = 2 ∨ f = 3 ∨ f = 4 ∨ f = 5 ∨ f = 6 ∨ f = 7 ∨ f = 8 ∨ f = 9 ∨ f = 10 ∨ f = 11 by omega) with rfl | rfl | rfl | rfl | rfl | rfl | rfl | rfl | rfl | rfl | rfl | rfl <;> simp [sl_fC, sl_up]
  · simp only [sl_ent, sl_fL, sl_fC, sl_fU, sl_up_k (σ := σ) (k := 3 + i) hjk, sl_up_row (σ := σ) (k := 3 + i) hjk]
    by_cases h0 : j = 0
    · subst h0
      simp [sl_up_k (σ := σ) (k := 3 + i) (a := 0) (by omega)]
    · simp [h0]
theorem sl_sU (hj : j < 6) {f : Nat} (hf : f < 2) (v : Int32) : (sl_wd cy ad σ τ).set (6 + j) (ad (6 + j), .inr (1, (sl_fU ad σ (6 + j)).set f (.int v))) = sl_wd cy ad (sl_up σ (6 + j) f v) τ := by
  refine sl_wd_set ?_ (fun q hq hqk => ?_)
  · rw [sl_ent, if_neg (by omega), if_neg (by omega), if_neg (by omega), if_neg (by omega), if_pos (by omega)]
    rcases (show f = 0 ∨ f = 1 by omega) with rfl | rfl <;> simp [sl_fU, sl_up]
  · simp only [sl_ent, sl_fL, sl_fC, sl_fU, sl_up_k (σ := σ) (k := 6 + j) hqk, sl_up_row (σ := σ) (k := 6 + j) hqk]
    by_cases h0 : q = 0
    · subst h0
      simp [sl_up_k (σ := σ) (k := 6 + j) (a := 0) (by omega)]
    · simp [h0]
theorem sl_sL {f : Nat} (h2 : 2 ≤ f) (hf : f < 6) (v : Int32) : (sl_wd cy ad σ τ).set 0 (ad 0, .inr (2, (sl_fL ad σ).set f (.int v))) = sl_wd cy ad (sl_up σ 0 f v) τ := by
  refine sl_wd_set ?_ (fun q hq hqk => ?_)
  · rw [sl_ent, if_pos rfl]
    rcases (show f = 2 ∨ f = 3 ∨ f = 4 ∨ f = 5 by omega) with rfl | rfl | rfl | rfl <;> simp [sl_fL, sl_up]
  · simp only [sl_ent, sl_fL, sl_fC, sl_fU, sl_up_k (σ := σ) (k := 0) hqk, sl_up_row (σ := σ) (k := 0) hqk, if_neg hqk]
theorem sl_sA (hj : j < 6) (n : Nat) (v : Int32) : (sl_wd cy ad σ τ).set (6 + j + 6) (ad (6 + j + 6), .inl (cy 0, 32, .inl (upd (σ (6 + j + 6)) n v))) = sl_wd cy ad (sl_up σ (6 + j + 6) n v) τ := by
  refine sl_wd_set ?_ (fun q hq hqk => ?_)
  · rw [sl_ent, if_neg (by omega), if_neg (by omega), if_neg (by omega), if_neg (by omega), if_neg (by omega), if_pos (by omega), sl_up_own]
  · simp only [sl_ent, sl_fL, sl_fC, sl_fU, sl_up_k (σ := σ) (k := 6 + j + 6) hqk, sl_up_row (σ := σ) (k := 6 + j + 6) hqk]
    by_cases h0 : q = 0
    · subst h0
      simp [sl_up_k (σ := σ) (k := 6 + j + 6) (a := 0) (by omega)]
    · simp [h0]
theorem sl_sM {f : Nat} (hf : f = 0 ∨ f = 6 ∨ f = 7 ∨ f = 8 ∨ f = 9) (v : Int32) : (sl_wd cy ad σ τ).set 18 (ad 18, .inr (3, (sl_fM ad τ).set f (.int v))) = sl_wd cy ad σ (sl_up τ 18 f v) := by
  refine sl_wd_set ?_ (fun q hq hqk => ?_)
  · rw [sl_ent, if_neg (by omega), if_neg (by omega), if_neg (by omega), if_neg (by omega), if_neg (by omega), if_neg (by omega), if_pos rfl]
    rcases hf with rfl | rfl | rfl | rfl | rfl <;> simp [sl_fM, sl_up]
  · simp only [sl_ent, sl_fM, sl_up_row (σ := τ) (k := 18) hqk, if_neg hqk]
theorem sl_sR {n : Nat} (h1 : 18 < k) (h2 : k < 33) (hn : sl_len k = n) (q : Nat) (v : Int32) : (sl_wd cy ad σ τ).set k (ad k, .inl (cy 0, n, .inl (upd (τ k) q v))) = sl_wd cy ad σ (sl_up τ k q v) := by
  subst hn
  refine sl_wd_set ?_ (fun a ha hak => ?_)
  · rw [sl_ent, if_neg (by omega), if_neg (by omega), if_neg (by omega), if_neg (by omega), if_neg (by omega), if_neg (by omega), if_neg (by omega), sl_up_own]
  · simp only [sl_ent, sl_fM, sl_up_row (σ := τ) (k := k) hak]
    by_cases h0 : a = 18
    · subst h0
      simp [sl_up_k (σ := τ) (k := k) (a := 18) (by omega)]
    · simp [h0]
end SLW
end
section
/-! Contracts over the world, and the rows that use them. -/
def sl_tys (cy : Nat → ClassId) : List (ClassId × FieldType) := [(cy 0, .int), (cy 1, .object "SharedLog$Client"), (cy 2, .object "SharedLog$Unit")]
/-- the words of the nest: (own, index, ref, name, descriptor), host SharedLog -/
def sl_nf : List (Nat × String × String × String) := [(40, "SharedLog$Client", "kind", "I"), (44, "SharedLog$Client", "content", "I"), (55, "SharedLog$Client", "position", "I"), (65, "SharedLog$Client", "upto", "I"), (68, "SharedLog$Client", "sum", "I"), (75, "SharedLog$Client", "members", "I"), (78, "SharedLog$Client", "survivors", "I"), (81, "SharedLog$Client", "greatestEnd", "I"), (84, "SharedLog$Client", "route", "I"), (98, "SharedLog$Unit", "up", "Z"), (102, "SharedLog$Unit", "epoch", "I"), (119, "SharedLog$Client", "epoch", "I"), (120, "SharedLog$Client", "outcome", "I"), (123, "SharedLog$Client", "number", "I")]
def sl_nm : List (String × Nat × MethodName) := [(RX2, 34, yX1_init), (RX2, 35, yX0_init), (RX2, 47, yX0_begin), (RX2, 58, yX0_chainOf), (RX2, 71, yX0_replayRoute), (RX2, 105, yX0_newestEpochItBears), (RX2, 108, yX0_end), (RX2, 126, yX1_contentAt), (RX2, 150, yX0_isAtHead), (RX2, 154, yX1_writeOnce), (RX2, 158, yX0_goAlongChain), (RX2, 161, yX1_endOfWritten), (RX0, 52, yX2_highestOf), (RX0, 55, yX2_withoutLowest), (RX1, 23, yX2_isPosition)]
def sl_N (U : State) : Prop := (∀ q ∈ sl_nf, va_Nw (.fieldLinkNest RX2 q.1 q.2.1 q.2.2.1 q.2.2.2 "SharedLog") U) ∧ ∀ q ∈ sl_nm, va_Nw (.methodLinkNest q.1 q.2.1 q.2.2 "SharedLog") U
theorem sl_N.warm {s U : State} (h : sl_N s) (hW : s.WarmedH U.vm) : sl_N U := ⟨fun q hq => va_Nw.warmF hW (h.1 q hq), fun q hq => va_Nw.warmM hW (h.2 q hq)⟩
theorem sl_N.same {s U : State} (h : sl_N s) (e : s.vm = U.vm) : sl_N U := ⟨fun q hq => va_Nw.same rfl e (h.1 q hq), fun q hq => va_Nw.same rfl e (h.2 q hq)⟩
/-- a field of a nest mate, by its place -/
theorem sl_N.f {s : State} {args : Array Value} (h : sl_N s) (n : Nat) {q : Nat × String × String × String} (hq : sl_nf[n]? = some q) : (Cond.fieldLinkNest RX2 q.1 q.2.1 q.2.2.1 q.2.2.2 "SharedLog").before args s = true := va_Nw.use rfl (h.1 q (List.mem_of_getElem? hq))
theorem sl_N.m {s : State} (h : sl_N s) (n : Nat) {q : String × Nat × MethodName} (hq : sl_nm[n]? = some q) : va_Nw (.methodLinkNest q.1 q.2.1 q.2.2 "SharedLog") s := h.2 q (List.mem_of_getElem? hq)
def sl_Pre (G : va_G) (cy : Nat → ClassId) (ad : Nat → Nat) (σ τ : sl_M) (U : State) : Prop := va_P G vwCl (sl_wd cy ad σ τ) U.heap ∧ va_K G vwCl (sl_tys cy) U ∧ va_D (fun _ => True) (sl_wd cy ad σ τ) ∧ sl_N U
def sl_A (ad : Nat → Nat) (sz : Nat) : Nat → Prop := fun q => (∃ k, k < 33 ∧ q = ad k) ∨ sz ≤ q
theorem sl_A.mono {ad : Nat → Nat} {a b q : Nat} (h : a ≤ b) (hq : sl_A ad b q) : sl_A ad a q := hq.elim Or.inl (fun g => Or.inr (Nat.le_trans h g))
def sl_Q (G : va_G) (cy : Nat → ClassId) (ad : Nat → Nat) (v : Option Value) (σ' τ' : sl_M) (sz : Nat) : Array Value → State → Outcome → State → Prop := fun _ st oc t => (oc = .returned v ∧ va_P G vwCl (sl_wd cy ad σ' τ') t.heap) ∧ va_F (sl_A ad sz) st t
/-- a contract: from the world of σ, τ the method returns v and leaves the world of σ', τ' -/
def sl_C (l : Launch) (G : va_G) (cy : Nat → ClassId) (ad : Nat → Nat) (y : MethodName) (ws : List Cond) (rm : Room) (av : List Value) (σ τ : sl_M) (v : Option Value) (σ' τ' : sl_M) : Prop := ∀ sz, Met l y ws rm (va_Pc av (fun U => U.heap.size = sz ∧ sl_Pre G cy ad σ τ U)) (sl_Q G cy ad v σ' τ' sz) 0 0 (sl_A ad sz)
theorem sl_D1 {cy : Nat → ClassId} {ad : Nat → Nat} {σ τ σ1 τ1 : sl_M} {A : Nat → Prop} {sz : Nat} (h : va_D A (sl_wd cy ad σ τ)) : va_D (sl_A ad sz) (sl_wd cy ad σ1 τ1) := by
  refine ⟨fun i j p q hp hq e => ?_, fun k q hq => ?_⟩
  · obtain ⟨hi, rfl⟩ := sl_wd_of hp
    obtain ⟨hj, rfl⟩ := sl_wd_of hq
    exact h.1 i j _ _ (sl_wd_at hi) (sl_wd_at hj) e
  · obtain ⟨hk, rfl⟩ := sl_wd_of hq
    exact Or.inl ⟨k, hk, rfl⟩
theorem sl_blind {G : va_G} {cy : Nat → ClassId} {ad : Nat → Nat} {σ τ : sl_M} {av : List Value} {sz : Nat} : FrameBlind (va_Pc av (fun U => U.heap.size = sz ∧ sl_Pre G cy ad σ τ U)) := fun a U g mk q => by
  obtain ⟨q0, q1, qP, qK, qD, qN⟩ := q
  exact ⟨q0, q1, qP, va_K.moved (u := U) (U := U.calling g mk a) (Vm.Alike.refl U.vm) qK, qD, qN.same rfl⟩
abbrev sl_Z (G : va_G) (cy : Nat → ClassId) (ad : Nat → Nat) (v : Option Value) (σ' τ' : sl_M) (av : List Value) (below : List Frame) (s : State) : State → Prop := MQ below (sl_Q G cy ad v σ' τ' s.heap.size) av.toArray s 0 0 (sl_A ad s.heap.size)
theorem sl_of {l : Launch} {G : va_G} {cy : Nat → ClassId} {ad : Nat → Nat} {y : MethodName} {ws ws' : List Cond} {rm : Room} {av : List Value} {σ τ σ' τ' : sl_M} {v : Option Value} {cc : ByteArray} {maxL : Nat} {ret : Option FieldType} (hy : plainName y.cls = true) (hw : ws = Cond.code y cc maxL ret :: ws') (hlen : (lg_sl av).length ≤ maxL)
    (body : ∀ (p : Program) (e : Env) (s : State) (m : MethodId) (below : List Frame) (meth : Method) (c : Code), p.tables.exec = Jvm.exec → c.code = cc → meth.sig.returnType = ret → c.maxLocals = maxL → (∀ w ∈ ws, w.before av.toArray s = true) → s.vm.findClass y.cls = some m.cls → meth.locks = false → va_K G vwCl (sl_tys cy) s → sl_N s → (∀ σ1 τ1, va_D (sl_A ad s.heap.size) (sl_wd cy ad σ1 τ1)) → va_P G vwCl (sl_wd cy ad σ τ) s.heap → va_S (sl_A ad s.heap.size) s.heap s.heap [] → ∀ ls, lv_has ls maxL (lv_args 0 av) → W p l e rm s m av.toArray below meth c s.heap [] 0 0 (sl_Z G cy ad v σ' τ' av below s) (F0 m 0 ls [])) : sl_C l G cy ad y ws rm av σ τ v σ' τ' := by
  intro sz
  refine Met.ofW (cc := cc) (maxL := maxL) (ret := ret) hy hw ?_
  intro p e s m args below meth c s₁ B hml hv
  obtain ⟨rfl, rfl, hP, hK, hD, hN⟩ := hv
  have hl := lv_entry av (n := maxL) hlen
  rw [lg_entry_eq]
  exact body p e s m below meth c B.exec B.bytes B.returns hml (atoms_spec (ws := ws) B.pre) (findClass_of_methodNamed B.named) B.notSynchronized hK hN (fun σ1 τ1 => sl_D1 hD) hP va_S.rf _ hl
section SLR
variable {p : Program} {l : Launch} {e : Env} {R : Room} {s : State} {m : MethodId} {args : Array Value} {below : List Frame} {meth : Method} {c : Code} {H : Heap} {locs : List Loc} {cells slots : Nat} {Q : State → Prop}
variable {G : va_G} {cy : Nat → ClassId} {ad : Nat → Nat} {σ τ σ' τ' : sl_M} {v : Option Value} {pc : Nat} {ls : Array Slot} {rest st0 : List Value} {a : Array Value} {cc : ByteArray}
theorem sl_go (hr : va_Run p l e R s m args below meth c H locs cells slots 0 0 (F0 m pc ls st0) rest (sl_Q G cy ad v σ' τ' H.size a) (sl_A ad H.size)) (hS : va_S (sl_A ad s.heap.size) s.heap H locs)
    (kk : ∀ (H1 : Heap) (locs1 : List Loc), va_P G vwCl (sl_wd cy ad σ' τ') H1 → va_S (sl_A ad s.heap.size) s.heap H1 locs1 → W p l e R s m args below meth c H1 locs1 cells slots Q (F0 m (pc + 3) ls (v.toList ++ rest))) : W p l e R s m args below meth c H locs cells slots Q (F0 m pc ls st0) := by
  intro T hT X
  obtain ⟨v', st₀, t, T', L, h0, X', hL, e1, e2, ⟨⟨hv, hb⟩, hz, hk⟩, st⟩ := hr T hT X
  cases hv
  rw [h0] at hz hk
  obtain ⟨t2, a1, b1⟩ := kk T'.heap (locs ++ L) (by rw [e1]; exact hb)
    ⟨Nat.le_trans hS.1 (by rw [e1]; exact hz), fun q h1 h2 => by rw [e1, hk q (Nat.lt_of_lt_of_le h1 hS.1) (fun z => h2 (z.mono hS.1))]; exact hS.2.1 q h1 h2, fun q hq => by
      rcases List.mem_append.mp hq with h | h
      · exact hS.2.2 q h
      · exact (hL q h).mono hS.1⟩ T' rfl X'
  exact ⟨t2, st t2 a1, b1⟩
variable {y : MethodName} {bytes : ByteArray} {maxL nL n index : Nat} {ret : Option FieldType} {ws ws' : List Cond} {rm : Room} {Ts : List Cond} {own C : String} {b : Addr} {As : List Value}
theorem sl_pre {av : List Value} (hK : va_K G vwCl (sl_tys cy) s) (hN : sl_N s) (hD : ∀ σ1 τ1, va_D (sl_A ad s.heap.size) (sl_wd cy ad σ1 τ1)) (hP : va_P G vwCl (sl_wd cy ad σ τ) H) : ∀ U : State, U.heap = H → s.WarmedH U.vm → va_Pc av (fun U => U.heap.size = H.size ∧ sl_Pre G cy ad σ τ U) av.toArray U := fun U hU hW => ⟨rfl, by rw [hU], by rw [hU]; exact hP, va_K.moved hW.alike hK, (hD σ τ).weaken (fun _ _ _ _ => trivial), hN.warm hW⟩
/-- a virtual call -/
theorem sl_cV (S : CallFix p m c cc nL s args Ts own) (hM : sl_C l G cy ad y ws rm (.ref b :: As) σ τ v σ' τ') (hg : GoodIn Ts (wsV own index C y ws)) (hw : ws = Cond.code y bytes maxL ret :: ws') (hr0 : rm.cells = 0) (hr1 : rm.slots = 0)
    (hd : y.cls = C ∧ y.cls ≠ "java/lang/invoke/MethodHandle" ∧ y.cls ≠ "java/lang/invoke/VarHandle" ∧ (parseMethodDescriptor y.desc).map (fun d => d.parameters.length) = some n) (hR : rm.frames + 1 ≤ R.frames ∧ 8 + (maxL + 11) + rm.locals ≤ R.locals)
    (hrecv : ∃ cell : Cell, H[b]? = some cell ∧ cell.vm.isStatics = false ∧ s.vm.findClass C = some cell.cls) (hn : As.length = n) (hsize : ls.size = nL) (hstack : st0 = As.reverse ++ .ref b :: rest) (hW : (rest.map fun v => v.category).sum ≤ 8) (hdg : decode cc pc = .ok (.invokevirtual index, 3)) (hf : cells ≤ R.cells ∧ slots ≤ R.slots)
    (hK : va_K G vwCl (sl_tys cy) s) (hN : sl_N s) (hD : ∀ σ1 τ1, va_D (sl_A ad s.heap.size) (sl_wd cy ad σ1 τ1)) (hP : va_P G vwCl (sl_wd cy ad σ τ) H) (hS : va_S (sl_A ad s.heap.size) s.heap H locs)
    (kk : ∀ (H1 : Heap) (locs1 : List Loc), va_P G vwCl (sl_wd cy ad σ' τ') H1 → va_S (sl_A ad s.heap.size) s.heap H1 locs1 → W p l e R s m args below meth c H1 locs1 cells slots Q (F0 m (pc + 3) ls (v.toList ++ rest))) : W p l e R s m args below meth c H locs cells slots Q (F0 m pc ls st0) :=
  sl_go (va_runV S (hM H.size) (cwV n S.2.2.2.2 hg hw hr0 hr1 hd hR) ⟨sl_blind, hrecv, sl_pre hK hN hD hP⟩ rfl hn hsize hstack (lv_room hW) hdg ⟨hf.1, hf.2⟩) hS kk
/-- a static call -/
theorem sl_cS (S : CallFix p m c cc nL s args Ts own) (hM : sl_C l G cy ad y ws rm As σ τ v σ' τ') (hg : GoodIn Ts (va_wsS own index y ws)) (hw : ws = Cond.code y bytes maxL ret :: ws') (hr0 : rm.cells = 0) (hr1 : rm.slots = 0)
    (hd : y.cls ≠ "java/lang/invoke/MethodHandle" ∧ y.cls ≠ "java/lang/invoke/VarHandle" ∧ (parseMethodDescriptor y.desc).map (fun d => d.parameters.length) = some n) (hR : rm.frames + 1 ≤ R.frames ∧ 8 + (maxL + 11) + rm.locals ≤ R.locals)
    (hn : As.length = n) (hsize : ls.size = nL) (hstack : st0 = As.reverse ++ rest) (hW : (rest.map fun v => v.category).sum ≤ 8) (hdg : decode cc pc = .ok (.invokestatic index, 3)) (hf : cells ≤ R.cells ∧ slots ≤ R.slots)
    (hK : va_K G vwCl (sl_tys cy) s) (hN : sl_N s) (hD : ∀ σ1 τ1, va_D (sl_A ad s.heap.size) (sl_wd cy ad σ1 τ1)) (hP : va_P G vwCl (sl_wd cy ad σ τ) H) (hS : va_S (sl_A ad s.heap.size) s.heap H locs)
    (kk : ∀ (H1 : Heap) (locs1 : List Loc), va_P G vwCl (sl_wd cy ad σ' τ') H1 → va_S (sl_A ad s.heap.size) s.heap H1 locs1 → W p l e R s m args below meth c H1 locs1 cells slots Q (F0 m (pc + 3) ls (v.toList ++ rest))) : W p l e R s m args below meth c H locs cells slots Q (F0 m pc ls st0) :=
  sl_go (va_runS S (hM H.size) (va_cwS n S.2.2.2.2 hg hw hr0 hr1 hd hR) ⟨sl_blind, sl_pre hK hN hD hP⟩ rfl hn hsize hstack (lv_room hW) hdg ⟨hf.1, hf.2⟩) hS kk
/-- a virtual call of a nest mate's private method -/
theorem sl_nV (S : CallFix p m c cc nL s args Ts own) (hM : sl_C l G cy ad y ws rm (.ref b :: As) σ τ v σ' τ') (hg : GoodIn Ts ws) (hw : ws = Cond.code y bytes maxL ret :: ws') (hr0 : rm.cells = 0) (hr1 : rm.slots = 0) (hl : va_Nw (.methodLinkNest own index y "SharedLog") s) (hini : (Cond.initialized y.cls).before args s = true) (hinst : (Cond.instanceMethod y).before args s = true) (hsel : (Cond.selects C y y).before args s = true)
    (hd : y.cls ≠ "java/lang/invoke/MethodHandle" ∧ y.cls ≠ "java/lang/invoke/VarHandle" ∧ (parseMethodDescriptor y.desc).map (fun d => d.parameters.length) = some n) (hR : rm.frames + 1 ≤ R.frames ∧ 8 + (maxL + 11) + rm.locals ≤ R.locals)
    (hrecv : ∃ cell : Cell, H[b]? = some cell ∧ cell.vm.isStatics = false ∧ s.vm.findClass C = some cell.cls) (hn : As.length = n) (hsize : ls.size = nL) (hstack : st0 = As.reverse ++ .ref b :: rest) (hW : (rest.map fun v => v.category).sum ≤ 8) (hdg : decode cc pc = .ok (.invokevirtual index, 3)) (hf : cells ≤ R.cells ∧ slots ≤ R.slots)
    (hK : va_K G vwCl (sl_tys cy) s) (hN : sl_N s) (hD : ∀ σ1 τ1, va_D (sl_A ad s.heap.size) (sl_wd cy ad σ1 τ1)) (hP : va_P G vwCl (sl_wd cy ad σ τ) H) (hS : va_S (sl_A ad s.heap.size) s.heap H locs)
    (kk : ∀ (H1 : Heap) (locs1 : List Loc), va_P G vwCl (sl_wd cy ad σ' τ') H1 → va_S (sl_A ad s.heap.size) s.heap H1 locs1 → W p l e R s m args below meth c H1 locs1 cells slots Q (F0 m (pc + 3) ls (v.toList ++ rest))) : W p l e R s m args below meth c H locs cells slots Q (F0 m pc ls st0) :=
  sl_go (va_runVN S (hM H.size) ⟨va_cnB n S.2.2.2.2 hg hw hr0 hr1 hl hini hd hR, hinst, hsel⟩ ⟨sl_blind, hrecv, sl_pre hK hN hD hP⟩ rfl hn hsize hstack (lv_room hW) hdg ⟨hf.1, hf.2⟩) hS kk
/-- a static call of a nest mate's private method -/
theorem sl_nS (S : CallFix p m c cc nL s args Ts own) (hM : sl_C l G cy ad y ws rm As σ τ v σ' τ') (hg : GoodIn Ts ws) (hw : ws = Cond.code y bytes maxL ret :: ws') (hr0 : rm.cells = 0) (hr1 : rm.slots = 0) (hl : va_Nw (.methodLinkNest own index y "SharedLog") s) (hini : (Cond.initialized y.cls).before args s = true) (hst : (Cond.static y).before args s = true)
    (hd : y.cls ≠ "java/lang/invoke/MethodHandle" ∧ y.cls ≠ "java/lang/invoke/VarHandle" ∧ (parseMethodDescriptor y.desc).map (fun d => d.parameters.length) = some n) (hR : rm.frames + 1 ≤ R.frames ∧ 8 + (maxL + 11) + rm.locals ≤ R.locals)
    (hn : As.length = n) (hsize : ls.size = nL) (hstack : st0 = As.reverse ++ rest) (hW : (rest.map fun v => v.category).sum ≤ 8) (hdg : decode cc pc = .ok (.invokestatic index, 3)) (hf : cells ≤ R.cells ∧ slots ≤ R.slots)
    (hK : va_K G vwCl (sl_tys cy) s) (hN : sl_N s) (hD : ∀ σ1 τ1, va_D (sl_A ad s.heap.size) (sl_wd cy ad σ1 τ1)) (hP : va_P G vwCl (sl_wd cy ad σ τ) H) (hS : va_S (sl_A ad s.heap.size) s.heap H locs)
    (kk : ∀ (H1 : Heap) (locs1 : List Loc), va_P G vwCl (sl_wd cy ad σ' τ') H1 → va_S (sl_A ad s.heap.size) s.heap H1 locs1 → W p l e R s m args below meth c H1 locs1 cells slots Q (F0 m (pc + 3) ls (v.toList ++ rest))) : W p l e R s m args below meth c H locs cells slots Q (F0 m pc ls st0) :=
  sl_go (va_runSN S (hM H.size) ⟨va_cnB n S.2.2.2.2 hg hw hr0 hr1 hl hini hd hR, hst, trivial⟩ ⟨sl_blind, sl_pre hK hN hD hP⟩ rfl hn hsize hstack (lv_room hW) hdg ⟨hf.1, hf.2⟩) hS kk
variable {i j k f : Nat} {x z : Int32}
abbrev sl_K (p : Program) (l : Launch) (e : Env) (R : Room) (s : State) (m : MethodId) (args : Array Value) (below : List Frame) (meth : Method) (c : Code) (cells slots : Nat) (Q : State → Prop) (G : va_G) (cy : Nat → ClassId) (ad : Nat → Nat) (σ τ : sl_M) (fr : JFrame) : Prop := ∀ (H1 : Heap) (locs1 : List Loc), va_P G vwCl (sl_wd cy ad σ τ) H1 → va_S (sl_A ad s.heap.size) s.heap H1 locs1 → W p l e R s m args below meth c H1 locs1 cells slots Q fr
/-- a client's field, written by the log -/
theorem sl_putCN (hx : p.tables.exec = Jvm.exec) (hb : c.code = cc) (hts : ∀ w ∈ Ts, w.before args s = true) (hin : ∀ w ∈ wsX00, w ∈ Ts) (hown : s.vm.findClass RX2 = some m.cls) (hK : va_K G vwCl (sl_tys cy) s) (hD : ∀ σ1 τ1, va_D (sl_A ad s.heap.size) (sl_wd cy ad σ1 τ1)) (hP : va_P G vwCl (sl_wd cy ad σ τ) H) (hS : va_S (sl_A ad s.heap.size) s.heap H locs) (hi : i < 3) (f : Nat) (hf : f < 12) (hfin : (TX0 f).2.2.2 = false) (hty : parseFieldDescriptor (TX0 f).2.2.1 = some .int) (hlink : (Cond.fieldLinkNest RX2 index (TX0 f).1 (TX0 f).2.1 (TX0 f).2.2.1 "SharedLog").before args s = true) (hdg : decode cc pc = .ok (.putfield index, 3))
    (kk : sl_K p l e R s m args below meth c cells slots Q G cy ad (sl_up σ (3 + i) f x) τ (F0 m (pc + 3) ls rest)) : W p l e R s m args below meth c H locs cells slots Q (F0 m pc ls (.int x :: .ref (ad (3 + i)) :: rest)) :=
  va_putN (ci := 0) (ty := .int) (C := RX0) (T := TX0) (N := 12) hx hb hts hin tyX0 tyX0_ok nmX0 hown hK hP (hD σ τ) hS (3 + i) (sl_aC hi) rfl f hf hlink (fun _ h => h) hfin hty rfl rfl hf hdg (fun H1 locs1 h1 _ h3 => kk H1 locs1 (by rw [← sl_sC hi hf]; exact h1) h3)
/-- a client's field, written by itself -/
theorem sl_putC (hx : p.tables.exec = Jvm.exec) (hb : c.code = cc) (hts : ∀ w ∈ Ts, w.before args s = true) (hin : ∀ w ∈ wsX00, w ∈ Ts) (hown : s.vm.findClass RX0 = some m.cls) (hK : va_K G vwCl (sl_tys cy) s) (hD : ∀ σ1 τ1, va_D (sl_A ad s.heap.size) (sl_wd cy ad σ1 τ1)) (hP : va_P G vwCl (sl_wd cy ad σ τ) H) (hS : va_S (sl_A ad s.heap.size) s.heap H locs) (hi : i < 3) (f : Nat) (hf : f < 12) (hfin : (TX0 f).2.2.2 = false) (hty : parseFieldDescriptor (TX0 f).2.2.1 = some .int) (hlink : (Cond.fieldLink RX0 index (TX0 f).1 (TX0 f).2.1 (TX0 f).2.2.1).before args s = true) (hdg : decode cc pc = .ok (.putfield index, 3))
    (kk : sl_K p l e R s m args below meth c cells slots Q G cy ad (sl_up σ (3 + i) f x) τ (F0 m (pc + 3) ls rest)) : W p l e R s m args below meth c H locs cells slots Q (F0 m pc ls (.int x :: .ref (ad (3 + i)) :: rest)) :=
  va_put (ci := 0) (ty := .int) (C := RX0) (T := TX0) (N := 12) hx hb hts hin tyX0 tyX0_ok nmX0 hown hK hP (hD σ τ) hS (3 + i) (sl_aC hi) rfl f hf hlink (fun _ h => h) hfin hty rfl rfl hf hdg (fun H1 locs1 h1 _ h3 => kk H1 locs1 (by rw [← sl_sC hi hf]; exact h1) h3)
/-- a unit's field, written by the log -/
theorem sl_putUN {ty : FieldType} (hx : p.tables.exec = Jvm.exec) (hb : c.code = cc) (hts : ∀ w ∈ Ts, w.before args s = true) (hin : ∀ w ∈ wsX10, w ∈ Ts) (hown : s.vm.findClass RX2 = some m.cls) (hK : va_K G vwCl (sl_tys cy) s) (hD : ∀ σ1 τ1, va_D (sl_A ad s.heap.size) (sl_wd cy ad σ1 τ1)) (hP : va_P G vwCl (sl_wd cy ad σ τ) H) (hS : va_S (sl_A ad s.heap.size) s.heap H locs) (hj : j < 6) (f : Nat) (hf : f < 2) (hfin : (TX1 f).2.2.2 = false) (hty : parseFieldDescriptor (TX1 f).2.2.1 = some ty) (hnar : narrow ty (.int x) = .int x) (hfit : fits ty (.int x) = true) (hlink : (Cond.fieldLinkNest RX2 index (TX1 f).1 (TX1 f).2.1 (TX1 f).2.2.1 "SharedLog").before args s = true) (hdg : decode cc pc = .ok (.putfield index, 3))
    (kk : sl_K p l e R s m args below meth c cells slots Q G cy ad (sl_up σ (6 + j) f x) τ (F0 m (pc + 3) ls rest)) : W p l e R s m args below meth c H locs cells slots Q (F0 m pc ls (.int x :: .ref (ad (6 + j)) :: rest)) :=
  va_putN (ci := 1) (ty := ty) (C := RX1) (T := TX1) (N := 3) hx hb hts hin tyX1 tyX1_ok nmX1 hown hK hP (hD σ τ) hS (6 + j) (sl_aU hj) rfl f (Nat.lt_of_lt_of_le hf (by decide)) hlink (fun _ h => h) hfin hty hnar hfit (by show f < 3; omega) hdg (fun H1 locs1 h1 _ h3 => kk H1 locs1 (by rw [← sl_sU hj hf]; exact h1) h3)
/-- the log's own numbers -/
theorem sl_putL (hx : p.tables.exec = Jvm.exec) (hb : c.code = cc) (hts : ∀ w ∈ Ts, w.before args s = true) (hin : ∀ w ∈ wsX20, w ∈ Ts) (hown : s.vm.findClass RX2 = some m.cls) (hK : va_K G vwCl (sl_tys cy) s) (hD : ∀ σ1 τ1, va_D (sl_A ad s.heap.size) (sl_wd cy ad σ1 τ1)) (hP : va_P G vwCl (sl_wd cy ad σ τ) H) (hS : va_S (sl_A ad s.heap.size) s.heap H locs) (f : Nat) (hf2 : 2 ≤ f) (hf : f < 6) (hfin : (TX2 f).2.2.2 = false) (hty : parseFieldDescriptor (TX2 f).2.2.1 = some .int) (hlink : (Cond.fieldLink RX2 index (TX2 f).1 (TX2 f).2.1 (TX2 f).2.2.1).before args s = true) (hdg : decode cc pc = .ok (.putfield index, 3))
    (kk : sl_K p l e R s m args below meth c cells slots Q G cy ad (sl_up σ 0 f x) τ (F0 m (pc + 3) ls rest)) : W p l e R s m args below meth c H locs cells slots Q (F0 m pc ls (.int x :: .ref (ad 0) :: rest)) :=
  va_put (ci := 2) (ty := .int) (C := RX2) (T := TX2) (N := 6) hx hb hts hin tyX2 tyX2_ok nmX2 hown hK hP (hD σ τ) hS 0 sl_aL rfl f hf hlink (fun _ h => h) hfin hty rfl rfl hf hdg (fun H1 locs1 h1 _ h3 => kk H1 locs1 (by rw [← sl_sL hf2 hf]; exact h1) h3)
/-- the model's own numbers -/
theorem sl_putM (hx : p.tables.exec = Jvm.exec) (hb : c.code = cc) (hts : ∀ w ∈ Ts, w.before args s = true) (hin : ∀ w ∈ wsX30, w ∈ Ts) (hown : s.vm.findClass RX3 = some m.cls) (hK : va_K G vwCl (sl_tys cy) s) (hD : ∀ σ1 τ1, va_D (sl_A ad s.heap.size) (sl_wd cy ad σ1 τ1)) (hP : va_P G vwCl (sl_wd cy ad σ τ) H) (hS : va_S (sl_A ad s.heap.size) s.heap H locs) (f : Nat) (hf2 : f = 0 ∨ f = 6 ∨ f = 7 ∨ f = 8 ∨ f = 9) (hf : f < 19) (hfin : (TX3 f).2.2.2 = false) (hty : parseFieldDescriptor (TX3 f).2.2.1 = some .int) (hlink : (Cond.fieldLink RX3 index (TX3 f).1 (TX3 f).2.1 (TX3 f).2.2.1).before args s = true) (hdg : decode cc pc = .ok (.putfield index, 3))
    (kk : sl_K p l e R s m args below meth c cells slots Q G cy ad σ (sl_up τ 18 f x) (F0 m (pc + 3) ls rest)) : W p l e R s m args below meth c H locs cells slots Q (F0 m pc ls (.int x :: .ref (ad 18) :: rest)) :=
  va_put (ci := 3) (ty := .int) (C := RX3) (T := TX3) (N := 19) hx hb hts hin tyX3 tyX3_ok nmX3 hown hK hP (hD σ τ) hS 18 sl_aM rfl f hf hlink (fun _ h => h) hfin hty rfl rfl hf hdg (fun H1 locs1 h1 _ h3 => kk H1 locs1 (by rw [← sl_sM hf2]; exact h1) h3)
/-- a unit's cells -/
theorem sl_ldA (hx : p.tables.exec = Jvm.exec) (hb : c.code = cc) (hK : va_K G vwCl (sl_tys cy) s) (hP : va_P G vwCl (sl_wd cy ad σ τ) H) (hj : j < 6) (hin : vp_in x 32) (hdg : decode cc pc = .ok (.iaload, 1))
    (kk : W p l e R s m args below meth c H locs cells slots Q (F0 m (pc + 1) ls (.int (σ (6 + j + 6) x.toNatClampNeg) :: rest))) : W p l e R s m args below meth c H locs cells slots Q (F0 m pc ls (.int x :: .ref (ad (6 + j + 6)) :: rest)) := va_iald hx hb hK hP (6 + j + 6) 0 (sl_aA hj) rfl hin hdg kk
theorem sl_stA (hx : p.tables.exec = Jvm.exec) (hb : c.code = cc) (hK : va_K G vwCl (sl_tys cy) s) (hD : ∀ σ1 τ1, va_D (sl_A ad s.heap.size) (sl_wd cy ad σ1 τ1)) (hP : va_P G vwCl (sl_wd cy ad σ τ) H) (hS : va_S (sl_A ad s.heap.size) s.heap H locs) (hj : j < 6) (hin : vp_in x 32) (hdg : decode cc pc = .ok (.iastore, 1))
    (kk : sl_K p l e R s m args below meth c cells slots Q G cy ad (sl_up σ (6 + j + 6) x.toNatClampNeg z) τ (F0 m (pc + 1) ls rest)) : W p l e R s m args below meth c H locs cells slots Q (F0 m pc ls (.int z :: .int x :: .ref (ad (6 + j + 6)) :: rest)) := va_iast hx hb hK hP (hD σ τ) hS (6 + j + 6) 0 (sl_aA hj) rfl hin hdg (fun H1 locs1 h1 _ h3 => kk H1 locs1 (by rw [← sl_sA hj]; exact h1) h3)
/-- the model's arrays -/
theorem sl_ldR (k : Nat) (n : Nat) (hx : p.tables.exec = Jvm.exec) (hb : c.code = cc) (hK : va_K G vwCl (sl_tys cy) s) (hP : va_P G vwCl (sl_wd cy ad σ τ) H) (h1 : 18 < k) (h2 : k < 33) (hn : sl_len k = n) (hin : vp_in x n) (hdg : decode cc pc = .ok (.iaload, 1))
    (kk : W p l e R s m args below meth c H locs cells slots Q (F0 m (pc + 1) ls (.int (τ k x.toNatClampNeg) :: rest))) : W p l e R s m args below meth c H locs cells slots Q (F0 m pc ls (.int x :: .ref (ad k) :: rest)) := va_iald hx hb hK hP k 0 (sl_aR h1 h2 hn) rfl hin hdg kk
theorem sl_stR (k : Nat) (n : Nat) (hx : p.tables.exec = Jvm.exec) (hb : c.code = cc) (hK : va_K G vwCl (sl_tys cy) s) (hD : ∀ σ1 τ1, va_D (sl_A ad s.heap.size) (sl_wd cy ad σ1 τ1)) (hP : va_P G vwCl (sl_wd cy ad σ τ) H) (hS : va_S (sl_A ad s.heap.size) s.heap H locs) (h1 : 18 < k) (h2 : k < 33) (hn : sl_len k = n) (hin : vp_in x n) (hdg : decode cc pc = .ok (.iastore, 1))
    (kk : sl_K p l e R s m args below meth c cells slots Q G cy ad σ (sl_up τ k x.toNatClampNeg z) (F0 m (pc + 1) ls rest)) : W p l e R s m args below meth c H locs cells slots Q (F0 m pc ls (.int z :: .int x :: .ref (ad k) :: rest)) := va_iast hx hb hK hP (hD σ τ) hS k 0 (sl_aR h1 h2 hn) rfl hin hdg (fun H1 locs1 g1 _ g3 => kk H1 locs1 (by rw [← sl_sR h1 h2 hn]; exact g1) g3)
/-- the arrays of clients and of units -/
theorem sl_ldC (hx : p.tables.exec = Jvm.exec) (hb : c.code = cc) (hK : va_K G vwCl (sl_tys cy) s) (hP : va_P G vwCl (sl_wd cy ad σ τ) H) (hin : vp_in x 3) (hdg : decode cc pc = .ok (.aaload, 1))
    (kk : W p l e R s m args below meth c H locs cells slots Q (F0 m (pc + 1) ls (.ref (ad (3 + x.toNatClampNeg)) :: rest))) : W p l e R s m args below meth c H locs cells slots Q (F0 m pc ls (.int x :: .ref (ad 2) :: rest)) := va_aldq (C := "SharedLog$Client") hx hb hK hP 2 1 sl_a2 rfl hin hdg kk
theorem sl_ldU (hx : p.tables.exec = Jvm.exec) (hb : c.code = cc) (hK : va_K G vwCl (sl_tys cy) s) (hP : va_P G vwCl (sl_wd cy ad σ τ) H) (hin : vp_in x 6) (hdg : decode cc pc = .ok (.aaload, 1))
    (kk : W p l e R s m args below meth c H locs cells slots Q (F0 m (pc + 1) ls (.ref (ad (6 + x.toNatClampNeg)) :: rest))) : W p l e R s m args below meth c H locs cells slots Q (F0 m pc ls (.int x :: .ref (ad 1) :: rest)) := va_aldq (C := "SharedLog$Unit") hx hb hK hP 1 2 sl_a1 rfl hin hdg kk
end SLR
section SLE
variable {p : Program} {l : Launch} {e : Env} {R : Room} {s : State} {m : MethodId} {below : List Frame} {meth : Method} {c : Code} {H : Heap} {locs : List Loc} {G : va_G} {cy : Nat → ClassId} {ad : Nat → Nat} {σ τ σ' τ' : sl_M} {v : Option Value} {pc : Nat} {ls : Array Slot} {cc : ByteArray} {av : List Value}
theorem sl_iret {r : Int32} (hx : p.tables.exec = Jvm.exec) (hb : c.code = cc) (hr : meth.sig.returnType = some .int) (hlocks : meth.locks = false) (hP : va_P G vwCl (sl_wd cy ad σ τ) H) (hS : va_S (sl_A ad s.heap.size) s.heap H locs) (ev : v = some (.int r)) (eσ : σ' = σ) (eτ : τ' = τ) (hdg : decode cc pc = .ok (.ireturn, 1)) : W p l e R s m av.toArray below meth c H locs 0 0 (sl_Z G cy ad v σ' τ' av below s) (F0 m pc ls [.int r]) := by
  subst ev; subst eσ; subst eτ
  exact W.iret hx hb hr (fun t ht hW => ⟨⟨rfl, by rw [ht]; exact hP⟩, hS.F ht⟩) hS.2.2 hdg hlocks
theorem sl_zret {r : Int32} (hx : p.tables.exec = Jvm.exec) (hb : c.code = cc) (hr : meth.sig.returnType = some .boolean) (hlocks : meth.locks = false) (hn : narrow .boolean (.int r) = .int r) (hP : va_P G vwCl (sl_wd cy ad σ τ) H) (hS : va_S (sl_A ad s.heap.size) s.heap H locs) (ev : v = some (.int r)) (eσ : σ' = σ) (eτ : τ' = τ) (hdg : decode cc pc = .ok (.ireturn, 1)) : W p l e R s m av.toArray below meth c H locs 0 0 (sl_Z G cy ad v σ' τ' av below s) (F0 m pc ls [.int r]) := by
  subst ev; subst eσ; subst eτ
  exact W.zret hx hb hr hn (fun t ht hW => ⟨⟨rfl, by rw [ht]; exact hP⟩, hS.F ht⟩) hS.2.2 hdg hlocks
theorem sl_vret (hx : p.tables.exec = Jvm.exec) (hb : c.code = cc) (hr : meth.sig.returnType = none) (hlocks : meth.locks = false) (hP : va_P G vwCl (sl_wd cy ad σ τ) H) (hS : va_S (sl_A ad s.heap.size) s.heap H locs) (ev : v = none) (eσ : σ' = σ) (eτ : τ' = τ) (hdg : decode cc pc = .ok (.return_, 1)) : W p l e R s m av.toArray below meth c H locs 0 0 (sl_Z G cy ad v σ' τ' av below s) (F0 m pc ls []) := by
  subst ev; subst eσ; subst eτ
  exact W.vret hx hb hr (fun t ht hW => ⟨⟨rfl, by rw [ht]; exact hP⟩, hS.F ht⟩) hS.2.2 hdg hlocks
theorem sl_aret {u : Value} {C : String} (hx : p.tables.exec = Jvm.exec) (hb : c.code = cc) (hr : meth.sig.returnType = some (.object C)) (hlocks : meth.locks = false) (hu : u = .null ∨ ∃ a, u = .ref a) (hP : va_P G vwCl (sl_wd cy ad σ τ) H) (hS : va_S (sl_A ad s.heap.size) s.heap H locs) (ev : v = some u) (eσ : σ' = σ) (eτ : τ' = τ) (hdg : decode cc pc = .ok (.areturn, 1)) : W p l e R s m av.toArray below meth c H locs 0 0 (sl_Z G cy ad v σ' τ' av below s) (F0 m pc ls [u]) := by
  subst ev; subst eσ; subst eτ
  exact W.aret hx hb hr (Or.inl ⟨C, rfl⟩) hu (fun t ht hW => ⟨⟨rfl, by rw [ht]; exact hP⟩, hS.F ht⟩) hS.2.2 hdg hlocks
end SLE
/-! numbers -/
theorem sl_in {x b : Int32} {n : Nat} (h0 : ¬ x < 0) (h1 : ¬ b ≤ x) (hb : b.toInt = n) : vp_in x n := by
  rw [vp_in_iff]
  have a1 : (0 : Int32).toInt ≤ x.toInt := Int32.le_iff_toInt_le.mp (Int32.not_lt.mp h0)
  have a2 : x.toInt < b.toInt := Int32.lt_iff_toInt_lt.mp (Int32.not_le.mp h1)
  have a3 : (0 : Int32).toInt = 0 := rfl
  omega
theorem sl_lt {x : Int32} {n : Nat} (h : vp_in x n) : x.toNatClampNeg < n := Nat.not_le.mp fun q => h (Or.inr q)
theorem sl_i0 {x : Int32} {n : Nat} (h : vp_in x n) : ¬ x < 0 := fun q => h (Or.inl q)
theorem sl_iB {x b : Int32} {n : Nat} (h : vp_in x n) (hb : b.toInt = n) : ¬ b ≤ x := by
  rw [vp_in_iff] at h
  intro q
  have := Int32.le_iff_toInt_le.mp q
  omega
theorem sl_iL {x b : Int32} {n : Nat} (h : vp_in x n) (hb : b.toInt + 1 = n) : x ≤ b := by
  rw [vp_in_iff] at h
  apply Int32.le_iff_toInt_le.mpr
  omega
end
section
theorem mw_X0_begin_1 : Cond.fieldLink RX0 18 "SharedLog$Client" "kind" "I" ∈ wsX0_begin := List.mem_of_getElem? (i := 1) (by decide +kernel)
theorem mw_X0_begin_2 : Cond.fieldLink RX0 27 "SharedLog$Client" "route" "I" ∈ wsX0_begin := List.mem_of_getElem? (i := 2) (by decide +kernel)
theorem mw_X0_begin_3 : Cond.fieldLink RX0 21 "SharedLog$Client" "outcome" "I" ∈ wsX0_begin := List.mem_of_getElem? (i := 3) (by decide +kernel)
theorem mw_X0_begin_4 : Cond.fieldLink RX0 24 "SharedLog$Client" "number" "I" ∈ wsX0_begin := List.mem_of_getElem? (i := 4) (by decide +kernel)
theorem mw_X0_chainOf_1 : Cond.fieldLink RX0 15 "SharedLog$Client" "members" "I" ∈ wsX0_chainOf := List.mem_of_getElem? (i := 1) (by decide +kernel)
theorem mw_X0_end_1 : Cond.fieldLink RX0 18 "SharedLog$Client" "kind" "I" ∈ wsX0_end := List.mem_of_getElem? (i := 1) (by decide +kernel)
theorem mw_X0_end_2 : Cond.fieldLink RX0 21 "SharedLog$Client" "outcome" "I" ∈ wsX0_end := List.mem_of_getElem? (i := 2) (by decide +kernel)
theorem mw_X0_end_3 : Cond.fieldLink RX0 24 "SharedLog$Client" "number" "I" ∈ wsX0_end := List.mem_of_getElem? (i := 3) (by decide +kernel)
theorem mw_X0_goAlongChain_1 : Cond.fieldLink RX0 27 "SharedLog$Client" "route" "I" ∈ wsX0_goAlongChain := List.mem_of_getElem? (i := 1) (by decide +kernel)
theorem mw_X0_goAlongChain_2 : Cond.static yX2_withoutLowest ∈ wsX0_goAlongChain := List.mem_of_getElem? (i := 2) (by decide +kernel)
theorem mw_X0_goAlongChain_3 : Cond.initialized RX2 ∈ wsX0_goAlongChain := List.mem_of_getElem? (i := 3) (by decide +kernel)
theorem mw_X0_isAtHead_1 : Cond.fieldLink RX0 27 "SharedLog$Client" "route" "I" ∈ wsX0_isAtHead := List.mem_of_getElem? (i := 1) (by decide +kernel)
theorem mw_X0_isAtHead_2 : Cond.fieldLink RX0 30 "SharedLog$Client" "position" "I" ∈ wsX0_isAtHead := List.mem_of_getElem? (i := 2) (by decide +kernel)
theorem mw_X0_newestEpochItBears_1 : Cond.fieldLink RX0 18 "SharedLog$Client" "kind" "I" ∈ wsX0_newestEpochItBears := List.mem_of_getElem? (i := 1) (by decide +kernel)
theorem mw_X0_newestEpochItBears_2 : Cond.fieldLink RX0 9 "SharedLog$Client" "epoch" "I" ∈ wsX0_newestEpochItBears := List.mem_of_getElem? (i := 2) (by decide +kernel)
theorem mw_X0_replayRoute_1 : Cond.fieldLink RX0 30 "SharedLog$Client" "position" "I" ∈ wsX0_replayRoute := List.mem_of_getElem? (i := 1) (by decide +kernel)
theorem mw_X0_replayRoute_10 : Cond.initialized RX2 ∈ wsX0_replayRoute := List.mem_of_getElem? (i := 10) (by decide +kernel)
theorem mw_X0_replayRoute_2 : Cond.fieldLink RX0 36 "SharedLog$Client" "upto" "I" ∈ wsX0_replayRoute := List.mem_of_getElem? (i := 2) (by decide +kernel)
theorem mw_X0_replayRoute_9 : Cond.static yX2_highestOf ∈ wsX0_replayRoute := List.mem_of_getElem? (i := 9) (by decide +kernel)
theorem mw_X1_contentAt_1 : Cond.fieldLink RX1 19 "SharedLog$Unit" "cells" "[I" ∈ wsX1_contentAt := List.mem_of_getElem? (i := 1) (by decide +kernel)
theorem mw_X1_contentAt_2 : Cond.static yX2_isPosition ∈ wsX1_contentAt := List.mem_of_getElem? (i := 2) (by decide +kernel)
theorem mw_X1_contentAt_3 : Cond.initialized RX2 ∈ wsX1_contentAt := List.mem_of_getElem? (i := 3) (by decide +kernel)
theorem mw_X1_endOfWritten_1 : Cond.fieldLink RX1 19 "SharedLog$Unit" "cells" "[I" ∈ wsX1_endOfWritten := List.mem_of_getElem? (i := 1) (by decide +kernel)
theorem mw_X1_writeOnce_1 : Cond.fieldLink RX1 19 "SharedLog$Unit" "cells" "[I" ∈ wsX1_writeOnce := List.mem_of_getElem? (i := 1) (by decide +kernel)
theorem mw_X1_writeOnce_2 : Cond.static yX2_isPosition ∈ wsX1_writeOnce := List.mem_of_getElem? (i := 2) (by decide +kernel)
theorem mw_X1_writeOnce_3 : Cond.initialized RX2 ∈ wsX1_writeOnce := List.mem_of_getElem? (i := 3) (by decide +kernel)
theorem mw_X2_appendAt_1 : Cond.instanceMethod yX1_contentAt ∈ wsX2_appendAt := List.mem_of_getElem? (i := 1) (by decide +kernel)
theorem mw_X2_appendAt_10 : Cond.initialized RX0 ∈ wsX2_appendAt := List.mem_of_getElem? (i := 10) (by decide +kernel)
theorem mw_X2_appendAt_11 : Cond.selects RX0 yX0_isAtHead yX0_isAtHead ∈ wsX2_appendAt := List.mem_of_getElem? (i := 11) (by decide +kernel)
theorem mw_X2_appendAt_2 : Cond.initialized RX1 ∈ wsX2_appendAt := List.mem_of_getElem? (i := 2) (by decide +kernel)
theorem mw_X2_appendAt_20 : Cond.instanceMethod yX1_writeOnce ∈ wsX2_appendAt := List.mem_of_getElem? (i := 20) (by decide +kernel)
theorem mw_X2_appendAt_21 : Cond.selects RX1 yX1_writeOnce yX1_writeOnce ∈ wsX2_appendAt := List.mem_of_getElem? (i := 21) (by decide +kernel)
theorem mw_X2_appendAt_23 : Cond.instanceMethod yX0_goAlongChain ∈ wsX2_appendAt := List.mem_of_getElem? (i := 23) (by decide +kernel)
theorem mw_X2_appendAt_24 : Cond.selects RX0 yX0_goAlongChain yX0_goAlongChain ∈ wsX2_appendAt := List.mem_of_getElem? (i := 24) (by decide +kernel)
theorem mw_X2_appendAt_3 : Cond.selects RX1 yX1_contentAt yX1_contentAt ∈ wsX2_appendAt := List.mem_of_getElem? (i := 3) (by decide +kernel)
theorem mw_X2_appendAt_9 : Cond.instanceMethod yX0_isAtHead ∈ wsX2_appendAt := List.mem_of_getElem? (i := 9) (by decide +kernel)
theorem mw_X2_append_1 : Cond.constant RX2 43 (1073741823) ∈ wsX2_append := List.mem_of_getElem? (i := 1) (by decide +kernel)
theorem mw_X2_append_10 : Cond.selects RX0 yX0_begin yX0_begin ∈ wsX2_append := List.mem_of_getElem? (i := 10) (by decide +kernel)
theorem mw_X2_append_8 : Cond.instanceMethod yX0_begin ∈ wsX2_append := List.mem_of_getElem? (i := 8) (by decide +kernel)
theorem mw_X2_append_9 : Cond.initialized RX0 ∈ wsX2_append := List.mem_of_getElem? (i := 9) (by decide +kernel)
theorem mw_X2_askSequencer_1 : Cond.fieldLink RX2 28 "SharedLog" "sequencerEpoch" "I" ∈ wsX2_askSequencer := List.mem_of_getElem? (i := 1) (by decide +kernel)
theorem mw_X2_askSequencer_10 : Cond.instanceMethod yX0_chainOf ∈ wsX2_askSequencer := List.mem_of_getElem? (i := 10) (by decide +kernel)
theorem mw_X2_askSequencer_11 : Cond.selects RX0 yX0_chainOf yX0_chainOf ∈ wsX2_askSequencer := List.mem_of_getElem? (i := 11) (by decide +kernel)
theorem mw_X2_askSequencer_2 : Cond.fieldLink RX2 31 "SharedLog" "nextPosition" "I" ∈ wsX2_askSequencer := List.mem_of_getElem? (i := 2) (by decide +kernel)
theorem mw_X2_askSequencer_3 : Cond.instanceMethod yX0_end ∈ wsX2_askSequencer := List.mem_of_getElem? (i := 3) (by decide +kernel)
theorem mw_X2_askSequencer_4 : Cond.initialized RX0 ∈ wsX2_askSequencer := List.mem_of_getElem? (i := 4) (by decide +kernel)
theorem mw_X2_askSequencer_5 : Cond.selects RX0 yX0_end yX0_end ∈ wsX2_askSequencer := List.mem_of_getElem? (i := 5) (by decide +kernel)
theorem mw_X2_askStore_1 : Cond.fieldLink RX2 21 "SharedLog" "storeEpoch" "I" ∈ wsX2_askStore := List.mem_of_getElem? (i := 1) (by decide +kernel)
theorem mw_X2_askStore_2 : Cond.fieldLink RX2 25 "SharedLog" "storeMembers" "I" ∈ wsX2_askStore := List.mem_of_getElem? (i := 2) (by decide +kernel)
theorem mw_X2_askStore_3 : Cond.fieldLink RX2 28 "SharedLog" "sequencerEpoch" "I" ∈ wsX2_askStore := List.mem_of_getElem? (i := 3) (by decide +kernel)
theorem mw_X2_askStore_4 : Cond.fieldLink RX2 31 "SharedLog" "nextPosition" "I" ∈ wsX2_askStore := List.mem_of_getElem? (i := 4) (by decide +kernel)
theorem mw_X2_askStore_5 : Cond.instanceMethod yX0_end ∈ wsX2_askStore := List.mem_of_getElem? (i := 5) (by decide +kernel)
theorem mw_X2_askStore_6 : Cond.initialized RX0 ∈ wsX2_askStore := List.mem_of_getElem? (i := 6) (by decide +kernel)
theorem mw_X2_askStore_7 : Cond.selects RX0 yX0_end yX0_end ∈ wsX2_askStore := List.mem_of_getElem? (i := 7) (by decide +kernel)
theorem mw_X2_cell_7 : Cond.instanceMethod yX1_contentAt ∈ wsX2_cell := List.mem_of_getElem? (i := 7) (by decide +kernel)
theorem mw_X2_cell_8 : Cond.initialized RX1 ∈ wsX2_cell := List.mem_of_getElem? (i := 8) (by decide +kernel)
theorem mw_X2_cell_9 : Cond.selects RX1 yX1_contentAt yX1_contentAt ∈ wsX2_cell := List.mem_of_getElem? (i := 9) (by decide +kernel)
theorem mw_X2_clientAt_1 : Cond.fieldLink RX2 17 "SharedLog" "clients" "[LSharedLog$Client;" ∈ wsX2_clientAt := List.mem_of_getElem? (i := 1) (by decide +kernel)
theorem mw_X2_fillAt_1 : Cond.instanceMethod yX1_writeOnce ∈ wsX2_fillAt := List.mem_of_getElem? (i := 1) (by decide +kernel)
theorem mw_X2_fillAt_10 : Cond.initialized RX0 ∈ wsX2_fillAt := List.mem_of_getElem? (i := 10) (by decide +kernel)
theorem mw_X2_fillAt_11 : Cond.selects RX0 yX0_isAtHead yX0_isAtHead ∈ wsX2_fillAt := List.mem_of_getElem? (i := 11) (by decide +kernel)
theorem mw_X2_fillAt_2 : Cond.initialized RX1 ∈ wsX2_fillAt := List.mem_of_getElem? (i := 2) (by decide +kernel)
theorem mw_X2_fillAt_20 : Cond.instanceMethod yX1_contentAt ∈ wsX2_fillAt := List.mem_of_getElem? (i := 20) (by decide +kernel)
theorem mw_X2_fillAt_21 : Cond.selects RX1 yX1_contentAt yX1_contentAt ∈ wsX2_fillAt := List.mem_of_getElem? (i := 21) (by decide +kernel)
theorem mw_X2_fillAt_23 : Cond.instanceMethod yX0_goAlongChain ∈ wsX2_fillAt := List.mem_of_getElem? (i := 23) (by decide +kernel)
theorem mw_X2_fillAt_24 : Cond.selects RX0 yX0_goAlongChain yX0_goAlongChain ∈ wsX2_fillAt := List.mem_of_getElem? (i := 24) (by decide +kernel)
theorem mw_X2_fillAt_3 : Cond.selects RX1 yX1_writeOnce yX1_writeOnce ∈ wsX2_fillAt := List.mem_of_getElem? (i := 3) (by decide +kernel)
theorem mw_X2_fillAt_9 : Cond.instanceMethod yX0_isAtHead ∈ wsX2_fillAt := List.mem_of_getElem? (i := 9) (by decide +kernel)
theorem mw_X2_fill_10 : Cond.instanceMethod yX0_chainOf ∈ wsX2_fill := List.mem_of_getElem? (i := 10) (by decide +kernel)
theorem mw_X2_fill_11 : Cond.initialized RX0 ∈ wsX2_fill := List.mem_of_getElem? (i := 11) (by decide +kernel)
theorem mw_X2_fill_12 : Cond.selects RX0 yX0_chainOf yX0_chainOf ∈ wsX2_fill := List.mem_of_getElem? (i := 12) (by decide +kernel)
theorem mw_X2_fill_15 : Cond.instanceMethod yX0_begin ∈ wsX2_fill := List.mem_of_getElem? (i := 15) (by decide +kernel)
theorem mw_X2_fill_16 : Cond.selects RX0 yX0_begin yX0_begin ∈ wsX2_fill := List.mem_of_getElem? (i := 16) (by decide +kernel)
theorem mw_X2_loseSequencer_1 : Cond.fieldLink RX2 31 "SharedLog" "nextPosition" "I" ∈ wsX2_loseSequencer := List.mem_of_getElem? (i := 1) (by decide +kernel)
theorem mw_X2_readAt_1 : Cond.instanceMethod yX1_contentAt ∈ wsX2_readAt := List.mem_of_getElem? (i := 1) (by decide +kernel)
theorem mw_X2_readAt_10 : Cond.initialized RX0 ∈ wsX2_readAt := List.mem_of_getElem? (i := 10) (by decide +kernel)
theorem mw_X2_readAt_11 : Cond.selects RX0 yX0_end yX0_end ∈ wsX2_readAt := List.mem_of_getElem? (i := 11) (by decide +kernel)
theorem mw_X2_readAt_2 : Cond.initialized RX1 ∈ wsX2_readAt := List.mem_of_getElem? (i := 2) (by decide +kernel)
theorem mw_X2_readAt_3 : Cond.selects RX1 yX1_contentAt yX1_contentAt ∈ wsX2_readAt := List.mem_of_getElem? (i := 3) (by decide +kernel)
theorem mw_X2_readAt_9 : Cond.instanceMethod yX0_end ∈ wsX2_readAt := List.mem_of_getElem? (i := 9) (by decide +kernel)
theorem mw_X2_read_10 : Cond.instanceMethod yX0_chainOf ∈ wsX2_read := List.mem_of_getElem? (i := 10) (by decide +kernel)
theorem mw_X2_read_11 : Cond.initialized RX0 ∈ wsX2_read := List.mem_of_getElem? (i := 11) (by decide +kernel)
theorem mw_X2_read_12 : Cond.selects RX0 yX0_chainOf yX0_chainOf ∈ wsX2_read := List.mem_of_getElem? (i := 12) (by decide +kernel)
theorem mw_X2_read_18 : Cond.instanceMethod yX0_begin ∈ wsX2_read := List.mem_of_getElem? (i := 18) (by decide +kernel)
theorem mw_X2_read_19 : Cond.selects RX0 yX0_begin yX0_begin ∈ wsX2_read := List.mem_of_getElem? (i := 19) (by decide +kernel)
theorem mw_X2_reform_7 : Cond.instanceMethod yX0_begin ∈ wsX2_reform := List.mem_of_getElem? (i := 7) (by decide +kernel)
theorem mw_X2_reform_8 : Cond.initialized RX0 ∈ wsX2_reform := List.mem_of_getElem? (i := 8) (by decide +kernel)
theorem mw_X2_reform_9 : Cond.selects RX0 yX0_begin yX0_begin ∈ wsX2_reform := List.mem_of_getElem? (i := 9) (by decide +kernel)
theorem mw_X2_replayAt_1 : Cond.instanceMethod yX1_contentAt ∈ wsX2_replayAt := List.mem_of_getElem? (i := 1) (by decide +kernel)
theorem mw_X2_replayAt_10 : Cond.initialized RX0 ∈ wsX2_replayAt := List.mem_of_getElem? (i := 10) (by decide +kernel)
theorem mw_X2_replayAt_11 : Cond.selects RX0 yX0_end yX0_end ∈ wsX2_replayAt := List.mem_of_getElem? (i := 11) (by decide +kernel)
theorem mw_X2_replayAt_16 : Cond.instanceMethod yX0_replayRoute ∈ wsX2_replayAt := List.mem_of_getElem? (i := 16) (by decide +kernel)
theorem mw_X2_replayAt_17 : Cond.selects RX0 yX0_replayRoute yX0_replayRoute ∈ wsX2_replayAt := List.mem_of_getElem? (i := 17) (by decide +kernel)
theorem mw_X2_replayAt_2 : Cond.initialized RX1 ∈ wsX2_replayAt := List.mem_of_getElem? (i := 2) (by decide +kernel)
theorem mw_X2_replayAt_3 : Cond.selects RX1 yX1_contentAt yX1_contentAt ∈ wsX2_replayAt := List.mem_of_getElem? (i := 3) (by decide +kernel)
theorem mw_X2_replayAt_9 : Cond.instanceMethod yX0_end ∈ wsX2_replayAt := List.mem_of_getElem? (i := 9) (by decide +kernel)
theorem mw_X2_replay_20 : Cond.instanceMethod yX0_begin ∈ wsX2_replay := List.mem_of_getElem? (i := 20) (by decide +kernel)
theorem mw_X2_replay_21 : Cond.selects RX0 yX0_begin yX0_begin ∈ wsX2_replay := List.mem_of_getElem? (i := 21) (by decide +kernel)
theorem mw_X2_replay_7 : Cond.instanceMethod yX0_replayRoute ∈ wsX2_replay := List.mem_of_getElem? (i := 7) (by decide +kernel)
theorem mw_X2_replay_8 : Cond.initialized RX0 ∈ wsX2_replay := List.mem_of_getElem? (i := 8) (by decide +kernel)
theorem mw_X2_replay_9 : Cond.selects RX0 yX0_replayRoute yX0_replayRoute ∈ wsX2_replay := List.mem_of_getElem? (i := 9) (by decide +kernel)
theorem mw_X2_sealAt_1 : Cond.methodLink RX2 164 Lib.Math.max.name ∈ wsX2_sealAt := List.mem_of_getElem? (i := 1) (by decide +kernel)
theorem mw_X2_sealAt_2 : Cond.static Lib.Math.max.name ∈ wsX2_sealAt := List.mem_of_getElem? (i := 2) (by decide +kernel)
theorem mw_X2_sealAt_3 : Cond.initialized "java/lang/Math" ∈ wsX2_sealAt := List.mem_of_getElem? (i := 3) (by decide +kernel)
theorem mw_X2_sealAt_5 : Cond.instanceMethod yX1_endOfWritten ∈ wsX2_sealAt := List.mem_of_getElem? (i := 5) (by decide +kernel)
theorem mw_X2_sealAt_6 : Cond.initialized RX1 ∈ wsX2_sealAt := List.mem_of_getElem? (i := 6) (by decide +kernel)
theorem mw_X2_sealAt_7 : Cond.selects RX1 yX1_endOfWritten yX1_endOfWritten ∈ wsX2_sealAt := List.mem_of_getElem? (i := 7) (by decide +kernel)
theorem mw_X2_stepWithoutUnit_10 : Cond.selects RX0 yX0_end yX0_end ∈ wsX2_stepWithoutUnit := List.mem_of_getElem? (i := 10) (by decide +kernel)
theorem mw_X2_stepWithoutUnit_8 : Cond.instanceMethod yX0_end ∈ wsX2_stepWithoutUnit := List.mem_of_getElem? (i := 8) (by decide +kernel)
theorem mw_X2_stepWithoutUnit_9 : Cond.initialized RX0 ∈ wsX2_stepWithoutUnit := List.mem_of_getElem? (i := 9) (by decide +kernel)
theorem mw_X2_step_25 : Cond.instanceMethod yX0_end ∈ wsX2_step := List.mem_of_getElem? (i := 25) (by decide +kernel)
theorem mw_X2_step_26 : Cond.initialized RX0 ∈ wsX2_step := List.mem_of_getElem? (i := 26) (by decide +kernel)
theorem mw_X2_step_27 : Cond.selects RX0 yX0_end yX0_end ∈ wsX2_step := List.mem_of_getElem? (i := 27) (by decide +kernel)
theorem mw_X2_step_46 : Cond.instanceMethod yX0_newestEpochItBears ∈ wsX2_step := List.mem_of_getElem? (i := 46) (by decide +kernel)
theorem mw_X2_step_47 : Cond.selects RX0 yX0_newestEpochItBears yX0_newestEpochItBears ∈ wsX2_step := List.mem_of_getElem? (i := 47) (by decide +kernel)
theorem mw_X2_tail_1 : Cond.fieldLink RX2 31 "SharedLog" "nextPosition" "I" ∈ wsX2_tail := List.mem_of_getElem? (i := 1) (by decide +kernel)
theorem mw_X2_takeStoreProjection_1 : Cond.fieldLink RX2 21 "SharedLog" "storeEpoch" "I" ∈ wsX2_takeStoreProjection := List.mem_of_getElem? (i := 1) (by decide +kernel)
theorem mw_X2_takeStoreProjection_2 : Cond.fieldLink RX2 25 "SharedLog" "storeMembers" "I" ∈ wsX2_takeStoreProjection := List.mem_of_getElem? (i := 2) (by decide +kernel)
theorem mw_X2_unitAt_1 : Cond.fieldLink RX2 11 "SharedLog" "units" "[LSharedLog$Unit;" ∈ wsX2_unitAt := List.mem_of_getElem? (i := 1) (by decide +kernel)
end
section
def sp_X2_isPosition (x : Int32) : Int32 := 
  if x < 0 then (0 : Int32)
  else if (32 : Int32) ≤ x then (0 : Int32)
  else (1 : Int32)
set_option maxHeartbeats 4000000 in
set_option maxRecDepth 100000 in
theorem c_X2_isPosition (l : Launch) (G : va_G) (cy : Nat → ClassId) (ad : Nat → Nat) (σ τ : sl_M) (x : Int32) : sl_C l G cy ad yX2_isPosition wsX2_isPosition ({ frames := 0, cells := 0, slots := 0, locals := 0 }) [.int x] σ τ (some (.int (sp_X2_isPosition x))) σ τ := by
  refine sl_of (cc := cX2_isPosition) (maxL := 1) (ret := (some .boolean)) (by decide) rfl (Nat.le_of_ble_eq_true rfl) ?_
  intro p e s m below meth c hx hb hr hml hts hown hlocks hK hN hD hP hS ls hl
  have hown : s.vm.findClass RX2 = some m.cls := hown
  have hl : lv_has ls 1 [(0, .int x)] := hl
  refine lv_iload_n hx hb dX2_isPosition_0 rfl (lv_at hl 0 rfl) ?_
  refine lv_if_lt (tgt := 14) hx hb dX2_isPosition_1 (by decide) (fun c_1 => ?_) (fun c_1 => ?_)
  · refine lv_iconst (v := (0 : Int32)) hx hb dX2_isPosition_14 (by decide) ?_
    have e_q : (sp_X2_isPosition x) = (0 : Int32) := by rw [sp_X2_isPosition, if_pos c_1]
    exact sl_zret hx hb hr hlocks (by decide) hP hS (by rw [e_q]) rfl rfl dX2_isPosition_15
  · refine lv_iload_n hx hb dX2_isPosition_4 rfl (lv_at hl 0 rfl) ?_
    refine lv_bipush (v := (32 : Int32)) hx hb dX2_isPosition_5 (by decide) ?_
    refine lv_icmp_ge (tgt := 14) hx hb dX2_isPosition_7 (by decide) (fun c_2 => ?_) (fun c_2 => ?_)
    · refine lv_iconst (v := (0 : Int32)) hx hb dX2_isPosition_14 (by decide) ?_
      have e_q : (sp_X2_isPosition x) = (0 : Int32) := by rw [sp_X2_isPosition, if_neg c_1, if_pos c_2]
      exact sl_zret hx hb hr hlocks (by decide) hP hS (by rw [e_q]) rfl rfl dX2_isPosition_15
    · refine lv_iconst (v := (1 : Int32)) hx hb dX2_isPosition_10 (by decide) ?_
      refine lv_goto (tgt := 15) hx hb dX2_isPosition_11 (by decide) ?_
      have e_q : (sp_X2_isPosition x) = (1 : Int32) := by rw [sp_X2_isPosition, if_neg c_1, if_neg c_2]
      exact sl_zret hx hb hr hlocks (by decide) hP hS (by rw [e_q]) rfl rfl dX2_isPosition_15
def sp_X2_lowestUnit (x : Int32) : Int32 := 
  if (x &&& ((1 : Int32) <<< ((0 : Int32) &&& 31))) = 0 then 
    if (x &&& ((1 : Int32) <<< ((1 : Int32) &&& 31))) = 0 then 
      if (x &&& ((1 : Int32) <<< ((2 : Int32) &&& 31))) = 0 then 
        if (x &&& ((1 : Int32) <<< ((3 : Int32) &&& 31))) = 0 then 
          if (x &&& ((1 : Int32) <<< ((4 : Int32) &&& 31))) = 0 then 
            if (x &&& ((1 : Int32) <<< ((5 : Int32) &&& 31))) = 0 then (-1 : Int32)
            else (5 : Int32)
          else (4 : Int32)
        else (3 : Int32)
      else (2 : Int32)
    else (1 : Int32)
  else (0 : Int32)
set_option maxHeartbeats 4000000 in
set_option maxRecDepth 100000 in
theorem c_X2_lowestUnit (l : Launch) (G : va_G) (cy : Nat → ClassId) (ad : Nat → Nat) (σ τ : sl_M) (x : Int32) : sl_C l G cy ad yX2_lowestUnit wsX2_lowestUnit ({ frames := 0, cells := 0, slots := 0, locals := 0 }) [.int x] σ τ (some (.int (sp_X2_lowestUnit x))) σ τ := by
  refine sl_of (cc := cX2_lowestUnit) (maxL := 2) (ret := (some .int)) (by decide) rfl (Nat.le_of_ble_eq_true rfl) ?_
  intro p e s m below meth c hx hb hr hml hts hown hlocks hK hN hD hP hS ls hl
  have hown : s.vm.findClass RX2 = some m.cls := hown
  have hl : lv_has ls 2 [(0, .int x)] := hl
  refine lv_iconst (v := (0 : Int32)) hx hb dX2_lowestUnit_0 (by decide) ?_
  refine lv_istore_n (lv' := [(1, .int (0 : Int32)), (0, .int x)]) hx hb dX2_lowestUnit_1 rfl hl (by decide) rfl (fun ls hl => ?_)
  refine lv_iload_n hx hb dX2_lowestUnit_2 rfl (lv_at hl 0 rfl) ?_
  refine lv_bipush (v := (6 : Int32)) hx hb dX2_lowestUnit_3 (by decide) ?_
  refine lv_icmp_ge (tgt := 24) hx hb dX2_lowestUnit_5 (by decide) (fun h9 => absurd h9 (by decide)) (fun _ => ?_)
  refine lv_iload_n hx hb dX2_lowestUnit_8 rfl (lv_at hl 1 rfl) ?_
  refine lv_iconst (v := (1 : Int32)) hx hb dX2_lowestUnit_9 (by decide) ?_
  refine lv_iload_n hx hb dX2_lowestUnit_10 rfl (lv_at hl 0 rfl) ?_
  refine lv_ishl hx hb dX2_lowestUnit_11 ?_
  refine lv_iand hx hb dX2_lowestUnit_12 ?_
  refine lv_if_eq (tgt := 18) hx hb dX2_lowestUnit_13 (by decide) (fun c_1 => ?_) (fun c_1 => ?_)
  · refine lv_iinc (v := (1 : Int32)) (lv' := [(1, .int (1 : Int32)), (0, .int x)]) hx hb dX2_lowestUnit_18 hl (k := 0) rfl (by decide) (by decide) rfl (fun ls hl => ?_)
    refine lv_goto (tgt := 2) hx hb dX2_lowestUnit_21 (by decide) ?_
    refine lv_iload_n hx hb dX2_lowestUnit_2 rfl (lv_at hl 0 rfl) ?_
    refine lv_bipush (v := (6 : Int32)) hx hb dX2_lowestUnit_3 (by decide) ?_
    refine lv_icmp_ge (tgt := 24) hx hb dX2_lowestUnit_5 (by decide) (fun h9 => absurd h9 (by decide)) (fun _ => ?_)
    refine lv_iload_n hx hb dX2_lowestUnit_8 rfl (lv_at hl 1 rfl) ?_
    refine lv_iconst (v := (1 : Int32)) hx hb dX2_lowestUnit_9 (by decide) ?_
    refine lv_iload_n hx hb dX2_lowestUnit_10 rfl (lv_at hl 0 rfl) ?_
    refine lv_ishl hx hb dX2_lowestUnit_11 ?_
    refine lv_iand hx hb dX2_lowestUnit_12 ?_
    refine lv_if_eq (tgt := 18) hx hb dX2_lowestUnit_13 (by decide) (fun c_2 => ?_) (fun c_2 => ?_)
    · refine lv_iinc (v := (2 : Int32)) (lv' := [(1, .int (2 : Int32)), (0, .int x)]) hx hb dX2_lowestUnit_18 hl (k := 0) rfl (by decide) (by decide) rfl (fun ls hl => ?_)
      refine lv_goto (tgt := 2) hx hb dX2_lowestUnit_21 (by decide) ?_
      refine lv_iload_n hx hb dX2_lowestUnit_2 rfl (lv_at hl 0 rfl) ?_
      refine lv_bipush (v := (6 : Int32)) hx hb dX2_lowestUnit_3 (by decide) ?_
      refine lv_icmp_ge (tgt := 24) hx hb dX2_lowestUnit_5 (by decide) (fun h9 => absurd h9 (by decide)) (fun _ => ?_)
      refine lv_iload_n hx hb dX2_lowestUnit_8 rfl (lv_at hl 1 rfl) ?_
      refine lv_iconst (v := (1 : Int32)) hx hb dX2_lowestUnit_9 (by decide) ?_
      refine lv_iload_n hx hb dX2_lowestUnit_10 rfl (lv_at hl 0 rfl) ?_
      refine lv_ishl hx hb dX2_lowestUnit_11 ?_
      refine lv_iand hx hb dX2_lowestUnit_12 ?_
      refine lv_if_eq (tgt := 18) hx hb dX2_lowestUnit_13 (by decide) (fun c_3 => ?_) (fun c_3 => ?_)
      · refine lv_iinc (v := (3 : Int32)) (lv' := [(1, .int (3 : Int32)), (0, .int x)]) hx hb dX2_lowestUnit_18 hl (k := 0) rfl (by decide) (by decide) rfl (fun ls hl => ?_)
        refine lv_goto (tgt := 2) hx hb dX2_lowestUnit_21 (by decide) ?_
        refine lv_iload_n hx hb dX2_lowestUnit_2 rfl (lv_at hl 0 rfl) ?_
        refine lv_bipush (v := (6 : Int32)) hx hb dX2_lowestUnit_3 (by decide) ?_
        refine lv_icmp_ge (tgt := 24) hx hb dX2_lowestUnit_5 (by decide) (fun h9 => absurd h9 (by decide)) (fun _ => ?_)
        refine lv_iload_n hx hb dX2_lowestUnit_8 rfl (lv_at hl 1 rfl) ?_
        refine lv_iconst (v := (1 : Int32)) hx hb dX2_lowestUnit_9 (by decide) ?_
        refine lv_iload_n hx hb dX2_lowestUnit_10 rfl (lv_at hl 0 rfl) ?_
        refine lv_ishl hx hb dX2_lowestUnit_11 ?_
        refine lv_iand hx hb dX2_lowestUnit_12 ?_
        refine lv_if_eq (tgt := 18) hx hb dX2_lowestUnit_13 (by decide) (fun c_4 => ?_) (fun c_4 => ?_)
        · refine lv_iinc (v := (4 : Int32)) (lv' := [(1, .int (4 : Int32)), (0, .int x)]) hx hb dX2_lowestUnit_18 hl (k := 0) rfl (by decide) (by decide) rfl (fun ls hl => ?_)
          refine lv_goto (tgt := 2) hx hb dX2_lowestUnit_21 (by decide) ?_
          refine lv_iload_n hx hb dX2_lowestUnit_2 rfl (lv_at hl 0 rfl) ?_
          refine lv_bipush (v := (6 : Int32)) hx hb dX2_lowestUnit_3 (by decide) ?_
          refine lv_icmp_ge (tgt := 24) hx hb dX2_lowestUnit_5 (by decide) (fun h9 => absurd h9 (by decide)) (fun _ => ?_)
          refine lv_iload_n hx hb dX2_lowestUnit_8 rfl (lv_at hl 1 rfl) ?_
          refine lv_iconst (v := (1 : Int32)) hx hb dX2_lowestUnit_9 (by decide) ?_
          refine lv_iload_n hx hb dX2_lowestUnit_10 rfl (lv_at hl 0 rfl) ?_
          refine lv_ishl hx hb dX2_lowestUnit_11 ?_
          refine lv_iand hx hb dX2_lowestUnit_12 ?_
          refine lv_if_eq (tgt := 18) hx hb dX2_lowestUnit_13 (by decide) (fun c_5 => ?_) (fun c_5 => ?_)
          · refine lv_iinc (v := (5 : Int32)) (lv' := [(1, .int (5 : Int32)), (0, .int x)]) hx hb dX2_lowestUnit_18 hl (k := 0) rfl (by decide) (by decide) rfl (fun ls hl => ?_)
            refine lv_goto (tgt := 2) hx hb dX2_lowestUnit_21 (by decide) ?_
            refine lv_iload_n hx hb dX2_lowestUnit_2 rfl (lv_at hl 0 rfl) ?_
            refine lv_bipush (v := (6 : Int32)) hx hb dX2_lowestUnit_3 (by decide) ?_
            refine lv_icmp_ge (tgt := 24) hx hb dX2_lowestUnit_5 (by decide) (fun h9 => absurd h9 (by decide)) (fun _ => ?_)
            refine lv_iload_n hx hb dX2_lowestUnit_8 rfl (lv_at hl 1 rfl) ?_
            refine lv_iconst (v := (1 : Int32)) hx hb dX2_lowestUnit_9 (by decide) ?_
            refine lv_iload_n hx hb dX2_lowestUnit_10 rfl (lv_at hl 0 rfl) ?_
            refine lv_ishl hx hb dX2_lowestUnit_11 ?_
            refine lv_iand hx hb dX2_lowestUnit_12 ?_
            refine lv_if_eq (tgt := 18) hx hb dX2_lowestUnit_13 (by decide) (fun c_6 => ?_) (fun c_6 => ?_)
            · refine lv_iinc (v := (6 : Int32)) (lv' := [(1, .int (6 : Int32)), (0, .int x)]) hx hb dX2_lowestUnit_18 hl (k := 0) rfl (by decide) (by decide) rfl (fun ls hl => ?_)
              refine lv_goto (tgt := 2) hx hb dX2_lowestUnit_21 (by decide) ?_
              refine lv_iload_n hx hb dX2_lowestUnit_2 rfl (lv_at hl 0 rfl) ?_
              refine lv_bipush (v := (6 : Int32)) hx hb dX2_lowestUnit_3 (by decide) ?_
              refine lv_icmp_ge (tgt := 24) hx hb dX2_lowestUnit_5 (by decide) (fun _ => ?_) (fun h9 => absurd (by decide) h9)
              refine lv_iconst (v := (-1 : Int32)) hx hb dX2_lowestUnit_24 (by decide) ?_
              have e_q : (sp_X2_lowestUnit x) = (-1 : Int32) := by rw [sp_X2_lowestUnit, if_pos c_1, if_pos c_2, if_pos c_3, if_pos c_4, if_pos c_5, if_pos c_6]
              exact sl_iret hx hb hr hlocks hP hS (by rw [e_q]) rfl rfl dX2_lowestUnit_25
            · refine lv_iload_n hx hb dX2_lowestUnit_16 rfl (lv_at hl 0 rfl) ?_
              have e_q : (sp_X2_lowestUnit x) = (5 : Int32) := by rw [sp_X2_lowestUnit, if_pos c_1, if_pos c_2, if_pos c_3, if_pos c_4, if_pos c_5, if_neg c_6]
              exact sl_iret hx hb hr hlocks hP hS (by rw [e_q]) rfl rfl dX2_lowestUnit_17
          · refine lv_iload_n hx hb dX2_lowestUnit_16 rfl (lv_at hl 0 rfl) ?_
            have e_q : (sp_X2_lowestUnit x) = (4 : Int32) := by rw [sp_X2_lowestUnit, if_pos c_1, if_pos c_2, if_pos c_3, if_pos c_4, if_neg c_5]
            exact sl_iret hx hb hr hlocks hP hS (by rw [e_q]) rfl rfl dX2_lowestUnit_17
        · refine lv_iload_n hx hb dX2_lowestUnit_16 rfl (lv_at hl 0 rfl) ?_
          have e_q : (sp_X2_lowestUnit x) = (3 : Int32) := by rw [sp_X2_lowestUnit, if_pos c_1, if_pos c_2, if_pos c_3, if_neg c_4]
          exact sl_iret hx hb hr hlocks hP hS (by rw [e_q]) rfl rfl dX2_lowestUnit_17
      · refine lv_iload_n hx hb dX2_lowestUnit_16 rfl (lv_at hl 0 rfl) ?_
        have e_q : (sp_X2_lowestUnit x) = (2 : Int32) := by rw [sp_X2_lowestUnit, if_pos c_1, if_pos c_2, if_neg c_3]
        exact sl_iret hx hb hr hlocks hP hS (by rw [e_q]) rfl rfl dX2_lowestUnit_17
    · refine lv_iload_n hx hb dX2_lowestUnit_16 rfl (lv_at hl 0 rfl) ?_
      have e_q : (sp_X2_lowestUnit x) = (1 : Int32) := by rw [sp_X2_lowestUnit, if_pos c_1, if_neg c_2]
      exact sl_iret hx hb hr hlocks hP hS (by rw [e_q]) rfl rfl dX2_lowestUnit_17
  · refine lv_iload_n hx hb dX2_lowestUnit_16 rfl (lv_at hl 0 rfl) ?_
    have e_q : (sp_X2_lowestUnit x) = (0 : Int32) := by rw [sp_X2_lowestUnit, if_neg c_1]
    exact sl_iret hx hb hr hlocks hP hS (by rw [e_q]) rfl rfl dX2_lowestUnit_17
def sp_X2_withoutLowest (x : Int32) : Int32 := (x &&& (x - (1 : Int32)))
set_option maxHeartbeats 4000000 in
set_option maxRecDepth 100000 in
theorem c_X2_withoutLowest (l : Launch) (G : va_G) (cy : Nat → ClassId) (ad : Nat → Nat) (σ τ : sl_M) (x : Int32) : sl_C l G cy ad yX2_withoutLowest wsX2_withoutLowest ({ frames := 0, cells := 0, slots := 0, locals := 0 }) [.int x] σ τ (some (.int (sp_X2_withoutLowest x))) σ τ := by
  refine sl_of (cc := cX2_withoutLowest) (maxL := 1) (ret := (some .int)) (by decide) rfl (Nat.le_of_ble_eq_true rfl) ?_
  intro p e s m below meth c hx hb hr hml hts hown hlocks hK hN hD hP hS ls hl
  have hown : s.vm.findClass RX2 = some m.cls := hown
  have hl : lv_has ls 1 [(0, .int x)] := hl
  refine lv_iload_n hx hb dX2_withoutLowest_0 rfl (lv_at hl 0 rfl) ?_
  refine lv_iload_n hx hb dX2_withoutLowest_1 rfl (lv_at hl 0 rfl) ?_
  refine lv_iconst (v := (1 : Int32)) hx hb dX2_withoutLowest_2 (by decide) ?_
  refine lv_isub hx hb dX2_withoutLowest_3 ?_
  refine lv_iand hx hb dX2_withoutLowest_4 ?_
  have e_q : (sp_X2_withoutLowest x) = (x &&& (x - (1 : Int32))) := by rw [sp_X2_withoutLowest]
  exact sl_iret hx hb hr hlocks hP hS (by rw [e_q]) rfl rfl dX2_withoutLowest_5
def sp_X2_highestOf (x : Int32) : Int32 := 
  if (x &&& ((1 : Int32) <<< ((5 : Int32) &&& 31))) = 0 then 
    if (x &&& ((1 : Int32) <<< ((4 : Int32) &&& 31))) = 0 then 
      if (x &&& ((1 : Int32) <<< ((3 : Int32) &&& 31))) = 0 then 
        if (x &&& ((1 : Int32) <<< ((2 : Int32) &&& 31))) = 0 then 
          if (x &&& ((1 : Int32) <<< ((1 : Int32) &&& 31))) = 0 then 
            if (x &&& ((1 : Int32) <<< ((0 : Int32) &&& 31))) = 0 then (0 : Int32)
            else ((1 : Int32) <<< ((0 : Int32) &&& 31))
          else ((1 : Int32) <<< ((1 : Int32) &&& 31))
        else ((1 : Int32) <<< ((2 : Int32) &&& 31))
      else ((1 : Int32) <<< ((3 : Int32) &&& 31))
    else ((1 : Int32) <<< ((4 : Int32) &&& 31))
  else ((1 : Int32) <<< ((5 : Int32) &&& 31))
set_option maxHeartbeats 4000000 in
set_option maxRecDepth 100000 in
theorem c_X2_highestOf (l : Launch) (G : va_G) (cy : Nat → ClassId) (ad : Nat → Nat) (σ τ : sl_M) (x : Int32) : sl_C l G cy ad yX2_highestOf wsX2_highestOf ({ frames := 0, cells := 0, slots := 0, locals := 0 }) [.int x] σ τ (some (.int (sp_X2_highestOf x))) σ τ := by
  refine sl_of (cc := cX2_highestOf) (maxL := 2) (ret := (some .int)) (by decide) rfl (Nat.le_of_ble_eq_true rfl) ?_
  intro p e s m below meth c hx hb hr hml hts hown hlocks hK hN hD hP hS ls hl
  have hown : s.vm.findClass RX2 = some m.cls := hown
  have hl : lv_has ls 2 [(0, .int x)] := hl
  refine lv_iconst (v := (5 : Int32)) hx hb dX2_highestOf_0 (by decide) ?_
  refine lv_istore_n (lv' := [(1, .int (5 : Int32)), (0, .int x)]) hx hb dX2_highestOf_1 rfl hl (by decide) rfl (fun ls hl => ?_)
  refine lv_iload_n hx hb dX2_highestOf_2 rfl (lv_at hl 0 rfl) ?_
  refine lv_if_lt (tgt := 24) hx hb dX2_highestOf_3 (by decide) (fun h9 => absurd h9 (by decide)) (fun _ => ?_)
  refine lv_iload_n hx hb dX2_highestOf_6 rfl (lv_at hl 1 rfl) ?_
  refine lv_iconst (v := (1 : Int32)) hx hb dX2_highestOf_7 (by decide) ?_
  refine lv_iload_n hx hb dX2_highestOf_8 rfl (lv_at hl 0 rfl) ?_
  refine lv_ishl hx hb dX2_highestOf_9 ?_
  refine lv_iand hx hb dX2_highestOf_10 ?_
  refine lv_if_eq (tgt := 18) hx hb dX2_highestOf_11 (by decide) (fun c_1 => ?_) (fun c_1 => ?_)
  · refine lv_iinc (v := (4 : Int32)) (lv' := [(1, .int (4 : Int32)), (0, .int x)]) hx hb dX2_highestOf_18 hl (k := 0) rfl (by decide) (by decide) rfl (fun ls hl => ?_)
    refine lv_goto (tgt := 2) hx hb dX2_highestOf_21 (by decide) ?_
    refine lv_iload_n hx hb dX2_highestOf_2 rfl (lv_at hl 0 rfl) ?_
    refine lv_if_lt (tgt := 24) hx hb dX2_highestOf_3 (by decide) (fun h9 => absurd h9 (by decide)) (fun _ => ?_)
    refine lv_iload_n hx hb dX2_highestOf_6 rfl (lv_at hl 1 rfl) ?_
    refine lv_iconst (v := (1 : Int32)) hx hb dX2_highestOf_7 (by decide) ?_
    refine lv_iload_n hx hb dX2_highestOf_8 rfl (lv_at hl 0 rfl) ?_
    refine lv_ishl hx hb dX2_highestOf_9 ?_
    refine lv_iand hx hb dX2_highestOf_10 ?_
    refine lv_if_eq (tgt := 18) hx hb dX2_highestOf_11 (by decide) (fun c_2 => ?_) (fun c_2 => ?_)
    · refine lv_iinc (v := (3 : Int32)) (lv' := [(1, .int (3 : Int32)), (0, .int x)]) hx hb dX2_highestOf_18 hl (k := 0) rfl (by decide) (by decide) rfl (fun ls hl => ?_)
      refine lv_goto (tgt := 2) hx hb dX2_highestOf_21 (by decide) ?_
      refine lv_iload_n hx hb dX2_highestOf_2 rfl (lv_at hl 0 rfl) ?_
      refine lv_if_lt (tgt := 24) hx hb dX2_highestOf_3 (by decide) (fun h9 => absurd h9 (by decide)) (fun _ => ?_)
      refine lv_iload_n hx hb dX2_highestOf_6 rfl (lv_at hl 1 rfl) ?_
      refine lv_iconst (v := (1 : Int32)) hx hb dX2_highestOf_7 (by decide) ?_
      refine lv_iload_n hx hb dX2_highestOf_8 rfl (lv_at hl 0 rfl) ?_
      refine lv_ishl hx hb dX2_highestOf_9 ?_
      refine lv_iand hx hb dX2_highestOf_10 ?_
      refine lv_if_eq (tgt := 18) hx hb dX2_highestOf_11 (by decide) (fun c_3 => ?_) (fun c_3 => ?_)
      · refine lv_iinc (v := (2 : Int32)) (lv' := [(1, .int (2 : Int32)), (0, .int x)]) hx hb dX2_highestOf_18 hl (k := 0) rfl (by decide) (by decide) rfl (fun ls hl => ?_)
        refine lv_goto (tgt := 2) hx hb dX2_highestOf_21 (by decide) ?_
        refine lv_iload_n hx hb dX2_highestOf_2 rfl (lv_at hl 0 rfl) ?_
        refine lv_if_lt (tgt := 24) hx hb dX2_highestOf_3 (by decide) (fun h9 => absurd h9 (by decide)) (fun _ => ?_)
        refine lv_iload_n hx hb dX2_highestOf_6 rfl (lv_at hl 1 rfl) ?_
        refine lv_iconst (v := (1 : Int32)) hx hb dX2_highestOf_7 (by decide) ?_
        refine lv_iload_n hx hb dX2_highestOf_8 rfl (lv_at hl 0 rfl) ?_
        refine lv_ishl hx hb dX2_highestOf_9 ?_
        refine lv_iand hx hb dX2_highestOf_10 ?_
        refine lv_if_eq (tgt := 18) hx hb dX2_highestOf_11 (by decide) (fun c_4 => ?_) (fun c_4 => ?_)
        · refine lv_iinc (v := (1 : Int32)) (lv' := [(1, .int (1 : Int32)), (0, .int x)]) hx hb dX2_highestOf_18 hl (k := 0) rfl (by decide) (by decide) rfl (fun ls hl => ?_)
          refine lv_goto (tgt := 2) hx hb dX2_highestOf_21 (by decide) ?_
          refine lv_iload_n hx hb dX2_highestOf_2 rfl (lv_at hl 0 rfl) ?_
          refine lv_if_lt (tgt := 24) hx hb dX2_highestOf_3 (by decide) (fun h9 => absurd h9 (by decide)) (fun _ => ?_)
          refine lv_iload_n hx hb dX2_highestOf_6 rfl (lv_at hl 1 rfl) ?_
          refine lv_iconst (v := (1 : Int32)) hx hb dX2_highestOf_7 (by decide) ?_
          refine lv_iload_n hx hb dX2_highestOf_8 rfl (lv_at hl 0 rfl) ?_
          refine lv_ishl hx hb dX2_highestOf_9 ?_
          refine lv_iand hx hb dX2_highestOf_10 ?_
          refine lv_if_eq (tgt := 18) hx hb dX2_highestOf_11 (by decide) (fun c_5 => ?_) (fun c_5 => ?_)
          · refine lv_iinc (v := (0 : Int32)) (lv' := [(1, .int (0 : Int32)), (0, .int x)]) hx hb dX2_highestOf_18 hl (k := 0) rfl (by decide) (by decide) rfl (fun ls hl => ?_)
            refine lv_goto (tgt := 2) hx hb dX2_highestOf_21 (by decide) ?_
            refine lv_iload_n hx hb dX2_highestOf_2 rfl (lv_at hl 0 rfl) ?_
            refine lv_if_lt (tgt := 24) hx hb dX2_highestOf_3 (by decide) (fun h9 => absurd h9 (by decide)) (fun _ => ?_)
            refine lv_iload_n hx hb dX2_highestOf_6 rfl (lv_at hl 1 rfl) ?_
            refine lv_iconst (v := (1 : Int32)) hx hb dX2_highestOf_7 (by decide) ?_
            refine lv_iload_n hx hb dX2_highestOf_8 rfl (lv_at hl 0 rfl) ?_
            refine lv_ishl hx hb dX2_highestOf_9 ?_
            refine lv_iand hx hb dX2_highestOf_10 ?_
            refine lv_if_eq (tgt := 18) hx hb dX2_highestOf_11 (by decide) (fun c_6 => ?_) (fun c_6 => ?_)
            · refine lv_iinc (v := (-1 : Int32)) (lv' := [(1, .int (-1 : Int32)), (0, .int x)]) hx hb dX2_highestOf_18 hl (k := 0) rfl (by decide) (by decide) rfl (fun ls hl => ?_)
              refine lv_goto (tgt := 2) hx hb dX2_highestOf_21 (by decide) ?_
              refine lv_iload_n hx hb dX2_highestOf_2 rfl (lv_at hl 0 rfl) ?_
              refine lv_if_lt (tgt := 24) hx hb dX2_highestOf_3 (by decide) (fun _ => ?_) (fun h9 => absurd (by decide) h9)
              refine lv_iconst (v := (0 : Int32)) hx hb dX2_highestOf_24 (by decide) ?_
              have e_q : (sp_X2_highestOf x) = (0 : Int32) := by rw [sp_X2_highestOf, if_pos c_1, if_pos c_2, if_pos c_3, if_pos c_4, if_pos c_5, if_pos c_6]
              exact sl_iret hx hb hr hlocks hP hS (by rw [e_q]) rfl rfl dX2_highestOf_25
            · refine lv_iconst (v := (1 : Int32)) hx hb dX2_highestOf_14 (by decide) ?_
              refine lv_iload_n hx hb dX2_highestOf_15 rfl (lv_at hl 0 rfl) ?_
              refine lv_ishl hx hb dX2_highestOf_16 ?_
              have e_q : (sp_X2_highestOf x) = ((1 : Int32) <<< ((0 : Int32) &&& 31)) := by rw [sp_X2_highestOf, if_pos c_1, if_pos c_2, if_pos c_3, if_pos c_4, if_pos c_5, if_neg c_6]
              exact sl_iret hx hb hr hlocks hP hS (by rw [e_q]) rfl rfl dX2_highestOf_17
          · refine lv_iconst (v := (1 : Int32)) hx hb dX2_highestOf_14 (by decide) ?_
            refine lv_iload_n hx hb dX2_highestOf_15 rfl (lv_at hl 0 rfl) ?_
            refine lv_ishl hx hb dX2_highestOf_16 ?_
            have e_q : (sp_X2_highestOf x) = ((1 : Int32) <<< ((1 : Int32) &&& 31)) := by rw [sp_X2_highestOf, if_pos c_1, if_pos c_2, if_pos c_3, if_pos c_4, if_neg c_5]
            exact sl_iret hx hb hr hlocks hP hS (by rw [e_q]) rfl rfl dX2_highestOf_17
        · refine lv_iconst (v := (1 : Int32)) hx hb dX2_highestOf_14 (by decide) ?_
          refine lv_iload_n hx hb dX2_highestOf_15 rfl (lv_at hl 0 rfl) ?_
          refine lv_ishl hx hb dX2_highestOf_16 ?_
          have e_q : (sp_X2_highestOf x) = ((1 : Int32) <<< ((2 : Int32) &&& 31)) := by rw [sp_X2_highestOf, if_pos c_1, if_pos c_2, if_pos c_3, if_neg c_4]
          exact sl_iret hx hb hr hlocks hP hS (by rw [e_q]) rfl rfl dX2_highestOf_17
      · refine lv_iconst (v := (1 : Int32)) hx hb dX2_highestOf_14 (by decide) ?_
        refine lv_iload_n hx hb dX2_highestOf_15 rfl (lv_at hl 0 rfl) ?_
        refine lv_ishl hx hb dX2_highestOf_16 ?_
        have e_q : (sp_X2_highestOf x) = ((1 : Int32) <<< ((3 : Int32) &&& 31)) := by rw [sp_X2_highestOf, if_pos c_1, if_pos c_2, if_neg c_3]
        exact sl_iret hx hb hr hlocks hP hS (by rw [e_q]) rfl rfl dX2_highestOf_17
    · refine lv_iconst (v := (1 : Int32)) hx hb dX2_highestOf_14 (by decide) ?_
      refine lv_iload_n hx hb dX2_highestOf_15 rfl (lv_at hl 0 rfl) ?_
      refine lv_ishl hx hb dX2_highestOf_16 ?_
      have e_q : (sp_X2_highestOf x) = ((1 : Int32) <<< ((4 : Int32) &&& 31)) := by rw [sp_X2_highestOf, if_pos c_1, if_neg c_2]
      exact sl_iret hx hb hr hlocks hP hS (by rw [e_q]) rfl rfl dX2_highestOf_17
  · refine lv_iconst (v := (1 : Int32)) hx hb dX2_highestOf_14 (by decide) ?_
    refine lv_iload_n hx hb dX2_highestOf_15 rfl (lv_at hl 0 rfl) ?_
    refine lv_ishl hx hb dX2_highestOf_16 ?_
    have e_q : (sp_X2_highestOf x) = ((1 : Int32) <<< ((5 : Int32) &&& 31)) := by rw [sp_X2_highestOf, if_neg c_1]
    exact sl_iret hx hb hr hlocks hP hS (by rw [e_q]) rfl rfl dX2_highestOf_17
def sp_X0_begin (σ : sl_M) (i : Nat) (a : Int32) (b : Int32) : Int32 × sl_M := ((0 : Int32), (sl_up (sl_up (sl_up (sl_up σ (3 + i) 2 a) (3 + i) 5 b) (3 + i) 3 (0 : Int32)) (3 + i) 4 (0 : Int32)))
set_option maxHeartbeats 4000000 in
set_option maxRecDepth 100000 in
theorem c_X0_begin (l : Launch) (G : va_G) (cy : Nat → ClassId) (ad : Nat → Nat) (σ τ : sl_M) (i : Nat) (hi : i < 3) (a : Int32) (b : Int32) : sl_C l G cy ad yX0_begin wsX0_begin ({ frames := 0, cells := 0, slots := 0, locals := 0 }) [.ref (ad (3 + i)), .int a, .int b] σ τ (some (.int (sp_X0_begin σ i a b).1)) (sp_X0_begin σ i a b).2 τ := by
  refine sl_of (cc := cX0_begin) (maxL := 3) (ret := (some .int)) (by decide) rfl (Nat.le_of_ble_eq_true rfl) ?_
  intro p e s m below meth c hx hb hr hml hts hown hlocks hK hN hD hP hS ls hl
  have hown : s.vm.findClass RX0 = some m.cls := hown
  have hl : lv_has ls 3 [(0, .ref (ad (3 + i))), (1, .int a), (2, .int b)] := hl
  have hi0 : ∀ w ∈ wsX00, w ∈ wsX0_begin := fun _ h => (List.mem_cons_of_mem _ (List.mem_append_right _ h))
  refine lv_aload_n hx hb dX0_begin_0 rfl (lv_at hl 0 rfl) ?_
  refine lv_iload_n hx hb dX0_begin_1 rfl (lv_at hl 1 rfl) ?_
  refine sl_putC hx hb hts hi0 hown hK hD hP hS hi 2 (by decide) rfl (tyX0_ok 2 (by decide)) (hts _ mw_X0_begin_1) dX0_begin_2 (fun H locs hP hS => ?_)
  refine lv_aload_n hx hb dX0_begin_5 rfl (lv_at hl 0 rfl) ?_
  refine lv_iload_n hx hb dX0_begin_6 rfl (lv_at hl 2 rfl) ?_
  refine sl_putC hx hb hts hi0 hown hK hD hP hS hi 5 (by decide) rfl (tyX0_ok 5 (by decide)) (hts _ mw_X0_begin_2) dX0_begin_7 (fun H locs hP hS => ?_)
  refine lv_aload_n hx hb dX0_begin_10 rfl (lv_at hl 0 rfl) ?_
  refine lv_iconst (v := (0 : Int32)) hx hb dX0_begin_11 (by decide) ?_
  refine sl_putC hx hb hts hi0 hown hK hD hP hS hi 3 (by decide) rfl (tyX0_ok 3 (by decide)) (hts _ mw_X0_begin_3) dX0_begin_12 (fun H locs hP hS => ?_)
  refine lv_aload_n hx hb dX0_begin_15 rfl (lv_at hl 0 rfl) ?_
  refine lv_iconst (v := (0 : Int32)) hx hb dX0_begin_16 (by decide) ?_
  refine sl_putC hx hb hts hi0 hown hK hD hP hS hi 4 (by decide) rfl (tyX0_ok 4 (by decide)) (hts _ mw_X0_begin_4) dX0_begin_17 (fun H locs hP hS => ?_)
  refine lv_iconst (v := (0 : Int32)) hx hb dX0_begin_20 (by decide) ?_
  have e_q : (sp_X0_begin σ i a b) = ((0 : Int32), (sl_up (sl_up (sl_up (sl_up σ (3 + i) 2 a) (3 + i) 5 b) (3 + i) 3 (0 : Int32)) (3 + i) 4 (0 : Int32))) := by rw [sp_X0_begin]
  exact sl_iret hx hb hr hlocks hP hS (by rw [e_q]) (by rw [e_q]) rfl dX0_begin_21
def sp_X0_end (σ : sl_M) (i : Nat) (a : Int32) (b : Int32) : Int32 × sl_M := ((1 : Int32), (sl_up (sl_up (sl_up σ (3 + i) 2 (0 : Int32)) (3 + i) 3 a) (3 + i) 4 b))
set_option maxHeartbeats 4000000 in
set_option maxRecDepth 100000 in
theorem c_X0_end (l : Launch) (G : va_G) (cy : Nat → ClassId) (ad : Nat → Nat) (σ τ : sl_M) (i : Nat) (hi : i < 3) (a : Int32) (b : Int32) : sl_C l G cy ad yX0_end wsX0_end ({ frames := 0, cells := 0, slots := 0, locals := 0 }) [.ref (ad (3 + i)), .int a, .int b] σ τ (some (.int (sp_X0_end σ i a b).1)) (sp_X0_end σ i a b).2 τ := by
  refine sl_of (cc := cX0_end) (maxL := 3) (ret := (some .int)) (by decide) rfl (Nat.le_of_ble_eq_true rfl) ?_
  intro p e s m below meth c hx hb hr hml hts hown hlocks hK hN hD hP hS ls hl
  have hown : s.vm.findClass RX0 = some m.cls := hown
  have hl : lv_has ls 3 [(0, .ref (ad (3 + i))), (1, .int a), (2, .int b)] := hl
  have hi0 : ∀ w ∈ wsX00, w ∈ wsX0_end := fun _ h => (List.mem_cons_of_mem _ (List.mem_append_right _ h))
  refine lv_aload_n hx hb dX0_end_0 rfl (lv_at hl 0 rfl) ?_
  refine lv_iconst (v := (0 : Int32)) hx hb dX0_end_1 (by decide) ?_
  refine sl_putC hx hb hts hi0 hown hK hD hP hS hi 2 (by decide) rfl (tyX0_ok 2 (by decide)) (hts _ mw_X0_end_1) dX0_end_2 (fun H locs hP hS => ?_)
  refine lv_aload_n hx hb dX0_end_5 rfl (lv_at hl 0 rfl) ?_
  refine lv_iload_n hx hb dX0_end_6 rfl (lv_at hl 1 rfl) ?_
  refine sl_putC hx hb hts hi0 hown hK hD hP hS hi 3 (by decide) rfl (tyX0_ok 3 (by decide)) (hts _ mw_X0_end_2) dX0_end_7 (fun H locs hP hS => ?_)
  refine lv_aload_n hx hb dX0_end_10 rfl (lv_at hl 0 rfl) ?_
  refine lv_iload_n hx hb dX0_end_11 rfl (lv_at hl 2 rfl) ?_
  refine sl_putC hx hb hts hi0 hown hK hD hP hS hi 4 (by decide) rfl (tyX0_ok 4 (by decide)) (hts _ mw_X0_end_3) dX0_end_12 (fun H locs hP hS => ?_)
  refine lv_iconst (v := (1 : Int32)) hx hb dX0_end_15 (by decide) ?_
  have e_q : (sp_X0_end σ i a b) = ((1 : Int32), (sl_up (sl_up (sl_up σ (3 + i) 2 (0 : Int32)) (3 + i) 3 a) (3 + i) 4 b)) := by rw [sp_X0_end]
  exact sl_iret hx hb hr hlocks hP hS (by rw [e_q]) (by rw [e_q]) rfl dX0_end_16
def sp_X0_chainOf (σ : sl_M) (i : Nat) (a : Int32) : Int32 := 
  if (a - a / (2 : Int32) * (2 : Int32)) = 0 then ((σ (3 + i) 1) &&& (21 : Int32))
  else ((σ (3 + i) 1) &&& (42 : Int32))
set_option maxHeartbeats 4000000 in
set_option maxRecDepth 100000 in
theorem c_X0_chainOf (l : Launch) (G : va_G) (cy : Nat → ClassId) (ad : Nat → Nat) (σ τ : sl_M) (i : Nat) (hi : i < 3) (a : Int32) : sl_C l G cy ad yX0_chainOf wsX0_chainOf ({ frames := 0, cells := 0, slots := 0, locals := 0 }) [.ref (ad (3 + i)), .int a] σ τ (some (.int (sp_X0_chainOf σ i a))) σ τ := by
  refine sl_of (cc := cX0_chainOf) (maxL := 2) (ret := (some .int)) (by decide) rfl (Nat.le_of_ble_eq_true rfl) ?_
  intro p e s m below meth c hx hb hr hml hts hown hlocks hK hN hD hP hS ls hl
  have hown : s.vm.findClass RX0 = some m.cls := hown
  have hl : lv_has ls 2 [(0, .ref (ad (3 + i))), (1, .int a)] := hl
  have hi0 : ∀ w ∈ wsX00, w ∈ wsX0_chainOf := fun _ h => (List.mem_cons_of_mem _ (List.mem_append_right _ h))
  refine lv_aload_n hx hb dX0_chainOf_0 rfl (lv_at hl 0 rfl) ?_
  refine va_get (D := G) (ci := 0) (v := .int (σ (3 + i) 1)) (C := RX0) (T := TX0) (N := 12) hx hb hts hi0 hown hK hP (3 + i) (sl_aC hi) rfl 1 (by decide) (hts _ mw_X0_chainOf_1) (fun _ h9 => h9) rfl dX0_chainOf_1 ?_
  refine lv_iload_n hx hb dX0_chainOf_4 rfl (lv_at hl 1 rfl) ?_
  refine lv_iconst (v := (2 : Int32)) hx hb dX0_chainOf_5 (by decide) ?_
  refine lv_irem hx hb dX0_chainOf_6 (by decide) ?_
  refine lv_if_ne (tgt := 15) hx hb dX0_chainOf_7 (by decide) (fun c_1 => ?_) (fun c_1 => ?_)
  · refine lv_bipush (v := (42 : Int32)) hx hb dX0_chainOf_15 (by decide) ?_
    refine lv_iand hx hb dX0_chainOf_17 ?_
    have e_q : (sp_X0_chainOf σ i a) = ((σ (3 + i) 1) &&& (42 : Int32)) := by rw [sp_X0_chainOf, if_neg c_1]
    exact sl_iret hx hb hr hlocks hP hS (by rw [e_q]) rfl rfl dX0_chainOf_18
  · refine lv_bipush (v := (21 : Int32)) hx hb dX0_chainOf_10 (by decide) ?_
    refine lv_goto (tgt := 17) hx hb dX0_chainOf_12 (by decide) ?_
    refine lv_iand hx hb dX0_chainOf_17 ?_
    have e_q : (sp_X0_chainOf σ i a) = ((σ (3 + i) 1) &&& (21 : Int32)) := by rw [sp_X0_chainOf, if_pos c_1]
    exact sl_iret hx hb hr hlocks hP hS (by rw [e_q]) rfl rfl dX0_chainOf_18
def sp_X0_isAtHead (σ : sl_M) (i : Nat) : Int32 := 
  if (σ (3 + i) 5) = (sp_X0_chainOf σ i (σ (3 + i) 6)) then (1 : Int32)
  else (0 : Int32)
set_option maxHeartbeats 4000000 in
set_option maxRecDepth 100000 in
theorem c_X0_isAtHead (l : Launch) (G : va_G) (cy : Nat → ClassId) (ad : Nat → Nat) (σ τ : sl_M) (i : Nat) (hi : i < 3) : sl_C l G cy ad yX0_isAtHead wsX0_isAtHead ({ frames := 1, cells := 0, slots := 0, locals := 21 }) [.ref (ad (3 + i))] σ τ (some (.int (sp_X0_isAtHead σ i))) σ τ := by
  refine sl_of (cc := cX0_isAtHead) (maxL := 1) (ret := (some .boolean)) (by decide) rfl (Nat.le_of_ble_eq_true rfl) ?_
  intro p e s m below meth c hx hb hr hml hts hown hlocks hK hN hD hP hS ls hl
  have hown : s.vm.findClass RX0 = some m.cls := hown
  have hl : lv_has ls 1 [(0, .ref (ad (3 + i)))] := hl
  have hi0 : ∀ w ∈ wsX00, w ∈ wsX0_isAtHead := fun _ h => (List.mem_cons_of_mem _ (List.mem_append_right _ h))
  refine lv_aload_n hx hb dX0_isAtHead_0 rfl (lv_at hl 0 rfl) ?_
  refine va_get (D := G) (ci := 0) (v := .int (σ (3 + i) 5)) (C := RX0) (T := TX0) (N := 12) hx hb hts hi0 hown hK hP (3 + i) (sl_aC hi) rfl 5 (by decide) (hts _ mw_X0_isAtHead_1) (fun _ h9 => h9) rfl dX0_isAtHead_1 ?_
  refine lv_aload_n hx hb dX0_isAtHead_4 rfl (lv_at hl 0 rfl) ?_
  refine lv_aload_n hx hb dX0_isAtHead_5 rfl (lv_at hl 0 rfl) ?_
  refine va_get (D := G) (ci := 0) (v := .int (σ (3 + i) 6)) (C := RX0) (T := TX0) (N := 12) hx hb hts hi0 hown hK hP (3 + i) (sl_aC hi) rfl 6 (by decide) (hts _ mw_X0_isAtHead_2) (fun _ h9 => h9) rfl dX0_isAtHead_6 ?_
  refine sl_cV (n := 1) (As := [.int (σ (3 + i) 6)]) (rest := [.int (σ (3 + i) 5)]) ⟨hx, hb, hml, hown, hts⟩ (c_X0_chainOf l G cy ad σ τ i hi (σ (3 + i) 6)) gX0_isAtHead_X0_chainOf rfl rfl rfl (by decide +kernel) ⟨Nat.le_of_ble_eq_true rfl, Nat.le_of_ble_eq_true rfl⟩ (va_recv hK hP (ci := 0) (q0 := 3 + i) rfl (sl_aC hi)) rfl hl.1 rfl (Nat.le_of_ble_eq_true rfl) dX0_isAtHead_9 ⟨Nat.zero_le _, Nat.zero_le _⟩ hK hN hD hP hS (fun H locs hP hS => ?_)
  refine W.eq (g2 := F0 m 12 ls [.int (sp_X0_chainOf σ i (σ (3 + i) 6)), .int (σ (3 + i) 5)]) rfl ?_
  refine lv_icmp_ne (tgt := 19) hx hb dX0_isAtHead_12 (by decide) (fun c_1 => ?_) (fun c_1 => ?_)
  · refine lv_iconst (v := (0 : Int32)) hx hb dX0_isAtHead_19 (by decide) ?_
    have e_q : (sp_X0_isAtHead σ i) = (0 : Int32) := by rw [sp_X0_isAtHead, if_neg c_1]
    exact sl_zret hx hb hr hlocks (by decide) hP hS (by rw [e_q]) rfl rfl dX0_isAtHead_20
  · refine lv_iconst (v := (1 : Int32)) hx hb dX0_isAtHead_15 (by decide) ?_
    refine lv_goto (tgt := 20) hx hb dX0_isAtHead_16 (by decide) ?_
    have e_q : (sp_X0_isAtHead σ i) = (1 : Int32) := by rw [sp_X0_isAtHead, if_pos c_1]
    exact sl_zret hx hb hr hlocks (by decide) hP hS (by rw [e_q]) rfl rfl dX0_isAtHead_20
def sp_X0_replayRoute (σ : sl_M) (i : Nat) : Int32 := 
  if (σ (3 + i) 6) = (σ (3 + i) 8) then (0 : Int32)
  else (sp_X2_highestOf (sp_X0_chainOf σ i (σ (3 + i) 6)))
set_option maxHeartbeats 4000000 in
set_option maxRecDepth 100000 in
theorem c_X0_replayRoute (l : Launch) (G : va_G) (cy : Nat → ClassId) (ad : Nat → Nat) (σ τ : sl_M) (i : Nat) (hi : i < 3) : sl_C l G cy ad yX0_replayRoute wsX0_replayRoute ({ frames := 1, cells := 0, slots := 0, locals := 21 }) [.ref (ad (3 + i))] σ τ (some (.int (sp_X0_replayRoute σ i))) σ τ := by
  refine sl_of (cc := cX0_replayRoute) (maxL := 1) (ret := (some .int)) (by decide) rfl (Nat.le_of_ble_eq_true rfl) ?_
  intro p e s m below meth c hx hb hr hml hts hown hlocks hK hN hD hP hS ls hl
  have hown : s.vm.findClass RX0 = some m.cls := hown
  have hl : lv_has ls 1 [(0, .ref (ad (3 + i)))] := hl
  have hi0 : ∀ w ∈ wsX00, w ∈ wsX0_replayRoute := fun _ h => (List.mem_cons_of_mem _ (List.mem_append_right _ h))
  refine lv_aload_n hx hb dX0_replayRoute_0 rfl (lv_at hl 0 rfl) ?_
  refine va_get (D := G) (ci := 0) (v := .int (σ (3 + i) 6)) (C := RX0) (T := TX0) (N := 12) hx hb hts hi0 hown hK hP (3 + i) (sl_aC hi) rfl 6 (by decide) (hts _ mw_X0_replayRoute_1) (fun _ h9 => h9) rfl dX0_replayRoute_1 ?_
  refine lv_aload_n hx hb dX0_replayRoute_4 rfl (lv_at hl 0 rfl) ?_
  refine va_get (D := G) (ci := 0) (v := .int (σ (3 + i) 8)) (C := RX0) (T := TX0) (N := 12) hx hb hts hi0 hown hK hP (3 + i) (sl_aC hi) rfl 8 (by decide) (hts _ mw_X0_replayRoute_2) (fun _ h9 => h9) rfl dX0_replayRoute_5 ?_
  refine lv_icmp_ne (tgt := 15) hx hb dX0_replayRoute_8 (by decide) (fun c_1 => ?_) (fun c_1 => ?_)
  · refine lv_aload_n hx hb dX0_replayRoute_15 rfl (lv_at hl 0 rfl) ?_
    refine lv_aload_n hx hb dX0_replayRoute_16 rfl (lv_at hl 0 rfl) ?_
    refine va_get (D := G) (ci := 0) (v := .int (σ (3 + i) 6)) (C := RX0) (T := TX0) (N := 12) hx hb hts hi0 hown hK hP (3 + i) (sl_aC hi) rfl 6 (by decide) (hts _ mw_X0_replayRoute_1) (fun _ h9 => h9) rfl dX0_replayRoute_17 ?_
    refine sl_cV (n := 1) (As := [.int (σ (3 + i) 6)]) (rest := []) ⟨hx, hb, hml, hown, hts⟩ (c_X0_chainOf l G cy ad σ τ i hi (σ (3 + i) 6)) gX0_replayRoute_X0_chainOf rfl rfl rfl (by decide +kernel) ⟨Nat.le_of_ble_eq_true rfl, Nat.le_of_ble_eq_true rfl⟩ (va_recv hK hP (ci := 0) (q0 := 3 + i) rfl (sl_aC hi)) rfl hl.1 rfl (Nat.le_of_ble_eq_true rfl) dX0_replayRoute_20 ⟨Nat.zero_le _, Nat.zero_le _⟩ hK hN hD hP hS (fun H locs hP hS => ?_)
    refine W.eq (g2 := F0 m 23 ls [.int (sp_X0_chainOf σ i (σ (3 + i) 6))]) rfl ?_
    refine sl_nS (n := 1) (As := [.int (sp_X0_chainOf σ i (σ (3 + i) 6))]) (rest := []) ⟨hx, hb, hml, hown, hts⟩ (c_X2_highestOf l G cy ad σ τ (sp_X0_chainOf σ i (σ (3 + i) 6))) gX0_replayRoute_X2_highestOf_n52 rfl rfl rfl (hN.m 12 rfl) (hts _ mw_X0_replayRoute_10) (hts _ mw_X0_replayRoute_9) (by decide +kernel) ⟨Nat.le_of_ble_eq_true rfl, Nat.le_of_ble_eq_true rfl⟩ rfl hl.1 rfl (Nat.le_of_ble_eq_true rfl) dX0_replayRoute_23 ⟨Nat.zero_le _, Nat.zero_le _⟩ hK hN hD hP hS (fun H locs hP hS => ?_)
    refine W.eq (g2 := F0 m 26 ls [.int (sp_X2_highestOf (sp_X0_chainOf σ i (σ (3 + i) 6)))]) rfl ?_
    have e_q : (sp_X0_replayRoute σ i) = (sp_X2_highestOf (sp_X0_chainOf σ i (σ (3 + i) 6))) := by rw [sp_X0_replayRoute, if_neg c_1]
    exact sl_iret hx hb hr hlocks hP hS (by rw [e_q]) rfl rfl dX0_replayRoute_26
  · refine lv_iconst (v := (0 : Int32)) hx hb dX0_replayRoute_11 (by decide) ?_
    refine lv_goto (tgt := 26) hx hb dX0_replayRoute_12 (by decide) ?_
    have e_q : (sp_X0_replayRoute σ i) = (0 : Int32) := by rw [sp_X0_replayRoute, if_pos c_1]
    exact sl_iret hx hb hr hlocks hP hS (by rw [e_q]) rfl rfl dX0_replayRoute_26
def sp_X0_newestEpochItBears (σ : sl_M) (i : Nat) : Int32 := 
  if (σ (3 + i) 2) = (5 : Int32) then ((σ (3 + i) 0) + (1 : Int32))
  else (σ (3 + i) 0)
set_option maxHeartbeats 4000000 in
set_option maxRecDepth 100000 in
theorem c_X0_newestEpochItBears (l : Launch) (G : va_G) (cy : Nat → ClassId) (ad : Nat → Nat) (σ τ : sl_M) (i : Nat) (hi : i < 3) : sl_C l G cy ad yX0_newestEpochItBears wsX0_newestEpochItBears ({ frames := 0, cells := 0, slots := 0, locals := 0 }) [.ref (ad (3 + i))] σ τ (some (.int (sp_X0_newestEpochItBears σ i))) σ τ := by
  refine sl_of (cc := cX0_newestEpochItBears) (maxL := 1) (ret := (some .int)) (by decide) rfl (Nat.le_of_ble_eq_true rfl) ?_
  intro p e s m below meth c hx hb hr hml hts hown hlocks hK hN hD hP hS ls hl
  have hown : s.vm.findClass RX0 = some m.cls := hown
  have hl : lv_has ls 1 [(0, .ref (ad (3 + i)))] := hl
  have hi0 : ∀ w ∈ wsX00, w ∈ wsX0_newestEpochItBears := fun _ h => (List.mem_cons_of_mem _ (List.mem_append_right _ h))
  refine lv_aload_n hx hb dX0_newestEpochItBears_0 rfl (lv_at hl 0 rfl) ?_
  refine va_get (D := G) (ci := 0) (v := .int (σ (3 + i) 2)) (C := RX0) (T := TX0) (N := 12) hx hb hts hi0 hown hK hP (3 + i) (sl_aC hi) rfl 2 (by decide) (hts _ mw_X0_newestEpochItBears_1) (fun _ h9 => h9) rfl dX0_newestEpochItBears_1 ?_
  refine lv_iconst (v := (5 : Int32)) hx hb dX0_newestEpochItBears_4 (by decide) ?_
  refine lv_icmp_ne (tgt := 17) hx hb dX0_newestEpochItBears_5 (by decide) (fun c_1 => ?_) (fun c_1 => ?_)
  · refine lv_aload_n hx hb dX0_newestEpochItBears_17 rfl (lv_at hl 0 rfl) ?_
    refine va_get (D := G) (ci := 0) (v := .int (σ (3 + i) 0)) (C := RX0) (T := TX0) (N := 12) hx hb hts hi0 hown hK hP (3 + i) (sl_aC hi) rfl 0 (by decide) (hts _ mw_X0_newestEpochItBears_2) (fun _ h9 => h9) rfl dX0_newestEpochItBears_18 ?_
    have e_q : (sp_X0_newestEpochItBears σ i) = (σ (3 + i) 0) := by rw [sp_X0_newestEpochItBears, if_neg c_1]
    exact sl_iret hx hb hr hlocks hP hS (by rw [e_q]) rfl rfl dX0_newestEpochItBears_21
  · refine lv_aload_n hx hb dX0_newestEpochItBears_8 rfl (lv_at hl 0 rfl) ?_
    refine va_get (D := G) (ci := 0) (v := .int (σ (3 + i) 0)) (C := RX0) (T := TX0) (N := 12) hx hb hts hi0 hown hK hP (3 + i) (sl_aC hi) rfl 0 (by decide) (hts _ mw_X0_newestEpochItBears_2) (fun _ h9 => h9) rfl dX0_newestEpochItBears_9 ?_
    refine lv_iconst (v := (1 : Int32)) hx hb dX0_newestEpochItBears_12 (by decide) ?_
    refine lv_iadd hx hb dX0_newestEpochItBears_13 ?_
    refine lv_goto (tgt := 21) hx hb dX0_newestEpochItBears_14 (by decide) ?_
    have e_q : (sp_X0_newestEpochItBears σ i) = ((σ (3 + i) 0) + (1 : Int32)) := by rw [sp_X0_newestEpochItBears, if_pos c_1]
    exact sl_iret hx hb hr hlocks hP hS (by rw [e_q]) rfl rfl dX0_newestEpochItBears_21
def sp_X0_goAlongChain (σ : sl_M) (i : Nat) (a : Int32) : Int32 × sl_M := 
  if ((sl_up σ (3 + i) 5 (sp_X2_withoutLowest (σ (3 + i) 5))) (3 + i) 5) = 0 then (((sp_X0_end (sl_up σ (3 + i) 5 (sp_X2_withoutLowest (σ (3 + i) 5))) i (1 : Int32) a).1), (sp_X0_end (sl_up σ (3 + i) 5 (sp_X2_withoutLowest (σ (3 + i) 5))) i (1 : Int32) a).2)
  else ((0 : Int32), (sl_up σ (3 + i) 5 (sp_X2_withoutLowest (σ (3 + i) 5))))
set_option maxHeartbeats 4000000 in
set_option maxRecDepth 100000 in
theorem c_X0_goAlongChain (l : Launch) (G : va_G) (cy : Nat → ClassId) (ad : Nat → Nat) (σ τ : sl_M) (i : Nat) (hi : i < 3) (a : Int32) : sl_C l G cy ad yX0_goAlongChain wsX0_goAlongChain ({ frames := 1, cells := 0, slots := 0, locals := 22 }) [.ref (ad (3 + i)), .int a] σ τ (some (.int (sp_X0_goAlongChain σ i a).1)) (sp_X0_goAlongChain σ i a).2 τ := by
  refine sl_of (cc := cX0_goAlongChain) (maxL := 2) (ret := (some .int)) (by decide) rfl (Nat.le_of_ble_eq_true rfl) ?_
  intro p e s m below meth c hx hb hr hml hts hown hlocks hK hN hD hP hS ls hl
  have hown : s.vm.findClass RX0 = some m.cls := hown
  have hl : lv_has ls 2 [(0, .ref (ad (3 + i))), (1, .int a)] := hl
  have hi0 : ∀ w ∈ wsX00, w ∈ wsX0_goAlongChain := fun _ h => (List.mem_cons_of_mem _ (List.mem_append_right _ h))
  refine lv_aload_n hx hb dX0_goAlongChain_0 rfl (lv_at hl 0 rfl) ?_
  refine lv_aload_n hx hb dX0_goAlongChain_1 rfl (lv_at hl 0 rfl) ?_
  refine va_get (D := G) (ci := 0) (v := .int (σ (3 + i) 5)) (C := RX0) (T := TX0) (N := 12) hx hb hts hi0 hown hK hP (3 + i) (sl_aC hi) rfl 5 (by decide) (hts _ mw_X0_goAlongChain_1) (fun _ h9 => h9) rfl dX0_goAlongChain_2 ?_
  refine sl_nS (n := 1) (As := [.int (σ (3 + i) 5)]) (rest := [.ref (ad (3 + i))]) ⟨hx, hb, hml, hown, hts⟩ (c_X2_withoutLowest l G cy ad σ τ (σ (3 + i) 5)) gX0_goAlongChain_X2_withoutLowest_n55 rfl rfl rfl (hN.m 13 rfl) (hts _ mw_X0_goAlongChain_3) (hts _ mw_X0_goAlongChain_2) (by decide +kernel) ⟨Nat.le_of_ble_eq_true rfl, Nat.le_of_ble_eq_true rfl⟩ rfl hl.1 rfl (Nat.le_of_ble_eq_true rfl) dX0_goAlongChain_5 ⟨Nat.zero_le _, Nat.zero_le _⟩ hK hN hD hP hS (fun H locs hP hS => ?_)
  refine W.eq (g2 := F0 m 8 ls [.int (sp_X2_withoutLowest (σ (3 + i) 5)), .ref (ad (3 + i))]) rfl ?_
  refine sl_putC hx hb hts hi0 hown hK hD hP hS hi 5 (by decide) rfl (tyX0_ok 5 (by decide)) (hts _ mw_X0_goAlongChain_1) dX0_goAlongChain_8 (fun H locs hP hS => ?_)
  refine lv_aload_n hx hb dX0_goAlongChain_11 rfl (lv_at hl 0 rfl) ?_
  refine va_get (D := G) (ci := 0) (v := .int ((sl_up σ (3 + i) 5 (sp_X2_withoutLowest (σ (3 + i) 5))) (3 + i) 5)) (C := RX0) (T := TX0) (N := 12) hx hb hts hi0 hown hK hP (3 + i) (sl_aC hi) rfl 5 (by decide) (hts _ mw_X0_goAlongChain_1) (fun _ h9 => h9) rfl dX0_goAlongChain_12 ?_
  refine lv_if_ne (tgt := 27) hx hb dX0_goAlongChain_15 (by decide) (fun c_1 => ?_) (fun c_1 => ?_)
  · refine lv_iconst (v := (0 : Int32)) hx hb dX0_goAlongChain_27 (by decide) ?_
    have e_q : (sp_X0_goAlongChain σ i a) = ((0 : Int32), (sl_up σ (3 + i) 5 (sp_X2_withoutLowest (σ (3 + i) 5)))) := by rw [sp_X0_goAlongChain, if_neg c_1]
    exact sl_iret hx hb hr hlocks hP hS (by rw [e_q]) (by rw [e_q]) rfl dX0_goAlongChain_28
  · refine lv_aload_n hx hb dX0_goAlongChain_18 rfl (lv_at hl 0 rfl) ?_
    refine lv_iconst (v := (1 : Int32)) hx hb dX0_goAlongChain_19 (by decide) ?_
    refine lv_iload_n hx hb dX0_goAlongChain_20 rfl (lv_at hl 1 rfl) ?_
    refine sl_cV (n := 2) (As := [.int (1 : Int32), .int a]) (rest := []) ⟨hx, hb, hml, hown, hts⟩ (c_X0_end l G cy ad (sl_up σ (3 + i) 5 (sp_X2_withoutLowest (σ (3 + i) 5))) τ i hi (1 : Int32) a) gX0_goAlongChain_X0_end rfl rfl rfl (by decide +kernel) ⟨Nat.le_of_ble_eq_true rfl, Nat.le_of_ble_eq_true rfl⟩ (va_recv hK hP (ci := 0) (q0 := 3 + i) rfl (sl_aC hi)) rfl hl.1 rfl (Nat.le_of_ble_eq_true rfl) dX0_goAlongChain_21 ⟨Nat.zero_le _, Nat.zero_le _⟩ hK hN hD hP hS (fun H locs hP hS => ?_)
    refine W.eq (g2 := F0 m 24 ls [.int ((sp_X0_end (sl_up σ (3 + i) 5 (sp_X2_withoutLowest (σ (3 + i) 5))) i (1 : Int32) a).1)]) rfl ?_
    refine lv_goto (tgt := 28) hx hb dX0_goAlongChain_24 (by decide) ?_
    have e_q : (sp_X0_goAlongChain σ i a) = (((sp_X0_end (sl_up σ (3 + i) 5 (sp_X2_withoutLowest (σ (3 + i) 5))) i (1 : Int32) a).1), (sp_X0_end (sl_up σ (3 + i) 5 (sp_X2_withoutLowest (σ (3 + i) 5))) i (1 : Int32) a).2) := by rw [sp_X0_goAlongChain, if_pos c_1]
    exact sl_iret hx hb hr hlocks hP hS (by rw [e_q]) (by rw [e_q]) rfl dX0_goAlongChain_28
theorem sl_isP {x : Int32} (h : ¬ sp_X2_isPosition x = 0) : vp_in x 32 := by
  by_cases h0 : x < 0
  · exact absurd (by rw [sp_X2_isPosition, if_pos h0]) h
  · by_cases h1 : (32 : Int32) ≤ x
    · exact absurd (by rw [sp_X2_isPosition, if_neg h0, if_pos h1]) h
    · exact sl_in h0 h1 rfl
theorem sl_dec {x : Int32} (h : ¬ x < 0) : (x + (-1 : Int32)).toInt = x.toInt - 1 := by
  have a1 : (0 : Int32).toInt ≤ x.toInt := Int32.le_iff_toInt_le.mp (Int32.not_lt.mp h)
  have a2 := Int32.toInt_lt x
  have a3 : (0 : Int32).toInt = 0 := rfl
  have a4 : (-1 : Int32).toInt = -1 := rfl
  rw [Int32.toInt_add, a4, Int.bmod_eq_of_le (by omega) (by omega)]
  omega
theorem sl_inc {x b : Int32} (h : ¬ b ≤ x) : (x + (1 : Int32)).toInt = x.toInt + 1 := by
  have a2 : x.toInt < b.toInt := Int32.lt_iff_toInt_lt.mp (Int32.not_le.mp h)
  have a3 := Int32.toInt_lt b
  have a5 := Int32.le_toInt x
  have a4 : (1 : Int32).toInt = 1 := rfl
  rw [Int32.toInt_add, a4, Int.bmod_eq_of_le (by omega) (by omega)]
theorem sl_in2 {x : Int32} {n : Nat} (h0 : ¬ x < 0) (h1 : x.toInt < (n : Int)) : vp_in x n := by
  rw [vp_in_iff]
  have a1 : (0 : Int32).toInt ≤ x.toInt := Int32.le_iff_toInt_le.mp (Int32.not_lt.mp h0)
  have a3 : (0 : Int32).toInt = 0 := rfl
  omega
theorem sl_in3 {x : Int32} {n : Nat} (h0 : 0 ≤ x.toInt) (h1 : x.toInt < (n : Int)) : vp_in x n := vp_in_iff.mpr ⟨h0, h1⟩
theorem sl_nle {x b : Int32} (h : ¬ b ≤ x) : x.toInt < b.toInt := Int32.lt_iff_toInt_lt.mp (Int32.not_le.mp h)
theorem sl_big {x b : Int32} {n : Nat} (h : ¬ vp_in x n) (h0 : ¬ x < 0) (hb : b.toInt = n) : b ≤ x := by
  by_cases q : b ≤ x
  · exact q
  · exact absurd (sl_in h0 q hb) h
end
section
def sp_X1_contentAt (σ : sl_M) (j : Nat) (a : Int32) : Int32 := 
  if (sp_X2_isPosition a) = 0 then (-9 : Int32)
  else ((σ (6 + j + 6) a.toNatClampNeg))
set_option maxHeartbeats 4000000 in
set_option maxRecDepth 100000 in
theorem c_X1_contentAt (l : Launch) (G : va_G) (cy : Nat → ClassId) (ad : Nat → Nat) (σ τ : sl_M) (j : Nat) (hj : j < 6) (a : Int32) : sl_C l G cy ad yX1_contentAt wsX1_contentAt ({ frames := 1, cells := 0, slots := 0, locals := 20 }) [.ref (ad (6 + j)), .int a] σ τ (some (.int (sp_X1_contentAt σ j a))) σ τ := by
  refine sl_of (cc := cX1_contentAt) (maxL := 2) (ret := (some .int)) (by decide) rfl (Nat.le_of_ble_eq_true rfl) ?_
  intro p e s m below meth c hx hb hr hml hts hown hlocks hK hN hD hP hS ls hl
  have hown : s.vm.findClass RX1 = some m.cls := hown
  have hl : lv_has ls 2 [(0, .ref (ad (6 + j))), (1, .int a)] := hl
  have hi1 : ∀ w ∈ wsX10, w ∈ wsX1_contentAt := fun _ h => (List.mem_cons_of_mem _ (List.mem_append_right _ h))
  refine lv_iload_n hx hb dX1_contentAt_0 rfl (lv_at hl 1 rfl) ?_
  refine sl_nS (n := 1) (As := [.int a]) (rest := []) ⟨hx, hb, hml, hown, hts⟩ (c_X2_isPosition l G cy ad σ τ a) gX1_contentAt_X2_isPosition_n23 rfl rfl rfl (hN.m 14 rfl) (hts _ mw_X1_contentAt_3) (hts _ mw_X1_contentAt_2) (by decide +kernel) ⟨Nat.le_of_ble_eq_true rfl, Nat.le_of_ble_eq_true rfl⟩ rfl hl.1 rfl (Nat.le_of_ble_eq_true rfl) dX1_contentAt_1 ⟨Nat.zero_le _, Nat.zero_le _⟩ hK hN hD hP hS (fun H locs hP hS => ?_)
  refine W.eq (g2 := F0 m 4 ls [.int (sp_X2_isPosition a)]) rfl ?_
  refine lv_if_eq (tgt := 16) hx hb dX1_contentAt_4 (by decide) (fun c_1 => ?_) (fun c_1 => ?_)
  · refine lv_bipush (v := (-9 : Int32)) hx hb dX1_contentAt_16 (by decide) ?_
    have e_q : (sp_X1_contentAt σ j a) = (-9 : Int32) := by rw [sp_X1_contentAt, if_pos c_1]
    exact sl_iret hx hb hr hlocks hP hS (by rw [e_q]) rfl rfl dX1_contentAt_18
  · refine lv_aload_n hx hb dX1_contentAt_7 rfl (lv_at hl 0 rfl) ?_
    refine va_get (D := G) (ci := 1) (v := .ref (ad (6 + j + 6))) (C := RX1) (T := TX1) (N := 3) hx hb hts hi1 hown hK hP (6 + j) (sl_aU hj) rfl 2 (by decide) (hts _ mw_X1_contentAt_1) (fun _ h9 => h9) rfl dX1_contentAt_8 ?_
    refine lv_iload_n hx hb dX1_contentAt_11 rfl (lv_at hl 1 rfl) ?_
    refine sl_ldA hx hb hK hP hj (sl_isP c_1) dX1_contentAt_12 ?_
    refine lv_goto (tgt := 18) hx hb dX1_contentAt_13 (by decide) ?_
    have e_q : (sp_X1_contentAt σ j a) = ((σ (6 + j + 6) a.toNatClampNeg)) := by rw [sp_X1_contentAt, if_neg c_1]
    exact sl_iret hx hb hr hlocks hP hS (by rw [e_q]) rfl rfl dX1_contentAt_18
def sp_X1_writeOnce (σ : sl_M) (j : Nat) (a : Int32) (b : Int32) : sl_M := 
  if (sp_X2_isPosition a) = 0 then σ
  else if ((σ (6 + j + 6) a.toNatClampNeg)) = (-2 : Int32) then (sl_up σ (6 + j + 6) a.toNatClampNeg b)
  else σ
set_option maxHeartbeats 4000000 in
set_option maxRecDepth 100000 in
theorem c_X1_writeOnce (l : Launch) (G : va_G) (cy : Nat → ClassId) (ad : Nat → Nat) (σ τ : sl_M) (j : Nat) (hj : j < 6) (a : Int32) (b : Int32) : sl_C l G cy ad yX1_writeOnce wsX1_writeOnce ({ frames := 1, cells := 0, slots := 0, locals := 20 }) [.ref (ad (6 + j)), .int a, .int b] σ τ none (sp_X1_writeOnce σ j a b) τ := by
  refine sl_of (cc := cX1_writeOnce) (maxL := 3) (ret := none) (by decide) rfl (Nat.le_of_ble_eq_true rfl) ?_
  intro p e s m below meth c hx hb hr hml hts hown hlocks hK hN hD hP hS ls hl
  have hown : s.vm.findClass RX1 = some m.cls := hown
  have hl : lv_has ls 3 [(0, .ref (ad (6 + j))), (1, .int a), (2, .int b)] := hl
  have hi1 : ∀ w ∈ wsX10, w ∈ wsX1_writeOnce := fun _ h => (List.mem_cons_of_mem _ (List.mem_append_right _ h))
  refine lv_iload_n hx hb dX1_writeOnce_0 rfl (lv_at hl 1 rfl) ?_
  refine sl_nS (n := 1) (As := [.int a]) (rest := []) ⟨hx, hb, hml, hown, hts⟩ (c_X2_isPosition l G cy ad σ τ a) gX1_writeOnce_X2_isPosition_n23 rfl rfl rfl (hN.m 14 rfl) (hts _ mw_X1_writeOnce_3) (hts _ mw_X1_writeOnce_2) (by decide +kernel) ⟨Nat.le_of_ble_eq_true rfl, Nat.le_of_ble_eq_true rfl⟩ rfl hl.1 rfl (Nat.le_of_ble_eq_true rfl) dX1_writeOnce_1 ⟨Nat.zero_le _, Nat.zero_le _⟩ hK hN hD hP hS (fun H locs hP hS => ?_)
  refine W.eq (g2 := F0 m 4 ls [.int (sp_X2_isPosition a)]) rfl ?_
  refine lv_if_eq (tgt := 25) hx hb dX1_writeOnce_4 (by decide) (fun c_1 => ?_) (fun c_1 => ?_)
  · have e_q : (sp_X1_writeOnce σ j a b) = σ := by rw [sp_X1_writeOnce, if_pos c_1]
    exact sl_vret hx hb hr hlocks hP hS rfl (by rw [e_q]) rfl dX1_writeOnce_25
  · refine lv_aload_n hx hb dX1_writeOnce_7 rfl (lv_at hl 0 rfl) ?_
    refine va_get (D := G) (ci := 1) (v := .ref (ad (6 + j + 6))) (C := RX1) (T := TX1) (N := 3) hx hb hts hi1 hown hK hP (6 + j) (sl_aU hj) rfl 2 (by decide) (hts _ mw_X1_writeOnce_1) (fun _ h9 => h9) rfl dX1_writeOnce_8 ?_
    refine lv_iload_n hx hb dX1_writeOnce_11 rfl (lv_at hl 1 rfl) ?_
    refine sl_ldA hx hb hK hP hj (sl_isP c_1) dX1_writeOnce_12 ?_
    refine lv_bipush (v := (-2 : Int32)) hx hb dX1_writeOnce_13 (by decide) ?_
    refine lv_icmp_ne (tgt := 25) hx hb dX1_writeOnce_15 (by decide) (fun c_2 => ?_) (fun c_2 => ?_)
    · have e_q : (sp_X1_writeOnce σ j a b) = σ := by rw [sp_X1_writeOnce, if_neg c_1, if_neg c_2]
      exact sl_vret hx hb hr hlocks hP hS rfl (by rw [e_q]) rfl dX1_writeOnce_25
    · refine lv_aload_n hx hb dX1_writeOnce_18 rfl (lv_at hl 0 rfl) ?_
      refine va_get (D := G) (ci := 1) (v := .ref (ad (6 + j + 6))) (C := RX1) (T := TX1) (N := 3) hx hb hts hi1 hown hK hP (6 + j) (sl_aU hj) rfl 2 (by decide) (hts _ mw_X1_writeOnce_1) (fun _ h9 => h9) rfl dX1_writeOnce_19 ?_
      refine lv_iload_n hx hb dX1_writeOnce_22 rfl (lv_at hl 1 rfl) ?_
      refine lv_iload_n hx hb dX1_writeOnce_23 rfl (lv_at hl 2 rfl) ?_
      refine sl_stA hx hb hK hD hP hS hj (sl_isP c_1) dX1_writeOnce_24 (fun H locs hP hS => ?_)
      have e_q : (sp_X1_writeOnce σ j a b) = (sl_up σ (6 + j + 6) a.toNatClampNeg b) := by rw [sp_X1_writeOnce, if_neg c_1, if_pos c_2]
      exact sl_vret hx hb hr hlocks hP hS rfl (by rw [e_q]) rfl dX1_writeOnce_25
def sp_X1_endOfWritten_3 (σ : sl_M) (j : Nat) : Nat → Int32 → Int32
  | 0, _ => 0
  | n + 1, v => 
    if v < 0 then (0 : Int32)
    else if ((σ (6 + j + 6) v.toNatClampNeg)) = (-2 : Int32) then (sp_X1_endOfWritten_3 σ j n (v + (-1 : Int32)))
    else (v + (1 : Int32))

def sp_X1_endOfWritten (σ : sl_M) (j : Nat) : Int32 := (sp_X1_endOfWritten_3 σ j 33 (31 : Int32))
set_option maxHeartbeats 4000000 in
set_option maxRecDepth 100000 in
theorem c_X1_endOfWritten (l : Launch) (G : va_G) (cy : Nat → ClassId) (ad : Nat → Nat) (σ τ : sl_M) (j : Nat) (hj : j < 6) : sl_C l G cy ad yX1_endOfWritten wsX1_endOfWritten ({ frames := 0, cells := 0, slots := 0, locals := 0 }) [.ref (ad (6 + j))] σ τ (some (.int (sp_X1_endOfWritten σ j))) σ τ := by
  refine sl_of (cc := cX1_endOfWritten) (maxL := 2) (ret := (some .int)) (by decide) rfl (Nat.le_of_ble_eq_true rfl) ?_
  intro p e s m below meth c hx hb hr hml hts hown hlocks hK hN hD hP hS ls hl
  have hown : s.vm.findClass RX1 = some m.cls := hown
  have hl : lv_has ls 2 [(0, .ref (ad (6 + j)))] := hl
  have hi1 : ∀ w ∈ wsX10, w ∈ wsX1_endOfWritten := fun _ h => (List.mem_cons_of_mem _ (List.mem_append_right _ h))
  have K3 : ∀ (n : Nat) (v : Int32) (H : Heap) (locs : List Loc) (ls : Array Slot), v.toInt + 1 < (n : Int) → v.toInt ≤ 31 → -1 ≤ v.toInt → va_P G vwCl (sl_wd cy ad σ τ) H → va_S (sl_A ad s.heap.size) s.heap H locs → lv_has ls 2 [(1, .int v), (0, .ref (ad (6 + j)))] → (sp_X1_endOfWritten σ j) = (sp_X1_endOfWritten_3 σ j n v) → W p l e ({ frames := 0, cells := 0, slots := 0, locals := 0 }) s m ([.ref (ad (6 + j))] : List Value).toArray below meth c H locs 0 0 (sl_Z G cy ad (some (.int (sp_X1_endOfWritten σ j))) σ τ [.ref (ad (6 + j))] below s) (F0 m 3 ls []) := by
    intro n
    induction n with
    | zero =>
      intro v H locs ls h1 h2 h3 hP hS hl e_q0
      exact absurd h1 (by omega)
    | succ n ih =>
      intro v H locs ls h1 h2 h3 hP hS hl e_q0
      refine lv_iload_n hx hb dX1_endOfWritten_3 rfl (lv_at hl 0 rfl) ?_
      refine lv_if_lt (tgt := 28) hx hb dX1_endOfWritten_4 (by decide) (fun c_1 => ?_) (fun c_1 => ?_)
      · refine lv_iconst (v := (0 : Int32)) hx hb dX1_endOfWritten_28 (by decide) ?_
        have e_q : (sp_X1_endOfWritten σ j) = (0 : Int32) := by rw [e_q0, sp_X1_endOfWritten_3, if_pos c_1]
        exact sl_iret hx hb hr hlocks hP hS (by rw [e_q]) rfl rfl dX1_endOfWritten_29
      · refine lv_aload_n hx hb dX1_endOfWritten_7 rfl (lv_at hl 1 rfl) ?_
        refine va_get (D := G) (ci := 1) (v := .ref (ad (6 + j + 6))) (C := RX1) (T := TX1) (N := 3) hx hb hts hi1 hown hK hP (6 + j) (sl_aU hj) rfl 2 (by decide) (hts _ mw_X1_endOfWritten_1) (fun _ h9 => h9) rfl dX1_endOfWritten_8 ?_
        refine lv_iload_n hx hb dX1_endOfWritten_11 rfl (lv_at hl 0 rfl) ?_
        refine sl_ldA hx hb hK hP hj (sl_in2 c_1 (by omega)) dX1_endOfWritten_12 ?_
        refine lv_bipush (v := (-2 : Int32)) hx hb dX1_endOfWritten_13 (by decide) ?_
        refine lv_icmp_eq (tgt := 22) hx hb dX1_endOfWritten_15 (by decide) (fun c_2 => ?_) (fun c_2 => ?_)
        · refine lv_iinc (v := (v + (-1 : Int32))) (lv' := [(1, .int (v + (-1 : Int32))), (0, .ref (ad (6 + j)))]) hx hb dX1_endOfWritten_22 hl (k := 0) rfl rfl (by decide) rfl (fun ls hl => ?_)
          refine lv_goto (tgt := 3) hx hb dX1_endOfWritten_25 (by decide) ?_
          exact ih (v + (-1 : Int32)) _ _ ls (by rw [sl_dec c_1]; omega) (by rw [sl_dec c_1]; omega) (by rw [sl_dec c_1]; have := Int32.le_iff_toInt_le.mp (Int32.not_lt.mp c_1); have a3 : (0 : Int32).toInt = 0 := rfl; omega) hP hS (lv_sub hl [0, 1] rfl) (by rw [e_q0, sp_X1_endOfWritten_3, if_neg c_1, if_pos c_2])
        · refine lv_iload_n hx hb dX1_endOfWritten_18 rfl (lv_at hl 0 rfl) ?_
          refine lv_iconst (v := (1 : Int32)) hx hb dX1_endOfWritten_19 (by decide) ?_
          refine lv_iadd hx hb dX1_endOfWritten_20 ?_
          have e_q : (sp_X1_endOfWritten σ j) = (v + (1 : Int32)) := by rw [e_q0, sp_X1_endOfWritten_3, if_neg c_1, if_neg c_2]
          exact sl_iret hx hb hr hlocks hP hS (by rw [e_q]) rfl rfl dX1_endOfWritten_21
  refine lv_bipush (v := (31 : Int32)) hx hb dX1_endOfWritten_0 (by decide) ?_
  refine lv_istore_n (lv' := [(1, .int (31 : Int32)), (0, .ref (ad (6 + j)))]) hx hb dX1_endOfWritten_2 rfl hl (by decide) rfl (fun ls hl => ?_)
  exact K3 33 (31 : Int32) _ _ ls (by decide) (by decide) (by decide) hP hS (lv_sub hl [0, 1] rfl) (by rw [sp_X1_endOfWritten])
set_option maxHeartbeats 4000000 in
set_option maxRecDepth 100000 in
theorem c_X2_clientAt_in (l : Launch) (G : va_G) (cy : Nat → ClassId) (ad : Nat → Nat) (σ τ : sl_M) (a : Int32) (ha : vp_in a 3) : sl_C l G cy ad yX2_clientAt wsX2_clientAt ({ frames := 0, cells := 0, slots := 0, locals := 0 }) [.ref (ad (0)), .int a] σ τ (some (.ref (ad (3 + a.toNatClampNeg)))) σ τ := by
  refine sl_of (cc := cX2_clientAt) (maxL := 2) (ret := (some (.object "SharedLog$Client"))) (by decide) rfl (Nat.le_of_ble_eq_true rfl) ?_
  intro p e s m below meth c hx hb hr hml hts hown hlocks hK hN hD hP hS ls hl
  have hown : s.vm.findClass RX2 = some m.cls := hown
  have hl : lv_has ls 2 [(0, .ref (ad (0))), (1, .int a)] := hl
  have hi2 : ∀ w ∈ wsX20, w ∈ wsX2_clientAt := fun _ h => (List.mem_cons_of_mem _ (List.mem_append_right _ h))
  refine lv_iload_n hx hb dX2_clientAt_0 rfl (lv_at hl 1 rfl) ?_
  refine lv_if_lt (tgt := 18) hx hb dX2_clientAt_1 (by decide) (fun h9 => absurd h9 (sl_i0 ha)) (fun _ => ?_)
  refine lv_iload_n hx hb dX2_clientAt_4 rfl (lv_at hl 1 rfl) ?_
  refine lv_iconst (v := (3 : Int32)) hx hb dX2_clientAt_5 (by decide) ?_
  refine lv_icmp_ge (tgt := 18) hx hb dX2_clientAt_6 (by decide) (fun h9 => absurd h9 (sl_iB ha rfl)) (fun _ => ?_)
  refine lv_aload_n hx hb dX2_clientAt_9 rfl (lv_at hl 0 rfl) ?_
  refine va_get (D := G) (ci := 2) (v := .ref (ad (2))) (C := RX2) (T := TX2) (N := 6) hx hb hts hi2 hown hK hP 0 sl_aL rfl 1 (by decide) (hts _ mw_X2_clientAt_1) (fun _ h9 => h9) rfl dX2_clientAt_10 ?_
  refine lv_iload_n hx hb dX2_clientAt_13 rfl (lv_at hl 1 rfl) ?_
  refine sl_ldC hx hb hK hP ha dX2_clientAt_14 ?_
  refine lv_goto (tgt := 19) hx hb dX2_clientAt_15 (by decide) ?_
  exact sl_aret hx hb hr hlocks (Or.inr ⟨_, rfl⟩) hP hS rfl rfl rfl dX2_clientAt_19
set_option maxHeartbeats 4000000 in
set_option maxRecDepth 100000 in
theorem c_X2_clientAt_neg (l : Launch) (G : va_G) (cy : Nat → ClassId) (ad : Nat → Nat) (σ τ : sl_M) (a : Int32) (ha : a < 0) : sl_C l G cy ad yX2_clientAt wsX2_clientAt ({ frames := 0, cells := 0, slots := 0, locals := 0 }) [.ref (ad (0)), .int a] σ τ (some .null) σ τ := by
  refine sl_of (cc := cX2_clientAt) (maxL := 2) (ret := (some (.object "SharedLog$Client"))) (by decide) rfl (Nat.le_of_ble_eq_true rfl) ?_
  intro p e s m below meth c hx hb hr hml hts hown hlocks hK hN hD hP hS ls hl
  have hown : s.vm.findClass RX2 = some m.cls := hown
  have hl : lv_has ls 2 [(0, .ref (ad (0))), (1, .int a)] := hl
  refine lv_iload_n hx hb dX2_clientAt_0 rfl (lv_at hl 1 rfl) ?_
  refine lv_if_lt (tgt := 18) hx hb dX2_clientAt_1 (by decide) (fun _ => ?_) (fun h9 => absurd ha h9)
  refine lv_null hx hb dX2_clientAt_18 ?_
  exact sl_aret hx hb hr hlocks (Or.inl rfl) hP hS rfl rfl rfl dX2_clientAt_19
set_option maxHeartbeats 4000000 in
set_option maxRecDepth 100000 in
theorem c_X2_clientAt_big (l : Launch) (G : va_G) (cy : Nat → ClassId) (ad : Nat → Nat) (σ τ : sl_M) (a : Int32) (ha : ¬ a < 0) (hb1 : (3 : Int32) ≤ a) : sl_C l G cy ad yX2_clientAt wsX2_clientAt ({ frames := 0, cells := 0, slots := 0, locals := 0 }) [.ref (ad (0)), .int a] σ τ (some .null) σ τ := by
  refine sl_of (cc := cX2_clientAt) (maxL := 2) (ret := (some (.object "SharedLog$Client"))) (by decide) rfl (Nat.le_of_ble_eq_true rfl) ?_
  intro p e s m below meth c hx hb hr hml hts hown hlocks hK hN hD hP hS ls hl
  have hown : s.vm.findClass RX2 = some m.cls := hown
  have hl : lv_has ls 2 [(0, .ref (ad (0))), (1, .int a)] := hl
  refine lv_iload_n hx hb dX2_clientAt_0 rfl (lv_at hl 1 rfl) ?_
  refine lv_if_lt (tgt := 18) hx hb dX2_clientAt_1 (by decide) (fun h9 => absurd h9 ha) (fun _ => ?_)
  refine lv_iload_n hx hb dX2_clientAt_4 rfl (lv_at hl 1 rfl) ?_
  refine lv_iconst (v := (3 : Int32)) hx hb dX2_clientAt_5 (by decide) ?_
  refine lv_icmp_ge (tgt := 18) hx hb dX2_clientAt_6 (by decide) (fun _ => ?_) (fun h9 => absurd hb1 h9)
  refine lv_null hx hb dX2_clientAt_18 ?_
  exact sl_aret hx hb hr hlocks (Or.inl rfl) hP hS rfl rfl rfl dX2_clientAt_19
set_option maxHeartbeats 4000000 in
set_option maxRecDepth 100000 in
theorem c_X2_unitAt_in (l : Launch) (G : va_G) (cy : Nat → ClassId) (ad : Nat → Nat) (σ τ : sl_M) (a : Int32) (ha : vp_in a 6) : sl_C l G cy ad yX2_unitAt wsX2_unitAt ({ frames := 0, cells := 0, slots := 0, locals := 0 }) [.ref (ad (0)), .int a] σ τ (some (.ref (ad (6 + a.toNatClampNeg)))) σ τ := by
  refine sl_of (cc := cX2_unitAt) (maxL := 2) (ret := (some (.object "SharedLog$Unit"))) (by decide) rfl (Nat.le_of_ble_eq_true rfl) ?_
  intro p e s m below meth c hx hb hr hml hts hown hlocks hK hN hD hP hS ls hl
  have hown : s.vm.findClass RX2 = some m.cls := hown
  have hl : lv_has ls 2 [(0, .ref (ad (0))), (1, .int a)] := hl
  have hi2 : ∀ w ∈ wsX20, w ∈ wsX2_unitAt := fun _ h => (List.mem_cons_of_mem _ (List.mem_append_right _ h))
  refine lv_iload_n hx hb dX2_unitAt_0 rfl (lv_at hl 1 rfl) ?_
  refine lv_if_lt (tgt := 19) hx hb dX2_unitAt_1 (by decide) (fun h9 => absurd h9 (sl_i0 ha)) (fun _ => ?_)
  refine lv_iload_n hx hb dX2_unitAt_4 rfl (lv_at hl 1 rfl) ?_
  refine lv_bipush (v := (6 : Int32)) hx hb dX2_unitAt_5 (by decide) ?_
  refine lv_icmp_ge (tgt := 19) hx hb dX2_unitAt_7 (by decide) (fun h9 => absurd h9 (sl_iB ha rfl)) (fun _ => ?_)
  refine lv_aload_n hx hb dX2_unitAt_10 rfl (lv_at hl 0 rfl) ?_
  refine va_get (D := G) (ci := 2) (v := .ref (ad (1))) (C := RX2) (T := TX2) (N := 6) hx hb hts hi2 hown hK hP 0 sl_aL rfl 0 (by decide) (hts _ mw_X2_unitAt_1) (fun _ h9 => h9) rfl dX2_unitAt_11 ?_
  refine lv_iload_n hx hb dX2_unitAt_14 rfl (lv_at hl 1 rfl) ?_
  refine sl_ldU hx hb hK hP ha dX2_unitAt_15 ?_
  refine lv_goto (tgt := 20) hx hb dX2_unitAt_16 (by decide) ?_
  exact sl_aret hx hb hr hlocks (Or.inr ⟨_, rfl⟩) hP hS rfl rfl rfl dX2_unitAt_20
set_option maxHeartbeats 4000000 in
set_option maxRecDepth 100000 in
theorem c_X2_unitAt_neg (l : Launch) (G : va_G) (cy : Nat → ClassId) (ad : Nat → Nat) (σ τ : sl_M) (a : Int32) (ha : a < 0) : sl_C l G cy ad yX2_unitAt wsX2_unitAt ({ frames := 0, cells := 0, slots := 0, locals := 0 }) [.ref (ad (0)), .int a] σ τ (some .null) σ τ := by
  refine sl_of (cc := cX2_unitAt) (maxL := 2) (ret := (some (.object "SharedLog$Unit"))) (by decide) rfl (Nat.le_of_ble_eq_true rfl) ?_
  intro p e s m below meth c hx hb hr hml hts hown hlocks hK hN hD hP hS ls hl
  have hown : s.vm.findClass RX2 = some m.cls := hown
  have hl : lv_has ls 2 [(0, .ref (ad (0))), (1, .int a)] := hl
  refine lv_iload_n hx hb dX2_unitAt_0 rfl (lv_at hl 1 rfl) ?_
  refine lv_if_lt (tgt := 19) hx hb dX2_unitAt_1 (by decide) (fun _ => ?_) (fun h9 => absurd ha h9)
  refine lv_null hx hb dX2_unitAt_19 ?_
  exact sl_aret hx hb hr hlocks (Or.inl rfl) hP hS rfl rfl rfl dX2_unitAt_20
set_option maxHeartbeats 4000000 in
set_option maxRecDepth 100000 in
theorem c_X2_unitAt_big (l : Launch) (G : va_G) (cy : Nat → ClassId) (ad : Nat → Nat) (σ τ : sl_M) (a : Int32) (ha : ¬ a < 0) (hb1 : (6 : Int32) ≤ a) : sl_C l G cy ad yX2_unitAt wsX2_unitAt ({ frames := 0, cells := 0, slots := 0, locals := 0 }) [.ref (ad (0)), .int a] σ τ (some .null) σ τ := by
  refine sl_of (cc := cX2_unitAt) (maxL := 2) (ret := (some (.object "SharedLog$Unit"))) (by decide) rfl (Nat.le_of_ble_eq_true rfl) ?_
  intro p e s m below meth c hx hb hr hml hts hown hlocks hK hN hD hP hS ls hl
  have hown : s.vm.findClass RX2 = some m.cls := hown
  have hl : lv_has ls 2 [(0, .ref (ad (0))), (1, .int a)] := hl
  refine lv_iload_n hx hb dX2_unitAt_0 rfl (lv_at hl 1 rfl) ?_
  refine lv_if_lt (tgt := 19) hx hb dX2_unitAt_1 (by decide) (fun h9 => absurd h9 ha) (fun _ => ?_)
  refine lv_iload_n hx hb dX2_unitAt_4 rfl (lv_at hl 1 rfl) ?_
  refine lv_bipush (v := (6 : Int32)) hx hb dX2_unitAt_5 (by decide) ?_
  refine lv_icmp_ge (tgt := 19) hx hb dX2_unitAt_7 (by decide) (fun _ => ?_) (fun h9 => absurd hb1 h9)
  refine lv_null hx hb dX2_unitAt_19 ?_
  exact sl_aret hx hb hr hlocks (Or.inl rfl) hP hS rfl rfl rfl dX2_unitAt_20
theorem c_X2_clientAt_out (l : Launch) (G : va_G) (cy : Nat → ClassId) (ad : Nat → Nat) (σ τ : sl_M) (a : Int32) (ha : ¬ vp_in a 3) : sl_C l G cy ad yX2_clientAt wsX2_clientAt ({ frames := 0, cells := 0, slots := 0, locals := 0 }) [.ref (ad (0)), .int a] σ τ (some .null) σ τ := by
  by_cases h : a < 0
  · exact c_X2_clientAt_neg l G cy ad σ τ a h
  · exact c_X2_clientAt_big l G cy ad σ τ a h (sl_big ha h rfl)
theorem c_X2_unitAt_out (l : Launch) (G : va_G) (cy : Nat → ClassId) (ad : Nat → Nat) (σ τ : sl_M) (a : Int32) (ha : ¬ vp_in a 6) : sl_C l G cy ad yX2_unitAt wsX2_unitAt ({ frames := 0, cells := 0, slots := 0, locals := 0 }) [.ref (ad (0)), .int a] σ τ (some .null) σ τ := by
  by_cases h : a < 0
  · exact c_X2_unitAt_neg l G cy ad σ τ a h
  · exact c_X2_unitAt_big l G cy ad σ τ a h (sl_big ha h rfl)
end
section
def sp_X2_takeStoreProjection (σ : sl_M) (i : Nat) : sl_M := (sl_up (sl_up σ (3 + i) 0 (σ 0 2)) (3 + i) 1 ((sl_up σ (3 + i) 0 (σ 0 2)) 0 3))
set_option maxHeartbeats 4000000 in
set_option maxRecDepth 100000 in
theorem c_X2_takeStoreProjection (l : Launch) (G : va_G) (cy : Nat → ClassId) (ad : Nat → Nat) (σ τ : sl_M) (i : Nat) (hi : i < 3) : sl_C l G cy ad yX2_takeStoreProjection wsX2_takeStoreProjection ({ frames := 0, cells := 0, slots := 0, locals := 0 }) [.ref (ad (0)), .ref (ad (3 + i))] σ τ none (sp_X2_takeStoreProjection σ i) τ := by
  refine sl_of (cc := cX2_takeStoreProjection) (maxL := 2) (ret := none) (by decide) rfl (Nat.le_of_ble_eq_true rfl) ?_
  intro p e s m below meth c hx hb hr hml hts hown hlocks hK hN hD hP hS ls hl
  have hown : s.vm.findClass RX2 = some m.cls := hown
  have hl : lv_has ls 2 [(0, .ref (ad (0))), (1, .ref (ad (3 + i)))] := hl
  have hi0 : ∀ w ∈ wsX00, w ∈ wsX2_takeStoreProjection := fun _ h => (List.mem_cons_of_mem _ (List.mem_append_right _ h))
  have hi2 : ∀ w ∈ wsX20, w ∈ wsX2_takeStoreProjection := fun _ h => (List.mem_cons_of_mem _ (List.mem_append_left _ (List.mem_append_right _ h)))
  refine lv_aload_n hx hb dX2_takeStoreProjection_0 rfl (lv_at hl 1 rfl) ?_
  refine lv_aload_n hx hb dX2_takeStoreProjection_1 rfl (lv_at hl 0 rfl) ?_
  refine va_get (D := G) (ci := 2) (v := .int (σ 0 2)) (C := RX2) (T := TX2) (N := 6) hx hb hts hi2 hown hK hP 0 sl_aL rfl 2 (by decide) (hts _ mw_X2_takeStoreProjection_1) (fun _ h9 => h9) rfl dX2_takeStoreProjection_2 ?_
  refine sl_putCN hx hb hts hi0 hown hK hD hP hS hi 0 (by decide) rfl (tyX0_ok 0 (by decide)) (hN.f 11 rfl) dX2_takeStoreProjection_5 (fun H locs hP hS => ?_)
  refine lv_aload_n hx hb dX2_takeStoreProjection_8 rfl (lv_at hl 1 rfl) ?_
  refine lv_aload_n hx hb dX2_takeStoreProjection_9 rfl (lv_at hl 0 rfl) ?_
  refine va_get (D := G) (ci := 2) (v := .int ((sl_up σ (3 + i) 0 (σ 0 2)) 0 3)) (C := RX2) (T := TX2) (N := 6) hx hb hts hi2 hown hK hP 0 sl_aL rfl 3 (by decide) (hts _ mw_X2_takeStoreProjection_2) (fun _ h9 => h9) rfl dX2_takeStoreProjection_10 ?_
  refine sl_putCN hx hb hts hi0 hown hK hD hP hS hi 1 (by decide) rfl (tyX0_ok 1 (by decide)) (hN.f 5 rfl) dX2_takeStoreProjection_13 (fun H locs hP hS => ?_)
  have e_q : (sp_X2_takeStoreProjection σ i) = (sl_up (sl_up σ (3 + i) 0 (σ 0 2)) (3 + i) 1 ((sl_up σ (3 + i) 0 (σ 0 2)) 0 3)) := by rw [sp_X2_takeStoreProjection]
  exact sl_vret hx hb hr hlocks hP hS rfl (by rw [e_q]) rfl dX2_takeStoreProjection_16
def sp_X2_askSequencer (σ : sl_M) (i : Nat) : Int32 × sl_M := 
  if (σ (3 + i) 0) = (σ 0 4) then 
    if (σ 0 5) < (32 : Int32) then ((0 : Int32), (sl_up (sl_up (sl_up σ (3 + i) 6 (σ 0 5)) (3 + i) 5 (sp_X0_chainOf (sl_up σ (3 + i) 6 (σ 0 5)) i ((sl_up σ (3 + i) 6 (σ 0 5)) (3 + i) 6))) 0 5 (((sl_up (sl_up σ (3 + i) 6 (σ 0 5)) (3 + i) 5 (sp_X0_chainOf (sl_up σ (3 + i) 6 (σ 0 5)) i ((sl_up σ (3 + i) 6 (σ 0 5)) (3 + i) 6))) 0 5) + (1 : Int32))))
    else (((sp_X0_end σ i (4 : Int32) (0 : Int32)).1), (sp_X0_end σ i (4 : Int32) (0 : Int32)).2)
  else (((sp_X0_end σ i (2 : Int32) (0 : Int32)).1), (sp_X0_end σ i (2 : Int32) (0 : Int32)).2)
set_option maxHeartbeats 4000000 in
set_option maxRecDepth 100000 in
theorem c_X2_askSequencer (l : Launch) (G : va_G) (cy : Nat → ClassId) (ad : Nat → Nat) (σ τ : sl_M) (i : Nat) (hi : i < 3) : sl_C l G cy ad yX2_askSequencer wsX2_askSequencer ({ frames := 1, cells := 0, slots := 0, locals := 22 }) [.ref (ad (0)), .ref (ad (3 + i))] σ τ (some (.int (sp_X2_askSequencer σ i).1)) (sp_X2_askSequencer σ i).2 τ := by
  refine sl_of (cc := cX2_askSequencer) (maxL := 2) (ret := (some .int)) (by decide) rfl (Nat.le_of_ble_eq_true rfl) ?_
  intro p e s m below meth c hx hb hr hml hts hown hlocks hK hN hD hP hS ls hl
  have hown : s.vm.findClass RX2 = some m.cls := hown
  have hl : lv_has ls 2 [(0, .ref (ad (0))), (1, .ref (ad (3 + i)))] := hl
  have hi0 : ∀ w ∈ wsX00, w ∈ wsX2_askSequencer := fun _ h => (List.mem_cons_of_mem _ (List.mem_append_left _ (List.mem_append_right _ h)))
  have hi2 : ∀ w ∈ wsX20, w ∈ wsX2_askSequencer := fun _ h => (List.mem_cons_of_mem _ (List.mem_append_right _ h))
  refine lv_aload_n hx hb dX2_askSequencer_0 rfl (lv_at hl 1 rfl) ?_
  refine va_getN (D := G) (ci := 0) (v := .int (σ (3 + i) 0)) (C := RX0) (T := TX0) (N := 12) hx hb hts hi0 hown hK hP (3 + i) (sl_aC hi) rfl 0 (by decide) (hN.f 11 rfl) (fun _ h9 => h9) rfl dX2_askSequencer_1 ?_
  refine lv_aload_n hx hb dX2_askSequencer_4 rfl (lv_at hl 0 rfl) ?_
  refine va_get (D := G) (ci := 2) (v := .int (σ 0 4)) (C := RX2) (T := TX2) (N := 6) hx hb hts hi2 hown hK hP 0 sl_aL rfl 4 (by decide) (hts _ mw_X2_askSequencer_1) (fun _ h9 => h9) rfl dX2_askSequencer_5 ?_
  refine lv_icmp_eq (tgt := 18) hx hb dX2_askSequencer_8 (by decide) (fun c_1 => ?_) (fun c_1 => ?_)
  · refine lv_aload_n hx hb dX2_askSequencer_18 rfl (lv_at hl 0 rfl) ?_
    refine va_get (D := G) (ci := 2) (v := .int (σ 0 5)) (C := RX2) (T := TX2) (N := 6) hx hb hts hi2 hown hK hP 0 sl_aL rfl 5 (by decide) (hts _ mw_X2_askSequencer_2) (fun _ h9 => h9) rfl dX2_askSequencer_19 ?_
    refine lv_bipush (v := (32 : Int32)) hx hb dX2_askSequencer_22 (by decide) ?_
    refine lv_icmp_lt (tgt := 34) hx hb dX2_askSequencer_24 (by decide) (fun c_2 => ?_) (fun c_2 => ?_)
    · refine lv_aload_n hx hb dX2_askSequencer_34 rfl (lv_at hl 1 rfl) ?_
      refine lv_aload_n hx hb dX2_askSequencer_35 rfl (lv_at hl 0 rfl) ?_
      refine va_get (D := G) (ci := 2) (v := .int (σ 0 5)) (C := RX2) (T := TX2) (N := 6) hx hb hts hi2 hown hK hP 0 sl_aL rfl 5 (by decide) (hts _ mw_X2_askSequencer_2) (fun _ h9 => h9) rfl dX2_askSequencer_36 ?_
      refine sl_putCN hx hb hts hi0 hown hK hD hP hS hi 6 (by decide) rfl (tyX0_ok 6 (by decide)) (hN.f 2 rfl) dX2_askSequencer_39 (fun H locs hP hS => ?_)
      refine lv_aload_n hx hb dX2_askSequencer_42 rfl (lv_at hl 1 rfl) ?_
      refine lv_aload_n hx hb dX2_askSequencer_43 rfl (lv_at hl 1 rfl) ?_
      refine lv_aload_n hx hb dX2_askSequencer_44 rfl (lv_at hl 1 rfl) ?_
      refine va_getN (D := G) (ci := 0) (v := .int ((sl_up σ (3 + i) 6 (σ 0 5)) (3 + i) 6)) (C := RX0) (T := TX0) (N := 12) hx hb hts hi0 hown hK hP (3 + i) (sl_aC hi) rfl 6 (by decide) (hN.f 2 rfl) (fun _ h9 => h9) rfl dX2_askSequencer_45 ?_
      refine sl_nV (n := 1) (As := [.int ((sl_up σ (3 + i) 6 (σ 0 5)) (3 + i) 6)]) (rest := [.ref (ad (3 + i))]) ⟨hx, hb, hml, hown, hts⟩ (c_X0_chainOf l G cy ad (sl_up σ (3 + i) 6 (σ 0 5)) τ i hi ((sl_up σ (3 + i) 6 (σ 0 5)) (3 + i) 6)) gX2_askSequencer_X0_chainOf_n58 rfl rfl rfl (hN.m 3 rfl) (hts _ mw_X2_askSequencer_4) (hts _ mw_X2_askSequencer_10) (hts _ mw_X2_askSequencer_11) (by decide +kernel) ⟨Nat.le_of_ble_eq_true rfl, Nat.le_of_ble_eq_true rfl⟩ (va_recv hK hP (ci := 0) (q0 := 3 + i) rfl (sl_aC hi)) rfl hl.1 rfl (Nat.le_of_ble_eq_true rfl) dX2_askSequencer_48 ⟨Nat.zero_le _, Nat.zero_le _⟩ hK hN hD hP hS (fun H locs hP hS => ?_)
      refine W.eq (g2 := F0 m 51 ls [.int (sp_X0_chainOf (sl_up σ (3 + i) 6 (σ 0 5)) i ((sl_up σ (3 + i) 6 (σ 0 5)) (3 + i) 6)), .ref (ad (3 + i))]) rfl ?_
      refine sl_putCN hx hb hts hi0 hown hK hD hP hS hi 5 (by decide) rfl (tyX0_ok 5 (by decide)) (hN.f 8 rfl) dX2_askSequencer_51 (fun H locs hP hS => ?_)
      refine lv_aload_n hx hb dX2_askSequencer_54 rfl (lv_at hl 0 rfl) ?_
      refine lv_dup hx hb dX2_askSequencer_55 rfl ?_
      refine va_get (D := G) (ci := 2) (v := .int ((sl_up (sl_up σ (3 + i) 6 (σ 0 5)) (3 + i) 5 (sp_X0_chainOf (sl_up σ (3 + i) 6 (σ 0 5)) i ((sl_up σ (3 + i) 6 (σ 0 5)) (3 + i) 6))) 0 5)) (C := RX2) (T := TX2) (N := 6) hx hb hts hi2 hown hK hP 0 sl_aL rfl 5 (by decide) (hts _ mw_X2_askSequencer_2) (fun _ h9 => h9) rfl dX2_askSequencer_56 ?_
      refine lv_iconst (v := (1 : Int32)) hx hb dX2_askSequencer_59 (by decide) ?_
      refine lv_iadd hx hb dX2_askSequencer_60 ?_
      refine sl_putL hx hb hts hi2 hown hK hD hP hS 5 (by decide) (by decide) rfl (tyX2_ok 5 (by decide)) (hts _ mw_X2_askSequencer_2) dX2_askSequencer_61 (fun H locs hP hS => ?_)
      refine lv_iconst (v := (0 : Int32)) hx hb dX2_askSequencer_64 (by decide) ?_
      have e_q : (sp_X2_askSequencer σ i) = ((0 : Int32), (sl_up (sl_up (sl_up σ (3 + i) 6 (σ 0 5)) (3 + i) 5 (sp_X0_chainOf (sl_up σ (3 + i) 6 (σ 0 5)) i ((sl_up σ (3 + i) 6 (σ 0 5)) (3 + i) 6))) 0 5 (((sl_up (sl_up σ (3 + i) 6 (σ 0 5)) (3 + i) 5 (sp_X0_chainOf (sl_up σ (3 + i) 6 (σ 0 5)) i ((sl_up σ (3 + i) 6 (σ 0 5)) (3 + i) 6))) 0 5) + (1 : Int32)))) := by rw [sp_X2_askSequencer, if_pos c_1, if_pos c_2]
      exact sl_iret hx hb hr hlocks hP hS (by rw [e_q]) (by rw [e_q]) rfl dX2_askSequencer_65
    · refine lv_aload_n hx hb dX2_askSequencer_27 rfl (lv_at hl 1 rfl) ?_
      refine lv_iconst (v := (4 : Int32)) hx hb dX2_askSequencer_28 (by decide) ?_
      refine lv_iconst (v := (0 : Int32)) hx hb dX2_askSequencer_29 (by decide) ?_
      refine sl_nV (n := 2) (As := [.int (4 : Int32), .int (0 : Int32)]) (rest := []) ⟨hx, hb, hml, hown, hts⟩ (c_X0_end l G cy ad σ τ i hi (4 : Int32) (0 : Int32)) gX2_askSequencer_X0_end_n108 rfl rfl rfl (hN.m 6 rfl) (hts _ mw_X2_askSequencer_4) (hts _ mw_X2_askSequencer_3) (hts _ mw_X2_askSequencer_5) (by decide +kernel) ⟨Nat.le_of_ble_eq_true rfl, Nat.le_of_ble_eq_true rfl⟩ (va_recv hK hP (ci := 0) (q0 := 3 + i) rfl (sl_aC hi)) rfl hl.1 rfl (Nat.le_of_ble_eq_true rfl) dX2_askSequencer_30 ⟨Nat.zero_le _, Nat.zero_le _⟩ hK hN hD hP hS (fun H locs hP hS => ?_)
      refine W.eq (g2 := F0 m 33 ls [.int ((sp_X0_end σ i (4 : Int32) (0 : Int32)).1)]) rfl ?_
      have e_q : (sp_X2_askSequencer σ i) = (((sp_X0_end σ i (4 : Int32) (0 : Int32)).1), (sp_X0_end σ i (4 : Int32) (0 : Int32)).2) := by rw [sp_X2_askSequencer, if_pos c_1, if_neg c_2]
      exact sl_iret hx hb hr hlocks hP hS (by rw [e_q]) (by rw [e_q]) rfl dX2_askSequencer_33
  · refine lv_aload_n hx hb dX2_askSequencer_11 rfl (lv_at hl 1 rfl) ?_
    refine lv_iconst (v := (2 : Int32)) hx hb dX2_askSequencer_12 (by decide) ?_
    refine lv_iconst (v := (0 : Int32)) hx hb dX2_askSequencer_13 (by decide) ?_
    refine sl_nV (n := 2) (As := [.int (2 : Int32), .int (0 : Int32)]) (rest := []) ⟨hx, hb, hml, hown, hts⟩ (c_X0_end l G cy ad σ τ i hi (2 : Int32) (0 : Int32)) gX2_askSequencer_X0_end_n108 rfl rfl rfl (hN.m 6 rfl) (hts _ mw_X2_askSequencer_4) (hts _ mw_X2_askSequencer_3) (hts _ mw_X2_askSequencer_5) (by decide +kernel) ⟨Nat.le_of_ble_eq_true rfl, Nat.le_of_ble_eq_true rfl⟩ (va_recv hK hP (ci := 0) (q0 := 3 + i) rfl (sl_aC hi)) rfl hl.1 rfl (Nat.le_of_ble_eq_true rfl) dX2_askSequencer_14 ⟨Nat.zero_le _, Nat.zero_le _⟩ hK hN hD hP hS (fun H locs hP hS => ?_)
    refine W.eq (g2 := F0 m 17 ls [.int ((sp_X0_end σ i (2 : Int32) (0 : Int32)).1)]) rfl ?_
    have e_q : (sp_X2_askSequencer σ i) = (((sp_X0_end σ i (2 : Int32) (0 : Int32)).1), (sp_X0_end σ i (2 : Int32) (0 : Int32)).2) := by rw [sp_X2_askSequencer, if_neg c_1]
    exact sl_iret hx hb hr hlocks hP hS (by rw [e_q]) (by rw [e_q]) rfl dX2_askSequencer_17
def sp_X2_askStore (σ : sl_M) (i : Nat) : Int32 × sl_M := 
  if (σ 0 2) = (σ (3 + i) 0) then (((sp_X0_end (sp_X2_takeStoreProjection (sl_up (sl_up (sl_up (sl_up σ 0 2 ((σ (3 + i) 0) + (1 : Int32))) 0 3 ((sl_up σ 0 2 ((σ (3 + i) 0) + (1 : Int32))) (3 + i) 10)) 0 4 ((sl_up (sl_up σ 0 2 ((σ (3 + i) 0) + (1 : Int32))) 0 3 ((sl_up σ 0 2 ((σ (3 + i) 0) + (1 : Int32))) (3 + i) 10)) 0 2)) 0 5 ((sl_up (sl_up (sl_up σ 0 2 ((σ (3 + i) 0) + (1 : Int32))) 0 3 ((sl_up σ 0 2 ((σ (3 + i) 0) + (1 : Int32))) (3 + i) 10)) 0 4 ((sl_up (sl_up σ 0 2 ((σ (3 + i) 0) + (1 : Int32))) 0 3 ((sl_up σ 0 2 ((σ (3 + i) 0) + (1 : Int32))) (3 + i) 10)) 0 2)) (3 + i) 11)) i) i (1 : Int32) ((sp_X2_takeStoreProjection (sl_up (sl_up (sl_up (sl_up σ 0 2 ((σ (3 + i) 0) + (1 : Int32))) 0 3 ((sl_up σ 0 2 ((σ (3 + i) 0) + (1 : Int32))) (3 + i) 10)) 0 4 ((sl_up (sl_up σ 0 2 ((σ (3 + i) 0) + (1 : Int32))) 0 3 ((sl_up σ 0 2 ((σ (3 + i) 0) + (1 : Int32))) (3 + i) 10)) 0 2)) 0 5 ((sl_up (sl_up (sl_up σ 0 2 ((σ (3 + i) 0) + (1 : Int32))) 0 3 ((sl_up σ 0 2 ((σ (3 + i) 0) + (1 : Int32))) (3 + i) 10)) 0 4 ((sl_up (sl_up σ 0 2 ((σ (3 + i) 0) + (1 : Int32))) 0 3 ((sl_up σ 0 2 ((σ (3 + i) 0) + (1 : Int32))) (3 + i) 10)) 0 2)) (3 + i) 11)) i) 0 2)).1), (sp_X0_end (sp_X2_takeStoreProjection (sl_up (sl_up (sl_up (sl_up σ 0 2 ((σ (3 + i) 0) + (1 : Int32))) 0 3 ((sl_up σ 0 2 ((σ (3 + i) 0) + (1 : Int32))) (3 + i) 10)) 0 4 ((sl_up (sl_up σ 0 2 ((σ (3 + i) 0) + (1 : Int32))) 0 3 ((sl_up σ 0 2 ((σ (3 + i) 0) + (1 : Int32))) (3 + i) 10)) 0 2)) 0 5 ((sl_up (sl_up (sl_up σ 0 2 ((σ (3 + i) 0) + (1 : Int32))) 0 3 ((sl_up σ 0 2 ((σ (3 + i) 0) + (1 : Int32))) (3 + i) 10)) 0 4 ((sl_up (sl_up σ 0 2 ((σ (3 + i) 0) + (1 : Int32))) 0 3 ((sl_up σ 0 2 ((σ (3 + i) 0) + (1 : Int32))) (3 + i) 10)) 0 2)) (3 + i) 11)) i) i (1 : Int32) ((sp_X2_takeStoreProjection (sl_up (sl_up (sl_up (sl_up σ 0 2 ((σ (3 + i) 0) + (1 : Int32))) 0 3 ((sl_up σ 0 2 ((σ (3 + i) 0) + (1 : Int32))) (3 + i) 10)) 0 4 ((sl_up (sl_up σ 0 2 ((σ (3 + i) 0) + (1 : Int32))) 0 3 ((sl_up σ 0 2 ((σ (3 + i) 0) + (1 : Int32))) (3 + i) 10)) 0 2)) 0 5 ((sl_up (sl_up (sl_up σ 0 2 ((σ (3 + i) 0) + (1 : Int32))) 0 3 ((sl_up σ 0 2 ((σ (3 + i) 0) + (1 : Int32))) (3 + i) 10)) 0 4 ((sl_up (sl_up σ 0 2 ((σ (3 + i) 0) + (1 : Int32))) 0 3 ((sl_up σ 0 2 ((σ (3 + i) 0) + (1 : Int32))) (3 + i) 10)) 0 2)) (3 + i) 11)) i) 0 2)).2)
  else (((sp_X0_end σ i (5 : Int32) (σ 0 2)).1), (sp_X0_end σ i (5 : Int32) (σ 0 2)).2)
set_option maxHeartbeats 4000000 in
set_option maxRecDepth 100000 in
theorem c_X2_askStore (l : Launch) (G : va_G) (cy : Nat → ClassId) (ad : Nat → Nat) (σ τ : sl_M) (i : Nat) (hi : i < 3) : sl_C l G cy ad yX2_askStore wsX2_askStore ({ frames := 1, cells := 0, slots := 0, locals := 22 }) [.ref (ad (0)), .ref (ad (3 + i))] σ τ (some (.int (sp_X2_askStore σ i).1)) (sp_X2_askStore σ i).2 τ := by
  refine sl_of (cc := cX2_askStore) (maxL := 2) (ret := (some .int)) (by decide) rfl (Nat.le_of_ble_eq_true rfl) ?_
  intro p e s m below meth c hx hb hr hml hts hown hlocks hK hN hD hP hS ls hl
  have hown : s.vm.findClass RX2 = some m.cls := hown
  have hl : lv_has ls 2 [(0, .ref (ad (0))), (1, .ref (ad (3 + i)))] := hl
  have hi0 : ∀ w ∈ wsX00, w ∈ wsX2_askStore := fun _ h => (List.mem_cons_of_mem _ (List.mem_append_right _ h))
  have hi2 : ∀ w ∈ wsX20, w ∈ wsX2_askStore := fun _ h => (List.mem_cons_of_mem _ (List.mem_append_left _ (List.mem_append_right _ h)))
  refine lv_aload_n hx hb dX2_askStore_0 rfl (lv_at hl 0 rfl) ?_
  refine va_get (D := G) (ci := 2) (v := .int (σ 0 2)) (C := RX2) (T := TX2) (N := 6) hx hb hts hi2 hown hK hP 0 sl_aL rfl 2 (by decide) (hts _ mw_X2_askStore_1) (fun _ h9 => h9) rfl dX2_askStore_1 ?_
  refine lv_aload_n hx hb dX2_askStore_4 rfl (lv_at hl 1 rfl) ?_
  refine va_getN (D := G) (ci := 0) (v := .int (σ (3 + i) 0)) (C := RX0) (T := TX0) (N := 12) hx hb hts hi0 hown hK hP (3 + i) (sl_aC hi) rfl 0 (by decide) (hN.f 11 rfl) (fun _ h9 => h9) rfl dX2_askStore_5 ?_
  refine lv_icmp_eq (tgt := 21) hx hb dX2_askStore_8 (by decide) (fun c_1 => ?_) (fun c_1 => ?_)
  · refine lv_aload_n hx hb dX2_askStore_21 rfl (lv_at hl 0 rfl) ?_
    refine lv_aload_n hx hb dX2_askStore_22 rfl (lv_at hl 1 rfl) ?_
    refine va_getN (D := G) (ci := 0) (v := .int (σ (3 + i) 0)) (C := RX0) (T := TX0) (N := 12) hx hb hts hi0 hown hK hP (3 + i) (sl_aC hi) rfl 0 (by decide) (hN.f 11 rfl) (fun _ h9 => h9) rfl dX2_askStore_23 ?_
    refine lv_iconst (v := (1 : Int32)) hx hb dX2_askStore_26 (by decide) ?_
    refine lv_iadd hx hb dX2_askStore_27 ?_
    refine sl_putL hx hb hts hi2 hown hK hD hP hS 2 (by decide) (by decide) rfl (tyX2_ok 2 (by decide)) (hts _ mw_X2_askStore_1) dX2_askStore_28 (fun H locs hP hS => ?_)
    refine lv_aload_n hx hb dX2_askStore_31 rfl (lv_at hl 0 rfl) ?_
    refine lv_aload_n hx hb dX2_askStore_32 rfl (lv_at hl 1 rfl) ?_
    refine va_getN (D := G) (ci := 0) (v := .int ((sl_up σ 0 2 ((σ (3 + i) 0) + (1 : Int32))) (3 + i) 10)) (C := RX0) (T := TX0) (N := 12) hx hb hts hi0 hown hK hP (3 + i) (sl_aC hi) rfl 10 (by decide) (hN.f 6 rfl) (fun _ h9 => h9) rfl dX2_askStore_33 ?_
    refine sl_putL hx hb hts hi2 hown hK hD hP hS 3 (by decide) (by decide) rfl (tyX2_ok 3 (by decide)) (hts _ mw_X2_askStore_2) dX2_askStore_36 (fun H locs hP hS => ?_)
    refine lv_aload_n hx hb dX2_askStore_39 rfl (lv_at hl 0 rfl) ?_
    refine lv_aload_n hx hb dX2_askStore_40 rfl (lv_at hl 0 rfl) ?_
    refine va_get (D := G) (ci := 2) (v := .int ((sl_up (sl_up σ 0 2 ((σ (3 + i) 0) + (1 : Int32))) 0 3 ((sl_up σ 0 2 ((σ (3 + i) 0) + (1 : Int32))) (3 + i) 10)) 0 2)) (C := RX2) (T := TX2) (N := 6) hx hb hts hi2 hown hK hP 0 sl_aL rfl 2 (by decide) (hts _ mw_X2_askStore_1) (fun _ h9 => h9) rfl dX2_askStore_41 ?_
    refine sl_putL hx hb hts hi2 hown hK hD hP hS 4 (by decide) (by decide) rfl (tyX2_ok 4 (by decide)) (hts _ mw_X2_askStore_3) dX2_askStore_44 (fun H locs hP hS => ?_)
    refine lv_aload_n hx hb dX2_askStore_47 rfl (lv_at hl 0 rfl) ?_
    refine lv_aload_n hx hb dX2_askStore_48 rfl (lv_at hl 1 rfl) ?_
    refine va_getN (D := G) (ci := 0) (v := .int ((sl_up (sl_up (sl_up σ 0 2 ((σ (3 + i) 0) + (1 : Int32))) 0 3 ((sl_up σ 0 2 ((σ (3 + i) 0) + (1 : Int32))) (3 + i) 10)) 0 4 ((sl_up (sl_up σ 0 2 ((σ (3 + i) 0) + (1 : Int32))) 0 3 ((sl_up σ 0 2 ((σ (3 + i) 0) + (1 : Int32))) (3 + i) 10)) 0 2)) (3 + i) 11)) (C := RX0) (T := TX0) (N := 12) hx hb hts hi0 hown hK hP (3 + i) (sl_aC hi) rfl 11 (by decide) (hN.f 7 rfl) (fun _ h9 => h9) rfl dX2_askStore_49 ?_
    refine sl_putL hx hb hts hi2 hown hK hD hP hS 5 (by decide) (by decide) rfl (tyX2_ok 5 (by decide)) (hts _ mw_X2_askStore_4) dX2_askStore_52 (fun H locs hP hS => ?_)
    refine lv_aload_n hx hb dX2_askStore_55 rfl (lv_at hl 0 rfl) ?_
    refine lv_aload_n hx hb dX2_askStore_56 rfl (lv_at hl 1 rfl) ?_
    refine sl_cV (n := 1) (As := [.ref (ad (3 + i))]) (rest := []) ⟨hx, hb, hml, hown, hts⟩ (c_X2_takeStoreProjection l G cy ad (sl_up (sl_up (sl_up (sl_up σ 0 2 ((σ (3 + i) 0) + (1 : Int32))) 0 3 ((sl_up σ 0 2 ((σ (3 + i) 0) + (1 : Int32))) (3 + i) 10)) 0 4 ((sl_up (sl_up σ 0 2 ((σ (3 + i) 0) + (1 : Int32))) 0 3 ((sl_up σ 0 2 ((σ (3 + i) 0) + (1 : Int32))) (3 + i) 10)) 0 2)) 0 5 ((sl_up (sl_up (sl_up σ 0 2 ((σ (3 + i) 0) + (1 : Int32))) 0 3 ((sl_up σ 0 2 ((σ (3 + i) 0) + (1 : Int32))) (3 + i) 10)) 0 4 ((sl_up (sl_up σ 0 2 ((σ (3 + i) 0) + (1 : Int32))) 0 3 ((sl_up σ 0 2 ((σ (3 + i) 0) + (1 : Int32))) (3 + i) 10)) 0 2)) (3 + i) 11)) τ i hi) gX2_askStore_X2_takeStoreProjection rfl rfl rfl (by decide +kernel) ⟨Nat.le_of_ble_eq_true rfl, Nat.le_of_ble_eq_true rfl⟩ (va_recv hK hP (ci := 2) (q0 := 0) rfl sl_aL) rfl hl.1 rfl (Nat.le_of_ble_eq_true rfl) dX2_askStore_57 ⟨Nat.zero_le _, Nat.zero_le _⟩ hK hN hD hP hS (fun H locs hP hS => ?_)
    refine W.eq (g2 := F0 m 60 ls []) rfl ?_
    refine lv_aload_n hx hb dX2_askStore_60 rfl (lv_at hl 1 rfl) ?_
    refine lv_iconst (v := (1 : Int32)) hx hb dX2_askStore_61 (by decide) ?_
    refine lv_aload_n hx hb dX2_askStore_62 rfl (lv_at hl 0 rfl) ?_
    refine va_get (D := G) (ci := 2) (v := .int ((sp_X2_takeStoreProjection (sl_up (sl_up (sl_up (sl_up σ 0 2 ((σ (3 + i) 0) + (1 : Int32))) 0 3 ((sl_up σ 0 2 ((σ (3 + i) 0) + (1 : Int32))) (3 + i) 10)) 0 4 ((sl_up (sl_up σ 0 2 ((σ (3 + i) 0) + (1 : Int32))) 0 3 ((sl_up σ 0 2 ((σ (3 + i) 0) + (1 : Int32))) (3 + i) 10)) 0 2)) 0 5 ((sl_up (sl_up (sl_up σ 0 2 ((σ (3 + i) 0) + (1 : Int32))) 0 3 ((sl_up σ 0 2 ((σ (3 + i) 0) + (1 : Int32))) (3 + i) 10)) 0 4 ((sl_up (sl_up σ 0 2 ((σ (3 + i) 0) + (1 : Int32))) 0 3 ((sl_up σ 0 2 ((σ (3 + i) 0) + (1 : Int32))) (3 + i) 10)) 0 2)) (3 + i) 11)) i) 0 2)) (C := RX2) (T := TX2) (N := 6) hx hb hts hi2 hown hK hP 0 sl_aL rfl 2 (by decide) (hts _ mw_X2_askStore_1) (fun _ h9 => h9) rfl dX2_askStore_63 ?_
    refine sl_nV (n := 2) (As := [.int (1 : Int32), .int ((sp_X2_takeStoreProjection (sl_up (sl_up (sl_up (sl_up σ 0 2 ((σ (3 + i) 0) + (1 : Int32))) 0 3 ((sl_up σ 0 2 ((σ (3 + i) 0) + (1 : Int32))) (3 + i) 10)) 0 4 ((sl_up (sl_up σ 0 2 ((σ (3 + i) 0) + (1 : Int32))) 0 3 ((sl_up σ 0 2 ((σ (3 + i) 0) + (1 : Int32))) (3 + i) 10)) 0 2)) 0 5 ((sl_up (sl_up (sl_up σ 0 2 ((σ (3 + i) 0) + (1 : Int32))) 0 3 ((sl_up σ 0 2 ((σ (3 + i) 0) + (1 : Int32))) (3 + i) 10)) 0 4 ((sl_up (sl_up σ 0 2 ((σ (3 + i) 0) + (1 : Int32))) 0 3 ((sl_up σ 0 2 ((σ (3 + i) 0) + (1 : Int32))) (3 + i) 10)) 0 2)) (3 + i) 11)) i) 0 2)]) (rest := []) ⟨hx, hb, hml, hown, hts⟩ (c_X0_end l G cy ad (sp_X2_takeStoreProjection (sl_up (sl_up (sl_up (sl_up σ 0 2 ((σ (3 + i) 0) + (1 : Int32))) 0 3 ((sl_up σ 0 2 ((σ (3 + i) 0) + (1 : Int32))) (3 + i) 10)) 0 4 ((sl_up (sl_up σ 0 2 ((σ (3 + i) 0) + (1 : Int32))) 0 3 ((sl_up σ 0 2 ((σ (3 + i) 0) + (1 : Int32))) (3 + i) 10)) 0 2)) 0 5 ((sl_up (sl_up (sl_up σ 0 2 ((σ (3 + i) 0) + (1 : Int32))) 0 3 ((sl_up σ 0 2 ((σ (3 + i) 0) + (1 : Int32))) (3 + i) 10)) 0 4 ((sl_up (sl_up σ 0 2 ((σ (3 + i) 0) + (1 : Int32))) 0 3 ((sl_up σ 0 2 ((σ (3 + i) 0) + (1 : Int32))) (3 + i) 10)) 0 2)) (3 + i) 11)) i) τ i hi (1 : Int32) ((sp_X2_takeStoreProjection (sl_up (sl_up (sl_up (sl_up σ 0 2 ((σ (3 + i) 0) + (1 : Int32))) 0 3 ((sl_up σ 0 2 ((σ (3 + i) 0) + (1 : Int32))) (3 + i) 10)) 0 4 ((sl_up (sl_up σ 0 2 ((σ (3 + i) 0) + (1 : Int32))) 0 3 ((sl_up σ 0 2 ((σ (3 + i) 0) + (1 : Int32))) (3 + i) 10)) 0 2)) 0 5 ((sl_up (sl_up (sl_up σ 0 2 ((σ (3 + i) 0) + (1 : Int32))) 0 3 ((sl_up σ 0 2 ((σ (3 + i) 0) + (1 : Int32))) (3 + i) 10)) 0 4 ((sl_up (sl_up σ 0 2 ((σ (3 + i) 0) + (1 : Int32))) 0 3 ((sl_up σ 0 2 ((σ (3 + i) 0) + (1 : Int32))) (3 + i) 10)) 0 2)) (3 + i) 11)) i) 0 2)) gX2_askStore_X0_end_n108 rfl rfl rfl (hN.m 6 rfl) (hts _ mw_X2_askStore_6) (hts _ mw_X2_askStore_5) (hts _ mw_X2_askStore_7) (by decide +kernel) ⟨Nat.le_of_ble_eq_true rfl, Nat.le_of_ble_eq_true rfl⟩ (va_recv hK hP (ci := 0) (q0 := 3 + i) rfl (sl_aC hi)) rfl hl.1 rfl (Nat.le_of_ble_eq_true rfl) dX2_askStore_66 ⟨Nat.zero_le _, Nat.zero_le _⟩ hK hN hD hP hS (fun H locs hP hS => ?_)
    refine W.eq (g2 := F0 m 69 ls [.int ((sp_X0_end (sp_X2_takeStoreProjection (sl_up (sl_up (sl_up (sl_up σ 0 2 ((σ (3 + i) 0) + (1 : Int32))) 0 3 ((sl_up σ 0 2 ((σ (3 + i) 0) + (1 : Int32))) (3 + i) 10)) 0 4 ((sl_up (sl_up σ 0 2 ((σ (3 + i) 0) + (1 : Int32))) 0 3 ((sl_up σ 0 2 ((σ (3 + i) 0) + (1 : Int32))) (3 + i) 10)) 0 2)) 0 5 ((sl_up (sl_up (sl_up σ 0 2 ((σ (3 + i) 0) + (1 : Int32))) 0 3 ((sl_up σ 0 2 ((σ (3 + i) 0) + (1 : Int32))) (3 + i) 10)) 0 4 ((sl_up (sl_up σ 0 2 ((σ (3 + i) 0) + (1 : Int32))) 0 3 ((sl_up σ 0 2 ((σ (3 + i) 0) + (1 : Int32))) (3 + i) 10)) 0 2)) (3 + i) 11)) i) i (1 : Int32) ((sp_X2_takeStoreProjection (sl_up (sl_up (sl_up (sl_up σ 0 2 ((σ (3 + i) 0) + (1 : Int32))) 0 3 ((sl_up σ 0 2 ((σ (3 + i) 0) + (1 : Int32))) (3 + i) 10)) 0 4 ((sl_up (sl_up σ 0 2 ((σ (3 + i) 0) + (1 : Int32))) 0 3 ((sl_up σ 0 2 ((σ (3 + i) 0) + (1 : Int32))) (3 + i) 10)) 0 2)) 0 5 ((sl_up (sl_up (sl_up σ 0 2 ((σ (3 + i) 0) + (1 : Int32))) 0 3 ((sl_up σ 0 2 ((σ (3 + i) 0) + (1 : Int32))) (3 + i) 10)) 0 4 ((sl_up (sl_up σ 0 2 ((σ (3 + i) 0) + (1 : Int32))) 0 3 ((sl_up σ 0 2 ((σ (3 + i) 0) + (1 : Int32))) (3 + i) 10)) 0 2)) (3 + i) 11)) i) 0 2)).1)]) rfl ?_
    have e_q : (sp_X2_askStore σ i) = (((sp_X0_end (sp_X2_takeStoreProjection (sl_up (sl_up (sl_up (sl_up σ 0 2 ((σ (3 + i) 0) + (1 : Int32))) 0 3 ((sl_up σ 0 2 ((σ (3 + i) 0) + (1 : Int32))) (3 + i) 10)) 0 4 ((sl_up (sl_up σ 0 2 ((σ (3 + i) 0) + (1 : Int32))) 0 3 ((sl_up σ 0 2 ((σ (3 + i) 0) + (1 : Int32))) (3 + i) 10)) 0 2)) 0 5 ((sl_up (sl_up (sl_up σ 0 2 ((σ (3 + i) 0) + (1 : Int32))) 0 3 ((sl_up σ 0 2 ((σ (3 + i) 0) + (1 : Int32))) (3 + i) 10)) 0 4 ((sl_up (sl_up σ 0 2 ((σ (3 + i) 0) + (1 : Int32))) 0 3 ((sl_up σ 0 2 ((σ (3 + i) 0) + (1 : Int32))) (3 + i) 10)) 0 2)) (3 + i) 11)) i) i (1 : Int32) ((sp_X2_takeStoreProjection (sl_up (sl_up (sl_up (sl_up σ 0 2 ((σ (3 + i) 0) + (1 : Int32))) 0 3 ((sl_up σ 0 2 ((σ (3 + i) 0) + (1 : Int32))) (3 + i) 10)) 0 4 ((sl_up (sl_up σ 0 2 ((σ (3 + i) 0) + (1 : Int32))) 0 3 ((sl_up σ 0 2 ((σ (3 + i) 0) + (1 : Int32))) (3 + i) 10)) 0 2)) 0 5 ((sl_up (sl_up (sl_up σ 0 2 ((σ (3 + i) 0) + (1 : Int32))) 0 3 ((sl_up σ 0 2 ((σ (3 + i) 0) + (1 : Int32))) (3 + i) 10)) 0 4 ((sl_up (sl_up σ 0 2 ((σ (3 + i) 0) + (1 : Int32))) 0 3 ((sl_up σ 0 2 ((σ (3 + i) 0) + (1 : Int32))) (3 + i) 10)) 0 2)) (3 + i) 11)) i) 0 2)).1), (sp_X0_end (sp_X2_takeStoreProjection (sl_up (sl_up (sl_up (sl_up σ 0 2 ((σ (3 + i) 0) + (1 : Int32))) 0 3 ((sl_up σ 0 2 ((σ (3 + i) 0) + (1 : Int32))) (3 + i) 10)) 0 4 ((sl_up (sl_up σ 0 2 ((σ (3 + i) 0) + (1 : Int32))) 0 3 ((sl_up σ 0 2 ((σ (3 + i) 0) + (1 : Int32))) (3 + i) 10)) 0 2)) 0 5 ((sl_up (sl_up (sl_up σ 0 2 ((σ (3 + i) 0) + (1 : Int32))) 0 3 ((sl_up σ 0 2 ((σ (3 + i) 0) + (1 : Int32))) (3 + i) 10)) 0 4 ((sl_up (sl_up σ 0 2 ((σ (3 + i) 0) + (1 : Int32))) 0 3 ((sl_up σ 0 2 ((σ (3 + i) 0) + (1 : Int32))) (3 + i) 10)) 0 2)) (3 + i) 11)) i) i (1 : Int32) ((sp_X2_takeStoreProjection (sl_up (sl_up (sl_up (sl_up σ 0 2 ((σ (3 + i) 0) + (1 : Int32))) 0 3 ((sl_up σ 0 2 ((σ (3 + i) 0) + (1 : Int32))) (3 + i) 10)) 0 4 ((sl_up (sl_up σ 0 2 ((σ (3 + i) 0) + (1 : Int32))) 0 3 ((sl_up σ 0 2 ((σ (3 + i) 0) + (1 : Int32))) (3 + i) 10)) 0 2)) 0 5 ((sl_up (sl_up (sl_up σ 0 2 ((σ (3 + i) 0) + (1 : Int32))) 0 3 ((sl_up σ 0 2 ((σ (3 + i) 0) + (1 : Int32))) (3 + i) 10)) 0 4 ((sl_up (sl_up σ 0 2 ((σ (3 + i) 0) + (1 : Int32))) 0 3 ((sl_up σ 0 2 ((σ (3 + i) 0) + (1 : Int32))) (3 + i) 10)) 0 2)) (3 + i) 11)) i) 0 2)).2) := by rw [sp_X2_askStore, if_pos c_1]
    exact sl_iret hx hb hr hlocks hP hS (by rw [e_q]) (by rw [e_q]) rfl dX2_askStore_69
  · refine lv_aload_n hx hb dX2_askStore_11 rfl (lv_at hl 1 rfl) ?_
    refine lv_iconst (v := (5 : Int32)) hx hb dX2_askStore_12 (by decide) ?_
    refine lv_aload_n hx hb dX2_askStore_13 rfl (lv_at hl 0 rfl) ?_
    refine va_get (D := G) (ci := 2) (v := .int (σ 0 2)) (C := RX2) (T := TX2) (N := 6) hx hb hts hi2 hown hK hP 0 sl_aL rfl 2 (by decide) (hts _ mw_X2_askStore_1) (fun _ h9 => h9) rfl dX2_askStore_14 ?_
    refine sl_nV (n := 2) (As := [.int (5 : Int32), .int (σ 0 2)]) (rest := []) ⟨hx, hb, hml, hown, hts⟩ (c_X0_end l G cy ad σ τ i hi (5 : Int32) (σ 0 2)) gX2_askStore_X0_end_n108 rfl rfl rfl (hN.m 6 rfl) (hts _ mw_X2_askStore_6) (hts _ mw_X2_askStore_5) (hts _ mw_X2_askStore_7) (by decide +kernel) ⟨Nat.le_of_ble_eq_true rfl, Nat.le_of_ble_eq_true rfl⟩ (va_recv hK hP (ci := 0) (q0 := 3 + i) rfl (sl_aC hi)) rfl hl.1 rfl (Nat.le_of_ble_eq_true rfl) dX2_askStore_17 ⟨Nat.zero_le _, Nat.zero_le _⟩ hK hN hD hP hS (fun H locs hP hS => ?_)
    refine W.eq (g2 := F0 m 20 ls [.int ((sp_X0_end σ i (5 : Int32) (σ 0 2)).1)]) rfl ?_
    have e_q : (sp_X2_askStore σ i) = (((sp_X0_end σ i (5 : Int32) (σ 0 2)).1), (sp_X0_end σ i (5 : Int32) (σ 0 2)).2) := by rw [sp_X2_askStore, if_neg c_1]
    exact sl_iret hx hb hr hlocks hP hS (by rw [e_q]) (by rw [e_q]) rfl dX2_askStore_20
def sp_X2_stepWithoutUnit (σ : sl_M) (i : Nat) : Int32 × sl_M := 
  if (σ (3 + i) 2) = (1 : Int32) then (((sp_X2_askSequencer σ i).1), (sp_X2_askSequencer σ i).2)
  else if (σ (3 + i) 2) = (4 : Int32) then (((sp_X0_end σ i (1 : Int32) (σ (3 + i) 9)).1), (sp_X0_end σ i (1 : Int32) (σ (3 + i) 9)).2)
  else (((sp_X2_askStore σ i).1), (sp_X2_askStore σ i).2)
set_option maxHeartbeats 4000000 in
set_option maxRecDepth 100000 in
theorem c_X2_stepWithoutUnit (l : Launch) (G : va_G) (cy : Nat → ClassId) (ad : Nat → Nat) (σ τ : sl_M) (i : Nat) (hi : i < 3) : sl_C l G cy ad yX2_stepWithoutUnit wsX2_stepWithoutUnit ({ frames := 2, cells := 0, slots := 0, locals := 43 }) [.ref (ad (0)), .ref (ad (3 + i))] σ τ (some (.int (sp_X2_stepWithoutUnit σ i).1)) (sp_X2_stepWithoutUnit σ i).2 τ := by
  refine sl_of (cc := cX2_stepWithoutUnit) (maxL := 2) (ret := (some .int)) (by decide) rfl (Nat.le_of_ble_eq_true rfl) ?_
  intro p e s m below meth c hx hb hr hml hts hown hlocks hK hN hD hP hS ls hl
  have hown : s.vm.findClass RX2 = some m.cls := hown
  have hl : lv_has ls 2 [(0, .ref (ad (0))), (1, .ref (ad (3 + i)))] := hl
  have hi0 : ∀ w ∈ wsX00, w ∈ wsX2_stepWithoutUnit := fun _ h => (List.mem_cons_of_mem _ (List.mem_append_left _ (List.mem_append_right _ h)))
  refine lv_aload_n hx hb dX2_stepWithoutUnit_0 rfl (lv_at hl 1 rfl) ?_
  refine va_getN (D := G) (ci := 0) (v := .int (σ (3 + i) 2)) (C := RX0) (T := TX0) (N := 12) hx hb hts hi0 hown hK hP (3 + i) (sl_aC hi) rfl 2 (by decide) (hN.f 0 rfl) (fun _ h9 => h9) rfl dX2_stepWithoutUnit_1 ?_
  by_cases c_1 : (σ (3 + i) 2) = (1 : Int32)
  · refine lv_lookup (off := 28) (tgt := 32) hx hb dX2_stepWithoutUnit_4 (by decide) (by rw [c_1]; decide) (by decide) ?_
    refine lv_aload_n hx hb dX2_stepWithoutUnit_32 rfl (lv_at hl 0 rfl) ?_
    refine lv_aload_n hx hb dX2_stepWithoutUnit_33 rfl (lv_at hl 1 rfl) ?_
    refine sl_cV (n := 1) (As := [.ref (ad (3 + i))]) (rest := []) ⟨hx, hb, hml, hown, hts⟩ (c_X2_askSequencer l G cy ad σ τ i hi) gX2_stepWithoutUnit_X2_askSequencer rfl rfl rfl (by decide +kernel) ⟨Nat.le_of_ble_eq_true rfl, Nat.le_of_ble_eq_true rfl⟩ (va_recv hK hP (ci := 2) (q0 := 0) rfl sl_aL) rfl hl.1 rfl (Nat.le_of_ble_eq_true rfl) dX2_stepWithoutUnit_34 ⟨Nat.zero_le _, Nat.zero_le _⟩ hK hN hD hP hS (fun H locs hP hS => ?_)
    refine W.eq (g2 := F0 m 37 ls [.int ((sp_X2_askSequencer σ i).1)]) rfl ?_
    have e_q : (sp_X2_stepWithoutUnit σ i) = (((sp_X2_askSequencer σ i).1), (sp_X2_askSequencer σ i).2) := by rw [sp_X2_stepWithoutUnit, if_pos c_1]
    exact sl_iret hx hb hr hlocks hP hS (by rw [e_q]) (by rw [e_q]) rfl dX2_stepWithoutUnit_37
  · by_cases c_2 : (σ (3 + i) 2) = (4 : Int32)
    · refine lv_lookup (off := 34) (tgt := 38) hx hb dX2_stepWithoutUnit_4 (by decide) (by rw [c_2]; decide) (by decide) ?_
      refine lv_aload_n hx hb dX2_stepWithoutUnit_38 rfl (lv_at hl 1 rfl) ?_
      refine lv_iconst (v := (1 : Int32)) hx hb dX2_stepWithoutUnit_39 (by decide) ?_
      refine lv_aload_n hx hb dX2_stepWithoutUnit_40 rfl (lv_at hl 1 rfl) ?_
      refine va_getN (D := G) (ci := 0) (v := .int (σ (3 + i) 9)) (C := RX0) (T := TX0) (N := 12) hx hb hts hi0 hown hK hP (3 + i) (sl_aC hi) rfl 9 (by decide) (hN.f 4 rfl) (fun _ h9 => h9) rfl dX2_stepWithoutUnit_41 ?_
      refine sl_nV (n := 2) (As := [.int (1 : Int32), .int (σ (3 + i) 9)]) (rest := []) ⟨hx, hb, hml, hown, hts⟩ (c_X0_end l G cy ad σ τ i hi (1 : Int32) (σ (3 + i) 9)) gX2_stepWithoutUnit_X0_end_n108 rfl rfl rfl (hN.m 6 rfl) (hts _ mw_X2_stepWithoutUnit_9) (hts _ mw_X2_stepWithoutUnit_8) (hts _ mw_X2_stepWithoutUnit_10) (by decide +kernel) ⟨Nat.le_of_ble_eq_true rfl, Nat.le_of_ble_eq_true rfl⟩ (va_recv hK hP (ci := 0) (q0 := 3 + i) rfl (sl_aC hi)) rfl hl.1 rfl (Nat.le_of_ble_eq_true rfl) dX2_stepWithoutUnit_44 ⟨Nat.zero_le _, Nat.zero_le _⟩ hK hN hD hP hS (fun H locs hP hS => ?_)
      refine W.eq (g2 := F0 m 47 ls [.int ((sp_X0_end σ i (1 : Int32) (σ (3 + i) 9)).1)]) rfl ?_
      have e_q : (sp_X2_stepWithoutUnit σ i) = (((sp_X0_end σ i (1 : Int32) (σ (3 + i) 9)).1), (sp_X0_end σ i (1 : Int32) (σ (3 + i) 9)).2) := by rw [sp_X2_stepWithoutUnit, if_neg c_1, if_pos c_2]
      exact sl_iret hx hb hr hlocks hP hS (by rw [e_q]) (by rw [e_q]) rfl dX2_stepWithoutUnit_47
    · refine lv_lookup (off := 44) (tgt := 48) hx hb dX2_stepWithoutUnit_4 (by decide) (by show Op.lookupswitch.offset [(1, 28), (4, 34)] _ _ = _; rw [lv_osw (a := 1) c_1 rfl, lv_osw (a := 4) c_2 rfl]; rfl) (by decide) ?_
      refine lv_aload_n hx hb dX2_stepWithoutUnit_48 rfl (lv_at hl 0 rfl) ?_
      refine lv_aload_n hx hb dX2_stepWithoutUnit_49 rfl (lv_at hl 1 rfl) ?_
      refine sl_cV (n := 1) (As := [.ref (ad (3 + i))]) (rest := []) ⟨hx, hb, hml, hown, hts⟩ (c_X2_askStore l G cy ad σ τ i hi) gX2_stepWithoutUnit_X2_askStore rfl rfl rfl (by decide +kernel) ⟨Nat.le_of_ble_eq_true rfl, Nat.le_of_ble_eq_true rfl⟩ (va_recv hK hP (ci := 2) (q0 := 0) rfl sl_aL) rfl hl.1 rfl (Nat.le_of_ble_eq_true rfl) dX2_stepWithoutUnit_50 ⟨Nat.zero_le _, Nat.zero_le _⟩ hK hN hD hP hS (fun H locs hP hS => ?_)
      refine W.eq (g2 := F0 m 53 ls [.int ((sp_X2_askStore σ i).1)]) rfl ?_
      have e_q : (sp_X2_stepWithoutUnit σ i) = (((sp_X2_askStore σ i).1), (sp_X2_askStore σ i).2) := by rw [sp_X2_stepWithoutUnit, if_neg c_1, if_neg c_2]
      exact sl_iret hx hb hr hlocks hP hS (by rw [e_q]) (by rw [e_q]) rfl dX2_stepWithoutUnit_53
def sp_X2_appendAt (σ : sl_M) (i : Nat) (j : Nat) : Int32 × sl_M := 
  if (sp_X1_contentAt σ j (σ (3 + i) 6)) = (-2 : Int32) then (((sp_X0_goAlongChain (sp_X1_writeOnce σ j (σ (3 + i) 6) (σ (3 + i) 7)) i ((sp_X1_writeOnce σ j (σ (3 + i) 6) (σ (3 + i) 7)) (3 + i) 6)).1), (sp_X0_goAlongChain (sp_X1_writeOnce σ j (σ (3 + i) 6) (σ (3 + i) 7)) i ((sp_X1_writeOnce σ j (σ (3 + i) 6) (σ (3 + i) 7)) (3 + i) 6)).2)
  else if (sp_X0_isAtHead σ i) = 0 then (((sp_X0_goAlongChain (sp_X1_writeOnce σ j (σ (3 + i) 6) (σ (3 + i) 7)) i ((sp_X1_writeOnce σ j (σ (3 + i) 6) (σ (3 + i) 7)) (3 + i) 6)).1), (sp_X0_goAlongChain (sp_X1_writeOnce σ j (σ (3 + i) 6) (σ (3 + i) 7)) i ((sp_X1_writeOnce σ j (σ (3 + i) 6) (σ (3 + i) 7)) (3 + i) 6)).2)
  else ((0 : Int32), (sl_up σ (3 + i) 5 (0 : Int32)))
set_option maxHeartbeats 4000000 in
set_option maxRecDepth 100000 in
theorem c_X2_appendAt (l : Launch) (G : va_G) (cy : Nat → ClassId) (ad : Nat → Nat) (σ τ : sl_M) (i : Nat) (hi : i < 3) (j : Nat) (hj : j < 6) : sl_C l G cy ad yX2_appendAt wsX2_appendAt ({ frames := 2, cells := 0, slots := 0, locals := 43 }) [.ref (ad (3 + i)), .ref (ad (6 + j))] σ τ (some (.int (sp_X2_appendAt σ i j).1)) (sp_X2_appendAt σ i j).2 τ := by
  refine sl_of (cc := cX2_appendAt) (maxL := 3) (ret := (some .int)) (by decide) rfl (Nat.le_of_ble_eq_true rfl) ?_
  intro p e s m below meth c hx hb hr hml hts hown hlocks hK hN hD hP hS ls hl
  have hown : s.vm.findClass RX2 = some m.cls := hown
  have hl : lv_has ls 3 [(0, .ref (ad (3 + i))), (1, .ref (ad (6 + j)))] := hl
  have hi0 : ∀ w ∈ wsX00, w ∈ wsX2_appendAt := fun _ h => (List.mem_cons_of_mem _ (List.mem_append_left _ (List.mem_append_right _ h)))
  refine lv_aload_n hx hb dX2_appendAt_0 rfl (lv_at hl 1 rfl) ?_
  refine lv_aload_n hx hb dX2_appendAt_1 rfl (lv_at hl 0 rfl) ?_
  refine va_getN (D := G) (ci := 0) (v := .int (σ (3 + i) 6)) (C := RX0) (T := TX0) (N := 12) hx hb hts hi0 hown hK hP (3 + i) (sl_aC hi) rfl 6 (by decide) (hN.f 2 rfl) (fun _ h9 => h9) rfl dX2_appendAt_2 ?_
  refine sl_nV (n := 1) (As := [.int (σ (3 + i) 6)]) (rest := []) ⟨hx, hb, hml, hown, hts⟩ (c_X1_contentAt l G cy ad σ τ j hj (σ (3 + i) 6)) gX2_appendAt_X1_contentAt_n126 rfl rfl rfl (hN.m 7 rfl) (hts _ mw_X2_appendAt_2) (hts _ mw_X2_appendAt_1) (hts _ mw_X2_appendAt_3) (by decide +kernel) ⟨Nat.le_of_ble_eq_true rfl, Nat.le_of_ble_eq_true rfl⟩ (va_recv hK hP (ci := 1) (q0 := 6 + j) rfl (sl_aU hj)) rfl hl.1 rfl (Nat.le_of_ble_eq_true rfl) dX2_appendAt_5 ⟨Nat.zero_le _, Nat.zero_le _⟩ hK hN hD hP hS (fun H locs hP hS => ?_)
  refine W.eq (g2 := F0 m 8 ls [.int (sp_X1_contentAt σ j (σ (3 + i) 6))]) rfl ?_
  refine lv_bipush (v := (-2 : Int32)) hx hb dX2_appendAt_8 (by decide) ?_
  refine lv_icmp_eq (tgt := 17) hx hb dX2_appendAt_10 (by decide) (fun c_1 => ?_) (fun c_1 => ?_)
  · refine lv_iconst (v := (0 : Int32)) hx hb dX2_appendAt_17 (by decide) ?_
    refine lv_istore_n (lv' := [(2, .int (0 : Int32)), (0, .ref (ad (3 + i))), (1, .ref (ad (6 + j)))]) hx hb dX2_appendAt_18 rfl hl (by decide) rfl (fun ls hl => ?_)
    refine lv_iload_n hx hb dX2_appendAt_19 rfl (lv_at hl 0 rfl) ?_
    refine lv_if_eq (tgt := 37) hx hb dX2_appendAt_20 (by decide) (fun _ => ?_) (fun h9 => absurd (by decide) h9)
    refine lv_aload_n hx hb dX2_appendAt_37 rfl (lv_at hl 2 rfl) ?_
    refine lv_aload_n hx hb dX2_appendAt_38 rfl (lv_at hl 1 rfl) ?_
    refine va_getN (D := G) (ci := 0) (v := .int (σ (3 + i) 6)) (C := RX0) (T := TX0) (N := 12) hx hb hts hi0 hown hK hP (3 + i) (sl_aC hi) rfl 6 (by decide) (hN.f 2 rfl) (fun _ h9 => h9) rfl dX2_appendAt_39 ?_
    refine lv_aload_n hx hb dX2_appendAt_42 rfl (lv_at hl 1 rfl) ?_
    refine va_getN (D := G) (ci := 0) (v := .int (σ (3 + i) 7)) (C := RX0) (T := TX0) (N := 12) hx hb hts hi0 hown hK hP (3 + i) (sl_aC hi) rfl 7 (by decide) (hN.f 1 rfl) (fun _ h9 => h9) rfl dX2_appendAt_43 ?_
    refine sl_nV (n := 2) (As := [.int (σ (3 + i) 6), .int (σ (3 + i) 7)]) (rest := []) ⟨hx, hb, hml, hown, hts⟩ (c_X1_writeOnce l G cy ad σ τ j hj (σ (3 + i) 6) (σ (3 + i) 7)) gX2_appendAt_X1_writeOnce_n154 rfl rfl rfl (hN.m 9 rfl) (hts _ mw_X2_appendAt_2) (hts _ mw_X2_appendAt_20) (hts _ mw_X2_appendAt_21) (by decide +kernel) ⟨Nat.le_of_ble_eq_true rfl, Nat.le_of_ble_eq_true rfl⟩ (va_recv hK hP (ci := 1) (q0 := 6 + j) rfl (sl_aU hj)) rfl hl.1 rfl (Nat.le_of_ble_eq_true rfl) dX2_appendAt_46 ⟨Nat.zero_le _, Nat.zero_le _⟩ hK hN hD hP hS (fun H locs hP hS => ?_)
    refine W.eq (g2 := F0 m 49 ls []) rfl ?_
    refine lv_aload_n hx hb dX2_appendAt_49 rfl (lv_at hl 1 rfl) ?_
    refine lv_aload_n hx hb dX2_appendAt_50 rfl (lv_at hl 1 rfl) ?_
    refine va_getN (D := G) (ci := 0) (v := .int ((sp_X1_writeOnce σ j (σ (3 + i) 6) (σ (3 + i) 7)) (3 + i) 6)) (C := RX0) (T := TX0) (N := 12) hx hb hts hi0 hown hK hP (3 + i) (sl_aC hi) rfl 6 (by decide) (hN.f 2 rfl) (fun _ h9 => h9) rfl dX2_appendAt_51 ?_
    refine sl_nV (n := 1) (As := [.int ((sp_X1_writeOnce σ j (σ (3 + i) 6) (σ (3 + i) 7)) (3 + i) 6)]) (rest := []) ⟨hx, hb, hml, hown, hts⟩ (c_X0_goAlongChain l G cy ad (sp_X1_writeOnce σ j (σ (3 + i) 6) (σ (3 + i) 7)) τ i hi ((sp_X1_writeOnce σ j (σ (3 + i) 6) (σ (3 + i) 7)) (3 + i) 6)) gX2_appendAt_X0_goAlongChain_n158 rfl rfl rfl (hN.m 10 rfl) (hts _ mw_X2_appendAt_10) (hts _ mw_X2_appendAt_23) (hts _ mw_X2_appendAt_24) (by decide +kernel) ⟨Nat.le_of_ble_eq_true rfl, Nat.le_of_ble_eq_true rfl⟩ (va_recv hK hP (ci := 0) (q0 := 3 + i) rfl (sl_aC hi)) rfl hl.1 rfl (Nat.le_of_ble_eq_true rfl) dX2_appendAt_54 ⟨Nat.zero_le _, Nat.zero_le _⟩ hK hN hD hP hS (fun H locs hP hS => ?_)
    refine W.eq (g2 := F0 m 57 ls [.int ((sp_X0_goAlongChain (sp_X1_writeOnce σ j (σ (3 + i) 6) (σ (3 + i) 7)) i ((sp_X1_writeOnce σ j (σ (3 + i) 6) (σ (3 + i) 7)) (3 + i) 6)).1)]) rfl ?_
    have e_q : (sp_X2_appendAt σ i j) = (((sp_X0_goAlongChain (sp_X1_writeOnce σ j (σ (3 + i) 6) (σ (3 + i) 7)) i ((sp_X1_writeOnce σ j (σ (3 + i) 6) (σ (3 + i) 7)) (3 + i) 6)).1), (sp_X0_goAlongChain (sp_X1_writeOnce σ j (σ (3 + i) 6) (σ (3 + i) 7)) i ((sp_X1_writeOnce σ j (σ (3 + i) 6) (σ (3 + i) 7)) (3 + i) 6)).2) := by rw [sp_X2_appendAt, if_pos c_1]
    exact sl_iret hx hb hr hlocks hP hS (by rw [e_q]) (by rw [e_q]) rfl dX2_appendAt_57
  · refine lv_iconst (v := (1 : Int32)) hx hb dX2_appendAt_13 (by decide) ?_
    refine lv_goto (tgt := 18) hx hb dX2_appendAt_14 (by decide) ?_
    refine lv_istore_n (lv' := [(2, .int (1 : Int32)), (0, .ref (ad (3 + i))), (1, .ref (ad (6 + j)))]) hx hb dX2_appendAt_18 rfl hl (by decide) rfl (fun ls hl => ?_)
    refine lv_iload_n hx hb dX2_appendAt_19 rfl (lv_at hl 0 rfl) ?_
    refine lv_if_eq (tgt := 37) hx hb dX2_appendAt_20 (by decide) (fun h9 => absurd h9 (by decide)) (fun _ => ?_)
    refine lv_aload_n hx hb dX2_appendAt_23 rfl (lv_at hl 1 rfl) ?_
    refine sl_nV (n := 0) (As := []) (rest := []) ⟨hx, hb, hml, hown, hts⟩ (c_X0_isAtHead l G cy ad σ τ i hi) gX2_appendAt_X0_isAtHead_n150 rfl rfl rfl (hN.m 8 rfl) (hts _ mw_X2_appendAt_10) (hts _ mw_X2_appendAt_9) (hts _ mw_X2_appendAt_11) (by decide +kernel) ⟨Nat.le_of_ble_eq_true rfl, Nat.le_of_ble_eq_true rfl⟩ (va_recv hK hP (ci := 0) (q0 := 3 + i) rfl (sl_aC hi)) rfl hl.1 rfl (Nat.le_of_ble_eq_true rfl) dX2_appendAt_24 ⟨Nat.zero_le _, Nat.zero_le _⟩ hK hN hD hP hS (fun H locs hP hS => ?_)
    refine W.eq (g2 := F0 m 27 ls [.int (sp_X0_isAtHead σ i)]) rfl ?_
    refine lv_if_eq (tgt := 37) hx hb dX2_appendAt_27 (by decide) (fun c_2 => ?_) (fun c_2 => ?_)
    · refine lv_aload_n hx hb dX2_appendAt_37 rfl (lv_at hl 2 rfl) ?_
      refine lv_aload_n hx hb dX2_appendAt_38 rfl (lv_at hl 1 rfl) ?_
      refine va_getN (D := G) (ci := 0) (v := .int (σ (3 + i) 6)) (C := RX0) (T := TX0) (N := 12) hx hb hts hi0 hown hK hP (3 + i) (sl_aC hi) rfl 6 (by decide) (hN.f 2 rfl) (fun _ h9 => h9) rfl dX2_appendAt_39 ?_
      refine lv_aload_n hx hb dX2_appendAt_42 rfl (lv_at hl 1 rfl) ?_
      refine va_getN (D := G) (ci := 0) (v := .int (σ (3 + i) 7)) (C := RX0) (T := TX0) (N := 12) hx hb hts hi0 hown hK hP (3 + i) (sl_aC hi) rfl 7 (by decide) (hN.f 1 rfl) (fun _ h9 => h9) rfl dX2_appendAt_43 ?_
      refine sl_nV (n := 2) (As := [.int (σ (3 + i) 6), .int (σ (3 + i) 7)]) (rest := []) ⟨hx, hb, hml, hown, hts⟩ (c_X1_writeOnce l G cy ad σ τ j hj (σ (3 + i) 6) (σ (3 + i) 7)) gX2_appendAt_X1_writeOnce_n154 rfl rfl rfl (hN.m 9 rfl) (hts _ mw_X2_appendAt_2) (hts _ mw_X2_appendAt_20) (hts _ mw_X2_appendAt_21) (by decide +kernel) ⟨Nat.le_of_ble_eq_true rfl, Nat.le_of_ble_eq_true rfl⟩ (va_recv hK hP (ci := 1) (q0 := 6 + j) rfl (sl_aU hj)) rfl hl.1 rfl (Nat.le_of_ble_eq_true rfl) dX2_appendAt_46 ⟨Nat.zero_le _, Nat.zero_le _⟩ hK hN hD hP hS (fun H locs hP hS => ?_)
      refine W.eq (g2 := F0 m 49 ls []) rfl ?_
      refine lv_aload_n hx hb dX2_appendAt_49 rfl (lv_at hl 1 rfl) ?_
      refine lv_aload_n hx hb dX2_appendAt_50 rfl (lv_at hl 1 rfl) ?_
      refine va_getN (D := G) (ci := 0) (v := .int ((sp_X1_writeOnce σ j (σ (3 + i) 6) (σ (3 + i) 7)) (3 + i) 6)) (C := RX0) (T := TX0) (N := 12) hx hb hts hi0 hown hK hP (3 + i) (sl_aC hi) rfl 6 (by decide) (hN.f 2 rfl) (fun _ h9 => h9) rfl dX2_appendAt_51 ?_
      refine sl_nV (n := 1) (As := [.int ((sp_X1_writeOnce σ j (σ (3 + i) 6) (σ (3 + i) 7)) (3 + i) 6)]) (rest := []) ⟨hx, hb, hml, hown, hts⟩ (c_X0_goAlongChain l G cy ad (sp_X1_writeOnce σ j (σ (3 + i) 6) (σ (3 + i) 7)) τ i hi ((sp_X1_writeOnce σ j (σ (3 + i) 6) (σ (3 + i) 7)) (3 + i) 6)) gX2_appendAt_X0_goAlongChain_n158 rfl rfl rfl (hN.m 10 rfl) (hts _ mw_X2_appendAt_10) (hts _ mw_X2_appendAt_23) (hts _ mw_X2_appendAt_24) (by decide +kernel) ⟨Nat.le_of_ble_eq_true rfl, Nat.le_of_ble_eq_true rfl⟩ (va_recv hK hP (ci := 0) (q0 := 3 + i) rfl (sl_aC hi)) rfl hl.1 rfl (Nat.le_of_ble_eq_true rfl) dX2_appendAt_54 ⟨Nat.zero_le _, Nat.zero_le _⟩ hK hN hD hP hS (fun H locs hP hS => ?_)
      refine W.eq (g2 := F0 m 57 ls [.int ((sp_X0_goAlongChain (sp_X1_writeOnce σ j (σ (3 + i) 6) (σ (3 + i) 7)) i ((sp_X1_writeOnce σ j (σ (3 + i) 6) (σ (3 + i) 7)) (3 + i) 6)).1)]) rfl ?_
      have e_q : (sp_X2_appendAt σ i j) = (((sp_X0_goAlongChain (sp_X1_writeOnce σ j (σ (3 + i) 6) (σ (3 + i) 7)) i ((sp_X1_writeOnce σ j (σ (3 + i) 6) (σ (3 + i) 7)) (3 + i) 6)).1), (sp_X0_goAlongChain (sp_X1_writeOnce σ j (σ (3 + i) 6) (σ (3 + i) 7)) i ((sp_X1_writeOnce σ j (σ (3 + i) 6) (σ (3 + i) 7)) (3 + i) 6)).2) := by rw [sp_X2_appendAt, if_neg c_1, if_pos c_2]
      exact sl_iret hx hb hr hlocks hP hS (by rw [e_q]) (by rw [e_q]) rfl dX2_appendAt_57
    · refine lv_aload_n hx hb dX2_appendAt_30 rfl (lv_at hl 1 rfl) ?_
      refine lv_iconst (v := (0 : Int32)) hx hb dX2_appendAt_31 (by decide) ?_
      refine sl_putCN hx hb hts hi0 hown hK hD hP hS hi 5 (by decide) rfl (tyX0_ok 5 (by decide)) (hN.f 8 rfl) dX2_appendAt_32 (fun H locs hP hS => ?_)
      refine lv_iconst (v := (0 : Int32)) hx hb dX2_appendAt_35 (by decide) ?_
      have e_q : (sp_X2_appendAt σ i j) = ((0 : Int32), (sl_up σ (3 + i) 5 (0 : Int32))) := by rw [sp_X2_appendAt, if_neg c_1, if_neg c_2]
      exact sl_iret hx hb hr hlocks hP hS (by rw [e_q]) (by rw [e_q]) rfl dX2_appendAt_36
def sp_X2_fillAt (σ : sl_M) (i : Nat) (j : Nat) : Int32 × sl_M := 
  if (sp_X0_isAtHead (sp_X1_writeOnce σ j (σ (3 + i) 6) (σ (3 + i) 7)) i) = 0 then (((sp_X0_goAlongChain (sp_X1_writeOnce σ j (σ (3 + i) 6) (σ (3 + i) 7)) i ((sp_X1_writeOnce σ j (σ (3 + i) 6) (σ (3 + i) 7)) (3 + i) 7)).1), (sp_X0_goAlongChain (sp_X1_writeOnce σ j (σ (3 + i) 6) (σ (3 + i) 7)) i ((sp_X1_writeOnce σ j (σ (3 + i) 6) (σ (3 + i) 7)) (3 + i) 7)).2)
  else (((sp_X0_goAlongChain (sl_up (sp_X1_writeOnce σ j (σ (3 + i) 6) (σ (3 + i) 7)) (3 + i) 7 (sp_X1_contentAt (sp_X1_writeOnce σ j (σ (3 + i) 6) (σ (3 + i) 7)) j ((sp_X1_writeOnce σ j (σ (3 + i) 6) (σ (3 + i) 7)) (3 + i) 6))) i ((sl_up (sp_X1_writeOnce σ j (σ (3 + i) 6) (σ (3 + i) 7)) (3 + i) 7 (sp_X1_contentAt (sp_X1_writeOnce σ j (σ (3 + i) 6) (σ (3 + i) 7)) j ((sp_X1_writeOnce σ j (σ (3 + i) 6) (σ (3 + i) 7)) (3 + i) 6))) (3 + i) 7)).1), (sp_X0_goAlongChain (sl_up (sp_X1_writeOnce σ j (σ (3 + i) 6) (σ (3 + i) 7)) (3 + i) 7 (sp_X1_contentAt (sp_X1_writeOnce σ j (σ (3 + i) 6) (σ (3 + i) 7)) j ((sp_X1_writeOnce σ j (σ (3 + i) 6) (σ (3 + i) 7)) (3 + i) 6))) i ((sl_up (sp_X1_writeOnce σ j (σ (3 + i) 6) (σ (3 + i) 7)) (3 + i) 7 (sp_X1_contentAt (sp_X1_writeOnce σ j (σ (3 + i) 6) (σ (3 + i) 7)) j ((sp_X1_writeOnce σ j (σ (3 + i) 6) (σ (3 + i) 7)) (3 + i) 6))) (3 + i) 7)).2)
set_option maxHeartbeats 4000000 in
set_option maxRecDepth 100000 in
theorem c_X2_fillAt (l : Launch) (G : va_G) (cy : Nat → ClassId) (ad : Nat → Nat) (σ τ : sl_M) (i : Nat) (hi : i < 3) (j : Nat) (hj : j < 6) : sl_C l G cy ad yX2_fillAt wsX2_fillAt ({ frames := 2, cells := 0, slots := 0, locals := 43 }) [.ref (ad (3 + i)), .ref (ad (6 + j))] σ τ (some (.int (sp_X2_fillAt σ i j).1)) (sp_X2_fillAt σ i j).2 τ := by
  refine sl_of (cc := cX2_fillAt) (maxL := 2) (ret := (some .int)) (by decide) rfl (Nat.le_of_ble_eq_true rfl) ?_
  intro p e s m below meth c hx hb hr hml hts hown hlocks hK hN hD hP hS ls hl
  have hown : s.vm.findClass RX2 = some m.cls := hown
  have hl : lv_has ls 2 [(0, .ref (ad (3 + i))), (1, .ref (ad (6 + j)))] := hl
  have hi0 : ∀ w ∈ wsX00, w ∈ wsX2_fillAt := fun _ h => (List.mem_cons_of_mem _ (List.mem_append_left _ (List.mem_append_right _ h)))
  refine lv_aload_n hx hb dX2_fillAt_0 rfl (lv_at hl 1 rfl) ?_
  refine lv_aload_n hx hb dX2_fillAt_1 rfl (lv_at hl 0 rfl) ?_
  refine va_getN (D := G) (ci := 0) (v := .int (σ (3 + i) 6)) (C := RX0) (T := TX0) (N := 12) hx hb hts hi0 hown hK hP (3 + i) (sl_aC hi) rfl 6 (by decide) (hN.f 2 rfl) (fun _ h9 => h9) rfl dX2_fillAt_2 ?_
  refine lv_aload_n hx hb dX2_fillAt_5 rfl (lv_at hl 0 rfl) ?_
  refine va_getN (D := G) (ci := 0) (v := .int (σ (3 + i) 7)) (C := RX0) (T := TX0) (N := 12) hx hb hts hi0 hown hK hP (3 + i) (sl_aC hi) rfl 7 (by decide) (hN.f 1 rfl) (fun _ h9 => h9) rfl dX2_fillAt_6 ?_
  refine sl_nV (n := 2) (As := [.int (σ (3 + i) 6), .int (σ (3 + i) 7)]) (rest := []) ⟨hx, hb, hml, hown, hts⟩ (c_X1_writeOnce l G cy ad σ τ j hj (σ (3 + i) 6) (σ (3 + i) 7)) gX2_fillAt_X1_writeOnce_n154 rfl rfl rfl (hN.m 9 rfl) (hts _ mw_X2_fillAt_2) (hts _ mw_X2_fillAt_1) (hts _ mw_X2_fillAt_3) (by decide +kernel) ⟨Nat.le_of_ble_eq_true rfl, Nat.le_of_ble_eq_true rfl⟩ (va_recv hK hP (ci := 1) (q0 := 6 + j) rfl (sl_aU hj)) rfl hl.1 rfl (Nat.le_of_ble_eq_true rfl) dX2_fillAt_9 ⟨Nat.zero_le _, Nat.zero_le _⟩ hK hN hD hP hS (fun H locs hP hS => ?_)
  refine W.eq (g2 := F0 m 12 ls []) rfl ?_
  refine lv_aload_n hx hb dX2_fillAt_12 rfl (lv_at hl 0 rfl) ?_
  refine sl_nV (n := 0) (As := []) (rest := []) ⟨hx, hb, hml, hown, hts⟩ (c_X0_isAtHead l G cy ad (sp_X1_writeOnce σ j (σ (3 + i) 6) (σ (3 + i) 7)) τ i hi) gX2_fillAt_X0_isAtHead_n150 rfl rfl rfl (hN.m 8 rfl) (hts _ mw_X2_fillAt_10) (hts _ mw_X2_fillAt_9) (hts _ mw_X2_fillAt_11) (by decide +kernel) ⟨Nat.le_of_ble_eq_true rfl, Nat.le_of_ble_eq_true rfl⟩ (va_recv hK hP (ci := 0) (q0 := 3 + i) rfl (sl_aC hi)) rfl hl.1 rfl (Nat.le_of_ble_eq_true rfl) dX2_fillAt_13 ⟨Nat.zero_le _, Nat.zero_le _⟩ hK hN hD hP hS (fun H locs hP hS => ?_)
  refine W.eq (g2 := F0 m 16 ls [.int (sp_X0_isAtHead (sp_X1_writeOnce σ j (σ (3 + i) 6) (σ (3 + i) 7)) i)]) rfl ?_
  refine lv_if_eq (tgt := 31) hx hb dX2_fillAt_16 (by decide) (fun c_1 => ?_) (fun c_1 => ?_)
  · refine lv_aload_n hx hb dX2_fillAt_31 rfl (lv_at hl 0 rfl) ?_
    refine lv_aload_n hx hb dX2_fillAt_32 rfl (lv_at hl 0 rfl) ?_
    refine va_getN (D := G) (ci := 0) (v := .int ((sp_X1_writeOnce σ j (σ (3 + i) 6) (σ (3 + i) 7)) (3 + i) 7)) (C := RX0) (T := TX0) (N := 12) hx hb hts hi0 hown hK hP (3 + i) (sl_aC hi) rfl 7 (by decide) (hN.f 1 rfl) (fun _ h9 => h9) rfl dX2_fillAt_33 ?_
    refine sl_nV (n := 1) (As := [.int ((sp_X1_writeOnce σ j (σ (3 + i) 6) (σ (3 + i) 7)) (3 + i) 7)]) (rest := []) ⟨hx, hb, hml, hown, hts⟩ (c_X0_goAlongChain l G cy ad (sp_X1_writeOnce σ j (σ (3 + i) 6) (σ (3 + i) 7)) τ i hi ((sp_X1_writeOnce σ j (σ (3 + i) 6) (σ (3 + i) 7)) (3 + i) 7)) gX2_fillAt_X0_goAlongChain_n158 rfl rfl rfl (hN.m 10 rfl) (hts _ mw_X2_fillAt_10) (hts _ mw_X2_fillAt_23) (hts _ mw_X2_fillAt_24) (by decide +kernel) ⟨Nat.le_of_ble_eq_true rfl, Nat.le_of_ble_eq_true rfl⟩ (va_recv hK hP (ci := 0) (q0 := 3 + i) rfl (sl_aC hi)) rfl hl.1 rfl (Nat.le_of_ble_eq_true rfl) dX2_fillAt_36 ⟨Nat.zero_le _, Nat.zero_le _⟩ hK hN hD hP hS (fun H locs hP hS => ?_)
    refine W.eq (g2 := F0 m 39 ls [.int ((sp_X0_goAlongChain (sp_X1_writeOnce σ j (σ (3 + i) 6) (σ (3 + i) 7)) i ((sp_X1_writeOnce σ j (σ (3 + i) 6) (σ (3 + i) 7)) (3 + i) 7)).1)]) rfl ?_
    have e_q : (sp_X2_fillAt σ i j) = (((sp_X0_goAlongChain (sp_X1_writeOnce σ j (σ (3 + i) 6) (σ (3 + i) 7)) i ((sp_X1_writeOnce σ j (σ (3 + i) 6) (σ (3 + i) 7)) (3 + i) 7)).1), (sp_X0_goAlongChain (sp_X1_writeOnce σ j (σ (3 + i) 6) (σ (3 + i) 7)) i ((sp_X1_writeOnce σ j (σ (3 + i) 6) (σ (3 + i) 7)) (3 + i) 7)).2) := by rw [sp_X2_fillAt, if_pos c_1]
    exact sl_iret hx hb hr hlocks hP hS (by rw [e_q]) (by rw [e_q]) rfl dX2_fillAt_39
  · refine lv_aload_n hx hb dX2_fillAt_19 rfl (lv_at hl 0 rfl) ?_
    refine lv_aload_n hx hb dX2_fillAt_20 rfl (lv_at hl 1 rfl) ?_
    refine lv_aload_n hx hb dX2_fillAt_21 rfl (lv_at hl 0 rfl) ?_
    refine va_getN (D := G) (ci := 0) (v := .int ((sp_X1_writeOnce σ j (σ (3 + i) 6) (σ (3 + i) 7)) (3 + i) 6)) (C := RX0) (T := TX0) (N := 12) hx hb hts hi0 hown hK hP (3 + i) (sl_aC hi) rfl 6 (by decide) (hN.f 2 rfl) (fun _ h9 => h9) rfl dX2_fillAt_22 ?_
    refine sl_nV (n := 1) (As := [.int ((sp_X1_writeOnce σ j (σ (3 + i) 6) (σ (3 + i) 7)) (3 + i) 6)]) (rest := [.ref (ad (3 + i))]) ⟨hx, hb, hml, hown, hts⟩ (c_X1_contentAt l G cy ad (sp_X1_writeOnce σ j (σ (3 + i) 6) (σ (3 + i) 7)) τ j hj ((sp_X1_writeOnce σ j (σ (3 + i) 6) (σ (3 + i) 7)) (3 + i) 6)) gX2_fillAt_X1_contentAt_n126 rfl rfl rfl (hN.m 7 rfl) (hts _ mw_X2_fillAt_2) (hts _ mw_X2_fillAt_20) (hts _ mw_X2_fillAt_21) (by decide +kernel) ⟨Nat.le_of_ble_eq_true rfl, Nat.le_of_ble_eq_true rfl⟩ (va_recv hK hP (ci := 1) (q0 := 6 + j) rfl (sl_aU hj)) rfl hl.1 rfl (Nat.le_of_ble_eq_true rfl) dX2_fillAt_25 ⟨Nat.zero_le _, Nat.zero_le _⟩ hK hN hD hP hS (fun H locs hP hS => ?_)
    refine W.eq (g2 := F0 m 28 ls [.int (sp_X1_contentAt (sp_X1_writeOnce σ j (σ (3 + i) 6) (σ (3 + i) 7)) j ((sp_X1_writeOnce σ j (σ (3 + i) 6) (σ (3 + i) 7)) (3 + i) 6)), .ref (ad (3 + i))]) rfl ?_
    refine sl_putCN hx hb hts hi0 hown hK hD hP hS hi 7 (by decide) rfl (tyX0_ok 7 (by decide)) (hN.f 1 rfl) dX2_fillAt_28 (fun H locs hP hS => ?_)
    refine lv_aload_n hx hb dX2_fillAt_31 rfl (lv_at hl 0 rfl) ?_
    refine lv_aload_n hx hb dX2_fillAt_32 rfl (lv_at hl 0 rfl) ?_
    refine va_getN (D := G) (ci := 0) (v := .int ((sl_up (sp_X1_writeOnce σ j (σ (3 + i) 6) (σ (3 + i) 7)) (3 + i) 7 (sp_X1_contentAt (sp_X1_writeOnce σ j (σ (3 + i) 6) (σ (3 + i) 7)) j ((sp_X1_writeOnce σ j (σ (3 + i) 6) (σ (3 + i) 7)) (3 + i) 6))) (3 + i) 7)) (C := RX0) (T := TX0) (N := 12) hx hb hts hi0 hown hK hP (3 + i) (sl_aC hi) rfl 7 (by decide) (hN.f 1 rfl) (fun _ h9 => h9) rfl dX2_fillAt_33 ?_
    refine sl_nV (n := 1) (As := [.int ((sl_up (sp_X1_writeOnce σ j (σ (3 + i) 6) (σ (3 + i) 7)) (3 + i) 7 (sp_X1_contentAt (sp_X1_writeOnce σ j (σ (3 + i) 6) (σ (3 + i) 7)) j ((sp_X1_writeOnce σ j (σ (3 + i) 6) (σ (3 + i) 7)) (3 + i) 6))) (3 + i) 7)]) (rest := []) ⟨hx, hb, hml, hown, hts⟩ (c_X0_goAlongChain l G cy ad (sl_up (sp_X1_writeOnce σ j (σ (3 + i) 6) (σ (3 + i) 7)) (3 + i) 7 (sp_X1_contentAt (sp_X1_writeOnce σ j (σ (3 + i) 6) (σ (3 + i) 7)) j ((sp_X1_writeOnce σ j (σ (3 + i) 6) (σ (3 + i) 7)) (3 + i) 6))) τ i hi ((sl_up (sp_X1_writeOnce σ j (σ (3 + i) 6) (σ (3 + i) 7)) (3 + i) 7 (sp_X1_contentAt (sp_X1_writeOnce σ j (σ (3 + i) 6) (σ (3 + i) 7)) j ((sp_X1_writeOnce σ j (σ (3 + i) 6) (σ (3 + i) 7)) (3 + i) 6))) (3 + i) 7)) gX2_fillAt_X0_goAlongChain_n158 rfl rfl rfl (hN.m 10 rfl) (hts _ mw_X2_fillAt_10) (hts _ mw_X2_fillAt_23) (hts _ mw_X2_fillAt_24) (by decide +kernel) ⟨Nat.le_of_ble_eq_true rfl, Nat.le_of_ble_eq_true rfl⟩ (va_recv hK hP (ci := 0) (q0 := 3 + i) rfl (sl_aC hi)) rfl hl.1 rfl (Nat.le_of_ble_eq_true rfl) dX2_fillAt_36 ⟨Nat.zero_le _, Nat.zero_le _⟩ hK hN hD hP hS (fun H locs hP hS => ?_)
    refine W.eq (g2 := F0 m 39 ls [.int ((sp_X0_goAlongChain (sl_up (sp_X1_writeOnce σ j (σ (3 + i) 6) (σ (3 + i) 7)) (3 + i) 7 (sp_X1_contentAt (sp_X1_writeOnce σ j (σ (3 + i) 6) (σ (3 + i) 7)) j ((sp_X1_writeOnce σ j (σ (3 + i) 6) (σ (3 + i) 7)) (3 + i) 6))) i ((sl_up (sp_X1_writeOnce σ j (σ (3 + i) 6) (σ (3 + i) 7)) (3 + i) 7 (sp_X1_contentAt (sp_X1_writeOnce σ j (σ (3 + i) 6) (σ (3 + i) 7)) j ((sp_X1_writeOnce σ j (σ (3 + i) 6) (σ (3 + i) 7)) (3 + i) 6))) (3 + i) 7)).1)]) rfl ?_
    have e_q : (sp_X2_fillAt σ i j) = (((sp_X0_goAlongChain (sl_up (sp_X1_writeOnce σ j (σ (3 + i) 6) (σ (3 + i) 7)) (3 + i) 7 (sp_X1_contentAt (sp_X1_writeOnce σ j (σ (3 + i) 6) (σ (3 + i) 7)) j ((sp_X1_writeOnce σ j (σ (3 + i) 6) (σ (3 + i) 7)) (3 + i) 6))) i ((sl_up (sp_X1_writeOnce σ j (σ (3 + i) 6) (σ (3 + i) 7)) (3 + i) 7 (sp_X1_contentAt (sp_X1_writeOnce σ j (σ (3 + i) 6) (σ (3 + i) 7)) j ((sp_X1_writeOnce σ j (σ (3 + i) 6) (σ (3 + i) 7)) (3 + i) 6))) (3 + i) 7)).1), (sp_X0_goAlongChain (sl_up (sp_X1_writeOnce σ j (σ (3 + i) 6) (σ (3 + i) 7)) (3 + i) 7 (sp_X1_contentAt (sp_X1_writeOnce σ j (σ (3 + i) 6) (σ (3 + i) 7)) j ((sp_X1_writeOnce σ j (σ (3 + i) 6) (σ (3 + i) 7)) (3 + i) 6))) i ((sl_up (sp_X1_writeOnce σ j (σ (3 + i) 6) (σ (3 + i) 7)) (3 + i) 7 (sp_X1_contentAt (sp_X1_writeOnce σ j (σ (3 + i) 6) (σ (3 + i) 7)) j ((sp_X1_writeOnce σ j (σ (3 + i) 6) (σ (3 + i) 7)) (3 + i) 6))) (3 + i) 7)).2) := by rw [sp_X2_fillAt, if_neg c_1]
    exact sl_iret hx hb hr hlocks hP hS (by rw [e_q]) (by rw [e_q]) rfl dX2_fillAt_39
def sp_X2_readAt (σ : sl_M) (i : Nat) (j : Nat) : Int32 × sl_M := 
  if (sp_X1_contentAt σ j (σ (3 + i) 6)) = (-2 : Int32) then (((sp_X0_end σ i (3 : Int32) (sp_X1_contentAt σ j (σ (3 + i) 6))).1), (sp_X0_end σ i (3 : Int32) (sp_X1_contentAt σ j (σ (3 + i) 6))).2)
  else (((sp_X0_end σ i (1 : Int32) (sp_X1_contentAt σ j (σ (3 + i) 6))).1), (sp_X0_end σ i (1 : Int32) (sp_X1_contentAt σ j (σ (3 + i) 6))).2)
set_option maxHeartbeats 4000000 in
set_option maxRecDepth 100000 in
theorem c_X2_readAt (l : Launch) (G : va_G) (cy : Nat → ClassId) (ad : Nat → Nat) (σ τ : sl_M) (i : Nat) (hi : i < 3) (j : Nat) (hj : j < 6) : sl_C l G cy ad yX2_readAt wsX2_readAt ({ frames := 2, cells := 0, slots := 0, locals := 41 }) [.ref (ad (3 + i)), .ref (ad (6 + j))] σ τ (some (.int (sp_X2_readAt σ i j).1)) (sp_X2_readAt σ i j).2 τ := by
  refine sl_of (cc := cX2_readAt) (maxL := 3) (ret := (some .int)) (by decide) rfl (Nat.le_of_ble_eq_true rfl) ?_
  intro p e s m below meth c hx hb hr hml hts hown hlocks hK hN hD hP hS ls hl
  have hown : s.vm.findClass RX2 = some m.cls := hown
  have hl : lv_has ls 3 [(0, .ref (ad (3 + i))), (1, .ref (ad (6 + j)))] := hl
  have hi0 : ∀ w ∈ wsX00, w ∈ wsX2_readAt := fun _ h => (List.mem_cons_of_mem _ (List.mem_append_left _ (List.mem_append_right _ h)))
  refine lv_aload_n hx hb dX2_readAt_0 rfl (lv_at hl 1 rfl) ?_
  refine lv_aload_n hx hb dX2_readAt_1 rfl (lv_at hl 0 rfl) ?_
  refine va_getN (D := G) (ci := 0) (v := .int (σ (3 + i) 6)) (C := RX0) (T := TX0) (N := 12) hx hb hts hi0 hown hK hP (3 + i) (sl_aC hi) rfl 6 (by decide) (hN.f 2 rfl) (fun _ h9 => h9) rfl dX2_readAt_2 ?_
  refine sl_nV (n := 1) (As := [.int (σ (3 + i) 6)]) (rest := []) ⟨hx, hb, hml, hown, hts⟩ (c_X1_contentAt l G cy ad σ τ j hj (σ (3 + i) 6)) gX2_readAt_X1_contentAt_n126 rfl rfl rfl (hN.m 7 rfl) (hts _ mw_X2_readAt_2) (hts _ mw_X2_readAt_1) (hts _ mw_X2_readAt_3) (by decide +kernel) ⟨Nat.le_of_ble_eq_true rfl, Nat.le_of_ble_eq_true rfl⟩ (va_recv hK hP (ci := 1) (q0 := 6 + j) rfl (sl_aU hj)) rfl hl.1 rfl (Nat.le_of_ble_eq_true rfl) dX2_readAt_5 ⟨Nat.zero_le _, Nat.zero_le _⟩ hK hN hD hP hS (fun H locs hP hS => ?_)
  refine W.eq (g2 := F0 m 8 ls [.int (sp_X1_contentAt σ j (σ (3 + i) 6))]) rfl ?_
  refine lv_istore_n (lv' := [(2, .int (sp_X1_contentAt σ j (σ (3 + i) 6))), (0, .ref (ad (3 + i))), (1, .ref (ad (6 + j)))]) hx hb dX2_readAt_8 rfl hl (by decide) rfl (fun ls hl => ?_)
  refine lv_aload_n hx hb dX2_readAt_9 rfl (lv_at hl 1 rfl) ?_
  refine lv_iload_n hx hb dX2_readAt_10 rfl (lv_at hl 0 rfl) ?_
  refine lv_bipush (v := (-2 : Int32)) hx hb dX2_readAt_11 (by decide) ?_
  refine lv_icmp_ne (tgt := 20) hx hb dX2_readAt_13 (by decide) (fun c_1 => ?_) (fun c_1 => ?_)
  · refine lv_iconst (v := (1 : Int32)) hx hb dX2_readAt_20 (by decide) ?_
    refine lv_iload_n hx hb dX2_readAt_21 rfl (lv_at hl 0 rfl) ?_
    refine sl_nV (n := 2) (As := [.int (1 : Int32), .int (sp_X1_contentAt σ j (σ (3 + i) 6))]) (rest := []) ⟨hx, hb, hml, hown, hts⟩ (c_X0_end l G cy ad σ τ i hi (1 : Int32) (sp_X1_contentAt σ j (σ (3 + i) 6))) gX2_readAt_X0_end_n108 rfl rfl rfl (hN.m 6 rfl) (hts _ mw_X2_readAt_10) (hts _ mw_X2_readAt_9) (hts _ mw_X2_readAt_11) (by decide +kernel) ⟨Nat.le_of_ble_eq_true rfl, Nat.le_of_ble_eq_true rfl⟩ (va_recv hK hP (ci := 0) (q0 := 3 + i) rfl (sl_aC hi)) rfl hl.1 rfl (Nat.le_of_ble_eq_true rfl) dX2_readAt_22 ⟨Nat.zero_le _, Nat.zero_le _⟩ hK hN hD hP hS (fun H locs hP hS => ?_)
    refine W.eq (g2 := F0 m 25 ls [.int ((sp_X0_end σ i (1 : Int32) (sp_X1_contentAt σ j (σ (3 + i) 6))).1)]) rfl ?_
    have e_q : (sp_X2_readAt σ i j) = (((sp_X0_end σ i (1 : Int32) (sp_X1_contentAt σ j (σ (3 + i) 6))).1), (sp_X0_end σ i (1 : Int32) (sp_X1_contentAt σ j (σ (3 + i) 6))).2) := by rw [sp_X2_readAt, if_neg c_1]
    exact sl_iret hx hb hr hlocks hP hS (by rw [e_q]) (by rw [e_q]) rfl dX2_readAt_25
  · refine lv_iconst (v := (3 : Int32)) hx hb dX2_readAt_16 (by decide) ?_
    refine lv_goto (tgt := 21) hx hb dX2_readAt_17 (by decide) ?_
    refine lv_iload_n hx hb dX2_readAt_21 rfl (lv_at hl 0 rfl) ?_
    refine sl_nV (n := 2) (As := [.int (3 : Int32), .int (sp_X1_contentAt σ j (σ (3 + i) 6))]) (rest := []) ⟨hx, hb, hml, hown, hts⟩ (c_X0_end l G cy ad σ τ i hi (3 : Int32) (sp_X1_contentAt σ j (σ (3 + i) 6))) gX2_readAt_X0_end_n108 rfl rfl rfl (hN.m 6 rfl) (hts _ mw_X2_readAt_10) (hts _ mw_X2_readAt_9) (hts _ mw_X2_readAt_11) (by decide +kernel) ⟨Nat.le_of_ble_eq_true rfl, Nat.le_of_ble_eq_true rfl⟩ (va_recv hK hP (ci := 0) (q0 := 3 + i) rfl (sl_aC hi)) rfl hl.1 rfl (Nat.le_of_ble_eq_true rfl) dX2_readAt_22 ⟨Nat.zero_le _, Nat.zero_le _⟩ hK hN hD hP hS (fun H locs hP hS => ?_)
    refine W.eq (g2 := F0 m 25 ls [.int ((sp_X0_end σ i (3 : Int32) (sp_X1_contentAt σ j (σ (3 + i) 6))).1)]) rfl ?_
    have e_q : (sp_X2_readAt σ i j) = (((sp_X0_end σ i (3 : Int32) (sp_X1_contentAt σ j (σ (3 + i) 6))).1), (sp_X0_end σ i (3 : Int32) (sp_X1_contentAt σ j (σ (3 + i) 6))).2) := by rw [sp_X2_readAt, if_pos c_1]
    exact sl_iret hx hb hr hlocks hP hS (by rw [e_q]) (by rw [e_q]) rfl dX2_readAt_25
def sp_X2_replayAt (σ : sl_M) (i : Nat) (j : Nat) : Int32 × sl_M := 
  if (sp_X1_contentAt σ j (σ (3 + i) 6)) = (-2 : Int32) then (((sp_X0_end σ i (3 : Int32) (σ (3 + i) 6)).1), (sp_X0_end σ i (3 : Int32) (σ (3 + i) 6)).2)
  else if (sp_X1_contentAt σ j (σ (3 + i) 6)) = (-1 : Int32) then ((0 : Int32), (sl_up (sl_up σ (3 + i) 6 ((σ (3 + i) 6) + (1 : Int32))) (3 + i) 5 (sp_X0_replayRoute (sl_up σ (3 + i) 6 ((σ (3 + i) 6) + (1 : Int32))) i)))
  else ((0 : Int32), (sl_up (sl_up (sl_up σ (3 + i) 9 (((σ (3 + i) 9) * (31 : Int32)) + (sp_X1_contentAt σ j (σ (3 + i) 6)))) (3 + i) 6 (((sl_up σ (3 + i) 9 (((σ (3 + i) 9) * (31 : Int32)) + (sp_X1_contentAt σ j (σ (3 + i) 6)))) (3 + i) 6) + (1 : Int32))) (3 + i) 5 (sp_X0_replayRoute (sl_up (sl_up σ (3 + i) 9 (((σ (3 + i) 9) * (31 : Int32)) + (sp_X1_contentAt σ j (σ (3 + i) 6)))) (3 + i) 6 (((sl_up σ (3 + i) 9 (((σ (3 + i) 9) * (31 : Int32)) + (sp_X1_contentAt σ j (σ (3 + i) 6)))) (3 + i) 6) + (1 : Int32))) i)))
set_option maxHeartbeats 4000000 in
set_option maxRecDepth 100000 in
theorem c_X2_replayAt (l : Launch) (G : va_G) (cy : Nat → ClassId) (ad : Nat → Nat) (σ τ : sl_M) (i : Nat) (hi : i < 3) (j : Nat) (hj : j < 6) : sl_C l G cy ad yX2_replayAt wsX2_replayAt ({ frames := 2, cells := 0, slots := 0, locals := 41 }) [.ref (ad (3 + i)), .ref (ad (6 + j))] σ τ (some (.int (sp_X2_replayAt σ i j).1)) (sp_X2_replayAt σ i j).2 τ := by
  refine sl_of (cc := cX2_replayAt) (maxL := 3) (ret := (some .int)) (by decide) rfl (Nat.le_of_ble_eq_true rfl) ?_
  intro p e s m below meth c hx hb hr hml hts hown hlocks hK hN hD hP hS ls hl
  have hown : s.vm.findClass RX2 = some m.cls := hown
  have hl : lv_has ls 3 [(0, .ref (ad (3 + i))), (1, .ref (ad (6 + j)))] := hl
  have hi0 : ∀ w ∈ wsX00, w ∈ wsX2_replayAt := fun _ h => (List.mem_cons_of_mem _ (List.mem_append_left _ (List.mem_append_right _ h)))
  refine lv_aload_n hx hb dX2_replayAt_0 rfl (lv_at hl 1 rfl) ?_
  refine lv_aload_n hx hb dX2_replayAt_1 rfl (lv_at hl 0 rfl) ?_
  refine va_getN (D := G) (ci := 0) (v := .int (σ (3 + i) 6)) (C := RX0) (T := TX0) (N := 12) hx hb hts hi0 hown hK hP (3 + i) (sl_aC hi) rfl 6 (by decide) (hN.f 2 rfl) (fun _ h9 => h9) rfl dX2_replayAt_2 ?_
  refine sl_nV (n := 1) (As := [.int (σ (3 + i) 6)]) (rest := []) ⟨hx, hb, hml, hown, hts⟩ (c_X1_contentAt l G cy ad σ τ j hj (σ (3 + i) 6)) gX2_replayAt_X1_contentAt_n126 rfl rfl rfl (hN.m 7 rfl) (hts _ mw_X2_replayAt_2) (hts _ mw_X2_replayAt_1) (hts _ mw_X2_replayAt_3) (by decide +kernel) ⟨Nat.le_of_ble_eq_true rfl, Nat.le_of_ble_eq_true rfl⟩ (va_recv hK hP (ci := 1) (q0 := 6 + j) rfl (sl_aU hj)) rfl hl.1 rfl (Nat.le_of_ble_eq_true rfl) dX2_replayAt_5 ⟨Nat.zero_le _, Nat.zero_le _⟩ hK hN hD hP hS (fun H locs hP hS => ?_)
  refine W.eq (g2 := F0 m 8 ls [.int (sp_X1_contentAt σ j (σ (3 + i) 6))]) rfl ?_
  refine lv_istore_n (lv' := [(2, .int (sp_X1_contentAt σ j (σ (3 + i) 6))), (0, .ref (ad (3 + i))), (1, .ref (ad (6 + j)))]) hx hb dX2_replayAt_8 rfl hl (by decide) rfl (fun ls hl => ?_)
  refine lv_iload_n hx hb dX2_replayAt_9 rfl (lv_at hl 0 rfl) ?_
  refine lv_bipush (v := (-2 : Int32)) hx hb dX2_replayAt_10 (by decide) ?_
  refine lv_icmp_ne (tgt := 25) hx hb dX2_replayAt_12 (by decide) (fun c_1 => ?_) (fun c_1 => ?_)
  · refine lv_iload_n hx hb dX2_replayAt_25 rfl (lv_at hl 0 rfl) ?_
    refine lv_iconst (v := (-1 : Int32)) hx hb dX2_replayAt_26 (by decide) ?_
    refine lv_icmp_eq (tgt := 43) hx hb dX2_replayAt_27 (by decide) (fun c_2 => ?_) (fun c_2 => ?_)
    · refine lv_aload_n hx hb dX2_replayAt_43 rfl (lv_at hl 1 rfl) ?_
      refine lv_dup hx hb dX2_replayAt_44 rfl ?_
      refine va_getN (D := G) (ci := 0) (v := .int (σ (3 + i) 6)) (C := RX0) (T := TX0) (N := 12) hx hb hts hi0 hown hK hP (3 + i) (sl_aC hi) rfl 6 (by decide) (hN.f 2 rfl) (fun _ h9 => h9) rfl dX2_replayAt_45 ?_
      refine lv_iconst (v := (1 : Int32)) hx hb dX2_replayAt_48 (by decide) ?_
      refine lv_iadd hx hb dX2_replayAt_49 ?_
      refine sl_putCN hx hb hts hi0 hown hK hD hP hS hi 6 (by decide) rfl (tyX0_ok 6 (by decide)) (hN.f 2 rfl) dX2_replayAt_50 (fun H locs hP hS => ?_)
      refine lv_aload_n hx hb dX2_replayAt_53 rfl (lv_at hl 1 rfl) ?_
      refine lv_aload_n hx hb dX2_replayAt_54 rfl (lv_at hl 1 rfl) ?_
      refine sl_nV (n := 0) (As := []) (rest := [.ref (ad (3 + i))]) ⟨hx, hb, hml, hown, hts⟩ (c_X0_replayRoute l G cy ad (sl_up σ (3 + i) 6 ((σ (3 + i) 6) + (1 : Int32))) τ i hi) gX2_replayAt_X0_replayRoute_n71 rfl rfl rfl (hN.m 4 rfl) (hts _ mw_X2_replayAt_10) (hts _ mw_X2_replayAt_16) (hts _ mw_X2_replayAt_17) (by decide +kernel) ⟨Nat.le_of_ble_eq_true rfl, Nat.le_of_ble_eq_true rfl⟩ (va_recv hK hP (ci := 0) (q0 := 3 + i) rfl (sl_aC hi)) rfl hl.1 rfl (Nat.le_of_ble_eq_true rfl) dX2_replayAt_55 ⟨Nat.zero_le _, Nat.zero_le _⟩ hK hN hD hP hS (fun H locs hP hS => ?_)
      refine W.eq (g2 := F0 m 58 ls [.int (sp_X0_replayRoute (sl_up σ (3 + i) 6 ((σ (3 + i) 6) + (1 : Int32))) i), .ref (ad (3 + i))]) rfl ?_
      refine sl_putCN hx hb hts hi0 hown hK hD hP hS hi 5 (by decide) rfl (tyX0_ok 5 (by decide)) (hN.f 8 rfl) dX2_replayAt_58 (fun H locs hP hS => ?_)
      refine lv_iconst (v := (0 : Int32)) hx hb dX2_replayAt_61 (by decide) ?_
      have e_q : (sp_X2_replayAt σ i j) = ((0 : Int32), (sl_up (sl_up σ (3 + i) 6 ((σ (3 + i) 6) + (1 : Int32))) (3 + i) 5 (sp_X0_replayRoute (sl_up σ (3 + i) 6 ((σ (3 + i) 6) + (1 : Int32))) i))) := by rw [sp_X2_replayAt, if_neg c_1, if_pos c_2]
      exact sl_iret hx hb hr hlocks hP hS (by rw [e_q]) (by rw [e_q]) rfl dX2_replayAt_62
    · refine lv_aload_n hx hb dX2_replayAt_30 rfl (lv_at hl 1 rfl) ?_
      refine lv_aload_n hx hb dX2_replayAt_31 rfl (lv_at hl 1 rfl) ?_
      refine va_getN (D := G) (ci := 0) (v := .int (σ (3 + i) 9)) (C := RX0) (T := TX0) (N := 12) hx hb hts hi0 hown hK hP (3 + i) (sl_aC hi) rfl 9 (by decide) (hN.f 4 rfl) (fun _ h9 => h9) rfl dX2_replayAt_32 ?_
      refine lv_bipush (v := (31 : Int32)) hx hb dX2_replayAt_35 (by decide) ?_
      refine lv_imul hx hb dX2_replayAt_37 ?_
      refine lv_iload_n hx hb dX2_replayAt_38 rfl (lv_at hl 0 rfl) ?_
      refine lv_iadd hx hb dX2_replayAt_39 ?_
      refine sl_putCN hx hb hts hi0 hown hK hD hP hS hi 9 (by decide) rfl (tyX0_ok 9 (by decide)) (hN.f 4 rfl) dX2_replayAt_40 (fun H locs hP hS => ?_)
      refine lv_aload_n hx hb dX2_replayAt_43 rfl (lv_at hl 1 rfl) ?_
      refine lv_dup hx hb dX2_replayAt_44 rfl ?_
      refine va_getN (D := G) (ci := 0) (v := .int ((sl_up σ (3 + i) 9 (((σ (3 + i) 9) * (31 : Int32)) + (sp_X1_contentAt σ j (σ (3 + i) 6)))) (3 + i) 6)) (C := RX0) (T := TX0) (N := 12) hx hb hts hi0 hown hK hP (3 + i) (sl_aC hi) rfl 6 (by decide) (hN.f 2 rfl) (fun _ h9 => h9) rfl dX2_replayAt_45 ?_
      refine lv_iconst (v := (1 : Int32)) hx hb dX2_replayAt_48 (by decide) ?_
      refine lv_iadd hx hb dX2_replayAt_49 ?_
      refine sl_putCN hx hb hts hi0 hown hK hD hP hS hi 6 (by decide) rfl (tyX0_ok 6 (by decide)) (hN.f 2 rfl) dX2_replayAt_50 (fun H locs hP hS => ?_)
      refine lv_aload_n hx hb dX2_replayAt_53 rfl (lv_at hl 1 rfl) ?_
      refine lv_aload_n hx hb dX2_replayAt_54 rfl (lv_at hl 1 rfl) ?_
      refine sl_nV (n := 0) (As := []) (rest := [.ref (ad (3 + i))]) ⟨hx, hb, hml, hown, hts⟩ (c_X0_replayRoute l G cy ad (sl_up (sl_up σ (3 + i) 9 (((σ (3 + i) 9) * (31 : Int32)) + (sp_X1_contentAt σ j (σ (3 + i) 6)))) (3 + i) 6 (((sl_up σ (3 + i) 9 (((σ (3 + i) 9) * (31 : Int32)) + (sp_X1_contentAt σ j (σ (3 + i) 6)))) (3 + i) 6) + (1 : Int32))) τ i hi) gX2_replayAt_X0_replayRoute_n71 rfl rfl rfl (hN.m 4 rfl) (hts _ mw_X2_replayAt_10) (hts _ mw_X2_replayAt_16) (hts _ mw_X2_replayAt_17) (by decide +kernel) ⟨Nat.le_of_ble_eq_true rfl, Nat.le_of_ble_eq_true rfl⟩ (va_recv hK hP (ci := 0) (q0 := 3 + i) rfl (sl_aC hi)) rfl hl.1 rfl (Nat.le_of_ble_eq_true rfl) dX2_replayAt_55 ⟨Nat.zero_le _, Nat.zero_le _⟩ hK hN hD hP hS (fun H locs hP hS => ?_)
      refine W.eq (g2 := F0 m 58 ls [.int (sp_X0_replayRoute (sl_up (sl_up σ (3 + i) 9 (((σ (3 + i) 9) * (31 : Int32)) + (sp_X1_contentAt σ j (σ (3 + i) 6)))) (3 + i) 6 (((sl_up σ (3 + i) 9 (((σ (3 + i) 9) * (31 : Int32)) + (sp_X1_contentAt σ j (σ (3 + i) 6)))) (3 + i) 6) + (1 : Int32))) i), .ref (ad (3 + i))]) rfl ?_
      refine sl_putCN hx hb hts hi0 hown hK hD hP hS hi 5 (by decide) rfl (tyX0_ok 5 (by decide)) (hN.f 8 rfl) dX2_replayAt_58 (fun H locs hP hS => ?_)
      refine lv_iconst (v := (0 : Int32)) hx hb dX2_replayAt_61 (by decide) ?_
      have e_q : (sp_X2_replayAt σ i j) = ((0 : Int32), (sl_up (sl_up (sl_up σ (3 + i) 9 (((σ (3 + i) 9) * (31 : Int32)) + (sp_X1_contentAt σ j (σ (3 + i) 6)))) (3 + i) 6 (((sl_up σ (3 + i) 9 (((σ (3 + i) 9) * (31 : Int32)) + (sp_X1_contentAt σ j (σ (3 + i) 6)))) (3 + i) 6) + (1 : Int32))) (3 + i) 5 (sp_X0_replayRoute (sl_up (sl_up σ (3 + i) 9 (((σ (3 + i) 9) * (31 : Int32)) + (sp_X1_contentAt σ j (σ (3 + i) 6)))) (3 + i) 6 (((sl_up σ (3 + i) 9 (((σ (3 + i) 9) * (31 : Int32)) + (sp_X1_contentAt σ j (σ (3 + i) 6)))) (3 + i) 6) + (1 : Int32))) i))) := by rw [sp_X2_replayAt, if_neg c_1, if_neg c_2]
      exact sl_iret hx hb hr hlocks hP hS (by rw [e_q]) (by rw [e_q]) rfl dX2_replayAt_62
  · refine lv_aload_n hx hb dX2_replayAt_15 rfl (lv_at hl 1 rfl) ?_
    refine lv_iconst (v := (3 : Int32)) hx hb dX2_replayAt_16 (by decide) ?_
    refine lv_aload_n hx hb dX2_replayAt_17 rfl (lv_at hl 1 rfl) ?_
    refine va_getN (D := G) (ci := 0) (v := .int (σ (3 + i) 6)) (C := RX0) (T := TX0) (N := 12) hx hb hts hi0 hown hK hP (3 + i) (sl_aC hi) rfl 6 (by decide) (hN.f 2 rfl) (fun _ h9 => h9) rfl dX2_replayAt_18 ?_
    refine sl_nV (n := 2) (As := [.int (3 : Int32), .int (σ (3 + i) 6)]) (rest := []) ⟨hx, hb, hml, hown, hts⟩ (c_X0_end l G cy ad σ τ i hi (3 : Int32) (σ (3 + i) 6)) gX2_replayAt_X0_end_n108 rfl rfl rfl (hN.m 6 rfl) (hts _ mw_X2_replayAt_10) (hts _ mw_X2_replayAt_9) (hts _ mw_X2_replayAt_11) (by decide +kernel) ⟨Nat.le_of_ble_eq_true rfl, Nat.le_of_ble_eq_true rfl⟩ (va_recv hK hP (ci := 0) (q0 := 3 + i) rfl (sl_aC hi)) rfl hl.1 rfl (Nat.le_of_ble_eq_true rfl) dX2_replayAt_21 ⟨Nat.zero_le _, Nat.zero_le _⟩ hK hN hD hP hS (fun H locs hP hS => ?_)
    refine W.eq (g2 := F0 m 24 ls [.int ((sp_X0_end σ i (3 : Int32) (σ (3 + i) 6)).1)]) rfl ?_
    have e_q : (sp_X2_replayAt σ i j) = (((sp_X0_end σ i (3 : Int32) (σ (3 + i) 6)).1), (sp_X0_end σ i (3 : Int32) (σ (3 + i) 6)).2) := by rw [sp_X2_replayAt, if_pos c_1]
    exact sl_iret hx hb hr hlocks hP hS (by rw [e_q]) (by rw [e_q]) rfl dX2_replayAt_24
def sp_X2_sealAt (σ : sl_M) (i : Nat) (j : Nat) : Int32 × sl_M := ((0 : Int32), (sl_up (sl_up (sl_up σ (6 + j) 0 ((σ (3 + i) 0) + (1 : Int32))) (3 + i) 11 (if ((sl_up σ (6 + j) 0 ((σ (3 + i) 0) + (1 : Int32))) (3 + i) 11) < (sp_X1_endOfWritten (sl_up σ (6 + j) 0 ((σ (3 + i) 0) + (1 : Int32))) j) then (sp_X1_endOfWritten (sl_up σ (6 + j) 0 ((σ (3 + i) 0) + (1 : Int32))) j) else ((sl_up σ (6 + j) 0 ((σ (3 + i) 0) + (1 : Int32))) (3 + i) 11))) (3 + i) 5 (sp_X2_withoutLowest ((sl_up (sl_up σ (6 + j) 0 ((σ (3 + i) 0) + (1 : Int32))) (3 + i) 11 (if ((sl_up σ (6 + j) 0 ((σ (3 + i) 0) + (1 : Int32))) (3 + i) 11) < (sp_X1_endOfWritten (sl_up σ (6 + j) 0 ((σ (3 + i) 0) + (1 : Int32))) j) then (sp_X1_endOfWritten (sl_up σ (6 + j) 0 ((σ (3 + i) 0) + (1 : Int32))) j) else ((sl_up σ (6 + j) 0 ((σ (3 + i) 0) + (1 : Int32))) (3 + i) 11))) (3 + i) 5))))
set_option maxHeartbeats 4000000 in
set_option maxRecDepth 100000 in
theorem c_X2_sealAt (l : Launch) (G : va_G) (cy : Nat → ClassId) (ad : Nat → Nat) (σ τ : sl_M) (i : Nat) (hi : i < 3) (j : Nat) (hj : j < 6) : sl_C l G cy ad yX2_sealAt wsX2_sealAt ({ frames := 1, cells := 0, slots := 0, locals := 32 }) [.ref (ad (3 + i)), .ref (ad (6 + j))] σ τ (some (.int (sp_X2_sealAt σ i j).1)) (sp_X2_sealAt σ i j).2 τ := by
  refine sl_of (cc := cX2_sealAt) (maxL := 2) (ret := (some .int)) (by decide) rfl (Nat.le_of_ble_eq_true rfl) ?_
  intro p e s m below meth c hx hb hr hml hts hown hlocks hK hN hD hP hS ls hl
  have hown : s.vm.findClass RX2 = some m.cls := hown
  have hl : lv_has ls 2 [(0, .ref (ad (3 + i))), (1, .ref (ad (6 + j)))] := hl
  have hi0 : ∀ w ∈ wsX00, w ∈ wsX2_sealAt := fun _ h => (List.mem_cons_of_mem _ (List.mem_append_left _ (List.mem_append_right _ h)))
  have hi1 : ∀ w ∈ wsX10, w ∈ wsX2_sealAt := fun _ h => (List.mem_cons_of_mem _ (List.mem_append_right _ h))
  refine lv_aload_n hx hb dX2_sealAt_0 rfl (lv_at hl 1 rfl) ?_
  refine lv_aload_n hx hb dX2_sealAt_1 rfl (lv_at hl 0 rfl) ?_
  refine va_getN (D := G) (ci := 0) (v := .int (σ (3 + i) 0)) (C := RX0) (T := TX0) (N := 12) hx hb hts hi0 hown hK hP (3 + i) (sl_aC hi) rfl 0 (by decide) (hN.f 11 rfl) (fun _ h9 => h9) rfl dX2_sealAt_2 ?_
  refine lv_iconst (v := (1 : Int32)) hx hb dX2_sealAt_5 (by decide) ?_
  refine lv_iadd hx hb dX2_sealAt_6 ?_
  refine sl_putUN hx hb hts hi1 hown hK hD hP hS hj 0 (by decide) rfl (tyX1_ok 0 (by decide)) rfl rfl (hN.f 10 rfl) dX2_sealAt_7 (fun H locs hP hS => ?_)
  refine lv_aload_n hx hb dX2_sealAt_10 rfl (lv_at hl 0 rfl) ?_
  refine lv_aload_n hx hb dX2_sealAt_11 rfl (lv_at hl 0 rfl) ?_
  refine va_getN (D := G) (ci := 0) (v := .int ((sl_up σ (6 + j) 0 ((σ (3 + i) 0) + (1 : Int32))) (3 + i) 11)) (C := RX0) (T := TX0) (N := 12) hx hb hts hi0 hown hK hP (3 + i) (sl_aC hi) rfl 11 (by decide) (hN.f 7 rfl) (fun _ h9 => h9) rfl dX2_sealAt_12 ?_
  refine lv_aload_n hx hb dX2_sealAt_15 rfl (lv_at hl 1 rfl) ?_
  refine sl_nV (n := 0) (As := []) (rest := [.int ((sl_up σ (6 + j) 0 ((σ (3 + i) 0) + (1 : Int32))) (3 + i) 11), .ref (ad (3 + i))]) ⟨hx, hb, hml, hown, hts⟩ (c_X1_endOfWritten l G cy ad (sl_up σ (6 + j) 0 ((σ (3 + i) 0) + (1 : Int32))) τ j hj) gX2_sealAt_X1_endOfWritten_n161 rfl rfl rfl (hN.m 11 rfl) (hts _ mw_X2_sealAt_6) (hts _ mw_X2_sealAt_5) (hts _ mw_X2_sealAt_7) (by decide +kernel) ⟨Nat.le_of_ble_eq_true rfl, Nat.le_of_ble_eq_true rfl⟩ (va_recv hK hP (ci := 1) (q0 := 6 + j) rfl (sl_aU hj)) rfl hl.1 rfl (Nat.le_of_ble_eq_true rfl) dX2_sealAt_16 ⟨Nat.zero_le _, Nat.zero_le _⟩ hK hN hD hP hS (fun H locs hP hS => ?_)
  refine W.eq (g2 := F0 m 19 ls [.int (sp_X1_endOfWritten (sl_up σ (6 + j) 0 ((σ (3 + i) 0) + (1 : Int32))) j), .int ((sl_up σ (6 + j) 0 ((σ (3 + i) 0) + (1 : Int32))) (3 + i) 11), .ref (ad (3 + i))]) rfl ?_
  refine va_mmax hx hb (hml.trans hl.1.symm) hown (hts _ mw_X2_sealAt_1) (hts _ mw_X2_sealAt_2) (hts _ mw_X2_sealAt_3) (hts (.code Lib.Math.max.name Lib.Math.max.code 2 (some .int)) (List.mem_of_getElem? (i := 4) rfl)) (Nat.le_of_ble_eq_true rfl) (Nat.le_of_ble_eq_true rfl) (Nat.zero_le _) (Nat.zero_le _) dX2_sealAt_19 ?_
  refine sl_putCN hx hb hts hi0 hown hK hD hP hS hi 11 (by decide) rfl (tyX0_ok 11 (by decide)) (hN.f 7 rfl) dX2_sealAt_22 (fun H locs hP hS => ?_)
  refine lv_aload_n hx hb dX2_sealAt_25 rfl (lv_at hl 0 rfl) ?_
  refine lv_aload_n hx hb dX2_sealAt_26 rfl (lv_at hl 0 rfl) ?_
  refine va_getN (D := G) (ci := 0) (v := .int ((sl_up (sl_up σ (6 + j) 0 ((σ (3 + i) 0) + (1 : Int32))) (3 + i) 11 (if ((sl_up σ (6 + j) 0 ((σ (3 + i) 0) + (1 : Int32))) (3 + i) 11) < (sp_X1_endOfWritten (sl_up σ (6 + j) 0 ((σ (3 + i) 0) + (1 : Int32))) j) then (sp_X1_endOfWritten (sl_up σ (6 + j) 0 ((σ (3 + i) 0) + (1 : Int32))) j) else ((sl_up σ (6 + j) 0 ((σ (3 + i) 0) + (1 : Int32))) (3 + i) 11))) (3 + i) 5)) (C := RX0) (T := TX0) (N := 12) hx hb hts hi0 hown hK hP (3 + i) (sl_aC hi) rfl 5 (by decide) (hN.f 8 rfl) (fun _ h9 => h9) rfl dX2_sealAt_27 ?_
  refine sl_cS (n := 1) (As := [.int ((sl_up (sl_up σ (6 + j) 0 ((σ (3 + i) 0) + (1 : Int32))) (3 + i) 11 (if ((sl_up σ (6 + j) 0 ((σ (3 + i) 0) + (1 : Int32))) (3 + i) 11) < (sp_X1_endOfWritten (sl_up σ (6 + j) 0 ((σ (3 + i) 0) + (1 : Int32))) j) then (sp_X1_endOfWritten (sl_up σ (6 + j) 0 ((σ (3 + i) 0) + (1 : Int32))) j) else ((sl_up σ (6 + j) 0 ((σ (3 + i) 0) + (1 : Int32))) (3 + i) 11))) (3 + i) 5)]) (rest := [.ref (ad (3 + i))]) ⟨hx, hb, hml, hown, hts⟩ (c_X2_withoutLowest l G cy ad (sl_up (sl_up σ (6 + j) 0 ((σ (3 + i) 0) + (1 : Int32))) (3 + i) 11 (if ((sl_up σ (6 + j) 0 ((σ (3 + i) 0) + (1 : Int32))) (3 + i) 11) < (sp_X1_endOfWritten (sl_up σ (6 + j) 0 ((σ (3 + i) 0) + (1 : Int32))) j) then (sp_X1_endOfWritten (sl_up σ (6 + j) 0 ((σ (3 + i) 0) + (1 : Int32))) j) else ((sl_up σ (6 + j) 0 ((σ (3 + i) 0) + (1 : Int32))) (3 + i) 11))) τ ((sl_up (sl_up σ (6 + j) 0 ((σ (3 + i) 0) + (1 : Int32))) (3 + i) 11 (if ((sl_up σ (6 + j) 0 ((σ (3 + i) 0) + (1 : Int32))) (3 + i) 11) < (sp_X1_endOfWritten (sl_up σ (6 + j) 0 ((σ (3 + i) 0) + (1 : Int32))) j) then (sp_X1_endOfWritten (sl_up σ (6 + j) 0 ((σ (3 + i) 0) + (1 : Int32))) j) else ((sl_up σ (6 + j) 0 ((σ (3 + i) 0) + (1 : Int32))) (3 + i) 11))) (3 + i) 5)) gX2_sealAt_X2_withoutLowest rfl rfl rfl (by decide +kernel) ⟨Nat.le_of_ble_eq_true rfl, Nat.le_of_ble_eq_true rfl⟩ rfl hl.1 rfl (Nat.le_of_ble_eq_true rfl) dX2_sealAt_30 ⟨Nat.zero_le _, Nat.zero_le _⟩ hK hN hD hP hS (fun H locs hP hS => ?_)
  refine W.eq (g2 := F0 m 33 ls [.int (sp_X2_withoutLowest ((sl_up (sl_up σ (6 + j) 0 ((σ (3 + i) 0) + (1 : Int32))) (3 + i) 11 (if ((sl_up σ (6 + j) 0 ((σ (3 + i) 0) + (1 : Int32))) (3 + i) 11) < (sp_X1_endOfWritten (sl_up σ (6 + j) 0 ((σ (3 + i) 0) + (1 : Int32))) j) then (sp_X1_endOfWritten (sl_up σ (6 + j) 0 ((σ (3 + i) 0) + (1 : Int32))) j) else ((sl_up σ (6 + j) 0 ((σ (3 + i) 0) + (1 : Int32))) (3 + i) 11))) (3 + i) 5)), .ref (ad (3 + i))]) rfl ?_
  refine sl_putCN hx hb hts hi0 hown hK hD hP hS hi 5 (by decide) rfl (tyX0_ok 5 (by decide)) (hN.f 8 rfl) dX2_sealAt_33 (fun H locs hP hS => ?_)
  refine lv_iconst (v := (0 : Int32)) hx hb dX2_sealAt_36 (by decide) ?_
  have e_q : (sp_X2_sealAt σ i j) = ((0 : Int32), (sl_up (sl_up (sl_up σ (6 + j) 0 ((σ (3 + i) 0) + (1 : Int32))) (3 + i) 11 (if ((sl_up σ (6 + j) 0 ((σ (3 + i) 0) + (1 : Int32))) (3 + i) 11) < (sp_X1_endOfWritten (sl_up σ (6 + j) 0 ((σ (3 + i) 0) + (1 : Int32))) j) then (sp_X1_endOfWritten (sl_up σ (6 + j) 0 ((σ (3 + i) 0) + (1 : Int32))) j) else ((sl_up σ (6 + j) 0 ((σ (3 + i) 0) + (1 : Int32))) (3 + i) 11))) (3 + i) 5 (sp_X2_withoutLowest ((sl_up (sl_up σ (6 + j) 0 ((σ (3 + i) 0) + (1 : Int32))) (3 + i) 11 (if ((sl_up σ (6 + j) 0 ((σ (3 + i) 0) + (1 : Int32))) (3 + i) 11) < (sp_X1_endOfWritten (sl_up σ (6 + j) 0 ((σ (3 + i) 0) + (1 : Int32))) j) then (sp_X1_endOfWritten (sl_up σ (6 + j) 0 ((σ (3 + i) 0) + (1 : Int32))) j) else ((sl_up σ (6 + j) 0 ((σ (3 + i) 0) + (1 : Int32))) (3 + i) 11))) (3 + i) 5)))) := by rw [sp_X2_sealAt]
  exact sl_iret hx hb hr hlocks hP hS (by rw [e_q]) (by rw [e_q]) rfl dX2_sealAt_37
def sp_X2_stepAtUnit (σ : sl_M) (i : Nat) (j : Nat) : Int32 × sl_M := 
  if (σ (3 + i) 2) = (1 : Int32) then (((sp_X2_appendAt σ i j).1), (sp_X2_appendAt σ i j).2)
  else if (σ (3 + i) 2) = (2 : Int32) then (((sp_X2_fillAt σ i j).1), (sp_X2_fillAt σ i j).2)
  else if (σ (3 + i) 2) = (3 : Int32) then (((sp_X2_readAt σ i j).1), (sp_X2_readAt σ i j).2)
  else if (σ (3 + i) 2) = (4 : Int32) then (((sp_X2_replayAt σ i j).1), (sp_X2_replayAt σ i j).2)
  else (((sp_X2_sealAt σ i j).1), (sp_X2_sealAt σ i j).2)
set_option maxHeartbeats 4000000 in
set_option maxRecDepth 100000 in
theorem c_X2_stepAtUnit (l : Launch) (G : va_G) (cy : Nat → ClassId) (ad : Nat → Nat) (σ τ : sl_M) (i : Nat) (hi : i < 3) (j : Nat) (hj : j < 6) : sl_C l G cy ad yX2_stepAtUnit wsX2_stepAtUnit ({ frames := 3, cells := 0, slots := 0, locals := 65 }) [.ref (ad (3 + i)), .ref (ad (6 + j))] σ τ (some (.int (sp_X2_stepAtUnit σ i j).1)) (sp_X2_stepAtUnit σ i j).2 τ := by
  refine sl_of (cc := cX2_stepAtUnit) (maxL := 2) (ret := (some .int)) (by decide) rfl (Nat.le_of_ble_eq_true rfl) ?_
  intro p e s m below meth c hx hb hr hml hts hown hlocks hK hN hD hP hS ls hl
  have hown : s.vm.findClass RX2 = some m.cls := hown
  have hl : lv_has ls 2 [(0, .ref (ad (3 + i))), (1, .ref (ad (6 + j)))] := hl
  have hi0 : ∀ w ∈ wsX00, w ∈ wsX2_stepAtUnit := fun _ h => (List.mem_cons_of_mem _ (List.mem_append_left _ (List.mem_append_right _ h)))
  refine lv_aload_n hx hb dX2_stepAtUnit_0 rfl (lv_at hl 0 rfl) ?_
  refine va_getN (D := G) (ci := 0) (v := .int (σ (3 + i) 2)) (C := RX0) (T := TX0) (N := 12) hx hb hts hi0 hown hK hP (3 + i) (sl_aC hi) rfl 2 (by decide) (hN.f 0 rfl) (fun _ h9 => h9) rfl dX2_stepAtUnit_1 ?_
  by_cases c_1 : (σ (3 + i) 2) = (1 : Int32)
  · refine lv_tableIn (off := 32) (tgt := 36) hx hb dX2_stepAtUnit_4 (by rw [c_1]; decide) (by rw [c_1]; decide) (by rw [c_1]; decide) (by decide) ?_
    refine lv_aload_n hx hb dX2_stepAtUnit_36 rfl (lv_at hl 0 rfl) ?_
    refine lv_aload_n hx hb dX2_stepAtUnit_37 rfl (lv_at hl 1 rfl) ?_
    refine sl_cS (n := 2) (As := [.ref (ad (3 + i)), .ref (ad (6 + j))]) (rest := []) ⟨hx, hb, hml, hown, hts⟩ (c_X2_appendAt l G cy ad σ τ i hi j hj) gX2_stepAtUnit_X2_appendAt rfl rfl rfl (by decide +kernel) ⟨Nat.le_of_ble_eq_true rfl, Nat.le_of_ble_eq_true rfl⟩ rfl hl.1 rfl (Nat.le_of_ble_eq_true rfl) dX2_stepAtUnit_38 ⟨Nat.zero_le _, Nat.zero_le _⟩ hK hN hD hP hS (fun H locs hP hS => ?_)
    refine W.eq (g2 := F0 m 41 ls [.int ((sp_X2_appendAt σ i j).1)]) rfl ?_
    have e_q : (sp_X2_stepAtUnit σ i j) = (((sp_X2_appendAt σ i j).1), (sp_X2_appendAt σ i j).2) := by rw [sp_X2_stepAtUnit, if_pos c_1]
    exact sl_iret hx hb hr hlocks hP hS (by rw [e_q]) (by rw [e_q]) rfl dX2_stepAtUnit_41
  · by_cases c_2 : (σ (3 + i) 2) = (2 : Int32)
    · refine lv_tableIn (off := 38) (tgt := 42) hx hb dX2_stepAtUnit_4 (by rw [c_2]; decide) (by rw [c_2]; decide) (by rw [c_2]; decide) (by decide) ?_
      refine lv_aload_n hx hb dX2_stepAtUnit_42 rfl (lv_at hl 0 rfl) ?_
      refine lv_aload_n hx hb dX2_stepAtUnit_43 rfl (lv_at hl 1 rfl) ?_
      refine sl_cS (n := 2) (As := [.ref (ad (3 + i)), .ref (ad (6 + j))]) (rest := []) ⟨hx, hb, hml, hown, hts⟩ (c_X2_fillAt l G cy ad σ τ i hi j hj) gX2_stepAtUnit_X2_fillAt rfl rfl rfl (by decide +kernel) ⟨Nat.le_of_ble_eq_true rfl, Nat.le_of_ble_eq_true rfl⟩ rfl hl.1 rfl (Nat.le_of_ble_eq_true rfl) dX2_stepAtUnit_44 ⟨Nat.zero_le _, Nat.zero_le _⟩ hK hN hD hP hS (fun H locs hP hS => ?_)
      refine W.eq (g2 := F0 m 47 ls [.int ((sp_X2_fillAt σ i j).1)]) rfl ?_
      have e_q : (sp_X2_stepAtUnit σ i j) = (((sp_X2_fillAt σ i j).1), (sp_X2_fillAt σ i j).2) := by rw [sp_X2_stepAtUnit, if_neg c_1, if_pos c_2]
      exact sl_iret hx hb hr hlocks hP hS (by rw [e_q]) (by rw [e_q]) rfl dX2_stepAtUnit_47
    · by_cases c_3 : (σ (3 + i) 2) = (3 : Int32)
      · refine lv_tableIn (off := 44) (tgt := 48) hx hb dX2_stepAtUnit_4 (by rw [c_3]; decide) (by rw [c_3]; decide) (by rw [c_3]; decide) (by decide) ?_
        refine lv_aload_n hx hb dX2_stepAtUnit_48 rfl (lv_at hl 0 rfl) ?_
        refine lv_aload_n hx hb dX2_stepAtUnit_49 rfl (lv_at hl 1 rfl) ?_
        refine sl_cS (n := 2) (As := [.ref (ad (3 + i)), .ref (ad (6 + j))]) (rest := []) ⟨hx, hb, hml, hown, hts⟩ (c_X2_readAt l G cy ad σ τ i hi j hj) gX2_stepAtUnit_X2_readAt rfl rfl rfl (by decide +kernel) ⟨Nat.le_of_ble_eq_true rfl, Nat.le_of_ble_eq_true rfl⟩ rfl hl.1 rfl (Nat.le_of_ble_eq_true rfl) dX2_stepAtUnit_50 ⟨Nat.zero_le _, Nat.zero_le _⟩ hK hN hD hP hS (fun H locs hP hS => ?_)
        refine W.eq (g2 := F0 m 53 ls [.int ((sp_X2_readAt σ i j).1)]) rfl ?_
        have e_q : (sp_X2_stepAtUnit σ i j) = (((sp_X2_readAt σ i j).1), (sp_X2_readAt σ i j).2) := by rw [sp_X2_stepAtUnit, if_neg c_1, if_neg c_2, if_pos c_3]
        exact sl_iret hx hb hr hlocks hP hS (by rw [e_q]) (by rw [e_q]) rfl dX2_stepAtUnit_53
      · by_cases c_4 : (σ (3 + i) 2) = (4 : Int32)
        · refine lv_tableIn (off := 50) (tgt := 54) hx hb dX2_stepAtUnit_4 (by rw [c_4]; decide) (by rw [c_4]; decide) (by rw [c_4]; decide) (by decide) ?_
          refine lv_aload_n hx hb dX2_stepAtUnit_54 rfl (lv_at hl 0 rfl) ?_
          refine lv_aload_n hx hb dX2_stepAtUnit_55 rfl (lv_at hl 1 rfl) ?_
          refine sl_cS (n := 2) (As := [.ref (ad (3 + i)), .ref (ad (6 + j))]) (rest := []) ⟨hx, hb, hml, hown, hts⟩ (c_X2_replayAt l G cy ad σ τ i hi j hj) gX2_stepAtUnit_X2_replayAt rfl rfl rfl (by decide +kernel) ⟨Nat.le_of_ble_eq_true rfl, Nat.le_of_ble_eq_true rfl⟩ rfl hl.1 rfl (Nat.le_of_ble_eq_true rfl) dX2_stepAtUnit_56 ⟨Nat.zero_le _, Nat.zero_le _⟩ hK hN hD hP hS (fun H locs hP hS => ?_)
          refine W.eq (g2 := F0 m 59 ls [.int ((sp_X2_replayAt σ i j).1)]) rfl ?_
          have e_q : (sp_X2_stepAtUnit σ i j) = (((sp_X2_replayAt σ i j).1), (sp_X2_replayAt σ i j).2) := by rw [sp_X2_stepAtUnit, if_neg c_1, if_neg c_2, if_neg c_3, if_pos c_4]
          exact sl_iret hx hb hr hlocks hP hS (by rw [e_q]) (by rw [e_q]) rfl dX2_stepAtUnit_59
        · refine lv_tableOut (tgt := 60) hx hb dX2_stepAtUnit_4 (by have h1 := lv_neT (a := 1) c_1 rfl; have h2 := lv_neT (a := 2) c_2 rfl; have h3 := lv_neT (a := 3) c_3 rfl; have h4 := lv_neT (a := 4) c_4 rfl; omega) (by decide) ?_
          refine lv_aload_n hx hb dX2_stepAtUnit_60 rfl (lv_at hl 0 rfl) ?_
          refine lv_aload_n hx hb dX2_stepAtUnit_61 rfl (lv_at hl 1 rfl) ?_
          refine sl_cS (n := 2) (As := [.ref (ad (3 + i)), .ref (ad (6 + j))]) (rest := []) ⟨hx, hb, hml, hown, hts⟩ (c_X2_sealAt l G cy ad σ τ i hi j hj) gX2_stepAtUnit_X2_sealAt rfl rfl rfl (by decide +kernel) ⟨Nat.le_of_ble_eq_true rfl, Nat.le_of_ble_eq_true rfl⟩ rfl hl.1 rfl (Nat.le_of_ble_eq_true rfl) dX2_stepAtUnit_62 ⟨Nat.zero_le _, Nat.zero_le _⟩ hK hN hD hP hS (fun H locs hP hS => ?_)
          refine W.eq (g2 := F0 m 65 ls [.int ((sp_X2_sealAt σ i j).1)]) rfl ?_
          have e_q : (sp_X2_stepAtUnit σ i j) = (((sp_X2_sealAt σ i j).1), (sp_X2_sealAt σ i j).2) := by rw [sp_X2_stepAtUnit, if_neg c_1, if_neg c_2, if_neg c_3, if_neg c_4]
          exact sl_iret hx hb hr hlocks hP hS (by rw [e_q]) (by rw [e_q]) rfl dX2_stepAtUnit_65
end
section
theorem sl_lowI {x : Int32} (h : ¬ sp_X2_lowestUnit x < 0) : vp_in (sp_X2_lowestUnit x) 6 := by
  revert h
  unfold sp_X2_lowestUnit
  repeat' split
  all_goals (intro h; first | (unfold vp_in; decide) | exact absurd (by decide) h)
def sp_X2_step_in (σ : sl_M) (q : Int32) : Int32 × sl_M := 
  if (σ (3 + q.toNatClampNeg) 2) = 0 then ((-2 : Int32), σ)
  else if (sp_X2_lowestUnit (σ (3 + q.toNatClampNeg) 5)) < 0 then (((sp_X2_stepWithoutUnit σ q.toNatClampNeg).1), (sp_X2_stepWithoutUnit σ q.toNatClampNeg).2)
  else if (σ (6 + (sp_X2_lowestUnit (σ (3 + q.toNatClampNeg) 5)).toNatClampNeg) 1) = 0 then ((-3 : Int32), σ)
  else if (σ (6 + (sp_X2_lowestUnit (σ (3 + q.toNatClampNeg) 5)).toNatClampNeg) 0) ≤ (sp_X0_newestEpochItBears σ q.toNatClampNeg) then (((sp_X2_stepAtUnit σ q.toNatClampNeg ((sp_X2_lowestUnit (σ (3 + q.toNatClampNeg) 5)).toNatClampNeg)).1), (sp_X2_stepAtUnit σ q.toNatClampNeg ((sp_X2_lowestUnit (σ (3 + q.toNatClampNeg) 5)).toNatClampNeg)).2)
  else (((sp_X0_end σ q.toNatClampNeg (2 : Int32) (0 : Int32)).1), (sp_X0_end σ q.toNatClampNeg (2 : Int32) (0 : Int32)).2)
set_option maxHeartbeats 4000000 in
set_option maxRecDepth 100000 in
theorem c_X2_step_in (l : Launch) (G : va_G) (cy : Nat → ClassId) (ad : Nat → Nat) (σ τ : sl_M) (q : Int32) (hc : vp_in q 3) : sl_C l G cy ad yX2_step wsX2_step ({ frames := 4, cells := 0, slots := 0, locals := 86 }) [.ref (ad (0)), .int q] σ τ (some (.int (sp_X2_step_in σ q).1)) (sp_X2_step_in σ q).2 τ := by
  refine sl_of (cc := cX2_step) (maxL := 4) (ret := (some .int)) (by decide) rfl (Nat.le_of_ble_eq_true rfl) ?_
  intro p e s m below meth c hx hb hr hml hts hown hlocks hK hN hD hP hS ls hl
  have hown : s.vm.findClass RX2 = some m.cls := hown
  have hl : lv_has ls 4 [(0, .ref (ad (0))), (1, .int q)] := hl
  have hi0 : ∀ w ∈ wsX00, w ∈ wsX2_step := fun _ h => (List.mem_cons_of_mem _ (List.mem_append_left _ (List.mem_append_left _ (List.mem_append_right _ h))))
  have hi1 : ∀ w ∈ wsX10, w ∈ wsX2_step := fun _ h => (List.mem_cons_of_mem _ (List.mem_append_left _ (List.mem_append_right _ h)))
  refine lv_aload_n hx hb dX2_step_0 rfl (lv_at hl 0 rfl) ?_
  refine lv_iload_n hx hb dX2_step_1 rfl (lv_at hl 1 rfl) ?_
  refine sl_cV (n := 1) (As := [.int q]) (rest := []) ⟨hx, hb, hml, hown, hts⟩ (c_X2_clientAt_in l G cy ad σ τ q hc) gX2_step_X2_clientAt rfl rfl rfl (by decide +kernel) ⟨Nat.le_of_ble_eq_true rfl, Nat.le_of_ble_eq_true rfl⟩ (va_recv hK hP (ci := 2) (q0 := 0) rfl sl_aL) rfl hl.1 rfl (Nat.le_of_ble_eq_true rfl) dX2_step_2 ⟨Nat.zero_le _, Nat.zero_le _⟩ hK hN hD hP hS (fun H locs hP hS => ?_)
  refine W.eq (g2 := F0 m 5 ls [.ref (ad (3 + q.toNatClampNeg))]) rfl ?_
  refine lv_astore_n (lv' := [(2, .ref (ad (3 + q.toNatClampNeg))), (0, .ref (ad (0))), (1, .int q)]) hx hb dX2_step_5 rfl hl (by decide) rfl (fun ls hl => ?_)
  refine lv_aload_n hx hb dX2_step_6 rfl (lv_at hl 0 rfl) ?_
  refine lv_ifnonnull (tgt := 12) hx hb dX2_step_7 (by decide) ?_
  refine lv_aload_n hx hb dX2_step_12 rfl (lv_at hl 0 rfl) ?_
  refine va_getN (D := G) (ci := 0) (v := .int (σ (3 + q.toNatClampNeg) 2)) (C := RX0) (T := TX0) (N := 12) hx hb hts hi0 hown hK hP (3 + q.toNatClampNeg) (sl_aC (sl_lt hc)) rfl 2 (by decide) (hN.f 0 rfl) (fun _ h9 => h9) rfl dX2_step_13 ?_
  refine lv_if_ne (tgt := 22) hx hb dX2_step_16 (by decide) (fun c_1 => ?_) (fun c_1 => ?_)
  · refine lv_aload_n hx hb dX2_step_22 rfl (lv_at hl 1 rfl) ?_
    refine lv_aload_n hx hb dX2_step_23 rfl (lv_at hl 0 rfl) ?_
    refine va_getN (D := G) (ci := 0) (v := .int (σ (3 + q.toNatClampNeg) 5)) (C := RX0) (T := TX0) (N := 12) hx hb hts hi0 hown hK hP (3 + q.toNatClampNeg) (sl_aC (sl_lt hc)) rfl 5 (by decide) (hN.f 8 rfl) (fun _ h9 => h9) rfl dX2_step_24 ?_
    refine sl_cS (n := 1) (As := [.int (σ (3 + q.toNatClampNeg) 5)]) (rest := [.ref (ad (0))]) ⟨hx, hb, hml, hown, hts⟩ (c_X2_lowestUnit l G cy ad σ τ (σ (3 + q.toNatClampNeg) 5)) gX2_step_X2_lowestUnit rfl rfl rfl (by decide +kernel) ⟨Nat.le_of_ble_eq_true rfl, Nat.le_of_ble_eq_true rfl⟩ rfl hl.1 rfl (Nat.le_of_ble_eq_true rfl) dX2_step_27 ⟨Nat.zero_le _, Nat.zero_le _⟩ hK hN hD hP hS (fun H locs hP hS => ?_)
    refine W.eq (g2 := F0 m 30 ls [.int (sp_X2_lowestUnit (σ (3 + q.toNatClampNeg) 5)), .ref (ad (0))]) rfl ?_
    by_cases c_2 : (sp_X2_lowestUnit (σ (3 + q.toNatClampNeg) 5)) < 0
    · refine sl_cV (n := 1) (As := [.int (sp_X2_lowestUnit (σ (3 + q.toNatClampNeg) 5))]) (rest := []) ⟨hx, hb, hml, hown, hts⟩ (c_X2_unitAt_neg l G cy ad σ τ (sp_X2_lowestUnit (σ (3 + q.toNatClampNeg) 5)) c_2) gX2_step_X2_unitAt rfl rfl rfl (by decide +kernel) ⟨Nat.le_of_ble_eq_true rfl, Nat.le_of_ble_eq_true rfl⟩ (va_recv hK hP (ci := 2) (q0 := 0) rfl sl_aL) rfl hl.1 rfl (Nat.le_of_ble_eq_true rfl) dX2_step_30 ⟨Nat.zero_le _, Nat.zero_le _⟩ hK hN hD hP hS (fun H locs hP hS => ?_)
      refine W.eq (g2 := F0 m 33 ls [.null]) rfl ?_
      refine lv_astore_nN (lv' := [(3, .null), (2, .ref (ad (3 + q.toNatClampNeg))), (0, .ref (ad (0))), (1, .int q)]) hx hb dX2_step_33 rfl hl (by decide) rfl (fun ls hl => ?_)
      refine lv_aload_nN hx hb dX2_step_34 rfl (lv_at hl 0 rfl) ?_
      refine lv_ifnonnullN hx hb dX2_step_35 ?_
      refine lv_aload_n hx hb dX2_step_38 rfl (lv_at hl 2 rfl) ?_
      refine lv_aload_n hx hb dX2_step_39 rfl (lv_at hl 1 rfl) ?_
      refine sl_cV (n := 1) (As := [.ref (ad (3 + q.toNatClampNeg))]) (rest := []) ⟨hx, hb, hml, hown, hts⟩ (c_X2_stepWithoutUnit l G cy ad σ τ q.toNatClampNeg (sl_lt hc)) gX2_step_X2_stepWithoutUnit rfl rfl rfl (by decide +kernel) ⟨Nat.le_of_ble_eq_true rfl, Nat.le_of_ble_eq_true rfl⟩ (va_recv hK hP (ci := 2) (q0 := 0) rfl sl_aL) rfl hl.1 rfl (Nat.le_of_ble_eq_true rfl) dX2_step_40 ⟨Nat.zero_le _, Nat.zero_le _⟩ hK hN hD hP hS (fun H locs hP hS => ?_)
      refine W.eq (g2 := F0 m 43 ls [.int ((sp_X2_stepWithoutUnit σ q.toNatClampNeg).1)]) rfl ?_
      have e_q : (sp_X2_step_in σ q) = (((sp_X2_stepWithoutUnit σ q.toNatClampNeg).1), (sp_X2_stepWithoutUnit σ q.toNatClampNeg).2) := by rw [sp_X2_step_in, if_neg c_1, if_pos c_2]
      exact sl_iret hx hb hr hlocks hP hS (by rw [e_q]) (by rw [e_q]) rfl dX2_step_43
    · refine sl_cV (n := 1) (As := [.int (sp_X2_lowestUnit (σ (3 + q.toNatClampNeg) 5))]) (rest := []) ⟨hx, hb, hml, hown, hts⟩ (c_X2_unitAt_in l G cy ad σ τ (sp_X2_lowestUnit (σ (3 + q.toNatClampNeg) 5)) (sl_lowI c_2)) gX2_step_X2_unitAt rfl rfl rfl (by decide +kernel) ⟨Nat.le_of_ble_eq_true rfl, Nat.le_of_ble_eq_true rfl⟩ (va_recv hK hP (ci := 2) (q0 := 0) rfl sl_aL) rfl hl.1 rfl (Nat.le_of_ble_eq_true rfl) dX2_step_30 ⟨Nat.zero_le _, Nat.zero_le _⟩ hK hN hD hP hS (fun H locs hP hS => ?_)
      refine W.eq (g2 := F0 m 33 ls [.ref (ad (6 + (sp_X2_lowestUnit (σ (3 + q.toNatClampNeg) 5)).toNatClampNeg))]) rfl ?_
      refine lv_astore_n (lv' := [(3, .ref (ad (6 + (sp_X2_lowestUnit (σ (3 + q.toNatClampNeg) 5)).toNatClampNeg))), (2, .ref (ad (3 + q.toNatClampNeg))), (0, .ref (ad (0))), (1, .int q)]) hx hb dX2_step_33 rfl hl (by decide) rfl (fun ls hl => ?_)
      refine lv_aload_n hx hb dX2_step_34 rfl (lv_at hl 0 rfl) ?_
      refine lv_ifnonnull (tgt := 44) hx hb dX2_step_35 (by decide) ?_
      refine lv_aload_n hx hb dX2_step_44 rfl (lv_at hl 0 rfl) ?_
      refine va_getN (D := G) (ci := 1) (v := .int (σ (6 + (sp_X2_lowestUnit (σ (3 + q.toNatClampNeg) 5)).toNatClampNeg) 1)) (C := RX1) (T := TX1) (N := 3) hx hb hts hi1 hown hK hP (6 + (sp_X2_lowestUnit (σ (3 + q.toNatClampNeg) 5)).toNatClampNeg) (sl_aU (sl_lt (sl_lowI c_2))) rfl 1 (by decide) (hN.f 9 rfl) (fun _ h9 => h9) rfl dX2_step_45 ?_
      refine lv_if_ne (tgt := 54) hx hb dX2_step_48 (by decide) (fun c_3 => ?_) (fun c_3 => ?_)
      · refine lv_aload_n hx hb dX2_step_54 rfl (lv_at hl 0 rfl) ?_
        refine va_getN (D := G) (ci := 1) (v := .int (σ (6 + (sp_X2_lowestUnit (σ (3 + q.toNatClampNeg) 5)).toNatClampNeg) 0)) (C := RX1) (T := TX1) (N := 3) hx hb hts hi1 hown hK hP (6 + (sp_X2_lowestUnit (σ (3 + q.toNatClampNeg) 5)).toNatClampNeg) (sl_aU (sl_lt (sl_lowI c_2))) rfl 0 (by decide) (hN.f 10 rfl) (fun _ h9 => h9) rfl dX2_step_55 ?_
        refine lv_aload_n hx hb dX2_step_58 rfl (lv_at hl 1 rfl) ?_
        refine sl_nV (n := 0) (As := []) (rest := [.int (σ (6 + (sp_X2_lowestUnit (σ (3 + q.toNatClampNeg) 5)).toNatClampNeg) 0)]) ⟨hx, hb, hml, hown, hts⟩ (c_X0_newestEpochItBears l G cy ad σ τ q.toNatClampNeg (sl_lt hc)) gX2_step_X0_newestEpochItBears_n105 rfl rfl rfl (hN.m 5 rfl) (hts _ mw_X2_step_26) (hts _ mw_X2_step_46) (hts _ mw_X2_step_47) (by decide +kernel) ⟨Nat.le_of_ble_eq_true rfl, Nat.le_of_ble_eq_true rfl⟩ (va_recv hK hP (ci := 0) (q0 := 3 + q.toNatClampNeg) rfl (sl_aC (sl_lt hc))) rfl hl.1 rfl (Nat.le_of_ble_eq_true rfl) dX2_step_59 ⟨Nat.zero_le _, Nat.zero_le _⟩ hK hN hD hP hS (fun H locs hP hS => ?_)
        refine W.eq (g2 := F0 m 62 ls [.int (sp_X0_newestEpochItBears σ q.toNatClampNeg), .int (σ (6 + (sp_X2_lowestUnit (σ (3 + q.toNatClampNeg) 5)).toNatClampNeg) 0)]) rfl ?_
        refine lv_icmp_le (tgt := 72) hx hb dX2_step_62 (by decide) (fun c_4 => ?_) (fun c_4 => ?_)
        · refine lv_aload_n hx hb dX2_step_72 rfl (lv_at hl 1 rfl) ?_
          refine lv_aload_n hx hb dX2_step_73 rfl (lv_at hl 0 rfl) ?_
          refine sl_cS (n := 2) (As := [.ref (ad (3 + q.toNatClampNeg)), .ref (ad (6 + (sp_X2_lowestUnit (σ (3 + q.toNatClampNeg) 5)).toNatClampNeg))]) (rest := []) ⟨hx, hb, hml, hown, hts⟩ (c_X2_stepAtUnit l G cy ad σ τ q.toNatClampNeg (sl_lt hc) ((sp_X2_lowestUnit (σ (3 + q.toNatClampNeg) 5)).toNatClampNeg) (sl_lt (sl_lowI c_2))) gX2_step_X2_stepAtUnit rfl rfl rfl (by decide +kernel) ⟨Nat.le_of_ble_eq_true rfl, Nat.le_of_ble_eq_true rfl⟩ rfl hl.1 rfl (Nat.le_of_ble_eq_true rfl) dX2_step_74 ⟨Nat.zero_le _, Nat.zero_le _⟩ hK hN hD hP hS (fun H locs hP hS => ?_)
          refine W.eq (g2 := F0 m 77 ls [.int ((sp_X2_stepAtUnit σ q.toNatClampNeg ((sp_X2_lowestUnit (σ (3 + q.toNatClampNeg) 5)).toNatClampNeg)).1)]) rfl ?_
          have e_q : (sp_X2_step_in σ q) = (((sp_X2_stepAtUnit σ q.toNatClampNeg ((sp_X2_lowestUnit (σ (3 + q.toNatClampNeg) 5)).toNatClampNeg)).1), (sp_X2_stepAtUnit σ q.toNatClampNeg ((sp_X2_lowestUnit (σ (3 + q.toNatClampNeg) 5)).toNatClampNeg)).2) := by rw [sp_X2_step_in, if_neg c_1, if_neg c_2, if_neg c_3, if_pos c_4]
          exact sl_iret hx hb hr hlocks hP hS (by rw [e_q]) (by rw [e_q]) rfl dX2_step_77
        · refine lv_aload_n hx hb dX2_step_65 rfl (lv_at hl 1 rfl) ?_
          refine lv_iconst (v := (2 : Int32)) hx hb dX2_step_66 (by decide) ?_
          refine lv_iconst (v := (0 : Int32)) hx hb dX2_step_67 (by decide) ?_
          refine sl_nV (n := 2) (As := [.int (2 : Int32), .int (0 : Int32)]) (rest := []) ⟨hx, hb, hml, hown, hts⟩ (c_X0_end l G cy ad σ τ q.toNatClampNeg (sl_lt hc) (2 : Int32) (0 : Int32)) gX2_step_X0_end_n108 rfl rfl rfl (hN.m 6 rfl) (hts _ mw_X2_step_26) (hts _ mw_X2_step_25) (hts _ mw_X2_step_27) (by decide +kernel) ⟨Nat.le_of_ble_eq_true rfl, Nat.le_of_ble_eq_true rfl⟩ (va_recv hK hP (ci := 0) (q0 := 3 + q.toNatClampNeg) rfl (sl_aC (sl_lt hc))) rfl hl.1 rfl (Nat.le_of_ble_eq_true rfl) dX2_step_68 ⟨Nat.zero_le _, Nat.zero_le _⟩ hK hN hD hP hS (fun H locs hP hS => ?_)
          refine W.eq (g2 := F0 m 71 ls [.int ((sp_X0_end σ q.toNatClampNeg (2 : Int32) (0 : Int32)).1)]) rfl ?_
          have e_q : (sp_X2_step_in σ q) = (((sp_X0_end σ q.toNatClampNeg (2 : Int32) (0 : Int32)).1), (sp_X0_end σ q.toNatClampNeg (2 : Int32) (0 : Int32)).2) := by rw [sp_X2_step_in, if_neg c_1, if_neg c_2, if_neg c_3, if_neg c_4]
          exact sl_iret hx hb hr hlocks hP hS (by rw [e_q]) (by rw [e_q]) rfl dX2_step_71
      · refine lv_bipush (v := (-3 : Int32)) hx hb dX2_step_51 (by decide) ?_
        have e_q : (sp_X2_step_in σ q) = ((-3 : Int32), σ) := by rw [sp_X2_step_in, if_neg c_1, if_neg c_2, if_pos c_3]
        exact sl_iret hx hb hr hlocks hP hS (by rw [e_q]) (by rw [e_q]) rfl dX2_step_53
  · refine lv_bipush (v := (-2 : Int32)) hx hb dX2_step_19 (by decide) ?_
    have e_q : (sp_X2_step_in σ q) = ((-2 : Int32), σ) := by rw [sp_X2_step_in, if_pos c_1]
    exact sl_iret hx hb hr hlocks hP hS (by rw [e_q]) (by rw [e_q]) rfl dX2_step_21
def sp_X2_append_in (σ : sl_M) (q : Int32) (a : Int32) : Int32 × sl_M := 
  if (σ (3 + q.toNatClampNeg) 2) = 0 then 
    if a < 0 then ((-3 : Int32), σ)
    else if a ≤ (1073741823 : Int32) then (((sp_X0_begin (sl_up σ (3 + q.toNatClampNeg) 7 a) q.toNatClampNeg (1 : Int32) (0 : Int32)).1), (sp_X0_begin (sl_up σ (3 + q.toNatClampNeg) 7 a) q.toNatClampNeg (1 : Int32) (0 : Int32)).2)
    else ((-3 : Int32), σ)
  else ((-2 : Int32), σ)
set_option maxHeartbeats 4000000 in
set_option maxRecDepth 100000 in
theorem c_X2_append_in (l : Launch) (G : va_G) (cy : Nat → ClassId) (ad : Nat → Nat) (σ τ : sl_M) (q : Int32) (a : Int32) (hc : vp_in q 3) : sl_C l G cy ad yX2_append wsX2_append ({ frames := 1, cells := 0, slots := 0, locals := 22 }) [.ref (ad (0)), .int q, .int a] σ τ (some (.int (sp_X2_append_in σ q a).1)) (sp_X2_append_in σ q a).2 τ := by
  refine sl_of (cc := cX2_append) (maxL := 4) (ret := (some .int)) (by decide) rfl (Nat.le_of_ble_eq_true rfl) ?_
  intro p e s m below meth c hx hb hr hml hts hown hlocks hK hN hD hP hS ls hl
  have hown : s.vm.findClass RX2 = some m.cls := hown
  have hl : lv_has ls 4 [(0, .ref (ad (0))), (1, .int q), (2, .int a)] := hl
  have hi0 : ∀ w ∈ wsX00, w ∈ wsX2_append := fun _ h => (List.mem_cons_of_mem _ (List.mem_append_left _ (List.mem_append_right _ h)))
  refine lv_aload_n hx hb dX2_append_0 rfl (lv_at hl 0 rfl) ?_
  refine lv_iload_n hx hb dX2_append_1 rfl (lv_at hl 1 rfl) ?_
  refine sl_cV (n := 1) (As := [.int q]) (rest := []) ⟨hx, hb, hml, hown, hts⟩ (c_X2_clientAt_in l G cy ad σ τ q hc) gX2_append_X2_clientAt rfl rfl rfl (by decide +kernel) ⟨Nat.le_of_ble_eq_true rfl, Nat.le_of_ble_eq_true rfl⟩ (va_recv hK hP (ci := 2) (q0 := 0) rfl sl_aL) rfl hl.1 rfl (Nat.le_of_ble_eq_true rfl) dX2_append_2 ⟨Nat.zero_le _, Nat.zero_le _⟩ hK hN hD hP hS (fun H locs hP hS => ?_)
  refine W.eq (g2 := F0 m 5 ls [.ref (ad (3 + q.toNatClampNeg))]) rfl ?_
  refine lv_astore_n (lv' := [(3, .ref (ad (3 + q.toNatClampNeg))), (0, .ref (ad (0))), (1, .int q), (2, .int a)]) hx hb dX2_append_5 rfl hl (by decide) rfl (fun ls hl => ?_)
  refine lv_aload_n hx hb dX2_append_6 rfl (lv_at hl 0 rfl) ?_
  refine lv_ifnonnull (tgt := 12) hx hb dX2_append_7 (by decide) ?_
  refine lv_aload_n hx hb dX2_append_12 rfl (lv_at hl 0 rfl) ?_
  refine va_getN (D := G) (ci := 0) (v := .int (σ (3 + q.toNatClampNeg) 2)) (C := RX0) (T := TX0) (N := 12) hx hb hts hi0 hown hK hP (3 + q.toNatClampNeg) (sl_aC (sl_lt hc)) rfl 2 (by decide) (hN.f 0 rfl) (fun _ h9 => h9) rfl dX2_append_13 ?_
  refine lv_if_eq (tgt := 22) hx hb dX2_append_16 (by decide) (fun c_1 => ?_) (fun c_1 => ?_)
  · refine lv_iload_n hx hb dX2_append_22 rfl (lv_at hl 3 rfl) ?_
    refine lv_if_lt (tgt := 32) hx hb dX2_append_23 (by decide) (fun c_2 => ?_) (fun c_2 => ?_)
    · refine lv_bipush (v := (-3 : Int32)) hx hb dX2_append_32 (by decide) ?_
      have e_q : (sp_X2_append_in σ q a) = ((-3 : Int32), σ) := by rw [sp_X2_append_in, if_pos c_1, if_pos c_2]
      exact sl_iret hx hb hr hlocks hP hS (by rw [e_q]) (by rw [e_q]) rfl dX2_append_34
    · refine lv_iload_n hx hb dX2_append_26 rfl (lv_at hl 3 rfl) ?_
      refine lv_ldc hx hb hown (hts _ mw_X2_append_1) dX2_append_27 ?_
      refine lv_icmp_le (tgt := 35) hx hb dX2_append_29 (by decide) (fun c_3 => ?_) (fun c_3 => ?_)
      · refine lv_aload_n hx hb dX2_append_35 rfl (lv_at hl 0 rfl) ?_
        refine lv_iload_n hx hb dX2_append_36 rfl (lv_at hl 3 rfl) ?_
        refine sl_putCN hx hb hts hi0 hown hK hD hP hS (sl_lt hc) 7 (by decide) rfl (tyX0_ok 7 (by decide)) (hN.f 1 rfl) dX2_append_37 (fun H locs hP hS => ?_)
        refine lv_aload_n hx hb dX2_append_40 rfl (lv_at hl 0 rfl) ?_
        refine lv_iconst (v := (1 : Int32)) hx hb dX2_append_41 (by decide) ?_
        refine lv_iconst (v := (0 : Int32)) hx hb dX2_append_42 (by decide) ?_
        refine sl_nV (n := 2) (As := [.int (1 : Int32), .int (0 : Int32)]) (rest := []) ⟨hx, hb, hml, hown, hts⟩ (c_X0_begin l G cy ad (sl_up σ (3 + q.toNatClampNeg) 7 a) τ q.toNatClampNeg (sl_lt hc) (1 : Int32) (0 : Int32)) gX2_append_X0_begin_n47 rfl rfl rfl (hN.m 2 rfl) (hts _ mw_X2_append_9) (hts _ mw_X2_append_8) (hts _ mw_X2_append_10) (by decide +kernel) ⟨Nat.le_of_ble_eq_true rfl, Nat.le_of_ble_eq_true rfl⟩ (va_recv hK hP (ci := 0) (q0 := 3 + q.toNatClampNeg) rfl (sl_aC (sl_lt hc))) rfl hl.1 rfl (Nat.le_of_ble_eq_true rfl) dX2_append_43 ⟨Nat.zero_le _, Nat.zero_le _⟩ hK hN hD hP hS (fun H locs hP hS => ?_)
        refine W.eq (g2 := F0 m 46 ls [.int ((sp_X0_begin (sl_up σ (3 + q.toNatClampNeg) 7 a) q.toNatClampNeg (1 : Int32) (0 : Int32)).1)]) rfl ?_
        have e_q : (sp_X2_append_in σ q a) = (((sp_X0_begin (sl_up σ (3 + q.toNatClampNeg) 7 a) q.toNatClampNeg (1 : Int32) (0 : Int32)).1), (sp_X0_begin (sl_up σ (3 + q.toNatClampNeg) 7 a) q.toNatClampNeg (1 : Int32) (0 : Int32)).2) := by rw [sp_X2_append_in, if_pos c_1, if_neg c_2, if_pos c_3]
        exact sl_iret hx hb hr hlocks hP hS (by rw [e_q]) (by rw [e_q]) rfl dX2_append_46
      · refine lv_bipush (v := (-3 : Int32)) hx hb dX2_append_32 (by decide) ?_
        have e_q : (sp_X2_append_in σ q a) = ((-3 : Int32), σ) := by rw [sp_X2_append_in, if_pos c_1, if_neg c_2, if_neg c_3]
        exact sl_iret hx hb hr hlocks hP hS (by rw [e_q]) (by rw [e_q]) rfl dX2_append_34
  · refine lv_bipush (v := (-2 : Int32)) hx hb dX2_append_19 (by decide) ?_
    have e_q : (sp_X2_append_in σ q a) = ((-2 : Int32), σ) := by rw [sp_X2_append_in, if_neg c_1]
    exact sl_iret hx hb hr hlocks hP hS (by rw [e_q]) (by rw [e_q]) rfl dX2_append_21
def sp_X2_fill_in (σ : sl_M) (q : Int32) (a : Int32) : Int32 × sl_M := 
  if (σ (3 + q.toNatClampNeg) 2) = 0 then 
    if (sp_X2_isPosition a) = 0 then ((-3 : Int32), σ)
    else (((sp_X0_begin (sl_up (sl_up σ (3 + q.toNatClampNeg) 6 a) (3 + q.toNatClampNeg) 7 (-1 : Int32)) q.toNatClampNeg (2 : Int32) (sp_X0_chainOf (sl_up (sl_up σ (3 + q.toNatClampNeg) 6 a) (3 + q.toNatClampNeg) 7 (-1 : Int32)) q.toNatClampNeg a)).1), (sp_X0_begin (sl_up (sl_up σ (3 + q.toNatClampNeg) 6 a) (3 + q.toNatClampNeg) 7 (-1 : Int32)) q.toNatClampNeg (2 : Int32) (sp_X0_chainOf (sl_up (sl_up σ (3 + q.toNatClampNeg) 6 a) (3 + q.toNatClampNeg) 7 (-1 : Int32)) q.toNatClampNeg a)).2)
  else ((-2 : Int32), σ)
set_option maxHeartbeats 4000000 in
set_option maxRecDepth 100000 in
theorem c_X2_fill_in (l : Launch) (G : va_G) (cy : Nat → ClassId) (ad : Nat → Nat) (σ τ : sl_M) (q : Int32) (a : Int32) (hc : vp_in q 3) : sl_C l G cy ad yX2_fill wsX2_fill ({ frames := 1, cells := 0, slots := 0, locals := 22 }) [.ref (ad (0)), .int q, .int a] σ τ (some (.int (sp_X2_fill_in σ q a).1)) (sp_X2_fill_in σ q a).2 τ := by
  refine sl_of (cc := cX2_fill) (maxL := 4) (ret := (some .int)) (by decide) rfl (Nat.le_of_ble_eq_true rfl) ?_
  intro p e s m below meth c hx hb hr hml hts hown hlocks hK hN hD hP hS ls hl
  have hown : s.vm.findClass RX2 = some m.cls := hown
  have hl : lv_has ls 4 [(0, .ref (ad (0))), (1, .int q), (2, .int a)] := hl
  have hi0 : ∀ w ∈ wsX00, w ∈ wsX2_fill := fun _ h => (List.mem_cons_of_mem _ (List.mem_append_left _ (List.mem_append_right _ h)))
  refine lv_aload_n hx hb dX2_fill_0 rfl (lv_at hl 0 rfl) ?_
  refine lv_iload_n hx hb dX2_fill_1 rfl (lv_at hl 1 rfl) ?_
  refine sl_cV (n := 1) (As := [.int q]) (rest := []) ⟨hx, hb, hml, hown, hts⟩ (c_X2_clientAt_in l G cy ad σ τ q hc) gX2_fill_X2_clientAt rfl rfl rfl (by decide +kernel) ⟨Nat.le_of_ble_eq_true rfl, Nat.le_of_ble_eq_true rfl⟩ (va_recv hK hP (ci := 2) (q0 := 0) rfl sl_aL) rfl hl.1 rfl (Nat.le_of_ble_eq_true rfl) dX2_fill_2 ⟨Nat.zero_le _, Nat.zero_le _⟩ hK hN hD hP hS (fun H locs hP hS => ?_)
  refine W.eq (g2 := F0 m 5 ls [.ref (ad (3 + q.toNatClampNeg))]) rfl ?_
  refine lv_astore_n (lv' := [(3, .ref (ad (3 + q.toNatClampNeg))), (0, .ref (ad (0))), (1, .int q), (2, .int a)]) hx hb dX2_fill_5 rfl hl (by decide) rfl (fun ls hl => ?_)
  refine lv_aload_n hx hb dX2_fill_6 rfl (lv_at hl 0 rfl) ?_
  refine lv_ifnonnull (tgt := 12) hx hb dX2_fill_7 (by decide) ?_
  refine lv_aload_n hx hb dX2_fill_12 rfl (lv_at hl 0 rfl) ?_
  refine va_getN (D := G) (ci := 0) (v := .int (σ (3 + q.toNatClampNeg) 2)) (C := RX0) (T := TX0) (N := 12) hx hb hts hi0 hown hK hP (3 + q.toNatClampNeg) (sl_aC (sl_lt hc)) rfl 2 (by decide) (hN.f 0 rfl) (fun _ h9 => h9) rfl dX2_fill_13 ?_
  refine lv_if_eq (tgt := 22) hx hb dX2_fill_16 (by decide) (fun c_1 => ?_) (fun c_1 => ?_)
  · refine lv_iload_n hx hb dX2_fill_22 rfl (lv_at hl 3 rfl) ?_
    refine sl_cS (n := 1) (As := [.int a]) (rest := []) ⟨hx, hb, hml, hown, hts⟩ (c_X2_isPosition l G cy ad σ τ a) gX2_fill_X2_isPosition rfl rfl rfl (by decide +kernel) ⟨Nat.le_of_ble_eq_true rfl, Nat.le_of_ble_eq_true rfl⟩ rfl hl.1 rfl (Nat.le_of_ble_eq_true rfl) dX2_fill_23 ⟨Nat.zero_le _, Nat.zero_le _⟩ hK hN hD hP hS (fun H locs hP hS => ?_)
    refine W.eq (g2 := F0 m 26 ls [.int (sp_X2_isPosition a)]) rfl ?_
    refine lv_if_ne (tgt := 32) hx hb dX2_fill_26 (by decide) (fun c_2 => ?_) (fun c_2 => ?_)
    · refine lv_aload_n hx hb dX2_fill_32 rfl (lv_at hl 0 rfl) ?_
      refine lv_iload_n hx hb dX2_fill_33 rfl (lv_at hl 3 rfl) ?_
      refine sl_putCN hx hb hts hi0 hown hK hD hP hS (sl_lt hc) 6 (by decide) rfl (tyX0_ok 6 (by decide)) (hN.f 2 rfl) dX2_fill_34 (fun H locs hP hS => ?_)
      refine lv_aload_n hx hb dX2_fill_37 rfl (lv_at hl 0 rfl) ?_
      refine lv_iconst (v := (-1 : Int32)) hx hb dX2_fill_38 (by decide) ?_
      refine sl_putCN hx hb hts hi0 hown hK hD hP hS (sl_lt hc) 7 (by decide) rfl (tyX0_ok 7 (by decide)) (hN.f 1 rfl) dX2_fill_39 (fun H locs hP hS => ?_)
      refine lv_aload_n hx hb dX2_fill_42 rfl (lv_at hl 0 rfl) ?_
      refine lv_iconst (v := (2 : Int32)) hx hb dX2_fill_43 (by decide) ?_
      refine lv_aload_n hx hb dX2_fill_44 rfl (lv_at hl 0 rfl) ?_
      refine lv_iload_n hx hb dX2_fill_45 rfl (lv_at hl 3 rfl) ?_
      refine sl_nV (n := 1) (As := [.int a]) (rest := [.int (2 : Int32), .ref (ad (3 + q.toNatClampNeg))]) ⟨hx, hb, hml, hown, hts⟩ (c_X0_chainOf l G cy ad (sl_up (sl_up σ (3 + q.toNatClampNeg) 6 a) (3 + q.toNatClampNeg) 7 (-1 : Int32)) τ q.toNatClampNeg (sl_lt hc) a) gX2_fill_X0_chainOf_n58 rfl rfl rfl (hN.m 3 rfl) (hts _ mw_X2_fill_11) (hts _ mw_X2_fill_10) (hts _ mw_X2_fill_12) (by decide +kernel) ⟨Nat.le_of_ble_eq_true rfl, Nat.le_of_ble_eq_true rfl⟩ (va_recv hK hP (ci := 0) (q0 := 3 + q.toNatClampNeg) rfl (sl_aC (sl_lt hc))) rfl hl.1 rfl (Nat.le_of_ble_eq_true rfl) dX2_fill_46 ⟨Nat.zero_le _, Nat.zero_le _⟩ hK hN hD hP hS (fun H locs hP hS => ?_)
      refine W.eq (g2 := F0 m 49 ls [.int (sp_X0_chainOf (sl_up (sl_up σ (3 + q.toNatClampNeg) 6 a) (3 + q.toNatClampNeg) 7 (-1 : Int32)) q.toNatClampNeg a), .int (2 : Int32), .ref (ad (3 + q.toNatClampNeg))]) rfl ?_
      refine sl_nV (n := 2) (As := [.int (2 : Int32), .int (sp_X0_chainOf (sl_up (sl_up σ (3 + q.toNatClampNeg) 6 a) (3 + q.toNatClampNeg) 7 (-1 : Int32)) q.toNatClampNeg a)]) (rest := []) ⟨hx, hb, hml, hown, hts⟩ (c_X0_begin l G cy ad (sl_up (sl_up σ (3 + q.toNatClampNeg) 6 a) (3 + q.toNatClampNeg) 7 (-1 : Int32)) τ q.toNatClampNeg (sl_lt hc) (2 : Int32) (sp_X0_chainOf (sl_up (sl_up σ (3 + q.toNatClampNeg) 6 a) (3 + q.toNatClampNeg) 7 (-1 : Int32)) q.toNatClampNeg a)) gX2_fill_X0_begin_n47 rfl rfl rfl (hN.m 2 rfl) (hts _ mw_X2_fill_11) (hts _ mw_X2_fill_15) (hts _ mw_X2_fill_16) (by decide +kernel) ⟨Nat.le_of_ble_eq_true rfl, Nat.le_of_ble_eq_true rfl⟩ (va_recv hK hP (ci := 0) (q0 := 3 + q.toNatClampNeg) rfl (sl_aC (sl_lt hc))) rfl hl.1 rfl (Nat.le_of_ble_eq_true rfl) dX2_fill_49 ⟨Nat.zero_le _, Nat.zero_le _⟩ hK hN hD hP hS (fun H locs hP hS => ?_)
      refine W.eq (g2 := F0 m 52 ls [.int ((sp_X0_begin (sl_up (sl_up σ (3 + q.toNatClampNeg) 6 a) (3 + q.toNatClampNeg) 7 (-1 : Int32)) q.toNatClampNeg (2 : Int32) (sp_X0_chainOf (sl_up (sl_up σ (3 + q.toNatClampNeg) 6 a) (3 + q.toNatClampNeg) 7 (-1 : Int32)) q.toNatClampNeg a)).1)]) rfl ?_
      have e_q : (sp_X2_fill_in σ q a) = (((sp_X0_begin (sl_up (sl_up σ (3 + q.toNatClampNeg) 6 a) (3 + q.toNatClampNeg) 7 (-1 : Int32)) q.toNatClampNeg (2 : Int32) (sp_X0_chainOf (sl_up (sl_up σ (3 + q.toNatClampNeg) 6 a) (3 + q.toNatClampNeg) 7 (-1 : Int32)) q.toNatClampNeg a)).1), (sp_X0_begin (sl_up (sl_up σ (3 + q.toNatClampNeg) 6 a) (3 + q.toNatClampNeg) 7 (-1 : Int32)) q.toNatClampNeg (2 : Int32) (sp_X0_chainOf (sl_up (sl_up σ (3 + q.toNatClampNeg) 6 a) (3 + q.toNatClampNeg) 7 (-1 : Int32)) q.toNatClampNeg a)).2) := by rw [sp_X2_fill_in, if_pos c_1, if_neg c_2]
      exact sl_iret hx hb hr hlocks hP hS (by rw [e_q]) (by rw [e_q]) rfl dX2_fill_52
    · refine lv_bipush (v := (-3 : Int32)) hx hb dX2_fill_29 (by decide) ?_
      have e_q : (sp_X2_fill_in σ q a) = ((-3 : Int32), σ) := by rw [sp_X2_fill_in, if_pos c_1, if_pos c_2]
      exact sl_iret hx hb hr hlocks hP hS (by rw [e_q]) (by rw [e_q]) rfl dX2_fill_31
  · refine lv_bipush (v := (-2 : Int32)) hx hb dX2_fill_19 (by decide) ?_
    have e_q : (sp_X2_fill_in σ q a) = ((-2 : Int32), σ) := by rw [sp_X2_fill_in, if_neg c_1]
    exact sl_iret hx hb hr hlocks hP hS (by rw [e_q]) (by rw [e_q]) rfl dX2_fill_21
def sp_X2_read_in (σ : sl_M) (q : Int32) (a : Int32) : Int32 × sl_M := 
  if (σ (3 + q.toNatClampNeg) 2) = 0 then 
    if (sp_X2_isPosition a) = 0 then ((-3 : Int32), σ)
    else (((sp_X0_begin (sl_up σ (3 + q.toNatClampNeg) 6 a) q.toNatClampNeg (3 : Int32) (sp_X2_highestOf (sp_X0_chainOf (sl_up σ (3 + q.toNatClampNeg) 6 a) q.toNatClampNeg a))).1), (sp_X0_begin (sl_up σ (3 + q.toNatClampNeg) 6 a) q.toNatClampNeg (3 : Int32) (sp_X2_highestOf (sp_X0_chainOf (sl_up σ (3 + q.toNatClampNeg) 6 a) q.toNatClampNeg a))).2)
  else ((-2 : Int32), σ)
set_option maxHeartbeats 4000000 in
set_option maxRecDepth 100000 in
theorem c_X2_read_in (l : Launch) (G : va_G) (cy : Nat → ClassId) (ad : Nat → Nat) (σ τ : sl_M) (q : Int32) (a : Int32) (hc : vp_in q 3) : sl_C l G cy ad yX2_read wsX2_read ({ frames := 1, cells := 0, slots := 0, locals := 22 }) [.ref (ad (0)), .int q, .int a] σ τ (some (.int (sp_X2_read_in σ q a).1)) (sp_X2_read_in σ q a).2 τ := by
  refine sl_of (cc := cX2_read) (maxL := 4) (ret := (some .int)) (by decide) rfl (Nat.le_of_ble_eq_true rfl) ?_
  intro p e s m below meth c hx hb hr hml hts hown hlocks hK hN hD hP hS ls hl
  have hown : s.vm.findClass RX2 = some m.cls := hown
  have hl : lv_has ls 4 [(0, .ref (ad (0))), (1, .int q), (2, .int a)] := hl
  have hi0 : ∀ w ∈ wsX00, w ∈ wsX2_read := fun _ h => (List.mem_cons_of_mem _ (List.mem_append_left _ (List.mem_append_right _ h)))
  refine lv_aload_n hx hb dX2_read_0 rfl (lv_at hl 0 rfl) ?_
  refine lv_iload_n hx hb dX2_read_1 rfl (lv_at hl 1 rfl) ?_
  refine sl_cV (n := 1) (As := [.int q]) (rest := []) ⟨hx, hb, hml, hown, hts⟩ (c_X2_clientAt_in l G cy ad σ τ q hc) gX2_read_X2_clientAt rfl rfl rfl (by decide +kernel) ⟨Nat.le_of_ble_eq_true rfl, Nat.le_of_ble_eq_true rfl⟩ (va_recv hK hP (ci := 2) (q0 := 0) rfl sl_aL) rfl hl.1 rfl (Nat.le_of_ble_eq_true rfl) dX2_read_2 ⟨Nat.zero_le _, Nat.zero_le _⟩ hK hN hD hP hS (fun H locs hP hS => ?_)
  refine W.eq (g2 := F0 m 5 ls [.ref (ad (3 + q.toNatClampNeg))]) rfl ?_
  refine lv_astore_n (lv' := [(3, .ref (ad (3 + q.toNatClampNeg))), (0, .ref (ad (0))), (1, .int q), (2, .int a)]) hx hb dX2_read_5 rfl hl (by decide) rfl (fun ls hl => ?_)
  refine lv_aload_n hx hb dX2_read_6 rfl (lv_at hl 0 rfl) ?_
  refine lv_ifnonnull (tgt := 12) hx hb dX2_read_7 (by decide) ?_
  refine lv_aload_n hx hb dX2_read_12 rfl (lv_at hl 0 rfl) ?_
  refine va_getN (D := G) (ci := 0) (v := .int (σ (3 + q.toNatClampNeg) 2)) (C := RX0) (T := TX0) (N := 12) hx hb hts hi0 hown hK hP (3 + q.toNatClampNeg) (sl_aC (sl_lt hc)) rfl 2 (by decide) (hN.f 0 rfl) (fun _ h9 => h9) rfl dX2_read_13 ?_
  refine lv_if_eq (tgt := 22) hx hb dX2_read_16 (by decide) (fun c_1 => ?_) (fun c_1 => ?_)
  · refine lv_iload_n hx hb dX2_read_22 rfl (lv_at hl 3 rfl) ?_
    refine sl_cS (n := 1) (As := [.int a]) (rest := []) ⟨hx, hb, hml, hown, hts⟩ (c_X2_isPosition l G cy ad σ τ a) gX2_read_X2_isPosition rfl rfl rfl (by decide +kernel) ⟨Nat.le_of_ble_eq_true rfl, Nat.le_of_ble_eq_true rfl⟩ rfl hl.1 rfl (Nat.le_of_ble_eq_true rfl) dX2_read_23 ⟨Nat.zero_le _, Nat.zero_le _⟩ hK hN hD hP hS (fun H locs hP hS => ?_)
    refine W.eq (g2 := F0 m 26 ls [.int (sp_X2_isPosition a)]) rfl ?_
    refine lv_if_ne (tgt := 32) hx hb dX2_read_26 (by decide) (fun c_2 => ?_) (fun c_2 => ?_)
    · refine lv_aload_n hx hb dX2_read_32 rfl (lv_at hl 0 rfl) ?_
      refine lv_iload_n hx hb dX2_read_33 rfl (lv_at hl 3 rfl) ?_
      refine sl_putCN hx hb hts hi0 hown hK hD hP hS (sl_lt hc) 6 (by decide) rfl (tyX0_ok 6 (by decide)) (hN.f 2 rfl) dX2_read_34 (fun H locs hP hS => ?_)
      refine lv_aload_n hx hb dX2_read_37 rfl (lv_at hl 0 rfl) ?_
      refine lv_iconst (v := (3 : Int32)) hx hb dX2_read_38 (by decide) ?_
      refine lv_aload_n hx hb dX2_read_39 rfl (lv_at hl 0 rfl) ?_
      refine lv_iload_n hx hb dX2_read_40 rfl (lv_at hl 3 rfl) ?_
      refine sl_nV (n := 1) (As := [.int a]) (rest := [.int (3 : Int32), .ref (ad (3 + q.toNatClampNeg))]) ⟨hx, hb, hml, hown, hts⟩ (c_X0_chainOf l G cy ad (sl_up σ (3 + q.toNatClampNeg) 6 a) τ q.toNatClampNeg (sl_lt hc) a) gX2_read_X0_chainOf_n58 rfl rfl rfl (hN.m 3 rfl) (hts _ mw_X2_read_11) (hts _ mw_X2_read_10) (hts _ mw_X2_read_12) (by decide +kernel) ⟨Nat.le_of_ble_eq_true rfl, Nat.le_of_ble_eq_true rfl⟩ (va_recv hK hP (ci := 0) (q0 := 3 + q.toNatClampNeg) rfl (sl_aC (sl_lt hc))) rfl hl.1 rfl (Nat.le_of_ble_eq_true rfl) dX2_read_41 ⟨Nat.zero_le _, Nat.zero_le _⟩ hK hN hD hP hS (fun H locs hP hS => ?_)
      refine W.eq (g2 := F0 m 44 ls [.int (sp_X0_chainOf (sl_up σ (3 + q.toNatClampNeg) 6 a) q.toNatClampNeg a), .int (3 : Int32), .ref (ad (3 + q.toNatClampNeg))]) rfl ?_
      refine sl_cS (n := 1) (As := [.int (sp_X0_chainOf (sl_up σ (3 + q.toNatClampNeg) 6 a) q.toNatClampNeg a)]) (rest := [.int (3 : Int32), .ref (ad (3 + q.toNatClampNeg))]) ⟨hx, hb, hml, hown, hts⟩ (c_X2_highestOf l G cy ad (sl_up σ (3 + q.toNatClampNeg) 6 a) τ (sp_X0_chainOf (sl_up σ (3 + q.toNatClampNeg) 6 a) q.toNatClampNeg a)) gX2_read_X2_highestOf rfl rfl rfl (by decide +kernel) ⟨Nat.le_of_ble_eq_true rfl, Nat.le_of_ble_eq_true rfl⟩ rfl hl.1 rfl (Nat.le_of_ble_eq_true rfl) dX2_read_44 ⟨Nat.zero_le _, Nat.zero_le _⟩ hK hN hD hP hS (fun H locs hP hS => ?_)
      refine W.eq (g2 := F0 m 47 ls [.int (sp_X2_highestOf (sp_X0_chainOf (sl_up σ (3 + q.toNatClampNeg) 6 a) q.toNatClampNeg a)), .int (3 : Int32), .ref (ad (3 + q.toNatClampNeg))]) rfl ?_
      refine sl_nV (n := 2) (As := [.int (3 : Int32), .int (sp_X2_highestOf (sp_X0_chainOf (sl_up σ (3 + q.toNatClampNeg) 6 a) q.toNatClampNeg a))]) (rest := []) ⟨hx, hb, hml, hown, hts⟩ (c_X0_begin l G cy ad (sl_up σ (3 + q.toNatClampNeg) 6 a) τ q.toNatClampNeg (sl_lt hc) (3 : Int32) (sp_X2_highestOf (sp_X0_chainOf (sl_up σ (3 + q.toNatClampNeg) 6 a) q.toNatClampNeg a))) gX2_read_X0_begin_n47 rfl rfl rfl (hN.m 2 rfl) (hts _ mw_X2_read_11) (hts _ mw_X2_read_18) (hts _ mw_X2_read_19) (by decide +kernel) ⟨Nat.le_of_ble_eq_true rfl, Nat.le_of_ble_eq_true rfl⟩ (va_recv hK hP (ci := 0) (q0 := 3 + q.toNatClampNeg) rfl (sl_aC (sl_lt hc))) rfl hl.1 rfl (Nat.le_of_ble_eq_true rfl) dX2_read_47 ⟨Nat.zero_le _, Nat.zero_le _⟩ hK hN hD hP hS (fun H locs hP hS => ?_)
      refine W.eq (g2 := F0 m 50 ls [.int ((sp_X0_begin (sl_up σ (3 + q.toNatClampNeg) 6 a) q.toNatClampNeg (3 : Int32) (sp_X2_highestOf (sp_X0_chainOf (sl_up σ (3 + q.toNatClampNeg) 6 a) q.toNatClampNeg a))).1)]) rfl ?_
      have e_q : (sp_X2_read_in σ q a) = (((sp_X0_begin (sl_up σ (3 + q.toNatClampNeg) 6 a) q.toNatClampNeg (3 : Int32) (sp_X2_highestOf (sp_X0_chainOf (sl_up σ (3 + q.toNatClampNeg) 6 a) q.toNatClampNeg a))).1), (sp_X0_begin (sl_up σ (3 + q.toNatClampNeg) 6 a) q.toNatClampNeg (3 : Int32) (sp_X2_highestOf (sp_X0_chainOf (sl_up σ (3 + q.toNatClampNeg) 6 a) q.toNatClampNeg a))).2) := by rw [sp_X2_read_in, if_pos c_1, if_neg c_2]
      exact sl_iret hx hb hr hlocks hP hS (by rw [e_q]) (by rw [e_q]) rfl dX2_read_50
    · refine lv_bipush (v := (-3 : Int32)) hx hb dX2_read_29 (by decide) ?_
      have e_q : (sp_X2_read_in σ q a) = ((-3 : Int32), σ) := by rw [sp_X2_read_in, if_pos c_1, if_pos c_2]
      exact sl_iret hx hb hr hlocks hP hS (by rw [e_q]) (by rw [e_q]) rfl dX2_read_31
  · refine lv_bipush (v := (-2 : Int32)) hx hb dX2_read_19 (by decide) ?_
    have e_q : (sp_X2_read_in σ q a) = ((-2 : Int32), σ) := by rw [sp_X2_read_in, if_neg c_1]
    exact sl_iret hx hb hr hlocks hP hS (by rw [e_q]) (by rw [e_q]) rfl dX2_read_21
def sp_X2_replay_in (σ : sl_M) (q : Int32) (a : Int32) : Int32 × sl_M := 
  if (σ (3 + q.toNatClampNeg) 2) = 0 then 
    if a < 0 then ((-3 : Int32), σ)
    else if a ≤ (32 : Int32) then (((sp_X0_begin (sl_up (sl_up (sl_up σ (3 + q.toNatClampNeg) 6 (0 : Int32)) (3 + q.toNatClampNeg) 8 a) (3 + q.toNatClampNeg) 9 (0 : Int32)) q.toNatClampNeg (4 : Int32) (sp_X0_replayRoute (sl_up (sl_up (sl_up σ (3 + q.toNatClampNeg) 6 (0 : Int32)) (3 + q.toNatClampNeg) 8 a) (3 + q.toNatClampNeg) 9 (0 : Int32)) q.toNatClampNeg)).1), (sp_X0_begin (sl_up (sl_up (sl_up σ (3 + q.toNatClampNeg) 6 (0 : Int32)) (3 + q.toNatClampNeg) 8 a) (3 + q.toNatClampNeg) 9 (0 : Int32)) q.toNatClampNeg (4 : Int32) (sp_X0_replayRoute (sl_up (sl_up (sl_up σ (3 + q.toNatClampNeg) 6 (0 : Int32)) (3 + q.toNatClampNeg) 8 a) (3 + q.toNatClampNeg) 9 (0 : Int32)) q.toNatClampNeg)).2)
    else ((-3 : Int32), σ)
  else ((-2 : Int32), σ)
set_option maxHeartbeats 4000000 in
set_option maxRecDepth 100000 in
theorem c_X2_replay_in (l : Launch) (G : va_G) (cy : Nat → ClassId) (ad : Nat → Nat) (σ τ : sl_M) (q : Int32) (a : Int32) (hc : vp_in q 3) : sl_C l G cy ad yX2_replay wsX2_replay ({ frames := 2, cells := 0, slots := 0, locals := 41 }) [.ref (ad (0)), .int q, .int a] σ τ (some (.int (sp_X2_replay_in σ q a).1)) (sp_X2_replay_in σ q a).2 τ := by
  refine sl_of (cc := cX2_replay) (maxL := 4) (ret := (some .int)) (by decide) rfl (Nat.le_of_ble_eq_true rfl) ?_
  intro p e s m below meth c hx hb hr hml hts hown hlocks hK hN hD hP hS ls hl
  have hown : s.vm.findClass RX2 = some m.cls := hown
  have hl : lv_has ls 4 [(0, .ref (ad (0))), (1, .int q), (2, .int a)] := hl
  have hi0 : ∀ w ∈ wsX00, w ∈ wsX2_replay := fun _ h => (List.mem_cons_of_mem _ (List.mem_append_left _ (List.mem_append_right _ h)))
  refine lv_aload_n hx hb dX2_replay_0 rfl (lv_at hl 0 rfl) ?_
  refine lv_iload_n hx hb dX2_replay_1 rfl (lv_at hl 1 rfl) ?_
  refine sl_cV (n := 1) (As := [.int q]) (rest := []) ⟨hx, hb, hml, hown, hts⟩ (c_X2_clientAt_in l G cy ad σ τ q hc) gX2_replay_X2_clientAt rfl rfl rfl (by decide +kernel) ⟨Nat.le_of_ble_eq_true rfl, Nat.le_of_ble_eq_true rfl⟩ (va_recv hK hP (ci := 2) (q0 := 0) rfl sl_aL) rfl hl.1 rfl (Nat.le_of_ble_eq_true rfl) dX2_replay_2 ⟨Nat.zero_le _, Nat.zero_le _⟩ hK hN hD hP hS (fun H locs hP hS => ?_)
  refine W.eq (g2 := F0 m 5 ls [.ref (ad (3 + q.toNatClampNeg))]) rfl ?_
  refine lv_astore_n (lv' := [(3, .ref (ad (3 + q.toNatClampNeg))), (0, .ref (ad (0))), (1, .int q), (2, .int a)]) hx hb dX2_replay_5 rfl hl (by decide) rfl (fun ls hl => ?_)
  refine lv_aload_n hx hb dX2_replay_6 rfl (lv_at hl 0 rfl) ?_
  refine lv_ifnonnull (tgt := 12) hx hb dX2_replay_7 (by decide) ?_
  refine lv_aload_n hx hb dX2_replay_12 rfl (lv_at hl 0 rfl) ?_
  refine va_getN (D := G) (ci := 0) (v := .int (σ (3 + q.toNatClampNeg) 2)) (C := RX0) (T := TX0) (N := 12) hx hb hts hi0 hown hK hP (3 + q.toNatClampNeg) (sl_aC (sl_lt hc)) rfl 2 (by decide) (hN.f 0 rfl) (fun _ h9 => h9) rfl dX2_replay_13 ?_
  refine lv_if_eq (tgt := 22) hx hb dX2_replay_16 (by decide) (fun c_1 => ?_) (fun c_1 => ?_)
  · refine lv_iload_n hx hb dX2_replay_22 rfl (lv_at hl 3 rfl) ?_
    refine lv_if_lt (tgt := 32) hx hb dX2_replay_23 (by decide) (fun c_2 => ?_) (fun c_2 => ?_)
    · refine lv_bipush (v := (-3 : Int32)) hx hb dX2_replay_32 (by decide) ?_
      have e_q : (sp_X2_replay_in σ q a) = ((-3 : Int32), σ) := by rw [sp_X2_replay_in, if_pos c_1, if_pos c_2]
      exact sl_iret hx hb hr hlocks hP hS (by rw [e_q]) (by rw [e_q]) rfl dX2_replay_34
    · refine lv_iload_n hx hb dX2_replay_26 rfl (lv_at hl 3 rfl) ?_
      refine lv_bipush (v := (32 : Int32)) hx hb dX2_replay_27 (by decide) ?_
      refine lv_icmp_le (tgt := 35) hx hb dX2_replay_29 (by decide) (fun c_3 => ?_) (fun c_3 => ?_)
      · refine lv_aload_n hx hb dX2_replay_35 rfl (lv_at hl 0 rfl) ?_
        refine lv_iconst (v := (0 : Int32)) hx hb dX2_replay_36 (by decide) ?_
        refine sl_putCN hx hb hts hi0 hown hK hD hP hS (sl_lt hc) 6 (by decide) rfl (tyX0_ok 6 (by decide)) (hN.f 2 rfl) dX2_replay_37 (fun H locs hP hS => ?_)
        refine lv_aload_n hx hb dX2_replay_40 rfl (lv_at hl 0 rfl) ?_
        refine lv_iload_n hx hb dX2_replay_41 rfl (lv_at hl 3 rfl) ?_
        refine sl_putCN hx hb hts hi0 hown hK hD hP hS (sl_lt hc) 8 (by decide) rfl (tyX0_ok 8 (by decide)) (hN.f 3 rfl) dX2_replay_42 (fun H locs hP hS => ?_)
        refine lv_aload_n hx hb dX2_replay_45 rfl (lv_at hl 0 rfl) ?_
        refine lv_iconst (v := (0 : Int32)) hx hb dX2_replay_46 (by decide) ?_
        refine sl_putCN hx hb hts hi0 hown hK hD hP hS (sl_lt hc) 9 (by decide) rfl (tyX0_ok 9 (by decide)) (hN.f 4 rfl) dX2_replay_47 (fun H locs hP hS => ?_)
        refine lv_aload_n hx hb dX2_replay_50 rfl (lv_at hl 0 rfl) ?_
        refine lv_iconst (v := (4 : Int32)) hx hb dX2_replay_51 (by decide) ?_
        refine lv_aload_n hx hb dX2_replay_52 rfl (lv_at hl 0 rfl) ?_
        refine sl_nV (n := 0) (As := []) (rest := [.int (4 : Int32), .ref (ad (3 + q.toNatClampNeg))]) ⟨hx, hb, hml, hown, hts⟩ (c_X0_replayRoute l G cy ad (sl_up (sl_up (sl_up σ (3 + q.toNatClampNeg) 6 (0 : Int32)) (3 + q.toNatClampNeg) 8 a) (3 + q.toNatClampNeg) 9 (0 : Int32)) τ q.toNatClampNeg (sl_lt hc)) gX2_replay_X0_replayRoute_n71 rfl rfl rfl (hN.m 4 rfl) (hts _ mw_X2_replay_8) (hts _ mw_X2_replay_7) (hts _ mw_X2_replay_9) (by decide +kernel) ⟨Nat.le_of_ble_eq_true rfl, Nat.le_of_ble_eq_true rfl⟩ (va_recv hK hP (ci := 0) (q0 := 3 + q.toNatClampNeg) rfl (sl_aC (sl_lt hc))) rfl hl.1 rfl (Nat.le_of_ble_eq_true rfl) dX2_replay_53 ⟨Nat.zero_le _, Nat.zero_le _⟩ hK hN hD hP hS (fun H locs hP hS => ?_)
        refine W.eq (g2 := F0 m 56 ls [.int (sp_X0_replayRoute (sl_up (sl_up (sl_up σ (3 + q.toNatClampNeg) 6 (0 : Int32)) (3 + q.toNatClampNeg) 8 a) (3 + q.toNatClampNeg) 9 (0 : Int32)) q.toNatClampNeg), .int (4 : Int32), .ref (ad (3 + q.toNatClampNeg))]) rfl ?_
        refine sl_nV (n := 2) (As := [.int (4 : Int32), .int (sp_X0_replayRoute (sl_up (sl_up (sl_up σ (3 + q.toNatClampNeg) 6 (0 : Int32)) (3 + q.toNatClampNeg) 8 a) (3 + q.toNatClampNeg) 9 (0 : Int32)) q.toNatClampNeg)]) (rest := []) ⟨hx, hb, hml, hown, hts⟩ (c_X0_begin l G cy ad (sl_up (sl_up (sl_up σ (3 + q.toNatClampNeg) 6 (0 : Int32)) (3 + q.toNatClampNeg) 8 a) (3 + q.toNatClampNeg) 9 (0 : Int32)) τ q.toNatClampNeg (sl_lt hc) (4 : Int32) (sp_X0_replayRoute (sl_up (sl_up (sl_up σ (3 + q.toNatClampNeg) 6 (0 : Int32)) (3 + q.toNatClampNeg) 8 a) (3 + q.toNatClampNeg) 9 (0 : Int32)) q.toNatClampNeg)) gX2_replay_X0_begin_n47 rfl rfl rfl (hN.m 2 rfl) (hts _ mw_X2_replay_8) (hts _ mw_X2_replay_20) (hts _ mw_X2_replay_21) (by decide +kernel) ⟨Nat.le_of_ble_eq_true rfl, Nat.le_of_ble_eq_true rfl⟩ (va_recv hK hP (ci := 0) (q0 := 3 + q.toNatClampNeg) rfl (sl_aC (sl_lt hc))) rfl hl.1 rfl (Nat.le_of_ble_eq_true rfl) dX2_replay_56 ⟨Nat.zero_le _, Nat.zero_le _⟩ hK hN hD hP hS (fun H locs hP hS => ?_)
        refine W.eq (g2 := F0 m 59 ls [.int ((sp_X0_begin (sl_up (sl_up (sl_up σ (3 + q.toNatClampNeg) 6 (0 : Int32)) (3 + q.toNatClampNeg) 8 a) (3 + q.toNatClampNeg) 9 (0 : Int32)) q.toNatClampNeg (4 : Int32) (sp_X0_replayRoute (sl_up (sl_up (sl_up σ (3 + q.toNatClampNeg) 6 (0 : Int32)) (3 + q.toNatClampNeg) 8 a) (3 + q.toNatClampNeg) 9 (0 : Int32)) q.toNatClampNeg)).1)]) rfl ?_
        have e_q : (sp_X2_replay_in σ q a) = (((sp_X0_begin (sl_up (sl_up (sl_up σ (3 + q.toNatClampNeg) 6 (0 : Int32)) (3 + q.toNatClampNeg) 8 a) (3 + q.toNatClampNeg) 9 (0 : Int32)) q.toNatClampNeg (4 : Int32) (sp_X0_replayRoute (sl_up (sl_up (sl_up σ (3 + q.toNatClampNeg) 6 (0 : Int32)) (3 + q.toNatClampNeg) 8 a) (3 + q.toNatClampNeg) 9 (0 : Int32)) q.toNatClampNeg)).1), (sp_X0_begin (sl_up (sl_up (sl_up σ (3 + q.toNatClampNeg) 6 (0 : Int32)) (3 + q.toNatClampNeg) 8 a) (3 + q.toNatClampNeg) 9 (0 : Int32)) q.toNatClampNeg (4 : Int32) (sp_X0_replayRoute (sl_up (sl_up (sl_up σ (3 + q.toNatClampNeg) 6 (0 : Int32)) (3 + q.toNatClampNeg) 8 a) (3 + q.toNatClampNeg) 9 (0 : Int32)) q.toNatClampNeg)).2) := by rw [sp_X2_replay_in, if_pos c_1, if_neg c_2, if_pos c_3]
        exact sl_iret hx hb hr hlocks hP hS (by rw [e_q]) (by rw [e_q]) rfl dX2_replay_59
      · refine lv_bipush (v := (-3 : Int32)) hx hb dX2_replay_32 (by decide) ?_
        have e_q : (sp_X2_replay_in σ q a) = ((-3 : Int32), σ) := by rw [sp_X2_replay_in, if_pos c_1, if_neg c_2, if_neg c_3]
        exact sl_iret hx hb hr hlocks hP hS (by rw [e_q]) (by rw [e_q]) rfl dX2_replay_34
  · refine lv_bipush (v := (-2 : Int32)) hx hb dX2_replay_19 (by decide) ?_
    have e_q : (sp_X2_replay_in σ q a) = ((-2 : Int32), σ) := by rw [sp_X2_replay_in, if_neg c_1]
    exact sl_iret hx hb hr hlocks hP hS (by rw [e_q]) (by rw [e_q]) rfl dX2_replay_21
def sp_X2_reform_in (σ : sl_M) (q : Int32) (a : Int32) : Int32 × sl_M := 
  if (σ (3 + q.toNatClampNeg) 2) = 0 then 
    if a < 0 then ((-3 : Int32), σ)
    else if a ≤ (63 : Int32) then 
      if (((σ (3 + q.toNatClampNeg) 1) &&& (a ^^^ (-1 : Int32))) &&& (21 : Int32)) = 0 then ((-4 : Int32), σ)
      else if (((σ (3 + q.toNatClampNeg) 1) &&& (a ^^^ (-1 : Int32))) &&& (42 : Int32)) = 0 then ((-4 : Int32), σ)
      else (((sp_X0_begin (sl_up (sl_up σ (3 + q.toNatClampNeg) 10 ((σ (3 + q.toNatClampNeg) 1) &&& (a ^^^ (-1 : Int32)))) (3 + q.toNatClampNeg) 11 (0 : Int32)) q.toNatClampNeg (5 : Int32) ((σ (3 + q.toNatClampNeg) 1) &&& (a ^^^ (-1 : Int32)))).1), (sp_X0_begin (sl_up (sl_up σ (3 + q.toNatClampNeg) 10 ((σ (3 + q.toNatClampNeg) 1) &&& (a ^^^ (-1 : Int32)))) (3 + q.toNatClampNeg) 11 (0 : Int32)) q.toNatClampNeg (5 : Int32) ((σ (3 + q.toNatClampNeg) 1) &&& (a ^^^ (-1 : Int32)))).2)
    else ((-3 : Int32), σ)
  else ((-2 : Int32), σ)
set_option maxHeartbeats 4000000 in
set_option maxRecDepth 100000 in
theorem c_X2_reform_in (l : Launch) (G : va_G) (cy : Nat → ClassId) (ad : Nat → Nat) (σ τ : sl_M) (q : Int32) (a : Int32) (hc : vp_in q 3) : sl_C l G cy ad yX2_reform wsX2_reform ({ frames := 1, cells := 0, slots := 0, locals := 22 }) [.ref (ad (0)), .int q, .int a] σ τ (some (.int (sp_X2_reform_in σ q a).1)) (sp_X2_reform_in σ q a).2 τ := by
  refine sl_of (cc := cX2_reform) (maxL := 5) (ret := (some .int)) (by decide) rfl (Nat.le_of_ble_eq_true rfl) ?_
  intro p e s m below meth c hx hb hr hml hts hown hlocks hK hN hD hP hS ls hl
  have hown : s.vm.findClass RX2 = some m.cls := hown
  have hl : lv_has ls 5 [(0, .ref (ad (0))), (1, .int q), (2, .int a)] := hl
  have hi0 : ∀ w ∈ wsX00, w ∈ wsX2_reform := fun _ h => (List.mem_cons_of_mem _ (List.mem_append_left _ (List.mem_append_right _ h)))
  refine lv_aload_n hx hb dX2_reform_0 rfl (lv_at hl 0 rfl) ?_
  refine lv_iload_n hx hb dX2_reform_1 rfl (lv_at hl 1 rfl) ?_
  refine sl_cV (n := 1) (As := [.int q]) (rest := []) ⟨hx, hb, hml, hown, hts⟩ (c_X2_clientAt_in l G cy ad σ τ q hc) gX2_reform_X2_clientAt rfl rfl rfl (by decide +kernel) ⟨Nat.le_of_ble_eq_true rfl, Nat.le_of_ble_eq_true rfl⟩ (va_recv hK hP (ci := 2) (q0 := 0) rfl sl_aL) rfl hl.1 rfl (Nat.le_of_ble_eq_true rfl) dX2_reform_2 ⟨Nat.zero_le _, Nat.zero_le _⟩ hK hN hD hP hS (fun H locs hP hS => ?_)
  refine W.eq (g2 := F0 m 5 ls [.ref (ad (3 + q.toNatClampNeg))]) rfl ?_
  refine lv_astore_n (lv' := [(3, .ref (ad (3 + q.toNatClampNeg))), (0, .ref (ad (0))), (1, .int q), (2, .int a)]) hx hb dX2_reform_5 rfl hl (by decide) rfl (fun ls hl => ?_)
  refine lv_aload_n hx hb dX2_reform_6 rfl (lv_at hl 0 rfl) ?_
  refine lv_ifnonnull (tgt := 12) hx hb dX2_reform_7 (by decide) ?_
  refine lv_aload_n hx hb dX2_reform_12 rfl (lv_at hl 0 rfl) ?_
  refine va_getN (D := G) (ci := 0) (v := .int (σ (3 + q.toNatClampNeg) 2)) (C := RX0) (T := TX0) (N := 12) hx hb hts hi0 hown hK hP (3 + q.toNatClampNeg) (sl_aC (sl_lt hc)) rfl 2 (by decide) (hN.f 0 rfl) (fun _ h9 => h9) rfl dX2_reform_13 ?_
  refine lv_if_eq (tgt := 22) hx hb dX2_reform_16 (by decide) (fun c_1 => ?_) (fun c_1 => ?_)
  · refine lv_iload_n hx hb dX2_reform_22 rfl (lv_at hl 3 rfl) ?_
    refine lv_if_lt (tgt := 32) hx hb dX2_reform_23 (by decide) (fun c_2 => ?_) (fun c_2 => ?_)
    · refine lv_bipush (v := (-3 : Int32)) hx hb dX2_reform_32 (by decide) ?_
      have e_q : (sp_X2_reform_in σ q a) = ((-3 : Int32), σ) := by rw [sp_X2_reform_in, if_pos c_1, if_pos c_2]
      exact sl_iret hx hb hr hlocks hP hS (by rw [e_q]) (by rw [e_q]) rfl dX2_reform_34
    · refine lv_iload_n hx hb dX2_reform_26 rfl (lv_at hl 3 rfl) ?_
      refine lv_bipush (v := (63 : Int32)) hx hb dX2_reform_27 (by decide) ?_
      refine lv_icmp_le (tgt := 35) hx hb dX2_reform_29 (by decide) (fun c_3 => ?_) (fun c_3 => ?_)
      · refine lv_aload_n hx hb dX2_reform_35 rfl (lv_at hl 0 rfl) ?_
        refine va_getN (D := G) (ci := 0) (v := .int (σ (3 + q.toNatClampNeg) 1)) (C := RX0) (T := TX0) (N := 12) hx hb hts hi0 hown hK hP (3 + q.toNatClampNeg) (sl_aC (sl_lt hc)) rfl 1 (by decide) (hN.f 5 rfl) (fun _ h9 => h9) rfl dX2_reform_36 ?_
        refine lv_iload_n hx hb dX2_reform_39 rfl (lv_at hl 3 rfl) ?_
        refine lv_iconst (v := (-1 : Int32)) hx hb dX2_reform_40 (by decide) ?_
        refine lv_ixor hx hb dX2_reform_41 ?_
        refine lv_iand hx hb dX2_reform_42 ?_
        refine lv_istore (lv' := [(4, .int ((σ (3 + q.toNatClampNeg) 1) &&& (a ^^^ (-1 : Int32)))), (3, .ref (ad (3 + q.toNatClampNeg))), (0, .ref (ad (0))), (1, .int q), (2, .int a)]) hx hb dX2_reform_43 hl (by decide) rfl (fun ls hl => ?_)
        refine lv_iload hx hb dX2_reform_45 (lv_at hl 0 rfl) ?_
        refine lv_bipush (v := (21 : Int32)) hx hb dX2_reform_47 (by decide) ?_
        refine lv_iand hx hb dX2_reform_49 ?_
        refine lv_if_eq (tgt := 61) hx hb dX2_reform_50 (by decide) (fun c_4 => ?_) (fun c_4 => ?_)
        · refine lv_bipush (v := (-4 : Int32)) hx hb dX2_reform_61 (by decide) ?_
          have e_q : (sp_X2_reform_in σ q a) = ((-4 : Int32), σ) := by rw [sp_X2_reform_in, if_pos c_1, if_neg c_2, if_pos c_3, if_pos c_4]
          exact sl_iret hx hb hr hlocks hP hS (by rw [e_q]) (by rw [e_q]) rfl dX2_reform_63
        · refine lv_iload hx hb dX2_reform_53 (lv_at hl 0 rfl) ?_
          refine lv_bipush (v := (42 : Int32)) hx hb dX2_reform_55 (by decide) ?_
          refine lv_iand hx hb dX2_reform_57 ?_
          refine lv_if_ne (tgt := 64) hx hb dX2_reform_58 (by decide) (fun c_5 => ?_) (fun c_5 => ?_)
          · refine lv_aload_n hx hb dX2_reform_64 rfl (lv_at hl 1 rfl) ?_
            refine lv_iload hx hb dX2_reform_65 (lv_at hl 0 rfl) ?_
            refine sl_putCN hx hb hts hi0 hown hK hD hP hS (sl_lt hc) 10 (by decide) rfl (tyX0_ok 10 (by decide)) (hN.f 6 rfl) dX2_reform_67 (fun H locs hP hS => ?_)
            refine lv_aload_n hx hb dX2_reform_70 rfl (lv_at hl 1 rfl) ?_
            refine lv_iconst (v := (0 : Int32)) hx hb dX2_reform_71 (by decide) ?_
            refine sl_putCN hx hb hts hi0 hown hK hD hP hS (sl_lt hc) 11 (by decide) rfl (tyX0_ok 11 (by decide)) (hN.f 7 rfl) dX2_reform_72 (fun H locs hP hS => ?_)
            refine lv_aload_n hx hb dX2_reform_75 rfl (lv_at hl 1 rfl) ?_
            refine lv_iconst (v := (5 : Int32)) hx hb dX2_reform_76 (by decide) ?_
            refine lv_iload hx hb dX2_reform_77 (lv_at hl 0 rfl) ?_
            refine sl_nV (n := 2) (As := [.int (5 : Int32), .int ((σ (3 + q.toNatClampNeg) 1) &&& (a ^^^ (-1 : Int32)))]) (rest := []) ⟨hx, hb, hml, hown, hts⟩ (c_X0_begin l G cy ad (sl_up (sl_up σ (3 + q.toNatClampNeg) 10 ((σ (3 + q.toNatClampNeg) 1) &&& (a ^^^ (-1 : Int32)))) (3 + q.toNatClampNeg) 11 (0 : Int32)) τ q.toNatClampNeg (sl_lt hc) (5 : Int32) ((σ (3 + q.toNatClampNeg) 1) &&& (a ^^^ (-1 : Int32)))) gX2_reform_X0_begin_n47 rfl rfl rfl (hN.m 2 rfl) (hts _ mw_X2_reform_8) (hts _ mw_X2_reform_7) (hts _ mw_X2_reform_9) (by decide +kernel) ⟨Nat.le_of_ble_eq_true rfl, Nat.le_of_ble_eq_true rfl⟩ (va_recv hK hP (ci := 0) (q0 := 3 + q.toNatClampNeg) rfl (sl_aC (sl_lt hc))) rfl hl.1 rfl (Nat.le_of_ble_eq_true rfl) dX2_reform_79 ⟨Nat.zero_le _, Nat.zero_le _⟩ hK hN hD hP hS (fun H locs hP hS => ?_)
            refine W.eq (g2 := F0 m 82 ls [.int ((sp_X0_begin (sl_up (sl_up σ (3 + q.toNatClampNeg) 10 ((σ (3 + q.toNatClampNeg) 1) &&& (a ^^^ (-1 : Int32)))) (3 + q.toNatClampNeg) 11 (0 : Int32)) q.toNatClampNeg (5 : Int32) ((σ (3 + q.toNatClampNeg) 1) &&& (a ^^^ (-1 : Int32)))).1)]) rfl ?_
            have e_q : (sp_X2_reform_in σ q a) = (((sp_X0_begin (sl_up (sl_up σ (3 + q.toNatClampNeg) 10 ((σ (3 + q.toNatClampNeg) 1) &&& (a ^^^ (-1 : Int32)))) (3 + q.toNatClampNeg) 11 (0 : Int32)) q.toNatClampNeg (5 : Int32) ((σ (3 + q.toNatClampNeg) 1) &&& (a ^^^ (-1 : Int32)))).1), (sp_X0_begin (sl_up (sl_up σ (3 + q.toNatClampNeg) 10 ((σ (3 + q.toNatClampNeg) 1) &&& (a ^^^ (-1 : Int32)))) (3 + q.toNatClampNeg) 11 (0 : Int32)) q.toNatClampNeg (5 : Int32) ((σ (3 + q.toNatClampNeg) 1) &&& (a ^^^ (-1 : Int32)))).2) := by rw [sp_X2_reform_in, if_pos c_1, if_neg c_2, if_pos c_3, if_neg c_4, if_neg c_5]
            exact sl_iret hx hb hr hlocks hP hS (by rw [e_q]) (by rw [e_q]) rfl dX2_reform_82
          · refine lv_bipush (v := (-4 : Int32)) hx hb dX2_reform_61 (by decide) ?_
            have e_q : (sp_X2_reform_in σ q a) = ((-4 : Int32), σ) := by rw [sp_X2_reform_in, if_pos c_1, if_neg c_2, if_pos c_3, if_neg c_4, if_pos c_5]
            exact sl_iret hx hb hr hlocks hP hS (by rw [e_q]) (by rw [e_q]) rfl dX2_reform_63
      · refine lv_bipush (v := (-3 : Int32)) hx hb dX2_reform_32 (by decide) ?_
        have e_q : (sp_X2_reform_in σ q a) = ((-3 : Int32), σ) := by rw [sp_X2_reform_in, if_pos c_1, if_neg c_2, if_neg c_3]
        exact sl_iret hx hb hr hlocks hP hS (by rw [e_q]) (by rw [e_q]) rfl dX2_reform_34
  · refine lv_bipush (v := (-2 : Int32)) hx hb dX2_reform_19 (by decide) ?_
    have e_q : (sp_X2_reform_in σ q a) = ((-2 : Int32), σ) := by rw [sp_X2_reform_in, if_neg c_1]
    exact sl_iret hx hb hr hlocks hP hS (by rw [e_q]) (by rw [e_q]) rfl dX2_reform_21
def sp_X2_refresh_in (σ : sl_M) (q : Int32) : Int32 × sl_M := 
  if (σ (3 + q.toNatClampNeg) 2) = 0 then (((sp_X2_takeStoreProjection σ q.toNatClampNeg) (3 + q.toNatClampNeg) 0), (sp_X2_takeStoreProjection σ q.toNatClampNeg))
  else ((-2 : Int32), σ)
set_option maxHeartbeats 4000000 in
set_option maxRecDepth 100000 in
theorem c_X2_refresh_in (l : Launch) (G : va_G) (cy : Nat → ClassId) (ad : Nat → Nat) (σ τ : sl_M) (q : Int32) (hc : vp_in q 3) : sl_C l G cy ad yX2_refresh wsX2_refresh ({ frames := 1, cells := 0, slots := 0, locals := 21 }) [.ref (ad (0)), .int q] σ τ (some (.int (sp_X2_refresh_in σ q).1)) (sp_X2_refresh_in σ q).2 τ := by
  refine sl_of (cc := cX2_refresh) (maxL := 3) (ret := (some .int)) (by decide) rfl (Nat.le_of_ble_eq_true rfl) ?_
  intro p e s m below meth c hx hb hr hml hts hown hlocks hK hN hD hP hS ls hl
  have hown : s.vm.findClass RX2 = some m.cls := hown
  have hl : lv_has ls 3 [(0, .ref (ad (0))), (1, .int q)] := hl
  have hi0 : ∀ w ∈ wsX00, w ∈ wsX2_refresh := fun _ h => (List.mem_cons_of_mem _ (List.mem_append_left _ (List.mem_append_right _ h)))
  refine lv_aload_n hx hb dX2_refresh_0 rfl (lv_at hl 0 rfl) ?_
  refine lv_iload_n hx hb dX2_refresh_1 rfl (lv_at hl 1 rfl) ?_
  refine sl_cV (n := 1) (As := [.int q]) (rest := []) ⟨hx, hb, hml, hown, hts⟩ (c_X2_clientAt_in l G cy ad σ τ q hc) gX2_refresh_X2_clientAt rfl rfl rfl (by decide +kernel) ⟨Nat.le_of_ble_eq_true rfl, Nat.le_of_ble_eq_true rfl⟩ (va_recv hK hP (ci := 2) (q0 := 0) rfl sl_aL) rfl hl.1 rfl (Nat.le_of_ble_eq_true rfl) dX2_refresh_2 ⟨Nat.zero_le _, Nat.zero_le _⟩ hK hN hD hP hS (fun H locs hP hS => ?_)
  refine W.eq (g2 := F0 m 5 ls [.ref (ad (3 + q.toNatClampNeg))]) rfl ?_
  refine lv_astore_n (lv' := [(2, .ref (ad (3 + q.toNatClampNeg))), (0, .ref (ad (0))), (1, .int q)]) hx hb dX2_refresh_5 rfl hl (by decide) rfl (fun ls hl => ?_)
  refine lv_aload_n hx hb dX2_refresh_6 rfl (lv_at hl 0 rfl) ?_
  refine lv_ifnonnull (tgt := 12) hx hb dX2_refresh_7 (by decide) ?_
  refine lv_aload_n hx hb dX2_refresh_12 rfl (lv_at hl 0 rfl) ?_
  refine va_getN (D := G) (ci := 0) (v := .int (σ (3 + q.toNatClampNeg) 2)) (C := RX0) (T := TX0) (N := 12) hx hb hts hi0 hown hK hP (3 + q.toNatClampNeg) (sl_aC (sl_lt hc)) rfl 2 (by decide) (hN.f 0 rfl) (fun _ h9 => h9) rfl dX2_refresh_13 ?_
  refine lv_if_eq (tgt := 22) hx hb dX2_refresh_16 (by decide) (fun c_1 => ?_) (fun c_1 => ?_)
  · refine lv_aload_n hx hb dX2_refresh_22 rfl (lv_at hl 1 rfl) ?_
    refine lv_aload_n hx hb dX2_refresh_23 rfl (lv_at hl 0 rfl) ?_
    refine sl_cV (n := 1) (As := [.ref (ad (3 + q.toNatClampNeg))]) (rest := []) ⟨hx, hb, hml, hown, hts⟩ (c_X2_takeStoreProjection l G cy ad σ τ q.toNatClampNeg (sl_lt hc)) gX2_refresh_X2_takeStoreProjection rfl rfl rfl (by decide +kernel) ⟨Nat.le_of_ble_eq_true rfl, Nat.le_of_ble_eq_true rfl⟩ (va_recv hK hP (ci := 2) (q0 := 0) rfl sl_aL) rfl hl.1 rfl (Nat.le_of_ble_eq_true rfl) dX2_refresh_24 ⟨Nat.zero_le _, Nat.zero_le _⟩ hK hN hD hP hS (fun H locs hP hS => ?_)
    refine W.eq (g2 := F0 m 27 ls []) rfl ?_
    refine lv_aload_n hx hb dX2_refresh_27 rfl (lv_at hl 0 rfl) ?_
    refine va_getN (D := G) (ci := 0) (v := .int ((sp_X2_takeStoreProjection σ q.toNatClampNeg) (3 + q.toNatClampNeg) 0)) (C := RX0) (T := TX0) (N := 12) hx hb hts hi0 hown hK hP (3 + q.toNatClampNeg) (sl_aC (sl_lt hc)) rfl 0 (by decide) (hN.f 11 rfl) (fun _ h9 => h9) rfl dX2_refresh_28 ?_
    have e_q : (sp_X2_refresh_in σ q) = (((sp_X2_takeStoreProjection σ q.toNatClampNeg) (3 + q.toNatClampNeg) 0), (sp_X2_takeStoreProjection σ q.toNatClampNeg)) := by rw [sp_X2_refresh_in, if_pos c_1]
    exact sl_iret hx hb hr hlocks hP hS (by rw [e_q]) (by rw [e_q]) rfl dX2_refresh_31
  · refine lv_bipush (v := (-2 : Int32)) hx hb dX2_refresh_19 (by decide) ?_
    have e_q : (sp_X2_refresh_in σ q) = ((-2 : Int32), σ) := by rw [sp_X2_refresh_in, if_neg c_1]
    exact sl_iret hx hb hr hlocks hP hS (by rw [e_q]) (by rw [e_q]) rfl dX2_refresh_21
def sp_X2_busy_in (σ : sl_M) (q : Int32) : Int32 := (σ (3 + q.toNatClampNeg) 2)
set_option maxHeartbeats 4000000 in
set_option maxRecDepth 100000 in
theorem c_X2_busy_in (l : Launch) (G : va_G) (cy : Nat → ClassId) (ad : Nat → Nat) (σ τ : sl_M) (q : Int32) (hc : vp_in q 3) : sl_C l G cy ad yX2_busy wsX2_busy ({ frames := 1, cells := 0, slots := 0, locals := 21 }) [.ref (ad (0)), .int q] σ τ (some (.int (sp_X2_busy_in σ q))) σ τ := by
  refine sl_of (cc := cX2_busy) (maxL := 3) (ret := (some .int)) (by decide) rfl (Nat.le_of_ble_eq_true rfl) ?_
  intro p e s m below meth c hx hb hr hml hts hown hlocks hK hN hD hP hS ls hl
  have hown : s.vm.findClass RX2 = some m.cls := hown
  have hl : lv_has ls 3 [(0, .ref (ad (0))), (1, .int q)] := hl
  have hi0 : ∀ w ∈ wsX00, w ∈ wsX2_busy := fun _ h => (List.mem_cons_of_mem _ (List.mem_append_left _ (List.mem_append_right _ h)))
  refine lv_aload_n hx hb dX2_busy_0 rfl (lv_at hl 0 rfl) ?_
  refine lv_iload_n hx hb dX2_busy_1 rfl (lv_at hl 1 rfl) ?_
  refine sl_cV (n := 1) (As := [.int q]) (rest := []) ⟨hx, hb, hml, hown, hts⟩ (c_X2_clientAt_in l G cy ad σ τ q hc) gX2_busy_X2_clientAt rfl rfl rfl (by decide +kernel) ⟨Nat.le_of_ble_eq_true rfl, Nat.le_of_ble_eq_true rfl⟩ (va_recv hK hP (ci := 2) (q0 := 0) rfl sl_aL) rfl hl.1 rfl (Nat.le_of_ble_eq_true rfl) dX2_busy_2 ⟨Nat.zero_le _, Nat.zero_le _⟩ hK hN hD hP hS (fun H locs hP hS => ?_)
  refine W.eq (g2 := F0 m 5 ls [.ref (ad (3 + q.toNatClampNeg))]) rfl ?_
  refine lv_astore_n (lv' := [(2, .ref (ad (3 + q.toNatClampNeg))), (0, .ref (ad (0))), (1, .int q)]) hx hb dX2_busy_5 rfl hl (by decide) rfl (fun ls hl => ?_)
  refine lv_aload_n hx hb dX2_busy_6 rfl (lv_at hl 0 rfl) ?_
  refine lv_ifnonnull (tgt := 15) hx hb dX2_busy_7 (by decide) ?_
  refine lv_aload_n hx hb dX2_busy_15 rfl (lv_at hl 0 rfl) ?_
  refine va_getN (D := G) (ci := 0) (v := .int (σ (3 + q.toNatClampNeg) 2)) (C := RX0) (T := TX0) (N := 12) hx hb hts hi0 hown hK hP (3 + q.toNatClampNeg) (sl_aC (sl_lt hc)) rfl 2 (by decide) (hN.f 0 rfl) (fun _ h9 => h9) rfl dX2_busy_16 ?_
  have e_q : (sp_X2_busy_in σ q) = (σ (3 + q.toNatClampNeg) 2) := by rw [sp_X2_busy_in]
  exact sl_iret hx hb hr hlocks hP hS (by rw [e_q]) rfl rfl dX2_busy_19
def sp_X2_outcome_in (σ : sl_M) (q : Int32) : Int32 := (σ (3 + q.toNatClampNeg) 3)
set_option maxHeartbeats 4000000 in
set_option maxRecDepth 100000 in
theorem c_X2_outcome_in (l : Launch) (G : va_G) (cy : Nat → ClassId) (ad : Nat → Nat) (σ τ : sl_M) (q : Int32) (hc : vp_in q 3) : sl_C l G cy ad yX2_outcome wsX2_outcome ({ frames := 1, cells := 0, slots := 0, locals := 21 }) [.ref (ad (0)), .int q] σ τ (some (.int (sp_X2_outcome_in σ q))) σ τ := by
  refine sl_of (cc := cX2_outcome) (maxL := 3) (ret := (some .int)) (by decide) rfl (Nat.le_of_ble_eq_true rfl) ?_
  intro p e s m below meth c hx hb hr hml hts hown hlocks hK hN hD hP hS ls hl
  have hown : s.vm.findClass RX2 = some m.cls := hown
  have hl : lv_has ls 3 [(0, .ref (ad (0))), (1, .int q)] := hl
  have hi0 : ∀ w ∈ wsX00, w ∈ wsX2_outcome := fun _ h => (List.mem_cons_of_mem _ (List.mem_append_left _ (List.mem_append_right _ h)))
  refine lv_aload_n hx hb dX2_outcome_0 rfl (lv_at hl 0 rfl) ?_
  refine lv_iload_n hx hb dX2_outcome_1 rfl (lv_at hl 1 rfl) ?_
  refine sl_cV (n := 1) (As := [.int q]) (rest := []) ⟨hx, hb, hml, hown, hts⟩ (c_X2_clientAt_in l G cy ad σ τ q hc) gX2_outcome_X2_clientAt rfl rfl rfl (by decide +kernel) ⟨Nat.le_of_ble_eq_true rfl, Nat.le_of_ble_eq_true rfl⟩ (va_recv hK hP (ci := 2) (q0 := 0) rfl sl_aL) rfl hl.1 rfl (Nat.le_of_ble_eq_true rfl) dX2_outcome_2 ⟨Nat.zero_le _, Nat.zero_le _⟩ hK hN hD hP hS (fun H locs hP hS => ?_)
  refine W.eq (g2 := F0 m 5 ls [.ref (ad (3 + q.toNatClampNeg))]) rfl ?_
  refine lv_astore_n (lv' := [(2, .ref (ad (3 + q.toNatClampNeg))), (0, .ref (ad (0))), (1, .int q)]) hx hb dX2_outcome_5 rfl hl (by decide) rfl (fun ls hl => ?_)
  refine lv_aload_n hx hb dX2_outcome_6 rfl (lv_at hl 0 rfl) ?_
  refine lv_ifnonnull (tgt := 15) hx hb dX2_outcome_7 (by decide) ?_
  refine lv_aload_n hx hb dX2_outcome_15 rfl (lv_at hl 0 rfl) ?_
  refine va_getN (D := G) (ci := 0) (v := .int (σ (3 + q.toNatClampNeg) 3)) (C := RX0) (T := TX0) (N := 12) hx hb hts hi0 hown hK hP (3 + q.toNatClampNeg) (sl_aC (sl_lt hc)) rfl 3 (by decide) (hN.f 12 rfl) (fun _ h9 => h9) rfl dX2_outcome_16 ?_
  have e_q : (sp_X2_outcome_in σ q) = (σ (3 + q.toNatClampNeg) 3) := by rw [sp_X2_outcome_in]
  exact sl_iret hx hb hr hlocks hP hS (by rw [e_q]) rfl rfl dX2_outcome_19
def sp_X2_number_in (σ : sl_M) (q : Int32) : Int32 := (σ (3 + q.toNatClampNeg) 4)
set_option maxHeartbeats 4000000 in
set_option maxRecDepth 100000 in
theorem c_X2_number_in (l : Launch) (G : va_G) (cy : Nat → ClassId) (ad : Nat → Nat) (σ τ : sl_M) (q : Int32) (hc : vp_in q 3) : sl_C l G cy ad yX2_number wsX2_number ({ frames := 1, cells := 0, slots := 0, locals := 21 }) [.ref (ad (0)), .int q] σ τ (some (.int (sp_X2_number_in σ q))) σ τ := by
  refine sl_of (cc := cX2_number) (maxL := 3) (ret := (some .int)) (by decide) rfl (Nat.le_of_ble_eq_true rfl) ?_
  intro p e s m below meth c hx hb hr hml hts hown hlocks hK hN hD hP hS ls hl
  have hown : s.vm.findClass RX2 = some m.cls := hown
  have hl : lv_has ls 3 [(0, .ref (ad (0))), (1, .int q)] := hl
  have hi0 : ∀ w ∈ wsX00, w ∈ wsX2_number := fun _ h => (List.mem_cons_of_mem _ (List.mem_append_left _ (List.mem_append_right _ h)))
  refine lv_aload_n hx hb dX2_number_0 rfl (lv_at hl 0 rfl) ?_
  refine lv_iload_n hx hb dX2_number_1 rfl (lv_at hl 1 rfl) ?_
  refine sl_cV (n := 1) (As := [.int q]) (rest := []) ⟨hx, hb, hml, hown, hts⟩ (c_X2_clientAt_in l G cy ad σ τ q hc) gX2_number_X2_clientAt rfl rfl rfl (by decide +kernel) ⟨Nat.le_of_ble_eq_true rfl, Nat.le_of_ble_eq_true rfl⟩ (va_recv hK hP (ci := 2) (q0 := 0) rfl sl_aL) rfl hl.1 rfl (Nat.le_of_ble_eq_true rfl) dX2_number_2 ⟨Nat.zero_le _, Nat.zero_le _⟩ hK hN hD hP hS (fun H locs hP hS => ?_)
  refine W.eq (g2 := F0 m 5 ls [.ref (ad (3 + q.toNatClampNeg))]) rfl ?_
  refine lv_astore_n (lv' := [(2, .ref (ad (3 + q.toNatClampNeg))), (0, .ref (ad (0))), (1, .int q)]) hx hb dX2_number_5 rfl hl (by decide) rfl (fun ls hl => ?_)
  refine lv_aload_n hx hb dX2_number_6 rfl (lv_at hl 0 rfl) ?_
  refine lv_ifnonnull (tgt := 15) hx hb dX2_number_7 (by decide) ?_
  refine lv_aload_n hx hb dX2_number_15 rfl (lv_at hl 0 rfl) ?_
  refine va_getN (D := G) (ci := 0) (v := .int (σ (3 + q.toNatClampNeg) 4)) (C := RX0) (T := TX0) (N := 12) hx hb hts hi0 hown hK hP (3 + q.toNatClampNeg) (sl_aC (sl_lt hc)) rfl 4 (by decide) (hN.f 13 rfl) (fun _ h9 => h9) rfl dX2_number_16 ?_
  have e_q : (sp_X2_number_in σ q) = (σ (3 + q.toNatClampNeg) 4) := by rw [sp_X2_number_in]
  exact sl_iret hx hb hr hlocks hP hS (by rw [e_q]) rfl rfl dX2_number_19
def sp_X2_epochOf_in (σ : sl_M) (q : Int32) : Int32 := (σ (3 + q.toNatClampNeg) 0)
set_option maxHeartbeats 4000000 in
set_option maxRecDepth 100000 in
theorem c_X2_epochOf_in (l : Launch) (G : va_G) (cy : Nat → ClassId) (ad : Nat → Nat) (σ τ : sl_M) (q : Int32) (hc : vp_in q 3) : sl_C l G cy ad yX2_epochOf wsX2_epochOf ({ frames := 1, cells := 0, slots := 0, locals := 21 }) [.ref (ad (0)), .int q] σ τ (some (.int (sp_X2_epochOf_in σ q))) σ τ := by
  refine sl_of (cc := cX2_epochOf) (maxL := 3) (ret := (some .int)) (by decide) rfl (Nat.le_of_ble_eq_true rfl) ?_
  intro p e s m below meth c hx hb hr hml hts hown hlocks hK hN hD hP hS ls hl
  have hown : s.vm.findClass RX2 = some m.cls := hown
  have hl : lv_has ls 3 [(0, .ref (ad (0))), (1, .int q)] := hl
  have hi0 : ∀ w ∈ wsX00, w ∈ wsX2_epochOf := fun _ h => (List.mem_cons_of_mem _ (List.mem_append_left _ (List.mem_append_right _ h)))
  refine lv_aload_n hx hb dX2_epochOf_0 rfl (lv_at hl 0 rfl) ?_
  refine lv_iload_n hx hb dX2_epochOf_1 rfl (lv_at hl 1 rfl) ?_
  refine sl_cV (n := 1) (As := [.int q]) (rest := []) ⟨hx, hb, hml, hown, hts⟩ (c_X2_clientAt_in l G cy ad σ τ q hc) gX2_epochOf_X2_clientAt rfl rfl rfl (by decide +kernel) ⟨Nat.le_of_ble_eq_true rfl, Nat.le_of_ble_eq_true rfl⟩ (va_recv hK hP (ci := 2) (q0 := 0) rfl sl_aL) rfl hl.1 rfl (Nat.le_of_ble_eq_true rfl) dX2_epochOf_2 ⟨Nat.zero_le _, Nat.zero_le _⟩ hK hN hD hP hS (fun H locs hP hS => ?_)
  refine W.eq (g2 := F0 m 5 ls [.ref (ad (3 + q.toNatClampNeg))]) rfl ?_
  refine lv_astore_n (lv' := [(2, .ref (ad (3 + q.toNatClampNeg))), (0, .ref (ad (0))), (1, .int q)]) hx hb dX2_epochOf_5 rfl hl (by decide) rfl (fun ls hl => ?_)
  refine lv_aload_n hx hb dX2_epochOf_6 rfl (lv_at hl 0 rfl) ?_
  refine lv_ifnonnull (tgt := 15) hx hb dX2_epochOf_7 (by decide) ?_
  refine lv_aload_n hx hb dX2_epochOf_15 rfl (lv_at hl 0 rfl) ?_
  refine va_getN (D := G) (ci := 0) (v := .int (σ (3 + q.toNatClampNeg) 0)) (C := RX0) (T := TX0) (N := 12) hx hb hts hi0 hown hK hP (3 + q.toNatClampNeg) (sl_aC (sl_lt hc)) rfl 0 (by decide) (hN.f 11 rfl) (fun _ h9 => h9) rfl dX2_epochOf_16 ?_
  have e_q : (sp_X2_epochOf_in σ q) = (σ (3 + q.toNatClampNeg) 0) := by rw [sp_X2_epochOf_in]
  exact sl_iret hx hb hr hlocks hP hS (by rw [e_q]) rfl rfl dX2_epochOf_19
def sp_X2_membersOf_in (σ : sl_M) (q : Int32) : Int32 := (σ (3 + q.toNatClampNeg) 1)
set_option maxHeartbeats 4000000 in
set_option maxRecDepth 100000 in
theorem c_X2_membersOf_in (l : Launch) (G : va_G) (cy : Nat → ClassId) (ad : Nat → Nat) (σ τ : sl_M) (q : Int32) (hc : vp_in q 3) : sl_C l G cy ad yX2_membersOf wsX2_membersOf ({ frames := 1, cells := 0, slots := 0, locals := 21 }) [.ref (ad (0)), .int q] σ τ (some (.int (sp_X2_membersOf_in σ q))) σ τ := by
  refine sl_of (cc := cX2_membersOf) (maxL := 3) (ret := (some .int)) (by decide) rfl (Nat.le_of_ble_eq_true rfl) ?_
  intro p e s m below meth c hx hb hr hml hts hown hlocks hK hN hD hP hS ls hl
  have hown : s.vm.findClass RX2 = some m.cls := hown
  have hl : lv_has ls 3 [(0, .ref (ad (0))), (1, .int q)] := hl
  have hi0 : ∀ w ∈ wsX00, w ∈ wsX2_membersOf := fun _ h => (List.mem_cons_of_mem _ (List.mem_append_left _ (List.mem_append_right _ h)))
  refine lv_aload_n hx hb dX2_membersOf_0 rfl (lv_at hl 0 rfl) ?_
  refine lv_iload_n hx hb dX2_membersOf_1 rfl (lv_at hl 1 rfl) ?_
  refine sl_cV (n := 1) (As := [.int q]) (rest := []) ⟨hx, hb, hml, hown, hts⟩ (c_X2_clientAt_in l G cy ad σ τ q hc) gX2_membersOf_X2_clientAt rfl rfl rfl (by decide +kernel) ⟨Nat.le_of_ble_eq_true rfl, Nat.le_of_ble_eq_true rfl⟩ (va_recv hK hP (ci := 2) (q0 := 0) rfl sl_aL) rfl hl.1 rfl (Nat.le_of_ble_eq_true rfl) dX2_membersOf_2 ⟨Nat.zero_le _, Nat.zero_le _⟩ hK hN hD hP hS (fun H locs hP hS => ?_)
  refine W.eq (g2 := F0 m 5 ls [.ref (ad (3 + q.toNatClampNeg))]) rfl ?_
  refine lv_astore_n (lv' := [(2, .ref (ad (3 + q.toNatClampNeg))), (0, .ref (ad (0))), (1, .int q)]) hx hb dX2_membersOf_5 rfl hl (by decide) rfl (fun ls hl => ?_)
  refine lv_aload_n hx hb dX2_membersOf_6 rfl (lv_at hl 0 rfl) ?_
  refine lv_ifnonnull (tgt := 15) hx hb dX2_membersOf_7 (by decide) ?_
  refine lv_aload_n hx hb dX2_membersOf_15 rfl (lv_at hl 0 rfl) ?_
  refine va_getN (D := G) (ci := 0) (v := .int (σ (3 + q.toNatClampNeg) 1)) (C := RX0) (T := TX0) (N := 12) hx hb hts hi0 hown hK hP (3 + q.toNatClampNeg) (sl_aC (sl_lt hc)) rfl 1 (by decide) (hN.f 5 rfl) (fun _ h9 => h9) rfl dX2_membersOf_16 ?_
  have e_q : (sp_X2_membersOf_in σ q) = (σ (3 + q.toNatClampNeg) 1) := by rw [sp_X2_membersOf_in]
  exact sl_iret hx hb hr hlocks hP hS (by rw [e_q]) rfl rfl dX2_membersOf_19
def sp_X2_setUp_in (σ : sl_M) (u : Int32) (a : Int32) : Int32 × sl_M := ((1 : Int32), (sl_up σ (6 + u.toNatClampNeg) 1 a))
set_option maxHeartbeats 4000000 in
set_option maxRecDepth 100000 in
theorem c_X2_setUp_in (l : Launch) (G : va_G) (cy : Nat → ClassId) (ad : Nat → Nat) (σ τ : sl_M) (u : Int32) (a : Int32) (hu : vp_in u 6) (hnar : narrow .boolean (.int a) = .int a) (hfit : fits .boolean (.int a) = true) : sl_C l G cy ad yX2_setUp wsX2_setUp ({ frames := 1, cells := 0, slots := 0, locals := 21 }) [.ref (ad (0)), .int u, .int a] σ τ (some (.int (sp_X2_setUp_in σ u a).1)) (sp_X2_setUp_in σ u a).2 τ := by
  refine sl_of (cc := cX2_setUp) (maxL := 4) (ret := (some .boolean)) (by decide) rfl (Nat.le_of_ble_eq_true rfl) ?_
  intro p e s m below meth c hx hb hr hml hts hown hlocks hK hN hD hP hS ls hl
  have hown : s.vm.findClass RX2 = some m.cls := hown
  have hl : lv_has ls 4 [(0, .ref (ad (0))), (1, .int u), (2, .int a)] := hl
  have hi1 : ∀ w ∈ wsX10, w ∈ wsX2_setUp := fun _ h => (List.mem_cons_of_mem _ (List.mem_append_left _ (List.mem_append_right _ h)))
  refine lv_aload_n hx hb dX2_setUp_0 rfl (lv_at hl 0 rfl) ?_
  refine lv_iload_n hx hb dX2_setUp_1 rfl (lv_at hl 1 rfl) ?_
  refine sl_cV (n := 1) (As := [.int u]) (rest := []) ⟨hx, hb, hml, hown, hts⟩ (c_X2_unitAt_in l G cy ad σ τ u hu) gX2_setUp_X2_unitAt rfl rfl rfl (by decide +kernel) ⟨Nat.le_of_ble_eq_true rfl, Nat.le_of_ble_eq_true rfl⟩ (va_recv hK hP (ci := 2) (q0 := 0) rfl sl_aL) rfl hl.1 rfl (Nat.le_of_ble_eq_true rfl) dX2_setUp_2 ⟨Nat.zero_le _, Nat.zero_le _⟩ hK hN hD hP hS (fun H locs hP hS => ?_)
  refine W.eq (g2 := F0 m 5 ls [.ref (ad (6 + u.toNatClampNeg))]) rfl ?_
  refine lv_astore_n (lv' := [(3, .ref (ad (6 + u.toNatClampNeg))), (0, .ref (ad (0))), (1, .int u), (2, .int a)]) hx hb dX2_setUp_5 rfl hl (by decide) rfl (fun ls hl => ?_)
  refine lv_aload_n hx hb dX2_setUp_6 rfl (lv_at hl 0 rfl) ?_
  refine lv_ifnonnull (tgt := 12) hx hb dX2_setUp_7 (by decide) ?_
  refine lv_aload_n hx hb dX2_setUp_12 rfl (lv_at hl 0 rfl) ?_
  refine lv_iload_n hx hb dX2_setUp_13 rfl (lv_at hl 3 rfl) ?_
  refine sl_putUN hx hb hts hi1 hown hK hD hP hS (sl_lt hu) 1 (by decide) rfl (tyX1_ok 1 (by decide)) hnar hfit (hN.f 9 rfl) dX2_setUp_14 (fun H locs hP hS => ?_)
  refine lv_iconst (v := (1 : Int32)) hx hb dX2_setUp_17 (by decide) ?_
  have e_q : (sp_X2_setUp_in σ u a) = ((1 : Int32), (sl_up σ (6 + u.toNatClampNeg) 1 a)) := by rw [sp_X2_setUp_in]
  exact sl_zret hx hb hr hlocks (by decide) hP hS (by rw [e_q]) (by rw [e_q]) rfl dX2_setUp_18
def sp_X2_loseSequencer (σ : sl_M) : sl_M := (sl_up σ 0 5 (0 : Int32))
set_option maxHeartbeats 4000000 in
set_option maxRecDepth 100000 in
theorem c_X2_loseSequencer (l : Launch) (G : va_G) (cy : Nat → ClassId) (ad : Nat → Nat) (σ τ : sl_M)  : sl_C l G cy ad yX2_loseSequencer wsX2_loseSequencer ({ frames := 0, cells := 0, slots := 0, locals := 0 }) [.ref (ad (0))] σ τ none (sp_X2_loseSequencer σ) τ := by
  refine sl_of (cc := cX2_loseSequencer) (maxL := 1) (ret := none) (by decide) rfl (Nat.le_of_ble_eq_true rfl) ?_
  intro p e s m below meth c hx hb hr hml hts hown hlocks hK hN hD hP hS ls hl
  have hown : s.vm.findClass RX2 = some m.cls := hown
  have hl : lv_has ls 1 [(0, .ref (ad (0)))] := hl
  have hi2 : ∀ w ∈ wsX20, w ∈ wsX2_loseSequencer := fun _ h => (List.mem_cons_of_mem _ (List.mem_append_right _ h))
  refine lv_aload_n hx hb dX2_loseSequencer_0 rfl (lv_at hl 0 rfl) ?_
  refine lv_iconst (v := (0 : Int32)) hx hb dX2_loseSequencer_1 (by decide) ?_
  refine sl_putL hx hb hts hi2 hown hK hD hP hS 5 (by decide) (by decide) rfl (tyX2_ok 5 (by decide)) (hts _ mw_X2_loseSequencer_1) dX2_loseSequencer_2 (fun H locs hP hS => ?_)
  have e_q : (sp_X2_loseSequencer σ) = (sl_up σ 0 5 (0 : Int32)) := by rw [sp_X2_loseSequencer]
  exact sl_vret hx hb hr hlocks hP hS rfl (by rw [e_q]) rfl dX2_loseSequencer_5
def sp_X2_tail (σ : sl_M) : Int32 := (σ 0 5)
set_option maxHeartbeats 4000000 in
set_option maxRecDepth 100000 in
theorem c_X2_tail (l : Launch) (G : va_G) (cy : Nat → ClassId) (ad : Nat → Nat) (σ τ : sl_M)  : sl_C l G cy ad yX2_tail wsX2_tail ({ frames := 0, cells := 0, slots := 0, locals := 0 }) [.ref (ad (0))] σ τ (some (.int (sp_X2_tail σ))) σ τ := by
  refine sl_of (cc := cX2_tail) (maxL := 1) (ret := (some .int)) (by decide) rfl (Nat.le_of_ble_eq_true rfl) ?_
  intro p e s m below meth c hx hb hr hml hts hown hlocks hK hN hD hP hS ls hl
  have hown : s.vm.findClass RX2 = some m.cls := hown
  have hl : lv_has ls 1 [(0, .ref (ad (0)))] := hl
  have hi2 : ∀ w ∈ wsX20, w ∈ wsX2_tail := fun _ h => (List.mem_cons_of_mem _ (List.mem_append_right _ h))
  refine lv_aload_n hx hb dX2_tail_0 rfl (lv_at hl 0 rfl) ?_
  refine va_get (D := G) (ci := 2) (v := .int (σ 0 5)) (C := RX2) (T := TX2) (N := 6) hx hb hts hi2 hown hK hP 0 sl_aL rfl 5 (by decide) (hts _ mw_X2_tail_1) (fun _ h9 => h9) rfl dX2_tail_1 ?_
  have e_q : (sp_X2_tail σ) = (σ 0 5) := by rw [sp_X2_tail]
  exact sl_iret hx hb hr hlocks hP hS (by rw [e_q]) rfl rfl dX2_tail_4
def sp_X2_unitEpoch_in (σ : sl_M) (u : Int32) : Int32 := (σ (6 + u.toNatClampNeg) 0)
set_option maxHeartbeats 4000000 in
set_option maxRecDepth 100000 in
theorem c_X2_unitEpoch_in (l : Launch) (G : va_G) (cy : Nat → ClassId) (ad : Nat → Nat) (σ τ : sl_M) (u : Int32) (hu : vp_in u 6) : sl_C l G cy ad yX2_unitEpoch wsX2_unitEpoch ({ frames := 1, cells := 0, slots := 0, locals := 21 }) [.ref (ad (0)), .int u] σ τ (some (.int (sp_X2_unitEpoch_in σ u))) σ τ := by
  refine sl_of (cc := cX2_unitEpoch) (maxL := 3) (ret := (some .int)) (by decide) rfl (Nat.le_of_ble_eq_true rfl) ?_
  intro p e s m below meth c hx hb hr hml hts hown hlocks hK hN hD hP hS ls hl
  have hown : s.vm.findClass RX2 = some m.cls := hown
  have hl : lv_has ls 3 [(0, .ref (ad (0))), (1, .int u)] := hl
  have hi1 : ∀ w ∈ wsX10, w ∈ wsX2_unitEpoch := fun _ h => (List.mem_cons_of_mem _ (List.mem_append_left _ (List.mem_append_right _ h)))
  refine lv_aload_n hx hb dX2_unitEpoch_0 rfl (lv_at hl 0 rfl) ?_
  refine lv_iload_n hx hb dX2_unitEpoch_1 rfl (lv_at hl 1 rfl) ?_
  refine sl_cV (n := 1) (As := [.int u]) (rest := []) ⟨hx, hb, hml, hown, hts⟩ (c_X2_unitAt_in l G cy ad σ τ u hu) gX2_unitEpoch_X2_unitAt rfl rfl rfl (by decide +kernel) ⟨Nat.le_of_ble_eq_true rfl, Nat.le_of_ble_eq_true rfl⟩ (va_recv hK hP (ci := 2) (q0 := 0) rfl sl_aL) rfl hl.1 rfl (Nat.le_of_ble_eq_true rfl) dX2_unitEpoch_2 ⟨Nat.zero_le _, Nat.zero_le _⟩ hK hN hD hP hS (fun H locs hP hS => ?_)
  refine W.eq (g2 := F0 m 5 ls [.ref (ad (6 + u.toNatClampNeg))]) rfl ?_
  refine lv_astore_n (lv' := [(2, .ref (ad (6 + u.toNatClampNeg))), (0, .ref (ad (0))), (1, .int u)]) hx hb dX2_unitEpoch_5 rfl hl (by decide) rfl (fun ls hl => ?_)
  refine lv_aload_n hx hb dX2_unitEpoch_6 rfl (lv_at hl 0 rfl) ?_
  refine lv_ifnonnull (tgt := 15) hx hb dX2_unitEpoch_7 (by decide) ?_
  refine lv_aload_n hx hb dX2_unitEpoch_15 rfl (lv_at hl 0 rfl) ?_
  refine va_getN (D := G) (ci := 1) (v := .int (σ (6 + u.toNatClampNeg) 0)) (C := RX1) (T := TX1) (N := 3) hx hb hts hi1 hown hK hP (6 + u.toNatClampNeg) (sl_aU (sl_lt hu)) rfl 0 (by decide) (hN.f 10 rfl) (fun _ h9 => h9) rfl dX2_unitEpoch_16 ?_
  have e_q : (sp_X2_unitEpoch_in σ u) = (σ (6 + u.toNatClampNeg) 0) := by rw [sp_X2_unitEpoch_in]
  exact sl_iret hx hb hr hlocks hP hS (by rw [e_q]) rfl rfl dX2_unitEpoch_19
def sp_X2_cell_in (σ : sl_M) (u : Int32) (a : Int32) : Int32 := (sp_X1_contentAt σ u.toNatClampNeg a)
set_option maxHeartbeats 4000000 in
set_option maxRecDepth 100000 in
theorem c_X2_cell_in (l : Launch) (G : va_G) (cy : Nat → ClassId) (ad : Nat → Nat) (σ τ : sl_M) (u : Int32) (a : Int32) (hu : vp_in u 6) : sl_C l G cy ad yX2_cell wsX2_cell ({ frames := 2, cells := 0, slots := 0, locals := 41 }) [.ref (ad (0)), .int u, .int a] σ τ (some (.int (sp_X2_cell_in σ u a))) σ τ := by
  refine sl_of (cc := cX2_cell) (maxL := 4) (ret := (some .int)) (by decide) rfl (Nat.le_of_ble_eq_true rfl) ?_
  intro p e s m below meth c hx hb hr hml hts hown hlocks hK hN hD hP hS ls hl
  have hown : s.vm.findClass RX2 = some m.cls := hown
  have hl : lv_has ls 4 [(0, .ref (ad (0))), (1, .int u), (2, .int a)] := hl
  refine lv_aload_n hx hb dX2_cell_0 rfl (lv_at hl 0 rfl) ?_
  refine lv_iload_n hx hb dX2_cell_1 rfl (lv_at hl 1 rfl) ?_
  refine sl_cV (n := 1) (As := [.int u]) (rest := []) ⟨hx, hb, hml, hown, hts⟩ (c_X2_unitAt_in l G cy ad σ τ u hu) gX2_cell_X2_unitAt rfl rfl rfl (by decide +kernel) ⟨Nat.le_of_ble_eq_true rfl, Nat.le_of_ble_eq_true rfl⟩ (va_recv hK hP (ci := 2) (q0 := 0) rfl sl_aL) rfl hl.1 rfl (Nat.le_of_ble_eq_true rfl) dX2_cell_2 ⟨Nat.zero_le _, Nat.zero_le _⟩ hK hN hD hP hS (fun H locs hP hS => ?_)
  refine W.eq (g2 := F0 m 5 ls [.ref (ad (6 + u.toNatClampNeg))]) rfl ?_
  refine lv_astore_n (lv' := [(3, .ref (ad (6 + u.toNatClampNeg))), (0, .ref (ad (0))), (1, .int u), (2, .int a)]) hx hb dX2_cell_5 rfl hl (by decide) rfl (fun ls hl => ?_)
  refine lv_aload_n hx hb dX2_cell_6 rfl (lv_at hl 0 rfl) ?_
  refine lv_ifnonnull (tgt := 15) hx hb dX2_cell_7 (by decide) ?_
  refine lv_aload_n hx hb dX2_cell_15 rfl (lv_at hl 0 rfl) ?_
  refine lv_iload_n hx hb dX2_cell_16 rfl (lv_at hl 3 rfl) ?_
  refine sl_nV (n := 1) (As := [.int a]) (rest := []) ⟨hx, hb, hml, hown, hts⟩ (c_X1_contentAt l G cy ad σ τ u.toNatClampNeg (sl_lt hu) a) gX2_cell_X1_contentAt_n126 rfl rfl rfl (hN.m 7 rfl) (hts _ mw_X2_cell_8) (hts _ mw_X2_cell_7) (hts _ mw_X2_cell_9) (by decide +kernel) ⟨Nat.le_of_ble_eq_true rfl, Nat.le_of_ble_eq_true rfl⟩ (va_recv hK hP (ci := 1) (q0 := 6 + u.toNatClampNeg) rfl (sl_aU (sl_lt hu))) rfl hl.1 rfl (Nat.le_of_ble_eq_true rfl) dX2_cell_17 ⟨Nat.zero_le _, Nat.zero_le _⟩ hK hN hD hP hS (fun H locs hP hS => ?_)
  refine W.eq (g2 := F0 m 20 ls [.int (sp_X1_contentAt σ u.toNatClampNeg a)]) rfl ?_
  have e_q : (sp_X2_cell_in σ u a) = (sp_X1_contentAt σ u.toNatClampNeg a) := by rw [sp_X2_cell_in]
  exact sl_iret hx hb hr hlocks hP hS (by rw [e_q]) rfl rfl dX2_cell_20
end
section
set_option maxHeartbeats 4000000 in
set_option maxRecDepth 100000 in
theorem c_X2_append_out (l : Launch) (G : va_G) (cy : Nat → ClassId) (ad : Nat → Nat) (σ τ : sl_M) (q : Int32) (a : Int32) (hc : ¬ vp_in q 3) : sl_C l G cy ad yX2_append wsX2_append ({ frames := 1, cells := 0, slots := 0, locals := 21 }) [.ref (ad (0)), .int q, .int a] σ τ (some (.int (-1 : Int32))) σ τ := by
  refine sl_of (cc := cX2_append) (maxL := 4) (ret := (some .int)) (by decide) rfl (Nat.le_of_ble_eq_true rfl) ?_
  intro p e s m below meth c hx hb hr hml hts hown hlocks hK hN hD hP hS ls hl
  have hown : s.vm.findClass RX2 = some m.cls := hown
  have hl : lv_has ls 4 [(0, .ref (ad (0))), (1, .int q), (2, .int a)] := hl
  refine lv_aload_n hx hb dX2_append_0 rfl (lv_at hl 0 rfl) ?_
  refine lv_iload_n hx hb dX2_append_1 rfl (lv_at hl 1 rfl) ?_
  refine sl_cV (n := 1) (As := [.int q]) (rest := []) ⟨hx, hb, hml, hown, hts⟩ (c_X2_clientAt_out l G cy ad σ τ q hc) gX2_append_X2_clientAt rfl rfl rfl (by decide +kernel) ⟨Nat.le_of_ble_eq_true rfl, Nat.le_of_ble_eq_true rfl⟩ (va_recv hK hP (ci := 2) (q0 := 0) rfl sl_aL) rfl hl.1 rfl (Nat.le_of_ble_eq_true rfl) dX2_append_2 ⟨Nat.zero_le _, Nat.zero_le _⟩ hK hN hD hP hS (fun H locs hP hS => ?_)
  refine W.eq (g2 := F0 m 5 ls [.null]) rfl ?_
  refine lv_astore_nN (lv' := [(3, .null), (0, .ref (ad (0))), (1, .int q), (2, .int a)]) hx hb dX2_append_5 rfl hl (by decide) rfl (fun ls hl => ?_)
  refine lv_aload_nN hx hb dX2_append_6 rfl (lv_at hl 0 rfl) ?_
  refine lv_ifnonnullN hx hb dX2_append_7 ?_
  refine lv_iconst (v := (-1 : Int32)) hx hb dX2_append_10 (by decide) ?_
  exact sl_iret hx hb hr hlocks hP hS rfl rfl rfl dX2_append_11
set_option maxHeartbeats 4000000 in
set_option maxRecDepth 100000 in
theorem c_X2_fill_out (l : Launch) (G : va_G) (cy : Nat → ClassId) (ad : Nat → Nat) (σ τ : sl_M) (q : Int32) (a : Int32) (hc : ¬ vp_in q 3) : sl_C l G cy ad yX2_fill wsX2_fill ({ frames := 1, cells := 0, slots := 0, locals := 21 }) [.ref (ad (0)), .int q, .int a] σ τ (some (.int (-1 : Int32))) σ τ := by
  refine sl_of (cc := cX2_fill) (maxL := 4) (ret := (some .int)) (by decide) rfl (Nat.le_of_ble_eq_true rfl) ?_
  intro p e s m below meth c hx hb hr hml hts hown hlocks hK hN hD hP hS ls hl
  have hown : s.vm.findClass RX2 = some m.cls := hown
  have hl : lv_has ls 4 [(0, .ref (ad (0))), (1, .int q), (2, .int a)] := hl
  refine lv_aload_n hx hb dX2_fill_0 rfl (lv_at hl 0 rfl) ?_
  refine lv_iload_n hx hb dX2_fill_1 rfl (lv_at hl 1 rfl) ?_
  refine sl_cV (n := 1) (As := [.int q]) (rest := []) ⟨hx, hb, hml, hown, hts⟩ (c_X2_clientAt_out l G cy ad σ τ q hc) gX2_fill_X2_clientAt rfl rfl rfl (by decide +kernel) ⟨Nat.le_of_ble_eq_true rfl, Nat.le_of_ble_eq_true rfl⟩ (va_recv hK hP (ci := 2) (q0 := 0) rfl sl_aL) rfl hl.1 rfl (Nat.le_of_ble_eq_true rfl) dX2_fill_2 ⟨Nat.zero_le _, Nat.zero_le _⟩ hK hN hD hP hS (fun H locs hP hS => ?_)
  refine W.eq (g2 := F0 m 5 ls [.null]) rfl ?_
  refine lv_astore_nN (lv' := [(3, .null), (0, .ref (ad (0))), (1, .int q), (2, .int a)]) hx hb dX2_fill_5 rfl hl (by decide) rfl (fun ls hl => ?_)
  refine lv_aload_nN hx hb dX2_fill_6 rfl (lv_at hl 0 rfl) ?_
  refine lv_ifnonnullN hx hb dX2_fill_7 ?_
  refine lv_iconst (v := (-1 : Int32)) hx hb dX2_fill_10 (by decide) ?_
  exact sl_iret hx hb hr hlocks hP hS rfl rfl rfl dX2_fill_11
set_option maxHeartbeats 4000000 in
set_option maxRecDepth 100000 in
theorem c_X2_read_out (l : Launch) (G : va_G) (cy : Nat → ClassId) (ad : Nat → Nat) (σ τ : sl_M) (q : Int32) (a : Int32) (hc : ¬ vp_in q 3) : sl_C l G cy ad yX2_read wsX2_read ({ frames := 1, cells := 0, slots := 0, locals := 21 }) [.ref (ad (0)), .int q, .int a] σ τ (some (.int (-1 : Int32))) σ τ := by
  refine sl_of (cc := cX2_read) (maxL := 4) (ret := (some .int)) (by decide) rfl (Nat.le_of_ble_eq_true rfl) ?_
  intro p e s m below meth c hx hb hr hml hts hown hlocks hK hN hD hP hS ls hl
  have hown : s.vm.findClass RX2 = some m.cls := hown
  have hl : lv_has ls 4 [(0, .ref (ad (0))), (1, .int q), (2, .int a)] := hl
  refine lv_aload_n hx hb dX2_read_0 rfl (lv_at hl 0 rfl) ?_
  refine lv_iload_n hx hb dX2_read_1 rfl (lv_at hl 1 rfl) ?_
  refine sl_cV (n := 1) (As := [.int q]) (rest := []) ⟨hx, hb, hml, hown, hts⟩ (c_X2_clientAt_out l G cy ad σ τ q hc) gX2_read_X2_clientAt rfl rfl rfl (by decide +kernel) ⟨Nat.le_of_ble_eq_true rfl, Nat.le_of_ble_eq_true rfl⟩ (va_recv hK hP (ci := 2) (q0 := 0) rfl sl_aL) rfl hl.1 rfl (Nat.le_of_ble_eq_true rfl) dX2_read_2 ⟨Nat.zero_le _, Nat.zero_le _⟩ hK hN hD hP hS (fun H locs hP hS => ?_)
  refine W.eq (g2 := F0 m 5 ls [.null]) rfl ?_
  refine lv_astore_nN (lv' := [(3, .null), (0, .ref (ad (0))), (1, .int q), (2, .int a)]) hx hb dX2_read_5 rfl hl (by decide) rfl (fun ls hl => ?_)
  refine lv_aload_nN hx hb dX2_read_6 rfl (lv_at hl 0 rfl) ?_
  refine lv_ifnonnullN hx hb dX2_read_7 ?_
  refine lv_iconst (v := (-1 : Int32)) hx hb dX2_read_10 (by decide) ?_
  exact sl_iret hx hb hr hlocks hP hS rfl rfl rfl dX2_read_11
set_option maxHeartbeats 4000000 in
set_option maxRecDepth 100000 in
theorem c_X2_replay_out (l : Launch) (G : va_G) (cy : Nat → ClassId) (ad : Nat → Nat) (σ τ : sl_M) (q : Int32) (a : Int32) (hc : ¬ vp_in q 3) : sl_C l G cy ad yX2_replay wsX2_replay ({ frames := 1, cells := 0, slots := 0, locals := 21 }) [.ref (ad (0)), .int q, .int a] σ τ (some (.int (-1 : Int32))) σ τ := by
  refine sl_of (cc := cX2_replay) (maxL := 4) (ret := (some .int)) (by decide) rfl (Nat.le_of_ble_eq_true rfl) ?_
  intro p e s m below meth c hx hb hr hml hts hown hlocks hK hN hD hP hS ls hl
  have hown : s.vm.findClass RX2 = some m.cls := hown
  have hl : lv_has ls 4 [(0, .ref (ad (0))), (1, .int q), (2, .int a)] := hl
  refine lv_aload_n hx hb dX2_replay_0 rfl (lv_at hl 0 rfl) ?_
  refine lv_iload_n hx hb dX2_replay_1 rfl (lv_at hl 1 rfl) ?_
  refine sl_cV (n := 1) (As := [.int q]) (rest := []) ⟨hx, hb, hml, hown, hts⟩ (c_X2_clientAt_out l G cy ad σ τ q hc) gX2_replay_X2_clientAt rfl rfl rfl (by decide +kernel) ⟨Nat.le_of_ble_eq_true rfl, Nat.le_of_ble_eq_true rfl⟩ (va_recv hK hP (ci := 2) (q0 := 0) rfl sl_aL) rfl hl.1 rfl (Nat.le_of_ble_eq_true rfl) dX2_replay_2 ⟨Nat.zero_le _, Nat.zero_le _⟩ hK hN hD hP hS (fun H locs hP hS => ?_)
  refine W.eq (g2 := F0 m 5 ls [.null]) rfl ?_
  refine lv_astore_nN (lv' := [(3, .null), (0, .ref (ad (0))), (1, .int q), (2, .int a)]) hx hb dX2_replay_5 rfl hl (by decide) rfl (fun ls hl => ?_)
  refine lv_aload_nN hx hb dX2_replay_6 rfl (lv_at hl 0 rfl) ?_
  refine lv_ifnonnullN hx hb dX2_replay_7 ?_
  refine lv_iconst (v := (-1 : Int32)) hx hb dX2_replay_10 (by decide) ?_
  exact sl_iret hx hb hr hlocks hP hS rfl rfl rfl dX2_replay_11
set_option maxHeartbeats 4000000 in
set_option maxRecDepth 100000 in
theorem c_X2_reform_out (l : Launch) (G : va_G) (cy : Nat → ClassId) (ad : Nat → Nat) (σ τ : sl_M) (q : Int32) (a : Int32) (hc : ¬ vp_in q 3) : sl_C l G cy ad yX2_reform wsX2_reform ({ frames := 1, cells := 0, slots := 0, locals := 21 }) [.ref (ad (0)), .int q, .int a] σ τ (some (.int (-1 : Int32))) σ τ := by
  refine sl_of (cc := cX2_reform) (maxL := 5) (ret := (some .int)) (by decide) rfl (Nat.le_of_ble_eq_true rfl) ?_
  intro p e s m below meth c hx hb hr hml hts hown hlocks hK hN hD hP hS ls hl
  have hown : s.vm.findClass RX2 = some m.cls := hown
  have hl : lv_has ls 5 [(0, .ref (ad (0))), (1, .int q), (2, .int a)] := hl
  refine lv_aload_n hx hb dX2_reform_0 rfl (lv_at hl 0 rfl) ?_
  refine lv_iload_n hx hb dX2_reform_1 rfl (lv_at hl 1 rfl) ?_
  refine sl_cV (n := 1) (As := [.int q]) (rest := []) ⟨hx, hb, hml, hown, hts⟩ (c_X2_clientAt_out l G cy ad σ τ q hc) gX2_reform_X2_clientAt rfl rfl rfl (by decide +kernel) ⟨Nat.le_of_ble_eq_true rfl, Nat.le_of_ble_eq_true rfl⟩ (va_recv hK hP (ci := 2) (q0 := 0) rfl sl_aL) rfl hl.1 rfl (Nat.le_of_ble_eq_true rfl) dX2_reform_2 ⟨Nat.zero_le _, Nat.zero_le _⟩ hK hN hD hP hS (fun H locs hP hS => ?_)
  refine W.eq (g2 := F0 m 5 ls [.null]) rfl ?_
  refine lv_astore_nN (lv' := [(3, .null), (0, .ref (ad (0))), (1, .int q), (2, .int a)]) hx hb dX2_reform_5 rfl hl (by decide) rfl (fun ls hl => ?_)
  refine lv_aload_nN hx hb dX2_reform_6 rfl (lv_at hl 0 rfl) ?_
  refine lv_ifnonnullN hx hb dX2_reform_7 ?_
  refine lv_iconst (v := (-1 : Int32)) hx hb dX2_reform_10 (by decide) ?_
  exact sl_iret hx hb hr hlocks hP hS rfl rfl rfl dX2_reform_11
set_option maxHeartbeats 4000000 in
set_option maxRecDepth 100000 in
theorem c_X2_step_out (l : Launch) (G : va_G) (cy : Nat → ClassId) (ad : Nat → Nat) (σ τ : sl_M) (q : Int32) (hc : ¬ vp_in q 3) : sl_C l G cy ad yX2_step wsX2_step ({ frames := 1, cells := 0, slots := 0, locals := 21 }) [.ref (ad (0)), .int q] σ τ (some (.int (-1 : Int32))) σ τ := by
  refine sl_of (cc := cX2_step) (maxL := 4) (ret := (some .int)) (by decide) rfl (Nat.le_of_ble_eq_true rfl) ?_
  intro p e s m below meth c hx hb hr hml hts hown hlocks hK hN hD hP hS ls hl
  have hown : s.vm.findClass RX2 = some m.cls := hown
  have hl : lv_has ls 4 [(0, .ref (ad (0))), (1, .int q)] := hl
  refine lv_aload_n hx hb dX2_step_0 rfl (lv_at hl 0 rfl) ?_
  refine lv_iload_n hx hb dX2_step_1 rfl (lv_at hl 1 rfl) ?_
  refine sl_cV (n := 1) (As := [.int q]) (rest := []) ⟨hx, hb, hml, hown, hts⟩ (c_X2_clientAt_out l G cy ad σ τ q hc) gX2_step_X2_clientAt rfl rfl rfl (by decide +kernel) ⟨Nat.le_of_ble_eq_true rfl, Nat.le_of_ble_eq_true rfl⟩ (va_recv hK hP (ci := 2) (q0 := 0) rfl sl_aL) rfl hl.1 rfl (Nat.le_of_ble_eq_true rfl) dX2_step_2 ⟨Nat.zero_le _, Nat.zero_le _⟩ hK hN hD hP hS (fun H locs hP hS => ?_)
  refine W.eq (g2 := F0 m 5 ls [.null]) rfl ?_
  refine lv_astore_nN (lv' := [(2, .null), (0, .ref (ad (0))), (1, .int q)]) hx hb dX2_step_5 rfl hl (by decide) rfl (fun ls hl => ?_)
  refine lv_aload_nN hx hb dX2_step_6 rfl (lv_at hl 0 rfl) ?_
  refine lv_ifnonnullN hx hb dX2_step_7 ?_
  refine lv_iconst (v := (-1 : Int32)) hx hb dX2_step_10 (by decide) ?_
  exact sl_iret hx hb hr hlocks hP hS rfl rfl rfl dX2_step_11
set_option maxHeartbeats 4000000 in
set_option maxRecDepth 100000 in
theorem c_X2_refresh_out (l : Launch) (G : va_G) (cy : Nat → ClassId) (ad : Nat → Nat) (σ τ : sl_M) (q : Int32) (hc : ¬ vp_in q 3) : sl_C l G cy ad yX2_refresh wsX2_refresh ({ frames := 1, cells := 0, slots := 0, locals := 21 }) [.ref (ad (0)), .int q] σ τ (some (.int (-1 : Int32))) σ τ := by
  refine sl_of (cc := cX2_refresh) (maxL := 3) (ret := (some .int)) (by decide) rfl (Nat.le_of_ble_eq_true rfl) ?_
  intro p e s m below meth c hx hb hr hml hts hown hlocks hK hN hD hP hS ls hl
  have hown : s.vm.findClass RX2 = some m.cls := hown
  have hl : lv_has ls 3 [(0, .ref (ad (0))), (1, .int q)] := hl
  refine lv_aload_n hx hb dX2_refresh_0 rfl (lv_at hl 0 rfl) ?_
  refine lv_iload_n hx hb dX2_refresh_1 rfl (lv_at hl 1 rfl) ?_
  refine sl_cV (n := 1) (As := [.int q]) (rest := []) ⟨hx, hb, hml, hown, hts⟩ (c_X2_clientAt_out l G cy ad σ τ q hc) gX2_refresh_X2_clientAt rfl rfl rfl (by decide +kernel) ⟨Nat.le_of_ble_eq_true rfl, Nat.le_of_ble_eq_true rfl⟩ (va_recv hK hP (ci := 2) (q0 := 0) rfl sl_aL) rfl hl.1 rfl (Nat.le_of_ble_eq_true rfl) dX2_refresh_2 ⟨Nat.zero_le _, Nat.zero_le _⟩ hK hN hD hP hS (fun H locs hP hS => ?_)
  refine W.eq (g2 := F0 m 5 ls [.null]) rfl ?_
  refine lv_astore_nN (lv' := [(2, .null), (0, .ref (ad (0))), (1, .int q)]) hx hb dX2_refresh_5 rfl hl (by decide) rfl (fun ls hl => ?_)
  refine lv_aload_nN hx hb dX2_refresh_6 rfl (lv_at hl 0 rfl) ?_
  refine lv_ifnonnullN hx hb dX2_refresh_7 ?_
  refine lv_iconst (v := (-1 : Int32)) hx hb dX2_refresh_10 (by decide) ?_
  exact sl_iret hx hb hr hlocks hP hS rfl rfl rfl dX2_refresh_11
set_option maxHeartbeats 4000000 in
set_option maxRecDepth 100000 in
theorem c_X2_busy_out (l : Launch) (G : va_G) (cy : Nat → ClassId) (ad : Nat → Nat) (σ τ : sl_M) (q : Int32) (hc : ¬ vp_in q 3) : sl_C l G cy ad yX2_busy wsX2_busy ({ frames := 1, cells := 0, slots := 0, locals := 21 }) [.ref (ad (0)), .int q] σ τ (some (.int (-9 : Int32))) σ τ := by
  refine sl_of (cc := cX2_busy) (maxL := 3) (ret := (some .int)) (by decide) rfl (Nat.le_of_ble_eq_true rfl) ?_
  intro p e s m below meth c hx hb hr hml hts hown hlocks hK hN hD hP hS ls hl
  have hown : s.vm.findClass RX2 = some m.cls := hown
  have hl : lv_has ls 3 [(0, .ref (ad (0))), (1, .int q)] := hl
  refine lv_aload_n hx hb dX2_busy_0 rfl (lv_at hl 0 rfl) ?_
  refine lv_iload_n hx hb dX2_busy_1 rfl (lv_at hl 1 rfl) ?_
  refine sl_cV (n := 1) (As := [.int q]) (rest := []) ⟨hx, hb, hml, hown, hts⟩ (c_X2_clientAt_out l G cy ad σ τ q hc) gX2_busy_X2_clientAt rfl rfl rfl (by decide +kernel) ⟨Nat.le_of_ble_eq_true rfl, Nat.le_of_ble_eq_true rfl⟩ (va_recv hK hP (ci := 2) (q0 := 0) rfl sl_aL) rfl hl.1 rfl (Nat.le_of_ble_eq_true rfl) dX2_busy_2 ⟨Nat.zero_le _, Nat.zero_le _⟩ hK hN hD hP hS (fun H locs hP hS => ?_)
  refine W.eq (g2 := F0 m 5 ls [.null]) rfl ?_
  refine lv_astore_nN (lv' := [(2, .null), (0, .ref (ad (0))), (1, .int q)]) hx hb dX2_busy_5 rfl hl (by decide) rfl (fun ls hl => ?_)
  refine lv_aload_nN hx hb dX2_busy_6 rfl (lv_at hl 0 rfl) ?_
  refine lv_ifnonnullN hx hb dX2_busy_7 ?_
  refine lv_bipush (v := (-9 : Int32)) hx hb dX2_busy_10 (by decide) ?_
  refine lv_goto (tgt := 19) hx hb dX2_busy_12 (by decide) ?_
  exact sl_iret hx hb hr hlocks hP hS rfl rfl rfl dX2_busy_19
set_option maxHeartbeats 4000000 in
set_option maxRecDepth 100000 in
theorem c_X2_outcome_out (l : Launch) (G : va_G) (cy : Nat → ClassId) (ad : Nat → Nat) (σ τ : sl_M) (q : Int32) (hc : ¬ vp_in q 3) : sl_C l G cy ad yX2_outcome wsX2_outcome ({ frames := 1, cells := 0, slots := 0, locals := 21 }) [.ref (ad (0)), .int q] σ τ (some (.int (-9 : Int32))) σ τ := by
  refine sl_of (cc := cX2_outcome) (maxL := 3) (ret := (some .int)) (by decide) rfl (Nat.le_of_ble_eq_true rfl) ?_
  intro p e s m below meth c hx hb hr hml hts hown hlocks hK hN hD hP hS ls hl
  have hown : s.vm.findClass RX2 = some m.cls := hown
  have hl : lv_has ls 3 [(0, .ref (ad (0))), (1, .int q)] := hl
  refine lv_aload_n hx hb dX2_outcome_0 rfl (lv_at hl 0 rfl) ?_
  refine lv_iload_n hx hb dX2_outcome_1 rfl (lv_at hl 1 rfl) ?_
  refine sl_cV (n := 1) (As := [.int q]) (rest := []) ⟨hx, hb, hml, hown, hts⟩ (c_X2_clientAt_out l G cy ad σ τ q hc) gX2_outcome_X2_clientAt rfl rfl rfl (by decide +kernel) ⟨Nat.le_of_ble_eq_true rfl, Nat.le_of_ble_eq_true rfl⟩ (va_recv hK hP (ci := 2) (q0 := 0) rfl sl_aL) rfl hl.1 rfl (Nat.le_of_ble_eq_true rfl) dX2_outcome_2 ⟨Nat.zero_le _, Nat.zero_le _⟩ hK hN hD hP hS (fun H locs hP hS => ?_)
  refine W.eq (g2 := F0 m 5 ls [.null]) rfl ?_
  refine lv_astore_nN (lv' := [(2, .null), (0, .ref (ad (0))), (1, .int q)]) hx hb dX2_outcome_5 rfl hl (by decide) rfl (fun ls hl => ?_)
  refine lv_aload_nN hx hb dX2_outcome_6 rfl (lv_at hl 0 rfl) ?_
  refine lv_ifnonnullN hx hb dX2_outcome_7 ?_
  refine lv_bipush (v := (-9 : Int32)) hx hb dX2_outcome_10 (by decide) ?_
  refine lv_goto (tgt := 19) hx hb dX2_outcome_12 (by decide) ?_
  exact sl_iret hx hb hr hlocks hP hS rfl rfl rfl dX2_outcome_19
set_option maxHeartbeats 4000000 in
set_option maxRecDepth 100000 in
theorem c_X2_number_out (l : Launch) (G : va_G) (cy : Nat → ClassId) (ad : Nat → Nat) (σ τ : sl_M) (q : Int32) (hc : ¬ vp_in q 3) : sl_C l G cy ad yX2_number wsX2_number ({ frames := 1, cells := 0, slots := 0, locals := 21 }) [.ref (ad (0)), .int q] σ τ (some (.int (-9 : Int32))) σ τ := by
  refine sl_of (cc := cX2_number) (maxL := 3) (ret := (some .int)) (by decide) rfl (Nat.le_of_ble_eq_true rfl) ?_
  intro p e s m below meth c hx hb hr hml hts hown hlocks hK hN hD hP hS ls hl
  have hown : s.vm.findClass RX2 = some m.cls := hown
  have hl : lv_has ls 3 [(0, .ref (ad (0))), (1, .int q)] := hl
  refine lv_aload_n hx hb dX2_number_0 rfl (lv_at hl 0 rfl) ?_
  refine lv_iload_n hx hb dX2_number_1 rfl (lv_at hl 1 rfl) ?_
  refine sl_cV (n := 1) (As := [.int q]) (rest := []) ⟨hx, hb, hml, hown, hts⟩ (c_X2_clientAt_out l G cy ad σ τ q hc) gX2_number_X2_clientAt rfl rfl rfl (by decide +kernel) ⟨Nat.le_of_ble_eq_true rfl, Nat.le_of_ble_eq_true rfl⟩ (va_recv hK hP (ci := 2) (q0 := 0) rfl sl_aL) rfl hl.1 rfl (Nat.le_of_ble_eq_true rfl) dX2_number_2 ⟨Nat.zero_le _, Nat.zero_le _⟩ hK hN hD hP hS (fun H locs hP hS => ?_)
  refine W.eq (g2 := F0 m 5 ls [.null]) rfl ?_
  refine lv_astore_nN (lv' := [(2, .null), (0, .ref (ad (0))), (1, .int q)]) hx hb dX2_number_5 rfl hl (by decide) rfl (fun ls hl => ?_)
  refine lv_aload_nN hx hb dX2_number_6 rfl (lv_at hl 0 rfl) ?_
  refine lv_ifnonnullN hx hb dX2_number_7 ?_
  refine lv_bipush (v := (-9 : Int32)) hx hb dX2_number_10 (by decide) ?_
  refine lv_goto (tgt := 19) hx hb dX2_number_12 (by decide) ?_
  exact sl_iret hx hb hr hlocks hP hS rfl rfl rfl dX2_number_19
set_option maxHeartbeats 4000000 in
set_option maxRecDepth 100000 in
theorem c_X2_epochOf_out (l : Launch) (G : va_G) (cy : Nat → ClassId) (ad : Nat → Nat) (σ τ : sl_M) (q : Int32) (hc : ¬ vp_in q 3) : sl_C l G cy ad yX2_epochOf wsX2_epochOf ({ frames := 1, cells := 0, slots := 0, locals := 21 }) [.ref (ad (0)), .int q] σ τ (some (.int (-9 : Int32))) σ τ := by
  refine sl_of (cc := cX2_epochOf) (maxL := 3) (ret := (some .int)) (by decide) rfl (Nat.le_of_ble_eq_true rfl) ?_
  intro p e s m below meth c hx hb hr hml hts hown hlocks hK hN hD hP hS ls hl
  have hown : s.vm.findClass RX2 = some m.cls := hown
  have hl : lv_has ls 3 [(0, .ref (ad (0))), (1, .int q)] := hl
  refine lv_aload_n hx hb dX2_epochOf_0 rfl (lv_at hl 0 rfl) ?_
  refine lv_iload_n hx hb dX2_epochOf_1 rfl (lv_at hl 1 rfl) ?_
  refine sl_cV (n := 1) (As := [.int q]) (rest := []) ⟨hx, hb, hml, hown, hts⟩ (c_X2_clientAt_out l G cy ad σ τ q hc) gX2_epochOf_X2_clientAt rfl rfl rfl (by decide +kernel) ⟨Nat.le_of_ble_eq_true rfl, Nat.le_of_ble_eq_true rfl⟩ (va_recv hK hP (ci := 2) (q0 := 0) rfl sl_aL) rfl hl.1 rfl (Nat.le_of_ble_eq_true rfl) dX2_epochOf_2 ⟨Nat.zero_le _, Nat.zero_le _⟩ hK hN hD hP hS (fun H locs hP hS => ?_)
  refine W.eq (g2 := F0 m 5 ls [.null]) rfl ?_
  refine lv_astore_nN (lv' := [(2, .null), (0, .ref (ad (0))), (1, .int q)]) hx hb dX2_epochOf_5 rfl hl (by decide) rfl (fun ls hl => ?_)
  refine lv_aload_nN hx hb dX2_epochOf_6 rfl (lv_at hl 0 rfl) ?_
  refine lv_ifnonnullN hx hb dX2_epochOf_7 ?_
  refine lv_bipush (v := (-9 : Int32)) hx hb dX2_epochOf_10 (by decide) ?_
  refine lv_goto (tgt := 19) hx hb dX2_epochOf_12 (by decide) ?_
  exact sl_iret hx hb hr hlocks hP hS rfl rfl rfl dX2_epochOf_19
set_option maxHeartbeats 4000000 in
set_option maxRecDepth 100000 in
theorem c_X2_membersOf_out (l : Launch) (G : va_G) (cy : Nat → ClassId) (ad : Nat → Nat) (σ τ : sl_M) (q : Int32) (hc : ¬ vp_in q 3) : sl_C l G cy ad yX2_membersOf wsX2_membersOf ({ frames := 1, cells := 0, slots := 0, locals := 21 }) [.ref (ad (0)), .int q] σ τ (some (.int (-9 : Int32))) σ τ := by
  refine sl_of (cc := cX2_membersOf) (maxL := 3) (ret := (some .int)) (by decide) rfl (Nat.le_of_ble_eq_true rfl) ?_
  intro p e s m below meth c hx hb hr hml hts hown hlocks hK hN hD hP hS ls hl
  have hown : s.vm.findClass RX2 = some m.cls := hown
  have hl : lv_has ls 3 [(0, .ref (ad (0))), (1, .int q)] := hl
  refine lv_aload_n hx hb dX2_membersOf_0 rfl (lv_at hl 0 rfl) ?_
  refine lv_iload_n hx hb dX2_membersOf_1 rfl (lv_at hl 1 rfl) ?_
  refine sl_cV (n := 1) (As := [.int q]) (rest := []) ⟨hx, hb, hml, hown, hts⟩ (c_X2_clientAt_out l G cy ad σ τ q hc) gX2_membersOf_X2_clientAt rfl rfl rfl (by decide +kernel) ⟨Nat.le_of_ble_eq_true rfl, Nat.le_of_ble_eq_true rfl⟩ (va_recv hK hP (ci := 2) (q0 := 0) rfl sl_aL) rfl hl.1 rfl (Nat.le_of_ble_eq_true rfl) dX2_membersOf_2 ⟨Nat.zero_le _, Nat.zero_le _⟩ hK hN hD hP hS (fun H locs hP hS => ?_)
  refine W.eq (g2 := F0 m 5 ls [.null]) rfl ?_
  refine lv_astore_nN (lv' := [(2, .null), (0, .ref (ad (0))), (1, .int q)]) hx hb dX2_membersOf_5 rfl hl (by decide) rfl (fun ls hl => ?_)
  refine lv_aload_nN hx hb dX2_membersOf_6 rfl (lv_at hl 0 rfl) ?_
  refine lv_ifnonnullN hx hb dX2_membersOf_7 ?_
  refine lv_bipush (v := (-9 : Int32)) hx hb dX2_membersOf_10 (by decide) ?_
  refine lv_goto (tgt := 19) hx hb dX2_membersOf_12 (by decide) ?_
  exact sl_iret hx hb hr hlocks hP hS rfl rfl rfl dX2_membersOf_19
set_option maxHeartbeats 4000000 in
set_option maxRecDepth 100000 in
theorem c_X2_setUp_out (l : Launch) (G : va_G) (cy : Nat → ClassId) (ad : Nat → Nat) (σ τ : sl_M) (u : Int32) (a : Int32) (hu : ¬ vp_in u 6) : sl_C l G cy ad yX2_setUp wsX2_setUp ({ frames := 1, cells := 0, slots := 0, locals := 21 }) [.ref (ad (0)), .int u, .int a] σ τ (some (.int (0 : Int32))) σ τ := by
  refine sl_of (cc := cX2_setUp) (maxL := 4) (ret := (some .boolean)) (by decide) rfl (Nat.le_of_ble_eq_true rfl) ?_
  intro p e s m below meth c hx hb hr hml hts hown hlocks hK hN hD hP hS ls hl
  have hown : s.vm.findClass RX2 = some m.cls := hown
  have hl : lv_has ls 4 [(0, .ref (ad (0))), (1, .int u), (2, .int a)] := hl
  refine lv_aload_n hx hb dX2_setUp_0 rfl (lv_at hl 0 rfl) ?_
  refine lv_iload_n hx hb dX2_setUp_1 rfl (lv_at hl 1 rfl) ?_
  refine sl_cV (n := 1) (As := [.int u]) (rest := []) ⟨hx, hb, hml, hown, hts⟩ (c_X2_unitAt_out l G cy ad σ τ u hu) gX2_setUp_X2_unitAt rfl rfl rfl (by decide +kernel) ⟨Nat.le_of_ble_eq_true rfl, Nat.le_of_ble_eq_true rfl⟩ (va_recv hK hP (ci := 2) (q0 := 0) rfl sl_aL) rfl hl.1 rfl (Nat.le_of_ble_eq_true rfl) dX2_setUp_2 ⟨Nat.zero_le _, Nat.zero_le _⟩ hK hN hD hP hS (fun H locs hP hS => ?_)
  refine W.eq (g2 := F0 m 5 ls [.null]) rfl ?_
  refine lv_astore_nN (lv' := [(3, .null), (0, .ref (ad (0))), (1, .int u), (2, .int a)]) hx hb dX2_setUp_5 rfl hl (by decide) rfl (fun ls hl => ?_)
  refine lv_aload_nN hx hb dX2_setUp_6 rfl (lv_at hl 0 rfl) ?_
  refine lv_ifnonnullN hx hb dX2_setUp_7 ?_
  refine lv_iconst (v := (0 : Int32)) hx hb dX2_setUp_10 (by decide) ?_
  exact sl_zret hx hb hr hlocks (by decide) hP hS rfl rfl rfl dX2_setUp_11
set_option maxHeartbeats 4000000 in
set_option maxRecDepth 100000 in
theorem c_X2_unitEpoch_out (l : Launch) (G : va_G) (cy : Nat → ClassId) (ad : Nat → Nat) (σ τ : sl_M) (u : Int32) (hu : ¬ vp_in u 6) : sl_C l G cy ad yX2_unitEpoch wsX2_unitEpoch ({ frames := 1, cells := 0, slots := 0, locals := 21 }) [.ref (ad (0)), .int u] σ τ (some (.int (-9 : Int32))) σ τ := by
  refine sl_of (cc := cX2_unitEpoch) (maxL := 3) (ret := (some .int)) (by decide) rfl (Nat.le_of_ble_eq_true rfl) ?_
  intro p e s m below meth c hx hb hr hml hts hown hlocks hK hN hD hP hS ls hl
  have hown : s.vm.findClass RX2 = some m.cls := hown
  have hl : lv_has ls 3 [(0, .ref (ad (0))), (1, .int u)] := hl
  refine lv_aload_n hx hb dX2_unitEpoch_0 rfl (lv_at hl 0 rfl) ?_
  refine lv_iload_n hx hb dX2_unitEpoch_1 rfl (lv_at hl 1 rfl) ?_
  refine sl_cV (n := 1) (As := [.int u]) (rest := []) ⟨hx, hb, hml, hown, hts⟩ (c_X2_unitAt_out l G cy ad σ τ u hu) gX2_unitEpoch_X2_unitAt rfl rfl rfl (by decide +kernel) ⟨Nat.le_of_ble_eq_true rfl, Nat.le_of_ble_eq_true rfl⟩ (va_recv hK hP (ci := 2) (q0 := 0) rfl sl_aL) rfl hl.1 rfl (Nat.le_of_ble_eq_true rfl) dX2_unitEpoch_2 ⟨Nat.zero_le _, Nat.zero_le _⟩ hK hN hD hP hS (fun H locs hP hS => ?_)
  refine W.eq (g2 := F0 m 5 ls [.null]) rfl ?_
  refine lv_astore_nN (lv' := [(2, .null), (0, .ref (ad (0))), (1, .int u)]) hx hb dX2_unitEpoch_5 rfl hl (by decide) rfl (fun ls hl => ?_)
  refine lv_aload_nN hx hb dX2_unitEpoch_6 rfl (lv_at hl 0 rfl) ?_
  refine lv_ifnonnullN hx hb dX2_unitEpoch_7 ?_
  refine lv_bipush (v := (-9 : Int32)) hx hb dX2_unitEpoch_10 (by decide) ?_
  refine lv_goto (tgt := 19) hx hb dX2_unitEpoch_12 (by decide) ?_
  exact sl_iret hx hb hr hlocks hP hS rfl rfl rfl dX2_unitEpoch_19
set_option maxHeartbeats 4000000 in
set_option maxRecDepth 100000 in
theorem c_X2_cell_out (l : Launch) (G : va_G) (cy : Nat → ClassId) (ad : Nat → Nat) (σ τ : sl_M) (u : Int32) (a : Int32) (hu : ¬ vp_in u 6) : sl_C l G cy ad yX2_cell wsX2_cell ({ frames := 1, cells := 0, slots := 0, locals := 21 }) [.ref (ad (0)), .int u, .int a] σ τ (some (.int (-9 : Int32))) σ τ := by
  refine sl_of (cc := cX2_cell) (maxL := 4) (ret := (some .int)) (by decide) rfl (Nat.le_of_ble_eq_true rfl) ?_
  intro p e s m below meth c hx hb hr hml hts hown hlocks hK hN hD hP hS ls hl
  have hown : s.vm.findClass RX2 = some m.cls := hown
  have hl : lv_has ls 4 [(0, .ref (ad (0))), (1, .int u), (2, .int a)] := hl
  refine lv_aload_n hx hb dX2_cell_0 rfl (lv_at hl 0 rfl) ?_
  refine lv_iload_n hx hb dX2_cell_1 rfl (lv_at hl 1 rfl) ?_
  refine sl_cV (n := 1) (As := [.int u]) (rest := []) ⟨hx, hb, hml, hown, hts⟩ (c_X2_unitAt_out l G cy ad σ τ u hu) gX2_cell_X2_unitAt rfl rfl rfl (by decide +kernel) ⟨Nat.le_of_ble_eq_true rfl, Nat.le_of_ble_eq_true rfl⟩ (va_recv hK hP (ci := 2) (q0 := 0) rfl sl_aL) rfl hl.1 rfl (Nat.le_of_ble_eq_true rfl) dX2_cell_2 ⟨Nat.zero_le _, Nat.zero_le _⟩ hK hN hD hP hS (fun H locs hP hS => ?_)
  refine W.eq (g2 := F0 m 5 ls [.null]) rfl ?_
  refine lv_astore_nN (lv' := [(3, .null), (0, .ref (ad (0))), (1, .int u), (2, .int a)]) hx hb dX2_cell_5 rfl hl (by decide) rfl (fun ls hl => ?_)
  refine lv_aload_nN hx hb dX2_cell_6 rfl (lv_at hl 0 rfl) ?_
  refine lv_ifnonnullN hx hb dX2_cell_7 ?_
  refine lv_bipush (v := (-9 : Int32)) hx hb dX2_cell_10 (by decide) ?_
  refine lv_goto (tgt := 20) hx hb dX2_cell_12 (by decide) ?_
  exact sl_iret hx hb hr hlocks hP hS rfl rfl rfl dX2_cell_20
end
