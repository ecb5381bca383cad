def sp_X2_isPosition (x : Int32) : Int32 := 
  if x < 0 then (0 : Int32)
  else if (32 : Int32) ≤ x then (0 : Int32)
  else (1 : Int32)
set_option maxHeartbeats 4000000 in
set_option maxRecDepth 100000 in
theorem c_X2_isPosition (l : Launch) (G : va_G) (cy : Nat → ClassId) (ad : Nat → Nat) (σ τ : sl_M) (x : Int32) : sl_C l G cy ad yX2_isPosition wsX2_isPosition ({ frames := 0, cells := 0, slots := 0, locals := 0 }) [.int x] σ τ (some (.int (sp_X2_isPosition x))) σ τ := by
  refine sl_of (cc := cX2_isPosition) (maxL := 1) (ret := (some .boolean)) (by decide) rfl (Nat.le_of_ble_eq_true rfl) ?_
  intro p e s m below meth c hx hb hr hml hts hown hlocks hK hN hD hP hS ls hl
  have hown : s.vm.findClass RX2 = some m.cls := hown
  have hl : lv_has ls 1 [(0, .int x)] := hl
  refine lv_iload_n hx hb dX2_isPosition_0 rfl (lv_at hl 0 rfl) ?_
  refine lv_if_lt (tgt := 14) hx hb dX2_isPosition_1 (by decide) (fun c_1 => ?_) (fun c_1 => ?_)
  · refine lv_iconst (v := (0 : Int32)) hx hb dX2_isPosition_14 (by decide) ?_
    have e_q : (sp_X2_isPosition x) = (0 : Int32) := by rw [sp_X2_isPosition, if_pos c_1]
    exact sl_zret hx hb hr hlocks (by decide) hP hS (by rw [e_q]) rfl rfl dX2_isPosition_15
  · refine lv_iload_n hx hb dX2_isPosition_4 rfl (lv_at hl 0 rfl) ?_
    refine lv_bipush (v := (32 : Int32)) hx hb dX2_isPosition_5 (by decide) ?_
    refine lv_icmp_ge (tgt := 14) hx hb dX2_isPosition_7 (by decide) (fun c_2 => ?_) (fun c_2 => ?_)
    · refine lv_iconst (v := (0 : Int32)) hx hb dX2_isPosition_14 (by decide) ?_
      have e_q : (sp_X2_isPosition x) = (0 : Int32) := by rw [sp_X2_isPosition, if_neg c_1, if_pos c_2]
      exact sl_zret hx hb hr hlocks (by decide) hP hS (by rw [e_q]) rfl rfl dX2_isPosition_15
    · refine lv_iconst (v := (1 : Int32)) hx hb dX2_isPosition_10 (by decide) ?_
      refine lv_goto (tgt := 15) hx hb dX2_isPosition_11 (by decide) ?_
      have e_q : (sp_X2_isPosition x) = (1 : Int32) := by rw [sp_X2_isPosition, if_neg c_1, if_neg c_2]
      exact sl_zret hx hb hr hlocks (by decide) hP hS (by rw [e_q]) rfl rfl dX2_isPosition_15
def sp_X2_lowestUnit (x : Int32) : Int32 := 
  if (x &&& ((1 : Int32) <<< ((0 : Int32) &&& 31))) = 0 then 
    if (x &&& ((1 : Int32) <<< ((1 : Int32) &&& 31))) = 0 then 
      if (x &&& ((1 : Int32) <<< ((2 : Int32) &&& 31))) = 0 then 
        if (x &&& ((1 : Int32) <<< ((3 : Int32) &&& 31))) = 0 then 
          if (x &&& ((1 : Int32) <<< ((4 : Int32) &&& 31))) = 0 then 
            if (x &&& ((1 : Int32) <<< ((5 : Int32) &&& 31))) = 0 then (-1 : Int32)
            else (5 : Int32)
          else (4 : Int32)
        else (3 : Int32)
      else (2 : Int32)
    else (1 : Int32)
  else (0 : Int32)
set_option maxHeartbeats 4000000 in
set_option maxRecDepth 100000 in
theorem c_X2_lowestUnit (l : Launch) (G : va_G) (cy : Nat → ClassId) (ad : Nat → Nat) (σ τ : sl_M) (x : Int32) : sl_C l G cy ad yX2_lowestUnit wsX2_lowestUnit ({ frames := 0, cells := 0, slots := 0, locals := 0 }) [.int x] σ τ (some (.int (sp_X2_lowestUnit x))) σ τ := by
  refine sl_of (cc := cX2_lowestUnit) (maxL := 2) (ret := (some .int)) (by decide) rfl (Nat.le_of_ble_eq_true rfl) ?_
  intro p e s m below meth c hx hb hr hml hts hown hlocks hK hN hD hP hS ls hl
  have hown : s.vm.findClass RX2 = some m.cls := hown
  have hl : lv_has ls 2 [(0, .int x)] := hl
  refine lv_iconst (v := (0 : Int32)) hx hb dX2_lowestUnit_0 (by decide) ?_
  refine lv_istore_n (lv' := [(1, .int (0 : Int32)), (0, .int x)]) hx hb dX2_lowestUnit_1 rfl hl (by decide) rfl (fun ls hl => ?_)
  refine lv_iload_n hx hb dX2_lowestUnit_2 rfl (lv_at hl 0 rfl) ?_
  refine lv_bipush (v := (6 : Int32)) hx hb dX2_lowestUnit_3 (by decide) ?_
  refine lv_icmp_ge (tgt := 24) hx hb dX2_lowestUnit_5 (by decide) (fun h9 => absurd h9 (by decide)) (fun _ => ?_)
  refine lv_iload_n hx hb dX2_lowestUnit_8 rfl (lv_at hl 1 rfl) ?_
  refine lv_iconst (v := (1 : Int32)) hx hb dX2_lowestUnit_9 (by decide) ?_
  refine lv_iload_n hx hb dX2_lowestUnit_10 rfl (lv_at hl 0 rfl) ?_
  refine lv_ishl hx hb dX2_lowestUnit_11 ?_
  refine lv_iand hx hb dX2_lowestUnit_12 ?_
  refine lv_if_eq (tgt := 18) hx hb dX2_lowestUnit_13 (by decide) (fun c_1 => ?_) (fun c_1 => ?_)
  · refine lv_iinc (v := (1 : Int32)) (lv' := [(1, .int (1 : Int32)), (0, .int x)]) hx hb dX2_lowestUnit_18 hl (k := 0) rfl (by decide) (by decide) rfl (fun ls hl => ?_)
    refine lv_goto (tgt := 2) hx hb dX2_lowestUnit_21 (by decide) ?_
    refine lv_iload_n hx hb dX2_lowestUnit_2 rfl (lv_at hl 0 rfl) ?_
    refine lv_bipush (v := (6 : Int32)) hx hb dX2_lowestUnit_3 (by decide) ?_
    refine lv_icmp_ge (tgt := 24) hx hb dX2_lowestUnit_5 (by decide) (fun h9 => absurd h9 (by decide)) (fun _ => ?_)
    refine lv_iload_n hx hb dX2_lowestUnit_8 rfl (lv_at hl 1 rfl) ?_
    refine lv_iconst (v := (1 : Int32)) hx hb dX2_lowestUnit_9 (by decide) ?_
    refine lv_iload_n hx hb dX2_lowestUnit_10 rfl (lv_at hl 0 rfl) ?_
    refine lv_ishl hx hb dX2_lowestUnit_11 ?_
    refine lv_iand hx hb dX2_lowestUnit_12 ?_
    refine lv_if_eq (tgt := 18) hx hb dX2_lowestUnit_13 (by decide) (fun c_2 => ?_) (fun c_2 => ?_)
    · refine lv_iinc (v := (2 : Int32)) (lv' := [(1, .int (2 : Int32)), (0, .int x)]) hx hb dX2_lowestUnit_18 hl (k := 0) rfl (by decide) (by decide) rfl (fun ls hl => ?_)
      refine lv_goto (tgt := 2) hx hb dX2_lowestUnit_21 (by decide) ?_
      refine lv_iload_n hx hb dX2_lowestUnit_2 rfl (lv_at hl 0 rfl) ?_
      refine lv_bipush (v := (6 : Int32)) hx hb dX2_lowestUnit_3 (by decide) ?_
      refine lv_icmp_ge (tgt := 24) hx hb dX2_lowestUnit_5 (by decide) (fun h9 => absurd h9 (by decide)) (fun _ => ?_)
      refine lv_iload_n hx hb dX2_lowestUnit_8 rfl (lv_at hl 1 rfl) ?_
      refine lv_iconst (v := (1 : Int32)) hx hb dX2_lowestUnit_9 (by decide) ?_
      refine lv_iload_n hx hb dX2_lowestUnit_10 rfl (lv_at hl 0 rfl) ?_
      refine lv_ishl hx hb dX2_lowestUnit_11 ?_
      refine lv_iand hx hb dX2_lowestUnit_12 ?_
      refine lv_if_eq (tgt := 18) hx hb dX2_lowestUnit_13 (by decide) (fun c_3 => ?_) (fun c_3 => ?_)
      · refine lv_iinc (v := (3 : Int32)) (lv' := [(1, .int (3 : Int32)), (0, .int x)]) hx hb dX2_lowestUnit_18 hl (k := 0) rfl (by decide) (by decide) rfl (fun ls hl => ?_)
        refine lv_goto (tgt := 2) hx hb dX2_lowestUnit_21 (by decide) ?_
        refine lv_iload_n hx hb dX2_lowestUnit_2 rfl (lv_at hl 0 rfl) ?_
        refine lv_bipush (v := (6 : Int32)) hx hb dX2_lowestUnit_3 (by decide) ?_
        refine lv_icmp_ge (tgt := 24) hx hb dX2_lowestUnit_5 (by decide) (fun h9 => absurd h9 (by decide)) (fun _ => ?_)
        refine lv_iload_n hx hb dX2_lowestUnit_8 rfl (lv_at hl 1 rfl) ?_
        refine lv_iconst (v := (1 : Int32)) hx hb dX2_lowestUnit_9 (by decide) ?_
        refine lv_iload_n hx hb dX2_lowestUnit_10 rfl (lv_at hl 0 rfl) ?_
        refine lv_ishl hx hb dX2_lowestUnit_11 ?_
        refine lv_iand hx hb dX2_lowestUnit_12 ?_
        refine lv_if_eq (tgt := 18) hx hb dX2_lowestUnit_13 (by decide) (fun c_4 => ?_) (fun c_4 => ?_)
        · refine lv_iinc (v := (4 : Int32)) (lv' := [(1, .int (4 : Int32)), (0, .int x)]) hx hb dX2_lowestUnit_18 hl (k := 0) rfl (by decide) (by decide) rfl (fun ls hl => ?_)
          refine lv_goto (tgt := 2) hx hb dX2_lowestUnit_21 (by decide) ?_
          refine lv_iload_n hx hb dX2_lowestUnit_2 rfl (lv_at hl 0 rfl) ?_
          refine lv_bipush (v := (6 : Int32)) hx hb dX2_lowestUnit_3 (by decide) ?_
          refine lv_icmp_ge (tgt := 24) hx hb dX2_lowestUnit_5 (by decide) (fun h9 => absurd h9 (by decide)) (fun _ => ?_)
          refine lv_iload_n hx hb dX2_lowestUnit_8 rfl (lv_at hl 1 rfl) ?_
          refine lv_iconst (v := (1 : Int32)) hx hb dX2_lowestUnit_9 (by decide) ?_
          refine lv_iload_n hx hb dX2_lowestUnit_10 rfl (lv_at hl 0 rfl) ?_
          refine lv_ishl hx hb dX2_lowestUnit_11 ?_
          refine lv_iand hx hb dX2_lowestUnit_12 ?_
          refine lv_if_eq (tgt := 18) hx hb dX2_lowestUnit_13 (by decide) (fun c_5 => ?_) (fun c_5 => ?_)
          · refine lv_iinc (v := (5 : Int32)) (lv' := [(1, .int (5 : Int32)), (0, .int x)]) hx hb dX2_lowestUnit_18 hl (k := 0) rfl (by decide) (by decide) rfl (fun ls hl => ?_)
            refine lv_goto (tgt := 2) hx hb dX2_lowestUnit_21 (by decide) ?_
            refine lv_iload_n hx hb dX2_lowestUnit_2 rfl (lv_at hl 0 rfl) ?_
            refine lv_bipush (v := (6 : Int32)) hx hb dX2_lowestUnit_3 (by decide) ?_
            refine lv_icmp_ge (tgt := 24) hx hb dX2_lowestUnit_5 (by decide) (fun h9 => absurd h9 (by decide)) (fun _ => ?_)
            refine lv_iload_n hx hb dX2_lowestUnit_8 rfl (lv_at hl 1 rfl) ?_
            refine lv_iconst (v := (1 : Int32)) hx hb dX2_lowestUnit_9 (by decide) ?_
            refine lv_iload_n hx hb dX2_lowestUnit_10 rfl (lv_at hl 0 rfl) ?_
            refine lv_ishl hx hb dX2_lowestUnit_11 ?_
            refine lv_iand hx hb dX2_lowestUnit_12 ?_
            refine lv_if_eq (tgt := 18) hx hb dX2_lowestUnit_13 (by decide) (fun c_6 => ?_) (fun c_6 => ?_)
            · refine lv_iinc (v := (6 : Int32)) (lv' := [(1, .int (6 : Int32)), (0, .int x)]) hx hb dX2_lowestUnit_18 hl (k := 0) rfl (by decide) (by decide) rfl (fun ls hl => ?_)
              refine lv_goto (tgt := 2) hx hb dX2_lowestUnit_21 (by decide) ?_
              refine lv_iload_n hx hb dX2_lowestUnit_2 rfl (lv_at hl 0 rfl) ?_
              refine lv_bipush (v := (6 : Int32)) hx hb dX2_lowestUnit_3 (by decide) ?_
              refine lv_icmp_ge (tgt := 24) hx hb dX2_lowestUnit_5 (by decide) (fun _ => ?_) (fun h9 => absurd (by decide) h9)
              refine lv_iconst (v := (-1 : Int32)) hx hb dX2_lowestUnit_24 (by decide) ?_
              have e_q : (sp_X2_lowestUnit x) = (-1 : Int32) := by rw [sp_X2_lowestUnit, if_pos c_1, if_pos c_2, if_pos c_3, if_pos c_4, if_pos c_5, if_pos c_6]
              exact sl_iret hx hb hr hlocks hP hS (by rw [e_q]) rfl rfl dX2_lowestUnit_25
            · refine lv_iload_n hx hb dX2_lowestUnit_16 rfl (lv_at hl 0 rfl) ?_
              have e_q : (sp_X2_lowestUnit x) = (5 : Int32) := by rw [sp_X2_lowestUnit, if_pos c_1, if_pos c_2, if_pos c_3, if_pos c_4, if_pos c_5, if_neg c_6]
              exact sl_iret hx hb hr hlocks hP hS (by rw [e_q]) rfl rfl dX2_lowestUnit_17
          · refine lv_iload_n hx hb dX2_lowestUnit_16 rfl (lv_at hl 0 rfl) ?_
            have e_q : (sp_X2_lowestUnit x) = (4 : Int32) := by rw [sp_X2_lowestUnit, if_pos c_1, if_pos c_2, if_pos c_3, if_pos c_4, if_neg c_5]
            exact sl_iret hx hb hr hlocks hP hS (by rw [e_q]) rfl rfl dX2_lowestUnit_17
        · refine lv_iload_n hx hb dX2_lowestUnit_16 rfl (lv_at hl 0 rfl) ?_
          have e_q : (sp_X2_lowestUnit x) = (3 : Int32) := by rw [sp_X2_lowestUnit, if_pos c_1, if_pos c_2, if_pos c_3, if_neg c_4]
          exact sl_iret hx hb hr hlocks hP hS (by rw [e_q]) rfl rfl dX2_lowestUnit_17
      · refine lv_iload_n hx hb dX2_lowestUnit_16 rfl (lv_at hl 0 rfl) ?_
        have e_q : (sp_X2_lowestUnit x) = (2 : Int32) := by rw [sp_X2_lowestUnit, if_pos c_1, if_pos c_2, if_neg c_3]
        exact sl_iret hx hb hr hlocks hP hS (by rw [e_q]) rfl rfl dX2_lowestUnit_17
    · refine lv_iload_n hx hb dX2_lowestUnit_16 rfl (lv_at hl 0 rfl) ?_
      have e_q : (sp_X2_lowestUnit x) = (1 : Int32) := by rw [sp_X2_lowestUnit, if_pos c_1, if_neg c_2]
      exact sl_iret hx hb hr hlocks hP hS (by rw [e_q]) rfl rfl dX2_lowestUnit_17
  · refine lv_iload_n hx hb dX2_lowestUnit_16 rfl (lv_at hl 0 rfl) ?_
    have e_q : (sp_X2_lowestUnit x) = (0 : Int32) := by rw [sp_X2_lowestUnit, if_neg c_1]
    exact sl_iret hx hb hr hlocks hP hS (by rw [e_q]) rfl rfl dX2_lowestUnit_17
def sp_X2_withoutLowest (x : Int32) : Int32 := (x &&& (x - (1 : Int32)))
set_option maxHeartbeats 4000000 in
set_option maxRecDepth 100000 in
theorem c_X2_withoutLowest (l : Launch) (G : va_G) (cy : Nat → ClassId) (ad : Nat → Nat) (σ τ : sl_M) (x : Int32) : sl_C l G cy ad yX2_withoutLowest wsX2_withoutLowest ({ frames := 0, cells := 0, slots := 0, locals := 0 }) [.int x] σ τ (some (.int (sp_X2_withoutLowest x))) σ τ := by
  refine sl_of (cc := cX2_withoutLowest) (maxL := 1) (ret := (some .int)) (by decide) rfl (Nat.le_of_ble_eq_true rfl) ?_
  intro p e s m below meth c hx hb hr hml hts hown hlocks hK hN hD hP hS ls hl
  have hown : s.vm.findClass RX2 = some m.cls := hown
  have hl : lv_has ls 1 [(0, .int x)] := hl
  refine lv_iload_n hx hb dX2_withoutLowest_0 rfl (lv_at hl 0 rfl) ?_
  refine lv_iload_n hx hb dX2_withoutLowest_1 rfl (lv_at hl 0 rfl) ?_
  refine lv_iconst (v := (1 : Int32)) hx hb dX2_withoutLowest_2 (by decide) ?_
  refine lv_isub hx hb dX2_withoutLowest_3 ?_
  refine lv_iand hx hb dX2_withoutLowest_4 ?_
  have e_q : (sp_X2_withoutLowest x) = (x &&& (x - (1 : Int32))) := by rw [sp_X2_withoutLowest]
  exact sl_iret hx hb hr hlocks hP hS (by rw [e_q]) rfl rfl dX2_withoutLowest_5
def sp_X2_highestOf (x : Int32) : Int32 := 
  if (x &&& ((1 : Int32) <<< ((5 : Int32) &&& 31))) = 0 then 
    if (x &&& ((1 : Int32) <<< ((4 : Int32) &&& 31))) = 0 then 
      if (x &&& ((1 : Int32) <<< ((3 : Int32) &&& 31))) = 0 then 
        if (x &&& ((1 : Int32) <<< ((2 : Int32) &&& 31))) = 0 then 
          if (x &&& ((1 : Int32) <<< ((1 : Int32) &&& 31))) = 0 then 
            if (x &&& ((1 : Int32) <<< ((0 : Int32) &&& 31))) = 0 then (0 : Int32)
            else ((1 : Int32) <<< ((0 : Int32) &&& 31))
          else ((1 : Int32) <<< ((1 : Int32) &&& 31))
        else ((1 : Int32) <<< ((2 : Int32) &&& 31))
      else ((1 : Int32) <<< ((3 : Int32) &&& 31))
    else ((1 : Int32) <<< ((4 : Int32) &&& 31))
  else ((1 : Int32) <<< ((5 : Int32) &&& 31))
set_option maxHeartbeats 4000000 in
set_option maxRecDepth 100000 in
theorem c_X2_highestOf (l : Launch) (G : va_G) (cy : Nat → ClassId) (ad : Nat → Nat) (σ τ : sl_M) (x : Int32) : sl_C l G cy ad yX2_highestOf wsX2_highestOf ({ frames := 0, cells := 0, slots := 0, locals := 0 }) [.int x] σ τ (some (.int (sp_X2_highestOf x))) σ τ := by
  refine sl_of (cc := cX2_highestOf) (maxL := 2) (ret := (some .int)) (by decide) rfl (Nat.le_of_ble_eq_true rfl) ?_
  intro p e s m below meth c hx hb hr hml hts hown hlocks hK hN hD hP hS ls hl
  have hown : s.vm.findClass RX2 = some m.cls := hown
  have hl : lv_has ls 2 [(0, .int x)] := hl
  refine lv_iconst (v := (5 : Int32)) hx hb dX2_highestOf_0 (by decide) ?_
  refine lv_istore_n (lv' := [(1, .int (5 : Int32)), (0, .int x)]) hx hb dX2_highestOf_1 rfl hl (by decide) rfl (fun ls hl => ?_)
  refine lv_iload_n hx hb dX2_highestOf_2 rfl (lv_at hl 0 rfl) ?_
  refine lv_if_lt (tgt := 24) hx hb dX2_highestOf_3 (by decide) (fun h9 => absurd h9 (by decide)) (fun _ => ?_)
  refine lv_iload_n hx hb dX2_highestOf_6 rfl (lv_at hl 1 rfl) ?_
  refine lv_iconst (v := (1 : Int32)) hx hb dX2_highestOf_7 (by decide) ?_
  refine lv_iload_n hx hb dX2_highestOf_8 rfl (lv_at hl 0 rfl) ?_
  refine lv_ishl hx hb dX2_highestOf_9 ?_
  refine lv_iand hx hb dX2_highestOf_10 ?_
  refine lv_if_eq (tgt := 18) hx hb dX2_highestOf_11 (by decide) (fun c_1 => ?_) (fun c_1 => ?_)
  · refine lv_iinc (v := (4 : Int32)) (lv' := [(1, .int (4 : Int32)), (0, .int x)]) hx hb dX2_highestOf_18 hl (k := 0) rfl (by decide) (by decide) rfl (fun ls hl => ?_)
    refine lv_goto (tgt := 2) hx hb dX2_highestOf_21 (by decide) ?_
    refine lv_iload_n hx hb dX2_highestOf_2 rfl (lv_at hl 0 rfl) ?_
    refine lv_if_lt (tgt := 24) hx hb dX2_highestOf_3 (by decide) (fun h9 => absurd h9 (by decide)) (fun _ => ?_)
    refine lv_iload_n hx hb dX2_highestOf_6 rfl (lv_at hl 1 rfl) ?_
    refine lv_iconst (v := (1 : Int32)) hx hb dX2_highestOf_7 (by decide) ?_
    refine lv_iload_n hx hb dX2_highestOf_8 rfl (lv_at hl 0 rfl) ?_
    refine lv_ishl hx hb dX2_highestOf_9 ?_
    refine lv_iand hx hb dX2_highestOf_10 ?_
    refine lv_if_eq (tgt := 18) hx hb dX2_highestOf_11 (by decide) (fun c_2 => ?_) (fun c_2 => ?_)
    · refine lv_iinc (v := (3 : Int32)) (lv' := [(1, .int (3 : Int32)), (0, .int x)]) hx hb dX2_highestOf_18 hl (k := 0) rfl (by decide) (by decide) rfl (fun ls hl => ?_)
      refine lv_goto (tgt := 2) hx hb dX2_highestOf_21 (by decide) ?_
      refine lv_iload_n hx hb dX2_highestOf_2 rfl (lv_at hl 0 rfl) ?_
      refine lv_if_lt (tgt := 24) hx hb dX2_highestOf_3 (by decide) (fun h9 => absurd h9 (by decide)) (fun _ => ?_)
      refine lv_iload_n hx hb dX2_highestOf_6 rfl (lv_at hl 1 rfl) ?_
      refine lv_iconst (v := (1 : Int32)) hx hb dX2_highestOf_7 (by decide) ?_
      refine lv_iload_n hx hb dX2_highestOf_8 rfl (lv_at hl 0 rfl) ?_
      refine lv_ishl hx hb dX2_highestOf_9 ?_
      refine lv_iand hx hb dX2_highestOf_10 ?_
      refine lv_if_eq (tgt := 18) hx hb dX2_highestOf_11 (by decide) (fun c_3 => ?_) (fun c_3 => ?_)
      · refine lv_iinc (v := (2 : Int32)) (lv' := [(1, .int (2 : Int32)), (0, .int x)]) hx hb dX2_highestOf_18 hl (k := 0) rfl (by decide) (by decide) rfl (fun ls hl => ?_)
        refine lv_goto (tgt := 2) hx hb dX2_highestOf_21 (by decide) ?_
        refine lv_iload_n hx hb dX2_highestOf_2 rfl (lv_at hl 0 rfl) ?_
        refine lv_if_lt (tgt := 24) hx hb dX2_highestOf_3 (by decide) (fun h9 => absurd h9 (by decide)) (fun _ => ?_)
        refine lv_iload_n hx hb dX2_highestOf_6 rfl (lv_at hl 1 rfl) ?_
        refine lv_iconst (v := (1 : Int32)) hx hb dX2_highestOf_7 (by decide) ?_
        refine lv_iload_n hx hb dX2_highestOf_8 rfl (lv_at hl 0 rfl) ?_
        refine lv_ishl hx hb dX2_highestOf_9 ?_
        refine lv_iand hx hb dX2_highestOf_10 ?_
        refine lv_if_eq (tgt := 18) hx hb dX2_highestOf_11 (by decide) (fun c_4 => ?_) (fun c_4 => ?_)
        · refine lv_iinc (v := (1 : Int32)) (lv' := [(1, .int (1 : Int32)), (0, .int x)]) hx hb dX2_highestOf_18 hl (k := 0) rfl (by decide) (by decide) rfl (fun ls hl => ?_)
          refine lv_goto (tgt := 2) hx hb dX2_highestOf_21 (by decide) ?_
          refine lv_iload_n hx hb dX2_highestOf_2 rfl (lv_at hl 0 rfl) ?_
          refine lv_if_lt (tgt := 24) hx hb dX2_highestOf_3 (by decide) (fun h9 => absurd h9 (by decide)) (fun _ => ?_)
          refine lv_iload_n hx hb dX2_highestOf_6 rfl (lv_at hl 1 rfl) ?_
          refine lv_iconst (v := (1 : Int32)) hx hb dX2_highestOf_7 (by decide) ?_
          refine lv_iload_n hx hb dX2_highestOf_8 rfl (lv_at hl 0 rfl) ?_
          refine lv_ishl hx hb dX2_highestOf_9 ?_
          refine lv_iand hx hb dX2_highestOf_10 ?_
          refine lv_if_eq (tgt := 18) hx hb dX2_highestOf_11 (by decide) (fun c_5 => ?_) (fun c_5 => ?_)
          · refine lv_iinc (v := (0 : Int32)) (lv' := [(1, .int (0 : Int32)), (0, .int x)]) hx hb dX2_highestOf_18 hl (k := 0) rfl (by decide) (by decide) rfl (fun ls hl => ?_)
            refine lv_goto (tgt := 2) hx hb dX2_highestOf_21 (by decide) ?_
            refine lv_iload_n hx hb dX2_highestOf_2 rfl (lv_at hl 0 rfl) ?_
            refine lv_if_lt (tgt := 24) hx hb dX2_highestOf_3 (by decide) (fun h9 => absurd h9 (by decide)) (fun _ => ?_)
            refine lv_iload_n hx hb dX2_highestOf_6 rfl (lv_at hl 1 rfl) ?_
            refine lv_iconst (v := (1 : Int32)) hx hb dX2_highestOf_7 (by decide) ?_
            refine lv_iload_n hx hb dX2_highestOf_8 rfl (lv_at hl 0 rfl) ?_
            refine lv_ishl hx hb dX2_highestOf_9 ?_
            refine lv_iand hx hb dX2_highestOf_10 ?_
            refine lv_if_eq (tgt := 18) hx hb dX2_highestOf_11 (by decide) (fun c_6 => ?_) (fun c_6 => ?_)
            · refine lv_iinc (v := (-1 : Int32)) (lv' := [(1, .int (-1 : Int32)), (0, .int x)]) hx hb dX2_highestOf_18 hl (k := 0) rfl (by decide) (by decide) rfl (fun ls hl => ?_)
              refine lv_goto (tgt := 2) hx hb dX2_highestOf_21 (by decide) ?_
              refine lv_iload_n hx hb dX2_highestOf_2 rfl (lv_at hl 0 rfl) ?_
              refine lv_if_lt (tgt := 24) hx hb dX2_highestOf_3 (by decide) (fun _ => ?_) (fun h9 => absurd (by decide) h9)
              refine lv_iconst (v := (0 : Int32)) hx hb dX2_highestOf_24 (by decide) ?_
              have e_q : (sp_X2_highestOf x) = (0 : Int32) := by rw [sp_X2_highestOf, if_pos c_1, if_pos c_2, if_pos c_3, if_pos c_4, if_pos c_5, if_pos c_6]
              exact sl_iret hx hb hr hlocks hP hS (by rw [e_q]) rfl rfl dX2_highestOf_25
            · refine lv_iconst (v := (1 : Int32)) hx hb dX2_highestOf_14 (by decide) ?_
              refine lv_iload_n hx hb dX2_highestOf_15 rfl (lv_at hl 0 rfl) ?_
              refine lv_ishl hx hb dX2_highestOf_16 ?_
              have e_q : (sp_X2_highestOf x) = ((1 : Int32) <<< ((0 : Int32) &&& 31)) := by rw [sp_X2_highestOf, if_pos c_1, if_pos c_2, if_pos c_3, if_pos c_4, if_pos c_5, if_neg c_6]
              exact sl_iret hx hb hr hlocks hP hS (by rw [e_q]) rfl rfl dX2_highestOf_17
          · refine lv_iconst (v := (1 : Int32)) hx hb dX2_highestOf_14 (by decide) ?_
            refine lv_iload_n hx hb dX2_highestOf_15 rfl (lv_at hl 0 rfl) ?_
            refine lv_ishl hx hb dX2_highestOf_16 ?_
            have e_q : (sp_X2_highestOf x) = ((1 : Int32) <<< ((1 : Int32) &&& 31)) := by rw [sp_X2_highestOf, if_pos c_1, if_pos c_2, if_pos c_3, if_pos c_4, if_neg c_5]
            exact sl_iret hx hb hr hlocks hP hS (by rw [e_q]) rfl rfl dX2_highestOf_17
        · refine lv_iconst (v := (1 : Int32)) hx hb dX2_highestOf_14 (by decide) ?_
          refine lv_iload_n hx hb dX2_highestOf_15 rfl (lv_at hl 0 rfl) ?_
          refine lv_ishl hx hb dX2_highestOf_16 ?_
          have e_q : (sp_X2_highestOf x) = ((1 : Int32) <<< ((2 : Int32) &&& 31)) := by rw [sp_X2_highestOf, if_pos c_1, if_pos c_2, if_pos c_3, if_neg c_4]
          exact sl_iret hx hb hr hlocks hP hS (by rw [e_q]) rfl rfl dX2_highestOf_17
      · refine lv_iconst (v := (1 : Int32)) hx hb dX2_highestOf_14 (by decide) ?_
        refine lv_iload_n hx hb dX2_highestOf_15 rfl (lv_at hl 0 rfl) ?_
        refine lv_ishl hx hb dX2_highestOf_16 ?_
        have e_q : (sp_X2_highestOf x) = ((1 : Int32) <<< ((3 : Int32) &&& 31)) := by rw [sp_X2_highestOf, if_pos c_1, if_pos c_2, if_neg c_3]
        exact sl_iret hx hb hr hlocks hP hS (by rw [e_q]) rfl rfl dX2_highestOf_17
    · refine lv_iconst (v := (1 : Int32)) hx hb dX2_highestOf_14 (by decide) ?_
      refine lv_iload_n hx hb dX2_highestOf_15 rfl (lv_at hl 0 rfl) ?_
      refine lv_ishl hx hb dX2_highestOf_16 ?_
      have e_q : (sp_X2_highestOf x) = ((1 : Int32) <<< ((4 : Int32) &&& 31)) := by rw [sp_X2_highestOf, if_pos c_1, if_neg c_2]
      exact sl_iret hx hb hr hlocks hP hS (by rw [e_q]) rfl rfl dX2_highestOf_17
  · refine lv_iconst (v := (1 : Int32)) hx hb dX2_highestOf_14 (by decide) ?_
    refine lv_iload_n hx hb dX2_highestOf_15 rfl (lv_at hl 0 rfl) ?_
    refine lv_ishl hx hb dX2_highestOf_16 ?_
    have e_q : (sp_X2_highestOf x) = ((1 : Int32) <<< ((5 : Int32) &&& 31)) := by rw [sp_X2_highestOf, if_neg c_1]
    exact sl_iret hx hb hr hlocks hP hS (by rw [e_q]) rfl rfl dX2_highestOf_17
def sp_X0_begin (σ : sl_M) (i : Nat) (a : Int32) (b : Int32) : Int32 × sl_M := ((0 : Int32), (sl_up (sl_up (sl_up (sl_up σ (3 + i) 2 a) (3 + i) 5 b) (3 + i) 3 (0 : Int32)) (3 + i) 4 (0 : Int32)))
set_option maxHeartbeats 4000000 in
set_option maxRecDepth 100000 in
theorem c_X0_begin (l : Launch) (G : va_G) (cy : Nat → ClassId) (ad : Nat → Nat) (σ τ : sl_M) (i : Nat) (hi : i < 3) (a : Int32) (b : Int32) : sl_C l G cy ad yX0_begin wsX0_begin ({ frames := 0, cells := 0, slots := 0, locals := 0 }) [.ref (ad (3 + i)), .int a, .int b] σ τ (some (.int (sp_X0_begin σ i a b).1)) (sp_X0_begin σ i a b).2 τ := by
  refine sl_of (cc := cX0_begin) (maxL := 3) (ret := (some .int)) (by decide) rfl (Nat.le_of_ble_eq_true rfl) ?_
  intro p e s m below meth c hx hb hr hml hts hown hlocks hK hN hD hP hS ls hl
  have hown : s.vm.findClass RX0 = some m.cls := hown
  have hl : lv_has ls 3 [(0, .ref (ad (3 + i))), (1, .int a), (2, .int b)] := hl
  have hi0 : ∀ w ∈ wsX00, w ∈ wsX0_begin := fun _ h => (List.mem_cons_of_mem _ (List.mem_append_right _ h))
  refine lv_aload_n hx hb dX0_begin_0 rfl (lv_at hl 0 rfl) ?_
  refine lv_iload_n hx hb dX0_begin_1 rfl (lv_at hl 1 rfl) ?_
  refine sl_putC hx hb hts hi0 hown hK hD hP hS hi 2 (by decide) rfl (tyX0_ok 2 (by decide)) (hts _ mw_X0_begin_1) dX0_begin_2 (fun H locs hP hS => ?_)
  refine lv_aload_n hx hb dX0_begin_5 rfl (lv_at hl 0 rfl) ?_
  refine lv_iload_n hx hb dX0_begin_6 rfl (lv_at hl 2 rfl) ?_
  refine sl_putC hx hb hts hi0 hown hK hD hP hS hi 5 (by decide) rfl (tyX0_ok 5 (by decide)) (hts _ mw_X0_begin_2) dX0_begin_7 (fun H locs hP hS => ?_)
  refine lv_aload_n hx hb dX0_begin_10 rfl (lv_at hl 0 rfl) ?_
  refine lv_iconst (v := (0 : Int32)) hx hb dX0_begin_11 (by decide) ?_
  refine sl_putC hx hb hts hi0 hown hK hD hP hS hi 3 (by decide) rfl (tyX0_ok 3 (by decide)) (hts _ mw_X0_begin_3) dX0_begin_12 (fun H locs hP hS => ?_)
  refine lv_aload_n hx hb dX0_begin_15 rfl (lv_at hl 0 rfl) ?_
  refine lv_iconst (v := (0 : Int32)) hx hb dX0_begin_16 (by decide) ?_
  refine sl_putC hx hb hts hi0 hown hK hD hP hS hi 4 (by decide) rfl (tyX0_ok 4 (by decide)) (hts _ mw_X0_begin_4) dX0_begin_17 (fun H locs hP hS => ?_)
  refine lv_iconst (v := (0 : Int32)) hx hb dX0_begin_20 (by decide) ?_
  have e_q : (sp_X0_begin σ i a b) = ((0 : Int32), (sl_up (sl_up (sl_up (sl_up σ (3 + i) 2 a) (3 + i) 5 b) (3 + i) 3 (0 : Int32)) (3 + i) 4 (0 : Int32))) := by rw [sp_X0_begin]
  exact sl_iret hx hb hr hlocks hP hS (by rw [e_q]) (by rw [e_q]) rfl dX0_begin_21
def sp_X0_end (σ : sl_M) (i : Nat) (a : Int32) (b : Int32) : Int32 × sl_M := ((1 : Int32), (sl_up (sl_up (sl_up σ (3 + i) 2 (0 : Int32)) (3 + i) 3 a) (3 + i) 4 b))
set_option maxHeartbeats 4000000 in
set_option maxRecDepth 100000 in
theorem c_X0_end (l : Launch) (G : va_G) (cy : Nat → ClassId) (ad : Nat → Nat) (σ τ : sl_M) (i : Nat) (hi : i < 3) (a : Int32) (b : Int32) : sl_C l G cy ad yX0_end wsX0_end ({ frames := 0, cells := 0, slots := 0, locals := 0 }) [.ref (ad (3 + i)), .int a, .int b] σ τ (some (.int (sp_X0_end σ i a b).1)) (sp_X0_end σ i a b).2 τ := by
  refine sl_of (cc := cX0_end) (maxL := 3) (ret := (some .int)) (by decide) rfl (Nat.le_of_ble_eq_true rfl) ?_
  intro p e s m below meth c hx hb hr hml hts hown hlocks hK hN hD hP hS ls hl
  have hown : s.vm.findClass RX0 = some m.cls := hown
  have hl : lv_has ls 3 [(0, .ref (ad (3 + i))), (1, .int a), (2, .int b)] := hl
  have hi0 : ∀ w ∈ wsX00, w ∈ wsX0_end := fun _ h => (List.mem_cons_of_mem _ (List.mem_append_right _ h))
  refine lv_aload_n hx hb dX0_end_0 rfl (lv_at hl 0 rfl) ?_
  refine lv_iconst (v := (0 : Int32)) hx hb dX0_end_1 (by decide) ?_
  refine sl_putC hx hb hts hi0 hown hK hD hP hS hi 2 (by decide) rfl (tyX0_ok 2 (by decide)) (hts _ mw_X0_end_1) dX0_end_2 (fun H locs hP hS => ?_)
  refine lv_aload_n hx hb dX0_end_5 rfl (lv_at hl 0 rfl) ?_
  refine lv_iload_n hx hb dX0_end_6 rfl (lv_at hl 1 rfl) ?_
  refine sl_putC hx hb hts hi0 hown hK hD hP hS hi 3 (by decide) rfl (tyX0_ok 3 (by decide)) (hts _ mw_X0_end_2) dX0_end_7 (fun H locs hP hS => ?_)
  refine lv_aload_n hx hb dX0_end_10 rfl (lv_at hl 0 rfl) ?_
  refine lv_iload_n hx hb dX0_end_11 rfl (lv_at hl 2 rfl) ?_
  refine sl_putC hx hb hts hi0 hown hK hD hP hS hi 4 (by decide) rfl (tyX0_ok 4 (by decide)) (hts _ mw_X0_end_3) dX0_end_12 (fun H locs hP hS => ?_)
  refine lv_iconst (v := (1 : Int32)) hx hb dX0_end_15 (by decide) ?_
  have e_q : (sp_X0_end σ i a b) = ((1 : Int32), (sl_up (sl_up (sl_up σ (3 + i) 2 (0 : Int32)) (3 + i) 3 a) (3 + i) 4 b)) := by rw [sp_X0_end]
  exact sl_iret hx hb hr hlocks hP hS (by rw [e_q]) (by rw [e_q]) rfl dX0_end_16
def sp_X0_chainOf (σ : sl_M) (i : Nat) (a : Int32) : Int32 := 
  if (a - a / (2 : Int32) * (2 : Int32)) = 0 then ((σ (3 + i) 1) &&& (21 : Int32))
  else ((σ (3 + i) 1) &&& (42 : Int32))
set_option maxHeartbeats 4000000 in
set_option maxRecDepth 100000 in
theorem c_X0_chainOf (l : Launch) (G : va_G) (cy : Nat → ClassId) (ad : Nat → Nat) (σ τ : sl_M) (i : Nat) (hi : i < 3) (a : Int32) : sl_C l G cy ad yX0_chainOf wsX0_chainOf ({ frames := 0, cells := 0, slots := 0, locals := 0 }) [.ref (ad (3 + i)), .int a] σ τ (some (.int (sp_X0_chainOf σ i a))) σ τ := by
  refine sl_of (cc := cX0_chainOf) (maxL := 2) (ret := (some .int)) (by decide) rfl (Nat.le_of_ble_eq_true rfl) ?_
  intro p e s m below meth c hx hb hr hml hts hown hlocks hK hN hD hP hS ls hl
  have hown : s.vm.findClass RX0 = some m.cls := hown
  have hl : lv_has ls 2 [(0, .ref (ad (3 + i))), (1, .int a)] := hl
  have hi0 : ∀ w ∈ wsX00, w ∈ wsX0_chainOf := fun _ h => (List.mem_cons_of_mem _ (List.mem_append_right _ h))
  refine lv_aload_n hx hb dX0_chainOf_0 rfl (lv_at hl 0 rfl) ?_
  refine va_get (D := G) (ci := 0) (v := .int (σ (3 + i) 1)) (C := RX0) (T := TX0) (N := 12) hx hb hts hi0 hown hK hP (3 + i) (sl_aC hi) rfl 1 (by decide) (hts _ mw_X0_chainOf_1) (fun _ h9 => h9) rfl dX0_chainOf_1 ?_
  refine lv_iload_n hx hb dX0_chainOf_4 rfl (lv_at hl 1 rfl) ?_
  refine lv_iconst (v := (2 : Int32)) hx hb dX0_chainOf_5 (by decide) ?_
  refine lv_irem hx hb dX0_chainOf_6 (by decide) ?_
  refine lv_if_ne (tgt := 15) hx hb dX0_chainOf_7 (by decide) (fun c_1 => ?_) (fun c_1 => ?_)
  · refine lv_bipush (v := (42 : Int32)) hx hb dX0_chainOf_15 (by decide) ?_
    refine lv_iand hx hb dX0_chainOf_17 ?_
    have e_q : (sp_X0_chainOf σ i a) = ((σ (3 + i) 1) &&& (42 : Int32)) := by rw [sp_X0_chainOf, if_neg c_1]
    exact sl_iret hx hb hr hlocks hP hS (by rw [e_q]) rfl rfl dX0_chainOf_18
  · refine lv_bipush (v := (21 : Int32)) hx hb dX0_chainOf_10 (by decide) ?_
    refine lv_goto (tgt := 17) hx hb dX0_chainOf_12 (by decide) ?_
    refine lv_iand hx hb dX0_chainOf_17 ?_
    have e_q : (sp_X0_chainOf σ i a) = ((σ (3 + i) 1) &&& (21 : Int32)) := by rw [sp_X0_chainOf, if_pos c_1]
    exact sl_iret hx hb hr hlocks hP hS (by rw [e_q]) rfl rfl dX0_chainOf_18
def sp_X0_isAtHead (σ : sl_M) (i : Nat) : Int32 := 
  if (σ (3 + i) 5) = (sp_X0_chainOf σ i (σ (3 + i) 6)) then (1 : Int32)
  else (0 : Int32)
set_option maxHeartbeats 4000000 in
set_option maxRecDepth 100000 in
theorem c_X0_isAtHead (l : Launch) (G : va_G) (cy : Nat → ClassId) (ad : Nat → Nat) (σ τ : sl_M) (i : Nat) (hi : i < 3) : sl_C l G cy ad yX0_isAtHead wsX0_isAtHead ({ frames := 1, cells := 0, slots := 0, locals := 21 }) [.ref (ad (3 + i))] σ τ (some (.int (sp_X0_isAtHead σ i))) σ τ := by
  refine sl_of (cc := cX0_isAtHead) (maxL := 1) (ret := (some .boolean)) (by decide) rfl (Nat.le_of_ble_eq_true rfl) ?_
  intro p e s m below meth c hx hb hr hml hts hown hlocks hK hN hD hP hS ls hl
  have hown : s.vm.findClass RX0 = some m.cls := hown
  have hl : lv_has ls 1 [(0, .ref (ad (3 + i)))] := hl
  have hi0 : ∀ w ∈ wsX00, w ∈ wsX0_isAtHead := fun _ h => (List.mem_cons_of_mem _ (List.mem_append_right _ h))
  refine lv_aload_n hx hb dX0_isAtHead_0 rfl (lv_at hl 0 rfl) ?_
  refine va_get (D := G) (ci := 0) (v := .int (σ (3 + i) 5)) (C := RX0) (T := TX0) (N := 12) hx hb hts hi0 hown hK hP (3 + i) (sl_aC hi) rfl 5 (by decide) (hts _ mw_X0_isAtHead_1) (fun _ h9 => h9) rfl dX0_isAtHead_1 ?_
  refine lv_aload_n hx hb dX0_isAtHead_4 rfl (lv_at hl 0 rfl) ?_
  refine lv_aload_n hx hb dX0_isAtHead_5 rfl (lv_at hl 0 rfl) ?_
  refine va_get (D := G) (ci := 0) (v := .int (σ (3 + i) 6)) (C := RX0) (T := TX0) (N := 12) hx hb hts hi0 hown hK hP (3 + i) (sl_aC hi) rfl 6 (by decide) (hts _ mw_X0_isAtHead_2) (fun _ h9 => h9) rfl dX0_isAtHead_6 ?_
  refine sl_cV (n := 1) (As := [.int (σ (3 + i) 6)]) (rest := [.int (σ (3 + i) 5)]) ⟨hx, hb, hml, hown, hts⟩ (c_X0_chainOf l G cy ad σ τ i hi (σ (3 + i) 6)) gX0_isAtHead_X0_chainOf rfl rfl rfl (by decide +kernel) ⟨Nat.le_of_ble_eq_true rfl, Nat.le_of_ble_eq_true rfl⟩ (va_recv hK hP (ci := 0) (q0 := 3 + i) rfl (sl_aC hi)) rfl hl.1 rfl (Nat.le_of_ble_eq_true rfl) dX0_isAtHead_9 ⟨Nat.zero_le _, Nat.zero_le _⟩ hK hN hD hP hS (fun H locs hP hS => ?_)
  refine W.eq (g2 := F0 m 12 ls [.int (sp_X0_chainOf σ i (σ (3 + i) 6)), .int (σ (3 + i) 5)]) rfl ?_
  refine lv_icmp_ne (tgt := 19) hx hb dX0_isAtHead_12 (by decide) (fun c_1 => ?_) (fun c_1 => ?_)
  · refine lv_iconst (v := (0 : Int32)) hx hb dX0_isAtHead_19 (by decide) ?_
    have e_q : (sp_X0_isAtHead σ i) = (0 : Int32) := by rw [sp_X0_isAtHead, if_neg c_1]
    exact sl_zret hx hb hr hlocks (by decide) hP hS (by rw [e_q]) rfl rfl dX0_isAtHead_20
  · refine lv_iconst (v := (1 : Int32)) hx hb dX0_isAtHead_15 (by decide) ?_
    refine lv_goto (tgt := 20) hx hb dX0_isAtHead_16 (by decide) ?_
    have e_q : (sp_X0_isAtHead σ i) = (1 : Int32) := by rw [sp_X0_isAtHead, if_pos c_1]
    exact sl_zret hx hb hr hlocks (by decide) hP hS (by rw [e_q]) rfl rfl dX0_isAtHead_20
def sp_X0_replayRoute (σ : sl_M) (i : Nat) : Int32 := 
  if (σ (3 + i) 6) = (σ (3 + i) 8) then (0 : Int32)
  else (sp_X2_highestOf (sp_X0_chainOf σ i (σ (3 + i) 6)))
set_option maxHeartbeats 4000000 in
set_option maxRecDepth 100000 in
theorem c_X0_replayRoute (l : Launch) (G : va_G) (cy : Nat → ClassId) (ad : Nat → Nat) (σ τ : sl_M) (i : Nat) (hi : i < 3) : sl_C l G cy ad yX0_replayRoute wsX0_replayRoute ({ frames := 1, cells := 0, slots := 0, locals := 21 }) [.ref (ad (3 + i))] σ τ (some (.int (sp_X0_replayRoute σ i))) σ τ := by
  refine sl_of (cc := cX0_replayRoute) (maxL := 1) (ret := (some .int)) (by decide) rfl (Nat.le_of_ble_eq_true rfl) ?_
  intro p e s m below meth c hx hb hr hml hts hown hlocks hK hN hD hP hS ls hl
  have hown : s.vm.findClass RX0 = some m.cls := hown
  have hl : lv_has ls 1 [(0, .ref (ad (3 + i)))] := hl
  have hi0 : ∀ w ∈ wsX00, w ∈ wsX0_replayRoute := fun _ h => (List.mem_cons_of_mem _ (List.mem_append_right _ h))
  refine lv_aload_n hx hb dX0_replayRoute_0 rfl (lv_at hl 0 rfl) ?_
  refine va_get (D := G) (ci := 0) (v := .int (σ (3 + i) 6)) (C := RX0) (T := TX0) (N := 12) hx hb hts hi0 hown hK hP (3 + i) (sl_aC hi) rfl 6 (by decide) (hts _ mw_X0_replayRoute_1) (fun _ h9 => h9) rfl dX0_replayRoute_1 ?_
  refine lv_aload_n hx hb dX0_replayRoute_4 rfl (lv_at hl 0 rfl) ?_
  refine va_get (D := G) (ci := 0) (v := .int (σ (3 + i) 8)) (C := RX0) (T := TX0) (N := 12) hx hb hts hi0 hown hK hP (3 + i) (sl_aC hi) rfl 8 (by decide) (hts _ mw_X0_replayRoute_2) (fun _ h9 => h9) rfl dX0_replayRoute_5 ?_
  refine lv_icmp_ne (tgt := 15) hx hb dX0_replayRoute_8 (by decide) (fun c_1 => ?_) (fun c_1 => ?_)
  · refine lv_aload_n hx hb dX0_replayRoute_15 rfl (lv_at hl 0 rfl) ?_
    refine lv_aload_n hx hb dX0_replayRoute_16 rfl (lv_at hl 0 rfl) ?_
    refine va_get (D := G) (ci := 0) (v := .int (σ (3 + i) 6)) (C := RX0) (T := TX0) (N := 12) hx hb hts hi0 hown hK hP (3 + i) (sl_aC hi) rfl 6 (by decide) (hts _ mw_X0_replayRoute_1) (fun _ h9 => h9) rfl dX0_replayRoute_17 ?_
    refine sl_cV (n := 1) (As := [.int (σ (3 + i) 6)]) (rest := []) ⟨hx, hb, hml, hown, hts⟩ (c_X0_chainOf l G cy ad σ τ i hi (σ (3 + i) 6)) gX0_replayRoute_X0_chainOf rfl rfl rfl (by decide +kernel) ⟨Nat.le_of_ble_eq_true rfl, Nat.le_of_ble_eq_true rfl⟩ (va_recv hK hP (ci := 0) (q0 := 3 + i) rfl (sl_aC hi)) rfl hl.1 rfl (Nat.le_of_ble_eq_true rfl) dX0_replayRoute_20 ⟨Nat.zero_le _, Nat.zero_le _⟩ hK hN hD hP hS (fun H locs hP hS => ?_)
    refine W.eq (g2 := F0 m 23 ls [.int (sp_X0_chainOf σ i (σ (3 + i) 6))]) rfl ?_
    refine sl_nS (n := 1) (As := [.int (sp_X0_chainOf σ i (σ (3 + i) 6))]) (rest := []) ⟨hx, hb, hml, hown, hts⟩ (c_X2_highestOf l G cy ad σ τ (sp_X0_chainOf σ i (σ (3 + i) 6))) gX0_replayRoute_X2_highestOf_n52 rfl rfl rfl (hN.m 12 rfl) (hts _ mw_X0_replayRoute_10) (hts _ mw_X0_replayRoute_9) (by decide +kernel) ⟨Nat.le_of_ble_eq_true rfl, Nat.le_of_ble_eq_true rfl⟩ rfl hl.1 rfl (Nat.le_of_ble_eq_true rfl) dX0_replayRoute_23 ⟨Nat.zero_le _, Nat.zero_le _⟩ hK hN hD hP hS (fun H locs hP hS => ?_)
    refine W.eq (g2 := F0 m 26 ls [.int (sp_X2_highestOf (sp_X0_chainOf σ i (σ (3 + i) 6)))]) rfl ?_
    have e_q : (sp_X0_replayRoute σ i) = (sp_X2_highestOf (sp_X0_chainOf σ i (σ (3 + i) 6))) := by rw [sp_X0_replayRoute, if_neg c_1]
    exact sl_iret hx hb hr hlocks hP hS (by rw [e_q]) rfl rfl dX0_replayRoute_26
  · refine lv_iconst (v := (0 : Int32)) hx hb dX0_replayRoute_11 (by decide) ?_
    refine lv_goto (tgt := 26) hx hb dX0_replayRoute_12 (by decide) ?_
    have e_q : (sp_X0_replayRoute σ i) = (0 : Int32) := by rw [sp_X0_replayRoute, if_pos c_1]
    exact sl_iret hx hb hr hlocks hP hS (by rw [e_q]) rfl rfl dX0_replayRoute_26
def sp_X0_newestEpochItBears (σ : sl_M) (i : Nat) : Int32 := 
  if (σ (3 + i) 2) = (5 : Int32) then ((σ (3 + i) 0) + (1 : Int32))
  else (σ (3 + i) 0)
set_option maxHeartbeats 4000000 in
set_option maxRecDepth 100000 in
theorem c_X0_newestEpochItBears (l : Launch) (G : va_G) (cy : Nat → ClassId) (ad : Nat → Nat) (σ τ : sl_M) (i : Nat) (hi : i < 3) : sl_C l G cy ad yX0_newestEpochItBears wsX0_newestEpochItBears ({ frames := 0, cells := 0, slots := 0, locals := 0 }) [.ref (ad (3 + i))] σ τ (some (.int (sp_X0_newestEpochItBears σ i))) σ τ := by
  refine sl_of (cc := cX0_newestEpochItBears) (maxL := 1) (ret := (some .int)) (by decide) rfl (Nat.le_of_ble_eq_true rfl) ?_
  intro p e s m below meth c hx hb hr hml hts hown hlocks hK hN hD hP hS ls hl
  have hown : s.vm.findClass RX0 = some m.cls := hown
  have hl : lv_has ls 1 [(0, .ref (ad (3 + i)))] := hl
  have hi0 : ∀ w ∈ wsX00, w ∈ wsX0_newestEpochItBears := fun _ h => (List.mem_cons_of_mem _ (List.mem_append_right _ h))
  refine lv_aload_n hx hb dX0_newestEpochItBears_0 rfl (lv_at hl 0 rfl) ?_
  refine va_get (D := G) (ci := 0) (v := .int (σ (3 + i) 2)) (C := RX0) (T := TX0) (N := 12) hx hb hts hi0 hown hK hP (3 + i) (sl_aC hi) rfl 2 (by decide) (hts _ mw_X0_newestEpochItBears_1) (fun _ h9 => h9) rfl dX0_newestEpochItBears_1 ?_
  refine lv_iconst (v := (5 : Int32)) hx hb dX0_newestEpochItBears_4 (by decide) ?_
  refine lv_icmp_ne (tgt := 17) hx hb dX0_newestEpochItBears_5 (by decide) (fun c_1 => ?_) (fun c_1 => ?_)
  · refine lv_aload_n hx hb dX0_newestEpochItBears_17 rfl (lv_at hl 0 rfl) ?_
    refine va_get (D := G) (ci := 0) (v := .int (σ (3 + i) 0)) (C := RX0) (T := TX0) (N := 12) hx hb hts hi0 hown hK hP (3 + i) (sl_aC hi) rfl 0 (by decide) (hts _ mw_X0_newestEpochItBears_2) (fun _ h9 => h9) rfl dX0_newestEpochItBears_18 ?_
    have e_q : (sp_X0_newestEpochItBears σ i) = (σ (3 + i) 0) := by rw [sp_X0_newestEpochItBears, if_neg c_1]
    exact sl_iret hx hb hr hlocks hP hS (by rw [e_q]) rfl rfl dX0_newestEpochItBears_21
  · refine lv_aload_n hx hb dX0_newestEpochItBears_8 rfl (lv_at hl 0 rfl) ?_
    refine va_get (D := G) (ci := 0) (v := .int (σ (3 + i) 0)) (C := RX0) (T := TX0) (N := 12) hx hb hts hi0 hown hK hP (3 + i) (sl_aC hi) rfl 0 (by decide) (hts _ mw_X0_newestEpochItBears_2) (fun _ h9 => h9) rfl dX0_newestEpochItBears_9 ?_
    refine lv_iconst (v := (1 : Int32)) hx hb dX0_newestEpochItBears_12 (by decide) ?_
    refine lv_iadd hx hb dX0_newestEpochItBears_13 ?_
    refine lv_goto (tgt := 21) hx hb dX0_newestEpochItBears_14 (by decide) ?_
    have e_q : (sp_X0_newestEpochItBears σ i) = ((σ (3 + i) 0) + (1 : Int32)) := by rw [sp_X0_newestEpochItBears, if_pos c_1]
    exact sl_iret hx hb hr hlocks hP hS (by rw [e_q]) rfl rfl dX0_newestEpochItBears_21
def sp_X0_goAlongChain (σ : sl_M) (i : Nat) (a : Int32) : Int32 × sl_M := 
  if ((sl_up σ (3 + i) 5 (sp_X2_withoutLowest (σ (3 + i) 5))) (3 + i) 5) = 0 then (((sp_X0_end (sl_up σ (3 + i) 5 (sp_X2_withoutLowest (σ (3 + i) 5))) i (1 : Int32) a).1), (sp_X0_end (sl_up σ (3 + i) 5 (sp_X2_withoutLowest (σ (3 + i) 5))) i (1 : Int32) a).2)
  else ((0 : Int32), (sl_up σ (3 + i) 5 (sp_X2_withoutLowest (σ (3 + i) 5))))
set_option maxHeartbeats 4000000 in
set_option maxRecDepth 100000 in
theorem c_X0_goAlongChain (l : Launch) (G : va_G) (cy : Nat → ClassId) (ad : Nat → Nat) (σ τ : sl_M) (i : Nat) (hi : i < 3) (a : Int32) : sl_C l G cy ad yX0_goAlongChain wsX0_goAlongChain ({ frames := 1, cells := 0, slots := 0, locals := 22 }) [.ref (ad (3 + i)), .int a] σ τ (some (.int (sp_X0_goAlongChain σ i a).1)) (sp_X0_goAlongChain σ i a).2 τ := by
  refine sl_of (cc := cX0_goAlongChain) (maxL := 2) (ret := (some .int)) (by decide) rfl (Nat.le_of_ble_eq_true rfl) ?_
  intro p e s m below meth c hx hb hr hml hts hown hlocks hK hN hD hP hS ls hl
  have hown : s.vm.findClass RX0 = some m.cls := hown
  have hl : lv_has ls 2 [(0, .ref (ad (3 + i))), (1, .int a)] := hl
  have hi0 : ∀ w ∈ wsX00, w ∈ wsX0_goAlongChain := fun _ h => (List.mem_cons_of_mem _ (List.mem_append_right _ h))
  refine lv_aload_n hx hb dX0_goAlongChain_0 rfl (lv_at hl 0 rfl) ?_
  refine lv_aload_n hx hb dX0_goAlongChain_1 rfl (lv_at hl 0 rfl) ?_
  refine va_get (D := G) (ci := 0) (v := .int (σ (3 + i) 5)) (C := RX0) (T := TX0) (N := 12) hx hb hts hi0 hown hK hP (3 + i) (sl_aC hi) rfl 5 (by decide) (hts _ mw_X0_goAlongChain_1) (fun _ h9 => h9) rfl dX0_goAlongChain_2 ?_
  refine sl_nS (n := 1) (As := [.int (σ (3 + i) 5)]) (rest := [.ref (ad (3 + i))]) ⟨hx, hb, hml, hown, hts⟩ (c_X2_withoutLowest l G cy ad σ τ (σ (3 + i) 5)) gX0_goAlongChain_X2_withoutLowest_n55 rfl rfl rfl (hN.m 13 rfl) (hts _ mw_X0_goAlongChain_3) (hts _ mw_X0_goAlongChain_2) (by decide +kernel) ⟨Nat.le_of_ble_eq_true rfl, Nat.le_of_ble_eq_true rfl⟩ rfl hl.1 rfl (Nat.le_of_ble_eq_true rfl) dX0_goAlongChain_5 ⟨Nat.zero_le _, Nat.zero_le _⟩ hK hN hD hP hS (fun H locs hP hS => ?_)
  refine W.eq (g2 := F0 m 8 ls [.int (sp_X2_withoutLowest (σ (3 + i) 5)), .ref (ad (3 + i))]) rfl ?_
  refine sl_putC hx hb hts hi0 hown hK hD hP hS hi 5 (by decide) rfl (tyX0_ok 5 (by decide)) (hts _ mw_X0_goAlongChain_1) dX0_goAlongChain_8 (fun H locs hP hS => ?_)
  refine lv_aload_n hx hb dX0_goAlongChain_11 rfl (lv_at hl 0 rfl) ?_
  refine va_get (D := G) (ci := 0) (v := .int ((sl_up σ (3 + i) 5 (sp_X2_withoutLowest (σ (3 + i) 5))) (3 + i) 5)) (C := RX0) (T := TX0) (N := 12) hx hb hts hi0 hown hK hP (3 + i) (sl_aC hi) rfl 5 (by decide) (hts _ mw_X0_goAlongChain_1) (fun _ h9 => h9) rfl dX0_goAlongChain_12 ?_
  refine lv_if_ne (tgt := 27) hx hb dX0_goAlongChain_15 (by decide) (fun c_1 => ?_) (fun c_1 => ?_)
  · refine lv_iconst (v := (0 : Int32)) hx hb dX0_goAlongChain_27 (by decide) ?_
    have e_q : (sp_X0_goAlongChain σ i a) = ((0 : Int32), (sl_up σ (3 + i) 5 (sp_X2_withoutLowest (σ (3 + i) 5)))) := by rw [sp_X0_goAlongChain, if_neg c_1]
    exact sl_iret hx hb hr hlocks hP hS (by rw [e_q]) (by rw [e_q]) rfl dX0_goAlongChain_28
  · refine lv_aload_n hx hb dX0_goAlongChain_18 rfl (lv_at hl 0 rfl) ?_
    refine lv_iconst (v := (1 : Int32)) hx hb dX0_goAlongChain_19 (by decide) ?_
    refine lv_iload_n hx hb dX0_goAlongChain_20 rfl (lv_at hl 1 rfl) ?_
    refine sl_cV (n := 2) (As := [.int (1 : Int32), .int a]) (rest := []) ⟨hx, hb, hml, hown, hts⟩ (c_X0_end l G cy ad (sl_up σ (3 + i) 5 (sp_X2_withoutLowest (σ (3 + i) 5))) τ i hi (1 : Int32) a) gX0_goAlongChain_X0_end rfl rfl rfl (by decide +kernel) ⟨Nat.le_of_ble_eq_true rfl, Nat.le_of_ble_eq_true rfl⟩ (va_recv hK hP (ci := 0) (q0 := 3 + i) rfl (sl_aC hi)) rfl hl.1 rfl (Nat.le_of_ble_eq_true rfl) dX0_goAlongChain_21 ⟨Nat.zero_le _, Nat.zero_le _⟩ hK hN hD hP hS (fun H locs hP hS => ?_)
    refine W.eq (g2 := F0 m 24 ls [.int ((sp_X0_end (sl_up σ (3 + i) 5 (sp_X2_withoutLowest (σ (3 + i) 5))) i (1 : Int32) a).1)]) rfl ?_
    refine lv_goto (tgt := 28) hx hb dX0_goAlongChain_24 (by decide) ?_
    have e_q : (sp_X0_goAlongChain σ i a) = (((sp_X0_end (sl_up σ (3 + i) 5 (sp_X2_withoutLowest (σ (3 + i) 5))) i (1 : Int32) a).1), (sp_X0_end (sl_up σ (3 + i) 5 (sp_X2_withoutLowest (σ (3 + i) 5))) i (1 : Int32) a).2) := by rw [sp_X0_goAlongChain, if_pos c_1]
    exact sl_iret hx hb hr hlocks hP hS (by rw [e_q]) (by rw [e_q]) rfl dX0_goAlongChain_28
theorem sl_isP {x : Int32} (h : ¬ sp_X2_isPosition x = 0) : vp_in x 32 := by
  by_cases h0 : x < 0
  · exact absurd (by rw [sp_X2_isPosition, if_pos h0]) h
  · by_cases h1 : (32 : Int32) ≤ x
    · exact absurd (by rw [sp_X2_isPosition, if_neg h0, if_pos h1]) h
    · exact sl_in h0 h1 rfl
theorem sl_dec {x : Int32} (h : ¬ x < 0) : (x + (-1 : Int32)).toInt = x.toInt - 1 := by
  have a1 : (0 : Int32).toInt ≤ x.toInt := Int32.le_iff_toInt_le.mp (Int32.not_lt.mp h)
  have a2 := Int32.toInt_lt x
  have a3 : (0 : Int32).toInt = 0 := rfl
  have a4 : (-1 : Int32).toInt = -1 := rfl
  rw [Int32.toInt_add, a4, Int.bmod_eq_of_le (by omega) (by omega)]
  omega
theorem sl_inc {x b : Int32} (h : ¬ b ≤ x) : (x + (1 : Int32)).toInt = x.toInt + 1 := by
  have a2 : x.toInt < b.toInt := Int32.lt_iff_toInt_lt.mp (Int32.not_le.mp h)
  have a3 := Int32.toInt_lt b
  have a5 := Int32.le_toInt x
  have a4 : (1 : Int32).toInt = 1 := rfl
  rw [Int32.toInt_add, a4, Int.bmod_eq_of_le (by omega) (by omega)]
theorem sl_in2 {x : Int32} {n : Nat} (h0 : ¬ x < 0) (h1 : x.toInt < (n : Int)) : vp_in x n := by
  rw [vp_in_iff]
  have a1 : (0 : Int32).toInt ≤ x.toInt := Int32.le_iff_toInt_le.mp (Int32.not_lt.mp h0)
  have a3 : (0 : Int32).toInt = 0 := rfl
  omega
theorem sl_in3 {x : Int32} {n : Nat} (h0 : 0 ≤ x.toInt) (h1 : x.toInt < (n : Int)) : vp_in x n := vp_in_iff.mpr ⟨h0, h1⟩
theorem sl_nle {x b : Int32} (h : ¬ b ≤ x) : x.toInt < b.toInt := Int32.lt_iff_toInt_lt.mp (Int32.not_le.mp h)
theorem sl_big {x b : Int32} {n : Nat} (h : ¬ vp_in x n) (h0 : ¬ x < 0) (hb : b.toInt = n) : b ≤ x := by
  by_cases q : b ≤ x
  · exact q
  · exact absurd (sl_in h0 q hb) h
