def sp_X3_append_in (τ : sl_M) (q : Int32) (a : Int32) : Int32 × sl_M := 
  if a < 0 then 
    if ((sp_X3_begin_in τ q (1 : Int32) (0 : Int32)).1) = 0 then (((sp_X3_begin_in τ q (1 : Int32) (0 : Int32)).1), (sl_up (sl_up (sp_X3_begin_in τ q (1 : Int32) (0 : Int32)).2 30 q.toNatClampNeg a) 29 q.toNatClampNeg (-1 : Int32)))
    else (((sp_X3_begin_in τ q (1 : Int32) (0 : Int32)).1), (sp_X3_begin_in τ q (1 : Int32) (0 : Int32)).2)
  else if (1073741823 : Int32) < a then 
    if ((sp_X3_begin_in τ q (1 : Int32) (0 : Int32)).1) = 0 then (((sp_X3_begin_in τ q (1 : Int32) (0 : Int32)).1), (sl_up (sl_up (sp_X3_begin_in τ q (1 : Int32) (0 : Int32)).2 30 q.toNatClampNeg a) 29 q.toNatClampNeg (-1 : Int32)))
    else (((sp_X3_begin_in τ q (1 : Int32) (0 : Int32)).1), (sp_X3_begin_in τ q (1 : Int32) (0 : Int32)).2)
  else if ((sp_X3_begin_in τ q (1 : Int32) (1 : Int32)).1) = 0 then (((sp_X3_begin_in τ q (1 : Int32) (1 : Int32)).1), (sl_up (sl_up (sp_X3_begin_in τ q (1 : Int32) (1 : Int32)).2 30 q.toNatClampNeg a) 29 q.toNatClampNeg (-1 : Int32)))
  else (((sp_X3_begin_in τ q (1 : Int32) (1 : Int32)).1), (sp_X3_begin_in τ q (1 : Int32) (1 : Int32)).2)
set_option maxHeartbeats 4000000 in
set_option maxRecDepth 100000 in
theorem c_X3_append_in (l : Launch) (G : va_G) (cy : Nat → ClassId) (ad : Nat → Nat) (σ τ : sl_M) (q : Int32) (a : Int32) (hc : vp_in q 3) : sl_C l G cy ad yX3_append wsX3_append ({ frames := 1, cells := 0, slots := 0, locals := 23 }) [.ref (ad (18)), .int q, .int a] σ τ (some (.int (sp_X3_append_in τ q a).1)) σ (sp_X3_append_in τ q a).2 := by
  refine sl_of (cc := cX3_append) (maxL := 4) (ret := (some .int)) (by decide) rfl (Nat.le_of_ble_eq_true rfl) ?_
  intro p e s m below meth c hx hb hr hml hts hown hlocks hK hN hD hP hS ls hl
  have hown : s.vm.findClass RX3 = some m.cls := hown
  have hl : lv_has ls 4 [(0, .ref (ad (18))), (1, .int q), (2, .int a)] := hl
  have hi3 : ∀ w ∈ wsX30, w ∈ wsX3_append := fun _ h => (List.mem_cons_of_mem _ (List.mem_append_right _ h))
  refine lv_aload_n hx hb dX3_append_0 rfl (lv_at hl 0 rfl) ?_
  refine lv_iload_n hx hb dX3_append_1 rfl (lv_at hl 1 rfl) ?_
  refine lv_iconst (v := (1 : Int32)) hx hb dX3_append_2 (by decide) ?_
  refine lv_iload_n hx hb dX3_append_3 rfl (lv_at hl 2 rfl) ?_
  refine lv_if_lt (tgt := 17) hx hb dX3_append_4 (by decide) (fun c_1 => ?_) (fun c_1 => ?_)
  · refine lv_iconst (v := (0 : Int32)) hx hb dX3_append_17 (by decide) ?_
    refine sl_cV (n := 3) (As := [.int q, .int (1 : Int32), .int (0 : Int32)]) (rest := []) ⟨hx, hb, hml, hown, hts⟩ (c_X3_begin_in l G cy ad σ τ q (1 : Int32) (0 : Int32) hc) gX3_append_X3_begin rfl rfl rfl (by decide +kernel) ⟨Nat.le_of_ble_eq_true rfl, Nat.le_of_ble_eq_true rfl⟩ (va_recv hK hP (ci := 3) (q0 := 18) rfl sl_aM) rfl hl.1 rfl (Nat.le_of_ble_eq_true rfl) dX3_append_18 ⟨Nat.zero_le _, Nat.zero_le _⟩ hK hN hD hP hS (fun H locs hP hS => ?_)
    refine W.eq (g2 := F0 m 21 ls [.int ((sp_X3_begin_in τ q (1 : Int32) (0 : Int32)).1)]) rfl ?_
    refine lv_istore_n (lv' := [(3, .int ((sp_X3_begin_in τ q (1 : Int32) (0 : Int32)).1)), (0, .ref (ad (18))), (1, .int q), (2, .int a)]) hx hb dX3_append_21 rfl hl (by decide) rfl (fun ls hl => ?_)
    refine lv_iload_n hx hb dX3_append_22 rfl (lv_at hl 0 rfl) ?_
    refine lv_if_ne (tgt := 40) hx hb dX3_append_23 (by decide) (fun c_2 => ?_) (fun c_2 => ?_)
    · refine lv_iload_n hx hb dX3_append_40 rfl (lv_at hl 0 rfl) ?_
      have e_q : (sp_X3_append_in τ q a) = (((sp_X3_begin_in τ q (1 : Int32) (0 : Int32)).1), (sp_X3_begin_in τ q (1 : Int32) (0 : Int32)).2) := by rw [sp_X3_append_in, if_pos c_1, if_neg c_2]
      exact sl_iret hx hb hr hlocks hP hS (by rw [e_q]) rfl (by rw [e_q]) dX3_append_41
    · refine lv_aload_n hx hb dX3_append_26 rfl (lv_at hl 1 rfl) ?_
      refine va_get (D := G) (ci := 3) (v := .ref (ad (30))) (C := RX3) (T := TX3) (N := 19) hx hb hts hi3 hown hK hP 18 sl_aM rfl 16 (by decide) (hts _ mw_X3_append_2) (fun _ h9 => h9) rfl dX3_append_27 ?_
      refine lv_iload_n hx hb dX3_append_30 rfl (lv_at hl 2 rfl) ?_
      refine lv_iload_n hx hb dX3_append_31 rfl (lv_at hl 3 rfl) ?_
      refine sl_stR 30 3 hx hb hK hD hP hS (by decide) (by decide) rfl hc dX3_append_32 (fun H locs hP hS => ?_)
      refine lv_aload_n hx hb dX3_append_33 rfl (lv_at hl 1 rfl) ?_
      refine va_get (D := G) (ci := 3) (v := .ref (ad (29))) (C := RX3) (T := TX3) (N := 19) hx hb hts hi3 hown hK hP 18 sl_aM rfl 15 (by decide) (hts _ mw_X3_append_3) (fun _ h9 => h9) rfl dX3_append_34 ?_
      refine lv_iload_n hx hb dX3_append_37 rfl (lv_at hl 2 rfl) ?_
      refine lv_iconst (v := (-1 : Int32)) hx hb dX3_append_38 (by decide) ?_
      refine sl_stR 29 3 hx hb hK hD hP hS (by decide) (by decide) rfl hc dX3_append_39 (fun H locs hP hS => ?_)
      refine lv_iload_n hx hb dX3_append_40 rfl (lv_at hl 0 rfl) ?_
      have e_q : (sp_X3_append_in τ q a) = (((sp_X3_begin_in τ q (1 : Int32) (0 : Int32)).1), (sl_up (sl_up (sp_X3_begin_in τ q (1 : Int32) (0 : Int32)).2 30 q.toNatClampNeg a) 29 q.toNatClampNeg (-1 : Int32))) := by rw [sp_X3_append_in, if_pos c_1, if_pos c_2]
      exact sl_iret hx hb hr hlocks hP hS (by rw [e_q]) rfl (by rw [e_q]) dX3_append_41
  · refine lv_iload_n hx hb dX3_append_7 rfl (lv_at hl 2 rfl) ?_
    refine lv_ldc hx hb hown (hts _ mw_X3_append_1) dX3_append_8 ?_
    refine lv_icmp_gt (tgt := 17) hx hb dX3_append_10 (by decide) (fun c_3 => ?_) (fun c_3 => ?_)
    · refine lv_iconst (v := (0 : Int32)) hx hb dX3_append_17 (by decide) ?_
      refine sl_cV (n := 3) (As := [.int q, .int (1 : Int32), .int (0 : Int32)]) (rest := []) ⟨hx, hb, hml, hown, hts⟩ (c_X3_begin_in l G cy ad σ τ q (1 : Int32) (0 : Int32) hc) gX3_append_X3_begin rfl rfl rfl (by decide +kernel) ⟨Nat.le_of_ble_eq_true rfl, Nat.le_of_ble_eq_true rfl⟩ (va_recv hK hP (ci := 3) (q0 := 18) rfl sl_aM) rfl hl.1 rfl (Nat.le_of_ble_eq_true rfl) dX3_append_18 ⟨Nat.zero_le _, Nat.zero_le _⟩ hK hN hD hP hS (fun H locs hP hS => ?_)
      refine W.eq (g2 := F0 m 21 ls [.int ((sp_X3_begin_in τ q (1 : Int32) (0 : Int32)).1)]) rfl ?_
      refine lv_istore_n (lv' := [(3, .int ((sp_X3_begin_in τ q (1 : Int32) (0 : Int32)).1)), (0, .ref (ad (18))), (1, .int q), (2, .int a)]) hx hb dX3_append_21 rfl hl (by decide) rfl (fun ls hl => ?_)
      refine lv_iload_n hx hb dX3_append_22 rfl (lv_at hl 0 rfl) ?_
      refine lv_if_ne (tgt := 40) hx hb dX3_append_23 (by decide) (fun c_4 => ?_) (fun c_4 => ?_)
      · refine lv_iload_n hx hb dX3_append_40 rfl (lv_at hl 0 rfl) ?_
        have e_q : (sp_X3_append_in τ q a) = (((sp_X3_begin_in τ q (1 : Int32) (0 : Int32)).1), (sp_X3_begin_in τ q (1 : Int32) (0 : Int32)).2) := by rw [sp_X3_append_in, if_neg c_1, if_pos c_3, if_neg c_4]
        exact sl_iret hx hb hr hlocks hP hS (by rw [e_q]) rfl (by rw [e_q]) dX3_append_41
      · refine lv_aload_n hx hb dX3_append_26 rfl (lv_at hl 1 rfl) ?_
        refine va_get (D := G) (ci := 3) (v := .ref (ad (30))) (C := RX3) (T := TX3) (N := 19) hx hb hts hi3 hown hK hP 18 sl_aM rfl 16 (by decide) (hts _ mw_X3_append_2) (fun _ h9 => h9) rfl dX3_append_27 ?_
        refine lv_iload_n hx hb dX3_append_30 rfl (lv_at hl 2 rfl) ?_
        refine lv_iload_n hx hb dX3_append_31 rfl (lv_at hl 3 rfl) ?_
        refine sl_stR 30 3 hx hb hK hD hP hS (by decide) (by decide) rfl hc dX3_append_32 (fun H locs hP hS => ?_)
        refine lv_aload_n hx hb dX3_append_33 rfl (lv_at hl 1 rfl) ?_
        refine va_get (D := G) (ci := 3) (v := .ref (ad (29))) (C := RX3) (T := TX3) (N := 19) hx hb hts hi3 hown hK hP 18 sl_aM rfl 15 (by decide) (hts _ mw_X3_append_3) (fun _ h9 => h9) rfl dX3_append_34 ?_
        refine lv_iload_n hx hb dX3_append_37 rfl (lv_at hl 2 rfl) ?_
        refine lv_iconst (v := (-1 : Int32)) hx hb dX3_append_38 (by decide) ?_
        refine sl_stR 29 3 hx hb hK hD hP hS (by decide) (by decide) rfl hc dX3_append_39 (fun H locs hP hS => ?_)
        refine lv_iload_n hx hb dX3_append_40 rfl (lv_at hl 0 rfl) ?_
        have e_q : (sp_X3_append_in τ q a) = (((sp_X3_begin_in τ q (1 : Int32) (0 : Int32)).1), (sl_up (sl_up (sp_X3_begin_in τ q (1 : Int32) (0 : Int32)).2 30 q.toNatClampNeg a) 29 q.toNatClampNeg (-1 : Int32))) := by rw [sp_X3_append_in, if_neg c_1, if_pos c_3, if_pos c_4]
        exact sl_iret hx hb hr hlocks hP hS (by rw [e_q]) rfl (by rw [e_q]) dX3_append_41
    · refine lv_iconst (v := (1 : Int32)) hx hb dX3_append_13 (by decide) ?_
      refine lv_goto (tgt := 18) hx hb dX3_append_14 (by decide) ?_
      refine sl_cV (n := 3) (As := [.int q, .int (1 : Int32), .int (1 : Int32)]) (rest := []) ⟨hx, hb, hml, hown, hts⟩ (c_X3_begin_in l G cy ad σ τ q (1 : Int32) (1 : Int32) hc) gX3_append_X3_begin rfl rfl rfl (by decide +kernel) ⟨Nat.le_of_ble_eq_true rfl, Nat.le_of_ble_eq_true rfl⟩ (va_recv hK hP (ci := 3) (q0 := 18) rfl sl_aM) rfl hl.1 rfl (Nat.le_of_ble_eq_true rfl) dX3_append_18 ⟨Nat.zero_le _, Nat.zero_le _⟩ hK hN hD hP hS (fun H locs hP hS => ?_)
      refine W.eq (g2 := F0 m 21 ls [.int ((sp_X3_begin_in τ q (1 : Int32) (1 : Int32)).1)]) rfl ?_
      refine lv_istore_n (lv' := [(3, .int ((sp_X3_begin_in τ q (1 : Int32) (1 : Int32)).1)), (0, .ref (ad (18))), (1, .int q), (2, .int a)]) hx hb dX3_append_21 rfl hl (by decide) rfl (fun ls hl => ?_)
      refine lv_iload_n hx hb dX3_append_22 rfl (lv_at hl 0 rfl) ?_
      refine lv_if_ne (tgt := 40) hx hb dX3_append_23 (by decide) (fun c_5 => ?_) (fun c_5 => ?_)
      · refine lv_iload_n hx hb dX3_append_40 rfl (lv_at hl 0 rfl) ?_
        have e_q : (sp_X3_append_in τ q a) = (((sp_X3_begin_in τ q (1 : Int32) (1 : Int32)).1), (sp_X3_begin_in τ q (1 : Int32) (1 : Int32)).2) := by rw [sp_X3_append_in, if_neg c_1, if_neg c_3, if_neg c_5]
        exact sl_iret hx hb hr hlocks hP hS (by rw [e_q]) rfl (by rw [e_q]) dX3_append_41
      · refine lv_aload_n hx hb dX3_append_26 rfl (lv_at hl 1 rfl) ?_
        refine va_get (D := G) (ci := 3) (v := .ref (ad (30))) (C := RX3) (T := TX3) (N := 19) hx hb hts hi3 hown hK hP 18 sl_aM rfl 16 (by decide) (hts _ mw_X3_append_2) (fun _ h9 => h9) rfl dX3_append_27 ?_
        refine lv_iload_n hx hb dX3_append_30 rfl (lv_at hl 2 rfl) ?_
        refine lv_iload_n hx hb dX3_append_31 rfl (lv_at hl 3 rfl) ?_
        refine sl_stR 30 3 hx hb hK hD hP hS (by decide) (by decide) rfl hc dX3_append_32 (fun H locs hP hS => ?_)
        refine lv_aload_n hx hb dX3_append_33 rfl (lv_at hl 1 rfl) ?_
        refine va_get (D := G) (ci := 3) (v := .ref (ad (29))) (C := RX3) (T := TX3) (N := 19) hx hb hts hi3 hown hK hP 18 sl_aM rfl 15 (by decide) (hts _ mw_X3_append_3) (fun _ h9 => h9) rfl dX3_append_34 ?_
        refine lv_iload_n hx hb dX3_append_37 rfl (lv_at hl 2 rfl) ?_
        refine lv_iconst (v := (-1 : Int32)) hx hb dX3_append_38 (by decide) ?_
        refine sl_stR 29 3 hx hb hK hD hP hS (by decide) (by decide) rfl hc dX3_append_39 (fun H locs hP hS => ?_)
        refine lv_iload_n hx hb dX3_append_40 rfl (lv_at hl 0 rfl) ?_
        have e_q : (sp_X3_append_in τ q a) = (((sp_X3_begin_in τ q (1 : Int32) (1 : Int32)).1), (sl_up (sl_up (sp_X3_begin_in τ q (1 : Int32) (1 : Int32)).2 30 q.toNatClampNeg a) 29 q.toNatClampNeg (-1 : Int32))) := by rw [sp_X3_append_in, if_neg c_1, if_neg c_3, if_pos c_5]
        exact sl_iret hx hb hr hlocks hP hS (by rw [e_q]) rfl (by rw [e_q]) dX3_append_41
def sp_X3_fill_in (τ : sl_M) (q : Int32) (a : Int32) : Int32 × sl_M := 
  if a < 0 then 
    if ((sp_X3_begin_in τ q (2 : Int32) (0 : Int32)).1) = 0 then (((sp_X3_begin_in τ q (2 : Int32) (0 : Int32)).1), (sl_up (sp_X3_begin_in τ q (2 : Int32) (0 : Int32)).2 29 q.toNatClampNeg a))
    else (((sp_X3_begin_in τ q (2 : Int32) (0 : Int32)).1), (sp_X3_begin_in τ q (2 : Int32) (0 : Int32)).2)
  else if (31 : Int32) < a then 
    if ((sp_X3_begin_in τ q (2 : Int32) (0 : Int32)).1) = 0 then (((sp_X3_begin_in τ q (2 : Int32) (0 : Int32)).1), (sl_up (sp_X3_begin_in τ q (2 : Int32) (0 : Int32)).2 29 q.toNatClampNeg a))
    else (((sp_X3_begin_in τ q (2 : Int32) (0 : Int32)).1), (sp_X3_begin_in τ q (2 : Int32) (0 : Int32)).2)
  else if ((sp_X3_begin_in τ q (2 : Int32) (1 : Int32)).1) = 0 then (((sp_X3_begin_in τ q (2 : Int32) (1 : Int32)).1), (sl_up (sp_X3_begin_in τ q (2 : Int32) (1 : Int32)).2 29 q.toNatClampNeg a))
  else (((sp_X3_begin_in τ q (2 : Int32) (1 : Int32)).1), (sp_X3_begin_in τ q (2 : Int32) (1 : Int32)).2)
set_option maxHeartbeats 4000000 in
set_option maxRecDepth 100000 in
theorem c_X3_fill_in (l : Launch) (G : va_G) (cy : Nat → ClassId) (ad : Nat → Nat) (σ τ : sl_M) (q : Int32) (a : Int32) (hc : vp_in q 3) : sl_C l G cy ad yX3_fill wsX3_fill ({ frames := 1, cells := 0, slots := 0, locals := 23 }) [.ref (ad (18)), .int q, .int a] σ τ (some (.int (sp_X3_fill_in τ q a).1)) σ (sp_X3_fill_in τ q a).2 := by
  refine sl_of (cc := cX3_fill) (maxL := 4) (ret := (some .int)) (by decide) rfl (Nat.le_of_ble_eq_true rfl) ?_
  intro p e s m below meth c hx hb hr hml hts hown hlocks hK hN hD hP hS ls hl
  have hown : s.vm.findClass RX3 = some m.cls := hown
  have hl : lv_has ls 4 [(0, .ref (ad (18))), (1, .int q), (2, .int a)] := hl
  have hi3 : ∀ w ∈ wsX30, w ∈ wsX3_fill := fun _ h => (List.mem_cons_of_mem _ (List.mem_append_right _ h))
  refine lv_aload_n hx hb dX3_fill_0 rfl (lv_at hl 0 rfl) ?_
  refine lv_iload_n hx hb dX3_fill_1 rfl (lv_at hl 1 rfl) ?_
  refine lv_iconst (v := (2 : Int32)) hx hb dX3_fill_2 (by decide) ?_
  refine lv_iload_n hx hb dX3_fill_3 rfl (lv_at hl 2 rfl) ?_
  refine lv_if_lt (tgt := 17) hx hb dX3_fill_4 (by decide) (fun c_1 => ?_) (fun c_1 => ?_)
  · refine lv_iconst (v := (0 : Int32)) hx hb dX3_fill_17 (by decide) ?_
    refine sl_cV (n := 3) (As := [.int q, .int (2 : Int32), .int (0 : Int32)]) (rest := []) ⟨hx, hb, hml, hown, hts⟩ (c_X3_begin_in l G cy ad σ τ q (2 : Int32) (0 : Int32) hc) gX3_fill_X3_begin rfl rfl rfl (by decide +kernel) ⟨Nat.le_of_ble_eq_true rfl, Nat.le_of_ble_eq_true rfl⟩ (va_recv hK hP (ci := 3) (q0 := 18) rfl sl_aM) rfl hl.1 rfl (Nat.le_of_ble_eq_true rfl) dX3_fill_18 ⟨Nat.zero_le _, Nat.zero_le _⟩ hK hN hD hP hS (fun H locs hP hS => ?_)
    refine W.eq (g2 := F0 m 21 ls [.int ((sp_X3_begin_in τ q (2 : Int32) (0 : Int32)).1)]) rfl ?_
    refine lv_istore_n (lv' := [(3, .int ((sp_X3_begin_in τ q (2 : Int32) (0 : Int32)).1)), (0, .ref (ad (18))), (1, .int q), (2, .int a)]) hx hb dX3_fill_21 rfl hl (by decide) rfl (fun ls hl => ?_)
    refine lv_iload_n hx hb dX3_fill_22 rfl (lv_at hl 0 rfl) ?_
    refine lv_if_ne (tgt := 33) hx hb dX3_fill_23 (by decide) (fun c_2 => ?_) (fun c_2 => ?_)
    · refine lv_iload_n hx hb dX3_fill_33 rfl (lv_at hl 0 rfl) ?_
      have e_q : (sp_X3_fill_in τ q a) = (((sp_X3_begin_in τ q (2 : Int32) (0 : Int32)).1), (sp_X3_begin_in τ q (2 : Int32) (0 : Int32)).2) := by rw [sp_X3_fill_in, if_pos c_1, if_neg c_2]
      exact sl_iret hx hb hr hlocks hP hS (by rw [e_q]) rfl (by rw [e_q]) dX3_fill_34
    · refine lv_aload_n hx hb dX3_fill_26 rfl (lv_at hl 1 rfl) ?_
      refine va_get (D := G) (ci := 3) (v := .ref (ad (29))) (C := RX3) (T := TX3) (N := 19) hx hb hts hi3 hown hK hP 18 sl_aM rfl 15 (by decide) (hts _ mw_X3_fill_1) (fun _ h9 => h9) rfl dX3_fill_27 ?_
      refine lv_iload_n hx hb dX3_fill_30 rfl (lv_at hl 2 rfl) ?_
      refine lv_iload_n hx hb dX3_fill_31 rfl (lv_at hl 3 rfl) ?_
      refine sl_stR 29 3 hx hb hK hD hP hS (by decide) (by decide) rfl hc dX3_fill_32 (fun H locs hP hS => ?_)
      refine lv_iload_n hx hb dX3_fill_33 rfl (lv_at hl 0 rfl) ?_
      have e_q : (sp_X3_fill_in τ q a) = (((sp_X3_begin_in τ q (2 : Int32) (0 : Int32)).1), (sl_up (sp_X3_begin_in τ q (2 : Int32) (0 : Int32)).2 29 q.toNatClampNeg a)) := by rw [sp_X3_fill_in, if_pos c_1, if_pos c_2]
      exact sl_iret hx hb hr hlocks hP hS (by rw [e_q]) rfl (by rw [e_q]) dX3_fill_34
  · refine lv_iload_n hx hb dX3_fill_7 rfl (lv_at hl 2 rfl) ?_
    refine lv_bipush (v := (31 : Int32)) hx hb dX3_fill_8 (by decide) ?_
    refine lv_icmp_gt (tgt := 17) hx hb dX3_fill_10 (by decide) (fun c_3 => ?_) (fun c_3 => ?_)
    · refine lv_iconst (v := (0 : Int32)) hx hb dX3_fill_17 (by decide) ?_
      refine sl_cV (n := 3) (As := [.int q, .int (2 : Int32), .int (0 : Int32)]) (rest := []) ⟨hx, hb, hml, hown, hts⟩ (c_X3_begin_in l G cy ad σ τ q (2 : Int32) (0 : Int32) hc) gX3_fill_X3_begin rfl rfl rfl (by decide +kernel) ⟨Nat.le_of_ble_eq_true rfl, Nat.le_of_ble_eq_true rfl⟩ (va_recv hK hP (ci := 3) (q0 := 18) rfl sl_aM) rfl hl.1 rfl (Nat.le_of_ble_eq_true rfl) dX3_fill_18 ⟨Nat.zero_le _, Nat.zero_le _⟩ hK hN hD hP hS (fun H locs hP hS => ?_)
      refine W.eq (g2 := F0 m 21 ls [.int ((sp_X3_begin_in τ q (2 : Int32) (0 : Int32)).1)]) rfl ?_
      refine lv_istore_n (lv' := [(3, .int ((sp_X3_begin_in τ q (2 : Int32) (0 : Int32)).1)), (0, .ref (ad (18))), (1, .int q), (2, .int a)]) hx hb dX3_fill_21 rfl hl (by decide) rfl (fun ls hl => ?_)
      refine lv_iload_n hx hb dX3_fill_22 rfl (lv_at hl 0 rfl) ?_
      refine lv_if_ne (tgt := 33) hx hb dX3_fill_23 (by decide) (fun c_4 => ?_) (fun c_4 => ?_)
      · refine lv_iload_n hx hb dX3_fill_33 rfl (lv_at hl 0 rfl) ?_
        have e_q : (sp_X3_fill_in τ q a) = (((sp_X3_begin_in τ q (2 : Int32) (0 : Int32)).1), (sp_X3_begin_in τ q (2 : Int32) (0 : Int32)).2) := by rw [sp_X3_fill_in, if_neg c_1, if_pos c_3, if_neg c_4]
        exact sl_iret hx hb hr hlocks hP hS (by rw [e_q]) rfl (by rw [e_q]) dX3_fill_34
      · refine lv_aload_n hx hb dX3_fill_26 rfl (lv_at hl 1 rfl) ?_
        refine va_get (D := G) (ci := 3) (v := .ref (ad (29))) (C := RX3) (T := TX3) (N := 19) hx hb hts hi3 hown hK hP 18 sl_aM rfl 15 (by decide) (hts _ mw_X3_fill_1) (fun _ h9 => h9) rfl dX3_fill_27 ?_
        refine lv_iload_n hx hb dX3_fill_30 rfl (lv_at hl 2 rfl) ?_
        refine lv_iload_n hx hb dX3_fill_31 rfl (lv_at hl 3 rfl) ?_
        refine sl_stR 29 3 hx hb hK hD hP hS (by decide) (by decide) rfl hc dX3_fill_32 (fun H locs hP hS => ?_)
        refine lv_iload_n hx hb dX3_fill_33 rfl (lv_at hl 0 rfl) ?_
        have e_q : (sp_X3_fill_in τ q a) = (((sp_X3_begin_in τ q (2 : Int32) (0 : Int32)).1), (sl_up (sp_X3_begin_in τ q (2 : Int32) (0 : Int32)).2 29 q.toNatClampNeg a)) := by rw [sp_X3_fill_in, if_neg c_1, if_pos c_3, if_pos c_4]
        exact sl_iret hx hb hr hlocks hP hS (by rw [e_q]) rfl (by rw [e_q]) dX3_fill_34
    · refine lv_iconst (v := (1 : Int32)) hx hb dX3_fill_13 (by decide) ?_
      refine lv_goto (tgt := 18) hx hb dX3_fill_14 (by decide) ?_
      refine sl_cV (n := 3) (As := [.int q, .int (2 : Int32), .int (1 : Int32)]) (rest := []) ⟨hx, hb, hml, hown, hts⟩ (c_X3_begin_in l G cy ad σ τ q (2 : Int32) (1 : Int32) hc) gX3_fill_X3_begin rfl rfl rfl (by decide +kernel) ⟨Nat.le_of_ble_eq_true rfl, Nat.le_of_ble_eq_true rfl⟩ (va_recv hK hP (ci := 3) (q0 := 18) rfl sl_aM) rfl hl.1 rfl (Nat.le_of_ble_eq_true rfl) dX3_fill_18 ⟨Nat.zero_le _, Nat.zero_le _⟩ hK hN hD hP hS (fun H locs hP hS => ?_)
      refine W.eq (g2 := F0 m 21 ls [.int ((sp_X3_begin_in τ q (2 : Int32) (1 : Int32)).1)]) rfl ?_
      refine lv_istore_n (lv' := [(3, .int ((sp_X3_begin_in τ q (2 : Int32) (1 : Int32)).1)), (0, .ref (ad (18))), (1, .int q), (2, .int a)]) hx hb dX3_fill_21 rfl hl (by decide) rfl (fun ls hl => ?_)
      refine lv_iload_n hx hb dX3_fill_22 rfl (lv_at hl 0 rfl) ?_
      refine lv_if_ne (tgt := 33) hx hb dX3_fill_23 (by decide) (fun c_5 => ?_) (fun c_5 => ?_)
      · refine lv_iload_n hx hb dX3_fill_33 rfl (lv_at hl 0 rfl) ?_
        have e_q : (sp_X3_fill_in τ q a) = (((sp_X3_begin_in τ q (2 : Int32) (1 : Int32)).1), (sp_X3_begin_in τ q (2 : Int32) (1 : Int32)).2) := by rw [sp_X3_fill_in, if_neg c_1, if_neg c_3, if_neg c_5]
        exact sl_iret hx hb hr hlocks hP hS (by rw [e_q]) rfl (by rw [e_q]) dX3_fill_34
      · refine lv_aload_n hx hb dX3_fill_26 rfl (lv_at hl 1 rfl) ?_
        refine va_get (D := G) (ci := 3) (v := .ref (ad (29))) (C := RX3) (T := TX3) (N := 19) hx hb hts hi3 hown hK hP 18 sl_aM rfl 15 (by decide) (hts _ mw_X3_fill_1) (fun _ h9 => h9) rfl dX3_fill_27 ?_
        refine lv_iload_n hx hb dX3_fill_30 rfl (lv_at hl 2 rfl) ?_
        refine lv_iload_n hx hb dX3_fill_31 rfl (lv_at hl 3 rfl) ?_
        refine sl_stR 29 3 hx hb hK hD hP hS (by decide) (by decide) rfl hc dX3_fill_32 (fun H locs hP hS => ?_)
        refine lv_iload_n hx hb dX3_fill_33 rfl (lv_at hl 0 rfl) ?_
        have e_q : (sp_X3_fill_in τ q a) = (((sp_X3_begin_in τ q (2 : Int32) (1 : Int32)).1), (sl_up (sp_X3_begin_in τ q (2 : Int32) (1 : Int32)).2 29 q.toNatClampNeg a)) := by rw [sp_X3_fill_in, if_neg c_1, if_neg c_3, if_pos c_5]
        exact sl_iret hx hb hr hlocks hP hS (by rw [e_q]) rfl (by rw [e_q]) dX3_fill_34
def sp_X3_read_in (τ : sl_M) (q : Int32) (a : Int32) : Int32 × sl_M := 
  if a < 0 then 
    if ((sp_X3_begin_in τ q (3 : Int32) (0 : Int32)).1) = 0 then (((sp_X3_begin_in τ q (3 : Int32) (0 : Int32)).1), (sl_up (sp_X3_begin_in τ q (3 : Int32) (0 : Int32)).2 29 q.toNatClampNeg a))
    else (((sp_X3_begin_in τ q (3 : Int32) (0 : Int32)).1), (sp_X3_begin_in τ q (3 : Int32) (0 : Int32)).2)
  else if (31 : Int32) < a then 
    if ((sp_X3_begin_in τ q (3 : Int32) (0 : Int32)).1) = 0 then (((sp_X3_begin_in τ q (3 : Int32) (0 : Int32)).1), (sl_up (sp_X3_begin_in τ q (3 : Int32) (0 : Int32)).2 29 q.toNatClampNeg a))
    else (((sp_X3_begin_in τ q (3 : Int32) (0 : Int32)).1), (sp_X3_begin_in τ q (3 : Int32) (0 : Int32)).2)
  else if ((sp_X3_begin_in τ q (3 : Int32) (1 : Int32)).1) = 0 then (((sp_X3_begin_in τ q (3 : Int32) (1 : Int32)).1), (sl_up (sp_X3_begin_in τ q (3 : Int32) (1 : Int32)).2 29 q.toNatClampNeg a))
  else (((sp_X3_begin_in τ q (3 : Int32) (1 : Int32)).1), (sp_X3_begin_in τ q (3 : Int32) (1 : Int32)).2)
set_option maxHeartbeats 4000000 in
set_option maxRecDepth 100000 in
theorem c_X3_read_in (l : Launch) (G : va_G) (cy : Nat → ClassId) (ad : Nat → Nat) (σ τ : sl_M) (q : Int32) (a : Int32) (hc : vp_in q 3) : sl_C l G cy ad yX3_read wsX3_read ({ frames := 1, cells := 0, slots := 0, locals := 23 }) [.ref (ad (18)), .int q, .int a] σ τ (some (.int (sp_X3_read_in τ q a).1)) σ (sp_X3_read_in τ q a).2 := by
  refine sl_of (cc := cX3_read) (maxL := 4) (ret := (some .int)) (by decide) rfl (Nat.le_of_ble_eq_true rfl) ?_
  intro p e s m below meth c hx hb hr hml hts hown hlocks hK hN hD hP hS ls hl
  have hown : s.vm.findClass RX3 = some m.cls := hown
  have hl : lv_has ls 4 [(0, .ref (ad (18))), (1, .int q), (2, .int a)] := hl
  have hi3 : ∀ w ∈ wsX30, w ∈ wsX3_read := fun _ h => (List.mem_cons_of_mem _ (List.mem_append_right _ h))
  refine lv_aload_n hx hb dX3_read_0 rfl (lv_at hl 0 rfl) ?_
  refine lv_iload_n hx hb dX3_read_1 rfl (lv_at hl 1 rfl) ?_
  refine lv_iconst (v := (3 : Int32)) hx hb dX3_read_2 (by decide) ?_
  refine lv_iload_n hx hb dX3_read_3 rfl (lv_at hl 2 rfl) ?_
  refine lv_if_lt (tgt := 17) hx hb dX3_read_4 (by decide) (fun c_1 => ?_) (fun c_1 => ?_)
  · refine lv_iconst (v := (0 : Int32)) hx hb dX3_read_17 (by decide) ?_
    refine sl_cV (n := 3) (As := [.int q, .int (3 : Int32), .int (0 : Int32)]) (rest := []) ⟨hx, hb, hml, hown, hts⟩ (c_X3_begin_in l G cy ad σ τ q (3 : Int32) (0 : Int32) hc) gX3_read_X3_begin rfl rfl rfl (by decide +kernel) ⟨Nat.le_of_ble_eq_true rfl, Nat.le_of_ble_eq_true rfl⟩ (va_recv hK hP (ci := 3) (q0 := 18) rfl sl_aM) rfl hl.1 rfl (Nat.le_of_ble_eq_true rfl) dX3_read_18 ⟨Nat.zero_le _, Nat.zero_le _⟩ hK hN hD hP hS (fun H locs hP hS => ?_)
    refine W.eq (g2 := F0 m 21 ls [.int ((sp_X3_begin_in τ q (3 : Int32) (0 : Int32)).1)]) rfl ?_
    refine lv_istore_n (lv' := [(3, .int ((sp_X3_begin_in τ q (3 : Int32) (0 : Int32)).1)), (0, .ref (ad (18))), (1, .int q), (2, .int a)]) hx hb dX3_read_21 rfl hl (by decide) rfl (fun ls hl => ?_)
    refine lv_iload_n hx hb dX3_read_22 rfl (lv_at hl 0 rfl) ?_
    refine lv_if_ne (tgt := 33) hx hb dX3_read_23 (by decide) (fun c_2 => ?_) (fun c_2 => ?_)
    · refine lv_iload_n hx hb dX3_read_33 rfl (lv_at hl 0 rfl) ?_
      have e_q : (sp_X3_read_in τ q a) = (((sp_X3_begin_in τ q (3 : Int32) (0 : Int32)).1), (sp_X3_begin_in τ q (3 : Int32) (0 : Int32)).2) := by rw [sp_X3_read_in, if_pos c_1, if_neg c_2]
      exact sl_iret hx hb hr hlocks hP hS (by rw [e_q]) rfl (by rw [e_q]) dX3_read_34
    · refine lv_aload_n hx hb dX3_read_26 rfl (lv_at hl 1 rfl) ?_
      refine va_get (D := G) (ci := 3) (v := .ref (ad (29))) (C := RX3) (T := TX3) (N := 19) hx hb hts hi3 hown hK hP 18 sl_aM rfl 15 (by decide) (hts _ mw_X3_read_1) (fun _ h9 => h9) rfl dX3_read_27 ?_
      refine lv_iload_n hx hb dX3_read_30 rfl (lv_at hl 2 rfl) ?_
      refine lv_iload_n hx hb dX3_read_31 rfl (lv_at hl 3 rfl) ?_
      refine sl_stR 29 3 hx hb hK hD hP hS (by decide) (by decide) rfl hc dX3_read_32 (fun H locs hP hS => ?_)
      refine lv_iload_n hx hb dX3_read_33 rfl (lv_at hl 0 rfl) ?_
      have e_q : (sp_X3_read_in τ q a) = (((sp_X3_begin_in τ q (3 : Int32) (0 : Int32)).1), (sl_up (sp_X3_begin_in τ q (3 : Int32) (0 : Int32)).2 29 q.toNatClampNeg a)) := by rw [sp_X3_read_in, if_pos c_1, if_pos c_2]
      exact sl_iret hx hb hr hlocks hP hS (by rw [e_q]) rfl (by rw [e_q]) dX3_read_34
  · refine lv_iload_n hx hb dX3_read_7 rfl (lv_at hl 2 rfl) ?_
    refine lv_bipush (v := (31 : Int32)) hx hb dX3_read_8 (by decide) ?_
    refine lv_icmp_gt (tgt := 17) hx hb dX3_read_10 (by decide) (fun c_3 => ?_) (fun c_3 => ?_)
    · refine lv_iconst (v := (0 : Int32)) hx hb dX3_read_17 (by decide) ?_
      refine sl_cV (n := 3) (As := [.int q, .int (3 : Int32), .int (0 : Int32)]) (rest := []) ⟨hx, hb, hml, hown, hts⟩ (c_X3_begin_in l G cy ad σ τ q (3 : Int32) (0 : Int32) hc) gX3_read_X3_begin rfl rfl rfl (by decide +kernel) ⟨Nat.le_of_ble_eq_true rfl, Nat.le_of_ble_eq_true rfl⟩ (va_recv hK hP (ci := 3) (q0 := 18) rfl sl_aM) rfl hl.1 rfl (Nat.le_of_ble_eq_true rfl) dX3_read_18 ⟨Nat.zero_le _, Nat.zero_le _⟩ hK hN hD hP hS (fun H locs hP hS => ?_)
      refine W.eq (g2 := F0 m 21 ls [.int ((sp_X3_begin_in τ q (3 : Int32) (0 : Int32)).1)]) rfl ?_
      refine lv_istore_n (lv' := [(3, .int ((sp_X3_begin_in τ q (3 : Int32) (0 : Int32)).1)), (0, .ref (ad (18))), (1, .int q), (2, .int a)]) hx hb dX3_read_21 rfl hl (by decide) rfl (fun ls hl => ?_)
      refine lv_iload_n hx hb dX3_read_22 rfl (lv_at hl 0 rfl) ?_
      refine lv_if_ne (tgt := 33) hx hb dX3_read_23 (by decide) (fun c_4 => ?_) (fun c_4 => ?_)
      · refine lv_iload_n hx hb dX3_read_33 rfl (lv_at hl 0 rfl) ?_
        have e_q : (sp_X3_read_in τ q a) = (((sp_X3_begin_in τ q (3 : Int32) (0 : Int32)).1), (sp_X3_begin_in τ q (3 : Int32) (0 : Int32)).2) := by rw [sp_X3_read_in, if_neg c_1, if_pos c_3, if_neg c_4]
        exact sl_iret hx hb hr hlocks hP hS (by rw [e_q]) rfl (by rw [e_q]) dX3_read_34
      · refine lv_aload_n hx hb dX3_read_26 rfl (lv_at hl 1 rfl) ?_
        refine va_get (D := G) (ci := 3) (v := .ref (ad (29))) (C := RX3) (T := TX3) (N := 19) hx hb hts hi3 hown hK hP 18 sl_aM rfl 15 (by decide) (hts _ mw_X3_read_1) (fun _ h9 => h9) rfl dX3_read_27 ?_
        refine lv_iload_n hx hb dX3_read_30 rfl (lv_at hl 2 rfl) ?_
        refine lv_iload_n hx hb dX3_read_31 rfl (lv_at hl 3 rfl) ?_
        refine sl_stR 29 3 hx hb hK hD hP hS (by decide) (by decide) rfl hc dX3_read_32 (fun H locs hP hS => ?_)
        refine lv_iload_n hx hb dX3_read_33 rfl (lv_at hl 0 rfl) ?_
        have e_q : (sp_X3_read_in τ q a) = (((sp_X3_begin_in τ q (3 : Int32) (0 : Int32)).1), (sl_up (sp_X3_begin_in τ q (3 : Int32) (0 : Int32)).2 29 q.toNatClampNeg a)) := by rw [sp_X3_read_in, if_neg c_1, if_pos c_3, if_pos c_4]
        exact sl_iret hx hb hr hlocks hP hS (by rw [e_q]) rfl (by rw [e_q]) dX3_read_34
    · refine lv_iconst (v := (1 : Int32)) hx hb dX3_read_13 (by decide) ?_
      refine lv_goto (tgt := 18) hx hb dX3_read_14 (by decide) ?_
      refine sl_cV (n := 3) (As := [.int q, .int (3 : Int32), .int (1 : Int32)]) (rest := []) ⟨hx, hb, hml, hown, hts⟩ (c_X3_begin_in l G cy ad σ τ q (3 : Int32) (1 : Int32) hc) gX3_read_X3_begin rfl rfl rfl (by decide +kernel) ⟨Nat.le_of_ble_eq_true rfl, Nat.le_of_ble_eq_true rfl⟩ (va_recv hK hP (ci := 3) (q0 := 18) rfl sl_aM) rfl hl.1 rfl (Nat.le_of_ble_eq_true rfl) dX3_read_18 ⟨Nat.zero_le _, Nat.zero_le _⟩ hK hN hD hP hS (fun H locs hP hS => ?_)
      refine W.eq (g2 := F0 m 21 ls [.int ((sp_X3_begin_in τ q (3 : Int32) (1 : Int32)).1)]) rfl ?_
      refine lv_istore_n (lv' := [(3, .int ((sp_X3_begin_in τ q (3 : Int32) (1 : Int32)).1)), (0, .ref (ad (18))), (1, .int q), (2, .int a)]) hx hb dX3_read_21 rfl hl (by decide) rfl (fun ls hl => ?_)
      refine lv_iload_n hx hb dX3_read_22 rfl (lv_at hl 0 rfl) ?_
      refine lv_if_ne (tgt := 33) hx hb dX3_read_23 (by decide) (fun c_5 => ?_) (fun c_5 => ?_)
      · refine lv_iload_n hx hb dX3_read_33 rfl (lv_at hl 0 rfl) ?_
        have e_q : (sp_X3_read_in τ q a) = (((sp_X3_begin_in τ q (3 : Int32) (1 : Int32)).1), (sp_X3_begin_in τ q (3 : Int32) (1 : Int32)).2) := by rw [sp_X3_read_in, if_neg c_1, if_neg c_3, if_neg c_5]
        exact sl_iret hx hb hr hlocks hP hS (by rw [e_q]) rfl (by rw [e_q]) dX3_read_34
      · refine lv_aload_n hx hb dX3_read_26 rfl (lv_at hl 1 rfl) ?_
        refine va_get (D := G) (ci := 3) (v := .ref (ad (29))) (C := RX3) (T := TX3) (N := 19) hx hb hts hi3 hown hK hP 18 sl_aM rfl 15 (by decide) (hts _ mw_X3_read_1) (fun _ h9 => h9) rfl dX3_read_27 ?_
        refine lv_iload_n hx hb dX3_read_30 rfl (lv_at hl 2 rfl) ?_
        refine lv_iload_n hx hb dX3_read_31 rfl (lv_at hl 3 rfl) ?_
        refine sl_stR 29 3 hx hb hK hD hP hS (by decide) (by decide) rfl hc dX3_read_32 (fun H locs hP hS => ?_)
        refine lv_iload_n hx hb dX3_read_33 rfl (lv_at hl 0 rfl) ?_
        have e_q : (sp_X3_read_in τ q a) = (((sp_X3_begin_in τ q (3 : Int32) (1 : Int32)).1), (sl_up (sp_X3_begin_in τ q (3 : Int32) (1 : Int32)).2 29 q.toNatClampNeg a)) := by rw [sp_X3_read_in, if_neg c_1, if_neg c_3, if_pos c_5]
        exact sl_iret hx hb hr hlocks hP hS (by rw [e_q]) rfl (by rw [e_q]) dX3_read_34
def sp_X3_replay_in (τ : sl_M) (q : Int32) (a : Int32) : Int32 × sl_M := 
  if a < 0 then 
    if ((sp_X3_begin_in τ q (4 : Int32) (0 : Int32)).1) = 0 then (((sp_X3_begin_in τ q (4 : Int32) (0 : Int32)).1), (sl_up (sp_X3_begin_in τ q (4 : Int32) (0 : Int32)).2 32 q.toNatClampNeg a))
    else (((sp_X3_begin_in τ q (4 : Int32) (0 : Int32)).1), (sp_X3_begin_in τ q (4 : Int32) (0 : Int32)).2)
  else if (32 : Int32) < a then 
    if ((sp_X3_begin_in τ q (4 : Int32) (0 : Int32)).1) = 0 then (((sp_X3_begin_in τ q (4 : Int32) (0 : Int32)).1), (sl_up (sp_X3_begin_in τ q (4 : Int32) (0 : Int32)).2 32 q.toNatClampNeg a))
    else (((sp_X3_begin_in τ q (4 : Int32) (0 : Int32)).1), (sp_X3_begin_in τ q (4 : Int32) (0 : Int32)).2)
  else if ((sp_X3_begin_in τ q (4 : Int32) (1 : Int32)).1) = 0 then (((sp_X3_begin_in τ q (4 : Int32) (1 : Int32)).1), (sl_up (sp_X3_begin_in τ q (4 : Int32) (1 : Int32)).2 32 q.toNatClampNeg a))
  else (((sp_X3_begin_in τ q (4 : Int32) (1 : Int32)).1), (sp_X3_begin_in τ q (4 : Int32) (1 : Int32)).2)
set_option maxHeartbeats 4000000 in
set_option maxRecDepth 100000 in
theorem c_X3_replay_in (l : Launch) (G : va_G) (cy : Nat → ClassId) (ad : Nat → Nat) (σ τ : sl_M) (q : Int32) (a : Int32) (hc : vp_in q 3) : sl_C l G cy ad yX3_replay wsX3_replay ({ frames := 1, cells := 0, slots := 0, locals := 23 }) [.ref (ad (18)), .int q, .int a] σ τ (some (.int (sp_X3_replay_in τ q a).1)) σ (sp_X3_replay_in τ q a).2 := by
  refine sl_of (cc := cX3_replay) (maxL := 4) (ret := (some .int)) (by decide) rfl (Nat.le_of_ble_eq_true rfl) ?_
  intro p e s m below meth c hx hb hr hml hts hown hlocks hK hN hD hP hS ls hl
  have hown : s.vm.findClass RX3 = some m.cls := hown
  have hl : lv_has ls 4 [(0, .ref (ad (18))), (1, .int q), (2, .int a)] := hl
  have hi3 : ∀ w ∈ wsX30, w ∈ wsX3_replay := fun _ h => (List.mem_cons_of_mem _ (List.mem_append_right _ h))
  refine lv_aload_n hx hb dX3_replay_0 rfl (lv_at hl 0 rfl) ?_
  refine lv_iload_n hx hb dX3_replay_1 rfl (lv_at hl 1 rfl) ?_
  refine lv_iconst (v := (4 : Int32)) hx hb dX3_replay_2 (by decide) ?_
  refine lv_iload_n hx hb dX3_replay_3 rfl (lv_at hl 2 rfl) ?_
  refine lv_if_lt (tgt := 17) hx hb dX3_replay_4 (by decide) (fun c_1 => ?_) (fun c_1 => ?_)
  · refine lv_iconst (v := (0 : Int32)) hx hb dX3_replay_17 (by decide) ?_
    refine sl_cV (n := 3) (As := [.int q, .int (4 : Int32), .int (0 : Int32)]) (rest := []) ⟨hx, hb, hml, hown, hts⟩ (c_X3_begin_in l G cy ad σ τ q (4 : Int32) (0 : Int32) hc) gX3_replay_X3_begin rfl rfl rfl (by decide +kernel) ⟨Nat.le_of_ble_eq_true rfl, Nat.le_of_ble_eq_true rfl⟩ (va_recv hK hP (ci := 3) (q0 := 18) rfl sl_aM) rfl hl.1 rfl (Nat.le_of_ble_eq_true rfl) dX3_replay_18 ⟨Nat.zero_le _, Nat.zero_le _⟩ hK hN hD hP hS (fun H locs hP hS => ?_)
    refine W.eq (g2 := F0 m 21 ls [.int ((sp_X3_begin_in τ q (4 : Int32) (0 : Int32)).1)]) rfl ?_
    refine lv_istore_n (lv' := [(3, .int ((sp_X3_begin_in τ q (4 : Int32) (0 : Int32)).1)), (0, .ref (ad (18))), (1, .int q), (2, .int a)]) hx hb dX3_replay_21 rfl hl (by decide) rfl (fun ls hl => ?_)
    refine lv_iload_n hx hb dX3_replay_22 rfl (lv_at hl 0 rfl) ?_
    refine lv_if_ne (tgt := 33) hx hb dX3_replay_23 (by decide) (fun c_2 => ?_) (fun c_2 => ?_)
    · refine lv_iload_n hx hb dX3_replay_33 rfl (lv_at hl 0 rfl) ?_
      have e_q : (sp_X3_replay_in τ q a) = (((sp_X3_begin_in τ q (4 : Int32) (0 : Int32)).1), (sp_X3_begin_in τ q (4 : Int32) (0 : Int32)).2) := by rw [sp_X3_replay_in, if_pos c_1, if_neg c_2]
      exact sl_iret hx hb hr hlocks hP hS (by rw [e_q]) rfl (by rw [e_q]) dX3_replay_34
    · refine lv_aload_n hx hb dX3_replay_26 rfl (lv_at hl 1 rfl) ?_
      refine va_get (D := G) (ci := 3) (v := .ref (ad (32))) (C := RX3) (T := TX3) (N := 19) hx hb hts hi3 hown hK hP 18 sl_aM rfl 18 (by decide) (hts _ mw_X3_replay_1) (fun _ h9 => h9) rfl dX3_replay_27 ?_
      refine lv_iload_n hx hb dX3_replay_30 rfl (lv_at hl 2 rfl) ?_
      refine lv_iload_n hx hb dX3_replay_31 rfl (lv_at hl 3 rfl) ?_
      refine sl_stR 32 3 hx hb hK hD hP hS (by decide) (by decide) rfl hc dX3_replay_32 (fun H locs hP hS => ?_)
      refine lv_iload_n hx hb dX3_replay_33 rfl (lv_at hl 0 rfl) ?_
      have e_q : (sp_X3_replay_in τ q a) = (((sp_X3_begin_in τ q (4 : Int32) (0 : Int32)).1), (sl_up (sp_X3_begin_in τ q (4 : Int32) (0 : Int32)).2 32 q.toNatClampNeg a)) := by rw [sp_X3_replay_in, if_pos c_1, if_pos c_2]
      exact sl_iret hx hb hr hlocks hP hS (by rw [e_q]) rfl (by rw [e_q]) dX3_replay_34
  · refine lv_iload_n hx hb dX3_replay_7 rfl (lv_at hl 2 rfl) ?_
    refine lv_bipush (v := (32 : Int32)) hx hb dX3_replay_8 (by decide) ?_
    refine lv_icmp_gt (tgt := 17) hx hb dX3_replay_10 (by decide) (fun c_3 => ?_) (fun c_3 => ?_)
    · refine lv_iconst (v := (0 : Int32)) hx hb dX3_replay_17 (by decide) ?_
      refine sl_cV (n := 3) (As := [.int q, .int (4 : Int32), .int (0 : Int32)]) (rest := []) ⟨hx, hb, hml, hown, hts⟩ (c_X3_begin_in l G cy ad σ τ q (4 : Int32) (0 : Int32) hc) gX3_replay_X3_begin rfl rfl rfl (by decide +kernel) ⟨Nat.le_of_ble_eq_true rfl, Nat.le_of_ble_eq_true rfl⟩ (va_recv hK hP (ci := 3) (q0 := 18) rfl sl_aM) rfl hl.1 rfl (Nat.le_of_ble_eq_true rfl) dX3_replay_18 ⟨Nat.zero_le _, Nat.zero_le _⟩ hK hN hD hP hS (fun H locs hP hS => ?_)
      refine W.eq (g2 := F0 m 21 ls [.int ((sp_X3_begin_in τ q (4 : Int32) (0 : Int32)).1)]) rfl ?_
      refine lv_istore_n (lv' := [(3, .int ((sp_X3_begin_in τ q (4 : Int32) (0 : Int32)).1)), (0, .ref (ad (18))), (1, .int q), (2, .int a)]) hx hb dX3_replay_21 rfl hl (by decide) rfl (fun ls hl => ?_)
      refine lv_iload_n hx hb dX3_replay_22 rfl (lv_at hl 0 rfl) ?_
      refine lv_if_ne (tgt := 33) hx hb dX3_replay_23 (by decide) (fun c_4 => ?_) (fun c_4 => ?_)
      · refine lv_iload_n hx hb dX3_replay_33 rfl (lv_at hl 0 rfl) ?_
        have e_q : (sp_X3_replay_in τ q a) = (((sp_X3_begin_in τ q (4 : Int32) (0 : Int32)).1), (sp_X3_begin_in τ q (4 : Int32) (0 : Int32)).2) := by rw [sp_X3_replay_in, if_neg c_1, if_pos c_3, if_neg c_4]
        exact sl_iret hx hb hr hlocks hP hS (by rw [e_q]) rfl (by rw [e_q]) dX3_replay_34
      · refine lv_aload_n hx hb dX3_replay_26 rfl (lv_at hl 1 rfl) ?_
        refine va_get (D := G) (ci := 3) (v := .ref (ad (32))) (C := RX3) (T := TX3) (N := 19) hx hb hts hi3 hown hK hP 18 sl_aM rfl 18 (by decide) (hts _ mw_X3_replay_1) (fun _ h9 => h9) rfl dX3_replay_27 ?_
        refine lv_iload_n hx hb dX3_replay_30 rfl (lv_at hl 2 rfl) ?_
        refine lv_iload_n hx hb dX3_replay_31 rfl (lv_at hl 3 rfl) ?_
        refine sl_stR 32 3 hx hb hK hD hP hS (by decide) (by decide) rfl hc dX3_replay_32 (fun H locs hP hS => ?_)
        refine lv_iload_n hx hb dX3_replay_33 rfl (lv_at hl 0 rfl) ?_
        have e_q : (sp_X3_replay_in τ q a) = (((sp_X3_begin_in τ q (4 : Int32) (0 : Int32)).1), (sl_up (sp_X3_begin_in τ q (4 : Int32) (0 : Int32)).2 32 q.toNatClampNeg a)) := by rw [sp_X3_replay_in, if_neg c_1, if_pos c_3, if_pos c_4]
        exact sl_iret hx hb hr hlocks hP hS (by rw [e_q]) rfl (by rw [e_q]) dX3_replay_34
    · refine lv_iconst (v := (1 : Int32)) hx hb dX3_replay_13 (by decide) ?_
      refine lv_goto (tgt := 18) hx hb dX3_replay_14 (by decide) ?_
      refine sl_cV (n := 3) (As := [.int q, .int (4 : Int32), .int (1 : Int32)]) (rest := []) ⟨hx, hb, hml, hown, hts⟩ (c_X3_begin_in l G cy ad σ τ q (4 : Int32) (1 : Int32) hc) gX3_replay_X3_begin rfl rfl rfl (by decide +kernel) ⟨Nat.le_of_ble_eq_true rfl, Nat.le_of_ble_eq_true rfl⟩ (va_recv hK hP (ci := 3) (q0 := 18) rfl sl_aM) rfl hl.1 rfl (Nat.le_of_ble_eq_true rfl) dX3_replay_18 ⟨Nat.zero_le _, Nat.zero_le _⟩ hK hN hD hP hS (fun H locs hP hS => ?_)
      refine W.eq (g2 := F0 m 21 ls [.int ((sp_X3_begin_in τ q (4 : Int32) (1 : Int32)).1)]) rfl ?_
      refine lv_istore_n (lv' := [(3, .int ((sp_X3_begin_in τ q (4 : Int32) (1 : Int32)).1)), (0, .ref (ad (18))), (1, .int q), (2, .int a)]) hx hb dX3_replay_21 rfl hl (by decide) rfl (fun ls hl => ?_)
      refine lv_iload_n hx hb dX3_replay_22 rfl (lv_at hl 0 rfl) ?_
      refine lv_if_ne (tgt := 33) hx hb dX3_replay_23 (by decide) (fun c_5 => ?_) (fun c_5 => ?_)
      · refine lv_iload_n hx hb dX3_replay_33 rfl (lv_at hl 0 rfl) ?_
        have e_q : (sp_X3_replay_in τ q a) = (((sp_X3_begin_in τ q (4 : Int32) (1 : Int32)).1), (sp_X3_begin_in τ q (4 : Int32) (1 : Int32)).2) := by rw [sp_X3_replay_in, if_neg c_1, if_neg c_3, if_neg c_5]
        exact sl_iret hx hb hr hlocks hP hS (by rw [e_q]) rfl (by rw [e_q]) dX3_replay_34
      · refine lv_aload_n hx hb dX3_replay_26 rfl (lv_at hl 1 rfl) ?_
        refine va_get (D := G) (ci := 3) (v := .ref (ad (32))) (C := RX3) (T := TX3) (N := 19) hx hb hts hi3 hown hK hP 18 sl_aM rfl 18 (by decide) (hts _ mw_X3_replay_1) (fun _ h9 => h9) rfl dX3_replay_27 ?_
        refine lv_iload_n hx hb dX3_replay_30 rfl (lv_at hl 2 rfl) ?_
        refine lv_iload_n hx hb dX3_replay_31 rfl (lv_at hl 3 rfl) ?_
        refine sl_stR 32 3 hx hb hK hD hP hS (by decide) (by decide) rfl hc dX3_replay_32 (fun H locs hP hS => ?_)
        refine lv_iload_n hx hb dX3_replay_33 rfl (lv_at hl 0 rfl) ?_
        have e_q : (sp_X3_replay_in τ q a) = (((sp_X3_begin_in τ q (4 : Int32) (1 : Int32)).1), (sl_up (sp_X3_begin_in τ q (4 : Int32) (1 : Int32)).2 32 q.toNatClampNeg a)) := by rw [sp_X3_replay_in, if_neg c_1, if_neg c_3, if_pos c_5]
        exact sl_iret hx hb hr hlocks hP hS (by rw [e_q]) rfl (by rw [e_q]) dX3_replay_34
def sp_X3_reform_in (τ : sl_M) (q : Int32) (a : Int32) : Int32 × sl_M := 
  if a < 0 then 
    if (τ 24 q.toNatClampNeg) = 0 then 
      if ((sp_X3_begin_in τ q (5 : Int32) (0 : Int32)).1) = 0 then (((sp_X3_begin_in τ q (5 : Int32) (0 : Int32)).1), (sl_up (sp_X3_begin_in τ q (5 : Int32) (0 : Int32)).2 32 q.toNatClampNeg ((((sp_X3_begin_in τ q (5 : Int32) (0 : Int32)).2) 26 q.toNatClampNeg) &&& (a ^^^ (-1 : Int32)))))
      else (((sp_X3_begin_in τ q (5 : Int32) (0 : Int32)).1), (sp_X3_begin_in τ q (5 : Int32) (0 : Int32)).2)
    else if ((sp_X3_begin_in τ q (5 : Int32) (0 : Int32)).1) = 0 then (((sp_X3_begin_in τ q (5 : Int32) (0 : Int32)).1), (sl_up (sp_X3_begin_in τ q (5 : Int32) (0 : Int32)).2 32 q.toNatClampNeg ((((sp_X3_begin_in τ q (5 : Int32) (0 : Int32)).2) 26 q.toNatClampNeg) &&& (a ^^^ (-1 : Int32)))))
    else (((sp_X3_begin_in τ q (5 : Int32) (0 : Int32)).1), (sp_X3_begin_in τ q (5 : Int32) (0 : Int32)).2)
  else if (63 : Int32) < a then 
    if (τ 24 q.toNatClampNeg) = 0 then 
      if ((sp_X3_begin_in τ q (5 : Int32) (0 : Int32)).1) = 0 then (((sp_X3_begin_in τ q (5 : Int32) (0 : Int32)).1), (sl_up (sp_X3_begin_in τ q (5 : Int32) (0 : Int32)).2 32 q.toNatClampNeg ((((sp_X3_begin_in τ q (5 : Int32) (0 : Int32)).2) 26 q.toNatClampNeg) &&& (a ^^^ (-1 : Int32)))))
      else (((sp_X3_begin_in τ q (5 : Int32) (0 : Int32)).1), (sp_X3_begin_in τ q (5 : Int32) (0 : Int32)).2)
    else if ((sp_X3_begin_in τ q (5 : Int32) (0 : Int32)).1) = 0 then (((sp_X3_begin_in τ q (5 : Int32) (0 : Int32)).1), (sl_up (sp_X3_begin_in τ q (5 : Int32) (0 : Int32)).2 32 q.toNatClampNeg ((((sp_X3_begin_in τ q (5 : Int32) (0 : Int32)).2) 26 q.toNatClampNeg) &&& (a ^^^ (-1 : Int32)))))
    else (((sp_X3_begin_in τ q (5 : Int32) (0 : Int32)).1), (sp_X3_begin_in τ q (5 : Int32) (0 : Int32)).2)
  else if (τ 24 q.toNatClampNeg) = 0 then 
    if (sp_X3_length ((τ 26 q.toNatClampNeg) &&& (a ^^^ (-1 : Int32))) (0 : Int32)) = 0 then ((-4 : Int32), τ)
    else if (sp_X3_length ((τ 26 q.toNatClampNeg) &&& (a ^^^ (-1 : Int32))) (1 : Int32)) = 0 then ((-4 : Int32), τ)
    else if ((sp_X3_begin_in τ q (5 : Int32) (1 : Int32)).1) = 0 then (((sp_X3_begin_in τ q (5 : Int32) (1 : Int32)).1), (sl_up (sp_X3_begin_in τ q (5 : Int32) (1 : Int32)).2 32 q.toNatClampNeg ((((sp_X3_begin_in τ q (5 : Int32) (1 : Int32)).2) 26 q.toNatClampNeg) &&& (a ^^^ (-1 : Int32)))))
    else (((sp_X3_begin_in τ q (5 : Int32) (1 : Int32)).1), (sp_X3_begin_in τ q (5 : Int32) (1 : Int32)).2)
  else if ((sp_X3_begin_in τ q (5 : Int32) (1 : Int32)).1) = 0 then (((sp_X3_begin_in τ q (5 : Int32) (1 : Int32)).1), (sl_up (sp_X3_begin_in τ q (5 : Int32) (1 : Int32)).2 32 q.toNatClampNeg ((((sp_X3_begin_in τ q (5 : Int32) (1 : Int32)).2) 26 q.toNatClampNeg) &&& (a ^^^ (-1 : Int32)))))
  else (((sp_X3_begin_in τ q (5 : Int32) (1 : Int32)).1), (sp_X3_begin_in τ q (5 : Int32) (1 : Int32)).2)
set_option maxHeartbeats 4000000 in
set_option maxRecDepth 100000 in
theorem c_X3_reform_in (l : Launch) (G : va_G) (cy : Nat → ClassId) (ad : Nat → Nat) (σ τ : sl_M) (q : Int32) (a : Int32) (hc : vp_in q 3) : sl_C l G cy ad yX3_reform wsX3_reform ({ frames := 1, cells := 0, slots := 0, locals := 23 }) [.ref (ad (18)), .int q, .int a] σ τ (some (.int (sp_X3_reform_in τ q a).1)) σ (sp_X3_reform_in τ q a).2 := by
  refine sl_of (cc := cX3_reform) (maxL := 5) (ret := (some .int)) (by decide) rfl (Nat.le_of_ble_eq_true rfl) ?_
  intro p e s m below meth c hx hb hr hml hts hown hlocks hK hN hD hP hS ls hl
  have hown : s.vm.findClass RX3 = some m.cls := hown
  have hl : lv_has ls 5 [(0, .ref (ad (18))), (1, .int q), (2, .int a)] := hl
  have hi3 : ∀ w ∈ wsX30, w ∈ wsX3_reform := fun _ h => (List.mem_cons_of_mem _ (List.mem_append_right _ h))
  refine lv_iload_n hx hb dX3_reform_0 rfl (lv_at hl 2 rfl) ?_
  refine lv_if_lt (tgt := 14) hx hb dX3_reform_1 (by decide) (fun c_1 => ?_) (fun c_1 => ?_)
  · refine lv_iconst (v := (0 : Int32)) hx hb dX3_reform_14 (by decide) ?_
    refine lv_istore_n (lv' := [(3, .int (0 : Int32)), (0, .ref (ad (18))), (1, .int q), (2, .int a)]) hx hb dX3_reform_15 rfl hl (by decide) rfl (fun ls hl => ?_)
    refine lv_iload_n hx hb dX3_reform_16 rfl (lv_at hl 2 rfl) ?_
    refine lv_if_lt (tgt := 71) hx hb dX3_reform_17 (by decide) (fun h9 => absurd h9 (sl_i0 hc)) (fun _ => ?_)
    refine lv_iload_n hx hb dX3_reform_20 rfl (lv_at hl 2 rfl) ?_
    refine lv_iconst (v := (2 : Int32)) hx hb dX3_reform_21 (by decide) ?_
    refine lv_icmp_gt (tgt := 71) hx hb dX3_reform_22 (by decide) (fun h9 => absurd h9 (sl_nl (sl_iL hc rfl))) (fun _ => ?_)
    refine lv_aload_n hx hb dX3_reform_25 rfl (lv_at hl 1 rfl) ?_
    refine va_get (D := G) (ci := 3) (v := .ref (ad (24))) (C := RX3) (T := TX3) (N := 19) hx hb hts hi3 hown hK hP 18 sl_aM rfl 10 (by decide) (hts _ mw_X3_reform_1) (fun _ h9 => h9) rfl dX3_reform_26 ?_
    refine lv_iload_n hx hb dX3_reform_29 rfl (lv_at hl 2 rfl) ?_
    refine sl_ldR 24 3 hx hb hK hP (by decide) (by decide) rfl hc dX3_reform_30 ?_
    refine lv_if_ne (tgt := 71) hx hb dX3_reform_31 (by decide) (fun c_2 => ?_) (fun c_2 => ?_)
    · refine lv_aload_n hx hb dX3_reform_71 rfl (lv_at hl 1 rfl) ?_
      refine lv_iload_n hx hb dX3_reform_72 rfl (lv_at hl 2 rfl) ?_
      refine lv_iconst (v := (5 : Int32)) hx hb dX3_reform_73 (by decide) ?_
      refine lv_iload_n hx hb dX3_reform_74 rfl (lv_at hl 0 rfl) ?_
      refine sl_cV (n := 3) (As := [.int q, .int (5 : Int32), .int (0 : Int32)]) (rest := []) ⟨hx, hb, hml, hown, hts⟩ (c_X3_begin_in l G cy ad σ τ q (5 : Int32) (0 : Int32) hc) gX3_reform_X3_begin rfl rfl rfl (by decide +kernel) ⟨Nat.le_of_ble_eq_true rfl, Nat.le_of_ble_eq_true rfl⟩ (va_recv hK hP (ci := 3) (q0 := 18) rfl sl_aM) rfl hl.1 rfl (Nat.le_of_ble_eq_true rfl) dX3_reform_75 ⟨Nat.zero_le _, Nat.zero_le _⟩ hK hN hD hP hS (fun H locs hP hS => ?_)
      refine W.eq (g2 := F0 m 78 ls [.int ((sp_X3_begin_in τ q (5 : Int32) (0 : Int32)).1)]) rfl ?_
      refine lv_istore (lv' := [(4, .int ((sp_X3_begin_in τ q (5 : Int32) (0 : Int32)).1)), (3, .int (0 : Int32)), (0, .ref (ad (18))), (1, .int q), (2, .int a)]) hx hb dX3_reform_78 hl (by decide) rfl (fun ls hl => ?_)
      refine lv_iload hx hb dX3_reform_80 (lv_at hl 0 rfl) ?_
      refine lv_if_ne (tgt := 101) hx hb dX3_reform_82 (by decide) (fun c_3 => ?_) (fun c_3 => ?_)
      · refine lv_iload hx hb dX3_reform_101 (lv_at hl 0 rfl) ?_
        have e_q : (sp_X3_reform_in τ q a) = (((sp_X3_begin_in τ q (5 : Int32) (0 : Int32)).1), (sp_X3_begin_in τ q (5 : Int32) (0 : Int32)).2) := by rw [sp_X3_reform_in, if_pos c_1, if_neg c_2, if_neg c_3]
        exact sl_iret hx hb hr hlocks hP hS (by rw [e_q]) rfl (by rw [e_q]) dX3_reform_103
      · refine lv_aload_n hx hb dX3_reform_85 rfl (lv_at hl 2 rfl) ?_
        refine va_get (D := G) (ci := 3) (v := .ref (ad (32))) (C := RX3) (T := TX3) (N := 19) hx hb hts hi3 hown hK hP 18 sl_aM rfl 18 (by decide) (hts _ mw_X3_reform_3) (fun _ h9 => h9) rfl dX3_reform_86 ?_
        refine lv_iload_n hx hb dX3_reform_89 rfl (lv_at hl 3 rfl) ?_
        refine lv_aload_n hx hb dX3_reform_90 rfl (lv_at hl 2 rfl) ?_
        refine va_get (D := G) (ci := 3) (v := .ref (ad (26))) (C := RX3) (T := TX3) (N := 19) hx hb hts hi3 hown hK hP 18 sl_aM rfl 12 (by decide) (hts _ mw_X3_reform_2) (fun _ h9 => h9) rfl dX3_reform_91 ?_
        refine lv_iload_n hx hb dX3_reform_94 rfl (lv_at hl 3 rfl) ?_
        refine sl_ldR 26 3 hx hb hK hP (by decide) (by decide) rfl hc dX3_reform_95 ?_
        refine lv_iload_n hx hb dX3_reform_96 rfl (lv_at hl 4 rfl) ?_
        refine lv_iconst (v := (-1 : Int32)) hx hb dX3_reform_97 (by decide) ?_
        refine lv_ixor hx hb dX3_reform_98 ?_
        refine lv_iand hx hb dX3_reform_99 ?_
        refine sl_stR 32 3 hx hb hK hD hP hS (by decide) (by decide) rfl hc dX3_reform_100 (fun H locs hP hS => ?_)
        refine lv_iload hx hb dX3_reform_101 (lv_at hl 0 rfl) ?_
        have e_q : (sp_X3_reform_in τ q a) = (((sp_X3_begin_in τ q (5 : Int32) (0 : Int32)).1), (sl_up (sp_X3_begin_in τ q (5 : Int32) (0 : Int32)).2 32 q.toNatClampNeg ((((sp_X3_begin_in τ q (5 : Int32) (0 : Int32)).2) 26 q.toNatClampNeg) &&& (a ^^^ (-1 : Int32))))) := by rw [sp_X3_reform_in, if_pos c_1, if_neg c_2, if_pos c_3]
        exact sl_iret hx hb hr hlocks hP hS (by rw [e_q]) rfl (by rw [e_q]) dX3_reform_103
    · refine lv_iload_n hx hb dX3_reform_34 rfl (lv_at hl 0 rfl) ?_
      refine lv_if_eq (tgt := 71) hx hb dX3_reform_35 (by decide) (fun _ => ?_) (fun h9 => absurd (by decide) h9)
      refine lv_aload_n hx hb dX3_reform_71 rfl (lv_at hl 1 rfl) ?_
      refine lv_iload_n hx hb dX3_reform_72 rfl (lv_at hl 2 rfl) ?_
      refine lv_iconst (v := (5 : Int32)) hx hb dX3_reform_73 (by decide) ?_
      refine lv_iload_n hx hb dX3_reform_74 rfl (lv_at hl 0 rfl) ?_
      refine sl_cV (n := 3) (As := [.int q, .int (5 : Int32), .int (0 : Int32)]) (rest := []) ⟨hx, hb, hml, hown, hts⟩ (c_X3_begin_in l G cy ad σ τ q (5 : Int32) (0 : Int32) hc) gX3_reform_X3_begin rfl rfl rfl (by decide +kernel) ⟨Nat.le_of_ble_eq_true rfl, Nat.le_of_ble_eq_true rfl⟩ (va_recv hK hP (ci := 3) (q0 := 18) rfl sl_aM) rfl hl.1 rfl (Nat.le_of_ble_eq_true rfl) dX3_reform_75 ⟨Nat.zero_le _, Nat.zero_le _⟩ hK hN hD hP hS (fun H locs hP hS => ?_)
      refine W.eq (g2 := F0 m 78 ls [.int ((sp_X3_begin_in τ q (5 : Int32) (0 : Int32)).1)]) rfl ?_
      refine lv_istore (lv' := [(4, .int ((sp_X3_begin_in τ q (5 : Int32) (0 : Int32)).1)), (3, .int (0 : Int32)), (0, .ref (ad (18))), (1, .int q), (2, .int a)]) hx hb dX3_reform_78 hl (by decide) rfl (fun ls hl => ?_)
      refine lv_iload hx hb dX3_reform_80 (lv_at hl 0 rfl) ?_
      refine lv_if_ne (tgt := 101) hx hb dX3_reform_82 (by decide) (fun c_4 => ?_) (fun c_4 => ?_)
      · refine lv_iload hx hb dX3_reform_101 (lv_at hl 0 rfl) ?_
        have e_q : (sp_X3_reform_in τ q a) = (((sp_X3_begin_in τ q (5 : Int32) (0 : Int32)).1), (sp_X3_begin_in τ q (5 : Int32) (0 : Int32)).2) := by rw [sp_X3_reform_in, if_pos c_1, if_pos c_2, if_neg c_4]
        exact sl_iret hx hb hr hlocks hP hS (by rw [e_q]) rfl (by rw [e_q]) dX3_reform_103
      · refine lv_aload_n hx hb dX3_reform_85 rfl (lv_at hl 2 rfl) ?_
        refine va_get (D := G) (ci := 3) (v := .ref (ad (32))) (C := RX3) (T := TX3) (N := 19) hx hb hts hi3 hown hK hP 18 sl_aM rfl 18 (by decide) (hts _ mw_X3_reform_3) (fun _ h9 => h9) rfl dX3_reform_86 ?_
        refine lv_iload_n hx hb dX3_reform_89 rfl (lv_at hl 3 rfl) ?_
        refine lv_aload_n hx hb dX3_reform_90 rfl (lv_at hl 2 rfl) ?_
        refine va_get (D := G) (ci := 3) (v := .ref (ad (26))) (C := RX3) (T := TX3) (N := 19) hx hb hts hi3 hown hK hP 18 sl_aM rfl 12 (by decide) (hts _ mw_X3_reform_2) (fun _ h9 => h9) rfl dX3_reform_91 ?_
        refine lv_iload_n hx hb dX3_reform_94 rfl (lv_at hl 3 rfl) ?_
        refine sl_ldR 26 3 hx hb hK hP (by decide) (by decide) rfl hc dX3_reform_95 ?_
        refine lv_iload_n hx hb dX3_reform_96 rfl (lv_at hl 4 rfl) ?_
        refine lv_iconst (v := (-1 : Int32)) hx hb dX3_reform_97 (by decide) ?_
        refine lv_ixor hx hb dX3_reform_98 ?_
        refine lv_iand hx hb dX3_reform_99 ?_
        refine sl_stR 32 3 hx hb hK hD hP hS (by decide) (by decide) rfl hc dX3_reform_100 (fun H locs hP hS => ?_)
        refine lv_iload hx hb dX3_reform_101 (lv_at hl 0 rfl) ?_
        have e_q : (sp_X3_reform_in τ q a) = (((sp_X3_begin_in τ q (5 : Int32) (0 : Int32)).1), (sl_up (sp_X3_begin_in τ q (5 : Int32) (0 : Int32)).2 32 q.toNatClampNeg ((((sp_X3_begin_in τ q (5 : Int32) (0 : Int32)).2) 26 q.toNatClampNeg) &&& (a ^^^ (-1 : Int32))))) := by rw [sp_X3_reform_in, if_pos c_1, if_pos c_2, if_pos c_4]
        exact sl_iret hx hb hr hlocks hP hS (by rw [e_q]) rfl (by rw [e_q]) dX3_reform_103
  · refine lv_iload_n hx hb dX3_reform_4 rfl (lv_at hl 2 rfl) ?_
    refine lv_bipush (v := (63 : Int32)) hx hb dX3_reform_5 (by decide) ?_
    refine lv_icmp_gt (tgt := 14) hx hb dX3_reform_7 (by decide) (fun c_5 => ?_) (fun c_5 => ?_)
    · refine lv_iconst (v := (0 : Int32)) hx hb dX3_reform_14 (by decide) ?_
      refine lv_istore_n (lv' := [(3, .int (0 : Int32)), (0, .ref (ad (18))), (1, .int q), (2, .int a)]) hx hb dX3_reform_15 rfl hl (by decide) rfl (fun ls hl => ?_)
      refine lv_iload_n hx hb dX3_reform_16 rfl (lv_at hl 2 rfl) ?_
      refine lv_if_lt (tgt := 71) hx hb dX3_reform_17 (by decide) (fun h9 => absurd h9 (sl_i0 hc)) (fun _ => ?_)
      refine lv_iload_n hx hb dX3_reform_20 rfl (lv_at hl 2 rfl) ?_
      refine lv_iconst (v := (2 : Int32)) hx hb dX3_reform_21 (by decide) ?_
      refine lv_icmp_gt (tgt := 71) hx hb dX3_reform_22 (by decide) (fun h9 => absurd h9 (sl_nl (sl_iL hc rfl))) (fun _ => ?_)
      refine lv_aload_n hx hb dX3_reform_25 rfl (lv_at hl 1 rfl) ?_
      refine va_get (D := G) (ci := 3) (v := .ref (ad (24))) (C := RX3) (T := TX3) (N := 19) hx hb hts hi3 hown hK hP 18 sl_aM rfl 10 (by decide) (hts _ mw_X3_reform_1) (fun _ h9 => h9) rfl dX3_reform_26 ?_
      refine lv_iload_n hx hb dX3_reform_29 rfl (lv_at hl 2 rfl) ?_
      refine sl_ldR 24 3 hx hb hK hP (by decide) (by decide) rfl hc dX3_reform_30 ?_
      refine lv_if_ne (tgt := 71) hx hb dX3_reform_31 (by decide) (fun c_6 => ?_) (fun c_6 => ?_)
      · refine lv_aload_n hx hb dX3_reform_71 rfl (lv_at hl 1 rfl) ?_
        refine lv_iload_n hx hb dX3_reform_72 rfl (lv_at hl 2 rfl) ?_
        refine lv_iconst (v := (5 : Int32)) hx hb dX3_reform_73 (by decide) ?_
        refine lv_iload_n hx hb dX3_reform_74 rfl (lv_at hl 0 rfl) ?_
        refine sl_cV (n := 3) (As := [.int q, .int (5 : Int32), .int (0 : Int32)]) (rest := []) ⟨hx, hb, hml, hown, hts⟩ (c_X3_begin_in l G cy ad σ τ q (5 : Int32) (0 : Int32) hc) gX3_reform_X3_begin rfl rfl rfl (by decide +kernel) ⟨Nat.le_of_ble_eq_true rfl, Nat.le_of_ble_eq_true rfl⟩ (va_recv hK hP (ci := 3) (q0 := 18) rfl sl_aM) rfl hl.1 rfl (Nat.le_of_ble_eq_true rfl) dX3_reform_75 ⟨Nat.zero_le _, Nat.zero_le _⟩ hK hN hD hP hS (fun H locs hP hS => ?_)
        refine W.eq (g2 := F0 m 78 ls [.int ((sp_X3_begin_in τ q (5 : Int32) (0 : Int32)).1)]) rfl ?_
        refine lv_istore (lv' := [(4, .int ((sp_X3_begin_in τ q (5 : Int32) (0 : Int32)).1)), (3, .int (0 : Int32)), (0, .ref (ad (18))), (1, .int q), (2, .int a)]) hx hb dX3_reform_78 hl (by decide) rfl (fun ls hl => ?_)
        refine lv_iload hx hb dX3_reform_80 (lv_at hl 0 rfl) ?_
        refine lv_if_ne (tgt := 101) hx hb dX3_reform_82 (by decide) (fun c_7 => ?_) (fun c_7 => ?_)
        · refine lv_iload hx hb dX3_reform_101 (lv_at hl 0 rfl) ?_
          have e_q : (sp_X3_reform_in τ q a) = (((sp_X3_begin_in τ q (5 : Int32) (0 : Int32)).1), (sp_X3_begin_in τ q (5 : Int32) (0 : Int32)).2) := by rw [sp_X3_reform_in, if_neg c_1, if_pos c_5, if_neg c_6, if_neg c_7]
          exact sl_iret hx hb hr hlocks hP hS (by rw [e_q]) rfl (by rw [e_q]) dX3_reform_103
        · refine lv_aload_n hx hb dX3_reform_85 rfl (lv_at hl 2 rfl) ?_
          refine va_get (D := G) (ci := 3) (v := .ref (ad (32))) (C := RX3) (T := TX3) (N := 19) hx hb hts hi3 hown hK hP 18 sl_aM rfl 18 (by decide) (hts _ mw_X3_reform_3) (fun _ h9 => h9) rfl dX3_reform_86 ?_
          refine lv_iload_n hx hb dX3_reform_89 rfl (lv_at hl 3 rfl) ?_
          refine lv_aload_n hx hb dX3_reform_90 rfl (lv_at hl 2 rfl) ?_
          refine va_get (D := G) (ci := 3) (v := .ref (ad (26))) (C := RX3) (T := TX3) (N := 19) hx hb hts hi3 hown hK hP 18 sl_aM rfl 12 (by decide) (hts _ mw_X3_reform_2) (fun _ h9 => h9) rfl dX3_reform_91 ?_
          refine lv_iload_n hx hb dX3_reform_94 rfl (lv_at hl 3 rfl) ?_
          refine sl_ldR 26 3 hx hb hK hP (by decide) (by decide) rfl hc dX3_reform_95 ?_
          refine lv_iload_n hx hb dX3_reform_96 rfl (lv_at hl 4 rfl) ?_
          refine lv_iconst (v := (-1 : Int32)) hx hb dX3_reform_97 (by decide) ?_
          refine lv_ixor hx hb dX3_reform_98 ?_
          refine lv_iand hx hb dX3_reform_99 ?_
          refine sl_stR 32 3 hx hb hK hD hP hS (by decide) (by decide) rfl hc dX3_reform_100 (fun H locs hP hS => ?_)
          refine lv_iload hx hb dX3_reform_101 (lv_at hl 0 rfl) ?_
          have e_q : (sp_X3_reform_in τ q a) = (((sp_X3_begin_in τ q (5 : Int32) (0 : Int32)).1), (sl_up (sp_X3_begin_in τ q (5 : Int32) (0 : Int32)).2 32 q.toNatClampNeg ((((sp_X3_begin_in τ q (5 : Int32) (0 : Int32)).2) 26 q.toNatClampNeg) &&& (a ^^^ (-1 : Int32))))) := by rw [sp_X3_reform_in, if_neg c_1, if_pos c_5, if_neg c_6, if_pos c_7]
          exact sl_iret hx hb hr hlocks hP hS (by rw [e_q]) rfl (by rw [e_q]) dX3_reform_103
      · refine lv_iload_n hx hb dX3_reform_34 rfl (lv_at hl 0 rfl) ?_
        refine lv_if_eq (tgt := 71) hx hb dX3_reform_35 (by decide) (fun _ => ?_) (fun h9 => absurd (by decide) h9)
        refine lv_aload_n hx hb dX3_reform_71 rfl (lv_at hl 1 rfl) ?_
        refine lv_iload_n hx hb dX3_reform_72 rfl (lv_at hl 2 rfl) ?_
        refine lv_iconst (v := (5 : Int32)) hx hb dX3_reform_73 (by decide) ?_
        refine lv_iload_n hx hb dX3_reform_74 rfl (lv_at hl 0 rfl) ?_
        refine sl_cV (n := 3) (As := [.int q, .int (5 : Int32), .int (0 : Int32)]) (rest := []) ⟨hx, hb, hml, hown, hts⟩ (c_X3_begin_in l G cy ad σ τ q (5 : Int32) (0 : Int32) hc) gX3_reform_X3_begin rfl rfl rfl (by decide +kernel) ⟨Nat.le_of_ble_eq_true rfl, Nat.le_of_ble_eq_true rfl⟩ (va_recv hK hP (ci := 3) (q0 := 18) rfl sl_aM) rfl hl.1 rfl (Nat.le_of_ble_eq_true rfl) dX3_reform_75 ⟨Nat.zero_le _, Nat.zero_le _⟩ hK hN hD hP hS (fun H locs hP hS => ?_)
        refine W.eq (g2 := F0 m 78 ls [.int ((sp_X3_begin_in τ q (5 : Int32) (0 : Int32)).1)]) rfl ?_
        refine lv_istore (lv' := [(4, .int ((sp_X3_begin_in τ q (5 : Int32) (0 : Int32)).1)), (3, .int (0 : Int32)), (0, .ref (ad (18))), (1, .int q), (2, .int a)]) hx hb dX3_reform_78 hl (by decide) rfl (fun ls hl => ?_)
        refine lv_iload hx hb dX3_reform_80 (lv_at hl 0 rfl) ?_
        refine lv_if_ne (tgt := 101) hx hb dX3_reform_82 (by decide) (fun c_8 => ?_) (fun c_8 => ?_)
        · refine lv_iload hx hb dX3_reform_101 (lv_at hl 0 rfl) ?_
          have e_q : (sp_X3_reform_in τ q a) = (((sp_X3_begin_in τ q (5 : Int32) (0 : Int32)).1), (sp_X3_begin_in τ q (5 : Int32) (0 : Int32)).2) := by rw [sp_X3_reform_in, if_neg c_1, if_pos c_5, if_pos c_6, if_neg c_8]
          exact sl_iret hx hb hr hlocks hP hS (by rw [e_q]) rfl (by rw [e_q]) dX3_reform_103
        · refine lv_aload_n hx hb dX3_reform_85 rfl (lv_at hl 2 rfl) ?_
          refine va_get (D := G) (ci := 3) (v := .ref (ad (32))) (C := RX3) (T := TX3) (N := 19) hx hb hts hi3 hown hK hP 18 sl_aM rfl 18 (by decide) (hts _ mw_X3_reform_3) (fun _ h9 => h9) rfl dX3_reform_86 ?_
          refine lv_iload_n hx hb dX3_reform_89 rfl (lv_at hl 3 rfl) ?_
          refine lv_aload_n hx hb dX3_reform_90 rfl (lv_at hl 2 rfl) ?_
          refine va_get (D := G) (ci := 3) (v := .ref (ad (26))) (C := RX3) (T := TX3) (N := 19) hx hb hts hi3 hown hK hP 18 sl_aM rfl 12 (by decide) (hts _ mw_X3_reform_2) (fun _ h9 => h9) rfl dX3_reform_91 ?_
          refine lv_iload_n hx hb dX3_reform_94 rfl (lv_at hl 3 rfl) ?_
          refine sl_ldR 26 3 hx hb hK hP (by decide) (by decide) rfl hc dX3_reform_95 ?_
          refine lv_iload_n hx hb dX3_reform_96 rfl (lv_at hl 4 rfl) ?_
          refine lv_iconst (v := (-1 : Int32)) hx hb dX3_reform_97 (by decide) ?_
          refine lv_ixor hx hb dX3_reform_98 ?_
          refine lv_iand hx hb dX3_reform_99 ?_
          refine sl_stR 32 3 hx hb hK hD hP hS (by decide) (by decide) rfl hc dX3_reform_100 (fun H locs hP hS => ?_)
          refine lv_iload hx hb dX3_reform_101 (lv_at hl 0 rfl) ?_
          have e_q : (sp_X3_reform_in τ q a) = (((sp_X3_begin_in τ q (5 : Int32) (0 : Int32)).1), (sl_up (sp_X3_begin_in τ q (5 : Int32) (0 : Int32)).2 32 q.toNatClampNeg ((((sp_X3_begin_in τ q (5 : Int32) (0 : Int32)).2) 26 q.toNatClampNeg) &&& (a ^^^ (-1 : Int32))))) := by rw [sp_X3_reform_in, if_neg c_1, if_pos c_5, if_pos c_6, if_pos c_8]
          exact sl_iret hx hb hr hlocks hP hS (by rw [e_q]) rfl (by rw [e_q]) dX3_reform_103
    · refine lv_iconst (v := (1 : Int32)) hx hb dX3_reform_10 (by decide) ?_
      refine lv_goto (tgt := 15) hx hb dX3_reform_11 (by decide) ?_
      refine lv_istore_n (lv' := [(3, .int (1 : Int32)), (0, .ref (ad (18))), (1, .int q), (2, .int a)]) hx hb dX3_reform_15 rfl hl (by decide) rfl (fun ls hl => ?_)
      refine lv_iload_n hx hb dX3_reform_16 rfl (lv_at hl 2 rfl) ?_
      refine lv_if_lt (tgt := 71) hx hb dX3_reform_17 (by decide) (fun h9 => absurd h9 (sl_i0 hc)) (fun _ => ?_)
      refine lv_iload_n hx hb dX3_reform_20 rfl (lv_at hl 2 rfl) ?_
      refine lv_iconst (v := (2 : Int32)) hx hb dX3_reform_21 (by decide) ?_
      refine lv_icmp_gt (tgt := 71) hx hb dX3_reform_22 (by decide) (fun h9 => absurd h9 (sl_nl (sl_iL hc rfl))) (fun _ => ?_)
      refine lv_aload_n hx hb dX3_reform_25 rfl (lv_at hl 1 rfl) ?_
      refine va_get (D := G) (ci := 3) (v := .ref (ad (24))) (C := RX3) (T := TX3) (N := 19) hx hb hts hi3 hown hK hP 18 sl_aM rfl 10 (by decide) (hts _ mw_X3_reform_1) (fun _ h9 => h9) rfl dX3_reform_26 ?_
      refine lv_iload_n hx hb dX3_reform_29 rfl (lv_at hl 2 rfl) ?_
      refine sl_ldR 24 3 hx hb hK hP (by decide) (by decide) rfl hc dX3_reform_30 ?_
      refine lv_if_ne (tgt := 71) hx hb dX3_reform_31 (by decide) (fun c_9 => ?_) (fun c_9 => ?_)
      · refine lv_aload_n hx hb dX3_reform_71 rfl (lv_at hl 1 rfl) ?_
        refine lv_iload_n hx hb dX3_reform_72 rfl (lv_at hl 2 rfl) ?_
        refine lv_iconst (v := (5 : Int32)) hx hb dX3_reform_73 (by decide) ?_
        refine lv_iload_n hx hb dX3_reform_74 rfl (lv_at hl 0 rfl) ?_
        refine sl_cV (n := 3) (As := [.int q, .int (5 : Int32), .int (1 : Int32)]) (rest := []) ⟨hx, hb, hml, hown, hts⟩ (c_X3_begin_in l G cy ad σ τ q (5 : Int32) (1 : Int32) hc) gX3_reform_X3_begin rfl rfl rfl (by decide +kernel) ⟨Nat.le_of_ble_eq_true rfl, Nat.le_of_ble_eq_true rfl⟩ (va_recv hK hP (ci := 3) (q0 := 18) rfl sl_aM) rfl hl.1 rfl (Nat.le_of_ble_eq_true rfl) dX3_reform_75 ⟨Nat.zero_le _, Nat.zero_le _⟩ hK hN hD hP hS (fun H locs hP hS => ?_)
        refine W.eq (g2 := F0 m 78 ls [.int ((sp_X3_begin_in τ q (5 : Int32) (1 : Int32)).1)]) rfl ?_
        refine lv_istore (lv' := [(4, .int ((sp_X3_begin_in τ q (5 : Int32) (1 : Int32)).1)), (3, .int (1 : Int32)), (0, .ref (ad (18))), (1, .int q), (2, .int a)]) hx hb dX3_reform_78 hl (by decide) rfl (fun ls hl => ?_)
        refine lv_iload hx hb dX3_reform_80 (lv_at hl 0 rfl) ?_
        refine lv_if_ne (tgt := 101) hx hb dX3_reform_82 (by decide) (fun c_10 => ?_) (fun c_10 => ?_)
        · refine lv_iload hx hb dX3_reform_101 (lv_at hl 0 rfl) ?_
          have e_q : (sp_X3_reform_in τ q a) = (((sp_X3_begin_in τ q (5 : Int32) (1 : Int32)).1), (sp_X3_begin_in τ q (5 : Int32) (1 : Int32)).2) := by rw [sp_X3_reform_in, if_neg c_1, if_neg c_5, if_neg c_9, if_neg c_10]
          exact sl_iret hx hb hr hlocks hP hS (by rw [e_q]) rfl (by rw [e_q]) dX3_reform_103
        · refine lv_aload_n hx hb dX3_reform_85 rfl (lv_at hl 2 rfl) ?_
          refine va_get (D := G) (ci := 3) (v := .ref (ad (32))) (C := RX3) (T := TX3) (N := 19) hx hb hts hi3 hown hK hP 18 sl_aM rfl 18 (by decide) (hts _ mw_X3_reform_3) (fun _ h9 => h9) rfl dX3_reform_86 ?_
          refine lv_iload_n hx hb dX3_reform_89 rfl (lv_at hl 3 rfl) ?_
          refine lv_aload_n hx hb dX3_reform_90 rfl (lv_at hl 2 rfl) ?_
          refine va_get (D := G) (ci := 3) (v := .ref (ad (26))) (C := RX3) (T := TX3) (N := 19) hx hb hts hi3 hown hK hP 18 sl_aM rfl 12 (by decide) (hts _ mw_X3_reform_2) (fun _ h9 => h9) rfl dX3_reform_91 ?_
          refine lv_iload_n hx hb dX3_reform_94 rfl (lv_at hl 3 rfl) ?_
          refine sl_ldR 26 3 hx hb hK hP (by decide) (by decide) rfl hc dX3_reform_95 ?_
          refine lv_iload_n hx hb dX3_reform_96 rfl (lv_at hl 4 rfl) ?_
          refine lv_iconst (v := (-1 : Int32)) hx hb dX3_reform_97 (by decide) ?_
          refine lv_ixor hx hb dX3_reform_98 ?_
          refine lv_iand hx hb dX3_reform_99 ?_
          refine sl_stR 32 3 hx hb hK hD hP hS (by decide) (by decide) rfl hc dX3_reform_100 (fun H locs hP hS => ?_)
          refine lv_iload hx hb dX3_reform_101 (lv_at hl 0 rfl) ?_
          have e_q : (sp_X3_reform_in τ q a) = (((sp_X3_begin_in τ q (5 : Int32) (1 : Int32)).1), (sl_up (sp_X3_begin_in τ q (5 : Int32) (1 : Int32)).2 32 q.toNatClampNeg ((((sp_X3_begin_in τ q (5 : Int32) (1 : Int32)).2) 26 q.toNatClampNeg) &&& (a ^^^ (-1 : Int32))))) := by rw [sp_X3_reform_in, if_neg c_1, if_neg c_5, if_neg c_9, if_pos c_10]
          exact sl_iret hx hb hr hlocks hP hS (by rw [e_q]) rfl (by rw [e_q]) dX3_reform_103
      · refine lv_iload_n hx hb dX3_reform_34 rfl (lv_at hl 0 rfl) ?_
        refine lv_if_eq (tgt := 71) hx hb dX3_reform_35 (by decide) (fun h9 => absurd h9 (by decide)) (fun _ => ?_)
        refine lv_aload_n hx hb dX3_reform_38 rfl (lv_at hl 1 rfl) ?_
        refine va_get (D := G) (ci := 3) (v := .ref (ad (26))) (C := RX3) (T := TX3) (N := 19) hx hb hts hi3 hown hK hP 18 sl_aM rfl 12 (by decide) (hts _ mw_X3_reform_2) (fun _ h9 => h9) rfl dX3_reform_39 ?_
        refine lv_iload_n hx hb dX3_reform_42 rfl (lv_at hl 2 rfl) ?_
        refine sl_ldR 26 3 hx hb hK hP (by decide) (by decide) rfl hc dX3_reform_43 ?_
        refine lv_iload_n hx hb dX3_reform_44 rfl (lv_at hl 3 rfl) ?_
        refine lv_iconst (v := (-1 : Int32)) hx hb dX3_reform_45 (by decide) ?_
        refine lv_ixor hx hb dX3_reform_46 ?_
        refine lv_iand hx hb dX3_reform_47 ?_
        refine lv_istore (lv' := [(4, .int ((τ 26 q.toNatClampNeg) &&& (a ^^^ (-1 : Int32)))), (3, .int (1 : Int32)), (0, .ref (ad (18))), (1, .int q), (2, .int a)]) hx hb dX3_reform_48 hl (by decide) rfl (fun ls hl => ?_)
        refine lv_iload hx hb dX3_reform_50 (lv_at hl 0 rfl) ?_
        refine lv_iconst (v := (0 : Int32)) hx hb dX3_reform_52 (by decide) ?_
        refine sl_cS (n := 2) (As := [.int ((τ 26 q.toNatClampNeg) &&& (a ^^^ (-1 : Int32))), .int (0 : Int32)]) (rest := []) ⟨hx, hb, hml, hown, hts⟩ (c_X3_length l G cy ad σ τ ((τ 26 q.toNatClampNeg) &&& (a ^^^ (-1 : Int32))) (0 : Int32)) gX3_reform_X3_length rfl rfl rfl (by decide +kernel) ⟨Nat.le_of_ble_eq_true rfl, Nat.le_of_ble_eq_true rfl⟩ rfl hl.1 rfl (Nat.le_of_ble_eq_true rfl) dX3_reform_53 ⟨Nat.zero_le _, Nat.zero_le _⟩ hK hN hD hP hS (fun H locs hP hS => ?_)
        refine W.eq (g2 := F0 m 56 ls [.int (sp_X3_length ((τ 26 q.toNatClampNeg) &&& (a ^^^ (-1 : Int32))) (0 : Int32))]) rfl ?_
        refine lv_if_eq (tgt := 68) hx hb dX3_reform_56 (by decide) (fun c_11 => ?_) (fun c_11 => ?_)
        · refine lv_bipush (v := (-4 : Int32)) hx hb dX3_reform_68 (by decide) ?_
          have e_q : (sp_X3_reform_in τ q a) = ((-4 : Int32), τ) := by rw [sp_X3_reform_in, if_neg c_1, if_neg c_5, if_pos c_9, if_pos c_11]
          exact sl_iret hx hb hr hlocks hP hS (by rw [e_q]) rfl (by rw [e_q]) dX3_reform_70
        · refine lv_iload hx hb dX3_reform_59 (lv_at hl 0 rfl) ?_
          refine lv_iconst (v := (1 : Int32)) hx hb dX3_reform_61 (by decide) ?_
          refine sl_cS (n := 2) (As := [.int ((τ 26 q.toNatClampNeg) &&& (a ^^^ (-1 : Int32))), .int (1 : Int32)]) (rest := []) ⟨hx, hb, hml, hown, hts⟩ (c_X3_length l G cy ad σ τ ((τ 26 q.toNatClampNeg) &&& (a ^^^ (-1 : Int32))) (1 : Int32)) gX3_reform_X3_length rfl rfl rfl (by decide +kernel) ⟨Nat.le_of_ble_eq_true rfl, Nat.le_of_ble_eq_true rfl⟩ rfl hl.1 rfl (Nat.le_of_ble_eq_true rfl) dX3_reform_62 ⟨Nat.zero_le _, Nat.zero_le _⟩ hK hN hD hP hS (fun H locs hP hS => ?_)
          refine W.eq (g2 := F0 m 65 ls [.int (sp_X3_length ((τ 26 q.toNatClampNeg) &&& (a ^^^ (-1 : Int32))) (1 : Int32))]) rfl ?_
          refine lv_if_ne (tgt := 71) hx hb dX3_reform_65 (by decide) (fun c_12 => ?_) (fun c_12 => ?_)
          · refine lv_aload_n hx hb dX3_reform_71 rfl (lv_at hl 2 rfl) ?_
            refine lv_iload_n hx hb dX3_reform_72 rfl (lv_at hl 3 rfl) ?_
            refine lv_iconst (v := (5 : Int32)) hx hb dX3_reform_73 (by decide) ?_
            refine lv_iload_n hx hb dX3_reform_74 rfl (lv_at hl 1 rfl) ?_
            refine sl_cV (n := 3) (As := [.int q, .int (5 : Int32), .int (1 : Int32)]) (rest := []) ⟨hx, hb, hml, hown, hts⟩ (c_X3_begin_in l G cy ad σ τ q (5 : Int32) (1 : Int32) hc) gX3_reform_X3_begin rfl rfl rfl (by decide +kernel) ⟨Nat.le_of_ble_eq_true rfl, Nat.le_of_ble_eq_true rfl⟩ (va_recv hK hP (ci := 3) (q0 := 18) rfl sl_aM) rfl hl.1 rfl (Nat.le_of_ble_eq_true rfl) dX3_reform_75 ⟨Nat.zero_le _, Nat.zero_le _⟩ hK hN hD hP hS (fun H locs hP hS => ?_)
            refine W.eq (g2 := F0 m 78 ls [.int ((sp_X3_begin_in τ q (5 : Int32) (1 : Int32)).1)]) rfl ?_
            refine lv_istore (lv' := [(4, .int ((sp_X3_begin_in τ q (5 : Int32) (1 : Int32)).1)), (3, .int (1 : Int32)), (0, .ref (ad (18))), (1, .int q), (2, .int a)]) hx hb dX3_reform_78 hl (by decide) rfl (fun ls hl => ?_)
            refine lv_iload hx hb dX3_reform_80 (lv_at hl 0 rfl) ?_
            refine lv_if_ne (tgt := 101) hx hb dX3_reform_82 (by decide) (fun c_13 => ?_) (fun c_13 => ?_)
            · refine lv_iload hx hb dX3_reform_101 (lv_at hl 0 rfl) ?_
              have e_q : (sp_X3_reform_in τ q a) = (((sp_X3_begin_in τ q (5 : Int32) (1 : Int32)).1), (sp_X3_begin_in τ q (5 : Int32) (1 : Int32)).2) := by rw [sp_X3_reform_in, if_neg c_1, if_neg c_5, if_pos c_9, if_neg c_11, if_neg c_12, if_neg c_13]
              exact sl_iret hx hb hr hlocks hP hS (by rw [e_q]) rfl (by rw [e_q]) dX3_reform_103
            · refine lv_aload_n hx hb dX3_reform_85 rfl (lv_at hl 2 rfl) ?_
              refine va_get (D := G) (ci := 3) (v := .ref (ad (32))) (C := RX3) (T := TX3) (N := 19) hx hb hts hi3 hown hK hP 18 sl_aM rfl 18 (by decide) (hts _ mw_X3_reform_3) (fun _ h9 => h9) rfl dX3_reform_86 ?_
              refine lv_iload_n hx hb dX3_reform_89 rfl (lv_at hl 3 rfl) ?_
              refine lv_aload_n hx hb dX3_reform_90 rfl (lv_at hl 2 rfl) ?_
              refine va_get (D := G) (ci := 3) (v := .ref (ad (26))) (C := RX3) (T := TX3) (N := 19) hx hb hts hi3 hown hK hP 18 sl_aM rfl 12 (by decide) (hts _ mw_X3_reform_2) (fun _ h9 => h9) rfl dX3_reform_91 ?_
              refine lv_iload_n hx hb dX3_reform_94 rfl (lv_at hl 3 rfl) ?_
              refine sl_ldR 26 3 hx hb hK hP (by decide) (by decide) rfl hc dX3_reform_95 ?_
              refine lv_iload_n hx hb dX3_reform_96 rfl (lv_at hl 4 rfl) ?_
              refine lv_iconst (v := (-1 : Int32)) hx hb dX3_reform_97 (by decide) ?_
              refine lv_ixor hx hb dX3_reform_98 ?_
              refine lv_iand hx hb dX3_reform_99 ?_
              refine sl_stR 32 3 hx hb hK hD hP hS (by decide) (by decide) rfl hc dX3_reform_100 (fun H locs hP hS => ?_)
              refine lv_iload hx hb dX3_reform_101 (lv_at hl 0 rfl) ?_
              have e_q : (sp_X3_reform_in τ q a) = (((sp_X3_begin_in τ q (5 : Int32) (1 : Int32)).1), (sl_up (sp_X3_begin_in τ q (5 : Int32) (1 : Int32)).2 32 q.toNatClampNeg ((((sp_X3_begin_in τ q (5 : Int32) (1 : Int32)).2) 26 q.toNatClampNeg) &&& (a ^^^ (-1 : Int32))))) := by rw [sp_X3_reform_in, if_neg c_1, if_neg c_5, if_pos c_9, if_neg c_11, if_neg c_12, if_pos c_13]
              exact sl_iret hx hb hr hlocks hP hS (by rw [e_q]) rfl (by rw [e_q]) dX3_reform_103
          · refine lv_bipush (v := (-4 : Int32)) hx hb dX3_reform_68 (by decide) ?_
            have e_q : (sp_X3_reform_in τ q a) = ((-4 : Int32), τ) := by rw [sp_X3_reform_in, if_neg c_1, if_neg c_5, if_pos c_9, if_neg c_11, if_pos c_12]
            exact sl_iret hx hb hr hlocks hP hS (by rw [e_q]) rfl (by rw [e_q]) dX3_reform_70
def sp_X3_refresh_in (τ : sl_M) (q : Int32) : Int32 × sl_M := 
  if (τ 24 q.toNatClampNeg) = 0 then (((sl_up (sl_up τ 25 q.toNatClampNeg (τ 18 6)) 26 q.toNatClampNeg ((sl_up τ 25 q.toNatClampNeg (τ 18 6)) 18 7)) 18 6), (sl_up (sl_up τ 25 q.toNatClampNeg (τ 18 6)) 26 q.toNatClampNeg ((sl_up τ 25 q.toNatClampNeg (τ 18 6)) 18 7)))
  else ((-2 : Int32), τ)
set_option maxHeartbeats 4000000 in
set_option maxRecDepth 100000 in
theorem c_X3_refresh_in (l : Launch) (G : va_G) (cy : Nat → ClassId) (ad : Nat → Nat) (σ τ : sl_M) (q : Int32) (hc : vp_in q 3) : sl_C l G cy ad yX3_refresh wsX3_refresh ({ frames := 0, cells := 0, slots := 0, locals := 0 }) [.ref (ad (18)), .int q] σ τ (some (.int (sp_X3_refresh_in τ q).1)) σ (sp_X3_refresh_in τ q).2 := by
  refine sl_of (cc := cX3_refresh) (maxL := 2) (ret := (some .int)) (by decide) rfl (Nat.le_of_ble_eq_true rfl) ?_
  intro p e s m below meth c hx hb hr hml hts hown hlocks hK hN hD hP hS ls hl
  have hown : s.vm.findClass RX3 = some m.cls := hown
  have hl : lv_has ls 2 [(0, .ref (ad (18))), (1, .int q)] := hl
  have hi3 : ∀ w ∈ wsX30, w ∈ wsX3_refresh := fun _ h => (List.mem_cons_of_mem _ (List.mem_append_right _ h))
  refine lv_iload_n hx hb dX3_refresh_0 rfl (lv_at hl 1 rfl) ?_
  refine lv_if_lt (tgt := 9) hx hb dX3_refresh_1 (by decide) (fun h9 => absurd h9 (sl_i0 hc)) (fun _ => ?_)
  refine lv_iload_n hx hb dX3_refresh_4 rfl (lv_at hl 1 rfl) ?_
  refine lv_iconst (v := (2 : Int32)) hx hb dX3_refresh_5 (by decide) ?_
  refine lv_icmp_le (tgt := 11) hx hb dX3_refresh_6 (by decide) (fun _ => ?_) (fun h9 => absurd (sl_iL hc rfl) h9)
  refine lv_aload_n hx hb dX3_refresh_11 rfl (lv_at hl 0 rfl) ?_
  refine va_get (D := G) (ci := 3) (v := .ref (ad (24))) (C := RX3) (T := TX3) (N := 19) hx hb hts hi3 hown hK hP 18 sl_aM rfl 10 (by decide) (hts _ mw_X3_refresh_1) (fun _ h9 => h9) rfl dX3_refresh_12 ?_
  refine lv_iload_n hx hb dX3_refresh_15 rfl (lv_at hl 1 rfl) ?_
  refine sl_ldR 24 3 hx hb hK hP (by decide) (by decide) rfl hc dX3_refresh_16 ?_
  refine lv_if_eq (tgt := 23) hx hb dX3_refresh_17 (by decide) (fun c_1 => ?_) (fun c_1 => ?_)
  · refine lv_aload_n hx hb dX3_refresh_23 rfl (lv_at hl 0 rfl) ?_
    refine va_get (D := G) (ci := 3) (v := .ref (ad (25))) (C := RX3) (T := TX3) (N := 19) hx hb hts hi3 hown hK hP 18 sl_aM rfl 11 (by decide) (hts _ mw_X3_refresh_2) (fun _ h9 => h9) rfl dX3_refresh_24 ?_
    refine lv_iload_n hx hb dX3_refresh_27 rfl (lv_at hl 1 rfl) ?_
    refine lv_aload_n hx hb dX3_refresh_28 rfl (lv_at hl 0 rfl) ?_
    refine va_get (D := G) (ci := 3) (v := .int (τ 18 6)) (C := RX3) (T := TX3) (N := 19) hx hb hts hi3 hown hK hP 18 sl_aM rfl 6 (by decide) (hts _ mw_X3_refresh_3) (fun _ h9 => h9) rfl dX3_refresh_29 ?_
    refine sl_stR 25 3 hx hb hK hD hP hS (by decide) (by decide) rfl hc dX3_refresh_32 (fun H locs hP hS => ?_)
    refine lv_aload_n hx hb dX3_refresh_33 rfl (lv_at hl 0 rfl) ?_
    refine va_get (D := G) (ci := 3) (v := .ref (ad (26))) (C := RX3) (T := TX3) (N := 19) hx hb hts hi3 hown hK hP 18 sl_aM rfl 12 (by decide) (hts _ mw_X3_refresh_4) (fun _ h9 => h9) rfl dX3_refresh_34 ?_
    refine lv_iload_n hx hb dX3_refresh_37 rfl (lv_at hl 1 rfl) ?_
    refine lv_aload_n hx hb dX3_refresh_38 rfl (lv_at hl 0 rfl) ?_
    refine va_get (D := G) (ci := 3) (v := .int ((sl_up τ 25 q.toNatClampNeg (τ 18 6)) 18 7)) (C := RX3) (T := TX3) (N := 19) hx hb hts hi3 hown hK hP 18 sl_aM rfl 7 (by decide) (hts _ mw_X3_refresh_5) (fun _ h9 => h9) rfl dX3_refresh_39 ?_
    refine sl_stR 26 3 hx hb hK hD hP hS (by decide) (by decide) rfl hc dX3_refresh_42 (fun H locs hP hS => ?_)
    refine lv_aload_n hx hb dX3_refresh_43 rfl (lv_at hl 0 rfl) ?_
    refine va_get (D := G) (ci := 3) (v := .int ((sl_up (sl_up τ 25 q.toNatClampNeg (τ 18 6)) 26 q.toNatClampNeg ((sl_up τ 25 q.toNatClampNeg (τ 18 6)) 18 7)) 18 6)) (C := RX3) (T := TX3) (N := 19) hx hb hts hi3 hown hK hP 18 sl_aM rfl 6 (by decide) (hts _ mw_X3_refresh_3) (fun _ h9 => h9) rfl dX3_refresh_44 ?_
    have e_q : (sp_X3_refresh_in τ q) = (((sl_up (sl_up τ 25 q.toNatClampNeg (τ 18 6)) 26 q.toNatClampNeg ((sl_up τ 25 q.toNatClampNeg (τ 18 6)) 18 7)) 18 6), (sl_up (sl_up τ 25 q.toNatClampNeg (τ 18 6)) 26 q.toNatClampNeg ((sl_up τ 25 q.toNatClampNeg (τ 18 6)) 18 7))) := by rw [sp_X3_refresh_in, if_pos c_1]
    exact sl_iret hx hb hr hlocks hP hS (by rw [e_q]) rfl (by rw [e_q]) dX3_refresh_47
  · refine lv_bipush (v := (-2 : Int32)) hx hb dX3_refresh_20 (by decide) ?_
    have e_q : (sp_X3_refresh_in τ q) = ((-2 : Int32), τ) := by rw [sp_X3_refresh_in, if_neg c_1]
    exact sl_iret hx hb hr hlocks hP hS (by rw [e_q]) rfl (by rw [e_q]) dX3_refresh_22
def sp_X3_busy_in (τ : sl_M) (q : Int32) : Int32 := (τ 24 q.toNatClampNeg)
set_option maxHeartbeats 4000000 in
set_option maxRecDepth 100000 in
theorem c_X3_busy_in (l : Launch) (G : va_G) (cy : Nat → ClassId) (ad : Nat → Nat) (σ τ : sl_M) (q : Int32) (hc : vp_in q 3) : sl_C l G cy ad yX3_busy wsX3_busy ({ frames := 0, cells := 0, slots := 0, locals := 0 }) [.ref (ad (18)), .int q] σ τ (some (.int (sp_X3_busy_in τ q))) σ τ := by
  refine sl_of (cc := cX3_busy) (maxL := 2) (ret := (some .int)) (by decide) rfl (Nat.le_of_ble_eq_true rfl) ?_
  intro p e s m below meth c hx hb hr hml hts hown hlocks hK hN hD hP hS ls hl
  have hown : s.vm.findClass RX3 = some m.cls := hown
  have hl : lv_has ls 2 [(0, .ref (ad (18))), (1, .int q)] := hl
  have hi3 : ∀ w ∈ wsX30, w ∈ wsX3_busy := fun _ h => (List.mem_cons_of_mem _ (List.mem_append_right _ h))
  refine lv_iload_n hx hb dX3_busy_0 rfl (lv_at hl 1 rfl) ?_
  refine lv_if_lt (tgt := 9) hx hb dX3_busy_1 (by decide) (fun h9 => absurd h9 (sl_i0 hc)) (fun _ => ?_)
  refine lv_iload_n hx hb dX3_busy_4 rfl (lv_at hl 1 rfl) ?_
  refine lv_iconst (v := (2 : Int32)) hx hb dX3_busy_5 (by decide) ?_
  refine lv_icmp_le (tgt := 14) hx hb dX3_busy_6 (by decide) (fun _ => ?_) (fun h9 => absurd (sl_iL hc rfl) h9)
  refine lv_aload_n hx hb dX3_busy_14 rfl (lv_at hl 0 rfl) ?_
  refine va_get (D := G) (ci := 3) (v := .ref (ad (24))) (C := RX3) (T := TX3) (N := 19) hx hb hts hi3 hown hK hP 18 sl_aM rfl 10 (by decide) (hts _ mw_X3_busy_1) (fun _ h9 => h9) rfl dX3_busy_15 ?_
  refine lv_iload_n hx hb dX3_busy_18 rfl (lv_at hl 1 rfl) ?_
  refine sl_ldR 24 3 hx hb hK hP (by decide) (by decide) rfl hc dX3_busy_19 ?_
  have e_q : (sp_X3_busy_in τ q) = (τ 24 q.toNatClampNeg) := by rw [sp_X3_busy_in]
  exact sl_iret hx hb hr hlocks hP hS (by rw [e_q]) rfl rfl dX3_busy_20
def sp_X3_outcome_in (τ : sl_M) (q : Int32) : Int32 := (τ 27 q.toNatClampNeg)
set_option maxHeartbeats 4000000 in
set_option maxRecDepth 100000 in
theorem c_X3_outcome_in (l : Launch) (G : va_G) (cy : Nat → ClassId) (ad : Nat → Nat) (σ τ : sl_M) (q : Int32) (hc : vp_in q 3) : sl_C l G cy ad yX3_outcome wsX3_outcome ({ frames := 0, cells := 0, slots := 0, locals := 0 }) [.ref (ad (18)), .int q] σ τ (some (.int (sp_X3_outcome_in τ q))) σ τ := by
  refine sl_of (cc := cX3_outcome) (maxL := 2) (ret := (some .int)) (by decide) rfl (Nat.le_of_ble_eq_true rfl) ?_
  intro p e s m below meth c hx hb hr hml hts hown hlocks hK hN hD hP hS ls hl
  have hown : s.vm.findClass RX3 = some m.cls := hown
  have hl : lv_has ls 2 [(0, .ref (ad (18))), (1, .int q)] := hl
  have hi3 : ∀ w ∈ wsX30, w ∈ wsX3_outcome := fun _ h => (List.mem_cons_of_mem _ (List.mem_append_right _ h))
  refine lv_iload_n hx hb dX3_outcome_0 rfl (lv_at hl 1 rfl) ?_
  refine lv_if_lt (tgt := 9) hx hb dX3_outcome_1 (by decide) (fun h9 => absurd h9 (sl_i0 hc)) (fun _ => ?_)
  refine lv_iload_n hx hb dX3_outcome_4 rfl (lv_at hl 1 rfl) ?_
  refine lv_iconst (v := (2 : Int32)) hx hb dX3_outcome_5 (by decide) ?_
  refine lv_icmp_le (tgt := 14) hx hb dX3_outcome_6 (by decide) (fun _ => ?_) (fun h9 => absurd (sl_iL hc rfl) h9)
  refine lv_aload_n hx hb dX3_outcome_14 rfl (lv_at hl 0 rfl) ?_
  refine va_get (D := G) (ci := 3) (v := .ref (ad (27))) (C := RX3) (T := TX3) (N := 19) hx hb hts hi3 hown hK hP 18 sl_aM rfl 13 (by decide) (hts _ mw_X3_outcome_1) (fun _ h9 => h9) rfl dX3_outcome_15 ?_
  refine lv_iload_n hx hb dX3_outcome_18 rfl (lv_at hl 1 rfl) ?_
  refine sl_ldR 27 3 hx hb hK hP (by decide) (by decide) rfl hc dX3_outcome_19 ?_
  have e_q : (sp_X3_outcome_in τ q) = (τ 27 q.toNatClampNeg) := by rw [sp_X3_outcome_in]
  exact sl_iret hx hb hr hlocks hP hS (by rw [e_q]) rfl rfl dX3_outcome_20
def sp_X3_number_in (τ : sl_M) (q : Int32) : Int32 := (τ 28 q.toNatClampNeg)
set_option maxHeartbeats 4000000 in
set_option maxRecDepth 100000 in
theorem c_X3_number_in (l : Launch) (G : va_G) (cy : Nat → ClassId) (ad : Nat → Nat) (σ τ : sl_M) (q : Int32) (hc : vp_in q 3) : sl_C l G cy ad yX3_number wsX3_number ({ frames := 0, cells := 0, slots := 0, locals := 0 }) [.ref (ad (18)), .int q] σ τ (some (.int (sp_X3_number_in τ q))) σ τ := by
  refine sl_of (cc := cX3_number) (maxL := 2) (ret := (some .int)) (by decide) rfl (Nat.le_of_ble_eq_true rfl) ?_
  intro p e s m below meth c hx hb hr hml hts hown hlocks hK hN hD hP hS ls hl
  have hown : s.vm.findClass RX3 = some m.cls := hown
  have hl : lv_has ls 2 [(0, .ref (ad (18))), (1, .int q)] := hl
  have hi3 : ∀ w ∈ wsX30, w ∈ wsX3_number := fun _ h => (List.mem_cons_of_mem _ (List.mem_append_right _ h))
  refine lv_iload_n hx hb dX3_number_0 rfl (lv_at hl 1 rfl) ?_
  refine lv_if_lt (tgt := 9) hx hb dX3_number_1 (by decide) (fun h9 => absurd h9 (sl_i0 hc)) (fun _ => ?_)
  refine lv_iload_n hx hb dX3_number_4 rfl (lv_at hl 1 rfl) ?_
  refine lv_iconst (v := (2 : Int32)) hx hb dX3_number_5 (by decide) ?_
  refine lv_icmp_le (tgt := 14) hx hb dX3_number_6 (by decide) (fun _ => ?_) (fun h9 => absurd (sl_iL hc rfl) h9)
  refine lv_aload_n hx hb dX3_number_14 rfl (lv_at hl 0 rfl) ?_
  refine va_get (D := G) (ci := 3) (v := .ref (ad (28))) (C := RX3) (T := TX3) (N := 19) hx hb hts hi3 hown hK hP 18 sl_aM rfl 14 (by decide) (hts _ mw_X3_number_1) (fun _ h9 => h9) rfl dX3_number_15 ?_
  refine lv_iload_n hx hb dX3_number_18 rfl (lv_at hl 1 rfl) ?_
  refine sl_ldR 28 3 hx hb hK hP (by decide) (by decide) rfl hc dX3_number_19 ?_
  have e_q : (sp_X3_number_in τ q) = (τ 28 q.toNatClampNeg) := by rw [sp_X3_number_in]
  exact sl_iret hx hb hr hlocks hP hS (by rw [e_q]) rfl rfl dX3_number_20
def sp_X3_epochOf_in (τ : sl_M) (q : Int32) : Int32 := (τ 25 q.toNatClampNeg)
set_option maxHeartbeats 4000000 in
set_option maxRecDepth 100000 in
theorem c_X3_epochOf_in (l : Launch) (G : va_G) (cy : Nat → ClassId) (ad : Nat → Nat) (σ τ : sl_M) (q : Int32) (hc : vp_in q 3) : sl_C l G cy ad yX3_epochOf wsX3_epochOf ({ frames := 0, cells := 0, slots := 0, locals := 0 }) [.ref (ad (18)), .int q] σ τ (some (.int (sp_X3_epochOf_in τ q))) σ τ := by
  refine sl_of (cc := cX3_epochOf) (maxL := 2) (ret := (some .int)) (by decide) rfl (Nat.le_of_ble_eq_true rfl) ?_
  intro p e s m below meth c hx hb hr hml hts hown hlocks hK hN hD hP hS ls hl
  have hown : s.vm.findClass RX3 = some m.cls := hown
  have hl : lv_has ls 2 [(0, .ref (ad (18))), (1, .int q)] := hl
  have hi3 : ∀ w ∈ wsX30, w ∈ wsX3_epochOf := fun _ h => (List.mem_cons_of_mem _ (List.mem_append_right _ h))
  refine lv_iload_n hx hb dX3_epochOf_0 rfl (lv_at hl 1 rfl) ?_
  refine lv_if_lt (tgt := 9) hx hb dX3_epochOf_1 (by decide) (fun h9 => absurd h9 (sl_i0 hc)) (fun _ => ?_)
  refine lv_iload_n hx hb dX3_epochOf_4 rfl (lv_at hl 1 rfl) ?_
  refine lv_iconst (v := (2 : Int32)) hx hb dX3_epochOf_5 (by decide) ?_
  refine lv_icmp_le (tgt := 14) hx hb dX3_epochOf_6 (by decide) (fun _ => ?_) (fun h9 => absurd (sl_iL hc rfl) h9)
  refine lv_aload_n hx hb dX3_epochOf_14 rfl (lv_at hl 0 rfl) ?_
  refine va_get (D := G) (ci := 3) (v := .ref (ad (25))) (C := RX3) (T := TX3) (N := 19) hx hb hts hi3 hown hK hP 18 sl_aM rfl 11 (by decide) (hts _ mw_X3_epochOf_1) (fun _ h9 => h9) rfl dX3_epochOf_15 ?_
  refine lv_iload_n hx hb dX3_epochOf_18 rfl (lv_at hl 1 rfl) ?_
  refine sl_ldR 25 3 hx hb hK hP (by decide) (by decide) rfl hc dX3_epochOf_19 ?_
  have e_q : (sp_X3_epochOf_in τ q) = (τ 25 q.toNatClampNeg) := by rw [sp_X3_epochOf_in]
  exact sl_iret hx hb hr hlocks hP hS (by rw [e_q]) rfl rfl dX3_epochOf_20
def sp_X3_membersOf_in (τ : sl_M) (q : Int32) : Int32 := (τ 26 q.toNatClampNeg)
set_option maxHeartbeats 4000000 in
set_option maxRecDepth 100000 in
theorem c_X3_membersOf_in (l : Launch) (G : va_G) (cy : Nat → ClassId) (ad : Nat → Nat) (σ τ : sl_M) (q : Int32) (hc : vp_in q 3) : sl_C l G cy ad yX3_membersOf wsX3_membersOf ({ frames := 0, cells := 0, slots := 0, locals := 0 }) [.ref (ad (18)), .int q] σ τ (some (.int (sp_X3_membersOf_in τ q))) σ τ := by
  refine sl_of (cc := cX3_membersOf) (maxL := 2) (ret := (some .int)) (by decide) rfl (Nat.le_of_ble_eq_true rfl) ?_
  intro p e s m below meth c hx hb hr hml hts hown hlocks hK hN hD hP hS ls hl
  have hown : s.vm.findClass RX3 = some m.cls := hown
  have hl : lv_has ls 2 [(0, .ref (ad (18))), (1, .int q)] := hl
  have hi3 : ∀ w ∈ wsX30, w ∈ wsX3_membersOf := fun _ h => (List.mem_cons_of_mem _ (List.mem_append_right _ h))
  refine lv_iload_n hx hb dX3_membersOf_0 rfl (lv_at hl 1 rfl) ?_
  refine lv_if_lt (tgt := 9) hx hb dX3_membersOf_1 (by decide) (fun h9 => absurd h9 (sl_i0 hc)) (fun _ => ?_)
  refine lv_iload_n hx hb dX3_membersOf_4 rfl (lv_at hl 1 rfl) ?_
  refine lv_iconst (v := (2 : Int32)) hx hb dX3_membersOf_5 (by decide) ?_
  refine lv_icmp_le (tgt := 14) hx hb dX3_membersOf_6 (by decide) (fun _ => ?_) (fun h9 => absurd (sl_iL hc rfl) h9)
  refine lv_aload_n hx hb dX3_membersOf_14 rfl (lv_at hl 0 rfl) ?_
  refine va_get (D := G) (ci := 3) (v := .ref (ad (26))) (C := RX3) (T := TX3) (N := 19) hx hb hts hi3 hown hK hP 18 sl_aM rfl 12 (by decide) (hts _ mw_X3_membersOf_1) (fun _ h9 => h9) rfl dX3_membersOf_15 ?_
  refine lv_iload_n hx hb dX3_membersOf_18 rfl (lv_at hl 1 rfl) ?_
  refine sl_ldR 26 3 hx hb hK hP (by decide) (by decide) rfl hc dX3_membersOf_19 ?_
  have e_q : (sp_X3_membersOf_in τ q) = (τ 26 q.toNatClampNeg) := by rw [sp_X3_membersOf_in]
  exact sl_iret hx hb hr hlocks hP hS (by rw [e_q]) rfl rfl dX3_membersOf_20
def sp_X3_setUp_in (τ : sl_M) (u : Int32) (a : Int32) : Int32 × sl_M := 
  if a = 0 then ((1 : Int32), (sl_up τ 23 u.toNatClampNeg (1 : Int32)))
  else ((1 : Int32), (sl_up τ 23 u.toNatClampNeg (0 : Int32)))
set_option maxHeartbeats 4000000 in
set_option maxRecDepth 100000 in
theorem c_X3_setUp_in (l : Launch) (G : va_G) (cy : Nat → ClassId) (ad : Nat → Nat) (σ τ : sl_M) (u : Int32) (a : Int32) (hu : vp_in u 6) : sl_C l G cy ad yX3_setUp wsX3_setUp ({ frames := 0, cells := 0, slots := 0, locals := 0 }) [.ref (ad (18)), .int u, .int a] σ τ (some (.int (sp_X3_setUp_in τ u a).1)) σ (sp_X3_setUp_in τ u a).2 := by
  refine sl_of (cc := cX3_setUp) (maxL := 3) (ret := (some .boolean)) (by decide) rfl (Nat.le_of_ble_eq_true rfl) ?_
  intro p e s m below meth c hx hb hr hml hts hown hlocks hK hN hD hP hS ls hl
  have hown : s.vm.findClass RX3 = some m.cls := hown
  have hl : lv_has ls 3 [(0, .ref (ad (18))), (1, .int u), (2, .int a)] := hl
  have hi3 : ∀ w ∈ wsX30, w ∈ wsX3_setUp := fun _ h => (List.mem_cons_of_mem _ (List.mem_append_right _ h))
  refine lv_iload_n hx hb dX3_setUp_0 rfl (lv_at hl 1 rfl) ?_
  refine lv_if_lt (tgt := 9) hx hb dX3_setUp_1 (by decide) (fun h9 => absurd h9 (sl_i0 hu)) (fun _ => ?_)
  refine lv_iload_n hx hb dX3_setUp_4 rfl (lv_at hl 1 rfl) ?_
  refine lv_iconst (v := (5 : Int32)) hx hb dX3_setUp_5 (by decide) ?_
  refine lv_icmp_le (tgt := 11) hx hb dX3_setUp_6 (by decide) (fun _ => ?_) (fun h9 => absurd (sl_iL hu rfl) h9)
  refine lv_aload_n hx hb dX3_setUp_11 rfl (lv_at hl 0 rfl) ?_
  refine va_get (D := G) (ci := 3) (v := .ref (ad (23))) (C := RX3) (T := TX3) (N := 19) hx hb hts hi3 hown hK hP 18 sl_aM rfl 5 (by decide) (hts _ mw_X3_setUp_1) (fun _ h9 => h9) rfl dX3_setUp_12 ?_
  refine lv_iload_n hx hb dX3_setUp_15 rfl (lv_at hl 1 rfl) ?_
  refine lv_iload_n hx hb dX3_setUp_16 rfl (lv_at hl 2 rfl) ?_
  refine lv_if_eq (tgt := 24) hx hb dX3_setUp_17 (by decide) (fun c_1 => ?_) (fun c_1 => ?_)
  · refine lv_iconst (v := (1 : Int32)) hx hb dX3_setUp_24 (by decide) ?_
    refine sl_stR 23 6 hx hb hK hD hP hS (by decide) (by decide) rfl hu dX3_setUp_25 (fun H locs hP hS => ?_)
    refine lv_iconst (v := (1 : Int32)) hx hb dX3_setUp_26 (by decide) ?_
    have e_q : (sp_X3_setUp_in τ u a) = ((1 : Int32), (sl_up τ 23 u.toNatClampNeg (1 : Int32))) := by rw [sp_X3_setUp_in, if_pos c_1]
    exact sl_zret hx hb hr hlocks (by decide) hP hS (by rw [e_q]) rfl (by rw [e_q]) dX3_setUp_27
  · refine lv_iconst (v := (0 : Int32)) hx hb dX3_setUp_20 (by decide) ?_
    refine lv_goto (tgt := 25) hx hb dX3_setUp_21 (by decide) ?_
    refine sl_stR 23 6 hx hb hK hD hP hS (by decide) (by decide) rfl hu dX3_setUp_25 (fun H locs hP hS => ?_)
    refine lv_iconst (v := (1 : Int32)) hx hb dX3_setUp_26 (by decide) ?_
    have e_q : (sp_X3_setUp_in τ u a) = ((1 : Int32), (sl_up τ 23 u.toNatClampNeg (0 : Int32))) := by rw [sp_X3_setUp_in, if_neg c_1]
    exact sl_zret hx hb hr hlocks (by decide) hP hS (by rw [e_q]) rfl (by rw [e_q]) dX3_setUp_27
def sp_X3_loseSequencer (τ : sl_M) : sl_M := (sl_up τ 18 9 (0 : Int32))
set_option maxHeartbeats 4000000 in
set_option maxRecDepth 100000 in
theorem c_X3_loseSequencer (l : Launch) (G : va_G) (cy : Nat → ClassId) (ad : Nat → Nat) (σ τ : sl_M)  : sl_C l G cy ad yX3_loseSequencer wsX3_loseSequencer ({ frames := 0, cells := 0, slots := 0, locals := 0 }) [.ref (ad (18))] σ τ none σ (sp_X3_loseSequencer τ) := by
  refine sl_of (cc := cX3_loseSequencer) (maxL := 1) (ret := none) (by decide) rfl (Nat.le_of_ble_eq_true rfl) ?_
  intro p e s m below meth c hx hb hr hml hts hown hlocks hK hN hD hP hS ls hl
  have hown : s.vm.findClass RX3 = some m.cls := hown
  have hl : lv_has ls 1 [(0, .ref (ad (18)))] := hl
  have hi3 : ∀ w ∈ wsX30, w ∈ wsX3_loseSequencer := fun _ h => (List.mem_cons_of_mem _ (List.mem_append_right _ h))
  refine lv_aload_n hx hb dX3_loseSequencer_0 rfl (lv_at hl 0 rfl) ?_
  refine lv_iconst (v := (0 : Int32)) hx hb dX3_loseSequencer_1 (by decide) ?_
  refine sl_putM hx hb hts hi3 hown hK hD hP hS 9 (by decide) (by decide) rfl (tyX3_ok 9 (by decide)) (hts _ mw_X3_loseSequencer_1) dX3_loseSequencer_2 (fun H locs hP hS => ?_)
  have e_q : (sp_X3_loseSequencer τ) = (sl_up τ 18 9 (0 : Int32)) := by rw [sp_X3_loseSequencer]
  exact sl_vret hx hb hr hlocks hP hS rfl rfl (by rw [e_q]) dX3_loseSequencer_5
def sp_X3_tail (τ : sl_M) : Int32 := (τ 18 9)
set_option maxHeartbeats 4000000 in
set_option maxRecDepth 100000 in
theorem c_X3_tail (l : Launch) (G : va_G) (cy : Nat → ClassId) (ad : Nat → Nat) (σ τ : sl_M)  : sl_C l G cy ad yX3_tail wsX3_tail ({ frames := 0, cells := 0, slots := 0, locals := 0 }) [.ref (ad (18))] σ τ (some (.int (sp_X3_tail τ))) σ τ := by
  refine sl_of (cc := cX3_tail) (maxL := 1) (ret := (some .int)) (by decide) rfl (Nat.le_of_ble_eq_true rfl) ?_
  intro p e s m below meth c hx hb hr hml hts hown hlocks hK hN hD hP hS ls hl
  have hown : s.vm.findClass RX3 = some m.cls := hown
  have hl : lv_has ls 1 [(0, .ref (ad (18)))] := hl
  have hi3 : ∀ w ∈ wsX30, w ∈ wsX3_tail := fun _ h => (List.mem_cons_of_mem _ (List.mem_append_right _ h))
  refine lv_aload_n hx hb dX3_tail_0 rfl (lv_at hl 0 rfl) ?_
  refine va_get (D := G) (ci := 3) (v := .int (τ 18 9)) (C := RX3) (T := TX3) (N := 19) hx hb hts hi3 hown hK hP 18 sl_aM rfl 9 (by decide) (hts _ mw_X3_tail_1) (fun _ h9 => h9) rfl dX3_tail_1 ?_
  have e_q : (sp_X3_tail τ) = (τ 18 9) := by rw [sp_X3_tail]
  exact sl_iret hx hb hr hlocks hP hS (by rw [e_q]) rfl rfl dX3_tail_4
def sp_X3_unitEpoch_in (τ : sl_M) (u : Int32) : Int32 := (τ 22 u.toNatClampNeg)
set_option maxHeartbeats 4000000 in
set_option maxRecDepth 100000 in
theorem c_X3_unitEpoch_in (l : Launch) (G : va_G) (cy : Nat → ClassId) (ad : Nat → Nat) (σ τ : sl_M) (u : Int32) (hu : vp_in u 6) : sl_C l G cy ad yX3_unitEpoch wsX3_unitEpoch ({ frames := 0, cells := 0, slots := 0, locals := 0 }) [.ref (ad (18)), .int u] σ τ (some (.int (sp_X3_unitEpoch_in τ u))) σ τ := by
  refine sl_of (cc := cX3_unitEpoch) (maxL := 2) (ret := (some .int)) (by decide) rfl (Nat.le_of_ble_eq_true rfl) ?_
  intro p e s m below meth c hx hb hr hml hts hown hlocks hK hN hD hP hS ls hl
  have hown : s.vm.findClass RX3 = some m.cls := hown
  have hl : lv_has ls 2 [(0, .ref (ad (18))), (1, .int u)] := hl
  have hi3 : ∀ w ∈ wsX30, w ∈ wsX3_unitEpoch := fun _ h => (List.mem_cons_of_mem _ (List.mem_append_right _ h))
  refine lv_iload_n hx hb dX3_unitEpoch_0 rfl (lv_at hl 1 rfl) ?_
  refine lv_if_lt (tgt := 9) hx hb dX3_unitEpoch_1 (by decide) (fun h9 => absurd h9 (sl_i0 hu)) (fun _ => ?_)
  refine lv_iload_n hx hb dX3_unitEpoch_4 rfl (lv_at hl 1 rfl) ?_
  refine lv_iconst (v := (5 : Int32)) hx hb dX3_unitEpoch_5 (by decide) ?_
  refine lv_icmp_le (tgt := 14) hx hb dX3_unitEpoch_6 (by decide) (fun _ => ?_) (fun h9 => absurd (sl_iL hu rfl) h9)
  refine lv_aload_n hx hb dX3_unitEpoch_14 rfl (lv_at hl 0 rfl) ?_
  refine va_get (D := G) (ci := 3) (v := .ref (ad (22))) (C := RX3) (T := TX3) (N := 19) hx hb hts hi3 hown hK hP 18 sl_aM rfl 4 (by decide) (hts _ mw_X3_unitEpoch_1) (fun _ h9 => h9) rfl dX3_unitEpoch_15 ?_
  refine lv_iload_n hx hb dX3_unitEpoch_18 rfl (lv_at hl 1 rfl) ?_
  refine sl_ldR 22 6 hx hb hK hP (by decide) (by decide) rfl hu dX3_unitEpoch_19 ?_
  have e_q : (sp_X3_unitEpoch_in τ u) = (τ 22 u.toNatClampNeg) := by rw [sp_X3_unitEpoch_in]
  exact sl_iret hx hb hr hlocks hP hS (by rw [e_q]) rfl rfl dX3_unitEpoch_20
def sp_X3_cell_in (τ : sl_M) (u : Int32) (a : Int32) : Int32 := 
  if a < 0 then (-9 : Int32)
  else if a ≤ (31 : Int32) then (sp_X3_look τ u a)
  else (-9 : Int32)
set_option maxHeartbeats 4000000 in
set_option maxRecDepth 100000 in
theorem c_X3_cell_in (l : Launch) (G : va_G) (cy : Nat → ClassId) (ad : Nat → Nat) (σ τ : sl_M) (u : Int32) (a : Int32) (hu : vp_in u 6) (hr0 : 0 ≤ (τ 18 0).toInt) (hr1 : (τ 18 0).toInt ≤ 192) : sl_C l G cy ad yX3_cell wsX3_cell ({ frames := 1, cells := 0, slots := 0, locals := 23 }) [.ref (ad (18)), .int u, .int a] σ τ (some (.int (sp_X3_cell_in τ u a))) σ τ := by
  refine sl_of (cc := cX3_cell) (maxL := 3) (ret := (some .int)) (by decide) rfl (Nat.le_of_ble_eq_true rfl) ?_
  intro p e s m below meth c hx hb hr hml hts hown hlocks hK hN hD hP hS ls hl
  have hown : s.vm.findClass RX3 = some m.cls := hown
  have hl : lv_has ls 3 [(0, .ref (ad (18))), (1, .int u), (2, .int a)] := hl
  refine lv_iload_n hx hb dX3_cell_0 rfl (lv_at hl 1 rfl) ?_
  refine lv_if_lt (tgt := 19) hx hb dX3_cell_1 (by decide) (fun h9 => absurd h9 (sl_i0 hu)) (fun _ => ?_)
  refine lv_iload_n hx hb dX3_cell_4 rfl (lv_at hl 1 rfl) ?_
  refine lv_iconst (v := (5 : Int32)) hx hb dX3_cell_5 (by decide) ?_
  refine lv_icmp_gt (tgt := 19) hx hb dX3_cell_6 (by decide) (fun h9 => absurd h9 (sl_nl (sl_iL hu rfl))) (fun _ => ?_)
  refine lv_iload_n hx hb dX3_cell_9 rfl (lv_at hl 2 rfl) ?_
  refine lv_if_lt (tgt := 19) hx hb dX3_cell_10 (by decide) (fun c_1 => ?_) (fun c_1 => ?_)
  · refine lv_bipush (v := (-9 : Int32)) hx hb dX3_cell_19 (by decide) ?_
    refine lv_goto (tgt := 30) hx hb dX3_cell_21 (by decide) ?_
    have e_q : (sp_X3_cell_in τ u a) = (-9 : Int32) := by rw [sp_X3_cell_in, if_pos c_1]
    exact sl_iret hx hb hr hlocks hP hS (by rw [e_q]) rfl rfl dX3_cell_30
  · refine lv_iload_n hx hb dX3_cell_13 rfl (lv_at hl 2 rfl) ?_
    refine lv_bipush (v := (31 : Int32)) hx hb dX3_cell_14 (by decide) ?_
    refine lv_icmp_le (tgt := 24) hx hb dX3_cell_16 (by decide) (fun c_2 => ?_) (fun c_2 => ?_)
    · refine lv_aload_n hx hb dX3_cell_24 rfl (lv_at hl 0 rfl) ?_
      refine lv_iload_n hx hb dX3_cell_25 rfl (lv_at hl 1 rfl) ?_
      refine lv_iload_n hx hb dX3_cell_26 rfl (lv_at hl 2 rfl) ?_
      refine sl_cV (n := 2) (As := [.int u, .int a]) (rest := []) ⟨hx, hb, hml, hown, hts⟩ (c_X3_look l G cy ad σ τ u a hr0 hr1) gX3_cell_X3_look rfl rfl rfl (by decide +kernel) ⟨Nat.le_of_ble_eq_true rfl, Nat.le_of_ble_eq_true rfl⟩ (va_recv hK hP (ci := 3) (q0 := 18) rfl sl_aM) rfl hl.1 rfl (Nat.le_of_ble_eq_true rfl) dX3_cell_27 ⟨Nat.zero_le _, Nat.zero_le _⟩ hK hN hD hP hS (fun H locs hP hS => ?_)
      refine W.eq (g2 := F0 m 30 ls [.int (sp_X3_look τ u a)]) rfl ?_
      have e_q : (sp_X3_cell_in τ u a) = (sp_X3_look τ u a) := by rw [sp_X3_cell_in, if_neg c_1, if_pos c_2]
      exact sl_iret hx hb hr hlocks hP hS (by rw [e_q]) rfl rfl dX3_cell_30
    · refine lv_bipush (v := (-9 : Int32)) hx hb dX3_cell_19 (by decide) ?_
      refine lv_goto (tgt := 30) hx hb dX3_cell_21 (by decide) ?_
      have e_q : (sp_X3_cell_in τ u a) = (-9 : Int32) := by rw [sp_X3_cell_in, if_neg c_1, if_neg c_2]
      exact sl_iret hx hb hr hlocks hP hS (by rw [e_q]) rfl rfl dX3_cell_30
