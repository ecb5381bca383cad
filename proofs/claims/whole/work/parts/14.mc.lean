theorem sl_nb {x b : Int32} {n : Nat} (h : ¬ vp_in x n) (h0 : ¬ x < 0) (hb : b.toInt + 1 = n) : ¬ x ≤ b := by
  intro q
  refine h (vp_in_iff.mpr ⟨?_, ?_⟩)
  · have a1 := Int32.le_iff_toInt_le.mp (Int32.not_lt.mp h0)
    have a3 : (0 : Int32).toInt = 0 := rfl
    omega
  · have := Int32.le_iff_toInt_le.mp q
    omega
set_option maxHeartbeats 4000000 in
set_option maxRecDepth 100000 in
theorem c_X3_append_neg (l : Launch) (G : va_G) (cy : Nat → ClassId) (ad : Nat → Nat) (σ τ : sl_M) (q : Int32) (a : Int32) (hq : q < 0) : sl_C l G cy ad yX3_append wsX3_append ({ frames := 1, cells := 0, slots := 0, locals := 23 }) [.ref (ad (18)), .int q, .int a] σ τ (some (.int (-1 : Int32))) σ τ := by
  refine sl_of (cc := cX3_append) (maxL := 4) (ret := (some .int)) (by decide) rfl (Nat.le_of_ble_eq_true rfl) ?_
  intro p e s m below meth c hx hb hr hml hts hown hlocks hK hN hD hP hS ls hl
  have hown : s.vm.findClass RX3 = some m.cls := hown
  have hl : lv_has ls 4 [(0, .ref (ad (18))), (1, .int q), (2, .int a)] := hl
  refine lv_aload_n hx hb dX3_append_0 rfl (lv_at hl 0 rfl) ?_
  refine lv_iload_n hx hb dX3_append_1 rfl (lv_at hl 1 rfl) ?_
  refine lv_iconst (v := (1 : Int32)) hx hb dX3_append_2 (by decide) ?_
  refine lv_iload_n hx hb dX3_append_3 rfl (lv_at hl 2 rfl) ?_
  refine lv_if_lt (tgt := 17) hx hb dX3_append_4 (by decide) (fun c_1 => ?_) (fun c_1 => ?_)
  · refine lv_iconst (v := (0 : Int32)) hx hb dX3_append_17 (by decide) ?_
    refine sl_cV (n := 3) (As := [.int q, .int (1 : Int32), .int (0 : Int32)]) (rest := []) ⟨hx, hb, hml, hown, hts⟩ (c_X3_begin_neg l G cy ad σ τ q (1 : Int32) (0 : Int32) hq) gX3_append_X3_begin rfl rfl rfl (by decide +kernel) ⟨Nat.le_of_ble_eq_true rfl, Nat.le_of_ble_eq_true rfl⟩ (va_recv hK hP (ci := 3) (q0 := 18) rfl sl_aM) rfl hl.1 rfl (Nat.le_of_ble_eq_true rfl) dX3_append_18 ⟨Nat.zero_le _, Nat.zero_le _⟩ hK hN hD hP hS (fun H locs hP hS => ?_)
    refine W.eq (g2 := F0 m 21 ls [.int (-1 : Int32)]) rfl ?_
    refine lv_istore_n (lv' := [(3, .int (-1 : Int32)), (0, .ref (ad (18))), (1, .int q), (2, .int a)]) hx hb dX3_append_21 rfl hl (by decide) rfl (fun ls hl => ?_)
    refine lv_iload_n hx hb dX3_append_22 rfl (lv_at hl 0 rfl) ?_
    refine lv_if_ne (tgt := 40) hx hb dX3_append_23 (by decide) (fun _ => ?_) (fun h9 => absurd h9 (by decide))
    refine lv_iload_n hx hb dX3_append_40 rfl (lv_at hl 0 rfl) ?_
    exact sl_iret hx hb hr hlocks hP hS rfl rfl rfl dX3_append_41
  · refine lv_iload_n hx hb dX3_append_7 rfl (lv_at hl 2 rfl) ?_
    refine lv_ldc hx hb hown (hts _ mw_X3_append_1) dX3_append_8 ?_
    refine lv_icmp_gt (tgt := 17) hx hb dX3_append_10 (by decide) (fun c_2 => ?_) (fun c_2 => ?_)
    · refine lv_iconst (v := (0 : Int32)) hx hb dX3_append_17 (by decide) ?_
      refine sl_cV (n := 3) (As := [.int q, .int (1 : Int32), .int (0 : Int32)]) (rest := []) ⟨hx, hb, hml, hown, hts⟩ (c_X3_begin_neg l G cy ad σ τ q (1 : Int32) (0 : Int32) hq) gX3_append_X3_begin rfl rfl rfl (by decide +kernel) ⟨Nat.le_of_ble_eq_true rfl, Nat.le_of_ble_eq_true rfl⟩ (va_recv hK hP (ci := 3) (q0 := 18) rfl sl_aM) rfl hl.1 rfl (Nat.le_of_ble_eq_true rfl) dX3_append_18 ⟨Nat.zero_le _, Nat.zero_le _⟩ hK hN hD hP hS (fun H locs hP hS => ?_)
      refine W.eq (g2 := F0 m 21 ls [.int (-1 : Int32)]) rfl ?_
      refine lv_istore_n (lv' := [(3, .int (-1 : Int32)), (0, .ref (ad (18))), (1, .int q), (2, .int a)]) hx hb dX3_append_21 rfl hl (by decide) rfl (fun ls hl => ?_)
      refine lv_iload_n hx hb dX3_append_22 rfl (lv_at hl 0 rfl) ?_
      refine lv_if_ne (tgt := 40) hx hb dX3_append_23 (by decide) (fun _ => ?_) (fun h9 => absurd h9 (by decide))
      refine lv_iload_n hx hb dX3_append_40 rfl (lv_at hl 0 rfl) ?_
      exact sl_iret hx hb hr hlocks hP hS rfl rfl rfl dX3_append_41
    · refine lv_iconst (v := (1 : Int32)) hx hb dX3_append_13 (by decide) ?_
      refine lv_goto (tgt := 18) hx hb dX3_append_14 (by decide) ?_
      refine sl_cV (n := 3) (As := [.int q, .int (1 : Int32), .int (1 : Int32)]) (rest := []) ⟨hx, hb, hml, hown, hts⟩ (c_X3_begin_neg l G cy ad σ τ q (1 : Int32) (1 : Int32) hq) gX3_append_X3_begin rfl rfl rfl (by decide +kernel) ⟨Nat.le_of_ble_eq_true rfl, Nat.le_of_ble_eq_true rfl⟩ (va_recv hK hP (ci := 3) (q0 := 18) rfl sl_aM) rfl hl.1 rfl (Nat.le_of_ble_eq_true rfl) dX3_append_18 ⟨Nat.zero_le _, Nat.zero_le _⟩ hK hN hD hP hS (fun H locs hP hS => ?_)
      refine W.eq (g2 := F0 m 21 ls [.int (-1 : Int32)]) rfl ?_
      refine lv_istore_n (lv' := [(3, .int (-1 : Int32)), (0, .ref (ad (18))), (1, .int q), (2, .int a)]) hx hb dX3_append_21 rfl hl (by decide) rfl (fun ls hl => ?_)
      refine lv_iload_n hx hb dX3_append_22 rfl (lv_at hl 0 rfl) ?_
      refine lv_if_ne (tgt := 40) hx hb dX3_append_23 (by decide) (fun _ => ?_) (fun h9 => absurd h9 (by decide))
      refine lv_iload_n hx hb dX3_append_40 rfl (lv_at hl 0 rfl) ?_
      exact sl_iret hx hb hr hlocks hP hS rfl rfl rfl dX3_append_41
set_option maxHeartbeats 4000000 in
set_option maxRecDepth 100000 in
theorem c_X3_append_big (l : Launch) (G : va_G) (cy : Nat → ClassId) (ad : Nat → Nat) (σ τ : sl_M) (q : Int32) (a : Int32) (hq : ¬ q < 0) (hq2 : ¬ q ≤ (2 : Int32)) : sl_C l G cy ad yX3_append wsX3_append ({ frames := 1, cells := 0, slots := 0, locals := 23 }) [.ref (ad (18)), .int q, .int a] σ τ (some (.int (-1 : Int32))) σ τ := by
  refine sl_of (cc := cX3_append) (maxL := 4) (ret := (some .int)) (by decide) rfl (Nat.le_of_ble_eq_true rfl) ?_
  intro p e s m below meth c hx hb hr hml hts hown hlocks hK hN hD hP hS ls hl
  have hown : s.vm.findClass RX3 = some m.cls := hown
  have hl : lv_has ls 4 [(0, .ref (ad (18))), (1, .int q), (2, .int a)] := hl
  refine lv_aload_n hx hb dX3_append_0 rfl (lv_at hl 0 rfl) ?_
  refine lv_iload_n hx hb dX3_append_1 rfl (lv_at hl 1 rfl) ?_
  refine lv_iconst (v := (1 : Int32)) hx hb dX3_append_2 (by decide) ?_
  refine lv_iload_n hx hb dX3_append_3 rfl (lv_at hl 2 rfl) ?_
  refine lv_if_lt (tgt := 17) hx hb dX3_append_4 (by decide) (fun c_1 => ?_) (fun c_1 => ?_)
  · refine lv_iconst (v := (0 : Int32)) hx hb dX3_append_17 (by decide) ?_
    refine sl_cV (n := 3) (As := [.int q, .int (1 : Int32), .int (0 : Int32)]) (rest := []) ⟨hx, hb, hml, hown, hts⟩ (c_X3_begin_big l G cy ad σ τ q (1 : Int32) (0 : Int32) hq hq2) gX3_append_X3_begin rfl rfl rfl (by decide +kernel) ⟨Nat.le_of_ble_eq_true rfl, Nat.le_of_ble_eq_true rfl⟩ (va_recv hK hP (ci := 3) (q0 := 18) rfl sl_aM) rfl hl.1 rfl (Nat.le_of_ble_eq_true rfl) dX3_append_18 ⟨Nat.zero_le _, Nat.zero_le _⟩ hK hN hD hP hS (fun H locs hP hS => ?_)
    refine W.eq (g2 := F0 m 21 ls [.int (-1 : Int32)]) rfl ?_
    refine lv_istore_n (lv' := [(3, .int (-1 : Int32)), (0, .ref (ad (18))), (1, .int q), (2, .int a)]) hx hb dX3_append_21 rfl hl (by decide) rfl (fun ls hl => ?_)
    refine lv_iload_n hx hb dX3_append_22 rfl (lv_at hl 0 rfl) ?_
    refine lv_if_ne (tgt := 40) hx hb dX3_append_23 (by decide) (fun _ => ?_) (fun h9 => absurd h9 (by decide))
    refine lv_iload_n hx hb dX3_append_40 rfl (lv_at hl 0 rfl) ?_
    exact sl_iret hx hb hr hlocks hP hS rfl rfl rfl dX3_append_41
  · refine lv_iload_n hx hb dX3_append_7 rfl (lv_at hl 2 rfl) ?_
    refine lv_ldc hx hb hown (hts _ mw_X3_append_1) dX3_append_8 ?_
    refine lv_icmp_gt (tgt := 17) hx hb dX3_append_10 (by decide) (fun c_2 => ?_) (fun c_2 => ?_)
    · refine lv_iconst (v := (0 : Int32)) hx hb dX3_append_17 (by decide) ?_
      refine sl_cV (n := 3) (As := [.int q, .int (1 : Int32), .int (0 : Int32)]) (rest := []) ⟨hx, hb, hml, hown, hts⟩ (c_X3_begin_big l G cy ad σ τ q (1 : Int32) (0 : Int32) hq hq2) gX3_append_X3_begin rfl rfl rfl (by decide +kernel) ⟨Nat.le_of_ble_eq_true rfl, Nat.le_of_ble_eq_true rfl⟩ (va_recv hK hP (ci := 3) (q0 := 18) rfl sl_aM) rfl hl.1 rfl (Nat.le_of_ble_eq_true rfl) dX3_append_18 ⟨Nat.zero_le _, Nat.zero_le _⟩ hK hN hD hP hS (fun H locs hP hS => ?_)
      refine W.eq (g2 := F0 m 21 ls [.int (-1 : Int32)]) rfl ?_
      refine lv_istore_n (lv' := [(3, .int (-1 : Int32)), (0, .ref (ad (18))), (1, .int q), (2, .int a)]) hx hb dX3_append_21 rfl hl (by decide) rfl (fun ls hl => ?_)
      refine lv_iload_n hx hb dX3_append_22 rfl (lv_at hl 0 rfl) ?_
      refine lv_if_ne (tgt := 40) hx hb dX3_append_23 (by decide) (fun _ => ?_) (fun h9 => absurd h9 (by decide))
      refine lv_iload_n hx hb dX3_append_40 rfl (lv_at hl 0 rfl) ?_
      exact sl_iret hx hb hr hlocks hP hS rfl rfl rfl dX3_append_41
    · refine lv_iconst (v := (1 : Int32)) hx hb dX3_append_13 (by decide) ?_
      refine lv_goto (tgt := 18) hx hb dX3_append_14 (by decide) ?_
      refine sl_cV (n := 3) (As := [.int q, .int (1 : Int32), .int (1 : Int32)]) (rest := []) ⟨hx, hb, hml, hown, hts⟩ (c_X3_begin_big l G cy ad σ τ q (1 : Int32) (1 : Int32) hq hq2) gX3_append_X3_begin rfl rfl rfl (by decide +kernel) ⟨Nat.le_of_ble_eq_true rfl, Nat.le_of_ble_eq_true rfl⟩ (va_recv hK hP (ci := 3) (q0 := 18) rfl sl_aM) rfl hl.1 rfl (Nat.le_of_ble_eq_true rfl) dX3_append_18 ⟨Nat.zero_le _, Nat.zero_le _⟩ hK hN hD hP hS (fun H locs hP hS => ?_)
      refine W.eq (g2 := F0 m 21 ls [.int (-1 : Int32)]) rfl ?_
      refine lv_istore_n (lv' := [(3, .int (-1 : Int32)), (0, .ref (ad (18))), (1, .int q), (2, .int a)]) hx hb dX3_append_21 rfl hl (by decide) rfl (fun ls hl => ?_)
      refine lv_iload_n hx hb dX3_append_22 rfl (lv_at hl 0 rfl) ?_
      refine lv_if_ne (tgt := 40) hx hb dX3_append_23 (by decide) (fun _ => ?_) (fun h9 => absurd h9 (by decide))
      refine lv_iload_n hx hb dX3_append_40 rfl (lv_at hl 0 rfl) ?_
      exact sl_iret hx hb hr hlocks hP hS rfl rfl rfl dX3_append_41
theorem c_X3_append_out (l : Launch) (G : va_G) (cy : Nat → ClassId) (ad : Nat → Nat) (σ τ : sl_M) (q : Int32) (a : Int32) (ho : ¬ vp_in q 3) : sl_C l G cy ad yX3_append wsX3_append ({ frames := 1, cells := 0, slots := 0, locals := 23 }) [.ref (ad (18)), .int q, .int a] σ τ (some (.int (-1 : Int32))) σ τ := by
  by_cases h : q < 0
  · exact c_X3_append_neg l G cy ad σ τ q a h
  · exact c_X3_append_big l G cy ad σ τ q a h (sl_nb ho h rfl)
set_option maxHeartbeats 4000000 in
set_option maxRecDepth 100000 in
theorem c_X3_fill_neg (l : Launch) (G : va_G) (cy : Nat → ClassId) (ad : Nat → Nat) (σ τ : sl_M) (q : Int32) (a : Int32) (hq : q < 0) : sl_C l G cy ad yX3_fill wsX3_fill ({ frames := 1, cells := 0, slots := 0, locals := 23 }) [.ref (ad (18)), .int q, .int a] σ τ (some (.int (-1 : Int32))) σ τ := by
  refine sl_of (cc := cX3_fill) (maxL := 4) (ret := (some .int)) (by decide) rfl (Nat.le_of_ble_eq_true rfl) ?_
  intro p e s m below meth c hx hb hr hml hts hown hlocks hK hN hD hP hS ls hl
  have hown : s.vm.findClass RX3 = some m.cls := hown
  have hl : lv_has ls 4 [(0, .ref (ad (18))), (1, .int q), (2, .int a)] := hl
  refine lv_aload_n hx hb dX3_fill_0 rfl (lv_at hl 0 rfl) ?_
  refine lv_iload_n hx hb dX3_fill_1 rfl (lv_at hl 1 rfl) ?_
  refine lv_iconst (v := (2 : Int32)) hx hb dX3_fill_2 (by decide) ?_
  refine lv_iload_n hx hb dX3_fill_3 rfl (lv_at hl 2 rfl) ?_
  refine lv_if_lt (tgt := 17) hx hb dX3_fill_4 (by decide) (fun c_1 => ?_) (fun c_1 => ?_)
  · refine lv_iconst (v := (0 : Int32)) hx hb dX3_fill_17 (by decide) ?_
    refine sl_cV (n := 3) (As := [.int q, .int (2 : Int32), .int (0 : Int32)]) (rest := []) ⟨hx, hb, hml, hown, hts⟩ (c_X3_begin_neg l G cy ad σ τ q (2 : Int32) (0 : Int32) hq) gX3_fill_X3_begin rfl rfl rfl (by decide +kernel) ⟨Nat.le_of_ble_eq_true rfl, Nat.le_of_ble_eq_true rfl⟩ (va_recv hK hP (ci := 3) (q0 := 18) rfl sl_aM) rfl hl.1 rfl (Nat.le_of_ble_eq_true rfl) dX3_fill_18 ⟨Nat.zero_le _, Nat.zero_le _⟩ hK hN hD hP hS (fun H locs hP hS => ?_)
    refine W.eq (g2 := F0 m 21 ls [.int (-1 : Int32)]) rfl ?_
    refine lv_istore_n (lv' := [(3, .int (-1 : Int32)), (0, .ref (ad (18))), (1, .int q), (2, .int a)]) hx hb dX3_fill_21 rfl hl (by decide) rfl (fun ls hl => ?_)
    refine lv_iload_n hx hb dX3_fill_22 rfl (lv_at hl 0 rfl) ?_
    refine lv_if_ne (tgt := 33) hx hb dX3_fill_23 (by decide) (fun _ => ?_) (fun h9 => absurd h9 (by decide))
    refine lv_iload_n hx hb dX3_fill_33 rfl (lv_at hl 0 rfl) ?_
    exact sl_iret hx hb hr hlocks hP hS rfl rfl rfl dX3_fill_34
  · refine lv_iload_n hx hb dX3_fill_7 rfl (lv_at hl 2 rfl) ?_
    refine lv_bipush (v := (31 : Int32)) hx hb dX3_fill_8 (by decide) ?_
    refine lv_icmp_gt (tgt := 17) hx hb dX3_fill_10 (by decide) (fun c_2 => ?_) (fun c_2 => ?_)
    · refine lv_iconst (v := (0 : Int32)) hx hb dX3_fill_17 (by decide) ?_
      refine sl_cV (n := 3) (As := [.int q, .int (2 : Int32), .int (0 : Int32)]) (rest := []) ⟨hx, hb, hml, hown, hts⟩ (c_X3_begin_neg l G cy ad σ τ q (2 : Int32) (0 : Int32) hq) gX3_fill_X3_begin rfl rfl rfl (by decide +kernel) ⟨Nat.le_of_ble_eq_true rfl, Nat.le_of_ble_eq_true rfl⟩ (va_recv hK hP (ci := 3) (q0 := 18) rfl sl_aM) rfl hl.1 rfl (Nat.le_of_ble_eq_true rfl) dX3_fill_18 ⟨Nat.zero_le _, Nat.zero_le _⟩ hK hN hD hP hS (fun H locs hP hS => ?_)
      refine W.eq (g2 := F0 m 21 ls [.int (-1 : Int32)]) rfl ?_
      refine lv_istore_n (lv' := [(3, .int (-1 : Int32)), (0, .ref (ad (18))), (1, .int q), (2, .int a)]) hx hb dX3_fill_21 rfl hl (by decide) rfl (fun ls hl => ?_)
      refine lv_iload_n hx hb dX3_fill_22 rfl (lv_at hl 0 rfl) ?_
      refine lv_if_ne (tgt := 33) hx hb dX3_fill_23 (by decide) (fun _ => ?_) (fun h9 => absurd h9 (by decide))
      refine lv_iload_n hx hb dX3_fill_33 rfl (lv_at hl 0 rfl) ?_
      exact sl_iret hx hb hr hlocks hP hS rfl rfl rfl dX3_fill_34
    · refine lv_iconst (v := (1 : Int32)) hx hb dX3_fill_13 (by decide) ?_
      refine lv_goto (tgt := 18) hx hb dX3_fill_14 (by decide) ?_
      refine sl_cV (n := 3) (As := [.int q, .int (2 : Int32), .int (1 : Int32)]) (rest := []) ⟨hx, hb, hml, hown, hts⟩ (c_X3_begin_neg l G cy ad σ τ q (2 : Int32) (1 : Int32) hq) gX3_fill_X3_begin rfl rfl rfl (by decide +kernel) ⟨Nat.le_of_ble_eq_true rfl, Nat.le_of_ble_eq_true rfl⟩ (va_recv hK hP (ci := 3) (q0 := 18) rfl sl_aM) rfl hl.1 rfl (Nat.le_of_ble_eq_true rfl) dX3_fill_18 ⟨Nat.zero_le _, Nat.zero_le _⟩ hK hN hD hP hS (fun H locs hP hS => ?_)
      refine W.eq (g2 := F0 m 21 ls [.int (-1 : Int32)]) rfl ?_
      refine lv_istore_n (lv' := [(3, .int (-1 : Int32)), (0, .ref (ad (18))), (1, .int q), (2, .int a)]) hx hb dX3_fill_21 rfl hl (by decide) rfl (fun ls hl => ?_)
      refine lv_iload_n hx hb dX3_fill_22 rfl (lv_at hl 0 rfl) ?_
      refine lv_if_ne (tgt := 33) hx hb dX3_fill_23 (by decide) (fun _ => ?_) (fun h9 => absurd h9 (by decide))
      refine lv_iload_n hx hb dX3_fill_33 rfl (lv_at hl 0 rfl) ?_
      exact sl_iret hx hb hr hlocks hP hS rfl rfl rfl dX3_fill_34
set_option maxHeartbeats 4000000 in
set_option maxRecDepth 100000 in
theorem c_X3_fill_big (l : Launch) (G : va_G) (cy : Nat → ClassId) (ad : Nat → Nat) (σ τ : sl_M) (q : Int32) (a : Int32) (hq : ¬ q < 0) (hq2 : ¬ q ≤ (2 : Int32)) : sl_C l G cy ad yX3_fill wsX3_fill ({ frames := 1, cells := 0, slots := 0, locals := 23 }) [.ref (ad (18)), .int q, .int a] σ τ (some (.int (-1 : Int32))) σ τ := by
  refine sl_of (cc := cX3_fill) (maxL := 4) (ret := (some .int)) (by decide) rfl (Nat.le_of_ble_eq_true rfl) ?_
  intro p e s m below meth c hx hb hr hml hts hown hlocks hK hN hD hP hS ls hl
  have hown : s.vm.findClass RX3 = some m.cls := hown
  have hl : lv_has ls 4 [(0, .ref (ad (18))), (1, .int q), (2, .int a)] := hl
  refine lv_aload_n hx hb dX3_fill_0 rfl (lv_at hl 0 rfl) ?_
  refine lv_iload_n hx hb dX3_fill_1 rfl (lv_at hl 1 rfl) ?_
  refine lv_iconst (v := (2 : Int32)) hx hb dX3_fill_2 (by decide) ?_
  refine lv_iload_n hx hb dX3_fill_3 rfl (lv_at hl 2 rfl) ?_
  refine lv_if_lt (tgt := 17) hx hb dX3_fill_4 (by decide) (fun c_1 => ?_) (fun c_1 => ?_)
  · refine lv_iconst (v := (0 : Int32)) hx hb dX3_fill_17 (by decide) ?_
    refine sl_cV (n := 3) (As := [.int q, .int (2 : Int32), .int (0 : Int32)]) (rest := []) ⟨hx, hb, hml, hown, hts⟩ (c_X3_begin_big l G cy ad σ τ q (2 : Int32) (0 : Int32) hq hq2) gX3_fill_X3_begin rfl rfl rfl (by decide +kernel) ⟨Nat.le_of_ble_eq_true rfl, Nat.le_of_ble_eq_true rfl⟩ (va_recv hK hP (ci := 3) (q0 := 18) rfl sl_aM) rfl hl.1 rfl (Nat.le_of_ble_eq_true rfl) dX3_fill_18 ⟨Nat.zero_le _, Nat.zero_le _⟩ hK hN hD hP hS (fun H locs hP hS => ?_)
    refine W.eq (g2 := F0 m 21 ls [.int (-1 : Int32)]) rfl ?_
    refine lv_istore_n (lv' := [(3, .int (-1 : Int32)), (0, .ref (ad (18))), (1, .int q), (2, .int a)]) hx hb dX3_fill_21 rfl hl (by decide) rfl (fun ls hl => ?_)
    refine lv_iload_n hx hb dX3_fill_22 rfl (lv_at hl 0 rfl) ?_
    refine lv_if_ne (tgt := 33) hx hb dX3_fill_23 (by decide) (fun _ => ?_) (fun h9 => absurd h9 (by decide))
    refine lv_iload_n hx hb dX3_fill_33 rfl (lv_at hl 0 rfl) ?_
    exact sl_iret hx hb hr hlocks hP hS rfl rfl rfl dX3_fill_34
  · refine lv_iload_n hx hb dX3_fill_7 rfl (lv_at hl 2 rfl) ?_
    refine lv_bipush (v := (31 : Int32)) hx hb dX3_fill_8 (by decide) ?_
    refine lv_icmp_gt (tgt := 17) hx hb dX3_fill_10 (by decide) (fun c_2 => ?_) (fun c_2 => ?_)
    · refine lv_iconst (v := (0 : Int32)) hx hb dX3_fill_17 (by decide) ?_
      refine sl_cV (n := 3) (As := [.int q, .int (2 : Int32), .int (0 : Int32)]) (rest := []) ⟨hx, hb, hml, hown, hts⟩ (c_X3_begin_big l G cy ad σ τ q (2 : Int32) (0 : Int32) hq hq2) gX3_fill_X3_begin rfl rfl rfl (by decide +kernel) ⟨Nat.le_of_ble_eq_true rfl, Nat.le_of_ble_eq_true rfl⟩ (va_recv hK hP (ci := 3) (q0 := 18) rfl sl_aM) rfl hl.1 rfl (Nat.le_of_ble_eq_true rfl) dX3_fill_18 ⟨Nat.zero_le _, Nat.zero_le _⟩ hK hN hD hP hS (fun H locs hP hS => ?_)
      refine W.eq (g2 := F0 m 21 ls [.int (-1 : Int32)]) rfl ?_
      refine lv_istore_n (lv' := [(3, .int (-1 : Int32)), (0, .ref (ad (18))), (1, .int q), (2, .int a)]) hx hb dX3_fill_21 rfl hl (by decide) rfl (fun ls hl => ?_)
      refine lv_iload_n hx hb dX3_fill_22 rfl (lv_at hl 0 rfl) ?_
      refine lv_if_ne (tgt := 33) hx hb dX3_fill_23 (by decide) (fun _ => ?_) (fun h9 => absurd h9 (by decide))
      refine lv_iload_n hx hb dX3_fill_33 rfl (lv_at hl 0 rfl) ?_
      exact sl_iret hx hb hr hlocks hP hS rfl rfl rfl dX3_fill_34
    · refine lv_iconst (v := (1 : Int32)) hx hb dX3_fill_13 (by decide) ?_
      refine lv_goto (tgt := 18) hx hb dX3_fill_14 (by decide) ?_
      refine sl_cV (n := 3) (As := [.int q, .int (2 : Int32), .int (1 : Int32)]) (rest := []) ⟨hx, hb, hml, hown, hts⟩ (c_X3_begin_big l G cy ad σ τ q (2 : Int32) (1 : Int32) hq hq2) gX3_fill_X3_begin rfl rfl rfl (by decide +kernel) ⟨Nat.le_of_ble_eq_true rfl, Nat.le_of_ble_eq_true rfl⟩ (va_recv hK hP (ci := 3) (q0 := 18) rfl sl_aM) rfl hl.1 rfl (Nat.le_of_ble_eq_true rfl) dX3_fill_18 ⟨Nat.zero_le _, Nat.zero_le _⟩ hK hN hD hP hS (fun H locs hP hS => ?_)
      refine W.eq (g2 := F0 m 21 ls [.int (-1 : Int32)]) rfl ?_
      refine lv_istore_n (lv' := [(3, .int (-1 : Int32)), (0, .ref (ad (18))), (1, .int q), (2, .int a)]) hx hb dX3_fill_21 rfl hl (by decide) rfl (fun ls hl => ?_)
      refine lv_iload_n hx hb dX3_fill_22 rfl (lv_at hl 0 rfl) ?_
      refine lv_if_ne (tgt := 33) hx hb dX3_fill_23 (by decide) (fun _ => ?_) (fun h9 => absurd h9 (by decide))
      refine lv_iload_n hx hb dX3_fill_33 rfl (lv_at hl 0 rfl) ?_
      exact sl_iret hx hb hr hlocks hP hS rfl rfl rfl dX3_fill_34
theorem c_X3_fill_out (l : Launch) (G : va_G) (cy : Nat → ClassId) (ad : Nat → Nat) (σ τ : sl_M) (q : Int32) (a : Int32) (ho : ¬ vp_in q 3) : sl_C l G cy ad yX3_fill wsX3_fill ({ frames := 1, cells := 0, slots := 0, locals := 23 }) [.ref (ad (18)), .int q, .int a] σ τ (some (.int (-1 : Int32))) σ τ := by
  by_cases h : q < 0
  · exact c_X3_fill_neg l G cy ad σ τ q a h
  · exact c_X3_fill_big l G cy ad σ τ q a h (sl_nb ho h rfl)
set_option maxHeartbeats 4000000 in
set_option maxRecDepth 100000 in
theorem c_X3_read_neg (l : Launch) (G : va_G) (cy : Nat → ClassId) (ad : Nat → Nat) (σ τ : sl_M) (q : Int32) (a : Int32) (hq : q < 0) : sl_C l G cy ad yX3_read wsX3_read ({ frames := 1, cells := 0, slots := 0, locals := 23 }) [.ref (ad (18)), .int q, .int a] σ τ (some (.int (-1 : Int32))) σ τ := by
  refine sl_of (cc := cX3_read) (maxL := 4) (ret := (some .int)) (by decide) rfl (Nat.le_of_ble_eq_true rfl) ?_
  intro p e s m below meth c hx hb hr hml hts hown hlocks hK hN hD hP hS ls hl
  have hown : s.vm.findClass RX3 = some m.cls := hown
  have hl : lv_has ls 4 [(0, .ref (ad (18))), (1, .int q), (2, .int a)] := hl
  refine lv_aload_n hx hb dX3_read_0 rfl (lv_at hl 0 rfl) ?_
  refine lv_iload_n hx hb dX3_read_1 rfl (lv_at hl 1 rfl) ?_
  refine lv_iconst (v := (3 : Int32)) hx hb dX3_read_2 (by decide) ?_
  refine lv_iload_n hx hb dX3_read_3 rfl (lv_at hl 2 rfl) ?_
  refine lv_if_lt (tgt := 17) hx hb dX3_read_4 (by decide) (fun c_1 => ?_) (fun c_1 => ?_)
  · refine lv_iconst (v := (0 : Int32)) hx hb dX3_read_17 (by decide) ?_
    refine sl_cV (n := 3) (As := [.int q, .int (3 : Int32), .int (0 : Int32)]) (rest := []) ⟨hx, hb, hml, hown, hts⟩ (c_X3_begin_neg l G cy ad σ τ q (3 : Int32) (0 : Int32) hq) gX3_read_X3_begin rfl rfl rfl (by decide +kernel) ⟨Nat.le_of_ble_eq_true rfl, Nat.le_of_ble_eq_true rfl⟩ (va_recv hK hP (ci := 3) (q0 := 18) rfl sl_aM) rfl hl.1 rfl (Nat.le_of_ble_eq_true rfl) dX3_read_18 ⟨Nat.zero_le _, Nat.zero_le _⟩ hK hN hD hP hS (fun H locs hP hS => ?_)
    refine W.eq (g2 := F0 m 21 ls [.int (-1 : Int32)]) rfl ?_
    refine lv_istore_n (lv' := [(3, .int (-1 : Int32)), (0, .ref (ad (18))), (1, .int q), (2, .int a)]) hx hb dX3_read_21 rfl hl (by decide) rfl (fun ls hl => ?_)
    refine lv_iload_n hx hb dX3_read_22 rfl (lv_at hl 0 rfl) ?_
    refine lv_if_ne (tgt := 33) hx hb dX3_read_23 (by decide) (fun _ => ?_) (fun h9 => absurd h9 (by decide))
    refine lv_iload_n hx hb dX3_read_33 rfl (lv_at hl 0 rfl) ?_
    exact sl_iret hx hb hr hlocks hP hS rfl rfl rfl dX3_read_34
  · refine lv_iload_n hx hb dX3_read_7 rfl (lv_at hl 2 rfl) ?_
    refine lv_bipush (v := (31 : Int32)) hx hb dX3_read_8 (by decide) ?_
    refine lv_icmp_gt (tgt := 17) hx hb dX3_read_10 (by decide) (fun c_2 => ?_) (fun c_2 => ?_)
    · refine lv_iconst (v := (0 : Int32)) hx hb dX3_read_17 (by decide) ?_
      refine sl_cV (n := 3) (As := [.int q, .int (3 : Int32), .int (0 : Int32)]) (rest := []) ⟨hx, hb, hml, hown, hts⟩ (c_X3_begin_neg l G cy ad σ τ q (3 : Int32) (0 : Int32) hq) gX3_read_X3_begin rfl rfl rfl (by decide +kernel) ⟨Nat.le_of_ble_eq_true rfl, Nat.le_of_ble_eq_true rfl⟩ (va_recv hK hP (ci := 3) (q0 := 18) rfl sl_aM) rfl hl.1 rfl (Nat.le_of_ble_eq_true rfl) dX3_read_18 ⟨Nat.zero_le _, Nat.zero_le _⟩ hK hN hD hP hS (fun H locs hP hS => ?_)
      refine W.eq (g2 := F0 m 21 ls [.int (-1 : Int32)]) rfl ?_
      refine lv_istore_n (lv' := [(3, .int (-1 : Int32)), (0, .ref (ad (18))), (1, .int q), (2, .int a)]) hx hb dX3_read_21 rfl hl (by decide) rfl (fun ls hl => ?_)
      refine lv_iload_n hx hb dX3_read_22 rfl (lv_at hl 0 rfl) ?_
      refine lv_if_ne (tgt := 33) hx hb dX3_read_23 (by decide) (fun _ => ?_) (fun h9 => absurd h9 (by decide))
      refine lv_iload_n hx hb dX3_read_33 rfl (lv_at hl 0 rfl) ?_
      exact sl_iret hx hb hr hlocks hP hS rfl rfl rfl dX3_read_34
    · refine lv_iconst (v := (1 : Int32)) hx hb dX3_read_13 (by decide) ?_
      refine lv_goto (tgt := 18) hx hb dX3_read_14 (by decide) ?_
      refine sl_cV (n := 3) (As := [.int q, .int (3 : Int32), .int (1 : Int32)]) (rest := []) ⟨hx, hb, hml, hown, hts⟩ (c_X3_begin_neg l G cy ad σ τ q (3 : Int32) (1 : Int32) hq) gX3_read_X3_begin rfl rfl rfl (by decide +kernel) ⟨Nat.le_of_ble_eq_true rfl, Nat.le_of_ble_eq_true rfl⟩ (va_recv hK hP (ci := 3) (q0 := 18) rfl sl_aM) rfl hl.1 rfl (Nat.le_of_ble_eq_true rfl) dX3_read_18 ⟨Nat.zero_le _, Nat.zero_le _⟩ hK hN hD hP hS (fun H locs hP hS => ?_)
      refine W.eq (g2 := F0 m 21 ls [.int (-1 : Int32)]) rfl ?_
      refine lv_istore_n (lv' := [(3, .int (-1 : Int32)), (0, .ref (ad (18))), (1, .int q), (2, .int a)]) hx hb dX3_read_21 rfl hl (by decide) rfl (fun ls hl => ?_)
      refine lv_iload_n hx hb dX3_read_22 rfl (lv_at hl 0 rfl) ?_
      refine lv_if_ne (tgt := 33) hx hb dX3_read_23 (by decide) (fun _ => ?_) (fun h9 => absurd h9 (by decide))
      refine lv_iload_n hx hb dX3_read_33 rfl (lv_at hl 0 rfl) ?_
      exact sl_iret hx hb hr hlocks hP hS rfl rfl rfl dX3_read_34
set_option maxHeartbeats 4000000 in
set_option maxRecDepth 100000 in
theorem c_X3_read_big (l : Launch) (G : va_G) (cy : Nat → ClassId) (ad : Nat → Nat) (σ τ : sl_M) (q : Int32) (a : Int32) (hq : ¬ q < 0) (hq2 : ¬ q ≤ (2 : Int32)) : sl_C l G cy ad yX3_read wsX3_read ({ frames := 1, cells := 0, slots := 0, locals := 23 }) [.ref (ad (18)), .int q, .int a] σ τ (some (.int (-1 : Int32))) σ τ := by
  refine sl_of (cc := cX3_read) (maxL := 4) (ret := (some .int)) (by decide) rfl (Nat.le_of_ble_eq_true rfl) ?_
  intro p e s m below meth c hx hb hr hml hts hown hlocks hK hN hD hP hS ls hl
  have hown : s.vm.findClass RX3 = some m.cls := hown
  have hl : lv_has ls 4 [(0, .ref (ad (18))), (1, .int q), (2, .int a)] := hl
  refine lv_aload_n hx hb dX3_read_0 rfl (lv_at hl 0 rfl) ?_
  refine lv_iload_n hx hb dX3_read_1 rfl (lv_at hl 1 rfl) ?_
  refine lv_iconst (v := (3 : Int32)) hx hb dX3_read_2 (by decide) ?_
  refine lv_iload_n hx hb dX3_read_3 rfl (lv_at hl 2 rfl) ?_
  refine lv_if_lt (tgt := 17) hx hb dX3_read_4 (by decide) (fun c_1 => ?_) (fun c_1 => ?_)
  · refine lv_iconst (v := (0 : Int32)) hx hb dX3_read_17 (by decide) ?_
    refine sl_cV (n := 3) (As := [.int q, .int (3 : Int32), .int (0 : Int32)]) (rest := []) ⟨hx, hb, hml, hown, hts⟩ (c_X3_begin_big l G cy ad σ τ q (3 : Int32) (0 : Int32) hq hq2) gX3_read_X3_begin rfl rfl rfl (by decide +kernel) ⟨Nat.le_of_ble_eq_true rfl, Nat.le_of_ble_eq_true rfl⟩ (va_recv hK hP (ci := 3) (q0 := 18) rfl sl_aM) rfl hl.1 rfl (Nat.le_of_ble_eq_true rfl) dX3_read_18 ⟨Nat.zero_le _, Nat.zero_le _⟩ hK hN hD hP hS (fun H locs hP hS => ?_)
    refine W.eq (g2 := F0 m 21 ls [.int (-1 : Int32)]) rfl ?_
    refine lv_istore_n (lv' := [(3, .int (-1 : Int32)), (0, .ref (ad (18))), (1, .int q), (2, .int a)]) hx hb dX3_read_21 rfl hl (by decide) rfl (fun ls hl => ?_)
    refine lv_iload_n hx hb dX3_read_22 rfl (lv_at hl 0 rfl) ?_
    refine lv_if_ne (tgt := 33) hx hb dX3_read_23 (by decide) (fun _ => ?_) (fun h9 => absurd h9 (by decide))
    refine lv_iload_n hx hb dX3_read_33 rfl (lv_at hl 0 rfl) ?_
    exact sl_iret hx hb hr hlocks hP hS rfl rfl rfl dX3_read_34
  · refine lv_iload_n hx hb dX3_read_7 rfl (lv_at hl 2 rfl) ?_
    refine lv_bipush (v := (31 : Int32)) hx hb dX3_read_8 (by decide) ?_
    refine lv_icmp_gt (tgt := 17) hx hb dX3_read_10 (by decide) (fun c_2 => ?_) (fun c_2 => ?_)
    · refine lv_iconst (v := (0 : Int32)) hx hb dX3_read_17 (by decide) ?_
      refine sl_cV (n := 3) (As := [.int q, .int (3 : Int32), .int (0 : Int32)]) (rest := []) ⟨hx, hb, hml, hown, hts⟩ (c_X3_begin_big l G cy ad σ τ q (3 : Int32) (0 : Int32) hq hq2) gX3_read_X3_begin rfl rfl rfl (by decide +kernel) ⟨Nat.le_of_ble_eq_true rfl, Nat.le_of_ble_eq_true rfl⟩ (va_recv hK hP (ci := 3) (q0 := 18) rfl sl_aM) rfl hl.1 rfl (Nat.le_of_ble_eq_true rfl) dX3_read_18 ⟨Nat.zero_le _, Nat.zero_le _⟩ hK hN hD hP hS (fun H locs hP hS => ?_)
      refine W.eq (g2 := F0 m 21 ls [.int (-1 : Int32)]) rfl ?_
      refine lv_istore_n (lv' := [(3, .int (-1 : Int32)), (0, .ref (ad (18))), (1, .int q), (2, .int a)]) hx hb dX3_read_21 rfl hl (by decide) rfl (fun ls hl => ?_)
      refine lv_iload_n hx hb dX3_read_22 rfl (lv_at hl 0 rfl) ?_
      refine lv_if_ne (tgt := 33) hx hb dX3_read_23 (by decide) (fun _ => ?_) (fun h9 => absurd h9 (by decide))
      refine lv_iload_n hx hb dX3_read_33 rfl (lv_at hl 0 rfl) ?_
      exact sl_iret hx hb hr hlocks hP hS rfl rfl rfl dX3_read_34
    · refine lv_iconst (v := (1 : Int32)) hx hb dX3_read_13 (by decide) ?_
      refine lv_goto (tgt := 18) hx hb dX3_read_14 (by decide) ?_
      refine sl_cV (n := 3) (As := [.int q, .int (3 : Int32), .int (1 : Int32)]) (rest := []) ⟨hx, hb, hml, hown, hts⟩ (c_X3_begin_big l G cy ad σ τ q (3 : Int32) (1 : Int32) hq hq2) gX3_read_X3_begin rfl rfl rfl (by decide +kernel) ⟨Nat.le_of_ble_eq_true rfl, Nat.le_of_ble_eq_true rfl⟩ (va_recv hK hP (ci := 3) (q0 := 18) rfl sl_aM) rfl hl.1 rfl (Nat.le_of_ble_eq_true rfl) dX3_read_18 ⟨Nat.zero_le _, Nat.zero_le _⟩ hK hN hD hP hS (fun H locs hP hS => ?_)
      refine W.eq (g2 := F0 m 21 ls [.int (-1 : Int32)]) rfl ?_
      refine lv_istore_n (lv' := [(3, .int (-1 : Int32)), (0, .ref (ad (18))), (1, .int q), (2, .int a)]) hx hb dX3_read_21 rfl hl (by decide) rfl (fun ls hl => ?_)
      refine lv_iload_n hx hb dX3_read_22 rfl (lv_at hl 0 rfl) ?_
      refine lv_if_ne (tgt := 33) hx hb dX3_read_23 (by decide) (fun _ => ?_) (fun h9 => absurd h9 (by decide))
      refine lv_iload_n hx hb dX3_read_33 rfl (lv_at hl 0 rfl) ?_
      exact sl_iret hx hb hr hlocks hP hS rfl rfl rfl dX3_read_34
theorem c_X3_read_out (l : Launch) (G : va_G) (cy : Nat → ClassId) (ad : Nat → Nat) (σ τ : sl_M) (q : Int32) (a : Int32) (ho : ¬ vp_in q 3) : sl_C l G cy ad yX3_read wsX3_read ({ frames := 1, cells := 0, slots := 0, locals := 23 }) [.ref (ad (18)), .int q, .int a] σ τ (some (.int (-1 : Int32))) σ τ := by
  by_cases h : q < 0
  · exact c_X3_read_neg l G cy ad σ τ q a h
  · exact c_X3_read_big l G cy ad σ τ q a h (sl_nb ho h rfl)
set_option maxHeartbeats 4000000 in
set_option maxRecDepth 100000 in
theorem c_X3_replay_neg (l : Launch) (G : va_G) (cy : Nat → ClassId) (ad : Nat → Nat) (σ τ : sl_M) (q : Int32) (a : Int32) (hq : q < 0) : sl_C l G cy ad yX3_replay wsX3_replay ({ frames := 1, cells := 0, slots := 0, locals := 23 }) [.ref (ad (18)), .int q, .int a] σ τ (some (.int (-1 : Int32))) σ τ := by
  refine sl_of (cc := cX3_replay) (maxL := 4) (ret := (some .int)) (by decide) rfl (Nat.le_of_ble_eq_true rfl) ?_
  intro p e s m below meth c hx hb hr hml hts hown hlocks hK hN hD hP hS ls hl
  have hown : s.vm.findClass RX3 = some m.cls := hown
  have hl : lv_has ls 4 [(0, .ref (ad (18))), (1, .int q), (2, .int a)] := hl
  refine lv_aload_n hx hb dX3_replay_0 rfl (lv_at hl 0 rfl) ?_
  refine lv_iload_n hx hb dX3_replay_1 rfl (lv_at hl 1 rfl) ?_
  refine lv_iconst (v := (4 : Int32)) hx hb dX3_replay_2 (by decide) ?_
  refine lv_iload_n hx hb dX3_replay_3 rfl (lv_at hl 2 rfl) ?_
  refine lv_if_lt (tgt := 17) hx hb dX3_replay_4 (by decide) (fun c_1 => ?_) (fun c_1 => ?_)
  · refine lv_iconst (v := (0 : Int32)) hx hb dX3_replay_17 (by decide) ?_
    refine sl_cV (n := 3) (As := [.int q, .int (4 : Int32), .int (0 : Int32)]) (rest := []) ⟨hx, hb, hml, hown, hts⟩ (c_X3_begin_neg l G cy ad σ τ q (4 : Int32) (0 : Int32) hq) gX3_replay_X3_begin rfl rfl rfl (by decide +kernel) ⟨Nat.le_of_ble_eq_true rfl, Nat.le_of_ble_eq_true rfl⟩ (va_recv hK hP (ci := 3) (q0 := 18) rfl sl_aM) rfl hl.1 rfl (Nat.le_of_ble_eq_true rfl) dX3_replay_18 ⟨Nat.zero_le _, Nat.zero_le _⟩ hK hN hD hP hS (fun H locs hP hS => ?_)
    refine W.eq (g2 := F0 m 21 ls [.int (-1 : Int32)]) rfl ?_
    refine lv_istore_n (lv' := [(3, .int (-1 : Int32)), (0, .ref (ad (18))), (1, .int q), (2, .int a)]) hx hb dX3_replay_21 rfl hl (by decide) rfl (fun ls hl => ?_)
    refine lv_iload_n hx hb dX3_replay_22 rfl (lv_at hl 0 rfl) ?_
    refine lv_if_ne (tgt := 33) hx hb dX3_replay_23 (by decide) (fun _ => ?_) (fun h9 => absurd h9 (by decide))
    refine lv_iload_n hx hb dX3_replay_33 rfl (lv_at hl 0 rfl) ?_
    exact sl_iret hx hb hr hlocks hP hS rfl rfl rfl dX3_replay_34
  · refine lv_iload_n hx hb dX3_replay_7 rfl (lv_at hl 2 rfl) ?_
    refine lv_bipush (v := (32 : Int32)) hx hb dX3_replay_8 (by decide) ?_
    refine lv_icmp_gt (tgt := 17) hx hb dX3_replay_10 (by decide) (fun c_2 => ?_) (fun c_2 => ?_)
    · refine lv_iconst (v := (0 : Int32)) hx hb dX3_replay_17 (by decide) ?_
      refine sl_cV (n := 3) (As := [.int q, .int (4 : Int32), .int (0 : Int32)]) (rest := []) ⟨hx, hb, hml, hown, hts⟩ (c_X3_begin_neg l G cy ad σ τ q (4 : Int32) (0 : Int32) hq) gX3_replay_X3_begin rfl rfl rfl (by decide +kernel) ⟨Nat.le_of_ble_eq_true rfl, Nat.le_of_ble_eq_true rfl⟩ (va_recv hK hP (ci := 3) (q0 := 18) rfl sl_aM) rfl hl.1 rfl (Nat.le_of_ble_eq_true rfl) dX3_replay_18 ⟨Nat.zero_le _, Nat.zero_le _⟩ hK hN hD hP hS (fun H locs hP hS => ?_)
      refine W.eq (g2 := F0 m 21 ls [.int (-1 : Int32)]) rfl ?_
      refine lv_istore_n (lv' := [(3, .int (-1 : Int32)), (0, .ref (ad (18))), (1, .int q), (2, .int a)]) hx hb dX3_replay_21 rfl hl (by decide) rfl (fun ls hl => ?_)
      refine lv_iload_n hx hb dX3_replay_22 rfl (lv_at hl 0 rfl) ?_
      refine lv_if_ne (tgt := 33) hx hb dX3_replay_23 (by decide) (fun _ => ?_) (fun h9 => absurd h9 (by decide))
      refine lv_iload_n hx hb dX3_replay_33 rfl (lv_at hl 0 rfl) ?_
      exact sl_iret hx hb hr hlocks hP hS rfl rfl rfl dX3_replay_34
    · refine lv_iconst (v := (1 : Int32)) hx hb dX3_replay_13 (by decide) ?_
      refine lv_goto (tgt := 18) hx hb dX3_replay_14 (by decide) ?_
      refine sl_cV (n := 3) (As := [.int q, .int (4 : Int32), .int (1 : Int32)]) (rest := []) ⟨hx, hb, hml, hown, hts⟩ (c_X3_begin_neg l G cy ad σ τ q (4 : Int32) (1 : Int32) hq) gX3_replay_X3_begin rfl rfl rfl (by decide +kernel) ⟨Nat.le_of_ble_eq_true rfl, Nat.le_of_ble_eq_true rfl⟩ (va_recv hK hP (ci := 3) (q0 := 18) rfl sl_aM) rfl hl.1 rfl (Nat.le_of_ble_eq_true rfl) dX3_replay_18 ⟨Nat.zero_le _, Nat.zero_le _⟩ hK hN hD hP hS (fun H locs hP hS => ?_)
      refine W.eq (g2 := F0 m 21 ls [.int (-1 : Int32)]) rfl ?_
      refine lv_istore_n (lv' := [(3, .int (-1 : Int32)), (0, .ref (ad (18))), (1, .int q), (2, .int a)]) hx hb dX3_replay_21 rfl hl (by decide) rfl (fun ls hl => ?_)
      refine lv_iload_n hx hb dX3_replay_22 rfl (lv_at hl 0 rfl) ?_
      refine lv_if_ne (tgt := 33) hx hb dX3_replay_23 (by decide) (fun _ => ?_) (fun h9 => absurd h9 (by decide))
      refine lv_iload_n hx hb dX3_replay_33 rfl (lv_at hl 0 rfl) ?_
      exact sl_iret hx hb hr hlocks hP hS rfl rfl rfl dX3_replay_34
set_option maxHeartbeats 4000000 in
set_option maxRecDepth 100000 in
theorem c_X3_replay_big (l : Launch) (G : va_G) (cy : Nat → ClassId) (ad : Nat → Nat) (σ τ : sl_M) (q : Int32) (a : Int32) (hq : ¬ q < 0) (hq2 : ¬ q ≤ (2 : Int32)) : sl_C l G cy ad yX3_replay wsX3_replay ({ frames := 1, cells := 0, slots := 0, locals := 23 }) [.ref (ad (18)), .int q, .int a] σ τ (some (.int (-1 : Int32))) σ τ := by
  refine sl_of (cc := cX3_replay) (maxL := 4) (ret := (some .int)) (by decide) rfl (Nat.le_of_ble_eq_true rfl) ?_
  intro p e s m below meth c hx hb hr hml hts hown hlocks hK hN hD hP hS ls hl
  have hown : s.vm.findClass RX3 = some m.cls := hown
  have hl : lv_has ls 4 [(0, .ref (ad (18))), (1, .int q), (2, .int a)] := hl
  refine lv_aload_n hx hb dX3_replay_0 rfl (lv_at hl 0 rfl) ?_
  refine lv_iload_n hx hb dX3_replay_1 rfl (lv_at hl 1 rfl) ?_
  refine lv_iconst (v := (4 : Int32)) hx hb dX3_replay_2 (by decide) ?_
  refine lv_iload_n hx hb dX3_replay_3 rfl (lv_at hl 2 rfl) ?_
  refine lv_if_lt (tgt := 17) hx hb dX3_replay_4 (by decide) (fun c_1 => ?_) (fun c_1 => ?_)
  · refine lv_iconst (v := (0 : Int32)) hx hb dX3_replay_17 (by decide) ?_
    refine sl_cV (n := 3) (As := [.int q, .int (4 : Int32), .int (0 : Int32)]) (rest := []) ⟨hx, hb, hml, hown, hts⟩ (c_X3_begin_big l G cy ad σ τ q (4 : Int32) (0 : Int32) hq hq2) gX3_replay_X3_begin rfl rfl rfl (by decide +kernel) ⟨Nat.le_of_ble_eq_true rfl, Nat.le_of_ble_eq_true rfl⟩ (va_recv hK hP (ci := 3) (q0 := 18) rfl sl_aM) rfl hl.1 rfl (Nat.le_of_ble_eq_true rfl) dX3_replay_18 ⟨Nat.zero_le _, Nat.zero_le _⟩ hK hN hD hP hS (fun H locs hP hS => ?_)
    refine W.eq (g2 := F0 m 21 ls [.int (-1 : Int32)]) rfl ?_
    refine lv_istore_n (lv' := [(3, .int (-1 : Int32)), (0, .ref (ad (18))), (1, .int q), (2, .int a)]) hx hb dX3_replay_21 rfl hl (by decide) rfl (fun ls hl => ?_)
    refine lv_iload_n hx hb dX3_replay_22 rfl (lv_at hl 0 rfl) ?_
    refine lv_if_ne (tgt := 33) hx hb dX3_replay_23 (by decide) (fun _ => ?_) (fun h9 => absurd h9 (by decide))
    refine lv_iload_n hx hb dX3_replay_33 rfl (lv_at hl 0 rfl) ?_
    exact sl_iret hx hb hr hlocks hP hS rfl rfl rfl dX3_replay_34
  · refine lv_iload_n hx hb dX3_replay_7 rfl (lv_at hl 2 rfl) ?_
    refine lv_bipush (v := (32 : Int32)) hx hb dX3_replay_8 (by decide) ?_
    refine lv_icmp_gt (tgt := 17) hx hb dX3_replay_10 (by decide) (fun c_2 => ?_) (fun c_2 => ?_)
    · refine lv_iconst (v := (0 : Int32)) hx hb dX3_replay_17 (by decide) ?_
      refine sl_cV (n := 3) (As := [.int q, .int (4 : Int32), .int (0 : Int32)]) (rest := []) ⟨hx, hb, hml, hown, hts⟩ (c_X3_begin_big l G cy ad σ τ q (4 : Int32) (0 : Int32) hq hq2) gX3_replay_X3_begin rfl rfl rfl (by decide +kernel) ⟨Nat.le_of_ble_eq_true rfl, Nat.le_of_ble_eq_true rfl⟩ (va_recv hK hP (ci := 3) (q0 := 18) rfl sl_aM) rfl hl.1 rfl (Nat.le_of_ble_eq_true rfl) dX3_replay_18 ⟨Nat.zero_le _, Nat.zero_le _⟩ hK hN hD hP hS (fun H locs hP hS => ?_)
      refine W.eq (g2 := F0 m 21 ls [.int (-1 : Int32)]) rfl ?_
      refine lv_istore_n (lv' := [(3, .int (-1 : Int32)), (0, .ref (ad (18))), (1, .int q), (2, .int a)]) hx hb dX3_replay_21 rfl hl (by decide) rfl (fun ls hl => ?_)
      refine lv_iload_n hx hb dX3_replay_22 rfl (lv_at hl 0 rfl) ?_
      refine lv_if_ne (tgt := 33) hx hb dX3_replay_23 (by decide) (fun _ => ?_) (fun h9 => absurd h9 (by decide))
      refine lv_iload_n hx hb dX3_replay_33 rfl (lv_at hl 0 rfl) ?_
      exact sl_iret hx hb hr hlocks hP hS rfl rfl rfl dX3_replay_34
    · refine lv_iconst (v := (1 : Int32)) hx hb dX3_replay_13 (by decide) ?_
      refine lv_goto (tgt := 18) hx hb dX3_replay_14 (by decide) ?_
      refine sl_cV (n := 3) (As := [.int q, .int (4 : Int32), .int (1 : Int32)]) (rest := []) ⟨hx, hb, hml, hown, hts⟩ (c_X3_begin_big l G cy ad σ τ q (4 : Int32) (1 : Int32) hq hq2) gX3_replay_X3_begin rfl rfl rfl (by decide +kernel) ⟨Nat.le_of_ble_eq_true rfl, Nat.le_of_ble_eq_true rfl⟩ (va_recv hK hP (ci := 3) (q0 := 18) rfl sl_aM) rfl hl.1 rfl (Nat.le_of_ble_eq_true rfl) dX3_replay_18 ⟨Nat.zero_le _, Nat.zero_le _⟩ hK hN hD hP hS (fun H locs hP hS => ?_)
      refine W.eq (g2 := F0 m 21 ls [.int (-1 : Int32)]) rfl ?_
      refine lv_istore_n (lv' := [(3, .int (-1 : Int32)), (0, .ref (ad (18))), (1, .int q), (2, .int a)]) hx hb dX3_replay_21 rfl hl (by decide) rfl (fun ls hl => ?_)
      refine lv_iload_n hx hb dX3_replay_22 rfl (lv_at hl 0 rfl) ?_
      refine lv_if_ne (tgt := 33) hx hb dX3_replay_23 (by decide) (fun _ => ?_) (fun h9 => absurd h9 (by decide))
      refine lv_iload_n hx hb dX3_replay_33 rfl (lv_at hl 0 rfl) ?_
      exact sl_iret hx hb hr hlocks hP hS rfl rfl rfl dX3_replay_34
theorem c_X3_replay_out (l : Launch) (G : va_G) (cy : Nat → ClassId) (ad : Nat → Nat) (σ τ : sl_M) (q : Int32) (a : Int32) (ho : ¬ vp_in q 3) : sl_C l G cy ad yX3_replay wsX3_replay ({ frames := 1, cells := 0, slots := 0, locals := 23 }) [.ref (ad (18)), .int q, .int a] σ τ (some (.int (-1 : Int32))) σ τ := by
  by_cases h : q < 0
  · exact c_X3_replay_neg l G cy ad σ τ q a h
  · exact c_X3_replay_big l G cy ad σ τ q a h (sl_nb ho h rfl)
set_option maxHeartbeats 4000000 in
set_option maxRecDepth 100000 in
theorem c_X3_reform_neg (l : Launch) (G : va_G) (cy : Nat → ClassId) (ad : Nat → Nat) (σ τ : sl_M) (q : Int32) (a : Int32) (hq : q < 0) : sl_C l G cy ad yX3_reform wsX3_reform ({ frames := 1, cells := 0, slots := 0, locals := 23 }) [.ref (ad (18)), .int q, .int a] σ τ (some (.int (-1 : Int32))) σ τ := by
  refine sl_of (cc := cX3_reform) (maxL := 5) (ret := (some .int)) (by decide) rfl (Nat.le_of_ble_eq_true rfl) ?_
  intro p e s m below meth c hx hb hr hml hts hown hlocks hK hN hD hP hS ls hl
  have hown : s.vm.findClass RX3 = some m.cls := hown
  have hl : lv_has ls 5 [(0, .ref (ad (18))), (1, .int q), (2, .int a)] := hl
  refine lv_iload_n hx hb dX3_reform_0 rfl (lv_at hl 2 rfl) ?_
  refine lv_if_lt (tgt := 14) hx hb dX3_reform_1 (by decide) (fun c_1 => ?_) (fun c_1 => ?_)
  · refine lv_iconst (v := (0 : Int32)) hx hb dX3_reform_14 (by decide) ?_
    refine lv_istore_n (lv' := [(3, .int (0 : Int32)), (0, .ref (ad (18))), (1, .int q), (2, .int a)]) hx hb dX3_reform_15 rfl hl (by decide) rfl (fun ls hl => ?_)
    refine lv_iload_n hx hb dX3_reform_16 rfl (lv_at hl 2 rfl) ?_
    refine lv_if_lt (tgt := 71) hx hb dX3_reform_17 (by decide) (fun _ => ?_) (fun h9 => absurd hq h9)
    refine lv_aload_n hx hb dX3_reform_71 rfl (lv_at hl 1 rfl) ?_
    refine lv_iload_n hx hb dX3_reform_72 rfl (lv_at hl 2 rfl) ?_
    refine lv_iconst (v := (5 : Int32)) hx hb dX3_reform_73 (by decide) ?_
    refine lv_iload_n hx hb dX3_reform_74 rfl (lv_at hl 0 rfl) ?_
    refine sl_cV (n := 3) (As := [.int q, .int (5 : Int32), .int (0 : Int32)]) (rest := []) ⟨hx, hb, hml, hown, hts⟩ (c_X3_begin_neg l G cy ad σ τ q (5 : Int32) (0 : Int32) hq) gX3_reform_X3_begin rfl rfl rfl (by decide +kernel) ⟨Nat.le_of_ble_eq_true rfl, Nat.le_of_ble_eq_true rfl⟩ (va_recv hK hP (ci := 3) (q0 := 18) rfl sl_aM) rfl hl.1 rfl (Nat.le_of_ble_eq_true rfl) dX3_reform_75 ⟨Nat.zero_le _, Nat.zero_le _⟩ hK hN hD hP hS (fun H locs hP hS => ?_)
    refine W.eq (g2 := F0 m 78 ls [.int (-1 : Int32)]) rfl ?_
    refine lv_istore (lv' := [(4, .int (-1 : Int32)), (3, .int (0 : Int32)), (0, .ref (ad (18))), (1, .int q), (2, .int a)]) hx hb dX3_reform_78 hl (by decide) rfl (fun ls hl => ?_)
    refine lv_iload hx hb dX3_reform_80 (lv_at hl 0 rfl) ?_
    refine lv_if_ne (tgt := 101) hx hb dX3_reform_82 (by decide) (fun _ => ?_) (fun h9 => absurd h9 (by decide))
    refine lv_iload hx hb dX3_reform_101 (lv_at hl 0 rfl) ?_
    exact sl_iret hx hb hr hlocks hP hS rfl rfl rfl dX3_reform_103
  · refine lv_iload_n hx hb dX3_reform_4 rfl (lv_at hl 2 rfl) ?_
    refine lv_bipush (v := (63 : Int32)) hx hb dX3_reform_5 (by decide) ?_
    refine lv_icmp_gt (tgt := 14) hx hb dX3_reform_7 (by decide) (fun c_2 => ?_) (fun c_2 => ?_)
    · refine lv_iconst (v := (0 : Int32)) hx hb dX3_reform_14 (by decide) ?_
      refine lv_istore_n (lv' := [(3, .int (0 : Int32)), (0, .ref (ad (18))), (1, .int q), (2, .int a)]) hx hb dX3_reform_15 rfl hl (by decide) rfl (fun ls hl => ?_)
      refine lv_iload_n hx hb dX3_reform_16 rfl (lv_at hl 2 rfl) ?_
      refine lv_if_lt (tgt := 71) hx hb dX3_reform_17 (by decide) (fun _ => ?_) (fun h9 => absurd hq h9)
      refine lv_aload_n hx hb dX3_reform_71 rfl (lv_at hl 1 rfl) ?_
      refine lv_iload_n hx hb dX3_reform_72 rfl (lv_at hl 2 rfl) ?_
      refine lv_iconst (v := (5 : Int32)) hx hb dX3_reform_73 (by decide) ?_
      refine lv_iload_n hx hb dX3_reform_74 rfl (lv_at hl 0 rfl) ?_
      refine sl_cV (n := 3) (As := [.int q, .int (5 : Int32), .int (0 : Int32)]) (rest := []) ⟨hx, hb, hml, hown, hts⟩ (c_X3_begin_neg l G cy ad σ τ q (5 : Int32) (0 : Int32) hq) gX3_reform_X3_begin rfl rfl rfl (by decide +kernel) ⟨Nat.le_of_ble_eq_true rfl, Nat.le_of_ble_eq_true rfl⟩ (va_recv hK hP (ci := 3) (q0 := 18) rfl sl_aM) rfl hl.1 rfl (Nat.le_of_ble_eq_true rfl) dX3_reform_75 ⟨Nat.zero_le _, Nat.zero_le _⟩ hK hN hD hP hS (fun H locs hP hS => ?_)
      refine W.eq (g2 := F0 m 78 ls [.int (-1 : Int32)]) rfl ?_
      refine lv_istore (lv' := [(4, .int (-1 : Int32)), (3, .int (0 : Int32)), (0, .ref (ad (18))), (1, .int q), (2, .int a)]) hx hb dX3_reform_78 hl (by decide) rfl (fun ls hl => ?_)
      refine lv_iload hx hb dX3_reform_80 (lv_at hl 0 rfl) ?_
      refine lv_if_ne (tgt := 101) hx hb dX3_reform_82 (by decide) (fun _ => ?_) (fun h9 => absurd h9 (by decide))
      refine lv_iload hx hb dX3_reform_101 (lv_at hl 0 rfl) ?_
      exact sl_iret hx hb hr hlocks hP hS rfl rfl rfl dX3_reform_103
    · refine lv_iconst (v := (1 : Int32)) hx hb dX3_reform_10 (by decide) ?_
      refine lv_goto (tgt := 15) hx hb dX3_reform_11 (by decide) ?_
      refine lv_istore_n (lv' := [(3, .int (1 : Int32)), (0, .ref (ad (18))), (1, .int q), (2, .int a)]) hx hb dX3_reform_15 rfl hl (by decide) rfl (fun ls hl => ?_)
      refine lv_iload_n hx hb dX3_reform_16 rfl (lv_at hl 2 rfl) ?_
      refine lv_if_lt (tgt := 71) hx hb dX3_reform_17 (by decide) (fun _ => ?_) (fun h9 => absurd hq h9)
      refine lv_aload_n hx hb dX3_reform_71 rfl (lv_at hl 1 rfl) ?_
      refine lv_iload_n hx hb dX3_reform_72 rfl (lv_at hl 2 rfl) ?_
      refine lv_iconst (v := (5 : Int32)) hx hb dX3_reform_73 (by decide) ?_
      refine lv_iload_n hx hb dX3_reform_74 rfl (lv_at hl 0 rfl) ?_
      refine sl_cV (n := 3) (As := [.int q, .int (5 : Int32), .int (1 : Int32)]) (rest := []) ⟨hx, hb, hml, hown, hts⟩ (c_X3_begin_neg l G cy ad σ τ q (5 : Int32) (1 : Int32) hq) gX3_reform_X3_begin rfl rfl rfl (by decide +kernel) ⟨Nat.le_of_ble_eq_true rfl, Nat.le_of_ble_eq_true rfl⟩ (va_recv hK hP (ci := 3) (q0 := 18) rfl sl_aM) rfl hl.1 rfl (Nat.le_of_ble_eq_true rfl) dX3_reform_75 ⟨Nat.zero_le _, Nat.zero_le _⟩ hK hN hD hP hS (fun H locs hP hS => ?_)
      refine W.eq (g2 := F0 m 78 ls [.int (-1 : Int32)]) rfl ?_
      refine lv_istore (lv' := [(4, .int (-1 : Int32)), (3, .int (1 : Int32)), (0, .ref (ad (18))), (1, .int q), (2, .int a)]) hx hb dX3_reform_78 hl (by decide) rfl (fun ls hl => ?_)
      refine lv_iload hx hb dX3_reform_80 (lv_at hl 0 rfl) ?_
      refine lv_if_ne (tgt := 101) hx hb dX3_reform_82 (by decide) (fun _ => ?_) (fun h9 => absurd h9 (by decide))
      refine lv_iload hx hb dX3_reform_101 (lv_at hl 0 rfl) ?_
      exact sl_iret hx hb hr hlocks hP hS rfl rfl rfl dX3_reform_103
set_option maxHeartbeats 4000000 in
set_option maxRecDepth 100000 in
theorem c_X3_reform_big (l : Launch) (G : va_G) (cy : Nat → ClassId) (ad : Nat → Nat) (σ τ : sl_M) (q : Int32) (a : Int32) (hq : ¬ q < 0) (hq2 : ¬ q ≤ (2 : Int32)) : sl_C l G cy ad yX3_reform wsX3_reform ({ frames := 1, cells := 0, slots := 0, locals := 23 }) [.ref (ad (18)), .int q, .int a] σ τ (some (.int (-1 : Int32))) σ τ := by
  refine sl_of (cc := cX3_reform) (maxL := 5) (ret := (some .int)) (by decide) rfl (Nat.le_of_ble_eq_true rfl) ?_
  intro p e s m below meth c hx hb hr hml hts hown hlocks hK hN hD hP hS ls hl
  have hown : s.vm.findClass RX3 = some m.cls := hown
  have hl : lv_has ls 5 [(0, .ref (ad (18))), (1, .int q), (2, .int a)] := hl
  refine lv_iload_n hx hb dX3_reform_0 rfl (lv_at hl 2 rfl) ?_
  refine lv_if_lt (tgt := 14) hx hb dX3_reform_1 (by decide) (fun c_1 => ?_) (fun c_1 => ?_)
  · refine lv_iconst (v := (0 : Int32)) hx hb dX3_reform_14 (by decide) ?_
    refine lv_istore_n (lv' := [(3, .int (0 : Int32)), (0, .ref (ad (18))), (1, .int q), (2, .int a)]) hx hb dX3_reform_15 rfl hl (by decide) rfl (fun ls hl => ?_)
    refine lv_iload_n hx hb dX3_reform_16 rfl (lv_at hl 2 rfl) ?_
    refine lv_if_lt (tgt := 71) hx hb dX3_reform_17 (by decide) (fun h9 => absurd h9 hq) (fun _ => ?_)
    refine lv_iload_n hx hb dX3_reform_20 rfl (lv_at hl 2 rfl) ?_
    refine lv_iconst (v := (2 : Int32)) hx hb dX3_reform_21 (by decide) ?_
    refine lv_icmp_gt (tgt := 71) hx hb dX3_reform_22 (by decide) (fun _ => ?_) (fun h9 => absurd (sl_gt hq2) h9)
    refine lv_aload_n hx hb dX3_reform_71 rfl (lv_at hl 1 rfl) ?_
    refine lv_iload_n hx hb dX3_reform_72 rfl (lv_at hl 2 rfl) ?_
    refine lv_iconst (v := (5 : Int32)) hx hb dX3_reform_73 (by decide) ?_
    refine lv_iload_n hx hb dX3_reform_74 rfl (lv_at hl 0 rfl) ?_
    refine sl_cV (n := 3) (As := [.int q, .int (5 : Int32), .int (0 : Int32)]) (rest := []) ⟨hx, hb, hml, hown, hts⟩ (c_X3_begin_big l G cy ad σ τ q (5 : Int32) (0 : Int32) hq hq2) gX3_reform_X3_begin rfl rfl rfl (by decide +kernel) ⟨Nat.le_of_ble_eq_true rfl, Nat.le_of_ble_eq_true rfl⟩ (va_recv hK hP (ci := 3) (q0 := 18) rfl sl_aM) rfl hl.1 rfl (Nat.le_of_ble_eq_true rfl) dX3_reform_75 ⟨Nat.zero_le _, Nat.zero_le _⟩ hK hN hD hP hS (fun H locs hP hS => ?_)
    refine W.eq (g2 := F0 m 78 ls [.int (-1 : Int32)]) rfl ?_
    refine lv_istore (lv' := [(4, .int (-1 : Int32)), (3, .int (0 : Int32)), (0, .ref (ad (18))), (1, .int q), (2, .int a)]) hx hb dX3_reform_78 hl (by decide) rfl (fun ls hl => ?_)
    refine lv_iload hx hb dX3_reform_80 (lv_at hl 0 rfl) ?_
    refine lv_if_ne (tgt := 101) hx hb dX3_reform_82 (by decide) (fun _ => ?_) (fun h9 => absurd h9 (by decide))
    refine lv_iload hx hb dX3_reform_101 (lv_at hl 0 rfl) ?_
    exact sl_iret hx hb hr hlocks hP hS rfl rfl rfl dX3_reform_103
  · refine lv_iload_n hx hb dX3_reform_4 rfl (lv_at hl 2 rfl) ?_
    refine lv_bipush (v := (63 : Int32)) hx hb dX3_reform_5 (by decide) ?_
    refine lv_icmp_gt (tgt := 14) hx hb dX3_reform_7 (by decide) (fun c_2 => ?_) (fun c_2 => ?_)
    · refine lv_iconst (v := (0 : Int32)) hx hb dX3_reform_14 (by decide) ?_
      refine lv_istore_n (lv' := [(3, .int (0 : Int32)), (0, .ref (ad (18))), (1, .int q), (2, .int a)]) hx hb dX3_reform_15 rfl hl (by decide) rfl (fun ls hl => ?_)
      refine lv_iload_n hx hb dX3_reform_16 rfl (lv_at hl 2 rfl) ?_
      refine lv_if_lt (tgt := 71) hx hb dX3_reform_17 (by decide) (fun h9 => absurd h9 hq) (fun _ => ?_)
      refine lv_iload_n hx hb dX3_reform_20 rfl (lv_at hl 2 rfl) ?_
      refine lv_iconst (v := (2 : Int32)) hx hb dX3_reform_21 (by decide) ?_
      refine lv_icmp_gt (tgt := 71) hx hb dX3_reform_22 (by decide) (fun _ => ?_) (fun h9 => absurd (sl_gt hq2) h9)
      refine lv_aload_n hx hb dX3_reform_71 rfl (lv_at hl 1 rfl) ?_
      refine lv_iload_n hx hb dX3_reform_72 rfl (lv_at hl 2 rfl) ?_
      refine lv_iconst (v := (5 : Int32)) hx hb dX3_reform_73 (by decide) ?_
      refine lv_iload_n hx hb dX3_reform_74 rfl (lv_at hl 0 rfl) ?_
      refine sl_cV (n := 3) (As := [.int q, .int (5 : Int32), .int (0 : Int32)]) (rest := []) ⟨hx, hb, hml, hown, hts⟩ (c_X3_begin_big l G cy ad σ τ q (5 : Int32) (0 : Int32) hq hq2) gX3_reform_X3_begin rfl rfl rfl (by decide +kernel) ⟨Nat.le_of_ble_eq_true rfl, Nat.le_of_ble_eq_true rfl⟩ (va_recv hK hP (ci := 3) (q0 := 18) rfl sl_aM) rfl hl.1 rfl (Nat.le_of_ble_eq_true rfl) dX3_reform_75 ⟨Nat.zero_le _, Nat.zero_le _⟩ hK hN hD hP hS (fun H locs hP hS => ?_)
      refine W.eq (g2 := F0 m 78 ls [.int (-1 : Int32)]) rfl ?_
      refine lv_istore (lv' := [(4, .int (-1 : Int32)), (3, .int (0 : Int32)), (0, .ref (ad (18))), (1, .int q), (2, .int a)]) hx hb dX3_reform_78 hl (by decide) rfl (fun ls hl => ?_)
      refine lv_iload hx hb dX3_reform_80 (lv_at hl 0 rfl) ?_
      refine lv_if_ne (tgt := 101) hx hb dX3_reform_82 (by decide) (fun _ => ?_) (fun h9 => absurd h9 (by decide))
      refine lv_iload hx hb dX3_reform_101 (lv_at hl 0 rfl) ?_
      exact sl_iret hx hb hr hlocks hP hS rfl rfl rfl dX3_reform_103
    · refine lv_iconst (v := (1 : Int32)) hx hb dX3_reform_10 (by decide) ?_
      refine lv_goto (tgt := 15) hx hb dX3_reform_11 (by decide) ?_
      refine lv_istore_n (lv' := [(3, .int (1 : Int32)), (0, .ref (ad (18))), (1, .int q), (2, .int a)]) hx hb dX3_reform_15 rfl hl (by decide) rfl (fun ls hl => ?_)
      refine lv_iload_n hx hb dX3_reform_16 rfl (lv_at hl 2 rfl) ?_
      refine lv_if_lt (tgt := 71) hx hb dX3_reform_17 (by decide) (fun h9 => absurd h9 hq) (fun _ => ?_)
      refine lv_iload_n hx hb dX3_reform_20 rfl (lv_at hl 2 rfl) ?_
      refine lv_iconst (v := (2 : Int32)) hx hb dX3_reform_21 (by decide) ?_
      refine lv_icmp_gt (tgt := 71) hx hb dX3_reform_22 (by decide) (fun _ => ?_) (fun h9 => absurd (sl_gt hq2) h9)
      refine lv_aload_n hx hb dX3_reform_71 rfl (lv_at hl 1 rfl) ?_
      refine lv_iload_n hx hb dX3_reform_72 rfl (lv_at hl 2 rfl) ?_
      refine lv_iconst (v := (5 : Int32)) hx hb dX3_reform_73 (by decide) ?_
      refine lv_iload_n hx hb dX3_reform_74 rfl (lv_at hl 0 rfl) ?_
      refine sl_cV (n := 3) (As := [.int q, .int (5 : Int32), .int (1 : Int32)]) (rest := []) ⟨hx, hb, hml, hown, hts⟩ (c_X3_begin_big l G cy ad σ τ q (5 : Int32) (1 : Int32) hq hq2) gX3_reform_X3_begin rfl rfl rfl (by decide +kernel) ⟨Nat.le_of_ble_eq_true rfl, Nat.le_of_ble_eq_true rfl⟩ (va_recv hK hP (ci := 3) (q0 := 18) rfl sl_aM) rfl hl.1 rfl (Nat.le_of_ble_eq_true rfl) dX3_reform_75 ⟨Nat.zero_le _, Nat.zero_le _⟩ hK hN hD hP hS (fun H locs hP hS => ?_)
      refine W.eq (g2 := F0 m 78 ls [.int (-1 : Int32)]) rfl ?_
      refine lv_istore (lv' := [(4, .int (-1 : Int32)), (3, .int (1 : Int32)), (0, .ref (ad (18))), (1, .int q), (2, .int a)]) hx hb dX3_reform_78 hl (by decide) rfl (fun ls hl => ?_)
      refine lv_iload hx hb dX3_reform_80 (lv_at hl 0 rfl) ?_
      refine lv_if_ne (tgt := 101) hx hb dX3_reform_82 (by decide) (fun _ => ?_) (fun h9 => absurd h9 (by decide))
      refine lv_iload hx hb dX3_reform_101 (lv_at hl 0 rfl) ?_
      exact sl_iret hx hb hr hlocks hP hS rfl rfl rfl dX3_reform_103
theorem c_X3_reform_out (l : Launch) (G : va_G) (cy : Nat → ClassId) (ad : Nat → Nat) (σ τ : sl_M) (q : Int32) (a : Int32) (ho : ¬ vp_in q 3) : sl_C l G cy ad yX3_reform wsX3_reform ({ frames := 1, cells := 0, slots := 0, locals := 23 }) [.ref (ad (18)), .int q, .int a] σ τ (some (.int (-1 : Int32))) σ τ := by
  by_cases h : q < 0
  · exact c_X3_reform_neg l G cy ad σ τ q a h
  · exact c_X3_reform_big l G cy ad σ τ q a h (sl_nb ho h rfl)
set_option maxHeartbeats 4000000 in
set_option maxRecDepth 100000 in
theorem c_X3_step_neg (l : Launch) (G : va_G) (cy : Nat → ClassId) (ad : Nat → Nat) (σ τ : sl_M) (q : Int32) (hq : q < 0) : sl_C l G cy ad yX3_step wsX3_step ({ frames := 0, cells := 0, slots := 0, locals := 0 }) [.ref (ad (18)), .int q] σ τ (some (.int (-1 : Int32))) σ τ := by
  refine sl_of (cc := cX3_step) (maxL := 2) (ret := (some .int)) (by decide) rfl (Nat.le_of_ble_eq_true rfl) ?_
  intro p e s m below meth c hx hb hr hml hts hown hlocks hK hN hD hP hS ls hl
  have hown : s.vm.findClass RX3 = some m.cls := hown
  have hl : lv_has ls 2 [(0, .ref (ad (18))), (1, .int q)] := hl
  refine lv_iload_n hx hb dX3_step_0 rfl (lv_at hl 1 rfl) ?_
  refine lv_if_lt (tgt := 9) hx hb dX3_step_1 (by decide) (fun _ => ?_) (fun h9 => absurd hq h9)
  refine lv_iconst (v := (-1 : Int32)) hx hb dX3_step_9 (by decide) ?_
  exact sl_iret hx hb hr hlocks hP hS rfl rfl rfl dX3_step_10
set_option maxHeartbeats 4000000 in
set_option maxRecDepth 100000 in
theorem c_X3_step_big (l : Launch) (G : va_G) (cy : Nat → ClassId) (ad : Nat → Nat) (σ τ : sl_M) (q : Int32) (hq : ¬ q < 0) (hq2 : ¬ q ≤ (2 : Int32)) : sl_C l G cy ad yX3_step wsX3_step ({ frames := 0, cells := 0, slots := 0, locals := 0 }) [.ref (ad (18)), .int q] σ τ (some (.int (-1 : Int32))) σ τ := by
  refine sl_of (cc := cX3_step) (maxL := 2) (ret := (some .int)) (by decide) rfl (Nat.le_of_ble_eq_true rfl) ?_
  intro p e s m below meth c hx hb hr hml hts hown hlocks hK hN hD hP hS ls hl
  have hown : s.vm.findClass RX3 = some m.cls := hown
  have hl : lv_has ls 2 [(0, .ref (ad (18))), (1, .int q)] := hl
  refine lv_iload_n hx hb dX3_step_0 rfl (lv_at hl 1 rfl) ?_
  refine lv_if_lt (tgt := 9) hx hb dX3_step_1 (by decide) (fun h9 => absurd h9 hq) (fun _ => ?_)
  refine lv_iload_n hx hb dX3_step_4 rfl (lv_at hl 1 rfl) ?_
  refine lv_iconst (v := (2 : Int32)) hx hb dX3_step_5 (by decide) ?_
  refine lv_icmp_le (tgt := 11) hx hb dX3_step_6 (by decide) (fun h9 => absurd h9 hq2) (fun _ => ?_)
  refine lv_iconst (v := (-1 : Int32)) hx hb dX3_step_9 (by decide) ?_
  exact sl_iret hx hb hr hlocks hP hS rfl rfl rfl dX3_step_10
theorem c_X3_step_out (l : Launch) (G : va_G) (cy : Nat → ClassId) (ad : Nat → Nat) (σ τ : sl_M) (q : Int32) (ho : ¬ vp_in q 3) : sl_C l G cy ad yX3_step wsX3_step ({ frames := 0, cells := 0, slots := 0, locals := 0 }) [.ref (ad (18)), .int q] σ τ (some (.int (-1 : Int32))) σ τ := by
  by_cases h : q < 0
  · exact c_X3_step_neg l G cy ad σ τ q h
  · exact c_X3_step_big l G cy ad σ τ q h (sl_nb ho h rfl)
set_option maxHeartbeats 4000000 in
set_option maxRecDepth 100000 in
theorem c_X3_refresh_neg (l : Launch) (G : va_G) (cy : Nat → ClassId) (ad : Nat → Nat) (σ τ : sl_M) (q : Int32) (hq : q < 0) : sl_C l G cy ad yX3_refresh wsX3_refresh ({ frames := 0, cells := 0, slots := 0, locals := 0 }) [.ref (ad (18)), .int q] σ τ (some (.int (-1 : Int32))) σ τ := by
  refine sl_of (cc := cX3_refresh) (maxL := 2) (ret := (some .int)) (by decide) rfl (Nat.le_of_ble_eq_true rfl) ?_
  intro p e s m below meth c hx hb hr hml hts hown hlocks hK hN hD hP hS ls hl
  have hown : s.vm.findClass RX3 = some m.cls := hown
  have hl : lv_has ls 2 [(0, .ref (ad (18))), (1, .int q)] := hl
  refine lv_iload_n hx hb dX3_refresh_0 rfl (lv_at hl 1 rfl) ?_
  refine lv_if_lt (tgt := 9) hx hb dX3_refresh_1 (by decide) (fun _ => ?_) (fun h9 => absurd hq h9)
  refine lv_iconst (v := (-1 : Int32)) hx hb dX3_refresh_9 (by decide) ?_
  exact sl_iret hx hb hr hlocks hP hS rfl rfl rfl dX3_refresh_10
set_option maxHeartbeats 4000000 in
set_option maxRecDepth 100000 in
theorem c_X3_refresh_big (l : Launch) (G : va_G) (cy : Nat → ClassId) (ad : Nat → Nat) (σ τ : sl_M) (q : Int32) (hq : ¬ q < 0) (hq2 : ¬ q ≤ (2 : Int32)) : sl_C l G cy ad yX3_refresh wsX3_refresh ({ frames := 0, cells := 0, slots := 0, locals := 0 }) [.ref (ad (18)), .int q] σ τ (some (.int (-1 : Int32))) σ τ := by
  refine sl_of (cc := cX3_refresh) (maxL := 2) (ret := (some .int)) (by decide) rfl (Nat.le_of_ble_eq_true rfl) ?_
  intro p e s m below meth c hx hb hr hml hts hown hlocks hK hN hD hP hS ls hl
  have hown : s.vm.findClass RX3 = some m.cls := hown
  have hl : lv_has ls 2 [(0, .ref (ad (18))), (1, .int q)] := hl
  refine lv_iload_n hx hb dX3_refresh_0 rfl (lv_at hl 1 rfl) ?_
  refine lv_if_lt (tgt := 9) hx hb dX3_refresh_1 (by decide) (fun h9 => absurd h9 hq) (fun _ => ?_)
  refine lv_iload_n hx hb dX3_refresh_4 rfl (lv_at hl 1 rfl) ?_
  refine lv_iconst (v := (2 : Int32)) hx hb dX3_refresh_5 (by decide) ?_
  refine lv_icmp_le (tgt := 11) hx hb dX3_refresh_6 (by decide) (fun h9 => absurd h9 hq2) (fun _ => ?_)
  refine lv_iconst (v := (-1 : Int32)) hx hb dX3_refresh_9 (by decide) ?_
  exact sl_iret hx hb hr hlocks hP hS rfl rfl rfl dX3_refresh_10
theorem c_X3_refresh_out (l : Launch) (G : va_G) (cy : Nat → ClassId) (ad : Nat → Nat) (σ τ : sl_M) (q : Int32) (ho : ¬ vp_in q 3) : sl_C l G cy ad yX3_refresh wsX3_refresh ({ frames := 0, cells := 0, slots := 0, locals := 0 }) [.ref (ad (18)), .int q] σ τ (some (.int (-1 : Int32))) σ τ := by
  by_cases h : q < 0
  · exact c_X3_refresh_neg l G cy ad σ τ q h
  · exact c_X3_refresh_big l G cy ad σ τ q h (sl_nb ho h rfl)
set_option maxHeartbeats 4000000 in
set_option maxRecDepth 100000 in
theorem c_X3_busy_neg (l : Launch) (G : va_G) (cy : Nat → ClassId) (ad : Nat → Nat) (σ τ : sl_M) (q : Int32) (hq : q < 0) : sl_C l G cy ad yX3_busy wsX3_busy ({ frames := 0, cells := 0, slots := 0, locals := 0 }) [.ref (ad (18)), .int q] σ τ (some (.int (-9 : Int32))) σ τ := by
  refine sl_of (cc := cX3_busy) (maxL := 2) (ret := (some .int)) (by decide) rfl (Nat.le_of_ble_eq_true rfl) ?_
  intro p e s m below meth c hx hb hr hml hts hown hlocks hK hN hD hP hS ls hl
  have hown : s.vm.findClass RX3 = some m.cls := hown
  have hl : lv_has ls 2 [(0, .ref (ad (18))), (1, .int q)] := hl
  refine lv_iload_n hx hb dX3_busy_0 rfl (lv_at hl 1 rfl) ?_
  refine lv_if_lt (tgt := 9) hx hb dX3_busy_1 (by decide) (fun _ => ?_) (fun h9 => absurd hq h9)
  refine lv_bipush (v := (-9 : Int32)) hx hb dX3_busy_9 (by decide) ?_
  refine lv_goto (tgt := 20) hx hb dX3_busy_11 (by decide) ?_
  exact sl_iret hx hb hr hlocks hP hS rfl rfl rfl dX3_busy_20
set_option maxHeartbeats 4000000 in
set_option maxRecDepth 100000 in
theorem c_X3_busy_big (l : Launch) (G : va_G) (cy : Nat → ClassId) (ad : Nat → Nat) (σ τ : sl_M) (q : Int32) (hq : ¬ q < 0) (hq2 : ¬ q ≤ (2 : Int32)) : sl_C l G cy ad yX3_busy wsX3_busy ({ frames := 0, cells := 0, slots := 0, locals := 0 }) [.ref (ad (18)), .int q] σ τ (some (.int (-9 : Int32))) σ τ := by
  refine sl_of (cc := cX3_busy) (maxL := 2) (ret := (some .int)) (by decide) rfl (Nat.le_of_ble_eq_true rfl) ?_
  intro p e s m below meth c hx hb hr hml hts hown hlocks hK hN hD hP hS ls hl
  have hown : s.vm.findClass RX3 = some m.cls := hown
  have hl : lv_has ls 2 [(0, .ref (ad (18))), (1, .int q)] := hl
  refine lv_iload_n hx hb dX3_busy_0 rfl (lv_at hl 1 rfl) ?_
  refine lv_if_lt (tgt := 9) hx hb dX3_busy_1 (by decide) (fun h9 => absurd h9 hq) (fun _ => ?_)
  refine lv_iload_n hx hb dX3_busy_4 rfl (lv_at hl 1 rfl) ?_
  refine lv_iconst (v := (2 : Int32)) hx hb dX3_busy_5 (by decide) ?_
  refine lv_icmp_le (tgt := 14) hx hb dX3_busy_6 (by decide) (fun h9 => absurd h9 hq2) (fun _ => ?_)
  refine lv_bipush (v := (-9 : Int32)) hx hb dX3_busy_9 (by decide) ?_
  refine lv_goto (tgt := 20) hx hb dX3_busy_11 (by decide) ?_
  exact sl_iret hx hb hr hlocks hP hS rfl rfl rfl dX3_busy_20
theorem c_X3_busy_out (l : Launch) (G : va_G) (cy : Nat → ClassId) (ad : Nat → Nat) (σ τ : sl_M) (q : Int32) (ho : ¬ vp_in q 3) : sl_C l G cy ad yX3_busy wsX3_busy ({ frames := 0, cells := 0, slots := 0, locals := 0 }) [.ref (ad (18)), .int q] σ τ (some (.int (-9 : Int32))) σ τ := by
  by_cases h : q < 0
  · exact c_X3_busy_neg l G cy ad σ τ q h
  · exact c_X3_busy_big l G cy ad σ τ q h (sl_nb ho h rfl)
set_option maxHeartbeats 4000000 in
set_option maxRecDepth 100000 in
theorem c_X3_outcome_neg (l : Launch) (G : va_G) (cy : Nat → ClassId) (ad : Nat → Nat) (σ τ : sl_M) (q : Int32) (hq : q < 0) : sl_C l G cy ad yX3_outcome wsX3_outcome ({ frames := 0, cells := 0, slots := 0, locals := 0 }) [.ref (ad (18)), .int q] σ τ (some (.int (-9 : Int32))) σ τ := by
  refine sl_of (cc := cX3_outcome) (maxL := 2) (ret := (some .int)) (by decide) rfl (Nat.le_of_ble_eq_true rfl) ?_
  intro p e s m below meth c hx hb hr hml hts hown hlocks hK hN hD hP hS ls hl
  have hown : s.vm.findClass RX3 = some m.cls := hown
  have hl : lv_has ls 2 [(0, .ref (ad (18))), (1, .int q)] := hl
  refine lv_iload_n hx hb dX3_outcome_0 rfl (lv_at hl 1 rfl) ?_
  refine lv_if_lt (tgt := 9) hx hb dX3_outcome_1 (by decide) (fun _ => ?_) (fun h9 => absurd hq h9)
  refine lv_bipush (v := (-9 : Int32)) hx hb dX3_outcome_9 (by decide) ?_
  refine lv_goto (tgt := 20) hx hb dX3_outcome_11 (by decide) ?_
  exact sl_iret hx hb hr hlocks hP hS rfl rfl rfl dX3_outcome_20
set_option maxHeartbeats 4000000 in
set_option maxRecDepth 100000 in
theorem c_X3_outcome_big (l : Launch) (G : va_G) (cy : Nat → ClassId) (ad : Nat → Nat) (σ τ : sl_M) (q : Int32) (hq : ¬ q < 0) (hq2 : ¬ q ≤ (2 : Int32)) : sl_C l G cy ad yX3_outcome wsX3_outcome ({ frames := 0, cells := 0, slots := 0, locals := 0 }) [.ref (ad (18)), .int q] σ τ (some (.int (-9 : Int32))) σ τ := by
  refine sl_of (cc := cX3_outcome) (maxL := 2) (ret := (some .int)) (by decide) rfl (Nat.le_of_ble_eq_true rfl) ?_
  intro p e s m below meth c hx hb hr hml hts hown hlocks hK hN hD hP hS ls hl
  have hown : s.vm.findClass RX3 = some m.cls := hown
  have hl : lv_has ls 2 [(0, .ref (ad (18))), (1, .int q)] := hl
  refine lv_iload_n hx hb dX3_outcome_0 rfl (lv_at hl 1 rfl) ?_
  refine lv_if_lt (tgt := 9) hx hb dX3_outcome_1 (by decide) (fun h9 => absurd h9 hq) (fun _ => ?_)
  refine lv_iload_n hx hb dX3_outcome_4 rfl (lv_at hl 1 rfl) ?_
  refine lv_iconst (v := (2 : Int32)) hx hb dX3_outcome_5 (by decide) ?_
  refine lv_icmp_le (tgt := 14) hx hb dX3_outcome_6 (by decide) (fun h9 => absurd h9 hq2) (fun _ => ?_)
  refine lv_bipush (v := (-9 : Int32)) hx hb dX3_outcome_9 (by decide) ?_
  refine lv_goto (tgt := 20) hx hb dX3_outcome_11 (by decide) ?_
  exact sl_iret hx hb hr hlocks hP hS rfl rfl rfl dX3_outcome_20
theorem c_X3_outcome_out (l : Launch) (G : va_G) (cy : Nat → ClassId) (ad : Nat → Nat) (σ τ : sl_M) (q : Int32) (ho : ¬ vp_in q 3) : sl_C l G cy ad yX3_outcome wsX3_outcome ({ frames := 0, cells := 0, slots := 0, locals := 0 }) [.ref (ad (18)), .int q] σ τ (some (.int (-9 : Int32))) σ τ := by
  by_cases h : q < 0
  · exact c_X3_outcome_neg l G cy ad σ τ q h
  · exact c_X3_outcome_big l G cy ad σ τ q h (sl_nb ho h rfl)
set_option maxHeartbeats 4000000 in
set_option maxRecDepth 100000 in
theorem c_X3_number_neg (l : Launch) (G : va_G) (cy : Nat → ClassId) (ad : Nat → Nat) (σ τ : sl_M) (q : Int32) (hq : q < 0) : sl_C l G cy ad yX3_number wsX3_number ({ frames := 0, cells := 0, slots := 0, locals := 0 }) [.ref (ad (18)), .int q] σ τ (some (.int (-9 : Int32))) σ τ := by
  refine sl_of (cc := cX3_number) (maxL := 2) (ret := (some .int)) (by decide) rfl (Nat.le_of_ble_eq_true rfl) ?_
  intro p e s m below meth c hx hb hr hml hts hown hlocks hK hN hD hP hS ls hl
  have hown : s.vm.findClass RX3 = some m.cls := hown
  have hl : lv_has ls 2 [(0, .ref (ad (18))), (1, .int q)] := hl
  refine lv_iload_n hx hb dX3_number_0 rfl (lv_at hl 1 rfl) ?_
  refine lv_if_lt (tgt := 9) hx hb dX3_number_1 (by decide) (fun _ => ?_) (fun h9 => absurd hq h9)
  refine lv_bipush (v := (-9 : Int32)) hx hb dX3_number_9 (by decide) ?_
  refine lv_goto (tgt := 20) hx hb dX3_number_11 (by decide) ?_
  exact sl_iret hx hb hr hlocks hP hS rfl rfl rfl dX3_number_20
set_option maxHeartbeats 4000000 in
set_option maxRecDepth 100000 in
theorem c_X3_number_big (l : Launch) (G : va_G) (cy : Nat → ClassId) (ad : Nat → Nat) (σ τ : sl_M) (q : Int32) (hq : ¬ q < 0) (hq2 : ¬ q ≤ (2 : Int32)) : sl_C l G cy ad yX3_number wsX3_number ({ frames := 0, cells := 0, slots := 0, locals := 0 }) [.ref (ad (18)), .int q] σ τ (some (.int (-9 : Int32))) σ τ := by
  refine sl_of (cc := cX3_number) (maxL := 2) (ret := (some .int)) (by decide) rfl (Nat.le_of_ble_eq_true rfl) ?_
  intro p e s m below meth c hx hb hr hml hts hown hlocks hK hN hD hP hS ls hl
  have hown : s.vm.findClass RX3 = some m.cls := hown
  have hl : lv_has ls 2 [(0, .ref (ad (18))), (1, .int q)] := hl
  refine lv_iload_n hx hb dX3_number_0 rfl (lv_at hl 1 rfl) ?_
  refine lv_if_lt (tgt := 9) hx hb dX3_number_1 (by decide) (fun h9 => absurd h9 hq) (fun _ => ?_)
  refine lv_iload_n hx hb dX3_number_4 rfl (lv_at hl 1 rfl) ?_
  refine lv_iconst (v := (2 : Int32)) hx hb dX3_number_5 (by decide) ?_
  refine lv_icmp_le (tgt := 14) hx hb dX3_number_6 (by decide) (fun h9 => absurd h9 hq2) (fun _ => ?_)
  refine lv_bipush (v := (-9 : Int32)) hx hb dX3_number_9 (by decide) ?_
  refine lv_goto (tgt := 20) hx hb dX3_number_11 (by decide) ?_
  exact sl_iret hx hb hr hlocks hP hS rfl rfl rfl dX3_number_20
theorem c_X3_number_out (l : Launch) (G : va_G) (cy : Nat → ClassId) (ad : Nat → Nat) (σ τ : sl_M) (q : Int32) (ho : ¬ vp_in q 3) : sl_C l G cy ad yX3_number wsX3_number ({ frames := 0, cells := 0, slots := 0, locals := 0 }) [.ref (ad (18)), .int q] σ τ (some (.int (-9 : Int32))) σ τ := by
  by_cases h : q < 0
  · exact c_X3_number_neg l G cy ad σ τ q h
  · exact c_X3_number_big l G cy ad σ τ q h (sl_nb ho h rfl)
set_option maxHeartbeats 4000000 in
set_option maxRecDepth 100000 in
theorem c_X3_epochOf_neg (l : Launch) (G : va_G) (cy : Nat → ClassId) (ad : Nat → Nat) (σ τ : sl_M) (q : Int32) (hq : q < 0) : sl_C l G cy ad yX3_epochOf wsX3_epochOf ({ frames := 0, cells := 0, slots := 0, locals := 0 }) [.ref (ad (18)), .int q] σ τ (some (.int (-9 : Int32))) σ τ := by
  refine sl_of (cc := cX3_epochOf) (maxL := 2) (ret := (some .int)) (by decide) rfl (Nat.le_of_ble_eq_true rfl) ?_
  intro p e s m below meth c hx hb hr hml hts hown hlocks hK hN hD hP hS ls hl
  have hown : s.vm.findClass RX3 = some m.cls := hown
  have hl : lv_has ls 2 [(0, .ref (ad (18))), (1, .int q)] := hl
  refine lv_iload_n hx hb dX3_epochOf_0 rfl (lv_at hl 1 rfl) ?_
  refine lv_if_lt (tgt := 9) hx hb dX3_epochOf_1 (by decide) (fun _ => ?_) (fun h9 => absurd hq h9)
  refine lv_bipush (v := (-9 : Int32)) hx hb dX3_epochOf_9 (by decide) ?_
  refine lv_goto (tgt := 20) hx hb dX3_epochOf_11 (by decide) ?_
  exact sl_iret hx hb hr hlocks hP hS rfl rfl rfl dX3_epochOf_20
set_option maxHeartbeats 4000000 in
set_option maxRecDepth 100000 in
theorem c_X3_epochOf_big (l : Launch) (G : va_G) (cy : Nat → ClassId) (ad : Nat → Nat) (σ τ : sl_M) (q : Int32) (hq : ¬ q < 0) (hq2 : ¬ q ≤ (2 : Int32)) : sl_C l G cy ad yX3_epochOf wsX3_epochOf ({ frames := 0, cells := 0, slots := 0, locals := 0 }) [.ref (ad (18)), .int q] σ τ (some (.int (-9 : Int32))) σ τ := by
  refine sl_of (cc := cX3_epochOf) (maxL := 2) (ret := (some .int)) (by decide) rfl (Nat.le_of_ble_eq_true rfl) ?_
  intro p e s m below meth c hx hb hr hml hts hown hlocks hK hN hD hP hS ls hl
  have hown : s.vm.findClass RX3 = some m.cls := hown
  have hl : lv_has ls 2 [(0, .ref (ad (18))), (1, .int q)] := hl
  refine lv_iload_n hx hb dX3_epochOf_0 rfl (lv_at hl 1 rfl) ?_
  refine lv_if_lt (tgt := 9) hx hb dX3_epochOf_1 (by decide) (fun h9 => absurd h9 hq) (fun _ => ?_)
  refine lv_iload_n hx hb dX3_epochOf_4 rfl (lv_at hl 1 rfl) ?_
  refine lv_iconst (v := (2 : Int32)) hx hb dX3_epochOf_5 (by decide) ?_
  refine lv_icmp_le (tgt := 14) hx hb dX3_epochOf_6 (by decide) (fun h9 => absurd h9 hq2) (fun _ => ?_)
  refine lv_bipush (v := (-9 : Int32)) hx hb dX3_epochOf_9 (by decide) ?_
  refine lv_goto (tgt := 20) hx hb dX3_epochOf_11 (by decide) ?_
  exact sl_iret hx hb hr hlocks hP hS rfl rfl rfl dX3_epochOf_20
theorem c_X3_epochOf_out (l : Launch) (G : va_G) (cy : Nat → ClassId) (ad : Nat → Nat) (σ τ : sl_M) (q : Int32) (ho : ¬ vp_in q 3) : sl_C l G cy ad yX3_epochOf wsX3_epochOf ({ frames := 0, cells := 0, slots := 0, locals := 0 }) [.ref (ad (18)), .int q] σ τ (some (.int (-9 : Int32))) σ τ := by
  by_cases h : q < 0
  · exact c_X3_epochOf_neg l G cy ad σ τ q h
  · exact c_X3_epochOf_big l G cy ad σ τ q h (sl_nb ho h rfl)
set_option maxHeartbeats 4000000 in
set_option maxRecDepth 100000 in
theorem c_X3_membersOf_neg (l : Launch) (G : va_G) (cy : Nat → ClassId) (ad : Nat → Nat) (σ τ : sl_M) (q : Int32) (hq : q < 0) : sl_C l G cy ad yX3_membersOf wsX3_membersOf ({ frames := 0, cells := 0, slots := 0, locals := 0 }) [.ref (ad (18)), .int q] σ τ (some (.int (-9 : Int32))) σ τ := by
  refine sl_of (cc := cX3_membersOf) (maxL := 2) (ret := (some .int)) (by decide) rfl (Nat.le_of_ble_eq_true rfl) ?_
  intro p e s m below meth c hx hb hr hml hts hown hlocks hK hN hD hP hS ls hl
  have hown : s.vm.findClass RX3 = some m.cls := hown
  have hl : lv_has ls 2 [(0, .ref (ad (18))), (1, .int q)] := hl
  refine lv_iload_n hx hb dX3_membersOf_0 rfl (lv_at hl 1 rfl) ?_
  refine lv_if_lt (tgt := 9) hx hb dX3_membersOf_1 (by decide) (fun _ => ?_) (fun h9 => absurd hq h9)
  refine lv_bipush (v := (-9 : Int32)) hx hb dX3_membersOf_9 (by decide) ?_
  refine lv_goto (tgt := 20) hx hb dX3_membersOf_11 (by decide) ?_
  exact sl_iret hx hb hr hlocks hP hS rfl rfl rfl dX3_membersOf_20
set_option maxHeartbeats 4000000 in
set_option maxRecDepth 100000 in
theorem c_X3_membersOf_big (l : Launch) (G : va_G) (cy : Nat → ClassId) (ad : Nat → Nat) (σ τ : sl_M) (q : Int32) (hq : ¬ q < 0) (hq2 : ¬ q ≤ (2 : Int32)) : sl_C l G cy ad yX3_membersOf wsX3_membersOf ({ frames := 0, cells := 0, slots := 0, locals := 0 }) [.ref (ad (18)), .int q] σ τ (some (.int (-9 : Int32))) σ τ := by
  refine sl_of (cc := cX3_membersOf) (maxL := 2) (ret := (some .int)) (by decide) rfl (Nat.le_of_ble_eq_true rfl) ?_
  intro p e s m below meth c hx hb hr hml hts hown hlocks hK hN hD hP hS ls hl
  have hown : s.vm.findClass RX3 = some m.cls := hown
  have hl : lv_has ls 2 [(0, .ref (ad (18))), (1, .int q)] := hl
  refine lv_iload_n hx hb dX3_membersOf_0 rfl (lv_at hl 1 rfl) ?_
  refine lv_if_lt (tgt := 9) hx hb dX3_membersOf_1 (by decide) (fun h9 => absurd h9 hq) (fun _ => ?_)
  refine lv_iload_n hx hb dX3_membersOf_4 rfl (lv_at hl 1 rfl) ?_
  refine lv_iconst (v := (2 : Int32)) hx hb dX3_membersOf_5 (by decide) ?_
  refine lv_icmp_le (tgt := 14) hx hb dX3_membersOf_6 (by decide) (fun h9 => absurd h9 hq2) (fun _ => ?_)
  refine lv_bipush (v := (-9 : Int32)) hx hb dX3_membersOf_9 (by decide) ?_
  refine lv_goto (tgt := 20) hx hb dX3_membersOf_11 (by decide) ?_
  exact sl_iret hx hb hr hlocks hP hS rfl rfl rfl dX3_membersOf_20
theorem c_X3_membersOf_out (l : Launch) (G : va_G) (cy : Nat → ClassId) (ad : Nat → Nat) (σ τ : sl_M) (q : Int32) (ho : ¬ vp_in q 3) : sl_C l G cy ad yX3_membersOf wsX3_membersOf ({ frames := 0, cells := 0, slots := 0, locals := 0 }) [.ref (ad (18)), .int q] σ τ (some (.int (-9 : Int32))) σ τ := by
  by_cases h : q < 0
  · exact c_X3_membersOf_neg l G cy ad σ τ q h
  · exact c_X3_membersOf_big l G cy ad σ τ q h (sl_nb ho h rfl)
set_option maxHeartbeats 4000000 in
set_option maxRecDepth 100000 in
theorem c_X3_setUp_neg (l : Launch) (G : va_G) (cy : Nat → ClassId) (ad : Nat → Nat) (σ τ : sl_M) (u : Int32) (a : Int32) (hq : u < 0) : sl_C l G cy ad yX3_setUp wsX3_setUp ({ frames := 0, cells := 0, slots := 0, locals := 0 }) [.ref (ad (18)), .int u, .int a] σ τ (some (.int (0 : Int32))) σ τ := by
  refine sl_of (cc := cX3_setUp) (maxL := 3) (ret := (some .boolean)) (by decide) rfl (Nat.le_of_ble_eq_true rfl) ?_
  intro p e s m below meth c hx hb hr hml hts hown hlocks hK hN hD hP hS ls hl
  have hown : s.vm.findClass RX3 = some m.cls := hown
  have hl : lv_has ls 3 [(0, .ref (ad (18))), (1, .int u), (2, .int a)] := hl
  refine lv_iload_n hx hb dX3_setUp_0 rfl (lv_at hl 1 rfl) ?_
  refine lv_if_lt (tgt := 9) hx hb dX3_setUp_1 (by decide) (fun _ => ?_) (fun h9 => absurd hq h9)
  refine lv_iconst (v := (0 : Int32)) hx hb dX3_setUp_9 (by decide) ?_
  exact sl_zret hx hb hr hlocks (by decide) hP hS rfl rfl rfl dX3_setUp_10
set_option maxHeartbeats 4000000 in
set_option maxRecDepth 100000 in
theorem c_X3_setUp_big (l : Launch) (G : va_G) (cy : Nat → ClassId) (ad : Nat → Nat) (σ τ : sl_M) (u : Int32) (a : Int32) (hq : ¬ u < 0) (hq2 : ¬ u ≤ (5 : Int32)) : sl_C l G cy ad yX3_setUp wsX3_setUp ({ frames := 0, cells := 0, slots := 0, locals := 0 }) [.ref (ad (18)), .int u, .int a] σ τ (some (.int (0 : Int32))) σ τ := by
  refine sl_of (cc := cX3_setUp) (maxL := 3) (ret := (some .boolean)) (by decide) rfl (Nat.le_of_ble_eq_true rfl) ?_
  intro p e s m below meth c hx hb hr hml hts hown hlocks hK hN hD hP hS ls hl
  have hown : s.vm.findClass RX3 = some m.cls := hown
  have hl : lv_has ls 3 [(0, .ref (ad (18))), (1, .int u), (2, .int a)] := hl
  refine lv_iload_n hx hb dX3_setUp_0 rfl (lv_at hl 1 rfl) ?_
  refine lv_if_lt (tgt := 9) hx hb dX3_setUp_1 (by decide) (fun h9 => absurd h9 hq) (fun _ => ?_)
  refine lv_iload_n hx hb dX3_setUp_4 rfl (lv_at hl 1 rfl) ?_
  refine lv_iconst (v := (5 : Int32)) hx hb dX3_setUp_5 (by decide) ?_
  refine lv_icmp_le (tgt := 11) hx hb dX3_setUp_6 (by decide) (fun h9 => absurd h9 hq2) (fun _ => ?_)
  refine lv_iconst (v := (0 : Int32)) hx hb dX3_setUp_9 (by decide) ?_
  exact sl_zret hx hb hr hlocks (by decide) hP hS rfl rfl rfl dX3_setUp_10
theorem c_X3_setUp_out (l : Launch) (G : va_G) (cy : Nat → ClassId) (ad : Nat → Nat) (σ τ : sl_M) (u : Int32) (a : Int32) (ho : ¬ vp_in u 6) : sl_C l G cy ad yX3_setUp wsX3_setUp ({ frames := 0, cells := 0, slots := 0, locals := 0 }) [.ref (ad (18)), .int u, .int a] σ τ (some (.int (0 : Int32))) σ τ := by
  by_cases h : u < 0
  · exact c_X3_setUp_neg l G cy ad σ τ u a h
  · exact c_X3_setUp_big l G cy ad σ τ u a h (sl_nb ho h rfl)
set_option maxHeartbeats 4000000 in
set_option maxRecDepth 100000 in
theorem c_X3_unitEpoch_neg (l : Launch) (G : va_G) (cy : Nat → ClassId) (ad : Nat → Nat) (σ τ : sl_M) (u : Int32) (hq : u < 0) : sl_C l G cy ad yX3_unitEpoch wsX3_unitEpoch ({ frames := 0, cells := 0, slots := 0, locals := 0 }) [.ref (ad (18)), .int u] σ τ (some (.int (-9 : Int32))) σ τ := by
  refine sl_of (cc := cX3_unitEpoch) (maxL := 2) (ret := (some .int)) (by decide) rfl (Nat.le_of_ble_eq_true rfl) ?_
  intro p e s m below meth c hx hb hr hml hts hown hlocks hK hN hD hP hS ls hl
  have hown : s.vm.findClass RX3 = some m.cls := hown
  have hl : lv_has ls 2 [(0, .ref (ad (18))), (1, .int u)] := hl
  refine lv_iload_n hx hb dX3_unitEpoch_0 rfl (lv_at hl 1 rfl) ?_
  refine lv_if_lt (tgt := 9) hx hb dX3_unitEpoch_1 (by decide) (fun _ => ?_) (fun h9 => absurd hq h9)
  refine lv_bipush (v := (-9 : Int32)) hx hb dX3_unitEpoch_9 (by decide) ?_
  refine lv_goto (tgt := 20) hx hb dX3_unitEpoch_11 (by decide) ?_
  exact sl_iret hx hb hr hlocks hP hS rfl rfl rfl dX3_unitEpoch_20
set_option maxHeartbeats 4000000 in
set_option maxRecDepth 100000 in
theorem c_X3_unitEpoch_big (l : Launch) (G : va_G) (cy : Nat → ClassId) (ad : Nat → Nat) (σ τ : sl_M) (u : Int32) (hq : ¬ u < 0) (hq2 : ¬ u ≤ (5 : Int32)) : sl_C l G cy ad yX3_unitEpoch wsX3_unitEpoch ({ frames := 0, cells := 0, slots := 0, locals := 0 }) [.ref (ad (18)), .int u] σ τ (some (.int (-9 : Int32))) σ τ := by
  refine sl_of (cc := cX3_unitEpoch) (maxL := 2) (ret := (some .int)) (by decide) rfl (Nat.le_of_ble_eq_true rfl) ?_
  intro p e s m below meth c hx hb hr hml hts hown hlocks hK hN hD hP hS ls hl
  have hown : s.vm.findClass RX3 = some m.cls := hown
  have hl : lv_has ls 2 [(0, .ref (ad (18))), (1, .int u)] := hl
  refine lv_iload_n hx hb dX3_unitEpoch_0 rfl (lv_at hl 1 rfl) ?_
  refine lv_if_lt (tgt := 9) hx hb dX3_unitEpoch_1 (by decide) (fun h9 => absurd h9 hq) (fun _ => ?_)
  refine lv_iload_n hx hb dX3_unitEpoch_4 rfl (lv_at hl 1 rfl) ?_
  refine lv_iconst (v := (5 : Int32)) hx hb dX3_unitEpoch_5 (by decide) ?_
  refine lv_icmp_le (tgt := 14) hx hb dX3_unitEpoch_6 (by decide) (fun h9 => absurd h9 hq2) (fun _ => ?_)
  refine lv_bipush (v := (-9 : Int32)) hx hb dX3_unitEpoch_9 (by decide) ?_
  refine lv_goto (tgt := 20) hx hb dX3_unitEpoch_11 (by decide) ?_
  exact sl_iret hx hb hr hlocks hP hS rfl rfl rfl dX3_unitEpoch_20
theorem c_X3_unitEpoch_out (l : Launch) (G : va_G) (cy : Nat → ClassId) (ad : Nat → Nat) (σ τ : sl_M) (u : Int32) (ho : ¬ vp_in u 6) : sl_C l G cy ad yX3_unitEpoch wsX3_unitEpoch ({ frames := 0, cells := 0, slots := 0, locals := 0 }) [.ref (ad (18)), .int u] σ τ (some (.int (-9 : Int32))) σ τ := by
  by_cases h : u < 0
  · exact c_X3_unitEpoch_neg l G cy ad σ τ u h
  · exact c_X3_unitEpoch_big l G cy ad σ τ u h (sl_nb ho h rfl)
set_option maxHeartbeats 4000000 in
set_option maxRecDepth 100000 in
theorem c_X3_cell_neg (l : Launch) (G : va_G) (cy : Nat → ClassId) (ad : Nat → Nat) (σ τ : sl_M) (u : Int32) (a : Int32) (hq : u < 0) : sl_C l G cy ad yX3_cell wsX3_cell ({ frames := 0, cells := 0, slots := 0, locals := 0 }) [.ref (ad (18)), .int u, .int a] σ τ (some (.int (-9 : Int32))) σ τ := by
  refine sl_of (cc := cX3_cell) (maxL := 3) (ret := (some .int)) (by decide) rfl (Nat.le_of_ble_eq_true rfl) ?_
  intro p e s m below meth c hx hb hr hml hts hown hlocks hK hN hD hP hS ls hl
  have hown : s.vm.findClass RX3 = some m.cls := hown
  have hl : lv_has ls 3 [(0, .ref (ad (18))), (1, .int u), (2, .int a)] := hl
  refine lv_iload_n hx hb dX3_cell_0 rfl (lv_at hl 1 rfl) ?_
  refine lv_if_lt (tgt := 19) hx hb dX3_cell_1 (by decide) (fun _ => ?_) (fun h9 => absurd hq h9)
  refine lv_bipush (v := (-9 : Int32)) hx hb dX3_cell_19 (by decide) ?_
  refine lv_goto (tgt := 30) hx hb dX3_cell_21 (by decide) ?_
  exact sl_iret hx hb hr hlocks hP hS rfl rfl rfl dX3_cell_30
set_option maxHeartbeats 4000000 in
set_option maxRecDepth 100000 in
theorem c_X3_cell_big (l : Launch) (G : va_G) (cy : Nat → ClassId) (ad : Nat → Nat) (σ τ : sl_M) (u : Int32) (a : Int32) (hq : ¬ u < 0) (hq2 : ¬ u ≤ (5 : Int32)) : sl_C l G cy ad yX3_cell wsX3_cell ({ frames := 0, cells := 0, slots := 0, locals := 0 }) [.ref (ad (18)), .int u, .int a] σ τ (some (.int (-9 : Int32))) σ τ := by
  refine sl_of (cc := cX3_cell) (maxL := 3) (ret := (some .int)) (by decide) rfl (Nat.le_of_ble_eq_true rfl) ?_
  intro p e s m below meth c hx hb hr hml hts hown hlocks hK hN hD hP hS ls hl
  have hown : s.vm.findClass RX3 = some m.cls := hown
  have hl : lv_has ls 3 [(0, .ref (ad (18))), (1, .int u), (2, .int a)] := hl
  refine lv_iload_n hx hb dX3_cell_0 rfl (lv_at hl 1 rfl) ?_
  refine lv_if_lt (tgt := 19) hx hb dX3_cell_1 (by decide) (fun h9 => absurd h9 hq) (fun _ => ?_)
  refine lv_iload_n hx hb dX3_cell_4 rfl (lv_at hl 1 rfl) ?_
  refine lv_iconst (v := (5 : Int32)) hx hb dX3_cell_5 (by decide) ?_
  refine lv_icmp_gt (tgt := 19) hx hb dX3_cell_6 (by decide) (fun _ => ?_) (fun h9 => absurd (sl_gt hq2) h9)
  refine lv_bipush (v := (-9 : Int32)) hx hb dX3_cell_19 (by decide) ?_
  refine lv_goto (tgt := 30) hx hb dX3_cell_21 (by decide) ?_
  exact sl_iret hx hb hr hlocks hP hS rfl rfl rfl dX3_cell_30
theorem c_X3_cell_out (l : Launch) (G : va_G) (cy : Nat → ClassId) (ad : Nat → Nat) (σ τ : sl_M) (u : Int32) (a : Int32) (ho : ¬ vp_in u 6) : sl_C l G cy ad yX3_cell wsX3_cell ({ frames := 0, cells := 0, slots := 0, locals := 0 }) [.ref (ad (18)), .int u, .int a] σ τ (some (.int (-9 : Int32))) σ τ := by
  by_cases h : u < 0
  · exact c_X3_cell_neg l G cy ad σ τ u a h
  · exact c_X3_cell_big l G cy ad σ τ u a h (sl_nb ho h rfl)
