set_option maxHeartbeats 4000000 in
set_option maxRecDepth 100000 in
theorem c_X2_append_out (l : Launch) (G : va_G) (cy : Nat → ClassId) (ad : Nat → Nat) (σ τ : sl_M) (q : Int32) (a : Int32) (hc : ¬ vp_in q 3) : sl_C l G cy ad yX2_append wsX2_append ({ frames := 1, cells := 0, slots := 0, locals := 21 }) [.ref (ad (0)), .int q, .int a] σ τ (some (.int (-1 : Int32))) σ τ := by
  refine sl_of (cc := cX2_append) (maxL := 4) (ret := (some .int)) (by decide) rfl (Nat.le_of_ble_eq_true rfl) ?_
  intro p e s m below meth c hx hb hr hml hts hown hlocks hK hN hD hP hS ls hl
  have hown : s.vm.findClass RX2 = some m.cls := hown
  have hl : lv_has ls 4 [(0, .ref (ad (0))), (1, .int q), (2, .int a)] := hl
  refine lv_aload_n hx hb dX2_append_0 rfl (lv_at hl 0 rfl) ?_
  refine lv_iload_n hx hb dX2_append_1 rfl (lv_at hl 1 rfl) ?_
  refine sl_cV (n := 1) (As := [.int q]) (rest := []) ⟨hx, hb, hml, hown, hts⟩ (c_X2_clientAt_out l G cy ad σ τ q hc) gX2_append_X2_clientAt rfl rfl rfl (by decide +kernel) ⟨Nat.le_of_ble_eq_true rfl, Nat.le_of_ble_eq_true rfl⟩ (va_recv hK hP (ci := 2) (q0 := 0) rfl sl_aL) rfl hl.1 rfl (Nat.le_of_ble_eq_true rfl) dX2_append_2 ⟨Nat.zero_le _, Nat.zero_le _⟩ hK hN hD hP hS (fun H locs hP hS => ?_)
  refine W.eq (g2 := F0 m 5 ls [.null]) rfl ?_
  refine lv_astore_nN (lv' := [(3, .null), (0, .ref (ad (0))), (1, .int q), (2, .int a)]) hx hb dX2_append_5 rfl hl (by decide) rfl (fun ls hl => ?_)
  refine lv_aload_nN hx hb dX2_append_6 rfl (lv_at hl 0 rfl) ?_
  refine lv_ifnonnullN hx hb dX2_append_7 ?_
  refine lv_iconst (v := (-1 : Int32)) hx hb dX2_append_10 (by decide) ?_
  exact sl_iret hx hb hr hlocks hP hS rfl rfl rfl dX2_append_11
set_option maxHeartbeats 4000000 in
set_option maxRecDepth 100000 in
theorem c_X2_fill_out (l : Launch) (G : va_G) (cy : Nat → ClassId) (ad : Nat → Nat) (σ τ : sl_M) (q : Int32) (a : Int32) (hc : ¬ vp_in q 3) : sl_C l G cy ad yX2_fill wsX2_fill ({ frames := 1, cells := 0, slots := 0, locals := 21 }) [.ref (ad (0)), .int q, .int a] σ τ (some (.int (-1 : Int32))) σ τ := by
  refine sl_of (cc := cX2_fill) (maxL := 4) (ret := (some .int)) (by decide) rfl (Nat.le_of_ble_eq_true rfl) ?_
  intro p e s m below meth c hx hb hr hml hts hown hlocks hK hN hD hP hS ls hl
  have hown : s.vm.findClass RX2 = some m.cls := hown
  have hl : lv_has ls 4 [(0, .ref (ad (0))), (1, .int q), (2, .int a)] := hl
  refine lv_aload_n hx hb dX2_fill_0 rfl (lv_at hl 0 rfl) ?_
  refine lv_iload_n hx hb dX2_fill_1 rfl (lv_at hl 1 rfl) ?_
  refine sl_cV (n := 1) (As := [.int q]) (rest := []) ⟨hx, hb, hml, hown, hts⟩ (c_X2_clientAt_out l G cy ad σ τ q hc) gX2_fill_X2_clientAt rfl rfl rfl (by decide +kernel) ⟨Nat.le_of_ble_eq_true rfl, Nat.le_of_ble_eq_true rfl⟩ (va_recv hK hP (ci := 2) (q0 := 0) rfl sl_aL) rfl hl.1 rfl (Nat.le_of_ble_eq_true rfl) dX2_fill_2 ⟨Nat.zero_le _, Nat.zero_le _⟩ hK hN hD hP hS (fun H locs hP hS => ?_)
  refine W.eq (g2 := F0 m 5 ls [.null]) rfl ?_
  refine lv_astore_nN (lv' := [(3, .null), (0, .ref (ad (0))), (1, .int q), (2, .int a)]) hx hb dX2_fill_5 rfl hl (by decide) rfl (fun ls hl => ?_)
  refine lv_aload_nN hx hb dX2_fill_6 rfl (lv_at hl 0 rfl) ?_
  refine lv_ifnonnullN hx hb dX2_fill_7 ?_
  refine lv_iconst (v := (-1 : Int32)) hx hb dX2_fill_10 (by decide) ?_
  exact sl_iret hx hb hr hlocks hP hS rfl rfl rfl dX2_fill_11
set_option maxHeartbeats 4000000 in
set_option maxRecDepth 100000 in
theorem c_X2_read_out (l : Launch) (G : va_G) (cy : Nat → ClassId) (ad : Nat → Nat) (σ τ : sl_M) (q : Int32) (a : Int32) (hc : ¬ vp_in q 3) : sl_C l G cy ad yX2_read wsX2_read ({ frames := 1, cells := 0, slots := 0, locals := 21 }) [.ref (ad (0)), .int q, .int a] σ τ (some (.int (-1 : Int32))) σ τ := by
  refine sl_of (cc := cX2_read) (maxL := 4) (ret := (some .int)) (by decide) rfl (Nat.le_of_ble_eq_true rfl) ?_
  intro p e s m below meth c hx hb hr hml hts hown hlocks hK hN hD hP hS ls hl
  have hown : s.vm.findClass RX2 = some m.cls := hown
  have hl : lv_has ls 4 [(0, .ref (ad (0))), (1, .int q), (2, .int a)] := hl
  refine lv_aload_n hx hb dX2_read_0 rfl (lv_at hl 0 rfl) ?_
  refine lv_iload_n hx hb dX2_read_1 rfl (lv_at hl 1 rfl) ?_
  refine sl_cV (n := 1) (As := [.int q]) (rest := []) ⟨hx, hb, hml, hown, hts⟩ (c_X2_clientAt_out l G cy ad σ τ q hc) gX2_read_X2_clientAt rfl rfl rfl (by decide +kernel) ⟨Nat.le_of_ble_eq_true rfl, Nat.le_of_ble_eq_true rfl⟩ (va_recv hK hP (ci := 2) (q0 := 0) rfl sl_aL) rfl hl.1 rfl (Nat.le_of_ble_eq_true rfl) dX2_read_2 ⟨Nat.zero_le _, Nat.zero_le _⟩ hK hN hD hP hS (fun H locs hP hS => ?_)
  refine W.eq (g2 := F0 m 5 ls [.null]) rfl ?_
  refine lv_astore_nN (lv' := [(3, .null), (0, .ref (ad (0))), (1, .int q), (2, .int a)]) hx hb dX2_read_5 rfl hl (by decide) rfl (fun ls hl => ?_)
  refine lv_aload_nN hx hb dX2_read_6 rfl (lv_at hl 0 rfl) ?_
  refine lv_ifnonnullN hx hb dX2_read_7 ?_
  refine lv_iconst (v := (-1 : Int32)) hx hb dX2_read_10 (by decide) ?_
  exact sl_iret hx hb hr hlocks hP hS rfl rfl rfl dX2_read_11
set_option maxHeartbeats 4000000 in
set_option maxRecDepth 100000 in
theorem c_X2_replay_out (l : Launch) (G : va_G) (cy : Nat → ClassId) (ad : Nat → Nat) (σ τ : sl_M) (q : Int32) (a : Int32) (hc : ¬ vp_in q 3) : sl_C l G cy ad yX2_replay wsX2_replay ({ frames := 1, cells := 0, slots := 0, locals := 21 }) [.ref (ad (0)), .int q, .int a] σ τ (some (.int (-1 : Int32))) σ τ := by
  refine sl_of (cc := cX2_replay) (maxL := 4) (ret := (some .int)) (by decide) rfl (Nat.le_of_ble_eq_true rfl) ?_
  intro p e s m below meth c hx hb hr hml hts hown hlocks hK hN hD hP hS ls hl
  have hown : s.vm.findClass RX2 = some m.cls := hown
  have hl : lv_has ls 4 [(0, .ref (ad (0))), (1, .int q), (2, .int a)] := hl
  refine lv_aload_n hx hb dX2_replay_0 rfl (lv_at hl 0 rfl) ?_
  refine lv_iload_n hx hb dX2_replay_1 rfl (lv_at hl 1 rfl) ?_
  refine sl_cV (n := 1) (As := [.int q]) (rest := []) ⟨hx, hb, hml, hown, hts⟩ (c_X2_clientAt_out l G cy ad σ τ q hc) gX2_replay_X2_clientAt rfl rfl rfl (by decide +kernel) ⟨Nat.le_of_ble_eq_true rfl, Nat.le_of_ble_eq_true rfl⟩ (va_recv hK hP (ci := 2) (q0 := 0) rfl sl_aL) rfl hl.1 rfl (Nat.le_of_ble_eq_true rfl) dX2_replay_2 ⟨Nat.zero_le _, Nat.zero_le _⟩ hK hN hD hP hS (fun H locs hP hS => ?_)
  refine W.eq (g2 := F0 m 5 ls [.null]) rfl ?_
  refine lv_astore_nN (lv' := [(3, .null), (0, .ref (ad (0))), (1, .int q), (2, .int a)]) hx hb dX2_replay_5 rfl hl (by decide) rfl (fun ls hl => ?_)
  refine lv_aload_nN hx hb dX2_replay_6 rfl (lv_at hl 0 rfl) ?_
  refine lv_ifnonnullN hx hb dX2_replay_7 ?_
  refine lv_iconst (v := (-1 : Int32)) hx hb dX2_replay_10 (by decide) ?_
  exact sl_iret hx hb hr hlocks hP hS rfl rfl rfl dX2_replay_11
set_option maxHeartbeats 4000000 in
set_option maxRecDepth 100000 in
theorem c_X2_reform_out (l : Launch) (G : va_G) (cy : Nat → ClassId) (ad : Nat → Nat) (σ τ : sl_M) (q : Int32) (a : Int32) (hc : ¬ vp_in q 3) : sl_C l G cy ad yX2_reform wsX2_reform ({ frames := 1, cells := 0, slots := 0, locals := 21 }) [.ref (ad (0)), .int q, .int a] σ τ (some (.int (-1 : Int32))) σ τ := by
  refine sl_of (cc := cX2_reform) (maxL := 5) (ret := (some .int)) (by decide) rfl (Nat.le_of_ble_eq_true rfl) ?_
  intro p e s m below meth c hx hb hr hml hts hown hlocks hK hN hD hP hS ls hl
  have hown : s.vm.findClass RX2 = some m.cls := hown
  have hl : lv_has ls 5 [(0, .ref (ad (0))), (1, .int q), (2, .int a)] := hl
  refine lv_aload_n hx hb dX2_reform_0 rfl (lv_at hl 0 rfl) ?_
  refine lv_iload_n hx hb dX2_reform_1 rfl (lv_at hl 1 rfl) ?_
  refine sl_cV (n := 1) (As := [.int q]) (rest := []) ⟨hx, hb, hml, hown, hts⟩ (c_X2_clientAt_out l G cy ad σ τ q hc) gX2_reform_X2_clientAt rfl rfl rfl (by decide +kernel) ⟨Nat.le_of_ble_eq_true rfl, Nat.le_of_ble_eq_true rfl⟩ (va_recv hK hP (ci := 2) (q0 := 0) rfl sl_aL) rfl hl.1 rfl (Nat.le_of_ble_eq_true rfl) dX2_reform_2 ⟨Nat.zero_le _, Nat.zero_le _⟩ hK hN hD hP hS (fun H locs hP hS => ?_)
  refine W.eq (g2 := F0 m 5 ls [.null]) rfl ?_
  refine lv_astore_nN (lv' := [(3, .null), (0, .ref (ad (0))), (1, .int q), (2, .int a)]) hx hb dX2_reform_5 rfl hl (by decide) rfl (fun ls hl => ?_)
  refine lv_aload_nN hx hb dX2_reform_6 rfl (lv_at hl 0 rfl) ?_
  refine lv_ifnonnullN hx hb dX2_reform_7 ?_
  refine lv_iconst (v := (-1 : Int32)) hx hb dX2_reform_10 (by decide) ?_
  exact sl_iret hx hb hr hlocks hP hS rfl rfl rfl dX2_reform_11
set_option maxHeartbeats 4000000 in
set_option maxRecDepth 100000 in
theorem c_X2_step_out (l : Launch) (G : va_G) (cy : Nat → ClassId) (ad : Nat → Nat) (σ τ : sl_M) (q : Int32) (hc : ¬ vp_in q 3) : sl_C l G cy ad yX2_step wsX2_step ({ frames := 1, cells := 0, slots := 0, locals := 21 }) [.ref (ad (0)), .int q] σ τ (some (.int (-1 : Int32))) σ τ := by
  refine sl_of (cc := cX2_step) (maxL := 4) (ret := (some .int)) (by decide) rfl (Nat.le_of_ble_eq_true rfl) ?_
  intro p e s m below meth c hx hb hr hml hts hown hlocks hK hN hD hP hS ls hl
  have hown : s.vm.findClass RX2 = some m.cls := hown
  have hl : lv_has ls 4 [(0, .ref (ad (0))), (1, .int q)] := hl
  refine lv_aload_n hx hb dX2_step_0 rfl (lv_at hl 0 rfl) ?_
  refine lv_iload_n hx hb dX2_step_1 rfl (lv_at hl 1 rfl) ?_
  refine sl_cV (n := 1) (As := [.int q]) (rest := []) ⟨hx, hb, hml, hown, hts⟩ (c_X2_clientAt_out l G cy ad σ τ q hc) gX2_step_X2_clientAt rfl rfl rfl (by decide +kernel) ⟨Nat.le_of_ble_eq_true rfl, Nat.le_of_ble_eq_true rfl⟩ (va_recv hK hP (ci := 2) (q0 := 0) rfl sl_aL) rfl hl.1 rfl (Nat.le_of_ble_eq_true rfl) dX2_step_2 ⟨Nat.zero_le _, Nat.zero_le _⟩ hK hN hD hP hS (fun H locs hP hS => ?_)
  refine W.eq (g2 := F0 m 5 ls [.null]) rfl ?_
  refine lv_astore_nN (lv' := [(2, .null), (0, .ref (ad (0))), (1, .int q)]) hx hb dX2_step_5 rfl hl (by decide) rfl (fun ls hl => ?_)
  refine lv_aload_nN hx hb dX2_step_6 rfl (lv_at hl 0 rfl) ?_
  refine lv_ifnonnullN hx hb dX2_step_7 ?_
  refine lv_iconst (v := (-1 : Int32)) hx hb dX2_step_10 (by decide) ?_
  exact sl_iret hx hb hr hlocks hP hS rfl rfl rfl dX2_step_11
set_option maxHeartbeats 4000000 in
set_option maxRecDepth 100000 in
theorem c_X2_refresh_out (l : Launch) (G : va_G) (cy : Nat → ClassId) (ad : Nat → Nat) (σ τ : sl_M) (q : Int32) (hc : ¬ vp_in q 3) : sl_C l G cy ad yX2_refresh wsX2_refresh ({ frames := 1, cells := 0, slots := 0, locals := 21 }) [.ref (ad (0)), .int q] σ τ (some (.int (-1 : Int32))) σ τ := by
  refine sl_of (cc := cX2_refresh) (maxL := 3) (ret := (some .int)) (by decide) rfl (Nat.le_of_ble_eq_true rfl) ?_
  intro p e s m below meth c hx hb hr hml hts hown hlocks hK hN hD hP hS ls hl
  have hown : s.vm.findClass RX2 = some m.cls := hown
  have hl : lv_has ls 3 [(0, .ref (ad (0))), (1, .int q)] := hl
  refine lv_aload_n hx hb dX2_refresh_0 rfl (lv_at hl 0 rfl) ?_
  refine lv_iload_n hx hb dX2_refresh_1 rfl (lv_at hl 1 rfl) ?_
  refine sl_cV (n := 1) (As := [.int q]) (rest := []) ⟨hx, hb, hml, hown, hts⟩ (c_X2_clientAt_out l G cy ad σ τ q hc) gX2_refresh_X2_clientAt rfl rfl rfl (by decide +kernel) ⟨Nat.le_of_ble_eq_true rfl, Nat.le_of_ble_eq_true rfl⟩ (va_recv hK hP (ci := 2) (q0 := 0) rfl sl_aL) rfl hl.1 rfl (Nat.le_of_ble_eq_true rfl) dX2_refresh_2 ⟨Nat.zero_le _, Nat.zero_le _⟩ hK hN hD hP hS (fun H locs hP hS => ?_)
  refine W.eq (g2 := F0 m 5 ls [.null]) rfl ?_
  refine lv_astore_nN (lv' := [(2, .null), (0, .ref (ad (0))), (1, .int q)]) hx hb dX2_refresh_5 rfl hl (by decide) rfl (fun ls hl => ?_)
  refine lv_aload_nN hx hb dX2_refresh_6 rfl (lv_at hl 0 rfl) ?_
  refine lv_ifnonnullN hx hb dX2_refresh_7 ?_
  refine lv_iconst (v := (-1 : Int32)) hx hb dX2_refresh_10 (by decide) ?_
  exact sl_iret hx hb hr hlocks hP hS rfl rfl rfl dX2_refresh_11
set_option maxHeartbeats 4000000 in
set_option maxRecDepth 100000 in
theorem c_X2_busy_out (l : Launch) (G : va_G) (cy : Nat → ClassId) (ad : Nat → Nat) (σ τ : sl_M) (q : Int32) (hc : ¬ vp_in q 3) : sl_C l G cy ad yX2_busy wsX2_busy ({ frames := 1, cells := 0, slots := 0, locals := 21 }) [.ref (ad (0)), .int q] σ τ (some (.int (-9 : Int32))) σ τ := by
  refine sl_of (cc := cX2_busy) (maxL := 3) (ret := (some .int)) (by decide) rfl (Nat.le_of_ble_eq_true rfl) ?_
  intro p e s m below meth c hx hb hr hml hts hown hlocks hK hN hD hP hS ls hl
  have hown : s.vm.findClass RX2 = some m.cls := hown
  have hl : lv_has ls 3 [(0, .ref (ad (0))), (1, .int q)] := hl
  refine lv_aload_n hx hb dX2_busy_0 rfl (lv_at hl 0 rfl) ?_
  refine lv_iload_n hx hb dX2_busy_1 rfl (lv_at hl 1 rfl) ?_
  refine sl_cV (n := 1) (As := [.int q]) (rest := []) ⟨hx, hb, hml, hown, hts⟩ (c_X2_clientAt_out l G cy ad σ τ q hc) gX2_busy_X2_clientAt rfl rfl rfl (by decide +kernel) ⟨Nat.le_of_ble_eq_true rfl, Nat.le_of_ble_eq_true rfl⟩ (va_recv hK hP (ci := 2) (q0 := 0) rfl sl_aL) rfl hl.1 rfl (Nat.le_of_ble_eq_true rfl) dX2_busy_2 ⟨Nat.zero_le _, Nat.zero_le _⟩ hK hN hD hP hS (fun H locs hP hS => ?_)
  refine W.eq (g2 := F0 m 5 ls [.null]) rfl ?_
  refine lv_astore_nN (lv' := [(2, .null), (0, .ref (ad (0))), (1, .int q)]) hx hb dX2_busy_5 rfl hl (by decide) rfl (fun ls hl => ?_)
  refine lv_aload_nN hx hb dX2_busy_6 rfl (lv_at hl 0 rfl) ?_
  refine lv_ifnonnullN hx hb dX2_busy_7 ?_
  refine lv_bipush (v := (-9 : Int32)) hx hb dX2_busy_10 (by decide) ?_
  refine lv_goto (tgt := 19) hx hb dX2_busy_12 (by decide) ?_
  exact sl_iret hx hb hr hlocks hP hS rfl rfl rfl dX2_busy_19
set_option maxHeartbeats 4000000 in
set_option maxRecDepth 100000 in
theorem c_X2_outcome_out (l : Launch) (G : va_G) (cy : Nat → ClassId) (ad : Nat → Nat) (σ τ : sl_M) (q : Int32) (hc : ¬ vp_in q 3) : sl_C l G cy ad yX2_outcome wsX2_outcome ({ frames := 1, cells := 0, slots := 0, locals := 21 }) [.ref (ad (0)), .int q] σ τ (some (.int (-9 : Int32))) σ τ := by
  refine sl_of (cc := cX2_outcome) (maxL := 3) (ret := (some .int)) (by decide) rfl (Nat.le_of_ble_eq_true rfl) ?_
  intro p e s m below meth c hx hb hr hml hts hown hlocks hK hN hD hP hS ls hl
  have hown : s.vm.findClass RX2 = some m.cls := hown
  have hl : lv_has ls 3 [(0, .ref (ad (0))), (1, .int q)] := hl
  refine lv_aload_n hx hb dX2_outcome_0 rfl (lv_at hl 0 rfl) ?_
  refine lv_iload_n hx hb dX2_outcome_1 rfl (lv_at hl 1 rfl) ?_
  refine sl_cV (n := 1) (As := [.int q]) (rest := []) ⟨hx, hb, hml, hown, hts⟩ (c_X2_clientAt_out l G cy ad σ τ q hc) gX2_outcome_X2_clientAt rfl rfl rfl (by decide +kernel) ⟨Nat.le_of_ble_eq_true rfl, Nat.le_of_ble_eq_true rfl⟩ (va_recv hK hP (ci := 2) (q0 := 0) rfl sl_aL) rfl hl.1 rfl (Nat.le_of_ble_eq_true rfl) dX2_outcome_2 ⟨Nat.zero_le _, Nat.zero_le _⟩ hK hN hD hP hS (fun H locs hP hS => ?_)
  refine W.eq (g2 := F0 m 5 ls [.null]) rfl ?_
  refine lv_astore_nN (lv' := [(2, .null), (0, .ref (ad (0))), (1, .int q)]) hx hb dX2_outcome_5 rfl hl (by decide) rfl (fun ls hl => ?_)
  refine lv_aload_nN hx hb dX2_outcome_6 rfl (lv_at hl 0 rfl) ?_
  refine lv_ifnonnullN hx hb dX2_outcome_7 ?_
  refine lv_bipush (v := (-9 : Int32)) hx hb dX2_outcome_10 (by decide) ?_
  refine lv_goto (tgt := 19) hx hb dX2_outcome_12 (by decide) ?_
  exact sl_iret hx hb hr hlocks hP hS rfl rfl rfl dX2_outcome_19
set_option maxHeartbeats 4000000 in
set_option maxRecDepth 100000 in
theorem c_X2_number_out (l : Launch) (G : va_G) (cy : Nat → ClassId) (ad : Nat → Nat) (σ τ : sl_M) (q : Int32) (hc : ¬ vp_in q 3) : sl_C l G cy ad yX2_number wsX2_number ({ frames := 1, cells := 0, slots := 0, locals := 21 }) [.ref (ad (0)), .int q] σ τ (some (.int (-9 : Int32))) σ τ := by
  refine sl_of (cc := cX2_number) (maxL := 3) (ret := (some .int)) (by decide) rfl (Nat.le_of_ble_eq_true rfl) ?_
  intro p e s m below meth c hx hb hr hml hts hown hlocks hK hN hD hP hS ls hl
  have hown : s.vm.findClass RX2 = some m.cls := hown
  have hl : lv_has ls 3 [(0, .ref (ad (0))), (1, .int q)] := hl
  refine lv_aload_n hx hb dX2_number_0 rfl (lv_at hl 0 rfl) ?_
  refine lv_iload_n hx hb dX2_number_1 rfl (lv_at hl 1 rfl) ?_
  refine sl_cV (n := 1) (As := [.int q]) (rest := []) ⟨hx, hb, hml, hown, hts⟩ (c_X2_clientAt_out l G cy ad σ τ q hc) gX2_number_X2_clientAt rfl rfl rfl (by decide +kernel) ⟨Nat.le_of_ble_eq_true rfl, Nat.le_of_ble_eq_true rfl⟩ (va_recv hK hP (ci := 2) (q0 := 0) rfl sl_aL) rfl hl.1 rfl (Nat.le_of_ble_eq_true rfl) dX2_number_2 ⟨Nat.zero_le _, Nat.zero_le _⟩ hK hN hD hP hS (fun H locs hP hS => ?_)
  refine W.eq (g2 := F0 m 5 ls [.null]) rfl ?_
  refine lv_astore_nN (lv' := [(2, .null), (0, .ref (ad (0))), (1, .int q)]) hx hb dX2_number_5 rfl hl (by decide) rfl (fun ls hl => ?_)
  refine lv_aload_nN hx hb dX2_number_6 rfl (lv_at hl 0 rfl) ?_
  refine lv_ifnonnullN hx hb dX2_number_7 ?_
  refine lv_bipush (v := (-9 : Int32)) hx hb dX2_number_10 (by decide) ?_
  refine lv_goto (tgt := 19) hx hb dX2_number_12 (by decide) ?_
  exact sl_iret hx hb hr hlocks hP hS rfl rfl rfl dX2_number_19
set_option maxHeartbeats 4000000 in
set_option maxRecDepth 100000 in
theorem c_X2_epochOf_out (l : Launch) (G : va_G) (cy : Nat → ClassId) (ad : Nat → Nat) (σ τ : sl_M) (q : Int32) (hc : ¬ vp_in q 3) : sl_C l G cy ad yX2_epochOf wsX2_epochOf ({ frames := 1, cells := 0, slots := 0, locals := 21 }) [.ref (ad (0)), .int q] σ τ (some (.int (-9 : Int32))) σ τ := by
  refine sl_of (cc := cX2_epochOf) (maxL := 3) (ret := (some .int)) (by decide) rfl (Nat.le_of_ble_eq_true rfl) ?_
  intro p e s m below meth c hx hb hr hml hts hown hlocks hK hN hD hP hS ls hl
  have hown : s.vm.findClass RX2 = some m.cls := hown
  have hl : lv_has ls 3 [(0, .ref (ad (0))), (1, .int q)] := hl
  refine lv_aload_n hx hb dX2_epochOf_0 rfl (lv_at hl 0 rfl) ?_
  refine lv_iload_n hx hb dX2_epochOf_1 rfl (lv_at hl 1 rfl) ?_
  refine sl_cV (n := 1) (As := [.int q]) (rest := []) ⟨hx, hb, hml, hown, hts⟩ (c_X2_clientAt_out l G cy ad σ τ q hc) gX2_epochOf_X2_clientAt rfl rfl rfl (by decide +kernel) ⟨Nat.le_of_ble_eq_true rfl, Nat.le_of_ble_eq_true rfl⟩ (va_recv hK hP (ci := 2) (q0 := 0) rfl sl_aL) rfl hl.1 rfl (Nat.le_of_ble_eq_true rfl) dX2_epochOf_2 ⟨Nat.zero_le _, Nat.zero_le _⟩ hK hN hD hP hS (fun H locs hP hS => ?_)
  refine W.eq (g2 := F0 m 5 ls [.null]) rfl ?_
  refine lv_astore_nN (lv' := [(2, .null), (0, .ref (ad (0))), (1, .int q)]) hx hb dX2_epochOf_5 rfl hl (by decide) rfl (fun ls hl => ?_)
  refine lv_aload_nN hx hb dX2_epochOf_6 rfl (lv_at hl 0 rfl) ?_
  refine lv_ifnonnullN hx hb dX2_epochOf_7 ?_
  refine lv_bipush (v := (-9 : Int32)) hx hb dX2_epochOf_10 (by decide) ?_
  refine lv_goto (tgt := 19) hx hb dX2_epochOf_12 (by decide) ?_
  exact sl_iret hx hb hr hlocks hP hS rfl rfl rfl dX2_epochOf_19
set_option maxHeartbeats 4000000 in
set_option maxRecDepth 100000 in
theorem c_X2_membersOf_out (l : Launch) (G : va_G) (cy : Nat → ClassId) (ad : Nat → Nat) (σ τ : sl_M) (q : Int32) (hc : ¬ vp_in q 3) : sl_C l G cy ad yX2_membersOf wsX2_membersOf ({ frames := 1, cells := 0, slots := 0, locals := 21 }) [.ref (ad (0)), .int q] σ τ (some (.int (-9 : Int32))) σ τ := by
  refine sl_of (cc := cX2_membersOf) (maxL := 3) (ret := (some .int)) (by decide) rfl (Nat.le_of_ble_eq_true rfl) ?_
  intro p e s m below meth c hx hb hr hml hts hown hlocks hK hN hD hP hS ls hl
  have hown : s.vm.findClass RX2 = some m.cls := hown
  have hl : lv_has ls 3 [(0, .ref (ad (0))), (1, .int q)] := hl
  refine lv_aload_n hx hb dX2_membersOf_0 rfl (lv_at hl 0 rfl) ?_
  refine lv_iload_n hx hb dX2_membersOf_1 rfl (lv_at hl 1 rfl) ?_
  refine sl_cV (n := 1) (As := [.int q]) (rest := []) ⟨hx, hb, hml, hown, hts⟩ (c_X2_clientAt_out l G cy ad σ τ q hc) gX2_membersOf_X2_clientAt rfl rfl rfl (by decide +kernel) ⟨Nat.le_of_ble_eq_true rfl, Nat.le_of_ble_eq_true rfl⟩ (va_recv hK hP (ci := 2) (q0 := 0) rfl sl_aL) rfl hl.1 rfl (Nat.le_of_ble_eq_true rfl) dX2_membersOf_2 ⟨Nat.zero_le _, Nat.zero_le _⟩ hK hN hD hP hS (fun H locs hP hS => ?_)
  refine W.eq (g2 := F0 m 5 ls [.null]) rfl ?_
  refine lv_astore_nN (lv' := [(2, .null), (0, .ref (ad (0))), (1, .int q)]) hx hb dX2_membersOf_5 rfl hl (by decide) rfl (fun ls hl => ?_)
  refine lv_aload_nN hx hb dX2_membersOf_6 rfl (lv_at hl 0 rfl) ?_
  refine lv_ifnonnullN hx hb dX2_membersOf_7 ?_
  refine lv_bipush (v := (-9 : Int32)) hx hb dX2_membersOf_10 (by decide) ?_
  refine lv_goto (tgt := 19) hx hb dX2_membersOf_12 (by decide) ?_
  exact sl_iret hx hb hr hlocks hP hS rfl rfl rfl dX2_membersOf_19
set_option maxHeartbeats 4000000 in
set_option maxRecDepth 100000 in
theorem c_X2_setUp_out (l : Launch) (G : va_G) (cy : Nat → ClassId) (ad : Nat → Nat) (σ τ : sl_M) (u : Int32) (a : Int32) (hu : ¬ vp_in u 6) : sl_C l G cy ad yX2_setUp wsX2_setUp ({ frames := 1, cells := 0, slots := 0, locals := 21 }) [.ref (ad (0)), .int u, .int a] σ τ (some (.int (0 : Int32))) σ τ := by
  refine sl_of (cc := cX2_setUp) (maxL := 4) (ret := (some .boolean)) (by decide) rfl (Nat.le_of_ble_eq_true rfl) ?_
  intro p e s m below meth c hx hb hr hml hts hown hlocks hK hN hD hP hS ls hl
  have hown : s.vm.findClass RX2 = some m.cls := hown
  have hl : lv_has ls 4 [(0, .ref (ad (0))), (1, .int u), (2, .int a)] := hl
  refine lv_aload_n hx hb dX2_setUp_0 rfl (lv_at hl 0 rfl) ?_
  refine lv_iload_n hx hb dX2_setUp_1 rfl (lv_at hl 1 rfl) ?_
  refine sl_cV (n := 1) (As := [.int u]) (rest := []) ⟨hx, hb, hml, hown, hts⟩ (c_X2_unitAt_out l G cy ad σ τ u hu) gX2_setUp_X2_unitAt rfl rfl rfl (by decide +kernel) ⟨Nat.le_of_ble_eq_true rfl, Nat.le_of_ble_eq_true rfl⟩ (va_recv hK hP (ci := 2) (q0 := 0) rfl sl_aL) rfl hl.1 rfl (Nat.le_of_ble_eq_true rfl) dX2_setUp_2 ⟨Nat.zero_le _, Nat.zero_le _⟩ hK hN hD hP hS (fun H locs hP hS => ?_)
  refine W.eq (g2 := F0 m 5 ls [.null]) rfl ?_
  refine lv_astore_nN (lv' := [(3, .null), (0, .ref (ad (0))), (1, .int u), (2, .int a)]) hx hb dX2_setUp_5 rfl hl (by decide) rfl (fun ls hl => ?_)
  refine lv_aload_nN hx hb dX2_setUp_6 rfl (lv_at hl 0 rfl) ?_
  refine lv_ifnonnullN hx hb dX2_setUp_7 ?_
  refine lv_iconst (v := (0 : Int32)) hx hb dX2_setUp_10 (by decide) ?_
  exact sl_zret hx hb hr hlocks (by decide) hP hS rfl rfl rfl dX2_setUp_11
set_option maxHeartbeats 4000000 in
set_option maxRecDepth 100000 in
theorem c_X2_unitEpoch_out (l : Launch) (G : va_G) (cy : Nat → ClassId) (ad : Nat → Nat) (σ τ : sl_M) (u : Int32) (hu : ¬ vp_in u 6) : sl_C l G cy ad yX2_unitEpoch wsX2_unitEpoch ({ frames := 1, cells := 0, slots := 0, locals := 21 }) [.ref (ad (0)), .int u] σ τ (some (.int (-9 : Int32))) σ τ := by
  refine sl_of (cc := cX2_unitEpoch) (maxL := 3) (ret := (some .int)) (by decide) rfl (Nat.le_of_ble_eq_true rfl) ?_
  intro p e s m below meth c hx hb hr hml hts hown hlocks hK hN hD hP hS ls hl
  have hown : s.vm.findClass RX2 = some m.cls := hown
  have hl : lv_has ls 3 [(0, .ref (ad (0))), (1, .int u)] := hl
  refine lv_aload_n hx hb dX2_unitEpoch_0 rfl (lv_at hl 0 rfl) ?_
  refine lv_iload_n hx hb dX2_unitEpoch_1 rfl (lv_at hl 1 rfl) ?_
  refine sl_cV (n := 1) (As := [.int u]) (rest := []) ⟨hx, hb, hml, hown, hts⟩ (c_X2_unitAt_out l G cy ad σ τ u hu) gX2_unitEpoch_X2_unitAt rfl rfl rfl (by decide +kernel) ⟨Nat.le_of_ble_eq_true rfl, Nat.le_of_ble_eq_true rfl⟩ (va_recv hK hP (ci := 2) (q0 := 0) rfl sl_aL) rfl hl.1 rfl (Nat.le_of_ble_eq_true rfl) dX2_unitEpoch_2 ⟨Nat.zero_le _, Nat.zero_le _⟩ hK hN hD hP hS (fun H locs hP hS => ?_)
  refine W.eq (g2 := F0 m 5 ls [.null]) rfl ?_
  refine lv_astore_nN (lv' := [(2, .null), (0, .ref (ad (0))), (1, .int u)]) hx hb dX2_unitEpoch_5 rfl hl (by decide) rfl (fun ls hl => ?_)
  refine lv_aload_nN hx hb dX2_unitEpoch_6 rfl (lv_at hl 0 rfl) ?_
  refine lv_ifnonnullN hx hb dX2_unitEpoch_7 ?_
  refine lv_bipush (v := (-9 : Int32)) hx hb dX2_unitEpoch_10 (by decide) ?_
  refine lv_goto (tgt := 19) hx hb dX2_unitEpoch_12 (by decide) ?_
  exact sl_iret hx hb hr hlocks hP hS rfl rfl rfl dX2_unitEpoch_19
set_option maxHeartbeats 4000000 in
set_option maxRecDepth 100000 in
theorem c_X2_cell_out (l : Launch) (G : va_G) (cy : Nat → ClassId) (ad : Nat → Nat) (σ τ : sl_M) (u : Int32) (a : Int32) (hu : ¬ vp_in u 6) : sl_C l G cy ad yX2_cell wsX2_cell ({ frames := 1, cells := 0, slots := 0, locals := 21 }) [.ref (ad (0)), .int u, .int a] σ τ (some (.int (-9 : Int32))) σ τ := by
  refine sl_of (cc := cX2_cell) (maxL := 4) (ret := (some .int)) (by decide) rfl (Nat.le_of_ble_eq_true rfl) ?_
  intro p e s m below meth c hx hb hr hml hts hown hlocks hK hN hD hP hS ls hl
  have hown : s.vm.findClass RX2 = some m.cls := hown
  have hl : lv_has ls 4 [(0, .ref (ad (0))), (1, .int u), (2, .int a)] := hl
  refine lv_aload_n hx hb dX2_cell_0 rfl (lv_at hl 0 rfl) ?_
  refine lv_iload_n hx hb dX2_cell_1 rfl (lv_at hl 1 rfl) ?_
  refine sl_cV (n := 1) (As := [.int u]) (rest := []) ⟨hx, hb, hml, hown, hts⟩ (c_X2_unitAt_out l G cy ad σ τ u hu) gX2_cell_X2_unitAt rfl rfl rfl (by decide +kernel) ⟨Nat.le_of_ble_eq_true rfl, Nat.le_of_ble_eq_true rfl⟩ (va_recv hK hP (ci := 2) (q0 := 0) rfl sl_aL) rfl hl.1 rfl (Nat.le_of_ble_eq_true rfl) dX2_cell_2 ⟨Nat.zero_le _, Nat.zero_le _⟩ hK hN hD hP hS (fun H locs hP hS => ?_)
  refine W.eq (g2 := F0 m 5 ls [.null]) rfl ?_
  refine lv_astore_nN (lv' := [(3, .null), (0, .ref (ad (0))), (1, .int u), (2, .int a)]) hx hb dX2_cell_5 rfl hl (by decide) rfl (fun ls hl => ?_)
  refine lv_aload_nN hx hb dX2_cell_6 rfl (lv_at hl 0 rfl) ?_
  refine lv_ifnonnullN hx hb dX2_cell_7 ?_
  refine lv_bipush (v := (-9 : Int32)) hx hb dX2_cell_10 (by decide) ?_
  refine lv_goto (tgt := 20) hx hb dX2_cell_12 (by decide) ?_
  exact sl_iret hx hb hr hlocks hP hS rfl rfl rfl dX2_cell_20
