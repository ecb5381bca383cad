theorem sl_lowI {x : Int32} (h : ¬ sp_X2_lowestUnit x < 0) : vp_in (sp_X2_lowestUnit x) 6 := by
  revert h
  unfold sp_X2_lowestUnit
  repeat' split
  all_goals (intro h; first | (unfold vp_in; decide) | exact absurd (by decide) h)
def sp_X2_step_in (σ : sl_M) (q : Int32) : Int32 × sl_M := 
  if (σ (3 + q.toNatClampNeg) 2) = 0 then ((-2 : Int32), σ)
  else if (sp_X2_lowestUnit (σ (3 + q.toNatClampNeg) 5)) < 0 then (((sp_X2_stepWithoutUnit σ q.toNatClampNeg).1), (sp_X2_stepWithoutUnit σ q.toNatClampNeg).2)
  else if (σ (6 + (sp_X2_lowestUnit (σ (3 + q.toNatClampNeg) 5)).toNatClampNeg) 1) = 0 then ((-3 : Int32), σ)
  else if (σ (6 + (sp_X2_lowestUnit (σ (3 + q.toNatClampNeg) 5)).toNatClampNeg) 0) ≤ (sp_X0_newestEpochItBears σ q.toNatClampNeg) then (((sp_X2_stepAtUnit σ q.toNatClampNeg ((sp_X2_lowestUnit (σ (3 + q.toNatClampNeg) 5)).toNatClampNeg)).1), (sp_X2_stepAtUnit σ q.toNatClampNeg ((sp_X2_lowestUnit (σ (3 + q.toNatClampNeg) 5)).toNatClampNeg)).2)
  else (((sp_X0_end σ q.toNatClampNeg (2 : Int32) (0 : Int32)).1), (sp_X0_end σ q.toNatClampNeg (2 : Int32) (0 : Int32)).2)
set_option maxHeartbeats 4000000 in
set_option maxRecDepth 100000 in
theorem c_X2_step_in (l : Launch) (G : va_G) (cy : Nat → ClassId) (ad : Nat → Nat) (σ τ : sl_M) (q : Int32) (hc : vp_in q 3) : sl_C l G cy ad yX2_step wsX2_step ({ frames := 4, cells := 0, slots := 0, locals := 86 }) [.ref (ad (0)), .int q] σ τ (some (.int (sp_X2_step_in σ q).1)) (sp_X2_step_in σ q).2 τ := by
  refine sl_of (cc := cX2_step) (maxL := 4) (ret := (some .int)) (by decide) rfl (Nat.le_of_ble_eq_true rfl) ?_
  intro p e s m below meth c hx hb hr hml hts hown hlocks hK hN hD hP hS ls hl
  have hown : s.vm.findClass RX2 = some m.cls := hown
  have hl : lv_has ls 4 [(0, .ref (ad (0))), (1, .int q)] := hl
  have hi0 : ∀ w ∈ wsX00, w ∈ wsX2_step := fun _ h => (List.mem_cons_of_mem _ (List.mem_append_left _ (List.mem_append_left _ (List.mem_append_right _ h))))
  have hi1 : ∀ w ∈ wsX10, w ∈ wsX2_step := fun _ h => (List.mem_cons_of_mem _ (List.mem_append_left _ (List.mem_append_right _ h)))
  refine lv_aload_n hx hb dX2_step_0 rfl (lv_at hl 0 rfl) ?_
  refine lv_iload_n hx hb dX2_step_1 rfl (lv_at hl 1 rfl) ?_
  refine sl_cV (n := 1) (As := [.int q]) (rest := []) ⟨hx, hb, hml, hown, hts⟩ (c_X2_clientAt_in l G cy ad σ τ q hc) gX2_step_X2_clientAt rfl rfl rfl (by decide +kernel) ⟨Nat.le_of_ble_eq_true rfl, Nat.le_of_ble_eq_true rfl⟩ (va_recv hK hP (ci := 2) (q0 := 0) rfl sl_aL) rfl hl.1 rfl (Nat.le_of_ble_eq_true rfl) dX2_step_2 ⟨Nat.zero_le _, Nat.zero_le _⟩ hK hN hD hP hS (fun H locs hP hS => ?_)
  refine W.eq (g2 := F0 m 5 ls [.ref (ad (3 + q.toNatClampNeg))]) rfl ?_
  refine lv_astore_n (lv' := [(2, .ref (ad (3 + q.toNatClampNeg))), (0, .ref (ad (0))), (1, .int q)]) hx hb dX2_step_5 rfl hl (by decide) rfl (fun ls hl => ?_)
  refine lv_aload_n hx hb dX2_step_6 rfl (lv_at hl 0 rfl) ?_
  refine lv_ifnonnull (tgt := 12) hx hb dX2_step_7 (by decide) ?_
  refine lv_aload_n hx hb dX2_step_12 rfl (lv_at hl 0 rfl) ?_
  refine va_getN (D := G) (ci := 0) (v := .int (σ (3 + q.toNatClampNeg) 2)) (C := RX0) (T := TX0) (N := 12) hx hb hts hi0 hown hK hP (3 + q.toNatClampNeg) (sl_aC (sl_lt hc)) rfl 2 (by decide) (hN.f 0 rfl) (fun _ h9 => h9) rfl dX2_step_13 ?_
  refine lv_if_ne (tgt := 22) hx hb dX2_step_16 (by decide) (fun c_1 => ?_) (fun c_1 => ?_)
  · refine lv_aload_n hx hb dX2_step_22 rfl (lv_at hl 1 rfl) ?_
    refine lv_aload_n hx hb dX2_step_23 rfl (lv_at hl 0 rfl) ?_
    refine va_getN (D := G) (ci := 0) (v := .int (σ (3 + q.toNatClampNeg) 5)) (C := RX0) (T := TX0) (N := 12) hx hb hts hi0 hown hK hP (3 + q.toNatClampNeg) (sl_aC (sl_lt hc)) rfl 5 (by decide) (hN.f 8 rfl) (fun _ h9 => h9) rfl dX2_step_24 ?_
    refine sl_cS (n := 1) (As := [.int (σ (3 + q.toNatClampNeg) 5)]) (rest := [.ref (ad (0))]) ⟨hx, hb, hml, hown, hts⟩ (c_X2_lowestUnit l G cy ad σ τ (σ (3 + q.toNatClampNeg) 5)) gX2_step_X2_lowestUnit rfl rfl rfl (by decide +kernel) ⟨Nat.le_of_ble_eq_true rfl, Nat.le_of_ble_eq_true rfl⟩ rfl hl.1 rfl (Nat.le_of_ble_eq_true rfl) dX2_step_27 ⟨Nat.zero_le _, Nat.zero_le _⟩ hK hN hD hP hS (fun H locs hP hS => ?_)
    refine W.eq (g2 := F0 m 30 ls [.int (sp_X2_lowestUnit (σ (3 + q.toNatClampNeg) 5)), .ref (ad (0))]) rfl ?_
    by_cases c_2 : (sp_X2_lowestUnit (σ (3 + q.toNatClampNeg) 5)) < 0
    · refine sl_cV (n := 1) (As := [.int (sp_X2_lowestUnit (σ (3 + q.toNatClampNeg) 5))]) (rest := []) ⟨hx, hb, hml, hown, hts⟩ (c_X2_unitAt_neg l G cy ad σ τ (sp_X2_lowestUnit (σ (3 + q.toNatClampNeg) 5)) c_2) gX2_step_X2_unitAt rfl rfl rfl (by decide +kernel) ⟨Nat.le_of_ble_eq_true rfl, Nat.le_of_ble_eq_true rfl⟩ (va_recv hK hP (ci := 2) (q0 := 0) rfl sl_aL) rfl hl.1 rfl (Nat.le_of_ble_eq_true rfl) dX2_step_30 ⟨Nat.zero_le _, Nat.zero_le _⟩ hK hN hD hP hS (fun H locs hP hS => ?_)
      refine W.eq (g2 := F0 m 33 ls [.null]) rfl ?_
      refine lv_astore_nN (lv' := [(3, .null), (2, .ref (ad (3 + q.toNatClampNeg))), (0, .ref (ad (0))), (1, .int q)]) hx hb dX2_step_33 rfl hl (by decide) rfl (fun ls hl => ?_)
      refine lv_aload_nN hx hb dX2_step_34 rfl (lv_at hl 0 rfl) ?_
      refine lv_ifnonnullN hx hb dX2_step_35 ?_
      refine lv_aload_n hx hb dX2_step_38 rfl (lv_at hl 2 rfl) ?_
      refine lv_aload_n hx hb dX2_step_39 rfl (lv_at hl 1 rfl) ?_
      refine sl_cV (n := 1) (As := [.ref (ad (3 + q.toNatClampNeg))]) (rest := []) ⟨hx, hb, hml, hown, hts⟩ (c_X2_stepWithoutUnit l G cy ad σ τ q.toNatClampNeg (sl_lt hc)) gX2_step_X2_stepWithoutUnit rfl rfl rfl (by decide +kernel) ⟨Nat.le_of_ble_eq_true rfl, Nat.le_of_ble_eq_true rfl⟩ (va_recv hK hP (ci := 2) (q0 := 0) rfl sl_aL) rfl hl.1 rfl (Nat.le_of_ble_eq_true rfl) dX2_step_40 ⟨Nat.zero_le _, Nat.zero_le _⟩ hK hN hD hP hS (fun H locs hP hS => ?_)
      refine W.eq (g2 := F0 m 43 ls [.int ((sp_X2_stepWithoutUnit σ q.toNatClampNeg).1)]) rfl ?_
      have e_q : (sp_X2_step_in σ q) = (((sp_X2_stepWithoutUnit σ q.toNatClampNeg).1), (sp_X2_stepWithoutUnit σ q.toNatClampNeg).2) := by rw [sp_X2_step_in, if_neg c_1, if_pos c_2]
      exact sl_iret hx hb hr hlocks hP hS (by rw [e_q]) (by rw [e_q]) rfl dX2_step_43
    · refine sl_cV (n := 1) (As := [.int (sp_X2_lowestUnit (σ (3 + q.toNatClampNeg) 5))]) (rest := []) ⟨hx, hb, hml, hown, hts⟩ (c_X2_unitAt_in l G cy ad σ τ (sp_X2_lowestUnit (σ (3 + q.toNatClampNeg) 5)) (sl_lowI c_2)) gX2_step_X2_unitAt rfl rfl rfl (by decide +kernel) ⟨Nat.le_of_ble_eq_true rfl, Nat.le_of_ble_eq_true rfl⟩ (va_recv hK hP (ci := 2) (q0 := 0) rfl sl_aL) rfl hl.1 rfl (Nat.le_of_ble_eq_true rfl) dX2_step_30 ⟨Nat.zero_le _, Nat.zero_le _⟩ hK hN hD hP hS (fun H locs hP hS => ?_)
      refine W.eq (g2 := F0 m 33 ls [.ref (ad (6 + (sp_X2_lowestUnit (σ (3 + q.toNatClampNeg) 5)).toNatClampNeg))]) rfl ?_
      refine lv_astore_n (lv' := [(3, .ref (ad (6 + (sp_X2_lowestUnit (σ (3 + q.toNatClampNeg) 5)).toNatClampNeg))), (2, .ref (ad (3 + q.toNatClampNeg))), (0, .ref (ad (0))), (1, .int q)]) hx hb dX2_step_33 rfl hl (by decide) rfl (fun ls hl => ?_)
      refine lv_aload_n hx hb dX2_step_34 rfl (lv_at hl 0 rfl) ?_
      refine lv_ifnonnull (tgt := 44) hx hb dX2_step_35 (by decide) ?_
      refine lv_aload_n hx hb dX2_step_44 rfl (lv_at hl 0 rfl) ?_
      refine va_getN (D := G) (ci := 1) (v := .int (σ (6 + (sp_X2_lowestUnit (σ (3 + q.toNatClampNeg) 5)).toNatClampNeg) 1)) (C := RX1) (T := TX1) (N := 3) hx hb hts hi1 hown hK hP (6 + (sp_X2_lowestUnit (σ (3 + q.toNatClampNeg) 5)).toNatClampNeg) (sl_aU (sl_lt (sl_lowI c_2))) rfl 1 (by decide) (hN.f 9 rfl) (fun _ h9 => h9) rfl dX2_step_45 ?_
      refine lv_if_ne (tgt := 54) hx hb dX2_step_48 (by decide) (fun c_3 => ?_) (fun c_3 => ?_)
      · refine lv_aload_n hx hb dX2_step_54 rfl (lv_at hl 0 rfl) ?_
        refine va_getN (D := G) (ci := 1) (v := .int (σ (6 + (sp_X2_lowestUnit (σ (3 + q.toNatClampNeg) 5)).toNatClampNeg) 0)) (C := RX1) (T := TX1) (N := 3) hx hb hts hi1 hown hK hP (6 + (sp_X2_lowestUnit (σ (3 + q.toNatClampNeg) 5)).toNatClampNeg) (sl_aU (sl_lt (sl_lowI c_2))) rfl 0 (by decide) (hN.f 10 rfl) (fun _ h9 => h9) rfl dX2_step_55 ?_
        refine lv_aload_n hx hb dX2_step_58 rfl (lv_at hl 1 rfl) ?_
        refine sl_nV (n := 0) (As := []) (rest := [.int (σ (6 + (sp_X2_lowestUnit (σ (3 + q.toNatClampNeg) 5)).toNatClampNeg) 0)]) ⟨hx, hb, hml, hown, hts⟩ (c_X0_newestEpochItBears l G cy ad σ τ q.toNatClampNeg (sl_lt hc)) gX2_step_X0_newestEpochItBears_n105 rfl rfl rfl (hN.m 5 rfl) (hts _ mw_X2_step_26) (hts _ mw_X2_step_46) (hts _ mw_X2_step_47) (by decide +kernel) ⟨Nat.le_of_ble_eq_true rfl, Nat.le_of_ble_eq_true rfl⟩ (va_recv hK hP (ci := 0) (q0 := 3 + q.toNatClampNeg) rfl (sl_aC (sl_lt hc))) rfl hl.1 rfl (Nat.le_of_ble_eq_true rfl) dX2_step_59 ⟨Nat.zero_le _, Nat.zero_le _⟩ hK hN hD hP hS (fun H locs hP hS => ?_)
        refine W.eq (g2 := F0 m 62 ls [.int (sp_X0_newestEpochItBears σ q.toNatClampNeg), .int (σ (6 + (sp_X2_lowestUnit (σ (3 + q.toNatClampNeg) 5)).toNatClampNeg) 0)]) rfl ?_
        refine lv_icmp_le (tgt := 72) hx hb dX2_step_62 (by decide) (fun c_4 => ?_) (fun c_4 => ?_)
        · refine lv_aload_n hx hb dX2_step_72 rfl (lv_at hl 1 rfl) ?_
          refine lv_aload_n hx hb dX2_step_73 rfl (lv_at hl 0 rfl) ?_
          refine sl_cS (n := 2) (As := [.ref (ad (3 + q.toNatClampNeg)), .ref (ad (6 + (sp_X2_lowestUnit (σ (3 + q.toNatClampNeg) 5)).toNatClampNeg))]) (rest := []) ⟨hx, hb, hml, hown, hts⟩ (c_X2_stepAtUnit l G cy ad σ τ q.toNatClampNeg (sl_lt hc) ((sp_X2_lowestUnit (σ (3 + q.toNatClampNeg) 5)).toNatClampNeg) (sl_lt (sl_lowI c_2))) gX2_step_X2_stepAtUnit rfl rfl rfl (by decide +kernel) ⟨Nat.le_of_ble_eq_true rfl, Nat.le_of_ble_eq_true rfl⟩ rfl hl.1 rfl (Nat.le_of_ble_eq_true rfl) dX2_step_74 ⟨Nat.zero_le _, Nat.zero_le _⟩ hK hN hD hP hS (fun H locs hP hS => ?_)
          refine W.eq (g2 := F0 m 77 ls [.int ((sp_X2_stepAtUnit σ q.toNatClampNeg ((sp_X2_lowestUnit (σ (3 + q.toNatClampNeg) 5)).toNatClampNeg)).1)]) rfl ?_
          have e_q : (sp_X2_step_in σ q) = (((sp_X2_stepAtUnit σ q.toNatClampNeg ((sp_X2_lowestUnit (σ (3 + q.toNatClampNeg) 5)).toNatClampNeg)).1), (sp_X2_stepAtUnit σ q.toNatClampNeg ((sp_X2_lowestUnit (σ (3 + q.toNatClampNeg) 5)).toNatClampNeg)).2) := by rw [sp_X2_step_in, if_neg c_1, if_neg c_2, if_neg c_3, if_pos c_4]
          exact sl_iret hx hb hr hlocks hP hS (by rw [e_q]) (by rw [e_q]) rfl dX2_step_77
        · refine lv_aload_n hx hb dX2_step_65 rfl (lv_at hl 1 rfl) ?_
          refine lv_iconst (v := (2 : Int32)) hx hb dX2_step_66 (by decide) ?_
          refine lv_iconst (v := (0 : Int32)) hx hb dX2_step_67 (by decide) ?_
          refine sl_nV (n := 2) (As := [.int (2 : Int32), .int (0 : Int32)]) (rest := []) ⟨hx, hb, hml, hown, hts⟩ (c_X0_end l G cy ad σ τ q.toNatClampNeg (sl_lt hc) (2 : Int32) (0 : Int32)) gX2_step_X0_end_n108 rfl rfl rfl (hN.m 6 rfl) (hts _ mw_X2_step_26) (hts _ mw_X2_step_25) (hts _ mw_X2_step_27) (by decide +kernel) ⟨Nat.le_of_ble_eq_true rfl, Nat.le_of_ble_eq_true rfl⟩ (va_recv hK hP (ci := 0) (q0 := 3 + q.toNatClampNeg) rfl (sl_aC (sl_lt hc))) rfl hl.1 rfl (Nat.le_of_ble_eq_true rfl) dX2_step_68 ⟨Nat.zero_le _, Nat.zero_le _⟩ hK hN hD hP hS (fun H locs hP hS => ?_)
          refine W.eq (g2 := F0 m 71 ls [.int ((sp_X0_end σ q.toNatClampNeg (2 : Int32) (0 : Int32)).1)]) rfl ?_
          have e_q : (sp_X2_step_in σ q) = (((sp_X0_end σ q.toNatClampNeg (2 : Int32) (0 : Int32)).1), (sp_X0_end σ q.toNatClampNeg (2 : Int32) (0 : Int32)).2) := by rw [sp_X2_step_in, if_neg c_1, if_neg c_2, if_neg c_3, if_neg c_4]
          exact sl_iret hx hb hr hlocks hP hS (by rw [e_q]) (by rw [e_q]) rfl dX2_step_71
      · refine lv_bipush (v := (-3 : Int32)) hx hb dX2_step_51 (by decide) ?_
        have e_q : (sp_X2_step_in σ q) = ((-3 : Int32), σ) := by rw [sp_X2_step_in, if_neg c_1, if_neg c_2, if_pos c_3]
        exact sl_iret hx hb hr hlocks hP hS (by rw [e_q]) (by rw [e_q]) rfl dX2_step_53
  · refine lv_bipush (v := (-2 : Int32)) hx hb dX2_step_19 (by decide) ?_
    have e_q : (sp_X2_step_in σ q) = ((-2 : Int32), σ) := by rw [sp_X2_step_in, if_pos c_1]
    exact sl_iret hx hb hr hlocks hP hS (by rw [e_q]) (by rw [e_q]) rfl dX2_step_21
def sp_X2_append_in (σ : sl_M) (q : Int32) (a : Int32) : Int32 × sl_M := 
  if (σ (3 + q.toNatClampNeg) 2) = 0 then 
    if a < 0 then ((-3 : Int32), σ)
    else if a ≤ (1073741823 : Int32) then (((sp_X0_begin (sl_up σ (3 + q.toNatClampNeg) 7 a) q.toNatClampNeg (1 : Int32) (0 : Int32)).1), (sp_X0_begin (sl_up σ (3 + q.toNatClampNeg) 7 a) q.toNatClampNeg (1 : Int32) (0 : Int32)).2)
    else ((-3 : Int32), σ)
  else ((-2 : Int32), σ)
set_option maxHeartbeats 4000000 in
set_option maxRecDepth 100000 in
theorem c_X2_append_in (l : Launch) (G : va_G) (cy : Nat → ClassId) (ad : Nat → Nat) (σ τ : sl_M) (q : Int32) (a : Int32) (hc : vp_in q 3) : sl_C l G cy ad yX2_append wsX2_append ({ frames := 1, cells := 0, slots := 0, locals := 22 }) [.ref (ad (0)), .int q, .int a] σ τ (some (.int (sp_X2_append_in σ q a).1)) (sp_X2_append_in σ q a).2 τ := by
  refine sl_of (cc := cX2_append) (maxL := 4) (ret := (some .int)) (by decide) rfl (Nat.le_of_ble_eq_true rfl) ?_
  intro p e s m below meth c hx hb hr hml hts hown hlocks hK hN hD hP hS ls hl
  have hown : s.vm.findClass RX2 = some m.cls := hown
  have hl : lv_has ls 4 [(0, .ref (ad (0))), (1, .int q), (2, .int a)] := hl
  have hi0 : ∀ w ∈ wsX00, w ∈ wsX2_append := fun _ h => (List.mem_cons_of_mem _ (List.mem_append_left _ (List.mem_append_right _ h)))
  refine lv_aload_n hx hb dX2_append_0 rfl (lv_at hl 0 rfl) ?_
  refine lv_iload_n hx hb dX2_append_1 rfl (lv_at hl 1 rfl) ?_
  refine sl_cV (n := 1) (As := [.int q]) (rest := []) ⟨hx, hb, hml, hown, hts⟩ (c_X2_clientAt_in l G cy ad σ τ q hc) gX2_append_X2_clientAt rfl rfl rfl (by decide +kernel) ⟨Nat.le_of_ble_eq_true rfl, Nat.le_of_ble_eq_true rfl⟩ (va_recv hK hP (ci := 2) (q0 := 0) rfl sl_aL) rfl hl.1 rfl (Nat.le_of_ble_eq_true rfl) dX2_append_2 ⟨Nat.zero_le _, Nat.zero_le _⟩ hK hN hD hP hS (fun H locs hP hS => ?_)
  refine W.eq (g2 := F0 m 5 ls [.ref (ad (3 + q.toNatClampNeg))]) rfl ?_
  refine lv_astore_n (lv' := [(3, .ref (ad (3 + q.toNatClampNeg))), (0, .ref (ad (0))), (1, .int q), (2, .int a)]) hx hb dX2_append_5 rfl hl (by decide) rfl (fun ls hl => ?_)
  refine lv_aload_n hx hb dX2_append_6 rfl (lv_at hl 0 rfl) ?_
  refine lv_ifnonnull (tgt := 12) hx hb dX2_append_7 (by decide) ?_
  refine lv_aload_n hx hb dX2_append_12 rfl (lv_at hl 0 rfl) ?_
  refine va_getN (D := G) (ci := 0) (v := .int (σ (3 + q.toNatClampNeg) 2)) (C := RX0) (T := TX0) (N := 12) hx hb hts hi0 hown hK hP (3 + q.toNatClampNeg) (sl_aC (sl_lt hc)) rfl 2 (by decide) (hN.f 0 rfl) (fun _ h9 => h9) rfl dX2_append_13 ?_
  refine lv_if_eq (tgt := 22) hx hb dX2_append_16 (by decide) (fun c_1 => ?_) (fun c_1 => ?_)
  · refine lv_iload_n hx hb dX2_append_22 rfl (lv_at hl 3 rfl) ?_
    refine lv_if_lt (tgt := 32) hx hb dX2_append_23 (by decide) (fun c_2 => ?_) (fun c_2 => ?_)
    · refine lv_bipush (v := (-3 : Int32)) hx hb dX2_append_32 (by decide) ?_
      have e_q : (sp_X2_append_in σ q a) = ((-3 : Int32), σ) := by rw [sp_X2_append_in, if_pos c_1, if_pos c_2]
      exact sl_iret hx hb hr hlocks hP hS (by rw [e_q]) (by rw [e_q]) rfl dX2_append_34
    · refine lv_iload_n hx hb dX2_append_26 rfl (lv_at hl 3 rfl) ?_
      refine lv_ldc hx hb hown (hts _ mw_X2_append_1) dX2_append_27 ?_
      refine lv_icmp_le (tgt := 35) hx hb dX2_append_29 (by decide) (fun c_3 => ?_) (fun c_3 => ?_)
      · refine lv_aload_n hx hb dX2_append_35 rfl (lv_at hl 0 rfl) ?_
        refine lv_iload_n hx hb dX2_append_36 rfl (lv_at hl 3 rfl) ?_
        refine sl_putCN hx hb hts hi0 hown hK hD hP hS (sl_lt hc) 7 (by decide) rfl (tyX0_ok 7 (by decide)) (hN.f 1 rfl) dX2_append_37 (fun H locs hP hS => ?_)
        refine lv_aload_n hx hb dX2_append_40 rfl (lv_at hl 0 rfl) ?_
        refine lv_iconst (v := (1 : Int32)) hx hb dX2_append_41 (by decide) ?_
        refine lv_iconst (v := (0 : Int32)) hx hb dX2_append_42 (by decide) ?_
        refine sl_nV (n := 2) (As := [.int (1 : Int32), .int (0 : Int32)]) (rest := []) ⟨hx, hb, hml, hown, hts⟩ (c_X0_begin l G cy ad (sl_up σ (3 + q.toNatClampNeg) 7 a) τ q.toNatClampNeg (sl_lt hc) (1 : Int32) (0 : Int32)) gX2_append_X0_begin_n47 rfl rfl rfl (hN.m 2 rfl) (hts _ mw_X2_append_9) (hts _ mw_X2_append_8) (hts _ mw_X2_append_10) (by decide +kernel) ⟨Nat.le_of_ble_eq_true rfl, Nat.le_of_ble_eq_true rfl⟩ (va_recv hK hP (ci := 0) (q0 := 3 + q.toNatClampNeg) rfl (sl_aC (sl_lt hc))) rfl hl.1 rfl (Nat.le_of_ble_eq_true rfl) dX2_append_43 ⟨Nat.zero_le _, Nat.zero_le _⟩ hK hN hD hP hS (fun H locs hP hS => ?_)
        refine W.eq (g2 := F0 m 46 ls [.int ((sp_X0_begin (sl_up σ (3 + q.toNatClampNeg) 7 a) q.toNatClampNeg (1 : Int32) (0 : Int32)).1)]) rfl ?_
        have e_q : (sp_X2_append_in σ q a) = (((sp_X0_begin (sl_up σ (3 + q.toNatClampNeg) 7 a) q.toNatClampNeg (1 : Int32) (0 : Int32)).1), (sp_X0_begin (sl_up σ (3 + q.toNatClampNeg) 7 a) q.toNatClampNeg (1 : Int32) (0 : Int32)).2) := by rw [sp_X2_append_in, if_pos c_1, if_neg c_2, if_pos c_3]
        exact sl_iret hx hb hr hlocks hP hS (by rw [e_q]) (by rw [e_q]) rfl dX2_append_46
      · refine lv_bipush (v := (-3 : Int32)) hx hb dX2_append_32 (by decide) ?_
        have e_q : (sp_X2_append_in σ q a) = ((-3 : Int32), σ) := by rw [sp_X2_append_in, if_pos c_1, if_neg c_2, if_neg c_3]
        exact sl_iret hx hb hr hlocks hP hS (by rw [e_q]) (by rw [e_q]) rfl dX2_append_34
  · refine lv_bipush (v := (-2 : Int32)) hx hb dX2_append_19 (by decide) ?_
    have e_q : (sp_X2_append_in σ q a) = ((-2 : Int32), σ) := by rw [sp_X2_append_in, if_neg c_1]
    exact sl_iret hx hb hr hlocks hP hS (by rw [e_q]) (by rw [e_q]) rfl dX2_append_21
def sp_X2_fill_in (σ : sl_M) (q : Int32) (a : Int32) : Int32 × sl_M := 
  if (σ (3 + q.toNatClampNeg) 2) = 0 then 
    if (sp_X2_isPosition a) = 0 then ((-3 : Int32), σ)
    else (((sp_X0_begin (sl_up (sl_up σ (3 + q.toNatClampNeg) 6 a) (3 + q.toNatClampNeg) 7 (-1 : Int32)) q.toNatClampNeg (2 : Int32) (sp_X0_chainOf (sl_up (sl_up σ (3 + q.toNatClampNeg) 6 a) (3 + q.toNatClampNeg) 7 (-1 : Int32)) q.toNatClampNeg a)).1), (sp_X0_begin (sl_up (sl_up σ (3 + q.toNatClampNeg) 6 a) (3 + q.toNatClampNeg) 7 (-1 : Int32)) q.toNatClampNeg (2 : Int32) (sp_X0_chainOf (sl_up (sl_up σ (3 + q.toNatClampNeg) 6 a) (3 + q.toNatClampNeg) 7 (-1 : Int32)) q.toNatClampNeg a)).2)
  else ((-2 : Int32), σ)
set_option maxHeartbeats 4000000 in
set_option maxRecDepth 100000 in
theorem c_X2_fill_in (l : Launch) (G : va_G) (cy : Nat → ClassId) (ad : Nat → Nat) (σ τ : sl_M) (q : Int32) (a : Int32) (hc : vp_in q 3) : sl_C l G cy ad yX2_fill wsX2_fill ({ frames := 1, cells := 0, slots := 0, locals := 22 }) [.ref (ad (0)), .int q, .int a] σ τ (some (.int (sp_X2_fill_in σ q a).1)) (sp_X2_fill_in σ q a).2 τ := by
  refine sl_of (cc := cX2_fill) (maxL := 4) (ret := (some .int)) (by decide) rfl (Nat.le_of_ble_eq_true rfl) ?_
  intro p e s m below meth c hx hb hr hml hts hown hlocks hK hN hD hP hS ls hl
  have hown : s.vm.findClass RX2 = some m.cls := hown
  have hl : lv_has ls 4 [(0, .ref (ad (0))), (1, .int q), (2, .int a)] := hl
  have hi0 : ∀ w ∈ wsX00, w ∈ wsX2_fill := fun _ h => (List.mem_cons_of_mem _ (List.mem_append_left _ (List.mem_append_right _ h)))
  refine lv_aload_n hx hb dX2_fill_0 rfl (lv_at hl 0 rfl) ?_
  refine lv_iload_n hx hb dX2_fill_1 rfl (lv_at hl 1 rfl) ?_
  refine sl_cV (n := 1) (As := [.int q]) (rest := []) ⟨hx, hb, hml, hown, hts⟩ (c_X2_clientAt_in l G cy ad σ τ q hc) gX2_fill_X2_clientAt rfl rfl rfl (by decide +kernel) ⟨Nat.le_of_ble_eq_true rfl, Nat.le_of_ble_eq_true rfl⟩ (va_recv hK hP (ci := 2) (q0 := 0) rfl sl_aL) rfl hl.1 rfl (Nat.le_of_ble_eq_true rfl) dX2_fill_2 ⟨Nat.zero_le _, Nat.zero_le _⟩ hK hN hD hP hS (fun H locs hP hS => ?_)
  refine W.eq (g2 := F0 m 5 ls [.ref (ad (3 + q.toNatClampNeg))]) rfl ?_
  refine lv_astore_n (lv' := [(3, .ref (ad (3 + q.toNatClampNeg))), (0, .ref (ad (0))), (1, .int q), (2, .int a)]) hx hb dX2_fill_5 rfl hl (by decide) rfl (fun ls hl => ?_)
  refine lv_aload_n hx hb dX2_fill_6 rfl (lv_at hl 0 rfl) ?_
  refine lv_ifnonnull (tgt := 12) hx hb dX2_fill_7 (by decide) ?_
  refine lv_aload_n hx hb dX2_fill_12 rfl (lv_at hl 0 rfl) ?_
  refine va_getN (D := G) (ci := 0) (v := .int (σ (3 + q.toNatClampNeg) 2)) (C := RX0) (T := TX0) (N := 12) hx hb hts hi0 hown hK hP (3 + q.toNatClampNeg) (sl_aC (sl_lt hc)) rfl 2 (by decide) (hN.f 0 rfl) (fun _ h9 => h9) rfl dX2_fill_13 ?_
  refine lv_if_eq (tgt := 22) hx hb dX2_fill_16 (by decide) (fun c_1 => ?_) (fun c_1 => ?_)
  · refine lv_iload_n hx hb dX2_fill_22 rfl (lv_at hl 3 rfl) ?_
    refine sl_cS (n := 1) (As := [.int a]) (rest := []) ⟨hx, hb, hml, hown, hts⟩ (c_X2_isPosition l G cy ad σ τ a) gX2_fill_X2_isPosition rfl rfl rfl (by decide +kernel) ⟨Nat.le_of_ble_eq_true rfl, Nat.le_of_ble_eq_true rfl⟩ rfl hl.1 rfl (Nat.le_of_ble_eq_true rfl) dX2_fill_23 ⟨Nat.zero_le _, Nat.zero_le _⟩ hK hN hD hP hS (fun H locs hP hS => ?_)
    refine W.eq (g2 := F0 m 26 ls [.int (sp_X2_isPosition a)]) rfl ?_
    refine lv_if_ne (tgt := 32) hx hb dX2_fill_26 (by decide) (fun c_2 => ?_) (fun c_2 => ?_)
    · refine lv_aload_n hx hb dX2_fill_32 rfl (lv_at hl 0 rfl) ?_
      refine lv_iload_n hx hb dX2_fill_33 rfl (lv_at hl 3 rfl) ?_
      refine sl_putCN hx hb hts hi0 hown hK hD hP hS (sl_lt hc) 6 (by decide) rfl (tyX0_ok 6 (by decide)) (hN.f 2 rfl) dX2_fill_34 (fun H locs hP hS => ?_)
      refine lv_aload_n hx hb dX2_fill_37 rfl (lv_at hl 0 rfl) ?_
      refine lv_iconst (v := (-1 : Int32)) hx hb dX2_fill_38 (by decide) ?_
      refine sl_putCN hx hb hts hi0 hown hK hD hP hS (sl_lt hc) 7 (by decide) rfl (tyX0_ok 7 (by decide)) (hN.f 1 rfl) dX2_fill_39 (fun H locs hP hS => ?_)
      refine lv_aload_n hx hb dX2_fill_42 rfl (lv_at hl 0 rfl) ?_
      refine lv_iconst (v := (2 : Int32)) hx hb dX2_fill_43 (by decide) ?_
      refine lv_aload_n hx hb dX2_fill_44 rfl (lv_at hl 0 rfl) ?_
      refine lv_iload_n hx hb dX2_fill_45 rfl (lv_at hl 3 rfl) ?_
      refine sl_nV (n := 1) (As := [.int a]) (rest := [.int (2 : Int32), .ref (ad (3 + q.toNatClampNeg))]) ⟨hx, hb, hml, hown, hts⟩ (c_X0_chainOf l G cy ad (sl_up (sl_up σ (3 + q.toNatClampNeg) 6 a) (3 + q.toNatClampNeg) 7 (-1 : Int32)) τ q.toNatClampNeg (sl_lt hc) a) gX2_fill_X0_chainOf_n58 rfl rfl rfl (hN.m 3 rfl) (hts _ mw_X2_fill_11) (hts _ mw_X2_fill_10) (hts _ mw_X2_fill_12) (by decide +kernel) ⟨Nat.le_of_ble_eq_true rfl, Nat.le_of_ble_eq_true rfl⟩ (va_recv hK hP (ci := 0) (q0 := 3 + q.toNatClampNeg) rfl (sl_aC (sl_lt hc))) rfl hl.1 rfl (Nat.le_of_ble_eq_true rfl) dX2_fill_46 ⟨Nat.zero_le _, Nat.zero_le _⟩ hK hN hD hP hS (fun H locs hP hS => ?_)
      refine W.eq (g2 := F0 m 49 ls [.int (sp_X0_chainOf (sl_up (sl_up σ (3 + q.toNatClampNeg) 6 a) (3 + q.toNatClampNeg) 7 (-1 : Int32)) q.toNatClampNeg a), .int (2 : Int32), .ref (ad (3 + q.toNatClampNeg))]) rfl ?_
      refine sl_nV (n := 2) (As := [.int (2 : Int32), .int (sp_X0_chainOf (sl_up (sl_up σ (3 + q.toNatClampNeg) 6 a) (3 + q.toNatClampNeg) 7 (-1 : Int32)) q.toNatClampNeg a)]) (rest := []) ⟨hx, hb, hml, hown, hts⟩ (c_X0_begin l G cy ad (sl_up (sl_up σ (3 + q.toNatClampNeg) 6 a) (3 + q.toNatClampNeg) 7 (-1 : Int32)) τ q.toNatClampNeg (sl_lt hc) (2 : Int32) (sp_X0_chainOf (sl_up (sl_up σ (3 + q.toNatClampNeg) 6 a) (3 + q.toNatClampNeg) 7 (-1 : Int32)) q.toNatClampNeg a)) gX2_fill_X0_begin_n47 rfl rfl rfl (hN.m 2 rfl) (hts _ mw_X2_fill_11) (hts _ mw_X2_fill_15) (hts _ mw_X2_fill_16) (by decide +kernel) ⟨Nat.le_of_ble_eq_true rfl, Nat.le_of_ble_eq_true rfl⟩ (va_recv hK hP (ci := 0) (q0 := 3 + q.toNatClampNeg) rfl (sl_aC (sl_lt hc))) rfl hl.1 rfl (Nat.le_of_ble_eq_true rfl) dX2_fill_49 ⟨Nat.zero_le _, Nat.zero_le _⟩ hK hN hD hP hS (fun H locs hP hS => ?_)
      refine W.eq (g2 := F0 m 52 ls [.int ((sp_X0_begin (sl_up (sl_up σ (3 + q.toNatClampNeg) 6 a) (3 + q.toNatClampNeg) 7 (-1 : Int32)) q.toNatClampNeg (2 : Int32) (sp_X0_chainOf (sl_up (sl_up σ (3 + q.toNatClampNeg) 6 a) (3 + q.toNatClampNeg) 7 (-1 : Int32)) q.toNatClampNeg a)).1)]) rfl ?_
      have e_q : (sp_X2_fill_in σ q a) = (((sp_X0_begin (sl_up (sl_up σ (3 + q.toNatClampNeg) 6 a) (3 + q.toNatClampNeg) 7 (-1 : Int32)) q.toNatClampNeg (2 : Int32) (sp_X0_chainOf (sl_up (sl_up σ (3 + q.toNatClampNeg) 6 a) (3 + q.toNatClampNeg) 7 (-1 : Int32)) q.toNatClampNeg a)).1), (sp_X0_begin (sl_up (sl_up σ (3 + q.toNatClampNeg) 6 a) (3 + q.toNatClampNeg) 7 (-1 : Int32)) q.toNatClampNeg (2 : Int32) (sp_X0_chainOf (sl_up (sl_up σ (3 + q.toNatClampNeg) 6 a) (3 + q.toNatClampNeg) 7 (-1 : Int32)) q.toNatClampNeg a)).2) := by rw [sp_X2_fill_in, if_pos c_1, if_neg c_2]
      exact sl_iret hx hb hr hlocks hP hS (by rw [e_q]) (by rw [e_q]) rfl dX2_fill_52
    · refine lv_bipush (v := (-3 : Int32)) hx hb dX2_fill_29 (by decide) ?_
      have e_q : (sp_X2_fill_in σ q a) = ((-3 : Int32), σ) := by rw [sp_X2_fill_in, if_pos c_1, if_pos c_2]
      exact sl_iret hx hb hr hlocks hP hS (by rw [e_q]) (by rw [e_q]) rfl dX2_fill_31
  · refine lv_bipush (v := (-2 : Int32)) hx hb dX2_fill_19 (by decide) ?_
    have e_q : (sp_X2_fill_in σ q a) = ((-2 : Int32), σ) := by rw [sp_X2_fill_in, if_neg c_1]
    exact sl_iret hx hb hr hlocks hP hS (by rw [e_q]) (by rw [e_q]) rfl dX2_fill_21
def sp_X2_read_in (σ : sl_M) (q : Int32) (a : Int32) : Int32 × sl_M := 
  if (σ (3 + q.toNatClampNeg) 2) = 0 then 
    if (sp_X2_isPosition a) = 0 then ((-3 : Int32), σ)
    else (((sp_X0_begin (sl_up σ (3 + q.toNatClampNeg) 6 a) q.toNatClampNeg (3 : Int32) (sp_X2_highestOf (sp_X0_chainOf (sl_up σ (3 + q.toNatClampNeg) 6 a) q.toNatClampNeg a))).1), (sp_X0_begin (sl_up σ (3 + q.toNatClampNeg) 6 a) q.toNatClampNeg (3 : Int32) (sp_X2_highestOf (sp_X0_chainOf (sl_up σ (3 + q.toNatClampNeg) 6 a) q.toNatClampNeg a))).2)
  else ((-2 : Int32), σ)
set_option maxHeartbeats 4000000 in
set_option maxRecDepth 100000 in
theorem c_X2_read_in (l : Launch) (G : va_G) (cy : Nat → ClassId) (ad : Nat → Nat) (σ τ : sl_M) (q : Int32) (a : Int32) (hc : vp_in q 3) : sl_C l G cy ad yX2_read wsX2_read ({ frames := 1, cells := 0, slots := 0, locals := 22 }) [.ref (ad (0)), .int q, .int a] σ τ (some (.int (sp_X2_read_in σ q a).1)) (sp_X2_read_in σ q a).2 τ := by
  refine sl_of (cc := cX2_read) (maxL := 4) (ret := (some .int)) (by decide) rfl (Nat.le_of_ble_eq_true rfl) ?_
  intro p e s m below meth c hx hb hr hml hts hown hlocks hK hN hD hP hS ls hl
  have hown : s.vm.findClass RX2 = some m.cls := hown
  have hl : lv_has ls 4 [(0, .ref (ad (0))), (1, .int q), (2, .int a)] := hl
  have hi0 : ∀ w ∈ wsX00, w ∈ wsX2_read := fun _ h => (List.mem_cons_of_mem _ (List.mem_append_left _ (List.mem_append_right _ h)))
  refine lv_aload_n hx hb dX2_read_0 rfl (lv_at hl 0 rfl) ?_
  refine lv_iload_n hx hb dX2_read_1 rfl (lv_at hl 1 rfl) ?_
  refine sl_cV (n := 1) (As := [.int q]) (rest := []) ⟨hx, hb, hml, hown, hts⟩ (c_X2_clientAt_in l G cy ad σ τ q hc) gX2_read_X2_clientAt rfl rfl rfl (by decide +kernel) ⟨Nat.le_of_ble_eq_true rfl, Nat.le_of_ble_eq_true rfl⟩ (va_recv hK hP (ci := 2) (q0 := 0) rfl sl_aL) rfl hl.1 rfl (Nat.le_of_ble_eq_true rfl) dX2_read_2 ⟨Nat.zero_le _, Nat.zero_le _⟩ hK hN hD hP hS (fun H locs hP hS => ?_)
  refine W.eq (g2 := F0 m 5 ls [.ref (ad (3 + q.toNatClampNeg))]) rfl ?_
  refine lv_astore_n (lv' := [(3, .ref (ad (3 + q.toNatClampNeg))), (0, .ref (ad (0))), (1, .int q), (2, .int a)]) hx hb dX2_read_5 rfl hl (by decide) rfl (fun ls hl => ?_)
  refine lv_aload_n hx hb dX2_read_6 rfl (lv_at hl 0 rfl) ?_
  refine lv_ifnonnull (tgt := 12) hx hb dX2_read_7 (by decide) ?_
  refine lv_aload_n hx hb dX2_read_12 rfl (lv_at hl 0 rfl) ?_
  refine va_getN (D := G) (ci := 0) (v := .int (σ (3 + q.toNatClampNeg) 2)) (C := RX0) (T := TX0) (N := 12) hx hb hts hi0 hown hK hP (3 + q.toNatClampNeg) (sl_aC (sl_lt hc)) rfl 2 (by decide) (hN.f 0 rfl) (fun _ h9 => h9) rfl dX2_read_13 ?_
  refine lv_if_eq (tgt := 22) hx hb dX2_read_16 (by decide) (fun c_1 => ?_) (fun c_1 => ?_)
  · refine lv_iload_n hx hb dX2_read_22 rfl (lv_at hl 3 rfl) ?_
    refine sl_cS (n := 1) (As := [.int a]) (rest := []) ⟨hx, hb, hml, hown, hts⟩ (c_X2_isPosition l G cy ad σ τ a) gX2_read_X2_isPosition rfl rfl rfl (by decide +kernel) ⟨Nat.le_of_ble_eq_true rfl, Nat.le_of_ble_eq_true rfl⟩ rfl hl.1 rfl (Nat.le_of_ble_eq_true rfl) dX2_read_23 ⟨Nat.zero_le _, Nat.zero_le _⟩ hK hN hD hP hS (fun H locs hP hS => ?_)
    refine W.eq (g2 := F0 m 26 ls [.int (sp_X2_isPosition a)]) rfl ?_
    refine lv_if_ne (tgt := 32) hx hb dX2_read_26 (by decide) (fun c_2 => ?_) (fun c_2 => ?_)
    · refine lv_aload_n hx hb dX2_read_32 rfl (lv_at hl 0 rfl) ?_
      refine lv_iload_n hx hb dX2_read_33 rfl (lv_at hl 3 rfl) ?_
      refine sl_putCN hx hb hts hi0 hown hK hD hP hS (sl_lt hc) 6 (by decide) rfl (tyX0_ok 6 (by decide)) (hN.f 2 rfl) dX2_read_34 (fun H locs hP hS => ?_)
      refine lv_aload_n hx hb dX2_read_37 rfl (lv_at hl 0 rfl) ?_
      refine lv_iconst (v := (3 : Int32)) hx hb dX2_read_38 (by decide) ?_
      refine lv_aload_n hx hb dX2_read_39 rfl (lv_at hl 0 rfl) ?_
      refine lv_iload_n hx hb dX2_read_40 rfl (lv_at hl 3 rfl) ?_
      refine sl_nV (n := 1) (As := [.int a]) (rest := [.int (3 : Int32), .ref (ad (3 + q.toNatClampNeg))]) ⟨hx, hb, hml, hown, hts⟩ (c_X0_chainOf l G cy ad (sl_up σ (3 + q.toNatClampNeg) 6 a) τ q.toNatClampNeg (sl_lt hc) a) gX2_read_X0_chainOf_n58 rfl rfl rfl (hN.m 3 rfl) (hts _ mw_X2_read_11) (hts _ mw_X2_read_10) (hts _ mw_X2_read_12) (by decide +kernel) ⟨Nat.le_of_ble_eq_true rfl, Nat.le_of_ble_eq_true rfl⟩ (va_recv hK hP (ci := 0) (q0 := 3 + q.toNatClampNeg) rfl (sl_aC (sl_lt hc))) rfl hl.1 rfl (Nat.le_of_ble_eq_true rfl) dX2_read_41 ⟨Nat.zero_le _, Nat.zero_le _⟩ hK hN hD hP hS (fun H locs hP hS => ?_)
      refine W.eq (g2 := F0 m 44 ls [.int (sp_X0_chainOf (sl_up σ (3 + q.toNatClampNeg) 6 a) q.toNatClampNeg a), .int (3 : Int32), .ref (ad (3 + q.toNatClampNeg))]) rfl ?_
      refine sl_cS (n := 1) (As := [.int (sp_X0_chainOf (sl_up σ (3 + q.toNatClampNeg) 6 a) q.toNatClampNeg a)]) (rest := [.int (3 : Int32), .ref (ad (3 + q.toNatClampNeg))]) ⟨hx, hb, hml, hown, hts⟩ (c_X2_highestOf l G cy ad (sl_up σ (3 + q.toNatClampNeg) 6 a) τ (sp_X0_chainOf (sl_up σ (3 + q.toNatClampNeg) 6 a) q.toNatClampNeg a)) gX2_read_X2_highestOf rfl rfl rfl (by decide +kernel) ⟨Nat.le_of_ble_eq_true rfl, Nat.le_of_ble_eq_true rfl⟩ rfl hl.1 rfl (Nat.le_of_ble_eq_true rfl) dX2_read_44 ⟨Nat.zero_le _, Nat.zero_le _⟩ hK hN hD hP hS (fun H locs hP hS => ?_)
      refine W.eq (g2 := F0 m 47 ls [.int (sp_X2_highestOf (sp_X0_chainOf (sl_up σ (3 + q.toNatClampNeg) 6 a) q.toNatClampNeg a)), .int (3 : Int32), .ref (ad (3 + q.toNatClampNeg))]) rfl ?_
      refine sl_nV (n := 2) (As := [.int (3 : Int32), .int (sp_X2_highestOf (sp_X0_chainOf (sl_up σ (3 + q.toNatClampNeg) 6 a) q.toNatClampNeg a))]) (rest := []) ⟨hx, hb, hml, hown, hts⟩ (c_X0_begin l G cy ad (sl_up σ (3 + q.toNatClampNeg) 6 a) τ q.toNatClampNeg (sl_lt hc) (3 : Int32) (sp_X2_highestOf (sp_X0_chainOf (sl_up σ (3 + q.toNatClampNeg) 6 a) q.toNatClampNeg a))) gX2_read_X0_begin_n47 rfl rfl rfl (hN.m 2 rfl) (hts _ mw_X2_read_11) (hts _ mw_X2_read_18) (hts _ mw_X2_read_19) (by decide +kernel) ⟨Nat.le_of_ble_eq_true rfl, Nat.le_of_ble_eq_true rfl⟩ (va_recv hK hP (ci := 0) (q0 := 3 + q.toNatClampNeg) rfl (sl_aC (sl_lt hc))) rfl hl.1 rfl (Nat.le_of_ble_eq_true rfl) dX2_read_47 ⟨Nat.zero_le _, Nat.zero_le _⟩ hK hN hD hP hS (fun H locs hP hS => ?_)
      refine W.eq (g2 := F0 m 50 ls [.int ((sp_X0_begin (sl_up σ (3 + q.toNatClampNeg) 6 a) q.toNatClampNeg (3 : Int32) (sp_X2_highestOf (sp_X0_chainOf (sl_up σ (3 + q.toNatClampNeg) 6 a) q.toNatClampNeg a))).1)]) rfl ?_
      have e_q : (sp_X2_read_in σ q a) = (((sp_X0_begin (sl_up σ (3 + q.toNatClampNeg) 6 a) q.toNatClampNeg (3 : Int32) (sp_X2_highestOf (sp_X0_chainOf (sl_up σ (3 + q.toNatClampNeg) 6 a) q.toNatClampNeg a))).1), (sp_X0_begin (sl_up σ (3 + q.toNatClampNeg) 6 a) q.toNatClampNeg (3 : Int32) (sp_X2_highestOf (sp_X0_chainOf (sl_up σ (3 + q.toNatClampNeg) 6 a) q.toNatClampNeg a))).2) := by rw [sp_X2_read_in, if_pos c_1, if_neg c_2]
      exact sl_iret hx hb hr hlocks hP hS (by rw [e_q]) (by rw [e_q]) rfl dX2_read_50
    · refine lv_bipush (v := (-3 : Int32)) hx hb dX2_read_29 (by decide) ?_
      have e_q : (sp_X2_read_in σ q a) = ((-3 : Int32), σ) := by rw [sp_X2_read_in, if_pos c_1, if_pos c_2]
      exact sl_iret hx hb hr hlocks hP hS (by rw [e_q]) (by rw [e_q]) rfl dX2_read_31
  · refine lv_bipush (v := (-2 : Int32)) hx hb dX2_read_19 (by decide) ?_
    have e_q : (sp_X2_read_in σ q a) = ((-2 : Int32), σ) := by rw [sp_X2_read_in, if_neg c_1]
    exact sl_iret hx hb hr hlocks hP hS (by rw [e_q]) (by rw [e_q]) rfl dX2_read_21
def sp_X2_replay_in (σ : sl_M) (q : Int32) (a : Int32) : Int32 × sl_M := 
  if (σ (3 + q.toNatClampNeg) 2) = 0 then 
    if a < 0 then ((-3 : Int32), σ)
    else if a ≤ (32 : Int32) then (((sp_X0_begin (sl_up (sl_up (sl_up σ (3 + q.toNatClampNeg) 6 (0 : Int32)) (3 + q.toNatClampNeg) 8 a) (3 + q.toNatClampNeg) 9 (0 : Int32)) q.toNatClampNeg (4 : Int32) (sp_X0_replayRoute (sl_up (sl_up (sl_up σ (3 + q.toNatClampNeg) 6 (0 : Int32)) (3 + q.toNatClampNeg) 8 a) (3 + q.toNatClampNeg) 9 (0 : Int32)) q.toNatClampNeg)).1), (sp_X0_begin (sl_up (sl_up (sl_up σ (3 + q.toNatClampNeg) 6 (0 : Int32)) (3 + q.toNatClampNeg) 8 a) (3 + q.toNatClampNeg) 9 (0 : Int32)) q.toNatClampNeg (4 : Int32) (sp_X0_replayRoute (sl_up (sl_up (sl_up σ (3 + q.toNatClampNeg) 6 (0 : Int32)) (3 + q.toNatClampNeg) 8 a) (3 + q.toNatClampNeg) 9 (0 : Int32)) q.toNatClampNeg)).2)
    else ((-3 : Int32), σ)
  else ((-2 : Int32), σ)
set_option maxHeartbeats 4000000 in
set_option maxRecDepth 100000 in
theorem c_X2_replay_in (l : Launch) (G : va_G) (cy : Nat → ClassId) (ad : Nat → Nat) (σ τ : sl_M) (q : Int32) (a : Int32) (hc : vp_in q 3) : sl_C l G cy ad yX2_replay wsX2_replay ({ frames := 2, cells := 0, slots := 0, locals := 41 }) [.ref (ad (0)), .int q, .int a] σ τ (some (.int (sp_X2_replay_in σ q a).1)) (sp_X2_replay_in σ q a).2 τ := by
  refine sl_of (cc := cX2_replay) (maxL := 4) (ret := (some .int)) (by decide) rfl (Nat.le_of_ble_eq_true rfl) ?_
  intro p e s m below meth c hx hb hr hml hts hown hlocks hK hN hD hP hS ls hl
  have hown : s.vm.findClass RX2 = some m.cls := hown
  have hl : lv_has ls 4 [(0, .ref (ad (0))), (1, .int q), (2, .int a)] := hl
  have hi0 : ∀ w ∈ wsX00, w ∈ wsX2_replay := fun _ h => (List.mem_cons_of_mem _ (List.mem_append_left _ (List.mem_append_right _ h)))
  refine lv_aload_n hx hb dX2_replay_0 rfl (lv_at hl 0 rfl) ?_
  refine lv_iload_n hx hb dX2_replay_1 rfl (lv_at hl 1 rfl) ?_
  refine sl_cV (n := 1) (As := [.int q]) (rest := []) ⟨hx, hb, hml, hown, hts⟩ (c_X2_clientAt_in l G cy ad σ τ q hc) gX2_replay_X2_clientAt rfl rfl rfl (by decide +kernel) ⟨Nat.le_of_ble_eq_true rfl, Nat.le_of_ble_eq_true rfl⟩ (va_recv hK hP (ci := 2) (q0 := 0) rfl sl_aL) rfl hl.1 rfl (Nat.le_of_ble_eq_true rfl) dX2_replay_2 ⟨Nat.zero_le _, Nat.zero_le _⟩ hK hN hD hP hS (fun H locs hP hS => ?_)
  refine W.eq (g2 := F0 m 5 ls [.ref (ad (3 + q.toNatClampNeg))]) rfl ?_
  refine lv_astore_n (lv' := [(3, .ref (ad (3 + q.toNatClampNeg))), (0, .ref (ad (0))), (1, .int q), (2, .int a)]) hx hb dX2_replay_5 rfl hl (by decide) rfl (fun ls hl => ?_)
  refine lv_aload_n hx hb dX2_replay_6 rfl (lv_at hl 0 rfl) ?_
  refine lv_ifnonnull (tgt := 12) hx hb dX2_replay_7 (by decide) ?_
  refine lv_aload_n hx hb dX2_replay_12 rfl (lv_at hl 0 rfl) ?_
  refine va_getN (D := G) (ci := 0) (v := .int (σ (3 + q.toNatClampNeg) 2)) (C := RX0) (T := TX0) (N := 12) hx hb hts hi0 hown hK hP (3 + q.toNatClampNeg) (sl_aC (sl_lt hc)) rfl 2 (by decide) (hN.f 0 rfl) (fun _ h9 => h9) rfl dX2_replay_13 ?_
  refine lv_if_eq (tgt := 22) hx hb dX2_replay_16 (by decide) (fun c_1 => ?_) (fun c_1 => ?_)
  · refine lv_iload_n hx hb dX2_replay_22 rfl (lv_at hl 3 rfl) ?_
    refine lv_if_lt (tgt := 32) hx hb dX2_replay_23 (by decide) (fun c_2 => ?_) (fun c_2 => ?_)
    · refine lv_bipush (v := (-3 : Int32)) hx hb dX2_replay_32 (by decide) ?_
      have e_q : (sp_X2_replay_in σ q a) = ((-3 : Int32), σ) := by rw [sp_X2_replay_in, if_pos c_1, if_pos c_2]
      exact sl_iret hx hb hr hlocks hP hS (by rw [e_q]) (by rw [e_q]) rfl dX2_replay_34
    · refine lv_iload_n hx hb dX2_replay_26 rfl (lv_at hl 3 rfl) ?_
      refine lv_bipush (v := (32 : Int32)) hx hb dX2_replay_27 (by decide) ?_
      refine lv_icmp_le (tgt := 35) hx hb dX2_replay_29 (by decide) (fun c_3 => ?_) (fun c_3 => ?_)
      · refine lv_aload_n hx hb dX2_replay_35 rfl (lv_at hl 0 rfl) ?_
        refine lv_iconst (v := (0 : Int32)) hx hb dX2_replay_36 (by decide) ?_
        refine sl_putCN hx hb hts hi0 hown hK hD hP hS (sl_lt hc) 6 (by decide) rfl (tyX0_ok 6 (by decide)) (hN.f 2 rfl) dX2_replay_37 (fun H locs hP hS => ?_)
        refine lv_aload_n hx hb dX2_replay_40 rfl (lv_at hl 0 rfl) ?_
        refine lv_iload_n hx hb dX2_replay_41 rfl (lv_at hl 3 rfl) ?_
        refine sl_putCN hx hb hts hi0 hown hK hD hP hS (sl_lt hc) 8 (by decide) rfl (tyX0_ok 8 (by decide)) (hN.f 3 rfl) dX2_replay_42 (fun H locs hP hS => ?_)
        refine lv_aload_n hx hb dX2_replay_45 rfl (lv_at hl 0 rfl) ?_
        refine lv_iconst (v := (0 : Int32)) hx hb dX2_replay_46 (by decide) ?_
        refine sl_putCN hx hb hts hi0 hown hK hD hP hS (sl_lt hc) 9 (by decide) rfl (tyX0_ok 9 (by decide)) (hN.f 4 rfl) dX2_replay_47 (fun H locs hP hS => ?_)
        refine lv_aload_n hx hb dX2_replay_50 rfl (lv_at hl 0 rfl) ?_
        refine lv_iconst (v := (4 : Int32)) hx hb dX2_replay_51 (by decide) ?_
        refine lv_aload_n hx hb dX2_replay_52 rfl (lv_at hl 0 rfl) ?_
        refine sl_nV (n := 0) (As := []) (rest := [.int (4 : Int32), .ref (ad (3 + q.toNatClampNeg))]) ⟨hx, hb, hml, hown, hts⟩ (c_X0_replayRoute l G cy ad (sl_up (sl_up (sl_up σ (3 + q.toNatClampNeg) 6 (0 : Int32)) (3 + q.toNatClampNeg) 8 a) (3 + q.toNatClampNeg) 9 (0 : Int32)) τ q.toNatClampNeg (sl_lt hc)) gX2_replay_X0_replayRoute_n71 rfl rfl rfl (hN.m 4 rfl) (hts _ mw_X2_replay_8) (hts _ mw_X2_replay_7) (hts _ mw_X2_replay_9) (by decide +kernel) ⟨Nat.le_of_ble_eq_true rfl, Nat.le_of_ble_eq_true rfl⟩ (va_recv hK hP (ci := 0) (q0 := 3 + q.toNatClampNeg) rfl (sl_aC (sl_lt hc))) rfl hl.1 rfl (Nat.le_of_ble_eq_true rfl) dX2_replay_53 ⟨Nat.zero_le _, Nat.zero_le _⟩ hK hN hD hP hS (fun H locs hP hS => ?_)
        refine W.eq (g2 := F0 m 56 ls [.int (sp_X0_replayRoute (sl_up (sl_up (sl_up σ (3 + q.toNatClampNeg) 6 (0 : Int32)) (3 + q.toNatClampNeg) 8 a) (3 + q.toNatClampNeg) 9 (0 : Int32)) q.toNatClampNeg), .int (4 : Int32), .ref (ad (3 + q.toNatClampNeg))]) rfl ?_
        refine sl_nV (n := 2) (As := [.int (4 : Int32), .int (sp_X0_replayRoute (sl_up (sl_up (sl_up σ (3 + q.toNatClampNeg) 6 (0 : Int32)) (3 + q.toNatClampNeg) 8 a) (3 + q.toNatClampNeg) 9 (0 : Int32)) q.toNatClampNeg)]) (rest := []) ⟨hx, hb, hml, hown, hts⟩ (c_X0_begin l G cy ad (sl_up (sl_up (sl_up σ (3 + q.toNatClampNeg) 6 (0 : Int32)) (3 + q.toNatClampNeg) 8 a) (3 + q.toNatClampNeg) 9 (0 : Int32)) τ q.toNatClampNeg (sl_lt hc) (4 : Int32) (sp_X0_replayRoute (sl_up (sl_up (sl_up σ (3 + q.toNatClampNeg) 6 (0 : Int32)) (3 + q.toNatClampNeg) 8 a) (3 + q.toNatClampNeg) 9 (0 : Int32)) q.toNatClampNeg)) gX2_replay_X0_begin_n47 rfl rfl rfl (hN.m 2 rfl) (hts _ mw_X2_replay_8) (hts _ mw_X2_replay_20) (hts _ mw_X2_replay_21) (by decide +kernel) ⟨Nat.le_of_ble_eq_true rfl, Nat.le_of_ble_eq_true rfl⟩ (va_recv hK hP (ci := 0) (q0 := 3 + q.toNatClampNeg) rfl (sl_aC (sl_lt hc))) rfl hl.1 rfl (Nat.le_of_ble_eq_true rfl) dX2_replay_56 ⟨Nat.zero_le _, Nat.zero_le _⟩ hK hN hD hP hS (fun H locs hP hS => ?_)
        refine W.eq (g2 := F0 m 59 ls [.int ((sp_X0_begin (sl_up (sl_up (sl_up σ (3 + q.toNatClampNeg) 6 (0 : Int32)) (3 + q.toNatClampNeg) 8 a) (3 + q.toNatClampNeg) 9 (0 : Int32)) q.toNatClampNeg (4 : Int32) (sp_X0_replayRoute (sl_up (sl_up (sl_up σ (3 + q.toNatClampNeg) 6 (0 : Int32)) (3 + q.toNatClampNeg) 8 a) (3 + q.toNatClampNeg) 9 (0 : Int32)) q.toNatClampNeg)).1)]) rfl ?_
        have e_q : (sp_X2_replay_in σ q a) = (((sp_X0_begin (sl_up (sl_up (sl_up σ (3 + q.toNatClampNeg) 6 (0 : Int32)) (3 + q.toNatClampNeg) 8 a) (3 + q.toNatClampNeg) 9 (0 : Int32)) q.toNatClampNeg (4 : Int32) (sp_X0_replayRoute (sl_up (sl_up (sl_up σ (3 + q.toNatClampNeg) 6 (0 : Int32)) (3 + q.toNatClampNeg) 8 a) (3 + q.toNatClampNeg) 9 (0 : Int32)) q.toNatClampNeg)).1), (sp_X0_begin (sl_up (sl_up (sl_up σ (3 + q.toNatClampNeg) 6 (0 : Int32)) (3 + q.toNatClampNeg) 8 a) (3 + q.toNatClampNeg) 9 (0 : Int32)) q.toNatClampNeg (4 : Int32) (sp_X0_replayRoute (sl_up (sl_up (sl_up σ (3 + q.toNatClampNeg) 6 (0 : Int32)) (3 + q.toNatClampNeg) 8 a) (3 + q.toNatClampNeg) 9 (0 : Int32)) q.toNatClampNeg)).2) := by rw [sp_X2_replay_in, if_pos c_1, if_neg c_2, if_pos c_3]
        exact sl_iret hx hb hr hlocks hP hS (by rw [e_q]) (by rw [e_q]) rfl dX2_replay_59
      · refine lv_bipush (v := (-3 : Int32)) hx hb dX2_replay_32 (by decide) ?_
        have e_q : (sp_X2_replay_in σ q a) = ((-3 : Int32), σ) := by rw [sp_X2_replay_in, if_pos c_1, if_neg c_2, if_neg c_3]
        exact sl_iret hx hb hr hlocks hP hS (by rw [e_q]) (by rw [e_q]) rfl dX2_replay_34
  · refine lv_bipush (v := (-2 : Int32)) hx hb dX2_replay_19 (by decide) ?_
    have e_q : (sp_X2_replay_in σ q a) = ((-2 : Int32), σ) := by rw [sp_X2_replay_in, if_neg c_1]
    exact sl_iret hx hb hr hlocks hP hS (by rw [e_q]) (by rw [e_q]) rfl dX2_replay_21
def sp_X2_reform_in (σ : sl_M) (q : Int32) (a : Int32) : Int32 × sl_M := 
  if (σ (3 + q.toNatClampNeg) 2) = 0 then 
    if a < 0 then ((-3 : Int32), σ)
    else if a ≤ (63 : Int32) then 
      if (((σ (3 + q.toNatClampNeg) 1) &&& (a ^^^ (-1 : Int32))) &&& (21 : Int32)) = 0 then ((-4 : Int32), σ)
      else if (((σ (3 + q.toNatClampNeg) 1) &&& (a ^^^ (-1 : Int32))) &&& (42 : Int32)) = 0 then ((-4 : Int32), σ)
      else (((sp_X0_begin (sl_up (sl_up σ (3 + q.toNatClampNeg) 10 ((σ (3 + q.toNatClampNeg) 1) &&& (a ^^^ (-1 : Int32)))) (3 + q.toNatClampNeg) 11 (0 : Int32)) q.toNatClampNeg (5 : Int32) ((σ (3 + q.toNatClampNeg) 1) &&& (a ^^^ (-1 : Int32)))).1), (sp_X0_begin (sl_up (sl_up σ (3 + q.toNatClampNeg) 10 ((σ (3 + q.toNatClampNeg) 1) &&& (a ^^^ (-1 : Int32)))) (3 + q.toNatClampNeg) 11 (0 : Int32)) q.toNatClampNeg (5 : Int32) ((σ (3 + q.toNatClampNeg) 1) &&& (a ^^^ (-1 : Int32)))).2)
    else ((-3 : Int32), σ)
  else ((-2 : Int32), σ)
set_option maxHeartbeats 4000000 in
set_option maxRecDepth 100000 in
theorem c_X2_reform_in (l : Launch) (G : va_G) (cy : Nat → ClassId) (ad : Nat → Nat) (σ τ : sl_M) (q : Int32) (a : Int32) (hc : vp_in q 3) : sl_C l G cy ad yX2_reform wsX2_reform ({ frames := 1, cells := 0, slots := 0, locals := 22 }) [.ref (ad (0)), .int q, .int a] σ τ (some (.int (sp_X2_reform_in σ q a).1)) (sp_X2_reform_in σ q a).2 τ := by
  refine sl_of (cc := cX2_reform) (maxL := 5) (ret := (some .int)) (by decide) rfl (Nat.le_of_ble_eq_true rfl) ?_
  intro p e s m below meth c hx hb hr hml hts hown hlocks hK hN hD hP hS ls hl
  have hown : s.vm.findClass RX2 = some m.cls := hown
  have hl : lv_has ls 5 [(0, .ref (ad (0))), (1, .int q), (2, .int a)] := hl
  have hi0 : ∀ w ∈ wsX00, w ∈ wsX2_reform := fun _ h => (List.mem_cons_of_mem _ (List.mem_append_left _ (List.mem_append_right _ h)))
  refine lv_aload_n hx hb dX2_reform_0 rfl (lv_at hl 0 rfl) ?_
  refine lv_iload_n hx hb dX2_reform_1 rfl (lv_at hl 1 rfl) ?_
  refine sl_cV (n := 1) (As := [.int q]) (rest := []) ⟨hx, hb, hml, hown, hts⟩ (c_X2_clientAt_in l G cy ad σ τ q hc) gX2_reform_X2_clientAt rfl rfl rfl (by decide +kernel) ⟨Nat.le_of_ble_eq_true rfl, Nat.le_of_ble_eq_true rfl⟩ (va_recv hK hP (ci := 2) (q0 := 0) rfl sl_aL) rfl hl.1 rfl (Nat.le_of_ble_eq_true rfl) dX2_reform_2 ⟨Nat.zero_le _, Nat.zero_le _⟩ hK hN hD hP hS (fun H locs hP hS => ?_)
  refine W.eq (g2 := F0 m 5 ls [.ref (ad (3 + q.toNatClampNeg))]) rfl ?_
  refine lv_astore_n (lv' := [(3, .ref (ad (3 + q.toNatClampNeg))), (0, .ref (ad (0))), (1, .int q), (2, .int a)]) hx hb dX2_reform_5 rfl hl (by decide) rfl (fun ls hl => ?_)
  refine lv_aload_n hx hb dX2_reform_6 rfl (lv_at hl 0 rfl) ?_
  refine lv_ifnonnull (tgt := 12) hx hb dX2_reform_7 (by decide) ?_
  refine lv_aload_n hx hb dX2_reform_12 rfl (lv_at hl 0 rfl) ?_
  refine va_getN (D := G) (ci := 0) (v := .int (σ (3 + q.toNatClampNeg) 2)) (C := RX0) (T := TX0) (N := 12) hx hb hts hi0 hown hK hP (3 + q.toNatClampNeg) (sl_aC (sl_lt hc)) rfl 2 (by decide) (hN.f 0 rfl) (fun _ h9 => h9) rfl dX2_reform_13 ?_
  refine lv_if_eq (tgt := 22) hx hb dX2_reform_16 (by decide) (fun c_1 => ?_) (fun c_1 => ?_)
  · refine lv_iload_n hx hb dX2_reform_22 rfl (lv_at hl 3 rfl) ?_
    refine lv_if_lt (tgt := 32) hx hb dX2_reform_23 (by decide) (fun c_2 => ?_) (fun c_2 => ?_)
    · refine lv_bipush (v := (-3 : Int32)) hx hb dX2_reform_32 (by decide) ?_
      have e_q : (sp_X2_reform_in σ q a) = ((-3 : Int32), σ) := by rw [sp_X2_reform_in, if_pos c_1, if_pos c_2]
      exact sl_iret hx hb hr hlocks hP hS (by rw [e_q]) (by rw [e_q]) rfl dX2_reform_34
    · refine lv_iload_n hx hb dX2_reform_26 rfl (lv_at hl 3 rfl) ?_
      refine lv_bipush (v := (63 : Int32)) hx hb dX2_reform_27 (by decide) ?_
      refine lv_icmp_le (tgt := 35) hx hb dX2_reform_29 (by decide) (fun c_3 => ?_) (fun c_3 => ?_)
      · refine lv_aload_n hx hb dX2_reform_35 rfl (lv_at hl 0 rfl) ?_
        refine va_getN (D := G) (ci := 0) (v := .int (σ (3 + q.toNatClampNeg) 1)) (C := RX0) (T := TX0) (N := 12) hx hb hts hi0 hown hK hP (3 + q.toNatClampNeg) (sl_aC (sl_lt hc)) rfl 1 (by decide) (hN.f 5 rfl) (fun _ h9 => h9) rfl dX2_reform_36 ?_
        refine lv_iload_n hx hb dX2_reform_39 rfl (lv_at hl 3 rfl) ?_
        refine lv_iconst (v := (-1 : Int32)) hx hb dX2_reform_40 (by decide) ?_
        refine lv_ixor hx hb dX2_reform_41 ?_
        refine lv_iand hx hb dX2_reform_42 ?_
        refine lv_istore (lv' := [(4, .int ((σ (3 + q.toNatClampNeg) 1) &&& (a ^^^ (-1 : Int32)))), (3, .ref (ad (3 + q.toNatClampNeg))), (0, .ref (ad (0))), (1, .int q), (2, .int a)]) hx hb dX2_reform_43 hl (by decide) rfl (fun ls hl => ?_)
        refine lv_iload hx hb dX2_reform_45 (lv_at hl 0 rfl) ?_
        refine lv_bipush (v := (21 : Int32)) hx hb dX2_reform_47 (by decide) ?_
        refine lv_iand hx hb dX2_reform_49 ?_
        refine lv_if_eq (tgt := 61) hx hb dX2_reform_50 (by decide) (fun c_4 => ?_) (fun c_4 => ?_)
        · refine lv_bipush (v := (-4 : Int32)) hx hb dX2_reform_61 (by decide) ?_
          have e_q : (sp_X2_reform_in σ q a) = ((-4 : Int32), σ) := by rw [sp_X2_reform_in, if_pos c_1, if_neg c_2, if_pos c_3, if_pos c_4]
          exact sl_iret hx hb hr hlocks hP hS (by rw [e_q]) (by rw [e_q]) rfl dX2_reform_63
        · refine lv_iload hx hb dX2_reform_53 (lv_at hl 0 rfl) ?_
          refine lv_bipush (v := (42 : Int32)) hx hb dX2_reform_55 (by decide) ?_
          refine lv_iand hx hb dX2_reform_57 ?_
          refine lv_if_ne (tgt := 64) hx hb dX2_reform_58 (by decide) (fun c_5 => ?_) (fun c_5 => ?_)
          · refine lv_aload_n hx hb dX2_reform_64 rfl (lv_at hl 1 rfl) ?_
            refine lv_iload hx hb dX2_reform_65 (lv_at hl 0 rfl) ?_
            refine sl_putCN hx hb hts hi0 hown hK hD hP hS (sl_lt hc) 10 (by decide) rfl (tyX0_ok 10 (by decide)) (hN.f 6 rfl) dX2_reform_67 (fun H locs hP hS => ?_)
            refine lv_aload_n hx hb dX2_reform_70 rfl (lv_at hl 1 rfl) ?_
            refine lv_iconst (v := (0 : Int32)) hx hb dX2_reform_71 (by decide) ?_
            refine sl_putCN hx hb hts hi0 hown hK hD hP hS (sl_lt hc) 11 (by decide) rfl (tyX0_ok 11 (by decide)) (hN.f 7 rfl) dX2_reform_72 (fun H locs hP hS => ?_)
            refine lv_aload_n hx hb dX2_reform_75 rfl (lv_at hl 1 rfl) ?_
            refine lv_iconst (v := (5 : Int32)) hx hb dX2_reform_76 (by decide) ?_
            refine lv_iload hx hb dX2_reform_77 (lv_at hl 0 rfl) ?_
            refine sl_nV (n := 2) (As := [.int (5 : Int32), .int ((σ (3 + q.toNatClampNeg) 1) &&& (a ^^^ (-1 : Int32)))]) (rest := []) ⟨hx, hb, hml, hown, hts⟩ (c_X0_begin l G cy ad (sl_up (sl_up σ (3 + q.toNatClampNeg) 10 ((σ (3 + q.toNatClampNeg) 1) &&& (a ^^^ (-1 : Int32)))) (3 + q.toNatClampNeg) 11 (0 : Int32)) τ q.toNatClampNeg (sl_lt hc) (5 : Int32) ((σ (3 + q.toNatClampNeg) 1) &&& (a ^^^ (-1 : Int32)))) gX2_reform_X0_begin_n47 rfl rfl rfl (hN.m 2 rfl) (hts _ mw_X2_reform_8) (hts _ mw_X2_reform_7) (hts _ mw_X2_reform_9) (by decide +kernel) ⟨Nat.le_of_ble_eq_true rfl, Nat.le_of_ble_eq_true rfl⟩ (va_recv hK hP (ci := 0) (q0 := 3 + q.toNatClampNeg) rfl (sl_aC (sl_lt hc))) rfl hl.1 rfl (Nat.le_of_ble_eq_true rfl) dX2_reform_79 ⟨Nat.zero_le _, Nat.zero_le _⟩ hK hN hD hP hS (fun H locs hP hS => ?_)
            refine W.eq (g2 := F0 m 82 ls [.int ((sp_X0_begin (sl_up (sl_up σ (3 + q.toNatClampNeg) 10 ((σ (3 + q.toNatClampNeg) 1) &&& (a ^^^ (-1 : Int32)))) (3 + q.toNatClampNeg) 11 (0 : Int32)) q.toNatClampNeg (5 : Int32) ((σ (3 + q.toNatClampNeg) 1) &&& (a ^^^ (-1 : Int32)))).1)]) rfl ?_
            have e_q : (sp_X2_reform_in σ q a) = (((sp_X0_begin (sl_up (sl_up σ (3 + q.toNatClampNeg) 10 ((σ (3 + q.toNatClampNeg) 1) &&& (a ^^^ (-1 : Int32)))) (3 + q.toNatClampNeg) 11 (0 : Int32)) q.toNatClampNeg (5 : Int32) ((σ (3 + q.toNatClampNeg) 1) &&& (a ^^^ (-1 : Int32)))).1), (sp_X0_begin (sl_up (sl_up σ (3 + q.toNatClampNeg) 10 ((σ (3 + q.toNatClampNeg) 1) &&& (a ^^^ (-1 : Int32)))) (3 + q.toNatClampNeg) 11 (0 : Int32)) q.toNatClampNeg (5 : Int32) ((σ (3 + q.toNatClampNeg) 1) &&& (a ^^^ (-1 : Int32)))).2) := by rw [sp_X2_reform_in, if_pos c_1, if_neg c_2, if_pos c_3, if_neg c_4, if_neg c_5]
            exact sl_iret hx hb hr hlocks hP hS (by rw [e_q]) (by rw [e_q]) rfl dX2_reform_82
          · refine lv_bipush (v := (-4 : Int32)) hx hb dX2_reform_61 (by decide) ?_
            have e_q : (sp_X2_reform_in σ q a) = ((-4 : Int32), σ) := by rw [sp_X2_reform_in, if_pos c_1, if_neg c_2, if_pos c_3, if_neg c_4, if_pos c_5]
            exact sl_iret hx hb hr hlocks hP hS (by rw [e_q]) (by rw [e_q]) rfl dX2_reform_63
      · refine lv_bipush (v := (-3 : Int32)) hx hb dX2_reform_32 (by decide) ?_
        have e_q : (sp_X2_reform_in σ q a) = ((-3 : Int32), σ) := by rw [sp_X2_reform_in, if_pos c_1, if_neg c_2, if_neg c_3]
        exact sl_iret hx hb hr hlocks hP hS (by rw [e_q]) (by rw [e_q]) rfl dX2_reform_34
  · refine lv_bipush (v := (-2 : Int32)) hx hb dX2_reform_19 (by decide) ?_
    have e_q : (sp_X2_reform_in σ q a) = ((-2 : Int32), σ) := by rw [sp_X2_reform_in, if_neg c_1]
    exact sl_iret hx hb hr hlocks hP hS (by rw [e_q]) (by rw [e_q]) rfl dX2_reform_21
def sp_X2_refresh_in (σ : sl_M) (q : Int32) : Int32 × sl_M := 
  if (σ (3 + q.toNatClampNeg) 2) = 0 then (((sp_X2_takeStoreProjection σ q.toNatClampNeg) (3 + q.toNatClampNeg) 0), (sp_X2_takeStoreProjection σ q.toNatClampNeg))
  else ((-2 : Int32), σ)
set_option maxHeartbeats 4000000 in
set_option maxRecDepth 100000 in
theorem c_X2_refresh_in (l : Launch) (G : va_G) (cy : Nat → ClassId) (ad : Nat → Nat) (σ τ : sl_M) (q : Int32) (hc : vp_in q 3) : sl_C l G cy ad yX2_refresh wsX2_refresh ({ frames := 1, cells := 0, slots := 0, locals := 21 }) [.ref (ad (0)), .int q] σ τ (some (.int (sp_X2_refresh_in σ q).1)) (sp_X2_refresh_in σ q).2 τ := by
  refine sl_of (cc := cX2_refresh) (maxL := 3) (ret := (some .int)) (by decide) rfl (Nat.le_of_ble_eq_true rfl) ?_
  intro p e s m below meth c hx hb hr hml hts hown hlocks hK hN hD hP hS ls hl
  have hown : s.vm.findClass RX2 = some m.cls := hown
  have hl : lv_has ls 3 [(0, .ref (ad (0))), (1, .int q)] := hl
  have hi0 : ∀ w ∈ wsX00, w ∈ wsX2_refresh := fun _ h => (List.mem_cons_of_mem _ (List.mem_append_left _ (List.mem_append_right _ h)))
  refine lv_aload_n hx hb dX2_refresh_0 rfl (lv_at hl 0 rfl) ?_
  refine lv_iload_n hx hb dX2_refresh_1 rfl (lv_at hl 1 rfl) ?_
  refine sl_cV (n := 1) (As := [.int q]) (rest := []) ⟨hx, hb, hml, hown, hts⟩ (c_X2_clientAt_in l G cy ad σ τ q hc) gX2_refresh_X2_clientAt rfl rfl rfl (by decide +kernel) ⟨Nat.le_of_ble_eq_true rfl, Nat.le_of_ble_eq_true rfl⟩ (va_recv hK hP (ci := 2) (q0 := 0) rfl sl_aL) rfl hl.1 rfl (Nat.le_of_ble_eq_true rfl) dX2_refresh_2 ⟨Nat.zero_le _, Nat.zero_le _⟩ hK hN hD hP hS (fun H locs hP hS => ?_)
  refine W.eq (g2 := F0 m 5 ls [.ref (ad (3 + q.toNatClampNeg))]) rfl ?_
  refine lv_astore_n (lv' := [(2, .ref (ad (3 + q.toNatClampNeg))), (0, .ref (ad (0))), (1, .int q)]) hx hb dX2_refresh_5 rfl hl (by decide) rfl (fun ls hl => ?_)
  refine lv_aload_n hx hb dX2_refresh_6 rfl (lv_at hl 0 rfl) ?_
  refine lv_ifnonnull (tgt := 12) hx hb dX2_refresh_7 (by decide) ?_
  refine lv_aload_n hx hb dX2_refresh_12 rfl (lv_at hl 0 rfl) ?_
  refine va_getN (D := G) (ci := 0) (v := .int (σ (3 + q.toNatClampNeg) 2)) (C := RX0) (T := TX0) (N := 12) hx hb hts hi0 hown hK hP (3 + q.toNatClampNeg) (sl_aC (sl_lt hc)) rfl 2 (by decide) (hN.f 0 rfl) (fun _ h9 => h9) rfl dX2_refresh_13 ?_
  refine lv_if_eq (tgt := 22) hx hb dX2_refresh_16 (by decide) (fun c_1 => ?_) (fun c_1 => ?_)
  · refine lv_aload_n hx hb dX2_refresh_22 rfl (lv_at hl 1 rfl) ?_
    refine lv_aload_n hx hb dX2_refresh_23 rfl (lv_at hl 0 rfl) ?_
    refine sl_cV (n := 1) (As := [.ref (ad (3 + q.toNatClampNeg))]) (rest := []) ⟨hx, hb, hml, hown, hts⟩ (c_X2_takeStoreProjection l G cy ad σ τ q.toNatClampNeg (sl_lt hc)) gX2_refresh_X2_takeStoreProjection rfl rfl rfl (by decide +kernel) ⟨Nat.le_of_ble_eq_true rfl, Nat.le_of_ble_eq_true rfl⟩ (va_recv hK hP (ci := 2) (q0 := 0) rfl sl_aL) rfl hl.1 rfl (Nat.le_of_ble_eq_true rfl) dX2_refresh_24 ⟨Nat.zero_le _, Nat.zero_le _⟩ hK hN hD hP hS (fun H locs hP hS => ?_)
    refine W.eq (g2 := F0 m 27 ls []) rfl ?_
    refine lv_aload_n hx hb dX2_refresh_27 rfl (lv_at hl 0 rfl) ?_
    refine va_getN (D := G) (ci := 0) (v := .int ((sp_X2_takeStoreProjection σ q.toNatClampNeg) (3 + q.toNatClampNeg) 0)) (C := RX0) (T := TX0) (N := 12) hx hb hts hi0 hown hK hP (3 + q.toNatClampNeg) (sl_aC (sl_lt hc)) rfl 0 (by decide) (hN.f 11 rfl) (fun _ h9 => h9) rfl dX2_refresh_28 ?_
    have e_q : (sp_X2_refresh_in σ q) = (((sp_X2_takeStoreProjection σ q.toNatClampNeg) (3 + q.toNatClampNeg) 0), (sp_X2_takeStoreProjection σ q.toNatClampNeg)) := by rw [sp_X2_refresh_in, if_pos c_1]
    exact sl_iret hx hb hr hlocks hP hS (by rw [e_q]) (by rw [e_q]) rfl dX2_refresh_31
  · refine lv_bipush (v := (-2 : Int32)) hx hb dX2_refresh_19 (by decide) ?_
    have e_q : (sp_X2_refresh_in σ q) = ((-2 : Int32), σ) := by rw [sp_X2_refresh_in, if_neg c_1]
    exact sl_iret hx hb hr hlocks hP hS (by rw [e_q]) (by rw [e_q]) rfl dX2_refresh_21
def sp_X2_busy_in (σ : sl_M) (q : Int32) : Int32 := (σ (3 + q.toNatClampNeg) 2)
set_option maxHeartbeats 4000000 in
set_option maxRecDepth 100000 in
theorem c_X2_busy_in (l : Launch) (G : va_G) (cy : Nat → ClassId) (ad : Nat → Nat) (σ τ : sl_M) (q : Int32) (hc : vp_in q 3) : sl_C l G cy ad yX2_busy wsX2_busy ({ frames := 1, cells := 0, slots := 0, locals := 21 }) [.ref (ad (0)), .int q] σ τ (some (.int (sp_X2_busy_in σ q))) σ τ := by
  refine sl_of (cc := cX2_busy) (maxL := 3) (ret := (some .int)) (by decide) rfl (Nat.le_of_ble_eq_true rfl) ?_
  intro p e s m below meth c hx hb hr hml hts hown hlocks hK hN hD hP hS ls hl
  have hown : s.vm.findClass RX2 = some m.cls := hown
  have hl : lv_has ls 3 [(0, .ref (ad (0))), (1, .int q)] := hl
  have hi0 : ∀ w ∈ wsX00, w ∈ wsX2_busy := fun _ h => (List.mem_cons_of_mem _ (List.mem_append_left _ (List.mem_append_right _ h)))
  refine lv_aload_n hx hb dX2_busy_0 rfl (lv_at hl 0 rfl) ?_
  refine lv_iload_n hx hb dX2_busy_1 rfl (lv_at hl 1 rfl) ?_
  refine sl_cV (n := 1) (As := [.int q]) (rest := []) ⟨hx, hb, hml, hown, hts⟩ (c_X2_clientAt_in l G cy ad σ τ q hc) gX2_busy_X2_clientAt rfl rfl rfl (by decide +kernel) ⟨Nat.le_of_ble_eq_true rfl, Nat.le_of_ble_eq_true rfl⟩ (va_recv hK hP (ci := 2) (q0 := 0) rfl sl_aL) rfl hl.1 rfl (Nat.le_of_ble_eq_true rfl) dX2_busy_2 ⟨Nat.zero_le _, Nat.zero_le _⟩ hK hN hD hP hS (fun H locs hP hS => ?_)
  refine W.eq (g2 := F0 m 5 ls [.ref (ad (3 + q.toNatClampNeg))]) rfl ?_
  refine lv_astore_n (lv' := [(2, .ref (ad (3 + q.toNatClampNeg))), (0, .ref (ad (0))), (1, .int q)]) hx hb dX2_busy_5 rfl hl (by decide) rfl (fun ls hl => ?_)
  refine lv_aload_n hx hb dX2_busy_6 rfl (lv_at hl 0 rfl) ?_
  refine lv_ifnonnull (tgt := 15) hx hb dX2_busy_7 (by decide) ?_
  refine lv_aload_n hx hb dX2_busy_15 rfl (lv_at hl 0 rfl) ?_
  refine va_getN (D := G) (ci := 0) (v := .int (σ (3 + q.toNatClampNeg) 2)) (C := RX0) (T := TX0) (N := 12) hx hb hts hi0 hown hK hP (3 + q.toNatClampNeg) (sl_aC (sl_lt hc)) rfl 2 (by decide) (hN.f 0 rfl) (fun _ h9 => h9) rfl dX2_busy_16 ?_
  have e_q : (sp_X2_busy_in σ q) = (σ (3 + q.toNatClampNeg) 2) := by rw [sp_X2_busy_in]
  exact sl_iret hx hb hr hlocks hP hS (by rw [e_q]) rfl rfl dX2_busy_19
def sp_X2_outcome_in (σ : sl_M) (q : Int32) : Int32 := (σ (3 + q.toNatClampNeg) 3)
set_option maxHeartbeats 4000000 in
set_option maxRecDepth 100000 in
theorem c_X2_outcome_in (l : Launch) (G : va_G) (cy : Nat → ClassId) (ad : Nat → Nat) (σ τ : sl_M) (q : Int32) (hc : vp_in q 3) : sl_C l G cy ad yX2_outcome wsX2_outcome ({ frames := 1, cells := 0, slots := 0, locals := 21 }) [.ref (ad (0)), .int q] σ τ (some (.int (sp_X2_outcome_in σ q))) σ τ := by
  refine sl_of (cc := cX2_outcome) (maxL := 3) (ret := (some .int)) (by decide) rfl (Nat.le_of_ble_eq_true rfl) ?_
  intro p e s m below meth c hx hb hr hml hts hown hlocks hK hN hD hP hS ls hl
  have hown : s.vm.findClass RX2 = some m.cls := hown
  have hl : lv_has ls 3 [(0, .ref (ad (0))), (1, .int q)] := hl
  have hi0 : ∀ w ∈ wsX00, w ∈ wsX2_outcome := fun _ h => (List.mem_cons_of_mem _ (List.mem_append_left _ (List.mem_append_right _ h)))
  refine lv_aload_n hx hb dX2_outcome_0 rfl (lv_at hl 0 rfl) ?_
  refine lv_iload_n hx hb dX2_outcome_1 rfl (lv_at hl 1 rfl) ?_
  refine sl_cV (n := 1) (As := [.int q]) (rest := []) ⟨hx, hb, hml, hown, hts⟩ (c_X2_clientAt_in l G cy ad σ τ q hc) gX2_outcome_X2_clientAt rfl rfl rfl (by decide +kernel) ⟨Nat.le_of_ble_eq_true rfl, Nat.le_of_ble_eq_true rfl⟩ (va_recv hK hP (ci := 2) (q0 := 0) rfl sl_aL) rfl hl.1 rfl (Nat.le_of_ble_eq_true rfl) dX2_outcome_2 ⟨Nat.zero_le _, Nat.zero_le _⟩ hK hN hD hP hS (fun H locs hP hS => ?_)
  refine W.eq (g2 := F0 m 5 ls [.ref (ad (3 + q.toNatClampNeg))]) rfl ?_
  refine lv_astore_n (lv' := [(2, .ref (ad (3 + q.toNatClampNeg))), (0, .ref (ad (0))), (1, .int q)]) hx hb dX2_outcome_5 rfl hl (by decide) rfl (fun ls hl => ?_)
  refine lv_aload_n hx hb dX2_outcome_6 rfl (lv_at hl 0 rfl) ?_
  refine lv_ifnonnull (tgt := 15) hx hb dX2_outcome_7 (by decide) ?_
  refine lv_aload_n hx hb dX2_outcome_15 rfl (lv_at hl 0 rfl) ?_
  refine va_getN (D := G) (ci := 0) (v := .int (σ (3 + q.toNatClampNeg) 3)) (C := RX0) (T := TX0) (N := 12) hx hb hts hi0 hown hK hP (3 + q.toNatClampNeg) (sl_aC (sl_lt hc)) rfl 3 (by decide) (hN.f 12 rfl) (fun _ h9 => h9) rfl dX2_outcome_16 ?_
  have e_q : (sp_X2_outcome_in σ q) = (σ (3 + q.toNatClampNeg) 3) := by rw [sp_X2_outcome_in]
  exact sl_iret hx hb hr hlocks hP hS (by rw [e_q]) rfl rfl dX2_outcome_19
def sp_X2_number_in (σ : sl_M) (q : Int32) : Int32 := (σ (3 + q.toNatClampNeg) 4)
set_option maxHeartbeats 4000000 in
set_option maxRecDepth 100000 in
theorem c_X2_number_in (l : Launch) (G : va_G) (cy : Nat → ClassId) (ad : Nat → Nat) (σ τ : sl_M) (q : Int32) (hc : vp_in q 3) : sl_C l G cy ad yX2_number wsX2_number ({ frames := 1, cells := 0, slots := 0, locals := 21 }) [.ref (ad (0)), .int q] σ τ (some (.int (sp_X2_number_in σ q))) σ τ := by
  refine sl_of (cc := cX2_number) (maxL := 3) (ret := (some .int)) (by decide) rfl (Nat.le_of_ble_eq_true rfl) ?_
  intro p e s m below meth c hx hb hr hml hts hown hlocks hK hN hD hP hS ls hl
  have hown : s.vm.findClass RX2 = some m.cls := hown
  have hl : lv_has ls 3 [(0, .ref (ad (0))), (1, .int q)] := hl
  have hi0 : ∀ w ∈ wsX00, w ∈ wsX2_number := fun _ h => (List.mem_cons_of_mem _ (List.mem_append_left _ (List.mem_append_right _ h)))
  refine lv_aload_n hx hb dX2_number_0 rfl (lv_at hl 0 rfl) ?_
  refine lv_iload_n hx hb dX2_number_1 rfl (lv_at hl 1 rfl) ?_
  refine sl_cV (n := 1) (As := [.int q]) (rest := []) ⟨hx, hb, hml, hown, hts⟩ (c_X2_clientAt_in l G cy ad σ τ q hc) gX2_number_X2_clientAt rfl rfl rfl (by decide +kernel) ⟨Nat.le_of_ble_eq_true rfl, Nat.le_of_ble_eq_true rfl⟩ (va_recv hK hP (ci := 2) (q0 := 0) rfl sl_aL) rfl hl.1 rfl (Nat.le_of_ble_eq_true rfl) dX2_number_2 ⟨Nat.zero_le _, Nat.zero_le _⟩ hK hN hD hP hS (fun H locs hP hS => ?_)
  refine W.eq (g2 := F0 m 5 ls [.ref (ad (3 + q.toNatClampNeg))]) rfl ?_
  refine lv_astore_n (lv' := [(2, .ref (ad (3 + q.toNatClampNeg))), (0, .ref (ad (0))), (1, .int q)]) hx hb dX2_number_5 rfl hl (by decide) rfl (fun ls hl => ?_)
  refine lv_aload_n hx hb dX2_number_6 rfl (lv_at hl 0 rfl) ?_
  refine lv_ifnonnull (tgt := 15) hx hb dX2_number_7 (by decide) ?_
  refine lv_aload_n hx hb dX2_number_15 rfl (lv_at hl 0 rfl) ?_
  refine va_getN (D := G) (ci := 0) (v := .int (σ (3 + q.toNatClampNeg) 4)) (C := RX0) (T := TX0) (N := 12) hx hb hts hi0 hown hK hP (3 + q.toNatClampNeg) (sl_aC (sl_lt hc)) rfl 4 (by decide) (hN.f 13 rfl) (fun _ h9 => h9) rfl dX2_number_16 ?_
  have e_q : (sp_X2_number_in σ q) = (σ (3 + q.toNatClampNeg) 4) := by rw [sp_X2_number_in]
  exact sl_iret hx hb hr hlocks hP hS (by rw [e_q]) rfl rfl dX2_number_19
def sp_X2_epochOf_in (σ : sl_M) (q : Int32) : Int32 := (σ (3 + q.toNatClampNeg) 0)
set_option maxHeartbeats 4000000 in
set_option maxRecDepth 100000 in
theorem c_X2_epochOf_in (l : Launch) (G : va_G) (cy : Nat → ClassId) (ad : Nat → Nat) (σ τ : sl_M) (q : Int32) (hc : vp_in q 3) : sl_C l G cy ad yX2_epochOf wsX2_epochOf ({ frames := 1, cells := 0, slots := 0, locals := 21 }) [.ref (ad (0)), .int q] σ τ (some (.int (sp_X2_epochOf_in σ q))) σ τ := by
  refine sl_of (cc := cX2_epochOf) (maxL := 3) (ret := (some .int)) (by decide) rfl (Nat.le_of_ble_eq_true rfl) ?_
  intro p e s m below meth c hx hb hr hml hts hown hlocks hK hN hD hP hS ls hl
  have hown : s.vm.findClass RX2 = some m.cls := hown
  have hl : lv_has ls 3 [(0, .ref (ad (0))), (1, .int q)] := hl
  have hi0 : ∀ w ∈ wsX00, w ∈ wsX2_epochOf := fun _ h => (List.mem_cons_of_mem _ (List.mem_append_left _ (List.mem_append_right _ h)))
  refine lv_aload_n hx hb dX2_epochOf_0 rfl (lv_at hl 0 rfl) ?_
  refine lv_iload_n hx hb dX2_epochOf_1 rfl (lv_at hl 1 rfl) ?_
  refine sl_cV (n := 1) (As := [.int q]) (rest := []) ⟨hx, hb, hml, hown, hts⟩ (c_X2_clientAt_in l G cy ad σ τ q hc) gX2_epochOf_X2_clientAt rfl rfl rfl (by decide +kernel) ⟨Nat.le_of_ble_eq_true rfl, Nat.le_of_ble_eq_true rfl⟩ (va_recv hK hP (ci := 2) (q0 := 0) rfl sl_aL) rfl hl.1 rfl (Nat.le_of_ble_eq_true rfl) dX2_epochOf_2 ⟨Nat.zero_le _, Nat.zero_le _⟩ hK hN hD hP hS (fun H locs hP hS => ?_)
  refine W.eq (g2 := F0 m 5 ls [.ref (ad (3 + q.toNatClampNeg))]) rfl ?_
  refine lv_astore_n (lv' := [(2, .ref (ad (3 + q.toNatClampNeg))), (0, .ref (ad (0))), (1, .int q)]) hx hb dX2_epochOf_5 rfl hl (by decide) rfl (fun ls hl => ?_)
  refine lv_aload_n hx hb dX2_epochOf_6 rfl (lv_at hl 0 rfl) ?_
  refine lv_ifnonnull (tgt := 15) hx hb dX2_epochOf_7 (by decide) ?_
  refine lv_aload_n hx hb dX2_epochOf_15 rfl (lv_at hl 0 rfl) ?_
  refine va_getN (D := G) (ci := 0) (v := .int (σ (3 + q.toNatClampNeg) 0)) (C := RX0) (T := TX0) (N := 12) hx hb hts hi0 hown hK hP (3 + q.toNatClampNeg) (sl_aC (sl_lt hc)) rfl 0 (by decide) (hN.f 11 rfl) (fun _ h9 => h9) rfl dX2_epochOf_16 ?_
  have e_q : (sp_X2_epochOf_in σ q) = (σ (3 + q.toNatClampNeg) 0) := by rw [sp_X2_epochOf_in]
  exact sl_iret hx hb hr hlocks hP hS (by rw [e_q]) rfl rfl dX2_epochOf_19
def sp_X2_membersOf_in (σ : sl_M) (q : Int32) : Int32 := (σ (3 + q.toNatClampNeg) 1)
set_option maxHeartbeats 4000000 in
set_option maxRecDepth 100000 in
theorem c_X2_membersOf_in (l : Launch) (G : va_G) (cy : Nat → ClassId) (ad : Nat → Nat) (σ τ : sl_M) (q : Int32) (hc : vp_in q 3) : sl_C l G cy ad yX2_membersOf wsX2_membersOf ({ frames := 1, cells := 0, slots := 0, locals := 21 }) [.ref (ad (0)), .int q] σ τ (some (.int (sp_X2_membersOf_in σ q))) σ τ := by
  refine sl_of (cc := cX2_membersOf) (maxL := 3) (ret := (some .int)) (by decide) rfl (Nat.le_of_ble_eq_true rfl) ?_
  intro p e s m below meth c hx hb hr hml hts hown hlocks hK hN hD hP hS ls hl
  have hown : s.vm.findClass RX2 = some m.cls := hown
  have hl : lv_has ls 3 [(0, .ref (ad (0))), (1, .int q)] := hl
  have hi0 : ∀ w ∈ wsX00, w ∈ wsX2_membersOf := fun _ h => (List.mem_cons_of_mem _ (List.mem_append_left _ (List.mem_append_right _ h)))
  refine lv_aload_n hx hb dX2_membersOf_0 rfl (lv_at hl 0 rfl) ?_
  refine lv_iload_n hx hb dX2_membersOf_1 rfl (lv_at hl 1 rfl) ?_
  refine sl_cV (n := 1) (As := [.int q]) (rest := []) ⟨hx, hb, hml, hown, hts⟩ (c_X2_clientAt_in l G cy ad σ τ q hc) gX2_membersOf_X2_clientAt rfl rfl rfl (by decide +kernel) ⟨Nat.le_of_ble_eq_true rfl, Nat.le_of_ble_eq_true rfl⟩ (va_recv hK hP (ci := 2) (q0 := 0) rfl sl_aL) rfl hl.1 rfl (Nat.le_of_ble_eq_true rfl) dX2_membersOf_2 ⟨Nat.zero_le _, Nat.zero_le _⟩ hK hN hD hP hS (fun H locs hP hS => ?_)
  refine W.eq (g2 := F0 m 5 ls [.ref (ad (3 + q.toNatClampNeg))]) rfl ?_
  refine lv_astore_n (lv' := [(2, .ref (ad (3 + q.toNatClampNeg))), (0, .ref (ad (0))), (1, .int q)]) hx hb dX2_membersOf_5 rfl hl (by decide) rfl (fun ls hl => ?_)
  refine lv_aload_n hx hb dX2_membersOf_6 rfl (lv_at hl 0 rfl) ?_
  refine lv_ifnonnull (tgt := 15) hx hb dX2_membersOf_7 (by decide) ?_
  refine lv_aload_n hx hb dX2_membersOf_15 rfl (lv_at hl 0 rfl) ?_
  refine va_getN (D := G) (ci := 0) (v := .int (σ (3 + q.toNatClampNeg) 1)) (C := RX0) (T := TX0) (N := 12) hx hb hts hi0 hown hK hP (3 + q.toNatClampNeg) (sl_aC (sl_lt hc)) rfl 1 (by decide) (hN.f 5 rfl) (fun _ h9 => h9) rfl dX2_membersOf_16 ?_
  have e_q : (sp_X2_membersOf_in σ q) = (σ (3 + q.toNatClampNeg) 1) := by rw [sp_X2_membersOf_in]
  exact sl_iret hx hb hr hlocks hP hS (by rw [e_q]) rfl rfl dX2_membersOf_19
def sp_X2_setUp_in (σ : sl_M) (u : Int32) (a : Int32) : Int32 × sl_M := ((1 : Int32), (sl_up σ (6 + u.toNatClampNeg) 1 a))
set_option maxHeartbeats 4000000 in
set_option maxRecDepth 100000 in
theorem c_X2_setUp_in (l : Launch) (G : va_G) (cy : Nat → ClassId) (ad : Nat → Nat) (σ τ : sl_M) (u : Int32) (a : Int32) (hu : vp_in u 6) (hnar : narrow .boolean (.int a) = .int a) (hfit : fits .boolean (.int a) = true) : sl_C l G cy ad yX2_setUp wsX2_setUp ({ frames := 1, cells := 0, slots := 0, locals := 21 }) [.ref (ad (0)), .int u, .int a] σ τ (some (.int (sp_X2_setUp_in σ u a).1)) (sp_X2_setUp_in σ u a).2 τ := by
  refine sl_of (cc := cX2_setUp) (maxL := 4) (ret := (some .boolean)) (by decide) rfl (Nat.le_of_ble_eq_true rfl) ?_
  intro p e s m below meth c hx hb hr hml hts hown hlocks hK hN hD hP hS ls hl
  have hown : s.vm.findClass RX2 = some m.cls := hown
  have hl : lv_has ls 4 [(0, .ref (ad (0))), (1, .int u), (2, .int a)] := hl
  have hi1 : ∀ w ∈ wsX10, w ∈ wsX2_setUp := fun _ h => (List.mem_cons_of_mem _ (List.mem_append_left _ (List.mem_append_right _ h)))
  refine lv_aload_n hx hb dX2_setUp_0 rfl (lv_at hl 0 rfl) ?_
  refine lv_iload_n hx hb dX2_setUp_1 rfl (lv_at hl 1 rfl) ?_
  refine sl_cV (n := 1) (As := [.int u]) (rest := []) ⟨hx, hb, hml, hown, hts⟩ (c_X2_unitAt_in l G cy ad σ τ u hu) gX2_setUp_X2_unitAt rfl rfl rfl (by decide +kernel) ⟨Nat.le_of_ble_eq_true rfl, Nat.le_of_ble_eq_true rfl⟩ (va_recv hK hP (ci := 2) (q0 := 0) rfl sl_aL) rfl hl.1 rfl (Nat.le_of_ble_eq_true rfl) dX2_setUp_2 ⟨Nat.zero_le _, Nat.zero_le _⟩ hK hN hD hP hS (fun H locs hP hS => ?_)
  refine W.eq (g2 := F0 m 5 ls [.ref (ad (6 + u.toNatClampNeg))]) rfl ?_
  refine lv_astore_n (lv' := [(3, .ref (ad (6 + u.toNatClampNeg))), (0, .ref (ad (0))), (1, .int u), (2, .int a)]) hx hb dX2_setUp_5 rfl hl (by decide) rfl (fun ls hl => ?_)
  refine lv_aload_n hx hb dX2_setUp_6 rfl (lv_at hl 0 rfl) ?_
  refine lv_ifnonnull (tgt := 12) hx hb dX2_setUp_7 (by decide) ?_
  refine lv_aload_n hx hb dX2_setUp_12 rfl (lv_at hl 0 rfl) ?_
  refine lv_iload_n hx hb dX2_setUp_13 rfl (lv_at hl 3 rfl) ?_
  refine sl_putUN hx hb hts hi1 hown hK hD hP hS (sl_lt hu) 1 (by decide) rfl (tyX1_ok 1 (by decide)) hnar hfit (hN.f 9 rfl) dX2_setUp_14 (fun H locs hP hS => ?_)
  refine lv_iconst (v := (1 : Int32)) hx hb dX2_setUp_17 (by decide) ?_
  have e_q : (sp_X2_setUp_in σ u a) = ((1 : Int32), (sl_up σ (6 + u.toNatClampNeg) 1 a)) := by rw [sp_X2_setUp_in]
  exact sl_zret hx hb hr hlocks (by decide) hP hS (by rw [e_q]) (by rw [e_q]) rfl dX2_setUp_18
def sp_X2_loseSequencer (σ : sl_M) : sl_M := (sl_up σ 0 5 (0 : Int32))
set_option maxHeartbeats 4000000 in
set_option maxRecDepth 100000 in
theorem c_X2_loseSequencer (l : Launch) (G : va_G) (cy : Nat → ClassId) (ad : Nat → Nat) (σ τ : sl_M)  : sl_C l G cy ad yX2_loseSequencer wsX2_loseSequencer ({ frames := 0, cells := 0, slots := 0, locals := 0 }) [.ref (ad (0))] σ τ none (sp_X2_loseSequencer σ) τ := by
  refine sl_of (cc := cX2_loseSequencer) (maxL := 1) (ret := none) (by decide) rfl (Nat.le_of_ble_eq_true rfl) ?_
  intro p e s m below meth c hx hb hr hml hts hown hlocks hK hN hD hP hS ls hl
  have hown : s.vm.findClass RX2 = some m.cls := hown
  have hl : lv_has ls 1 [(0, .ref (ad (0)))] := hl
  have hi2 : ∀ w ∈ wsX20, w ∈ wsX2_loseSequencer := fun _ h => (List.mem_cons_of_mem _ (List.mem_append_right _ h))
  refine lv_aload_n hx hb dX2_loseSequencer_0 rfl (lv_at hl 0 rfl) ?_
  refine lv_iconst (v := (0 : Int32)) hx hb dX2_loseSequencer_1 (by decide) ?_
  refine sl_putL hx hb hts hi2 hown hK hD hP hS 5 (by decide) (by decide) rfl (tyX2_ok 5 (by decide)) (hts _ mw_X2_loseSequencer_1) dX2_loseSequencer_2 (fun H locs hP hS => ?_)
  have e_q : (sp_X2_loseSequencer σ) = (sl_up σ 0 5 (0 : Int32)) := by rw [sp_X2_loseSequencer]
  exact sl_vret hx hb hr hlocks hP hS rfl (by rw [e_q]) rfl dX2_loseSequencer_5
def sp_X2_tail (σ : sl_M) : Int32 := (σ 0 5)
set_option maxHeartbeats 4000000 in
set_option maxRecDepth 100000 in
theorem c_X2_tail (l : Launch) (G : va_G) (cy : Nat → ClassId) (ad : Nat → Nat) (σ τ : sl_M)  : sl_C l G cy ad yX2_tail wsX2_tail ({ frames := 0, cells := 0, slots := 0, locals := 0 }) [.ref (ad (0))] σ τ (some (.int (sp_X2_tail σ))) σ τ := by
  refine sl_of (cc := cX2_tail) (maxL := 1) (ret := (some .int)) (by decide) rfl (Nat.le_of_ble_eq_true rfl) ?_
  intro p e s m below meth c hx hb hr hml hts hown hlocks hK hN hD hP hS ls hl
  have hown : s.vm.findClass RX2 = some m.cls := hown
  have hl : lv_has ls 1 [(0, .ref (ad (0)))] := hl
  have hi2 : ∀ w ∈ wsX20, w ∈ wsX2_tail := fun _ h => (List.mem_cons_of_mem _ (List.mem_append_right _ h))
  refine lv_aload_n hx hb dX2_tail_0 rfl (lv_at hl 0 rfl) ?_
  refine va_get (D := G) (ci := 2) (v := .int (σ 0 5)) (C := RX2) (T := TX2) (N := 6) hx hb hts hi2 hown hK hP 0 sl_aL rfl 5 (by decide) (hts _ mw_X2_tail_1) (fun _ h9 => h9) rfl dX2_tail_1 ?_
  have e_q : (sp_X2_tail σ) = (σ 0 5) := by rw [sp_X2_tail]
  exact sl_iret hx hb hr hlocks hP hS (by rw [e_q]) rfl rfl dX2_tail_4
def sp_X2_unitEpoch_in (σ : sl_M) (u : Int32) : Int32 := (σ (6 + u.toNatClampNeg) 0)
set_option maxHeartbeats 4000000 in
set_option maxRecDepth 100000 in
theorem c_X2_unitEpoch_in (l : Launch) (G : va_G) (cy : Nat → ClassId) (ad : Nat → Nat) (σ τ : sl_M) (u : Int32) (hu : vp_in u 6) : sl_C l G cy ad yX2_unitEpoch wsX2_unitEpoch ({ frames := 1, cells := 0, slots := 0, locals := 21 }) [.ref (ad (0)), .int u] σ τ (some (.int (sp_X2_unitEpoch_in σ u))) σ τ := by
  refine sl_of (cc := cX2_unitEpoch) (maxL := 3) (ret := (some .int)) (by decide) rfl (Nat.le_of_ble_eq_true rfl) ?_
  intro p e s m below meth c hx hb hr hml hts hown hlocks hK hN hD hP hS ls hl
  have hown : s.vm.findClass RX2 = some m.cls := hown
  have hl : lv_has ls 3 [(0, .ref (ad (0))), (1, .int u)] := hl
  have hi1 : ∀ w ∈ wsX10, w ∈ wsX2_unitEpoch := fun _ h => (List.mem_cons_of_mem _ (List.mem_append_left _ (List.mem_append_right _ h)))
  refine lv_aload_n hx hb dX2_unitEpoch_0 rfl (lv_at hl 0 rfl) ?_
  refine lv_iload_n hx hb dX2_unitEpoch_1 rfl (lv_at hl 1 rfl) ?_
  refine sl_cV (n := 1) (As := [.int u]) (rest := []) ⟨hx, hb, hml, hown, hts⟩ (c_X2_unitAt_in l G cy ad σ τ u hu) gX2_unitEpoch_X2_unitAt rfl rfl rfl (by decide +kernel) ⟨Nat.le_of_ble_eq_true rfl, Nat.le_of_ble_eq_true rfl⟩ (va_recv hK hP (ci := 2) (q0 := 0) rfl sl_aL) rfl hl.1 rfl (Nat.le_of_ble_eq_true rfl) dX2_unitEpoch_2 ⟨Nat.zero_le _, Nat.zero_le _⟩ hK hN hD hP hS (fun H locs hP hS => ?_)
  refine W.eq (g2 := F0 m 5 ls [.ref (ad (6 + u.toNatClampNeg))]) rfl ?_
  refine lv_astore_n (lv' := [(2, .ref (ad (6 + u.toNatClampNeg))), (0, .ref (ad (0))), (1, .int u)]) hx hb dX2_unitEpoch_5 rfl hl (by decide) rfl (fun ls hl => ?_)
  refine lv_aload_n hx hb dX2_unitEpoch_6 rfl (lv_at hl 0 rfl) ?_
  refine lv_ifnonnull (tgt := 15) hx hb dX2_unitEpoch_7 (by decide) ?_
  refine lv_aload_n hx hb dX2_unitEpoch_15 rfl (lv_at hl 0 rfl) ?_
  refine va_getN (D := G) (ci := 1) (v := .int (σ (6 + u.toNatClampNeg) 0)) (C := RX1) (T := TX1) (N := 3) hx hb hts hi1 hown hK hP (6 + u.toNatClampNeg) (sl_aU (sl_lt hu)) rfl 0 (by decide) (hN.f 10 rfl) (fun _ h9 => h9) rfl dX2_unitEpoch_16 ?_
  have e_q : (sp_X2_unitEpoch_in σ u) = (σ (6 + u.toNatClampNeg) 0) := by rw [sp_X2_unitEpoch_in]
  exact sl_iret hx hb hr hlocks hP hS (by rw [e_q]) rfl rfl dX2_unitEpoch_19
def sp_X2_cell_in (σ : sl_M) (u : Int32) (a : Int32) : Int32 := (sp_X1_contentAt σ u.toNatClampNeg a)
set_option maxHeartbeats 4000000 in
set_option maxRecDepth 100000 in
theorem c_X2_cell_in (l : Launch) (G : va_G) (cy : Nat → ClassId) (ad : Nat → Nat) (σ τ : sl_M) (u : Int32) (a : Int32) (hu : vp_in u 6) : sl_C l G cy ad yX2_cell wsX2_cell ({ frames := 2, cells := 0, slots := 0, locals := 41 }) [.ref (ad (0)), .int u, .int a] σ τ (some (.int (sp_X2_cell_in σ u a))) σ τ := by
  refine sl_of (cc := cX2_cell) (maxL := 4) (ret := (some .int)) (by decide) rfl (Nat.le_of_ble_eq_true rfl) ?_
  intro p e s m below meth c hx hb hr hml hts hown hlocks hK hN hD hP hS ls hl
  have hown : s.vm.findClass RX2 = some m.cls := hown
  have hl : lv_has ls 4 [(0, .ref (ad (0))), (1, .int u), (2, .int a)] := hl
  refine lv_aload_n hx hb dX2_cell_0 rfl (lv_at hl 0 rfl) ?_
  refine lv_iload_n hx hb dX2_cell_1 rfl (lv_at hl 1 rfl) ?_
  refine sl_cV (n := 1) (As := [.int u]) (rest := []) ⟨hx, hb, hml, hown, hts⟩ (c_X2_unitAt_in l G cy ad σ τ u hu) gX2_cell_X2_unitAt rfl rfl rfl (by decide +kernel) ⟨Nat.le_of_ble_eq_true rfl, Nat.le_of_ble_eq_true rfl⟩ (va_recv hK hP (ci := 2) (q0 := 0) rfl sl_aL) rfl hl.1 rfl (Nat.le_of_ble_eq_true rfl) dX2_cell_2 ⟨Nat.zero_le _, Nat.zero_le _⟩ hK hN hD hP hS (fun H locs hP hS => ?_)
  refine W.eq (g2 := F0 m 5 ls [.ref (ad (6 + u.toNatClampNeg))]) rfl ?_
  refine lv_astore_n (lv' := [(3, .ref (ad (6 + u.toNatClampNeg))), (0, .ref (ad (0))), (1, .int u), (2, .int a)]) hx hb dX2_cell_5 rfl hl (by decide) rfl (fun ls hl => ?_)
  refine lv_aload_n hx hb dX2_cell_6 rfl (lv_at hl 0 rfl) ?_
  refine lv_ifnonnull (tgt := 15) hx hb dX2_cell_7 (by decide) ?_
  refine lv_aload_n hx hb dX2_cell_15 rfl (lv_at hl 0 rfl) ?_
  refine lv_iload_n hx hb dX2_cell_16 rfl (lv_at hl 3 rfl) ?_
  refine sl_nV (n := 1) (As := [.int a]) (rest := []) ⟨hx, hb, hml, hown, hts⟩ (c_X1_contentAt l G cy ad σ τ u.toNatClampNeg (sl_lt hu) a) gX2_cell_X1_contentAt_n126 rfl rfl rfl (hN.m 7 rfl) (hts _ mw_X2_cell_8) (hts _ mw_X2_cell_7) (hts _ mw_X2_cell_9) (by decide +kernel) ⟨Nat.le_of_ble_eq_true rfl, Nat.le_of_ble_eq_true rfl⟩ (va_recv hK hP (ci := 1) (q0 := 6 + u.toNatClampNeg) rfl (sl_aU (sl_lt hu))) rfl hl.1 rfl (Nat.le_of_ble_eq_true rfl) dX2_cell_17 ⟨Nat.zero_le _, Nat.zero_le _⟩ hK hN hD hP hS (fun H locs hP hS => ?_)
  refine W.eq (g2 := F0 m 20 ls [.int (sp_X1_contentAt σ u.toNatClampNeg a)]) rfl ?_
  have e_q : (sp_X2_cell_in σ u a) = (sp_X1_contentAt σ u.toNatClampNeg a) := by rw [sp_X2_cell_in]
  exact sl_iret hx hb hr hlocks hP hS (by rw [e_q]) rfl rfl dX2_cell_20
