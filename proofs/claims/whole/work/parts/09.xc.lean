def sp_X2_takeStoreProjection (σ : sl_M) (i : Nat) : sl_M := (sl_up (sl_up σ (3 + i) 0 (σ 0 2)) (3 + i) 1 ((sl_up σ (3 + i) 0 (σ 0 2)) 0 3))
set_option maxHeartbeats 4000000 in
set_option maxRecDepth 100000 in
theorem c_X2_takeStoreProjection (l : Launch) (G : va_G) (cy : Nat → ClassId) (ad : Nat → Nat) (σ τ : sl_M) (i : Nat) (hi : i < 3) : sl_C l G cy ad yX2_takeStoreProjection wsX2_takeStoreProjection ({ frames := 0, cells := 0, slots := 0, locals := 0 }) [.ref (ad (0)), .ref (ad (3 + i))] σ τ none (sp_X2_takeStoreProjection σ i) τ := by
  refine sl_of (cc := cX2_takeStoreProjection) (maxL := 2) (ret := none) (by decide) rfl (Nat.le_of_ble_eq_true rfl) ?_
  intro p e s m below meth c hx hb hr hml hts hown hlocks hK hN hD hP hS ls hl
  have hown : s.vm.findClass RX2 = some m.cls := hown
  have hl : lv_has ls 2 [(0, .ref (ad (0))), (1, .ref (ad (3 + i)))] := hl
  have hi0 : ∀ w ∈ wsX00, w ∈ wsX2_takeStoreProjection := fun _ h => (List.mem_cons_of_mem _ (List.mem_append_right _ h))
  have hi2 : ∀ w ∈ wsX20, w ∈ wsX2_takeStoreProjection := fun _ h => (List.mem_cons_of_mem _ (List.mem_append_left _ (List.mem_append_right _ h)))
  refine lv_aload_n hx hb dX2_takeStoreProjection_0 rfl (lv_at hl 1 rfl) ?_
  refine lv_aload_n hx hb dX2_takeStoreProjection_1 rfl (lv_at hl 0 rfl) ?_
  refine va_get (D := G) (ci := 2) (v := .int (σ 0 2)) (C := RX2) (T := TX2) (N := 6) hx hb hts hi2 hown hK hP 0 sl_aL rfl 2 (by decide) (hts _ mw_X2_takeStoreProjection_1) (fun _ h9 => h9) rfl dX2_takeStoreProjection_2 ?_
  refine sl_putCN hx hb hts hi0 hown hK hD hP hS hi 0 (by decide) rfl (tyX0_ok 0 (by decide)) (hN.f 11 rfl) dX2_takeStoreProjection_5 (fun H locs hP hS => ?_)
  refine lv_aload_n hx hb dX2_takeStoreProjection_8 rfl (lv_at hl 1 rfl) ?_
  refine lv_aload_n hx hb dX2_takeStoreProjection_9 rfl (lv_at hl 0 rfl) ?_
  refine va_get (D := G) (ci := 2) (v := .int ((sl_up σ (3 + i) 0 (σ 0 2)) 0 3)) (C := RX2) (T := TX2) (N := 6) hx hb hts hi2 hown hK hP 0 sl_aL rfl 3 (by decide) (hts _ mw_X2_takeStoreProjection_2) (fun _ h9 => h9) rfl dX2_takeStoreProjection_10 ?_
  refine sl_putCN hx hb hts hi0 hown hK hD hP hS hi 1 (by decide) rfl (tyX0_ok 1 (by decide)) (hN.f 5 rfl) dX2_takeStoreProjection_13 (fun H locs hP hS => ?_)
  have e_q : (sp_X2_takeStoreProjection σ i) = (sl_up (sl_up σ (3 + i) 0 (σ 0 2)) (3 + i) 1 ((sl_up σ (3 + i) 0 (σ 0 2)) 0 3)) := by rw [sp_X2_takeStoreProjection]
  exact sl_vret hx hb hr hlocks hP hS rfl (by rw [e_q]) rfl dX2_takeStoreProjection_16
def sp_X2_askSequencer (σ : sl_M) (i : Nat) : Int32 × sl_M := 
  if (σ (3 + i) 0) = (σ 0 4) then 
    if (σ 0 5) < (32 : Int32) then ((0 : Int32), (sl_up (sl_up (sl_up σ (3 + i) 6 (σ 0 5)) (3 + i) 5 (sp_X0_chainOf (sl_up σ (3 + i) 6 (σ 0 5)) i ((sl_up σ (3 + i) 6 (σ 0 5)) (3 + i) 6))) 0 5 (((sl_up (sl_up σ (3 + i) 6 (σ 0 5)) (3 + i) 5 (sp_X0_chainOf (sl_up σ (3 + i) 6 (σ 0 5)) i ((sl_up σ (3 + i) 6 (σ 0 5)) (3 + i) 6))) 0 5) + (1 : Int32))))
    else (((sp_X0_end σ i (4 : Int32) (0 : Int32)).1), (sp_X0_end σ i (4 : Int32) (0 : Int32)).2)
  else (((sp_X0_end σ i (2 : Int32) (0 : Int32)).1), (sp_X0_end σ i (2 : Int32) (0 : Int32)).2)
set_option maxHeartbeats 4000000 in
set_option maxRecDepth 100000 in
theorem c_X2_askSequencer (l : Launch) (G : va_G) (cy : Nat → ClassId) (ad : Nat → Nat) (σ τ : sl_M) (i : Nat) (hi : i < 3) : sl_C l G cy ad yX2_askSequencer wsX2_askSequencer ({ frames := 1, cells := 0, slots := 0, locals := 22 }) [.ref (ad (0)), .ref (ad (3 + i))] σ τ (some (.int (sp_X2_askSequencer σ i).1)) (sp_X2_askSequencer σ i).2 τ := by
  refine sl_of (cc := cX2_askSequencer) (maxL := 2) (ret := (some .int)) (by decide) rfl (Nat.le_of_ble_eq_true rfl) ?_
  intro p e s m below meth c hx hb hr hml hts hown hlocks hK hN hD hP hS ls hl
  have hown : s.vm.findClass RX2 = some m.cls := hown
  have hl : lv_has ls 2 [(0, .ref (ad (0))), (1, .ref (ad (3 + i)))] := hl
  have hi0 : ∀ w ∈ wsX00, w ∈ wsX2_askSequencer := fun _ h => (List.mem_cons_of_mem _ (List.mem_append_left _ (List.mem_append_right _ h)))
  have hi2 : ∀ w ∈ wsX20, w ∈ wsX2_askSequencer := fun _ h => (List.mem_cons_of_mem _ (List.mem_append_right _ h))
  refine lv_aload_n hx hb dX2_askSequencer_0 rfl (lv_at hl 1 rfl) ?_
  refine va_getN (D := G) (ci := 0) (v := .int (σ (3 + i) 0)) (C := RX0) (T := TX0) (N := 12) hx hb hts hi0 hown hK hP (3 + i) (sl_aC hi) rfl 0 (by decide) (hN.f 11 rfl) (fun _ h9 => h9) rfl dX2_askSequencer_1 ?_
  refine lv_aload_n hx hb dX2_askSequencer_4 rfl (lv_at hl 0 rfl) ?_
  refine va_get (D := G) (ci := 2) (v := .int (σ 0 4)) (C := RX2) (T := TX2) (N := 6) hx hb hts hi2 hown hK hP 0 sl_aL rfl 4 (by decide) (hts _ mw_X2_askSequencer_1) (fun _ h9 => h9) rfl dX2_askSequencer_5 ?_
  refine lv_icmp_eq (tgt := 18) hx hb dX2_askSequencer_8 (by decide) (fun c_1 => ?_) (fun c_1 => ?_)
  · refine lv_aload_n hx hb dX2_askSequencer_18 rfl (lv_at hl 0 rfl) ?_
    refine va_get (D := G) (ci := 2) (v := .int (σ 0 5)) (C := RX2) (T := TX2) (N := 6) hx hb hts hi2 hown hK hP 0 sl_aL rfl 5 (by decide) (hts _ mw_X2_askSequencer_2) (fun _ h9 => h9) rfl dX2_askSequencer_19 ?_
    refine lv_bipush (v := (32 : Int32)) hx hb dX2_askSequencer_22 (by decide) ?_
    refine lv_icmp_lt (tgt := 34) hx hb dX2_askSequencer_24 (by decide) (fun c_2 => ?_) (fun c_2 => ?_)
    · refine lv_aload_n hx hb dX2_askSequencer_34 rfl (lv_at hl 1 rfl) ?_
      refine lv_aload_n hx hb dX2_askSequencer_35 rfl (lv_at hl 0 rfl) ?_
      refine va_get (D := G) (ci := 2) (v := .int (σ 0 5)) (C := RX2) (T := TX2) (N := 6) hx hb hts hi2 hown hK hP 0 sl_aL rfl 5 (by decide) (hts _ mw_X2_askSequencer_2) (fun _ h9 => h9) rfl dX2_askSequencer_36 ?_
      refine sl_putCN hx hb hts hi0 hown hK hD hP hS hi 6 (by decide) rfl (tyX0_ok 6 (by decide)) (hN.f 2 rfl) dX2_askSequencer_39 (fun H locs hP hS => ?_)
      refine lv_aload_n hx hb dX2_askSequencer_42 rfl (lv_at hl 1 rfl) ?_
      refine lv_aload_n hx hb dX2_askSequencer_43 rfl (lv_at hl 1 rfl) ?_
      refine lv_aload_n hx hb dX2_askSequencer_44 rfl (lv_at hl 1 rfl) ?_
      refine va_getN (D := G) (ci := 0) (v := .int ((sl_up σ (3 + i) 6 (σ 0 5)) (3 + i) 6)) (C := RX0) (T := TX0) (N := 12) hx hb hts hi0 hown hK hP (3 + i) (sl_aC hi) rfl 6 (by decide) (hN.f 2 rfl) (fun _ h9 => h9) rfl dX2_askSequencer_45 ?_
      refine sl_nV (n := 1) (As := [.int ((sl_up σ (3 + i) 6 (σ 0 5)) (3 + i) 6)]) (rest := [.ref (ad (3 + i))]) ⟨hx, hb, hml, hown, hts⟩ (c_X0_chainOf l G cy ad (sl_up σ (3 + i) 6 (σ 0 5)) τ i hi ((sl_up σ (3 + i) 6 (σ 0 5)) (3 + i) 6)) gX2_askSequencer_X0_chainOf_n58 rfl rfl rfl (hN.m 3 rfl) (hts _ mw_X2_askSequencer_4) (hts _ mw_X2_askSequencer_10) (hts _ mw_X2_askSequencer_11) (by decide +kernel) ⟨Nat.le_of_ble_eq_true rfl, Nat.le_of_ble_eq_true rfl⟩ (va_recv hK hP (ci := 0) (q0 := 3 + i) rfl (sl_aC hi)) rfl hl.1 rfl (Nat.le_of_ble_eq_true rfl) dX2_askSequencer_48 ⟨Nat.zero_le _, Nat.zero_le _⟩ hK hN hD hP hS (fun H locs hP hS => ?_)
      refine W.eq (g2 := F0 m 51 ls [.int (sp_X0_chainOf (sl_up σ (3 + i) 6 (σ 0 5)) i ((sl_up σ (3 + i) 6 (σ 0 5)) (3 + i) 6)), .ref (ad (3 + i))]) rfl ?_
      refine sl_putCN hx hb hts hi0 hown hK hD hP hS hi 5 (by decide) rfl (tyX0_ok 5 (by decide)) (hN.f 8 rfl) dX2_askSequencer_51 (fun H locs hP hS => ?_)
      refine lv_aload_n hx hb dX2_askSequencer_54 rfl (lv_at hl 0 rfl) ?_
      refine lv_dup hx hb dX2_askSequencer_55 rfl ?_
      refine va_get (D := G) (ci := 2) (v := .int ((sl_up (sl_up σ (3 + i) 6 (σ 0 5)) (3 + i) 5 (sp_X0_chainOf (sl_up σ (3 + i) 6 (σ 0 5)) i ((sl_up σ (3 + i) 6 (σ 0 5)) (3 + i) 6))) 0 5)) (C := RX2) (T := TX2) (N := 6) hx hb hts hi2 hown hK hP 0 sl_aL rfl 5 (by decide) (hts _ mw_X2_askSequencer_2) (fun _ h9 => h9) rfl dX2_askSequencer_56 ?_
      refine lv_iconst (v := (1 : Int32)) hx hb dX2_askSequencer_59 (by decide) ?_
      refine lv_iadd hx hb dX2_askSequencer_60 ?_
      refine sl_putL hx hb hts hi2 hown hK hD hP hS 5 (by decide) (by decide) rfl (tyX2_ok 5 (by decide)) (hts _ mw_X2_askSequencer_2) dX2_askSequencer_61 (fun H locs hP hS => ?_)
      refine lv_iconst (v := (0 : Int32)) hx hb dX2_askSequencer_64 (by decide) ?_
      have e_q : (sp_X2_askSequencer σ i) = ((0 : Int32), (sl_up (sl_up (sl_up σ (3 + i) 6 (σ 0 5)) (3 + i) 5 (sp_X0_chainOf (sl_up σ (3 + i) 6 (σ 0 5)) i ((sl_up σ (3 + i) 6 (σ 0 5)) (3 + i) 6))) 0 5 (((sl_up (sl_up σ (3 + i) 6 (σ 0 5)) (3 + i) 5 (sp_X0_chainOf (sl_up σ (3 + i) 6 (σ 0 5)) i ((sl_up σ (3 + i) 6 (σ 0 5)) (3 + i) 6))) 0 5) + (1 : Int32)))) := by rw [sp_X2_askSequencer, if_pos c_1, if_pos c_2]
      exact sl_iret hx hb hr hlocks hP hS (by rw [e_q]) (by rw [e_q]) rfl dX2_askSequencer_65
    · refine lv_aload_n hx hb dX2_askSequencer_27 rfl (lv_at hl 1 rfl) ?_
      refine lv_iconst (v := (4 : Int32)) hx hb dX2_askSequencer_28 (by decide) ?_
      refine lv_iconst (v := (0 : Int32)) hx hb dX2_askSequencer_29 (by decide) ?_
      refine sl_nV (n := 2) (As := [.int (4 : Int32), .int (0 : Int32)]) (rest := []) ⟨hx, hb, hml, hown, hts⟩ (c_X0_end l G cy ad σ τ i hi (4 : Int32) (0 : Int32)) gX2_askSequencer_X0_end_n108 rfl rfl rfl (hN.m 6 rfl) (hts _ mw_X2_askSequencer_4) (hts _ mw_X2_askSequencer_3) (hts _ mw_X2_askSequencer_5) (by decide +kernel) ⟨Nat.le_of_ble_eq_true rfl, Nat.le_of_ble_eq_true rfl⟩ (va_recv hK hP (ci := 0) (q0 := 3 + i) rfl (sl_aC hi)) rfl hl.1 rfl (Nat.le_of_ble_eq_true rfl) dX2_askSequencer_30 ⟨Nat.zero_le _, Nat.zero_le _⟩ hK hN hD hP hS (fun H locs hP hS => ?_)
      refine W.eq (g2 := F0 m 33 ls [.int ((sp_X0_end σ i (4 : Int32) (0 : Int32)).1)]) rfl ?_
      have e_q : (sp_X2_askSequencer σ i) = (((sp_X0_end σ i (4 : Int32) (0 : Int32)).1), (sp_X0_end σ i (4 : Int32) (0 : Int32)).2) := by rw [sp_X2_askSequencer, if_pos c_1, if_neg c_2]
      exact sl_iret hx hb hr hlocks hP hS (by rw [e_q]) (by rw [e_q]) rfl dX2_askSequencer_33
  · refine lv_aload_n hx hb dX2_askSequencer_11 rfl (lv_at hl 1 rfl) ?_
    refine lv_iconst (v := (2 : Int32)) hx hb dX2_askSequencer_12 (by decide) ?_
    refine lv_iconst (v := (0 : Int32)) hx hb dX2_askSequencer_13 (by decide) ?_
    refine sl_nV (n := 2) (As := [.int (2 : Int32), .int (0 : Int32)]) (rest := []) ⟨hx, hb, hml, hown, hts⟩ (c_X0_end l G cy ad σ τ i hi (2 : Int32) (0 : Int32)) gX2_askSequencer_X0_end_n108 rfl rfl rfl (hN.m 6 rfl) (hts _ mw_X2_askSequencer_4) (hts _ mw_X2_askSequencer_3) (hts _ mw_X2_askSequencer_5) (by decide +kernel) ⟨Nat.le_of_ble_eq_true rfl, Nat.le_of_ble_eq_true rfl⟩ (va_recv hK hP (ci := 0) (q0 := 3 + i) rfl (sl_aC hi)) rfl hl.1 rfl (Nat.le_of_ble_eq_true rfl) dX2_askSequencer_14 ⟨Nat.zero_le _, Nat.zero_le _⟩ hK hN hD hP hS (fun H locs hP hS => ?_)
    refine W.eq (g2 := F0 m 17 ls [.int ((sp_X0_end σ i (2 : Int32) (0 : Int32)).1)]) rfl ?_
    have e_q : (sp_X2_askSequencer σ i) = (((sp_X0_end σ i (2 : Int32) (0 : Int32)).1), (sp_X0_end σ i (2 : Int32) (0 : Int32)).2) := by rw [sp_X2_askSequencer, if_neg c_1]
    exact sl_iret hx hb hr hlocks hP hS (by rw [e_q]) (by rw [e_q]) rfl dX2_askSequencer_17
def sp_X2_askStore (σ : sl_M) (i : Nat) : Int32 × sl_M := 
  if (σ 0 2) = (σ (3 + i) 0) then (((sp_X0_end (sp_X2_takeStoreProjection (sl_up (sl_up (sl_up (sl_up σ 0 2 ((σ (3 + i) 0) + (1 : Int32))) 0 3 ((sl_up σ 0 2 ((σ (3 + i) 0) + (1 : Int32))) (3 + i) 10)) 0 4 ((sl_up (sl_up σ 0 2 ((σ (3 + i) 0) + (1 : Int32))) 0 3 ((sl_up σ 0 2 ((σ (3 + i) 0) + (1 : Int32))) (3 + i) 10)) 0 2)) 0 5 ((sl_up (sl_up (sl_up σ 0 2 ((σ (3 + i) 0) + (1 : Int32))) 0 3 ((sl_up σ 0 2 ((σ (3 + i) 0) + (1 : Int32))) (3 + i) 10)) 0 4 ((sl_up (sl_up σ 0 2 ((σ (3 + i) 0) + (1 : Int32))) 0 3 ((sl_up σ 0 2 ((σ (3 + i) 0) + (1 : Int32))) (3 + i) 10)) 0 2)) (3 + i) 11)) i) i (1 : Int32) ((sp_X2_takeStoreProjection (sl_up (sl_up (sl_up (sl_up σ 0 2 ((σ (3 + i) 0) + (1 : Int32))) 0 3 ((sl_up σ 0 2 ((σ (3 + i) 0) + (1 : Int32))) (3 + i) 10)) 0 4 ((sl_up (sl_up σ 0 2 ((σ (3 + i) 0) + (1 : Int32))) 0 3 ((sl_up σ 0 2 ((σ (3 + i) 0) + (1 : Int32))) (3 + i) 10)) 0 2)) 0 5 ((sl_up (sl_up (sl_up σ 0 2 ((σ (3 + i) 0) + (1 : Int32))) 0 3 ((sl_up σ 0 2 ((σ (3 + i) 0) + (1 : Int32))) (3 + i) 10)) 0 4 ((sl_up (sl_up σ 0 2 ((σ (3 + i) 0) + (1 : Int32))) 0 3 ((sl_up σ 0 2 ((σ (3 + i) 0) + (1 : Int32))) (3 + i) 10)) 0 2)) (3 + i) 11)) i) 0 2)).1), (sp_X0_end (sp_X2_takeStoreProjection (sl_up (sl_up (sl_up (sl_up σ 0 2 ((σ (3 + i) 0) + (1 : Int32))) 0 3 ((sl_up σ 0 2 ((σ (3 + i) 0) + (1 : Int32))) (3 + i) 10)) 0 4 ((sl_up (sl_up σ 0 2 ((σ (3 + i) 0) + (1 : Int32))) 0 3 ((sl_up σ 0 2 ((σ (3 + i) 0) + (1 : Int32))) (3 + i) 10)) 0 2)) 0 5 ((sl_up (sl_up (sl_up σ 0 2 ((σ (3 + i) 0) + (1 : Int32))) 0 3 ((sl_up σ 0 2 ((σ (3 + i) 0) + (1 : Int32))) (3 + i) 10)) 0 4 ((sl_up (sl_up σ 0 2 ((σ (3 + i) 0) + (1 : Int32))) 0 3 ((sl_up σ 0 2 ((σ (3 + i) 0) + (1 : Int32))) (3 + i) 10)) 0 2)) (3 + i) 11)) i) i (1 : Int32) ((sp_X2_takeStoreProjection (sl_up (sl_up (sl_up (sl_up σ 0 2 ((σ (3 + i) 0) + (1 : Int32))) 0 3 ((sl_up σ 0 2 ((σ (3 + i) 0) + (1 : Int32))) (3 + i) 10)) 0 4 ((sl_up (sl_up σ 0 2 ((σ (3 + i) 0) + (1 : Int32))) 0 3 ((sl_up σ 0 2 ((σ (3 + i) 0) + (1 : Int32))) (3 + i) 10)) 0 2)) 0 5 ((sl_up (sl_up (sl_up σ 0 2 ((σ (3 + i) 0) + (1 : Int32))) 0 3 ((sl_up σ 0 2 ((σ (3 + i) 0) + (1 : Int32))) (3 + i) 10)) 0 4 ((sl_up (sl_up σ 0 2 ((σ (3 + i) 0) + (1 : Int32))) 0 3 ((sl_up σ 0 2 ((σ (3 + i) 0) + (1 : Int32))) (3 + i) 10)) 0 2)) (3 + i) 11)) i) 0 2)).2)
  else (((sp_X0_end σ i (5 : Int32) (σ 0 2)).1), (sp_X0_end σ i (5 : Int32) (σ 0 2)).2)
set_option maxHeartbeats 4000000 in
set_option maxRecDepth 100000 in
theorem c_X2_askStore (l : Launch) (G : va_G) (cy : Nat → ClassId) (ad : Nat → Nat) (σ τ : sl_M) (i : Nat) (hi : i < 3) : sl_C l G cy ad yX2_askStore wsX2_askStore ({ frames := 1, cells := 0, slots := 0, locals := 22 }) [.ref (ad (0)), .ref (ad (3 + i))] σ τ (some (.int (sp_X2_askStore σ i).1)) (sp_X2_askStore σ i).2 τ := by
  refine sl_of (cc := cX2_askStore) (maxL := 2) (ret := (some .int)) (by decide) rfl (Nat.le_of_ble_eq_true rfl) ?_
  intro p e s m below meth c hx hb hr hml hts hown hlocks hK hN hD hP hS ls hl
  have hown : s.vm.findClass RX2 = some m.cls := hown
  have hl : lv_has ls 2 [(0, .ref (ad (0))), (1, .ref (ad (3 + i)))] := hl
  have hi0 : ∀ w ∈ wsX00, w ∈ wsX2_askStore := fun _ h => (List.mem_cons_of_mem _ (List.mem_append_right _ h))
  have hi2 : ∀ w ∈ wsX20, w ∈ wsX2_askStore := fun _ h => (List.mem_cons_of_mem _ (List.mem_append_left _ (List.mem_append_right _ h)))
  refine lv_aload_n hx hb dX2_askStore_0 rfl (lv_at hl 0 rfl) ?_
  refine va_get (D := G) (ci := 2) (v := .int (σ 0 2)) (C := RX2) (T := TX2) (N := 6) hx hb hts hi2 hown hK hP 0 sl_aL rfl 2 (by decide) (hts _ mw_X2_askStore_1) (fun _ h9 => h9) rfl dX2_askStore_1 ?_
  refine lv_aload_n hx hb dX2_askStore_4 rfl (lv_at hl 1 rfl) ?_
  refine va_getN (D := G) (ci := 0) (v := .int (σ (3 + i) 0)) (C := RX0) (T := TX0) (N := 12) hx hb hts hi0 hown hK hP (3 + i) (sl_aC hi) rfl 0 (by decide) (hN.f 11 rfl) (fun _ h9 => h9) rfl dX2_askStore_5 ?_
  refine lv_icmp_eq (tgt := 21) hx hb dX2_askStore_8 (by decide) (fun c_1 => ?_) (fun c_1 => ?_)
  · refine lv_aload_n hx hb dX2_askStore_21 rfl (lv_at hl 0 rfl) ?_
    refine lv_aload_n hx hb dX2_askStore_22 rfl (lv_at hl 1 rfl) ?_
    refine va_getN (D := G) (ci := 0) (v := .int (σ (3 + i) 0)) (C := RX0) (T := TX0) (N := 12) hx hb hts hi0 hown hK hP (3 + i) (sl_aC hi) rfl 0 (by decide) (hN.f 11 rfl) (fun _ h9 => h9) rfl dX2_askStore_23 ?_
    refine lv_iconst (v := (1 : Int32)) hx hb dX2_askStore_26 (by decide) ?_
    refine lv_iadd hx hb dX2_askStore_27 ?_
    refine sl_putL hx hb hts hi2 hown hK hD hP hS 2 (by decide) (by decide) rfl (tyX2_ok 2 (by decide)) (hts _ mw_X2_askStore_1) dX2_askStore_28 (fun H locs hP hS => ?_)
    refine lv_aload_n hx hb dX2_askStore_31 rfl (lv_at hl 0 rfl) ?_
    refine lv_aload_n hx hb dX2_askStore_32 rfl (lv_at hl 1 rfl) ?_
    refine va_getN (D := G) (ci := 0) (v := .int ((sl_up σ 0 2 ((σ (3 + i) 0) + (1 : Int32))) (3 + i) 10)) (C := RX0) (T := TX0) (N := 12) hx hb hts hi0 hown hK hP (3 + i) (sl_aC hi) rfl 10 (by decide) (hN.f 6 rfl) (fun _ h9 => h9) rfl dX2_askStore_33 ?_
    refine sl_putL hx hb hts hi2 hown hK hD hP hS 3 (by decide) (by decide) rfl (tyX2_ok 3 (by decide)) (hts _ mw_X2_askStore_2) dX2_askStore_36 (fun H locs hP hS => ?_)
    refine lv_aload_n hx hb dX2_askStore_39 rfl (lv_at hl 0 rfl) ?_
    refine lv_aload_n hx hb dX2_askStore_40 rfl (lv_at hl 0 rfl) ?_
    refine va_get (D := G) (ci := 2) (v := .int ((sl_up (sl_up σ 0 2 ((σ (3 + i) 0) + (1 : Int32))) 0 3 ((sl_up σ 0 2 ((σ (3 + i) 0) + (1 : Int32))) (3 + i) 10)) 0 2)) (C := RX2) (T := TX2) (N := 6) hx hb hts hi2 hown hK hP 0 sl_aL rfl 2 (by decide) (hts _ mw_X2_askStore_1) (fun _ h9 => h9) rfl dX2_askStore_41 ?_
    refine sl_putL hx hb hts hi2 hown hK hD hP hS 4 (by decide) (by decide) rfl (tyX2_ok 4 (by decide)) (hts _ mw_X2_askStore_3) dX2_askStore_44 (fun H locs hP hS => ?_)
    refine lv_aload_n hx hb dX2_askStore_47 rfl (lv_at hl 0 rfl) ?_
    refine lv_aload_n hx hb dX2_askStore_48 rfl (lv_at hl 1 rfl) ?_
    refine va_getN (D := G) (ci := 0) (v := .int ((sl_up (sl_up (sl_up σ 0 2 ((σ (3 + i) 0) + (1 : Int32))) 0 3 ((sl_up σ 0 2 ((σ (3 + i) 0) + (1 : Int32))) (3 + i) 10)) 0 4 ((sl_up (sl_up σ 0 2 ((σ (3 + i) 0) + (1 : Int32))) 0 3 ((sl_up σ 0 2 ((σ (3 + i) 0) + (1 : Int32))) (3 + i) 10)) 0 2)) (3 + i) 11)) (C := RX0) (T := TX0) (N := 12) hx hb hts hi0 hown hK hP (3 + i) (sl_aC hi) rfl 11 (by decide) (hN.f 7 rfl) (fun _ h9 => h9) rfl dX2_askStore_49 ?_
    refine sl_putL hx hb hts hi2 hown hK hD hP hS 5 (by decide) (by decide) rfl (tyX2_ok 5 (by decide)) (hts _ mw_X2_askStore_4) dX2_askStore_52 (fun H locs hP hS => ?_)
    refine lv_aload_n hx hb dX2_askStore_55 rfl (lv_at hl 0 rfl) ?_
    refine lv_aload_n hx hb dX2_askStore_56 rfl (lv_at hl 1 rfl) ?_
    refine sl_cV (n := 1) (As := [.ref (ad (3 + i))]) (rest := []) ⟨hx, hb, hml, hown, hts⟩ (c_X2_takeStoreProjection l G cy ad (sl_up (sl_up (sl_up (sl_up σ 0 2 ((σ (3 + i) 0) + (1 : Int32))) 0 3 ((sl_up σ 0 2 ((σ (3 + i) 0) + (1 : Int32))) (3 + i) 10)) 0 4 ((sl_up (sl_up σ 0 2 ((σ (3 + i) 0) + (1 : Int32))) 0 3 ((sl_up σ 0 2 ((σ (3 + i) 0) + (1 : Int32))) (3 + i) 10)) 0 2)) 0 5 ((sl_up (sl_up (sl_up σ 0 2 ((σ (3 + i) 0) + (1 : Int32))) 0 3 ((sl_up σ 0 2 ((σ (3 + i) 0) + (1 : Int32))) (3 + i) 10)) 0 4 ((sl_up (sl_up σ 0 2 ((σ (3 + i) 0) + (1 : Int32))) 0 3 ((sl_up σ 0 2 ((σ (3 + i) 0) + (1 : Int32))) (3 + i) 10)) 0 2)) (3 + i) 11)) τ i hi) gX2_askStore_X2_takeStoreProjection rfl rfl rfl (by decide +kernel) ⟨Nat.le_of_ble_eq_true rfl, Nat.le_of_ble_eq_true rfl⟩ (va_recv hK hP (ci := 2) (q0 := 0) rfl sl_aL) rfl hl.1 rfl (Nat.le_of_ble_eq_true rfl) dX2_askStore_57 ⟨Nat.zero_le _, Nat.zero_le _⟩ hK hN hD hP hS (fun H locs hP hS => ?_)
    refine W.eq (g2 := F0 m 60 ls []) rfl ?_
    refine lv_aload_n hx hb dX2_askStore_60 rfl (lv_at hl 1 rfl) ?_
    refine lv_iconst (v := (1 : Int32)) hx hb dX2_askStore_61 (by decide) ?_
    refine lv_aload_n hx hb dX2_askStore_62 rfl (lv_at hl 0 rfl) ?_
    refine va_get (D := G) (ci := 2) (v := .int ((sp_X2_takeStoreProjection (sl_up (sl_up (sl_up (sl_up σ 0 2 ((σ (3 + i) 0) + (1 : Int32))) 0 3 ((sl_up σ 0 2 ((σ (3 + i) 0) + (1 : Int32))) (3 + i) 10)) 0 4 ((sl_up (sl_up σ 0 2 ((σ (3 + i) 0) + (1 : Int32))) 0 3 ((sl_up σ 0 2 ((σ (3 + i) 0) + (1 : Int32))) (3 + i) 10)) 0 2)) 0 5 ((sl_up (sl_up (sl_up σ 0 2 ((σ (3 + i) 0) + (1 : Int32))) 0 3 ((sl_up σ 0 2 ((σ (3 + i) 0) + (1 : Int32))) (3 + i) 10)) 0 4 ((sl_up (sl_up σ 0 2 ((σ (3 + i) 0) + (1 : Int32))) 0 3 ((sl_up σ 0 2 ((σ (3 + i) 0) + (1 : Int32))) (3 + i) 10)) 0 2)) (3 + i) 11)) i) 0 2)) (C := RX2) (T := TX2) (N := 6) hx hb hts hi2 hown hK hP 0 sl_aL rfl 2 (by decide) (hts _ mw_X2_askStore_1) (fun _ h9 => h9) rfl dX2_askStore_63 ?_
    refine sl_nV (n := 2) (As := [.int (1 : Int32), .int ((sp_X2_takeStoreProjection (sl_up (sl_up (sl_up (sl_up σ 0 2 ((σ (3 + i) 0) + (1 : Int32))) 0 3 ((sl_up σ 0 2 ((σ (3 + i) 0) + (1 : Int32))) (3 + i) 10)) 0 4 ((sl_up (sl_up σ 0 2 ((σ (3 + i) 0) + (1 : Int32))) 0 3 ((sl_up σ 0 2 ((σ (3 + i) 0) + (1 : Int32))) (3 + i) 10)) 0 2)) 0 5 ((sl_up (sl_up (sl_up σ 0 2 ((σ (3 + i) 0) + (1 : Int32))) 0 3 ((sl_up σ 0 2 ((σ (3 + i) 0) + (1 : Int32))) (3 + i) 10)) 0 4 ((sl_up (sl_up σ 0 2 ((σ (3 + i) 0) + (1 : Int32))) 0 3 ((sl_up σ 0 2 ((σ (3 + i) 0) + (1 : Int32))) (3 + i) 10)) 0 2)) (3 + i) 11)) i) 0 2)]) (rest := []) ⟨hx, hb, hml, hown, hts⟩ (c_X0_end l G cy ad (sp_X2_takeStoreProjection (sl_up (sl_up (sl_up (sl_up σ 0 2 ((σ (3 + i) 0) + (1 : Int32))) 0 3 ((sl_up σ 0 2 ((σ (3 + i) 0) + (1 : Int32))) (3 + i) 10)) 0 4 ((sl_up (sl_up σ 0 2 ((σ (3 + i) 0) + (1 : Int32))) 0 3 ((sl_up σ 0 2 ((σ (3 + i) 0) + (1 : Int32))) (3 + i) 10)) 0 2)) 0 5 ((sl_up (sl_up (sl_up σ 0 2 ((σ (3 + i) 0) + (1 : Int32))) 0 3 ((sl_up σ 0 2 ((σ (3 + i) 0) + (1 : Int32))) (3 + i) 10)) 0 4 ((sl_up (sl_up σ 0 2 ((σ (3 + i) 0) + (1 : Int32))) 0 3 ((sl_up σ 0 2 ((σ (3 + i) 0) + (1 : Int32))) (3 + i) 10)) 0 2)) (3 + i) 11)) i) τ i hi (1 : Int32) ((sp_X2_takeStoreProjection (sl_up (sl_up (sl_up (sl_up σ 0 2 ((σ (3 + i) 0) + (1 : Int32))) 0 3 ((sl_up σ 0 2 ((σ (3 + i) 0) + (1 : Int32))) (3 + i) 10)) 0 4 ((sl_up (sl_up σ 0 2 ((σ (3 + i) 0) + (1 : Int32))) 0 3 ((sl_up σ 0 2 ((σ (3 + i) 0) + (1 : Int32))) (3 + i) 10)) 0 2)) 0 5 ((sl_up (sl_up (sl_up σ 0 2 ((σ (3 + i) 0) + (1 : Int32))) 0 3 ((sl_up σ 0 2 ((σ (3 + i) 0) + (1 : Int32))) (3 + i) 10)) 0 4 ((sl_up (sl_up σ 0 2 ((σ (3 + i) 0) + (1 : Int32))) 0 3 ((sl_up σ 0 2 ((σ (3 + i) 0) + (1 : Int32))) (3 + i) 10)) 0 2)) (3 + i) 11)) i) 0 2)) gX2_askStore_X0_end_n108 rfl rfl rfl (hN.m 6 rfl) (hts _ mw_X2_askStore_6) (hts _ mw_X2_askStore_5) (hts _ mw_X2_askStore_7) (by decide +kernel) ⟨Nat.le_of_ble_eq_true rfl, Nat.le_of_ble_eq_true rfl⟩ (va_recv hK hP (ci := 0) (q0 := 3 + i) rfl (sl_aC hi)) rfl hl.1 rfl (Nat.le_of_ble_eq_true rfl) dX2_askStore_66 ⟨Nat.zero_le _, Nat.zero_le _⟩ hK hN hD hP hS (fun H locs hP hS => ?_)
    refine W.eq (g2 := F0 m 69 ls [.int ((sp_X0_end (sp_X2_takeStoreProjection (sl_up (sl_up (sl_up (sl_up σ 0 2 ((σ (3 + i) 0) + (1 : Int32))) 0 3 ((sl_up σ 0 2 ((σ (3 + i) 0) + (1 : Int32))) (3 + i) 10)) 0 4 ((sl_up (sl_up σ 0 2 ((σ (3 + i) 0) + (1 : Int32))) 0 3 ((sl_up σ 0 2 ((σ (3 + i) 0) + (1 : Int32))) (3 + i) 10)) 0 2)) 0 5 ((sl_up (sl_up (sl_up σ 0 2 ((σ (3 + i) 0) + (1 : Int32))) 0 3 ((sl_up σ 0 2 ((σ (3 + i) 0) + (1 : Int32))) (3 + i) 10)) 0 4 ((sl_up (sl_up σ 0 2 ((σ (3 + i) 0) + (1 : Int32))) 0 3 ((sl_up σ 0 2 ((σ (3 + i) 0) + (1 : Int32))) (3 + i) 10)) 0 2)) (3 + i) 11)) i) i (1 : Int32) ((sp_X2_takeStoreProjection (sl_up (sl_up (sl_up (sl_up σ 0 2 ((σ (3 + i) 0) + (1 : Int32))) 0 3 ((sl_up σ 0 2 ((σ (3 + i) 0) + (1 : Int32))) (3 + i) 10)) 0 4 ((sl_up (sl_up σ 0 2 ((σ (3 + i) 0) + (1 : Int32))) 0 3 ((sl_up σ 0 2 ((σ (3 + i) 0) + (1 : Int32))) (3 + i) 10)) 0 2)) 0 5 ((sl_up (sl_up (sl_up σ 0 2 ((σ (3 + i) 0) + (1 : Int32))) 0 3 ((sl_up σ 0 2 ((σ (3 + i) 0) + (1 : Int32))) (3 + i) 10)) 0 4 ((sl_up (sl_up σ 0 2 ((σ (3 + i) 0) + (1 : Int32))) 0 3 ((sl_up σ 0 2 ((σ (3 + i) 0) + (1 : Int32))) (3 + i) 10)) 0 2)) (3 + i) 11)) i) 0 2)).1)]) rfl ?_
    have e_q : (sp_X2_askStore σ i) = (((sp_X0_end (sp_X2_takeStoreProjection (sl_up (sl_up (sl_up (sl_up σ 0 2 ((σ (3 + i) 0) + (1 : Int32))) 0 3 ((sl_up σ 0 2 ((σ (3 + i) 0) + (1 : Int32))) (3 + i) 10)) 0 4 ((sl_up (sl_up σ 0 2 ((σ (3 + i) 0) + (1 : Int32))) 0 3 ((sl_up σ 0 2 ((σ (3 + i) 0) + (1 : Int32))) (3 + i) 10)) 0 2)) 0 5 ((sl_up (sl_up (sl_up σ 0 2 ((σ (3 + i) 0) + (1 : Int32))) 0 3 ((sl_up σ 0 2 ((σ (3 + i) 0) + (1 : Int32))) (3 + i) 10)) 0 4 ((sl_up (sl_up σ 0 2 ((σ (3 + i) 0) + (1 : Int32))) 0 3 ((sl_up σ 0 2 ((σ (3 + i) 0) + (1 : Int32))) (3 + i) 10)) 0 2)) (3 + i) 11)) i) i (1 : Int32) ((sp_X2_takeStoreProjection (sl_up (sl_up (sl_up (sl_up σ 0 2 ((σ (3 + i) 0) + (1 : Int32))) 0 3 ((sl_up σ 0 2 ((σ (3 + i) 0) + (1 : Int32))) (3 + i) 10)) 0 4 ((sl_up (sl_up σ 0 2 ((σ (3 + i) 0) + (1 : Int32))) 0 3 ((sl_up σ 0 2 ((σ (3 + i) 0) + (1 : Int32))) (3 + i) 10)) 0 2)) 0 5 ((sl_up (sl_up (sl_up σ 0 2 ((σ (3 + i) 0) + (1 : Int32))) 0 3 ((sl_up σ 0 2 ((σ (3 + i) 0) + (1 : Int32))) (3 + i) 10)) 0 4 ((sl_up (sl_up σ 0 2 ((σ (3 + i) 0) + (1 : Int32))) 0 3 ((sl_up σ 0 2 ((σ (3 + i) 0) + (1 : Int32))) (3 + i) 10)) 0 2)) (3 + i) 11)) i) 0 2)).1), (sp_X0_end (sp_X2_takeStoreProjection (sl_up (sl_up (sl_up (sl_up σ 0 2 ((σ (3 + i) 0) + (1 : Int32))) 0 3 ((sl_up σ 0 2 ((σ (3 + i) 0) + (1 : Int32))) (3 + i) 10)) 0 4 ((sl_up (sl_up σ 0 2 ((σ (3 + i) 0) + (1 : Int32))) 0 3 ((sl_up σ 0 2 ((σ (3 + i) 0) + (1 : Int32))) (3 + i) 10)) 0 2)) 0 5 ((sl_up (sl_up (sl_up σ 0 2 ((σ (3 + i) 0) + (1 : Int32))) 0 3 ((sl_up σ 0 2 ((σ (3 + i) 0) + (1 : Int32))) (3 + i) 10)) 0 4 ((sl_up (sl_up σ 0 2 ((σ (3 + i) 0) + (1 : Int32))) 0 3 ((sl_up σ 0 2 ((σ (3 + i) 0) + (1 : Int32))) (3 + i) 10)) 0 2)) (3 + i) 11)) i) i (1 : Int32) ((sp_X2_takeStoreProjection (sl_up (sl_up (sl_up (sl_up σ 0 2 ((σ (3 + i) 0) + (1 : Int32))) 0 3 ((sl_up σ 0 2 ((σ (3 + i) 0) + (1 : Int32))) (3 + i) 10)) 0 4 ((sl_up (sl_up σ 0 2 ((σ (3 + i) 0) + (1 : Int32))) 0 3 ((sl_up σ 0 2 ((σ (3 + i) 0) + (1 : Int32))) (3 + i) 10)) 0 2)) 0 5 ((sl_up (sl_up (sl_up σ 0 2 ((σ (3 + i) 0) + (1 : Int32))) 0 3 ((sl_up σ 0 2 ((σ (3 + i) 0) + (1 : Int32))) (3 + i) 10)) 0 4 ((sl_up (sl_up σ 0 2 ((σ (3 + i) 0) + (1 : Int32))) 0 3 ((sl_up σ 0 2 ((σ (3 + i) 0) + (1 : Int32))) (3 + i) 10)) 0 2)) (3 + i) 11)) i) 0 2)).2) := by rw [sp_X2_askStore, if_pos c_1]
    exact sl_iret hx hb hr hlocks hP hS (by rw [e_q]) (by rw [e_q]) rfl dX2_askStore_69
  · refine lv_aload_n hx hb dX2_askStore_11 rfl (lv_at hl 1 rfl) ?_
    refine lv_iconst (v := (5 : Int32)) hx hb dX2_askStore_12 (by decide) ?_
    refine lv_aload_n hx hb dX2_askStore_13 rfl (lv_at hl 0 rfl) ?_
    refine va_get (D := G) (ci := 2) (v := .int (σ 0 2)) (C := RX2) (T := TX2) (N := 6) hx hb hts hi2 hown hK hP 0 sl_aL rfl 2 (by decide) (hts _ mw_X2_askStore_1) (fun _ h9 => h9) rfl dX2_askStore_14 ?_
    refine sl_nV (n := 2) (As := [.int (5 : Int32), .int (σ 0 2)]) (rest := []) ⟨hx, hb, hml, hown, hts⟩ (c_X0_end l G cy ad σ τ i hi (5 : Int32) (σ 0 2)) gX2_askStore_X0_end_n108 rfl rfl rfl (hN.m 6 rfl) (hts _ mw_X2_askStore_6) (hts _ mw_X2_askStore_5) (hts _ mw_X2_askStore_7) (by decide +kernel) ⟨Nat.le_of_ble_eq_true rfl, Nat.le_of_ble_eq_true rfl⟩ (va_recv hK hP (ci := 0) (q0 := 3 + i) rfl (sl_aC hi)) rfl hl.1 rfl (Nat.le_of_ble_eq_true rfl) dX2_askStore_17 ⟨Nat.zero_le _, Nat.zero_le _⟩ hK hN hD hP hS (fun H locs hP hS => ?_)
    refine W.eq (g2 := F0 m 20 ls [.int ((sp_X0_end σ i (5 : Int32) (σ 0 2)).1)]) rfl ?_
    have e_q : (sp_X2_askStore σ i) = (((sp_X0_end σ i (5 : Int32) (σ 0 2)).1), (sp_X0_end σ i (5 : Int32) (σ 0 2)).2) := by rw [sp_X2_askStore, if_neg c_1]
    exact sl_iret hx hb hr hlocks hP hS (by rw [e_q]) (by rw [e_q]) rfl dX2_askStore_20
def sp_X2_stepWithoutUnit (σ : sl_M) (i : Nat) : Int32 × sl_M := 
  if (σ (3 + i) 2) = (1 : Int32) then (((sp_X2_askSequencer σ i).1), (sp_X2_askSequencer σ i).2)
  else if (σ (3 + i) 2) = (4 : Int32) then (((sp_X0_end σ i (1 : Int32) (σ (3 + i) 9)).1), (sp_X0_end σ i (1 : Int32) (σ (3 + i) 9)).2)
  else (((sp_X2_askStore σ i).1), (sp_X2_askStore σ i).2)
set_option maxHeartbeats 4000000 in
set_option maxRecDepth 100000 in
theorem c_X2_stepWithoutUnit (l : Launch) (G : va_G) (cy : Nat → ClassId) (ad : Nat → Nat) (σ τ : sl_M) (i : Nat) (hi : i < 3) : sl_C l G cy ad yX2_stepWithoutUnit wsX2_stepWithoutUnit ({ frames := 2, cells := 0, slots := 0, locals := 43 }) [.ref (ad (0)), .ref (ad (3 + i))] σ τ (some (.int (sp_X2_stepWithoutUnit σ i).1)) (sp_X2_stepWithoutUnit σ i).2 τ := by
  refine sl_of (cc := cX2_stepWithoutUnit) (maxL := 2) (ret := (some .int)) (by decide) rfl (Nat.le_of_ble_eq_true rfl) ?_
  intro p e s m below meth c hx hb hr hml hts hown hlocks hK hN hD hP hS ls hl
  have hown : s.vm.findClass RX2 = some m.cls := hown
  have hl : lv_has ls 2 [(0, .ref (ad (0))), (1, .ref (ad (3 + i)))] := hl
  have hi0 : ∀ w ∈ wsX00, w ∈ wsX2_stepWithoutUnit := fun _ h => (List.mem_cons_of_mem _ (List.mem_append_left _ (List.mem_append_right _ h)))
  refine lv_aload_n hx hb dX2_stepWithoutUnit_0 rfl (lv_at hl 1 rfl) ?_
  refine va_getN (D := G) (ci := 0) (v := .int (σ (3 + i) 2)) (C := RX0) (T := TX0) (N := 12) hx hb hts hi0 hown hK hP (3 + i) (sl_aC hi) rfl 2 (by decide) (hN.f 0 rfl) (fun _ h9 => h9) rfl dX2_stepWithoutUnit_1 ?_
  by_cases c_1 : (σ (3 + i) 2) = (1 : Int32)
  · refine lv_lookup (off := 28) (tgt := 32) hx hb dX2_stepWithoutUnit_4 (by decide) (by rw [c_1]; decide) (by decide) ?_
    refine lv_aload_n hx hb dX2_stepWithoutUnit_32 rfl (lv_at hl 0 rfl) ?_
    refine lv_aload_n hx hb dX2_stepWithoutUnit_33 rfl (lv_at hl 1 rfl) ?_
    refine sl_cV (n := 1) (As := [.ref (ad (3 + i))]) (rest := []) ⟨hx, hb, hml, hown, hts⟩ (c_X2_askSequencer l G cy ad σ τ i hi) gX2_stepWithoutUnit_X2_askSequencer rfl rfl rfl (by decide +kernel) ⟨Nat.le_of_ble_eq_true rfl, Nat.le_of_ble_eq_true rfl⟩ (va_recv hK hP (ci := 2) (q0 := 0) rfl sl_aL) rfl hl.1 rfl (Nat.le_of_ble_eq_true rfl) dX2_stepWithoutUnit_34 ⟨Nat.zero_le _, Nat.zero_le _⟩ hK hN hD hP hS (fun H locs hP hS => ?_)
    refine W.eq (g2 := F0 m 37 ls [.int ((sp_X2_askSequencer σ i).1)]) rfl ?_
    have e_q : (sp_X2_stepWithoutUnit σ i) = (((sp_X2_askSequencer σ i).1), (sp_X2_askSequencer σ i).2) := by rw [sp_X2_stepWithoutUnit, if_pos c_1]
    exact sl_iret hx hb hr hlocks hP hS (by rw [e_q]) (by rw [e_q]) rfl dX2_stepWithoutUnit_37
  · by_cases c_2 : (σ (3 + i) 2) = (4 : Int32)
    · refine lv_lookup (off := 34) (tgt := 38) hx hb dX2_stepWithoutUnit_4 (by decide) (by rw [c_2]; decide) (by decide) ?_
      refine lv_aload_n hx hb dX2_stepWithoutUnit_38 rfl (lv_at hl 1 rfl) ?_
      refine lv_iconst (v := (1 : Int32)) hx hb dX2_stepWithoutUnit_39 (by decide) ?_
      refine lv_aload_n hx hb dX2_stepWithoutUnit_40 rfl (lv_at hl 1 rfl) ?_
      refine va_getN (D := G) (ci := 0) (v := .int (σ (3 + i) 9)) (C := RX0) (T := TX0) (N := 12) hx hb hts hi0 hown hK hP (3 + i) (sl_aC hi) rfl 9 (by decide) (hN.f 4 rfl) (fun _ h9 => h9) rfl dX2_stepWithoutUnit_41 ?_
      refine sl_nV (n := 2) (As := [.int (1 : Int32), .int (σ (3 + i) 9)]) (rest := []) ⟨hx, hb, hml, hown, hts⟩ (c_X0_end l G cy ad σ τ i hi (1 : Int32) (σ (3 + i) 9)) gX2_stepWithoutUnit_X0_end_n108 rfl rfl rfl (hN.m 6 rfl) (hts _ mw_X2_stepWithoutUnit_9) (hts _ mw_X2_stepWithoutUnit_8) (hts _ mw_X2_stepWithoutUnit_10) (by decide +kernel) ⟨Nat.le_of_ble_eq_true rfl, Nat.le_of_ble_eq_true rfl⟩ (va_recv hK hP (ci := 0) (q0 := 3 + i) rfl (sl_aC hi)) rfl hl.1 rfl (Nat.le_of_ble_eq_true rfl) dX2_stepWithoutUnit_44 ⟨Nat.zero_le _, Nat.zero_le _⟩ hK hN hD hP hS (fun H locs hP hS => ?_)
      refine W.eq (g2 := F0 m 47 ls [.int ((sp_X0_end σ i (1 : Int32) (σ (3 + i) 9)).1)]) rfl ?_
      have e_q : (sp_X2_stepWithoutUnit σ i) = (((sp_X0_end σ i (1 : Int32) (σ (3 + i) 9)).1), (sp_X0_end σ i (1 : Int32) (σ (3 + i) 9)).2) := by rw [sp_X2_stepWithoutUnit, if_neg c_1, if_pos c_2]
      exact sl_iret hx hb hr hlocks hP hS (by rw [e_q]) (by rw [e_q]) rfl dX2_stepWithoutUnit_47
    · refine lv_lookup (off := 44) (tgt := 48) hx hb dX2_stepWithoutUnit_4 (by decide) (by show Op.lookupswitch.offset [(1, 28), (4, 34)] _ _ = _; rw [lv_osw (a := 1) c_1 rfl, lv_osw (a := 4) c_2 rfl]; rfl) (by decide) ?_
      refine lv_aload_n hx hb dX2_stepWithoutUnit_48 rfl (lv_at hl 0 rfl) ?_
      refine lv_aload_n hx hb dX2_stepWithoutUnit_49 rfl (lv_at hl 1 rfl) ?_
      refine sl_cV (n := 1) (As := [.ref (ad (3 + i))]) (rest := []) ⟨hx, hb, hml, hown, hts⟩ (c_X2_askStore l G cy ad σ τ i hi) gX2_stepWithoutUnit_X2_askStore rfl rfl rfl (by decide +kernel) ⟨Nat.le_of_ble_eq_true rfl, Nat.le_of_ble_eq_true rfl⟩ (va_recv hK hP (ci := 2) (q0 := 0) rfl sl_aL) rfl hl.1 rfl (Nat.le_of_ble_eq_true rfl) dX2_stepWithoutUnit_50 ⟨Nat.zero_le _, Nat.zero_le _⟩ hK hN hD hP hS (fun H locs hP hS => ?_)
      refine W.eq (g2 := F0 m 53 ls [.int ((sp_X2_askStore σ i).1)]) rfl ?_
      have e_q : (sp_X2_stepWithoutUnit σ i) = (((sp_X2_askStore σ i).1), (sp_X2_askStore σ i).2) := by rw [sp_X2_stepWithoutUnit, if_neg c_1, if_neg c_2]
      exact sl_iret hx hb hr hlocks hP hS (by rw [e_q]) (by rw [e_q]) rfl dX2_stepWithoutUnit_53
def sp_X2_appendAt (σ : sl_M) (i : Nat) (j : Nat) : Int32 × sl_M := 
  if (sp_X1_contentAt σ j (σ (3 + i) 6)) = (-2 : Int32) then (((sp_X0_goAlongChain (sp_X1_writeOnce σ j (σ (3 + i) 6) (σ (3 + i) 7)) i ((sp_X1_writeOnce σ j (σ (3 + i) 6) (σ (3 + i) 7)) (3 + i) 6)).1), (sp_X0_goAlongChain (sp_X1_writeOnce σ j (σ (3 + i) 6) (σ (3 + i) 7)) i ((sp_X1_writeOnce σ j (σ (3 + i) 6) (σ (3 + i) 7)) (3 + i) 6)).2)
  else if (sp_X0_isAtHead σ i) = 0 then (((sp_X0_goAlongChain (sp_X1_writeOnce σ j (σ (3 + i) 6) (σ (3 + i) 7)) i ((sp_X1_writeOnce σ j (σ (3 + i) 6) (σ (3 + i) 7)) (3 + i) 6)).1), (sp_X0_goAlongChain (sp_X1_writeOnce σ j (σ (3 + i) 6) (σ (3 + i) 7)) i ((sp_X1_writeOnce σ j (σ (3 + i) 6) (σ (3 + i) 7)) (3 + i) 6)).2)
  else ((0 : Int32), (sl_up σ (3 + i) 5 (0 : Int32)))
set_option maxHeartbeats 4000000 in
set_option maxRecDepth 100000 in
theorem c_X2_appendAt (l : Launch) (G : va_G) (cy : Nat → ClassId) (ad : Nat → Nat) (σ τ : sl_M) (i : Nat) (hi : i < 3) (j : Nat) (hj : j < 6) : sl_C l G cy ad yX2_appendAt wsX2_appendAt ({ frames := 2, cells := 0, slots := 0, locals := 43 }) [.ref (ad (3 + i)), .ref (ad (6 + j))] σ τ (some (.int (sp_X2_appendAt σ i j).1)) (sp_X2_appendAt σ i j).2 τ := by
  refine sl_of (cc := cX2_appendAt) (maxL := 3) (ret := (some .int)) (by decide) rfl (Nat.le_of_ble_eq_true rfl) ?_
  intro p e s m below meth c hx hb hr hml hts hown hlocks hK hN hD hP hS ls hl
  have hown : s.vm.findClass RX2 = some m.cls := hown
  have hl : lv_has ls 3 [(0, .ref (ad (3 + i))), (1, .ref (ad (6 + j)))] := hl
  have hi0 : ∀ w ∈ wsX00, w ∈ wsX2_appendAt := fun _ h => (List.mem_cons_of_mem _ (List.mem_append_left _ (List.mem_append_right _ h)))
  refine lv_aload_n hx hb dX2_appendAt_0 rfl (lv_at hl 1 rfl) ?_
  refine lv_aload_n hx hb dX2_appendAt_1 rfl (lv_at hl 0 rfl) ?_
  refine va_getN (D := G) (ci := 0) (v := .int (σ (3 + i) 6)) (C := RX0) (T := TX0) (N := 12) hx hb hts hi0 hown hK hP (3 + i) (sl_aC hi) rfl 6 (by decide) (hN.f 2 rfl) (fun _ h9 => h9) rfl dX2_appendAt_2 ?_
  refine sl_nV (n := 1) (As := [.int (σ (3 + i) 6)]) (rest := []) ⟨hx, hb, hml, hown, hts⟩ (c_X1_contentAt l G cy ad σ τ j hj (σ (3 + i) 6)) gX2_appendAt_X1_contentAt_n126 rfl rfl rfl (hN.m 7 rfl) (hts _ mw_X2_appendAt_2) (hts _ mw_X2_appendAt_1) (hts _ mw_X2_appendAt_3) (by decide +kernel) ⟨Nat.le_of_ble_eq_true rfl, Nat.le_of_ble_eq_true rfl⟩ (va_recv hK hP (ci := 1) (q0 := 6 + j) rfl (sl_aU hj)) rfl hl.1 rfl (Nat.le_of_ble_eq_true rfl) dX2_appendAt_5 ⟨Nat.zero_le _, Nat.zero_le _⟩ hK hN hD hP hS (fun H locs hP hS => ?_)
  refine W.eq (g2 := F0 m 8 ls [.int (sp_X1_contentAt σ j (σ (3 + i) 6))]) rfl ?_
  refine lv_bipush (v := (-2 : Int32)) hx hb dX2_appendAt_8 (by decide) ?_
  refine lv_icmp_eq (tgt := 17) hx hb dX2_appendAt_10 (by decide) (fun c_1 => ?_) (fun c_1 => ?_)
  · refine lv_iconst (v := (0 : Int32)) hx hb dX2_appendAt_17 (by decide) ?_
    refine lv_istore_n (lv' := [(2, .int (0 : Int32)), (0, .ref (ad (3 + i))), (1, .ref (ad (6 + j)))]) hx hb dX2_appendAt_18 rfl hl (by decide) rfl (fun ls hl => ?_)
    refine lv_iload_n hx hb dX2_appendAt_19 rfl (lv_at hl 0 rfl) ?_
    refine lv_if_eq (tgt := 37) hx hb dX2_appendAt_20 (by decide) (fun _ => ?_) (fun h9 => absurd (by decide) h9)
    refine lv_aload_n hx hb dX2_appendAt_37 rfl (lv_at hl 2 rfl) ?_
    refine lv_aload_n hx hb dX2_appendAt_38 rfl (lv_at hl 1 rfl) ?_
    refine va_getN (D := G) (ci := 0) (v := .int (σ (3 + i) 6)) (C := RX0) (T := TX0) (N := 12) hx hb hts hi0 hown hK hP (3 + i) (sl_aC hi) rfl 6 (by decide) (hN.f 2 rfl) (fun _ h9 => h9) rfl dX2_appendAt_39 ?_
    refine lv_aload_n hx hb dX2_appendAt_42 rfl (lv_at hl 1 rfl) ?_
    refine va_getN (D := G) (ci := 0) (v := .int (σ (3 + i) 7)) (C := RX0) (T := TX0) (N := 12) hx hb hts hi0 hown hK hP (3 + i) (sl_aC hi) rfl 7 (by decide) (hN.f 1 rfl) (fun _ h9 => h9) rfl dX2_appendAt_43 ?_
    refine sl_nV (n := 2) (As := [.int (σ (3 + i) 6), .int (σ (3 + i) 7)]) (rest := []) ⟨hx, hb, hml, hown, hts⟩ (c_X1_writeOnce l G cy ad σ τ j hj (σ (3 + i) 6) (σ (3 + i) 7)) gX2_appendAt_X1_writeOnce_n154 rfl rfl rfl (hN.m 9 rfl) (hts _ mw_X2_appendAt_2) (hts _ mw_X2_appendAt_20) (hts _ mw_X2_appendAt_21) (by decide +kernel) ⟨Nat.le_of_ble_eq_true rfl, Nat.le_of_ble_eq_true rfl⟩ (va_recv hK hP (ci := 1) (q0 := 6 + j) rfl (sl_aU hj)) rfl hl.1 rfl (Nat.le_of_ble_eq_true rfl) dX2_appendAt_46 ⟨Nat.zero_le _, Nat.zero_le _⟩ hK hN hD hP hS (fun H locs hP hS => ?_)
    refine W.eq (g2 := F0 m 49 ls []) rfl ?_
    refine lv_aload_n hx hb dX2_appendAt_49 rfl (lv_at hl 1 rfl) ?_
    refine lv_aload_n hx hb dX2_appendAt_50 rfl (lv_at hl 1 rfl) ?_
    refine va_getN (D := G) (ci := 0) (v := .int ((sp_X1_writeOnce σ j (σ (3 + i) 6) (σ (3 + i) 7)) (3 + i) 6)) (C := RX0) (T := TX0) (N := 12) hx hb hts hi0 hown hK hP (3 + i) (sl_aC hi) rfl 6 (by decide) (hN.f 2 rfl) (fun _ h9 => h9) rfl dX2_appendAt_51 ?_
    refine sl_nV (n := 1) (As := [.int ((sp_X1_writeOnce σ j (σ (3 + i) 6) (σ (3 + i) 7)) (3 + i) 6)]) (rest := []) ⟨hx, hb, hml, hown, hts⟩ (c_X0_goAlongChain l G cy ad (sp_X1_writeOnce σ j (σ (3 + i) 6) (σ (3 + i) 7)) τ i hi ((sp_X1_writeOnce σ j (σ (3 + i) 6) (σ (3 + i) 7)) (3 + i) 6)) gX2_appendAt_X0_goAlongChain_n158 rfl rfl rfl (hN.m 10 rfl) (hts _ mw_X2_appendAt_10) (hts _ mw_X2_appendAt_23) (hts _ mw_X2_appendAt_24) (by decide +kernel) ⟨Nat.le_of_ble_eq_true rfl, Nat.le_of_ble_eq_true rfl⟩ (va_recv hK hP (ci := 0) (q0 := 3 + i) rfl (sl_aC hi)) rfl hl.1 rfl (Nat.le_of_ble_eq_true rfl) dX2_appendAt_54 ⟨Nat.zero_le _, Nat.zero_le _⟩ hK hN hD hP hS (fun H locs hP hS => ?_)
    refine W.eq (g2 := F0 m 57 ls [.int ((sp_X0_goAlongChain (sp_X1_writeOnce σ j (σ (3 + i) 6) (σ (3 + i) 7)) i ((sp_X1_writeOnce σ j (σ (3 + i) 6) (σ (3 + i) 7)) (3 + i) 6)).1)]) rfl ?_
    have e_q : (sp_X2_appendAt σ i j) = (((sp_X0_goAlongChain (sp_X1_writeOnce σ j (σ (3 + i) 6) (σ (3 + i) 7)) i ((sp_X1_writeOnce σ j (σ (3 + i) 6) (σ (3 + i) 7)) (3 + i) 6)).1), (sp_X0_goAlongChain (sp_X1_writeOnce σ j (σ (3 + i) 6) (σ (3 + i) 7)) i ((sp_X1_writeOnce σ j (σ (3 + i) 6) (σ (3 + i) 7)) (3 + i) 6)).2) := by rw [sp_X2_appendAt, if_pos c_1]
    exact sl_iret hx hb hr hlocks hP hS (by rw [e_q]) (by rw [e_q]) rfl dX2_appendAt_57
  · refine lv_iconst (v := (1 : Int32)) hx hb dX2_appendAt_13 (by decide) ?_
    refine lv_goto (tgt := 18) hx hb dX2_appendAt_14 (by decide) ?_
    refine lv_istore_n (lv' := [(2, .int (1 : Int32)), (0, .ref (ad (3 + i))), (1, .ref (ad (6 + j)))]) hx hb dX2_appendAt_18 rfl hl (by decide) rfl (fun ls hl => ?_)
    refine lv_iload_n hx hb dX2_appendAt_19 rfl (lv_at hl 0 rfl) ?_
    refine lv_if_eq (tgt := 37) hx hb dX2_appendAt_20 (by decide) (fun h9 => absurd h9 (by decide)) (fun _ => ?_)
    refine lv_aload_n hx hb dX2_appendAt_23 rfl (lv_at hl 1 rfl) ?_
    refine sl_nV (n := 0) (As := []) (rest := []) ⟨hx, hb, hml, hown, hts⟩ (c_X0_isAtHead l G cy ad σ τ i hi) gX2_appendAt_X0_isAtHead_n150 rfl rfl rfl (hN.m 8 rfl) (hts _ mw_X2_appendAt_10) (hts _ mw_X2_appendAt_9) (hts _ mw_X2_appendAt_11) (by decide +kernel) ⟨Nat.le_of_ble_eq_true rfl, Nat.le_of_ble_eq_true rfl⟩ (va_recv hK hP (ci := 0) (q0 := 3 + i) rfl (sl_aC hi)) rfl hl.1 rfl (Nat.le_of_ble_eq_true rfl) dX2_appendAt_24 ⟨Nat.zero_le _, Nat.zero_le _⟩ hK hN hD hP hS (fun H locs hP hS => ?_)
    refine W.eq (g2 := F0 m 27 ls [.int (sp_X0_isAtHead σ i)]) rfl ?_
    refine lv_if_eq (tgt := 37) hx hb dX2_appendAt_27 (by decide) (fun c_2 => ?_) (fun c_2 => ?_)
    · refine lv_aload_n hx hb dX2_appendAt_37 rfl (lv_at hl 2 rfl) ?_
      refine lv_aload_n hx hb dX2_appendAt_38 rfl (lv_at hl 1 rfl) ?_
      refine va_getN (D := G) (ci := 0) (v := .int (σ (3 + i) 6)) (C := RX0) (T := TX0) (N := 12) hx hb hts hi0 hown hK hP (3 + i) (sl_aC hi) rfl 6 (by decide) (hN.f 2 rfl) (fun _ h9 => h9) rfl dX2_appendAt_39 ?_
      refine lv_aload_n hx hb dX2_appendAt_42 rfl (lv_at hl 1 rfl) ?_
      refine va_getN (D := G) (ci := 0) (v := .int (σ (3 + i) 7)) (C := RX0) (T := TX0) (N := 12) hx hb hts hi0 hown hK hP (3 + i) (sl_aC hi) rfl 7 (by decide) (hN.f 1 rfl) (fun _ h9 => h9) rfl dX2_appendAt_43 ?_
      refine sl_nV (n := 2) (As := [.int (σ (3 + i) 6), .int (σ (3 + i) 7)]) (rest := []) ⟨hx, hb, hml, hown, hts⟩ (c_X1_writeOnce l G cy ad σ τ j hj (σ (3 + i) 6) (σ (3 + i) 7)) gX2_appendAt_X1_writeOnce_n154 rfl rfl rfl (hN.m 9 rfl) (hts _ mw_X2_appendAt_2) (hts _ mw_X2_appendAt_20) (hts _ mw_X2_appendAt_21) (by decide +kernel) ⟨Nat.le_of_ble_eq_true rfl, Nat.le_of_ble_eq_true rfl⟩ (va_recv hK hP (ci := 1) (q0 := 6 + j) rfl (sl_aU hj)) rfl hl.1 rfl (Nat.le_of_ble_eq_true rfl) dX2_appendAt_46 ⟨Nat.zero_le _, Nat.zero_le _⟩ hK hN hD hP hS (fun H locs hP hS => ?_)
      refine W.eq (g2 := F0 m 49 ls []) rfl ?_
      refine lv_aload_n hx hb dX2_appendAt_49 rfl (lv_at hl 1 rfl) ?_
      refine lv_aload_n hx hb dX2_appendAt_50 rfl (lv_at hl 1 rfl) ?_
      refine va_getN (D := G) (ci := 0) (v := .int ((sp_X1_writeOnce σ j (σ (3 + i) 6) (σ (3 + i) 7)) (3 + i) 6)) (C := RX0) (T := TX0) (N := 12) hx hb hts hi0 hown hK hP (3 + i) (sl_aC hi) rfl 6 (by decide) (hN.f 2 rfl) (fun _ h9 => h9) rfl dX2_appendAt_51 ?_
      refine sl_nV (n := 1) (As := [.int ((sp_X1_writeOnce σ j (σ (3 + i) 6) (σ (3 + i) 7)) (3 + i) 6)]) (rest := []) ⟨hx, hb, hml, hown, hts⟩ (c_X0_goAlongChain l G cy ad (sp_X1_writeOnce σ j (σ (3 + i) 6) (σ (3 + i) 7)) τ i hi ((sp_X1_writeOnce σ j (σ (3 + i) 6) (σ (3 + i) 7)) (3 + i) 6)) gX2_appendAt_X0_goAlongChain_n158 rfl rfl rfl (hN.m 10 rfl) (hts _ mw_X2_appendAt_10) (hts _ mw_X2_appendAt_23) (hts _ mw_X2_appendAt_24) (by decide +kernel) ⟨Nat.le_of_ble_eq_true rfl, Nat.le_of_ble_eq_true rfl⟩ (va_recv hK hP (ci := 0) (q0 := 3 + i) rfl (sl_aC hi)) rfl hl.1 rfl (Nat.le_of_ble_eq_true rfl) dX2_appendAt_54 ⟨Nat.zero_le _, Nat.zero_le _⟩ hK hN hD hP hS (fun H locs hP hS => ?_)
      refine W.eq (g2 := F0 m 57 ls [.int ((sp_X0_goAlongChain (sp_X1_writeOnce σ j (σ (3 + i) 6) (σ (3 + i) 7)) i ((sp_X1_writeOnce σ j (σ (3 + i) 6) (σ (3 + i) 7)) (3 + i) 6)).1)]) rfl ?_
      have e_q : (sp_X2_appendAt σ i j) = (((sp_X0_goAlongChain (sp_X1_writeOnce σ j (σ (3 + i) 6) (σ (3 + i) 7)) i ((sp_X1_writeOnce σ j (σ (3 + i) 6) (σ (3 + i) 7)) (3 + i) 6)).1), (sp_X0_goAlongChain (sp_X1_writeOnce σ j (σ (3 + i) 6) (σ (3 + i) 7)) i ((sp_X1_writeOnce σ j (σ (3 + i) 6) (σ (3 + i) 7)) (3 + i) 6)).2) := by rw [sp_X2_appendAt, if_neg c_1, if_pos c_2]
      exact sl_iret hx hb hr hlocks hP hS (by rw [e_q]) (by rw [e_q]) rfl dX2_appendAt_57
    · refine lv_aload_n hx hb dX2_appendAt_30 rfl (lv_at hl 1 rfl) ?_
      refine lv_iconst (v := (0 : Int32)) hx hb dX2_appendAt_31 (by decide) ?_
      refine sl_putCN hx hb hts hi0 hown hK hD hP hS hi 5 (by decide) rfl (tyX0_ok 5 (by decide)) (hN.f 8 rfl) dX2_appendAt_32 (fun H locs hP hS => ?_)
      refine lv_iconst (v := (0 : Int32)) hx hb dX2_appendAt_35 (by decide) ?_
      have e_q : (sp_X2_appendAt σ i j) = ((0 : Int32), (sl_up σ (3 + i) 5 (0 : Int32))) := by rw [sp_X2_appendAt, if_neg c_1, if_neg c_2]
      exact sl_iret hx hb hr hlocks hP hS (by rw [e_q]) (by rw [e_q]) rfl dX2_appendAt_36
def sp_X2_fillAt (σ : sl_M) (i : Nat) (j : Nat) : Int32 × sl_M := 
  if (sp_X0_isAtHead (sp_X1_writeOnce σ j (σ (3 + i) 6) (σ (3 + i) 7)) i) = 0 then (((sp_X0_goAlongChain (sp_X1_writeOnce σ j (σ (3 + i) 6) (σ (3 + i) 7)) i ((sp_X1_writeOnce σ j (σ (3 + i) 6) (σ (3 + i) 7)) (3 + i) 7)).1), (sp_X0_goAlongChain (sp_X1_writeOnce σ j (σ (3 + i) 6) (σ (3 + i) 7)) i ((sp_X1_writeOnce σ j (σ (3 + i) 6) (σ (3 + i) 7)) (3 + i) 7)).2)
  else (((sp_X0_goAlongChain (sl_up (sp_X1_writeOnce σ j (σ (3 + i) 6) (σ (3 + i) 7)) (3 + i) 7 (sp_X1_contentAt (sp_X1_writeOnce σ j (σ (3 + i) 6) (σ (3 + i) 7)) j ((sp_X1_writeOnce σ j (σ (3 + i) 6) (σ (3 + i) 7)) (3 + i) 6))) i ((sl_up (sp_X1_writeOnce σ j (σ (3 + i) 6) (σ (3 + i) 7)) (3 + i) 7 (sp_X1_contentAt (sp_X1_writeOnce σ j (σ (3 + i) 6) (σ (3 + i) 7)) j ((sp_X1_writeOnce σ j (σ (3 + i) 6) (σ (3 + i) 7)) (3 + i) 6))) (3 + i) 7)).1), (sp_X0_goAlongChain (sl_up (sp_X1_writeOnce σ j (σ (3 + i) 6) (σ (3 + i) 7)) (3 + i) 7 (sp_X1_contentAt (sp_X1_writeOnce σ j (σ (3 + i) 6) (σ (3 + i) 7)) j ((sp_X1_writeOnce σ j (σ (3 + i) 6) (σ (3 + i) 7)) (3 + i) 6))) i ((sl_up (sp_X1_writeOnce σ j (σ (3 + i) 6) (σ (3 + i) 7)) (3 + i) 7 (sp_X1_contentAt (sp_X1_writeOnce σ j (σ (3 + i) 6) (σ (3 + i) 7)) j ((sp_X1_writeOnce σ j (σ (3 + i) 6) (σ (3 + i) 7)) (3 + i) 6))) (3 + i) 7)).2)
set_option maxHeartbeats 4000000 in
set_option maxRecDepth 100000 in
theorem c_X2_fillAt (l : Launch) (G : va_G) (cy : Nat → ClassId) (ad : Nat → Nat) (σ τ : sl_M) (i : Nat) (hi : i < 3) (j : Nat) (hj : j < 6) : sl_C l G cy ad yX2_fillAt wsX2_fillAt ({ frames := 2, cells := 0, slots := 0, locals := 43 }) [.ref (ad (3 + i)), .ref (ad (6 + j))] σ τ (some (.int (sp_X2_fillAt σ i j).1)) (sp_X2_fillAt σ i j).2 τ := by
  refine sl_of (cc := cX2_fillAt) (maxL := 2) (ret := (some .int)) (by decide) rfl (Nat.le_of_ble_eq_true rfl) ?_
  intro p e s m below meth c hx hb hr hml hts hown hlocks hK hN hD hP hS ls hl
  have hown : s.vm.findClass RX2 = some m.cls := hown
  have hl : lv_has ls 2 [(0, .ref (ad (3 + i))), (1, .ref (ad (6 + j)))] := hl
  have hi0 : ∀ w ∈ wsX00, w ∈ wsX2_fillAt := fun _ h => (List.mem_cons_of_mem _ (List.mem_append_left _ (List.mem_append_right _ h)))
  refine lv_aload_n hx hb dX2_fillAt_0 rfl (lv_at hl 1 rfl) ?_
  refine lv_aload_n hx hb dX2_fillAt_1 rfl (lv_at hl 0 rfl) ?_
  refine va_getN (D := G) (ci := 0) (v := .int (σ (3 + i) 6)) (C := RX0) (T := TX0) (N := 12) hx hb hts hi0 hown hK hP (3 + i) (sl_aC hi) rfl 6 (by decide) (hN.f 2 rfl) (fun _ h9 => h9) rfl dX2_fillAt_2 ?_
  refine lv_aload_n hx hb dX2_fillAt_5 rfl (lv_at hl 0 rfl) ?_
  refine va_getN (D := G) (ci := 0) (v := .int (σ (3 + i) 7)) (C := RX0) (T := TX0) (N := 12) hx hb hts hi0 hown hK hP (3 + i) (sl_aC hi) rfl 7 (by decide) (hN.f 1 rfl) (fun _ h9 => h9) rfl dX2_fillAt_6 ?_
  refine sl_nV (n := 2) (As := [.int (σ (3 + i) 6), .int (σ (3 + i) 7)]) (rest := []) ⟨hx, hb, hml, hown, hts⟩ (c_X1_writeOnce l G cy ad σ τ j hj (σ (3 + i) 6) (σ (3 + i) 7)) gX2_fillAt_X1_writeOnce_n154 rfl rfl rfl (hN.m 9 rfl) (hts _ mw_X2_fillAt_2) (hts _ mw_X2_fillAt_1) (hts _ mw_X2_fillAt_3) (by decide +kernel) ⟨Nat.le_of_ble_eq_true rfl, Nat.le_of_ble_eq_true rfl⟩ (va_recv hK hP (ci := 1) (q0 := 6 + j) rfl (sl_aU hj)) rfl hl.1 rfl (Nat.le_of_ble_eq_true rfl) dX2_fillAt_9 ⟨Nat.zero_le _, Nat.zero_le _⟩ hK hN hD hP hS (fun H locs hP hS => ?_)
  refine W.eq (g2 := F0 m 12 ls []) rfl ?_
  refine lv_aload_n hx hb dX2_fillAt_12 rfl (lv_at hl 0 rfl) ?_
  refine sl_nV (n := 0) (As := []) (rest := []) ⟨hx, hb, hml, hown, hts⟩ (c_X0_isAtHead l G cy ad (sp_X1_writeOnce σ j (σ (3 + i) 6) (σ (3 + i) 7)) τ i hi) gX2_fillAt_X0_isAtHead_n150 rfl rfl rfl (hN.m 8 rfl) (hts _ mw_X2_fillAt_10) (hts _ mw_X2_fillAt_9) (hts _ mw_X2_fillAt_11) (by decide +kernel) ⟨Nat.le_of_ble_eq_true rfl, Nat.le_of_ble_eq_true rfl⟩ (va_recv hK hP (ci := 0) (q0 := 3 + i) rfl (sl_aC hi)) rfl hl.1 rfl (Nat.le_of_ble_eq_true rfl) dX2_fillAt_13 ⟨Nat.zero_le _, Nat.zero_le _⟩ hK hN hD hP hS (fun H locs hP hS => ?_)
  refine W.eq (g2 := F0 m 16 ls [.int (sp_X0_isAtHead (sp_X1_writeOnce σ j (σ (3 + i) 6) (σ (3 + i) 7)) i)]) rfl ?_
  refine lv_if_eq (tgt := 31) hx hb dX2_fillAt_16 (by decide) (fun c_1 => ?_) (fun c_1 => ?_)
  · refine lv_aload_n hx hb dX2_fillAt_31 rfl (lv_at hl 0 rfl) ?_
    refine lv_aload_n hx hb dX2_fillAt_32 rfl (lv_at hl 0 rfl) ?_
    refine va_getN (D := G) (ci := 0) (v := .int ((sp_X1_writeOnce σ j (σ (3 + i) 6) (σ (3 + i) 7)) (3 + i) 7)) (C := RX0) (T := TX0) (N := 12) hx hb hts hi0 hown hK hP (3 + i) (sl_aC hi) rfl 7 (by decide) (hN.f 1 rfl) (fun _ h9 => h9) rfl dX2_fillAt_33 ?_
    refine sl_nV (n := 1) (As := [.int ((sp_X1_writeOnce σ j (σ (3 + i) 6) (σ (3 + i) 7)) (3 + i) 7)]) (rest := []) ⟨hx, hb, hml, hown, hts⟩ (c_X0_goAlongChain l G cy ad (sp_X1_writeOnce σ j (σ (3 + i) 6) (σ (3 + i) 7)) τ i hi ((sp_X1_writeOnce σ j (σ (3 + i) 6) (σ (3 + i) 7)) (3 + i) 7)) gX2_fillAt_X0_goAlongChain_n158 rfl rfl rfl (hN.m 10 rfl) (hts _ mw_X2_fillAt_10) (hts _ mw_X2_fillAt_23) (hts _ mw_X2_fillAt_24) (by decide +kernel) ⟨Nat.le_of_ble_eq_true rfl, Nat.le_of_ble_eq_true rfl⟩ (va_recv hK hP (ci := 0) (q0 := 3 + i) rfl (sl_aC hi)) rfl hl.1 rfl (Nat.le_of_ble_eq_true rfl) dX2_fillAt_36 ⟨Nat.zero_le _, Nat.zero_le _⟩ hK hN hD hP hS (fun H locs hP hS => ?_)
    refine W.eq (g2 := F0 m 39 ls [.int ((sp_X0_goAlongChain (sp_X1_writeOnce σ j (σ (3 + i) 6) (σ (3 + i) 7)) i ((sp_X1_writeOnce σ j (σ (3 + i) 6) (σ (3 + i) 7)) (3 + i) 7)).1)]) rfl ?_
    have e_q : (sp_X2_fillAt σ i j) = (((sp_X0_goAlongChain (sp_X1_writeOnce σ j (σ (3 + i) 6) (σ (3 + i) 7)) i ((sp_X1_writeOnce σ j (σ (3 + i) 6) (σ (3 + i) 7)) (3 + i) 7)).1), (sp_X0_goAlongChain (sp_X1_writeOnce σ j (σ (3 + i) 6) (σ (3 + i) 7)) i ((sp_X1_writeOnce σ j (σ (3 + i) 6) (σ (3 + i) 7)) (3 + i) 7)).2) := by rw [sp_X2_fillAt, if_pos c_1]
    exact sl_iret hx hb hr hlocks hP hS (by rw [e_q]) (by rw [e_q]) rfl dX2_fillAt_39
  · refine lv_aload_n hx hb dX2_fillAt_19 rfl (lv_at hl 0 rfl) ?_
    refine lv_aload_n hx hb dX2_fillAt_20 rfl (lv_at hl 1 rfl) ?_
    refine lv_aload_n hx hb dX2_fillAt_21 rfl (lv_at hl 0 rfl) ?_
    refine va_getN (D := G) (ci := 0) (v := .int ((sp_X1_writeOnce σ j (σ (3 + i) 6) (σ (3 + i) 7)) (3 + i) 6)) (C := RX0) (T := TX0) (N := 12) hx hb hts hi0 hown hK hP (3 + i) (sl_aC hi) rfl 6 (by decide) (hN.f 2 rfl) (fun _ h9 => h9) rfl dX2_fillAt_22 ?_
    refine sl_nV (n := 1) (As := [.int ((sp_X1_writeOnce σ j (σ (3 + i) 6) (σ (3 + i) 7)) (3 + i) 6)]) (rest := [.ref (ad (3 + i))]) ⟨hx, hb, hml, hown, hts⟩ (c_X1_contentAt l G cy ad (sp_X1_writeOnce σ j (σ (3 + i) 6) (σ (3 + i) 7)) τ j hj ((sp_X1_writeOnce σ j (σ (3 + i) 6) (σ (3 + i) 7)) (3 + i) 6)) gX2_fillAt_X1_contentAt_n126 rfl rfl rfl (hN.m 7 rfl) (hts _ mw_X2_fillAt_2) (hts _ mw_X2_fillAt_20) (hts _ mw_X2_fillAt_21) (by decide +kernel) ⟨Nat.le_of_ble_eq_true rfl, Nat.le_of_ble_eq_true rfl⟩ (va_recv hK hP (ci := 1) (q0 := 6 + j) rfl (sl_aU hj)) rfl hl.1 rfl (Nat.le_of_ble_eq_true rfl) dX2_fillAt_25 ⟨Nat.zero_le _, Nat.zero_le _⟩ hK hN hD hP hS (fun H locs hP hS => ?_)
    refine W.eq (g2 := F0 m 28 ls [.int (sp_X1_contentAt (sp_X1_writeOnce σ j (σ (3 + i) 6) (σ (3 + i) 7)) j ((sp_X1_writeOnce σ j (σ (3 + i) 6) (σ (3 + i) 7)) (3 + i) 6)), .ref (ad (3 + i))]) rfl ?_
    refine sl_putCN hx hb hts hi0 hown hK hD hP hS hi 7 (by decide) rfl (tyX0_ok 7 (by decide)) (hN.f 1 rfl) dX2_fillAt_28 (fun H locs hP hS => ?_)
    refine lv_aload_n hx hb dX2_fillAt_31 rfl (lv_at hl 0 rfl) ?_
    refine lv_aload_n hx hb dX2_fillAt_32 rfl (lv_at hl 0 rfl) ?_
    refine va_getN (D := G) (ci := 0) (v := .int ((sl_up (sp_X1_writeOnce σ j (σ (3 + i) 6) (σ (3 + i) 7)) (3 + i) 7 (sp_X1_contentAt (sp_X1_writeOnce σ j (σ (3 + i) 6) (σ (3 + i) 7)) j ((sp_X1_writeOnce σ j (σ (3 + i) 6) (σ (3 + i) 7)) (3 + i) 6))) (3 + i) 7)) (C := RX0) (T := TX0) (N := 12) hx hb hts hi0 hown hK hP (3 + i) (sl_aC hi) rfl 7 (by decide) (hN.f 1 rfl) (fun _ h9 => h9) rfl dX2_fillAt_33 ?_
    refine sl_nV (n := 1) (As := [.int ((sl_up (sp_X1_writeOnce σ j (σ (3 + i) 6) (σ (3 + i) 7)) (3 + i) 7 (sp_X1_contentAt (sp_X1_writeOnce σ j (σ (3 + i) 6) (σ (3 + i) 7)) j ((sp_X1_writeOnce σ j (σ (3 + i) 6) (σ (3 + i) 7)) (3 + i) 6))) (3 + i) 7)]) (rest := []) ⟨hx, hb, hml, hown, hts⟩ (c_X0_goAlongChain l G cy ad (sl_up (sp_X1_writeOnce σ j (σ (3 + i) 6) (σ (3 + i) 7)) (3 + i) 7 (sp_X1_contentAt (sp_X1_writeOnce σ j (σ (3 + i) 6) (σ (3 + i) 7)) j ((sp_X1_writeOnce σ j (σ (3 + i) 6) (σ (3 + i) 7)) (3 + i) 6))) τ i hi ((sl_up (sp_X1_writeOnce σ j (σ (3 + i) 6) (σ (3 + i) 7)) (3 + i) 7 (sp_X1_contentAt (sp_X1_writeOnce σ j (σ (3 + i) 6) (σ (3 + i) 7)) j ((sp_X1_writeOnce σ j (σ (3 + i) 6) (σ (3 + i) 7)) (3 + i) 6))) (3 + i) 7)) gX2_fillAt_X0_goAlongChain_n158 rfl rfl rfl (hN.m 10 rfl) (hts _ mw_X2_fillAt_10) (hts _ mw_X2_fillAt_23) (hts _ mw_X2_fillAt_24) (by decide +kernel) ⟨Nat.le_of_ble_eq_true rfl, Nat.le_of_ble_eq_true rfl⟩ (va_recv hK hP (ci := 0) (q0 := 3 + i) rfl (sl_aC hi)) rfl hl.1 rfl (Nat.le_of_ble_eq_true rfl) dX2_fillAt_36 ⟨Nat.zero_le _, Nat.zero_le _⟩ hK hN hD hP hS (fun H locs hP hS => ?_)
    refine W.eq (g2 := F0 m 39 ls [.int ((sp_X0_goAlongChain (sl_up (sp_X1_writeOnce σ j (σ (3 + i) 6) (σ (3 + i) 7)) (3 + i) 7 (sp_X1_contentAt (sp_X1_writeOnce σ j (σ (3 + i) 6) (σ (3 + i) 7)) j ((sp_X1_writeOnce σ j (σ (3 + i) 6) (σ (3 + i) 7)) (3 + i) 6))) i ((sl_up (sp_X1_writeOnce σ j (σ (3 + i) 6) (σ (3 + i) 7)) (3 + i) 7 (sp_X1_contentAt (sp_X1_writeOnce σ j (σ (3 + i) 6) (σ (3 + i) 7)) j ((sp_X1_writeOnce σ j (σ (3 + i) 6) (σ (3 + i) 7)) (3 + i) 6))) (3 + i) 7)).1)]) rfl ?_
    have e_q : (sp_X2_fillAt σ i j) = (((sp_X0_goAlongChain (sl_up (sp_X1_writeOnce σ j (σ (3 + i) 6) (σ (3 + i) 7)) (3 + i) 7 (sp_X1_contentAt (sp_X1_writeOnce σ j (σ (3 + i) 6) (σ (3 + i) 7)) j ((sp_X1_writeOnce σ j (σ (3 + i) 6) (σ (3 + i) 7)) (3 + i) 6))) i ((sl_up (sp_X1_writeOnce σ j (σ (3 + i) 6) (σ (3 + i) 7)) (3 + i) 7 (sp_X1_contentAt (sp_X1_writeOnce σ j (σ (3 + i) 6) (σ (3 + i) 7)) j ((sp_X1_writeOnce σ j (σ (3 + i) 6) (σ (3 + i) 7)) (3 + i) 6))) (3 + i) 7)).1), (sp_X0_goAlongChain (sl_up (sp_X1_writeOnce σ j (σ (3 + i) 6) (σ (3 + i) 7)) (3 + i) 7 (sp_X1_contentAt (sp_X1_writeOnce σ j (σ (3 + i) 6) (σ (3 + i) 7)) j ((sp_X1_writeOnce σ j (σ (3 + i) 6) (σ (3 + i) 7)) (3 + i) 6))) i ((sl_up (sp_X1_writeOnce σ j (σ (3 + i) 6) (σ (3 + i) 7)) (3 + i) 7 (sp_X1_contentAt (sp_X1_writeOnce σ j (σ (3 + i) 6) (σ (3 + i) 7)) j ((sp_X1_writeOnce σ j (σ (3 + i) 6) (σ (3 + i) 7)) (3 + i) 6))) (3 + i) 7)).2) := by rw [sp_X2_fillAt, if_neg c_1]
    exact sl_iret hx hb hr hlocks hP hS (by rw [e_q]) (by rw [e_q]) rfl dX2_fillAt_39
def sp_X2_readAt (σ : sl_M) (i : Nat) (j : Nat) : Int32 × sl_M := 
  if (sp_X1_contentAt σ j (σ (3 + i) 6)) = (-2 : Int32) then (((sp_X0_end σ i (3 : Int32) (sp_X1_contentAt σ j (σ (3 + i) 6))).1), (sp_X0_end σ i (3 : Int32) (sp_X1_contentAt σ j (σ (3 + i) 6))).2)
  else (((sp_X0_end σ i (1 : Int32) (sp_X1_contentAt σ j (σ (3 + i) 6))).1), (sp_X0_end σ i (1 : Int32) (sp_X1_contentAt σ j (σ (3 + i) 6))).2)
set_option maxHeartbeats 4000000 in
set_option maxRecDepth 100000 in
theorem c_X2_readAt (l : Launch) (G : va_G) (cy : Nat → ClassId) (ad : Nat → Nat) (σ τ : sl_M) (i : Nat) (hi : i < 3) (j : Nat) (hj : j < 6) : sl_C l G cy ad yX2_readAt wsX2_readAt ({ frames := 2, cells := 0, slots := 0, locals := 41 }) [.ref (ad (3 + i)), .ref (ad (6 + j))] σ τ (some (.int (sp_X2_readAt σ i j).1)) (sp_X2_readAt σ i j).2 τ := by
  refine sl_of (cc := cX2_readAt) (maxL := 3) (ret := (some .int)) (by decide) rfl (Nat.le_of_ble_eq_true rfl) ?_
  intro p e s m below meth c hx hb hr hml hts hown hlocks hK hN hD hP hS ls hl
  have hown : s.vm.findClass RX2 = some m.cls := hown
  have hl : lv_has ls 3 [(0, .ref (ad (3 + i))), (1, .ref (ad (6 + j)))] := hl
  have hi0 : ∀ w ∈ wsX00, w ∈ wsX2_readAt := fun _ h => (List.mem_cons_of_mem _ (List.mem_append_left _ (List.mem_append_right _ h)))
  refine lv_aload_n hx hb dX2_readAt_0 rfl (lv_at hl 1 rfl) ?_
  refine lv_aload_n hx hb dX2_readAt_1 rfl (lv_at hl 0 rfl) ?_
  refine va_getN (D := G) (ci := 0) (v := .int (σ (3 + i) 6)) (C := RX0) (T := TX0) (N := 12) hx hb hts hi0 hown hK hP (3 + i) (sl_aC hi) rfl 6 (by decide) (hN.f 2 rfl) (fun _ h9 => h9) rfl dX2_readAt_2 ?_
  refine sl_nV (n := 1) (As := [.int (σ (3 + i) 6)]) (rest := []) ⟨hx, hb, hml, hown, hts⟩ (c_X1_contentAt l G cy ad σ τ j hj (σ (3 + i) 6)) gX2_readAt_X1_contentAt_n126 rfl rfl rfl (hN.m 7 rfl) (hts _ mw_X2_readAt_2) (hts _ mw_X2_readAt_1) (hts _ mw_X2_readAt_3) (by decide +kernel) ⟨Nat.le_of_ble_eq_true rfl, Nat.le_of_ble_eq_true rfl⟩ (va_recv hK hP (ci := 1) (q0 := 6 + j) rfl (sl_aU hj)) rfl hl.1 rfl (Nat.le_of_ble_eq_true rfl) dX2_readAt_5 ⟨Nat.zero_le _, Nat.zero_le _⟩ hK hN hD hP hS (fun H locs hP hS => ?_)
  refine W.eq (g2 := F0 m 8 ls [.int (sp_X1_contentAt σ j (σ (3 + i) 6))]) rfl ?_
  refine lv_istore_n (lv' := [(2, .int (sp_X1_contentAt σ j (σ (3 + i) 6))), (0, .ref (ad (3 + i))), (1, .ref (ad (6 + j)))]) hx hb dX2_readAt_8 rfl hl (by decide) rfl (fun ls hl => ?_)
  refine lv_aload_n hx hb dX2_readAt_9 rfl (lv_at hl 1 rfl) ?_
  refine lv_iload_n hx hb dX2_readAt_10 rfl (lv_at hl 0 rfl) ?_
  refine lv_bipush (v := (-2 : Int32)) hx hb dX2_readAt_11 (by decide) ?_
  refine lv_icmp_ne (tgt := 20) hx hb dX2_readAt_13 (by decide) (fun c_1 => ?_) (fun c_1 => ?_)
  · refine lv_iconst (v := (1 : Int32)) hx hb dX2_readAt_20 (by decide) ?_
    refine lv_iload_n hx hb dX2_readAt_21 rfl (lv_at hl 0 rfl) ?_
    refine sl_nV (n := 2) (As := [.int (1 : Int32), .int (sp_X1_contentAt σ j (σ (3 + i) 6))]) (rest := []) ⟨hx, hb, hml, hown, hts⟩ (c_X0_end l G cy ad σ τ i hi (1 : Int32) (sp_X1_contentAt σ j (σ (3 + i) 6))) gX2_readAt_X0_end_n108 rfl rfl rfl (hN.m 6 rfl) (hts _ mw_X2_readAt_10) (hts _ mw_X2_readAt_9) (hts _ mw_X2_readAt_11) (by decide +kernel) ⟨Nat.le_of_ble_eq_true rfl, Nat.le_of_ble_eq_true rfl⟩ (va_recv hK hP (ci := 0) (q0 := 3 + i) rfl (sl_aC hi)) rfl hl.1 rfl (Nat.le_of_ble_eq_true rfl) dX2_readAt_22 ⟨Nat.zero_le _, Nat.zero_le _⟩ hK hN hD hP hS (fun H locs hP hS => ?_)
    refine W.eq (g2 := F0 m 25 ls [.int ((sp_X0_end σ i (1 : Int32) (sp_X1_contentAt σ j (σ (3 + i) 6))).1)]) rfl ?_
    have e_q : (sp_X2_readAt σ i j) = (((sp_X0_end σ i (1 : Int32) (sp_X1_contentAt σ j (σ (3 + i) 6))).1), (sp_X0_end σ i (1 : Int32) (sp_X1_contentAt σ j (σ (3 + i) 6))).2) := by rw [sp_X2_readAt, if_neg c_1]
    exact sl_iret hx hb hr hlocks hP hS (by rw [e_q]) (by rw [e_q]) rfl dX2_readAt_25
  · refine lv_iconst (v := (3 : Int32)) hx hb dX2_readAt_16 (by decide) ?_
    refine lv_goto (tgt := 21) hx hb dX2_readAt_17 (by decide) ?_
    refine lv_iload_n hx hb dX2_readAt_21 rfl (lv_at hl 0 rfl) ?_
    refine sl_nV (n := 2) (As := [.int (3 : Int32), .int (sp_X1_contentAt σ j (σ (3 + i) 6))]) (rest := []) ⟨hx, hb, hml, hown, hts⟩ (c_X0_end l G cy ad σ τ i hi (3 : Int32) (sp_X1_contentAt σ j (σ (3 + i) 6))) gX2_readAt_X0_end_n108 rfl rfl rfl (hN.m 6 rfl) (hts _ mw_X2_readAt_10) (hts _ mw_X2_readAt_9) (hts _ mw_X2_readAt_11) (by decide +kernel) ⟨Nat.le_of_ble_eq_true rfl, Nat.le_of_ble_eq_true rfl⟩ (va_recv hK hP (ci := 0) (q0 := 3 + i) rfl (sl_aC hi)) rfl hl.1 rfl (Nat.le_of_ble_eq_true rfl) dX2_readAt_22 ⟨Nat.zero_le _, Nat.zero_le _⟩ hK hN hD hP hS (fun H locs hP hS => ?_)
    refine W.eq (g2 := F0 m 25 ls [.int ((sp_X0_end σ i (3 : Int32) (sp_X1_contentAt σ j (σ (3 + i) 6))).1)]) rfl ?_
    have e_q : (sp_X2_readAt σ i j) = (((sp_X0_end σ i (3 : Int32) (sp_X1_contentAt σ j (σ (3 + i) 6))).1), (sp_X0_end σ i (3 : Int32) (sp_X1_contentAt σ j (σ (3 + i) 6))).2) := by rw [sp_X2_readAt, if_pos c_1]
    exact sl_iret hx hb hr hlocks hP hS (by rw [e_q]) (by rw [e_q]) rfl dX2_readAt_25
def sp_X2_replayAt (σ : sl_M) (i : Nat) (j : Nat) : Int32 × sl_M := 
  if (sp_X1_contentAt σ j (σ (3 + i) 6)) = (-2 : Int32) then (((sp_X0_end σ i (3 : Int32) (σ (3 + i) 6)).1), (sp_X0_end σ i (3 : Int32) (σ (3 + i) 6)).2)
  else if (sp_X1_contentAt σ j (σ (3 + i) 6)) = (-1 : Int32) then ((0 : Int32), (sl_up (sl_up σ (3 + i) 6 ((σ (3 + i) 6) + (1 : Int32))) (3 + i) 5 (sp_X0_replayRoute (sl_up σ (3 + i) 6 ((σ (3 + i) 6) + (1 : Int32))) i)))
  else ((0 : Int32), (sl_up (sl_up (sl_up σ (3 + i) 9 (((σ (3 + i) 9) * (31 : Int32)) + (sp_X1_contentAt σ j (σ (3 + i) 6)))) (3 + i) 6 (((sl_up σ (3 + i) 9 (((σ (3 + i) 9) * (31 : Int32)) + (sp_X1_contentAt σ j (σ (3 + i) 6)))) (3 + i) 6) + (1 : Int32))) (3 + i) 5 (sp_X0_replayRoute (sl_up (sl_up σ (3 + i) 9 (((σ (3 + i) 9) * (31 : Int32)) + (sp_X1_contentAt σ j (σ (3 + i) 6)))) (3 + i) 6 (((sl_up σ (3 + i) 9 (((σ (3 + i) 9) * (31 : Int32)) + (sp_X1_contentAt σ j (σ (3 + i) 6)))) (3 + i) 6) + (1 : Int32))) i)))
set_option maxHeartbeats 4000000 in
set_option maxRecDepth 100000 in
theorem c_X2_replayAt (l : Launch) (G : va_G) (cy : Nat → ClassId) (ad : Nat → Nat) (σ τ : sl_M) (i : Nat) (hi : i < 3) (j : Nat) (hj : j < 6) : sl_C l G cy ad yX2_replayAt wsX2_replayAt ({ frames := 2, cells := 0, slots := 0, locals := 41 }) [.ref (ad (3 + i)), .ref (ad (6 + j))] σ τ (some (.int (sp_X2_replayAt σ i j).1)) (sp_X2_replayAt σ i j).2 τ := by
  refine sl_of (cc := cX2_replayAt) (maxL := 3) (ret := (some .int)) (by decide) rfl (Nat.le_of_ble_eq_true rfl) ?_
  intro p e s m below meth c hx hb hr hml hts hown hlocks hK hN hD hP hS ls hl
  have hown : s.vm.findClass RX2 = some m.cls := hown
  have hl : lv_has ls 3 [(0, .ref (ad (3 + i))), (1, .ref (ad (6 + j)))] := hl
  have hi0 : ∀ w ∈ wsX00, w ∈ wsX2_replayAt := fun _ h => (List.mem_cons_of_mem _ (List.mem_append_left _ (List.mem_append_right _ h)))
  refine lv_aload_n hx hb dX2_replayAt_0 rfl (lv_at hl 1 rfl) ?_
  refine lv_aload_n hx hb dX2_replayAt_1 rfl (lv_at hl 0 rfl) ?_
  refine va_getN (D := G) (ci := 0) (v := .int (σ (3 + i) 6)) (C := RX0) (T := TX0) (N := 12) hx hb hts hi0 hown hK hP (3 + i) (sl_aC hi) rfl 6 (by decide) (hN.f 2 rfl) (fun _ h9 => h9) rfl dX2_replayAt_2 ?_
  refine sl_nV (n := 1) (As := [.int (σ (3 + i) 6)]) (rest := []) ⟨hx, hb, hml, hown, hts⟩ (c_X1_contentAt l G cy ad σ τ j hj (σ (3 + i) 6)) gX2_replayAt_X1_contentAt_n126 rfl rfl rfl (hN.m 7 rfl) (hts _ mw_X2_replayAt_2) (hts _ mw_X2_replayAt_1) (hts _ mw_X2_replayAt_3) (by decide +kernel) ⟨Nat.le_of_ble_eq_true rfl, Nat.le_of_ble_eq_true rfl⟩ (va_recv hK hP (ci := 1) (q0 := 6 + j) rfl (sl_aU hj)) rfl hl.1 rfl (Nat.le_of_ble_eq_true rfl) dX2_replayAt_5 ⟨Nat.zero_le _, Nat.zero_le _⟩ hK hN hD hP hS (fun H locs hP hS => ?_)
  refine W.eq (g2 := F0 m 8 ls [.int (sp_X1_contentAt σ j (σ (3 + i) 6))]) rfl ?_
  refine lv_istore_n (lv' := [(2, .int (sp_X1_contentAt σ j (σ (3 + i) 6))), (0, .ref (ad (3 + i))), (1, .ref (ad (6 + j)))]) hx hb dX2_replayAt_8 rfl hl (by decide) rfl (fun ls hl => ?_)
  refine lv_iload_n hx hb dX2_replayAt_9 rfl (lv_at hl 0 rfl) ?_
  refine lv_bipush (v := (-2 : Int32)) hx hb dX2_replayAt_10 (by decide) ?_
  refine lv_icmp_ne (tgt := 25) hx hb dX2_replayAt_12 (by decide) (fun c_1 => ?_) (fun c_1 => ?_)
  · refine lv_iload_n hx hb dX2_replayAt_25 rfl (lv_at hl 0 rfl) ?_
    refine lv_iconst (v := (-1 : Int32)) hx hb dX2_replayAt_26 (by decide) ?_
    refine lv_icmp_eq (tgt := 43) hx hb dX2_replayAt_27 (by decide) (fun c_2 => ?_) (fun c_2 => ?_)
    · refine lv_aload_n hx hb dX2_replayAt_43 rfl (lv_at hl 1 rfl) ?_
      refine lv_dup hx hb dX2_replayAt_44 rfl ?_
      refine va_getN (D := G) (ci := 0) (v := .int (σ (3 + i) 6)) (C := RX0) (T := TX0) (N := 12) hx hb hts hi0 hown hK hP (3 + i) (sl_aC hi) rfl 6 (by decide) (hN.f 2 rfl) (fun _ h9 => h9) rfl dX2_replayAt_45 ?_
      refine lv_iconst (v := (1 : Int32)) hx hb dX2_replayAt_48 (by decide) ?_
      refine lv_iadd hx hb dX2_replayAt_49 ?_
      refine sl_putCN hx hb hts hi0 hown hK hD hP hS hi 6 (by decide) rfl (tyX0_ok 6 (by decide)) (hN.f 2 rfl) dX2_replayAt_50 (fun H locs hP hS => ?_)
      refine lv_aload_n hx hb dX2_replayAt_53 rfl (lv_at hl 1 rfl) ?_
      refine lv_aload_n hx hb dX2_replayAt_54 rfl (lv_at hl 1 rfl) ?_
      refine sl_nV (n := 0) (As := []) (rest := [.ref (ad (3 + i))]) ⟨hx, hb, hml, hown, hts⟩ (c_X0_replayRoute l G cy ad (sl_up σ (3 + i) 6 ((σ (3 + i) 6) + (1 : Int32))) τ i hi) gX2_replayAt_X0_replayRoute_n71 rfl rfl rfl (hN.m 4 rfl) (hts _ mw_X2_replayAt_10) (hts _ mw_X2_replayAt_16) (hts _ mw_X2_replayAt_17) (by decide +kernel) ⟨Nat.le_of_ble_eq_true rfl, Nat.le_of_ble_eq_true rfl⟩ (va_recv hK hP (ci := 0) (q0 := 3 + i) rfl (sl_aC hi)) rfl hl.1 rfl (Nat.le_of_ble_eq_true rfl) dX2_replayAt_55 ⟨Nat.zero_le _, Nat.zero_le _⟩ hK hN hD hP hS (fun H locs hP hS => ?_)
      refine W.eq (g2 := F0 m 58 ls [.int (sp_X0_replayRoute (sl_up σ (3 + i) 6 ((σ (3 + i) 6) + (1 : Int32))) i), .ref (ad (3 + i))]) rfl ?_
      refine sl_putCN hx hb hts hi0 hown hK hD hP hS hi 5 (by decide) rfl (tyX0_ok 5 (by decide)) (hN.f 8 rfl) dX2_replayAt_58 (fun H locs hP hS => ?_)
      refine lv_iconst (v := (0 : Int32)) hx hb dX2_replayAt_61 (by decide) ?_
      have e_q : (sp_X2_replayAt σ i j) = ((0 : Int32), (sl_up (sl_up σ (3 + i) 6 ((σ (3 + i) 6) + (1 : Int32))) (3 + i) 5 (sp_X0_replayRoute (sl_up σ (3 + i) 6 ((σ (3 + i) 6) + (1 : Int32))) i))) := by rw [sp_X2_replayAt, if_neg c_1, if_pos c_2]
      exact sl_iret hx hb hr hlocks hP hS (by rw [e_q]) (by rw [e_q]) rfl dX2_replayAt_62
    · refine lv_aload_n hx hb dX2_replayAt_30 rfl (lv_at hl 1 rfl) ?_
      refine lv_aload_n hx hb dX2_replayAt_31 rfl (lv_at hl 1 rfl) ?_
      refine va_getN (D := G) (ci := 0) (v := .int (σ (3 + i) 9)) (C := RX0) (T := TX0) (N := 12) hx hb hts hi0 hown hK hP (3 + i) (sl_aC hi) rfl 9 (by decide) (hN.f 4 rfl) (fun _ h9 => h9) rfl dX2_replayAt_32 ?_
      refine lv_bipush (v := (31 : Int32)) hx hb dX2_replayAt_35 (by decide) ?_
      refine lv_imul hx hb dX2_replayAt_37 ?_
      refine lv_iload_n hx hb dX2_replayAt_38 rfl (lv_at hl 0 rfl) ?_
      refine lv_iadd hx hb dX2_replayAt_39 ?_
      refine sl_putCN hx hb hts hi0 hown hK hD hP hS hi 9 (by decide) rfl (tyX0_ok 9 (by decide)) (hN.f 4 rfl) dX2_replayAt_40 (fun H locs hP hS => ?_)
      refine lv_aload_n hx hb dX2_replayAt_43 rfl (lv_at hl 1 rfl) ?_
      refine lv_dup hx hb dX2_replayAt_44 rfl ?_
      refine va_getN (D := G) (ci := 0) (v := .int ((sl_up σ (3 + i) 9 (((σ (3 + i) 9) * (31 : Int32)) + (sp_X1_contentAt σ j (σ (3 + i) 6)))) (3 + i) 6)) (C := RX0) (T := TX0) (N := 12) hx hb hts hi0 hown hK hP (3 + i) (sl_aC hi) rfl 6 (by decide) (hN.f 2 rfl) (fun _ h9 => h9) rfl dX2_replayAt_45 ?_
      refine lv_iconst (v := (1 : Int32)) hx hb dX2_replayAt_48 (by decide) ?_
      refine lv_iadd hx hb dX2_replayAt_49 ?_
      refine sl_putCN hx hb hts hi0 hown hK hD hP hS hi 6 (by decide) rfl (tyX0_ok 6 (by decide)) (hN.f 2 rfl) dX2_replayAt_50 (fun H locs hP hS => ?_)
      refine lv_aload_n hx hb dX2_replayAt_53 rfl (lv_at hl 1 rfl) ?_
      refine lv_aload_n hx hb dX2_replayAt_54 rfl (lv_at hl 1 rfl) ?_
      refine sl_nV (n := 0) (As := []) (rest := [.ref (ad (3 + i))]) ⟨hx, hb, hml, hown, hts⟩ (c_X0_replayRoute l G cy ad (sl_up (sl_up σ (3 + i) 9 (((σ (3 + i) 9) * (31 : Int32)) + (sp_X1_contentAt σ j (σ (3 + i) 6)))) (3 + i) 6 (((sl_up σ (3 + i) 9 (((σ (3 + i) 9) * (31 : Int32)) + (sp_X1_contentAt σ j (σ (3 + i) 6)))) (3 + i) 6) + (1 : Int32))) τ i hi) gX2_replayAt_X0_replayRoute_n71 rfl rfl rfl (hN.m 4 rfl) (hts _ mw_X2_replayAt_10) (hts _ mw_X2_replayAt_16) (hts _ mw_X2_replayAt_17) (by decide +kernel) ⟨Nat.le_of_ble_eq_true rfl, Nat.le_of_ble_eq_true rfl⟩ (va_recv hK hP (ci := 0) (q0 := 3 + i) rfl (sl_aC hi)) rfl hl.1 rfl (Nat.le_of_ble_eq_true rfl) dX2_replayAt_55 ⟨Nat.zero_le _, Nat.zero_le _⟩ hK hN hD hP hS (fun H locs hP hS => ?_)
      refine W.eq (g2 := F0 m 58 ls [.int (sp_X0_replayRoute (sl_up (sl_up σ (3 + i) 9 (((σ (3 + i) 9) * (31 : Int32)) + (sp_X1_contentAt σ j (σ (3 + i) 6)))) (3 + i) 6 (((sl_up σ (3 + i) 9 (((σ (3 + i) 9) * (31 : Int32)) + (sp_X1_contentAt σ j (σ (3 + i) 6)))) (3 + i) 6) + (1 : Int32))) i), .ref (ad (3 + i))]) rfl ?_
      refine sl_putCN hx hb hts hi0 hown hK hD hP hS hi 5 (by decide) rfl (tyX0_ok 5 (by decide)) (hN.f 8 rfl) dX2_replayAt_58 (fun H locs hP hS => ?_)
      refine lv_iconst (v := (0 : Int32)) hx hb dX2_replayAt_61 (by decide) ?_
      have e_q : (sp_X2_replayAt σ i j) = ((0 : Int32), (sl_up (sl_up (sl_up σ (3 + i) 9 (((σ (3 + i) 9) * (31 : Int32)) + (sp_X1_contentAt σ j (σ (3 + i) 6)))) (3 + i) 6 (((sl_up σ (3 + i) 9 (((σ (3 + i) 9) * (31 : Int32)) + (sp_X1_contentAt σ j (σ (3 + i) 6)))) (3 + i) 6) + (1 : Int32))) (3 + i) 5 (sp_X0_replayRoute (sl_up (sl_up σ (3 + i) 9 (((σ (3 + i) 9) * (31 : Int32)) + (sp_X1_contentAt σ j (σ (3 + i) 6)))) (3 + i) 6 (((sl_up σ (3 + i) 9 (((σ (3 + i) 9) * (31 : Int32)) + (sp_X1_contentAt σ j (σ (3 + i) 6)))) (3 + i) 6) + (1 : Int32))) i))) := by rw [sp_X2_replayAt, if_neg c_1, if_neg c_2]
      exact sl_iret hx hb hr hlocks hP hS (by rw [e_q]) (by rw [e_q]) rfl dX2_replayAt_62
  · refine lv_aload_n hx hb dX2_replayAt_15 rfl (lv_at hl 1 rfl) ?_
    refine lv_iconst (v := (3 : Int32)) hx hb dX2_replayAt_16 (by decide) ?_
    refine lv_aload_n hx hb dX2_replayAt_17 rfl (lv_at hl 1 rfl) ?_
    refine va_getN (D := G) (ci := 0) (v := .int (σ (3 + i) 6)) (C := RX0) (T := TX0) (N := 12) hx hb hts hi0 hown hK hP (3 + i) (sl_aC hi) rfl 6 (by decide) (hN.f 2 rfl) (fun _ h9 => h9) rfl dX2_replayAt_18 ?_
    refine sl_nV (n := 2) (As := [.int (3 : Int32), .int (σ (3 + i) 6)]) (rest := []) ⟨hx, hb, hml, hown, hts⟩ (c_X0_end l G cy ad σ τ i hi (3 : Int32) (σ (3 + i) 6)) gX2_replayAt_X0_end_n108 rfl rfl rfl (hN.m 6 rfl) (hts _ mw_X2_replayAt_10) (hts _ mw_X2_replayAt_9) (hts _ mw_X2_replayAt_11) (by decide +kernel) ⟨Nat.le_of_ble_eq_true rfl, Nat.le_of_ble_eq_true rfl⟩ (va_recv hK hP (ci := 0) (q0 := 3 + i) rfl (sl_aC hi)) rfl hl.1 rfl (Nat.le_of_ble_eq_true rfl) dX2_replayAt_21 ⟨Nat.zero_le _, Nat.zero_le _⟩ hK hN hD hP hS (fun H locs hP hS => ?_)
    refine W.eq (g2 := F0 m 24 ls [.int ((sp_X0_end σ i (3 : Int32) (σ (3 + i) 6)).1)]) rfl ?_
    have e_q : (sp_X2_replayAt σ i j) = (((sp_X0_end σ i (3 : Int32) (σ (3 + i) 6)).1), (sp_X0_end σ i (3 : Int32) (σ (3 + i) 6)).2) := by rw [sp_X2_replayAt, if_pos c_1]
    exact sl_iret hx hb hr hlocks hP hS (by rw [e_q]) (by rw [e_q]) rfl dX2_replayAt_24
def sp_X2_sealAt (σ : sl_M) (i : Nat) (j : Nat) : Int32 × sl_M := ((0 : Int32), (sl_up (sl_up (sl_up σ (6 + j) 0 ((σ (3 + i) 0) + (1 : Int32))) (3 + i) 11 (if ((sl_up σ (6 + j) 0 ((σ (3 + i) 0) + (1 : Int32))) (3 + i) 11) < (sp_X1_endOfWritten (sl_up σ (6 + j) 0 ((σ (3 + i) 0) + (1 : Int32))) j) then (sp_X1_endOfWritten (sl_up σ (6 + j) 0 ((σ (3 + i) 0) + (1 : Int32))) j) else ((sl_up σ (6 + j) 0 ((σ (3 + i) 0) + (1 : Int32))) (3 + i) 11))) (3 + i) 5 (sp_X2_withoutLowest ((sl_up (sl_up σ (6 + j) 0 ((σ (3 + i) 0) + (1 : Int32))) (3 + i) 11 (if ((sl_up σ (6 + j) 0 ((σ (3 + i) 0) + (1 : Int32))) (3 + i) 11) < (sp_X1_endOfWritten (sl_up σ (6 + j) 0 ((σ (3 + i) 0) + (1 : Int32))) j) then (sp_X1_endOfWritten (sl_up σ (6 + j) 0 ((σ (3 + i) 0) + (1 : Int32))) j) else ((sl_up σ (6 + j) 0 ((σ (3 + i) 0) + (1 : Int32))) (3 + i) 11))) (3 + i) 5))))
set_option maxHeartbeats 4000000 in
set_option maxRecDepth 100000 in
theorem c_X2_sealAt (l : Launch) (G : va_G) (cy : Nat → ClassId) (ad : Nat → Nat) (σ τ : sl_M) (i : Nat) (hi : i < 3) (j : Nat) (hj : j < 6) : sl_C l G cy ad yX2_sealAt wsX2_sealAt ({ frames := 1, cells := 0, slots := 0, locals := 32 }) [.ref (ad (3 + i)), .ref (ad (6 + j))] σ τ (some (.int (sp_X2_sealAt σ i j).1)) (sp_X2_sealAt σ i j).2 τ := by
  refine sl_of (cc := cX2_sealAt) (maxL := 2) (ret := (some .int)) (by decide) rfl (Nat.le_of_ble_eq_true rfl) ?_
  intro p e s m below meth c hx hb hr hml hts hown hlocks hK hN hD hP hS ls hl
  have hown : s.vm.findClass RX2 = some m.cls := hown
  have hl : lv_has ls 2 [(0, .ref (ad (3 + i))), (1, .ref (ad (6 + j)))] := hl
  have hi0 : ∀ w ∈ wsX00, w ∈ wsX2_sealAt := fun _ h => (List.mem_cons_of_mem _ (List.mem_append_left _ (List.mem_append_right _ h)))
  have hi1 : ∀ w ∈ wsX10, w ∈ wsX2_sealAt := fun _ h => (List.mem_cons_of_mem _ (List.mem_append_right _ h))
  refine lv_aload_n hx hb dX2_sealAt_0 rfl (lv_at hl 1 rfl) ?_
  refine lv_aload_n hx hb dX2_sealAt_1 rfl (lv_at hl 0 rfl) ?_
  refine va_getN (D := G) (ci := 0) (v := .int (σ (3 + i) 0)) (C := RX0) (T := TX0) (N := 12) hx hb hts hi0 hown hK hP (3 + i) (sl_aC hi) rfl 0 (by decide) (hN.f 11 rfl) (fun _ h9 => h9) rfl dX2_sealAt_2 ?_
  refine lv_iconst (v := (1 : Int32)) hx hb dX2_sealAt_5 (by decide) ?_
  refine lv_iadd hx hb dX2_sealAt_6 ?_
  refine sl_putUN hx hb hts hi1 hown hK hD hP hS hj 0 (by decide) rfl (tyX1_ok 0 (by decide)) rfl rfl (hN.f 10 rfl) dX2_sealAt_7 (fun H locs hP hS => ?_)
  refine lv_aload_n hx hb dX2_sealAt_10 rfl (lv_at hl 0 rfl) ?_
  refine lv_aload_n hx hb dX2_sealAt_11 rfl (lv_at hl 0 rfl) ?_
  refine va_getN (D := G) (ci := 0) (v := .int ((sl_up σ (6 + j) 0 ((σ (3 + i) 0) + (1 : Int32))) (3 + i) 11)) (C := RX0) (T := TX0) (N := 12) hx hb hts hi0 hown hK hP (3 + i) (sl_aC hi) rfl 11 (by decide) (hN.f 7 rfl) (fun _ h9 => h9) rfl dX2_sealAt_12 ?_
  refine lv_aload_n hx hb dX2_sealAt_15 rfl (lv_at hl 1 rfl) ?_
  refine sl_nV (n := 0) (As := []) (rest := [.int ((sl_up σ (6 + j) 0 ((σ (3 + i) 0) + (1 : Int32))) (3 + i) 11), .ref (ad (3 + i))]) ⟨hx, hb, hml, hown, hts⟩ (c_X1_endOfWritten l G cy ad (sl_up σ (6 + j) 0 ((σ (3 + i) 0) + (1 : Int32))) τ j hj) gX2_sealAt_X1_endOfWritten_n161 rfl rfl rfl (hN.m 11 rfl) (hts _ mw_X2_sealAt_6) (hts _ mw_X2_sealAt_5) (hts _ mw_X2_sealAt_7) (by decide +kernel) ⟨Nat.le_of_ble_eq_true rfl, Nat.le_of_ble_eq_true rfl⟩ (va_recv hK hP (ci := 1) (q0 := 6 + j) rfl (sl_aU hj)) rfl hl.1 rfl (Nat.le_of_ble_eq_true rfl) dX2_sealAt_16 ⟨Nat.zero_le _, Nat.zero_le _⟩ hK hN hD hP hS (fun H locs hP hS => ?_)
  refine W.eq (g2 := F0 m 19 ls [.int (sp_X1_endOfWritten (sl_up σ (6 + j) 0 ((σ (3 + i) 0) + (1 : Int32))) j), .int ((sl_up σ (6 + j) 0 ((σ (3 + i) 0) + (1 : Int32))) (3 + i) 11), .ref (ad (3 + i))]) rfl ?_
  refine va_mmax hx hb (hml.trans hl.1.symm) hown (hts _ mw_X2_sealAt_1) (hts _ mw_X2_sealAt_2) (hts _ mw_X2_sealAt_3) (hts (.code Lib.Math.max.name Lib.Math.max.code 2 (some .int)) (List.mem_of_getElem? (i := 4) rfl)) (Nat.le_of_ble_eq_true rfl) (Nat.le_of_ble_eq_true rfl) (Nat.zero_le _) (Nat.zero_le _) dX2_sealAt_19 ?_
  refine sl_putCN hx hb hts hi0 hown hK hD hP hS hi 11 (by decide) rfl (tyX0_ok 11 (by decide)) (hN.f 7 rfl) dX2_sealAt_22 (fun H locs hP hS => ?_)
  refine lv_aload_n hx hb dX2_sealAt_25 rfl (lv_at hl 0 rfl) ?_
  refine lv_aload_n hx hb dX2_sealAt_26 rfl (lv_at hl 0 rfl) ?_
  refine va_getN (D := G) (ci := 0) (v := .int ((sl_up (sl_up σ (6 + j) 0 ((σ (3 + i) 0) + (1 : Int32))) (3 + i) 11 (if ((sl_up σ (6 + j) 0 ((σ (3 + i) 0) + (1 : Int32))) (3 + i) 11) < (sp_X1_endOfWritten (sl_up σ (6 + j) 0 ((σ (3 + i) 0) + (1 : Int32))) j) then (sp_X1_endOfWritten (sl_up σ (6 + j) 0 ((σ (3 + i) 0) + (1 : Int32))) j) else ((sl_up σ (6 + j) 0 ((σ (3 + i) 0) + (1 : Int32))) (3 + i) 11))) (3 + i) 5)) (C := RX0) (T := TX0) (N := 12) hx hb hts hi0 hown hK hP (3 + i) (sl_aC hi) rfl 5 (by decide) (hN.f 8 rfl) (fun _ h9 => h9) rfl dX2_sealAt_27 ?_
  refine sl_cS (n := 1) (As := [.int ((sl_up (sl_up σ (6 + j) 0 ((σ (3 + i) 0) + (1 : Int32))) (3 + i) 11 (if ((sl_up σ (6 + j) 0 ((σ (3 + i) 0) + (1 : Int32))) (3 + i) 11) < (sp_X1_endOfWritten (sl_up σ (6 + j) 0 ((σ (3 + i) 0) + (1 : Int32))) j) then (sp_X1_endOfWritten (sl_up σ (6 + j) 0 ((σ (3 + i) 0) + (1 : Int32))) j) else ((sl_up σ (6 + j) 0 ((σ (3 + i) 0) + (1 : Int32))) (3 + i) 11))) (3 + i) 5)]) (rest := [.ref (ad (3 + i))]) ⟨hx, hb, hml, hown, hts⟩ (c_X2_withoutLowest l G cy ad (sl_up (sl_up σ (6 + j) 0 ((σ (3 + i) 0) + (1 : Int32))) (3 + i) 11 (if ((sl_up σ (6 + j) 0 ((σ (3 + i) 0) + (1 : Int32))) (3 + i) 11) < (sp_X1_endOfWritten (sl_up σ (6 + j) 0 ((σ (3 + i) 0) + (1 : Int32))) j) then (sp_X1_endOfWritten (sl_up σ (6 + j) 0 ((σ (3 + i) 0) + (1 : Int32))) j) else ((sl_up σ (6 + j) 0 ((σ (3 + i) 0) + (1 : Int32))) (3 + i) 11))) τ ((sl_up (sl_up σ (6 + j) 0 ((σ (3 + i) 0) + (1 : Int32))) (3 + i) 11 (if ((sl_up σ (6 + j) 0 ((σ (3 + i) 0) + (1 : Int32))) (3 + i) 11) < (sp_X1_endOfWritten (sl_up σ (6 + j) 0 ((σ (3 + i) 0) + (1 : Int32))) j) then (sp_X1_endOfWritten (sl_up σ (6 + j) 0 ((σ (3 + i) 0) + (1 : Int32))) j) else ((sl_up σ (6 + j) 0 ((σ (3 + i) 0) + (1 : Int32))) (3 + i) 11))) (3 + i) 5)) gX2_sealAt_X2_withoutLowest rfl rfl rfl (by decide +kernel) ⟨Nat.le_of_ble_eq_true rfl, Nat.le_of_ble_eq_true rfl⟩ rfl hl.1 rfl (Nat.le_of_ble_eq_true rfl) dX2_sealAt_30 ⟨Nat.zero_le _, Nat.zero_le _⟩ hK hN hD hP hS (fun H locs hP hS => ?_)
  refine W.eq (g2 := F0 m 33 ls [.int (sp_X2_withoutLowest ((sl_up (sl_up σ (6 + j) 0 ((σ (3 + i) 0) + (1 : Int32))) (3 + i) 11 (if ((sl_up σ (6 + j) 0 ((σ (3 + i) 0) + (1 : Int32))) (3 + i) 11) < (sp_X1_endOfWritten (sl_up σ (6 + j) 0 ((σ (3 + i) 0) + (1 : Int32))) j) then (sp_X1_endOfWritten (sl_up σ (6 + j) 0 ((σ (3 + i) 0) + (1 : Int32))) j) else ((sl_up σ (6 + j) 0 ((σ (3 + i) 0) + (1 : Int32))) (3 + i) 11))) (3 + i) 5)), .ref (ad (3 + i))]) rfl ?_
  refine sl_putCN hx hb hts hi0 hown hK hD hP hS hi 5 (by decide) rfl (tyX0_ok 5 (by decide)) (hN.f 8 rfl) dX2_sealAt_33 (fun H locs hP hS => ?_)
  refine lv_iconst (v := (0 : Int32)) hx hb dX2_sealAt_36 (by decide) ?_
  have e_q : (sp_X2_sealAt σ i j) = ((0 : Int32), (sl_up (sl_up (sl_up σ (6 + j) 0 ((σ (3 + i) 0) + (1 : Int32))) (3 + i) 11 (if ((sl_up σ (6 + j) 0 ((σ (3 + i) 0) + (1 : Int32))) (3 + i) 11) < (sp_X1_endOfWritten (sl_up σ (6 + j) 0 ((σ (3 + i) 0) + (1 : Int32))) j) then (sp_X1_endOfWritten (sl_up σ (6 + j) 0 ((σ (3 + i) 0) + (1 : Int32))) j) else ((sl_up σ (6 + j) 0 ((σ (3 + i) 0) + (1 : Int32))) (3 + i) 11))) (3 + i) 5 (sp_X2_withoutLowest ((sl_up (sl_up σ (6 + j) 0 ((σ (3 + i) 0) + (1 : Int32))) (3 + i) 11 (if ((sl_up σ (6 + j) 0 ((σ (3 + i) 0) + (1 : Int32))) (3 + i) 11) < (sp_X1_endOfWritten (sl_up σ (6 + j) 0 ((σ (3 + i) 0) + (1 : Int32))) j) then (sp_X1_endOfWritten (sl_up σ (6 + j) 0 ((σ (3 + i) 0) + (1 : Int32))) j) else ((sl_up σ (6 + j) 0 ((σ (3 + i) 0) + (1 : Int32))) (3 + i) 11))) (3 + i) 5)))) := by rw [sp_X2_sealAt]
  exact sl_iret hx hb hr hlocks hP hS (by rw [e_q]) (by rw [e_q]) rfl dX2_sealAt_37
def sp_X2_stepAtUnit (σ : sl_M) (i : Nat) (j : Nat) : Int32 × sl_M := 
  if (σ (3 + i) 2) = (1 : Int32) then (((sp_X2_appendAt σ i j).1), (sp_X2_appendAt σ i j).2)
  else if (σ (3 + i) 2) = (2 : Int32) then (((sp_X2_fillAt σ i j).1), (sp_X2_fillAt σ i j).2)
  else if (σ (3 + i) 2) = (3 : Int32) then (((sp_X2_readAt σ i j).1), (sp_X2_readAt σ i j).2)
  else if (σ (3 + i) 2) = (4 : Int32) then (((sp_X2_replayAt σ i j).1), (sp_X2_replayAt σ i j).2)
  else (((sp_X2_sealAt σ i j).1), (sp_X2_sealAt σ i j).2)
set_option maxHeartbeats 4000000 in
set_option maxRecDepth 100000 in
theorem c_X2_stepAtUnit (l : Launch) (G : va_G) (cy : Nat → ClassId) (ad : Nat → Nat) (σ τ : sl_M) (i : Nat) (hi : i < 3) (j : Nat) (hj : j < 6) : sl_C l G cy ad yX2_stepAtUnit wsX2_stepAtUnit ({ frames := 3, cells := 0, slots := 0, locals := 65 }) [.ref (ad (3 + i)), .ref (ad (6 + j))] σ τ (some (.int (sp_X2_stepAtUnit σ i j).1)) (sp_X2_stepAtUnit σ i j).2 τ := by
  refine sl_of (cc := cX2_stepAtUnit) (maxL := 2) (ret := (some .int)) (by decide) rfl (Nat.le_of_ble_eq_true rfl) ?_
  intro p e s m below meth c hx hb hr hml hts hown hlocks hK hN hD hP hS ls hl
  have hown : s.vm.findClass RX2 = some m.cls := hown
  have hl : lv_has ls 2 [(0, .ref (ad (3 + i))), (1, .ref (ad (6 + j)))] := hl
  have hi0 : ∀ w ∈ wsX00, w ∈ wsX2_stepAtUnit := fun _ h => (List.mem_cons_of_mem _ (List.mem_append_left _ (List.mem_append_right _ h)))
  refine lv_aload_n hx hb dX2_stepAtUnit_0 rfl (lv_at hl 0 rfl) ?_
  refine va_getN (D := G) (ci := 0) (v := .int (σ (3 + i) 2)) (C := RX0) (T := TX0) (N := 12) hx hb hts hi0 hown hK hP (3 + i) (sl_aC hi) rfl 2 (by decide) (hN.f 0 rfl) (fun _ h9 => h9) rfl dX2_stepAtUnit_1 ?_
  by_cases c_1 : (σ (3 + i) 2) = (1 : Int32)
  · refine lv_tableIn (off := 32) (tgt := 36) hx hb dX2_stepAtUnit_4 (by rw [c_1]; decide) (by rw [c_1]; decide) (by rw [c_1]; decide) (by decide) ?_
    refine lv_aload_n hx hb dX2_stepAtUnit_36 rfl (lv_at hl 0 rfl) ?_
    refine lv_aload_n hx hb dX2_stepAtUnit_37 rfl (lv_at hl 1 rfl) ?_
    refine sl_cS (n := 2) (As := [.ref (ad (3 + i)), .ref (ad (6 + j))]) (rest := []) ⟨hx, hb, hml, hown, hts⟩ (c_X2_appendAt l G cy ad σ τ i hi j hj) gX2_stepAtUnit_X2_appendAt rfl rfl rfl (by decide +kernel) ⟨Nat.le_of_ble_eq_true rfl, Nat.le_of_ble_eq_true rfl⟩ rfl hl.1 rfl (Nat.le_of_ble_eq_true rfl) dX2_stepAtUnit_38 ⟨Nat.zero_le _, Nat.zero_le _⟩ hK hN hD hP hS (fun H locs hP hS => ?_)
    refine W.eq (g2 := F0 m 41 ls [.int ((sp_X2_appendAt σ i j).1)]) rfl ?_
    have e_q : (sp_X2_stepAtUnit σ i j) = (((sp_X2_appendAt σ i j).1), (sp_X2_appendAt σ i j).2) := by rw [sp_X2_stepAtUnit, if_pos c_1]
    exact sl_iret hx hb hr hlocks hP hS (by rw [e_q]) (by rw [e_q]) rfl dX2_stepAtUnit_41
  · by_cases c_2 : (σ (3 + i) 2) = (2 : Int32)
    · refine lv_tableIn (off := 38) (tgt := 42) hx hb dX2_stepAtUnit_4 (by rw [c_2]; decide) (by rw [c_2]; decide) (by rw [c_2]; decide) (by decide) ?_
      refine lv_aload_n hx hb dX2_stepAtUnit_42 rfl (lv_at hl 0 rfl) ?_
      refine lv_aload_n hx hb dX2_stepAtUnit_43 rfl (lv_at hl 1 rfl) ?_
      refine sl_cS (n := 2) (As := [.ref (ad (3 + i)), .ref (ad (6 + j))]) (rest := []) ⟨hx, hb, hml, hown, hts⟩ (c_X2_fillAt l G cy ad σ τ i hi j hj) gX2_stepAtUnit_X2_fillAt rfl rfl rfl (by decide +kernel) ⟨Nat.le_of_ble_eq_true rfl, Nat.le_of_ble_eq_true rfl⟩ rfl hl.1 rfl (Nat.le_of_ble_eq_true rfl) dX2_stepAtUnit_44 ⟨Nat.zero_le _, Nat.zero_le _⟩ hK hN hD hP hS (fun H locs hP hS => ?_)
      refine W.eq (g2 := F0 m 47 ls [.int ((sp_X2_fillAt σ i j).1)]) rfl ?_
      have e_q : (sp_X2_stepAtUnit σ i j) = (((sp_X2_fillAt σ i j).1), (sp_X2_fillAt σ i j).2) := by rw [sp_X2_stepAtUnit, if_neg c_1, if_pos c_2]
      exact sl_iret hx hb hr hlocks hP hS (by rw [e_q]) (by rw [e_q]) rfl dX2_stepAtUnit_47
    · by_cases c_3 : (σ (3 + i) 2) = (3 : Int32)
      · refine lv_tableIn (off := 44) (tgt := 48) hx hb dX2_stepAtUnit_4 (by rw [c_3]; decide) (by rw [c_3]; decide) (by rw [c_3]; decide) (by decide) ?_
        refine lv_aload_n hx hb dX2_stepAtUnit_48 rfl (lv_at hl 0 rfl) ?_
        refine lv_aload_n hx hb dX2_stepAtUnit_49 rfl (lv_at hl 1 rfl) ?_
        refine sl_cS (n := 2) (As := [.ref (ad (3 + i)), .ref (ad (6 + j))]) (rest := []) ⟨hx, hb, hml, hown, hts⟩ (c_X2_readAt l G cy ad σ τ i hi j hj) gX2_stepAtUnit_X2_readAt rfl rfl rfl (by decide +kernel) ⟨Nat.le_of_ble_eq_true rfl, Nat.le_of_ble_eq_true rfl⟩ rfl hl.1 rfl (Nat.le_of_ble_eq_true rfl) dX2_stepAtUnit_50 ⟨Nat.zero_le _, Nat.zero_le _⟩ hK hN hD hP hS (fun H locs hP hS => ?_)
        refine W.eq (g2 := F0 m 53 ls [.int ((sp_X2_readAt σ i j).1)]) rfl ?_
        have e_q : (sp_X2_stepAtUnit σ i j) = (((sp_X2_readAt σ i j).1), (sp_X2_readAt σ i j).2) := by rw [sp_X2_stepAtUnit, if_neg c_1, if_neg c_2, if_pos c_3]
        exact sl_iret hx hb hr hlocks hP hS (by rw [e_q]) (by rw [e_q]) rfl dX2_stepAtUnit_53
      · by_cases c_4 : (σ (3 + i) 2) = (4 : Int32)
        · refine lv_tableIn (off := 50) (tgt := 54) hx hb dX2_stepAtUnit_4 (by rw [c_4]; decide) (by rw [c_4]; decide) (by rw [c_4]; decide) (by decide) ?_
          refine lv_aload_n hx hb dX2_stepAtUnit_54 rfl (lv_at hl 0 rfl) ?_
          refine lv_aload_n hx hb dX2_stepAtUnit_55 rfl (lv_at hl 1 rfl) ?_
          refine sl_cS (n := 2) (As := [.ref (ad (3 + i)), .ref (ad (6 + j))]) (rest := []) ⟨hx, hb, hml, hown, hts⟩ (c_X2_replayAt l G cy ad σ τ i hi j hj) gX2_stepAtUnit_X2_replayAt rfl rfl rfl (by decide +kernel) ⟨Nat.le_of_ble_eq_true rfl, Nat.le_of_ble_eq_true rfl⟩ rfl hl.1 rfl (Nat.le_of_ble_eq_true rfl) dX2_stepAtUnit_56 ⟨Nat.zero_le _, Nat.zero_le _⟩ hK hN hD hP hS (fun H locs hP hS => ?_)
          refine W.eq (g2 := F0 m 59 ls [.int ((sp_X2_replayAt σ i j).1)]) rfl ?_
          have e_q : (sp_X2_stepAtUnit σ i j) = (((sp_X2_replayAt σ i j).1), (sp_X2_replayAt σ i j).2) := by rw [sp_X2_stepAtUnit, if_neg c_1, if_neg c_2, if_neg c_3, if_pos c_4]
          exact sl_iret hx hb hr hlocks hP hS (by rw [e_q]) (by rw [e_q]) rfl dX2_stepAtUnit_59
        · refine lv_tableOut (tgt := 60) hx hb dX2_stepAtUnit_4 (by have h1 := lv_neT (a := 1) c_1 rfl; have h2 := lv_neT (a := 2) c_2 rfl; have h3 := lv_neT (a := 3) c_3 rfl; have h4 := lv_neT (a := 4) c_4 rfl; omega) (by decide) ?_
          refine lv_aload_n hx hb dX2_stepAtUnit_60 rfl (lv_at hl 0 rfl) ?_
          refine lv_aload_n hx hb dX2_stepAtUnit_61 rfl (lv_at hl 1 rfl) ?_
          refine sl_cS (n := 2) (As := [.ref (ad (3 + i)), .ref (ad (6 + j))]) (rest := []) ⟨hx, hb, hml, hown, hts⟩ (c_X2_sealAt l G cy ad σ τ i hi j hj) gX2_stepAtUnit_X2_sealAt rfl rfl rfl (by decide +kernel) ⟨Nat.le_of_ble_eq_true rfl, Nat.le_of_ble_eq_true rfl⟩ rfl hl.1 rfl (Nat.le_of_ble_eq_true rfl) dX2_stepAtUnit_62 ⟨Nat.zero_le _, Nat.zero_le _⟩ hK hN hD hP hS (fun H locs hP hS => ?_)
          refine W.eq (g2 := F0 m 65 ls [.int ((sp_X2_sealAt σ i j).1)]) rfl ?_
          have e_q : (sp_X2_stepAtUnit σ i j) = (((sp_X2_sealAt σ i j).1), (sp_X2_sealAt σ i j).2) := by rw [sp_X2_stepAtUnit, if_neg c_1, if_neg c_2, if_neg c_3, if_neg c_4]
          exact sl_iret hx hb hr hlocks hP hS (by rw [e_q]) (by rw [e_q]) rfl dX2_stepAtUnit_65
