def sp_X1_contentAt (σ : sl_M) (j : Nat) (a : Int32) : Int32 := 
  if (sp_X2_isPosition a) = 0 then (-9 : Int32)
  else ((σ (6 + j + 6) a.toNatClampNeg))
set_option maxHeartbeats 4000000 in
set_option maxRecDepth 100000 in
theorem c_X1_contentAt (l : Launch) (G : va_G) (cy : Nat → ClassId) (ad : Nat → Nat) (σ τ : sl_M) (j : Nat) (hj : j < 6) (a : Int32) : sl_C l G cy ad yX1_contentAt wsX1_contentAt ({ frames := 1, cells := 0, slots := 0, locals := 20 }) [.ref (ad (6 + j)), .int a] σ τ (some (.int (sp_X1_contentAt σ j a))) σ τ := by
  refine sl_of (cc := cX1_contentAt) (maxL := 2) (ret := (some .int)) (by decide) rfl (Nat.le_of_ble_eq_true rfl) ?_
  intro p e s m below meth c hx hb hr hml hts hown hlocks hK hN hD hP hS ls hl
  have hown : s.vm.findClass RX1 = some m.cls := hown
  have hl : lv_has ls 2 [(0, .ref (ad (6 + j))), (1, .int a)] := hl
  have hi1 : ∀ w ∈ wsX10, w ∈ wsX1_contentAt := fun _ h => (List.mem_cons_of_mem _ (List.mem_append_right _ h))
  refine lv_iload_n hx hb dX1_contentAt_0 rfl (lv_at hl 1 rfl) ?_
  refine sl_nS (n := 1) (As := [.int a]) (rest := []) ⟨hx, hb, hml, hown, hts⟩ (c_X2_isPosition l G cy ad σ τ a) gX1_contentAt_X2_isPosition_n23 rfl rfl rfl (hN.m 14 rfl) (hts _ mw_X1_contentAt_3) (hts _ mw_X1_contentAt_2) (by decide +kernel) ⟨Nat.le_of_ble_eq_true rfl, Nat.le_of_ble_eq_true rfl⟩ rfl hl.1 rfl (Nat.le_of_ble_eq_true rfl) dX1_contentAt_1 ⟨Nat.zero_le _, Nat.zero_le _⟩ hK hN hD hP hS (fun H locs hP hS => ?_)
  refine W.eq (g2 := F0 m 4 ls [.int (sp_X2_isPosition a)]) rfl ?_
  refine lv_if_eq (tgt := 16) hx hb dX1_contentAt_4 (by decide) (fun c_1 => ?_) (fun c_1 => ?_)
  · refine lv_bipush (v := (-9 : Int32)) hx hb dX1_contentAt_16 (by decide) ?_
    have e_q : (sp_X1_contentAt σ j a) = (-9 : Int32) := by rw [sp_X1_contentAt, if_pos c_1]
    exact sl_iret hx hb hr hlocks hP hS (by rw [e_q]) rfl rfl dX1_contentAt_18
  · refine lv_aload_n hx hb dX1_contentAt_7 rfl (lv_at hl 0 rfl) ?_
    refine va_get (D := G) (ci := 1) (v := .ref (ad (6 + j + 6))) (C := RX1) (T := TX1) (N := 3) hx hb hts hi1 hown hK hP (6 + j) (sl_aU hj) rfl 2 (by decide) (hts _ mw_X1_contentAt_1) (fun _ h9 => h9) rfl dX1_contentAt_8 ?_
    refine lv_iload_n hx hb dX1_contentAt_11 rfl (lv_at hl 1 rfl) ?_
    refine sl_ldA hx hb hK hP hj (sl_isP c_1) dX1_contentAt_12 ?_
    refine lv_goto (tgt := 18) hx hb dX1_contentAt_13 (by decide) ?_
    have e_q : (sp_X1_contentAt σ j a) = ((σ (6 + j + 6) a.toNatClampNeg)) := by rw [sp_X1_contentAt, if_neg c_1]
    exact sl_iret hx hb hr hlocks hP hS (by rw [e_q]) rfl rfl dX1_contentAt_18
def sp_X1_writeOnce (σ : sl_M) (j : Nat) (a : Int32) (b : Int32) : sl_M := 
  if (sp_X2_isPosition a) = 0 then σ
  else if ((σ (6 + j + 6) a.toNatClampNeg)) = (-2 : Int32) then (sl_up σ (6 + j + 6) a.toNatClampNeg b)
  else σ
set_option maxHeartbeats 4000000 in
set_option maxRecDepth 100000 in
theorem c_X1_writeOnce (l : Launch) (G : va_G) (cy : Nat → ClassId) (ad : Nat → Nat) (σ τ : sl_M) (j : Nat) (hj : j < 6) (a : Int32) (b : Int32) : sl_C l G cy ad yX1_writeOnce wsX1_writeOnce ({ frames := 1, cells := 0, slots := 0, locals := 20 }) [.ref (ad (6 + j)), .int a, .int b] σ τ none (sp_X1_writeOnce σ j a b) τ := by
  refine sl_of (cc := cX1_writeOnce) (maxL := 3) (ret := none) (by decide) rfl (Nat.le_of_ble_eq_true rfl) ?_
  intro p e s m below meth c hx hb hr hml hts hown hlocks hK hN hD hP hS ls hl
  have hown : s.vm.findClass RX1 = some m.cls := hown
  have hl : lv_has ls 3 [(0, .ref (ad (6 + j))), (1, .int a), (2, .int b)] := hl
  have hi1 : ∀ w ∈ wsX10, w ∈ wsX1_writeOnce := fun _ h => (List.mem_cons_of_mem _ (List.mem_append_right _ h))
  refine lv_iload_n hx hb dX1_writeOnce_0 rfl (lv_at hl 1 rfl) ?_
  refine sl_nS (n := 1) (As := [.int a]) (rest := []) ⟨hx, hb, hml, hown, hts⟩ (c_X2_isPosition l G cy ad σ τ a) gX1_writeOnce_X2_isPosition_n23 rfl rfl rfl (hN.m 14 rfl) (hts _ mw_X1_writeOnce_3) (hts _ mw_X1_writeOnce_2) (by decide +kernel) ⟨Nat.le_of_ble_eq_true rfl, Nat.le_of_ble_eq_true rfl⟩ rfl hl.1 rfl (Nat.le_of_ble_eq_true rfl) dX1_writeOnce_1 ⟨Nat.zero_le _, Nat.zero_le _⟩ hK hN hD hP hS (fun H locs hP hS => ?_)
  refine W.eq (g2 := F0 m 4 ls [.int (sp_X2_isPosition a)]) rfl ?_
  refine lv_if_eq (tgt := 25) hx hb dX1_writeOnce_4 (by decide) (fun c_1 => ?_) (fun c_1 => ?_)
  · have e_q : (sp_X1_writeOnce σ j a b) = σ := by rw [sp_X1_writeOnce, if_pos c_1]
    exact sl_vret hx hb hr hlocks hP hS rfl (by rw [e_q]) rfl dX1_writeOnce_25
  · refine lv_aload_n hx hb dX1_writeOnce_7 rfl (lv_at hl 0 rfl) ?_
    refine va_get (D := G) (ci := 1) (v := .ref (ad (6 + j + 6))) (C := RX1) (T := TX1) (N := 3) hx hb hts hi1 hown hK hP (6 + j) (sl_aU hj) rfl 2 (by decide) (hts _ mw_X1_writeOnce_1) (fun _ h9 => h9) rfl dX1_writeOnce_8 ?_
    refine lv_iload_n hx hb dX1_writeOnce_11 rfl (lv_at hl 1 rfl) ?_
    refine sl_ldA hx hb hK hP hj (sl_isP c_1) dX1_writeOnce_12 ?_
    refine lv_bipush (v := (-2 : Int32)) hx hb dX1_writeOnce_13 (by decide) ?_
    refine lv_icmp_ne (tgt := 25) hx hb dX1_writeOnce_15 (by decide) (fun c_2 => ?_) (fun c_2 => ?_)
    · have e_q : (sp_X1_writeOnce σ j a b) = σ := by rw [sp_X1_writeOnce, if_neg c_1, if_neg c_2]
      exact sl_vret hx hb hr hlocks hP hS rfl (by rw [e_q]) rfl dX1_writeOnce_25
    · refine lv_aload_n hx hb dX1_writeOnce_18 rfl (lv_at hl 0 rfl) ?_
      refine va_get (D := G) (ci := 1) (v := .ref (ad (6 + j + 6))) (C := RX1) (T := TX1) (N := 3) hx hb hts hi1 hown hK hP (6 + j) (sl_aU hj) rfl 2 (by decide) (hts _ mw_X1_writeOnce_1) (fun _ h9 => h9) rfl dX1_writeOnce_19 ?_
      refine lv_iload_n hx hb dX1_writeOnce_22 rfl (lv_at hl 1 rfl) ?_
      refine lv_iload_n hx hb dX1_writeOnce_23 rfl (lv_at hl 2 rfl) ?_
      refine sl_stA hx hb hK hD hP hS hj (sl_isP c_1) dX1_writeOnce_24 (fun H locs hP hS => ?_)
      have e_q : (sp_X1_writeOnce σ j a b) = (sl_up σ (6 + j + 6) a.toNatClampNeg b) := by rw [sp_X1_writeOnce, if_neg c_1, if_pos c_2]
      exact sl_vret hx hb hr hlocks hP hS rfl (by rw [e_q]) rfl dX1_writeOnce_25
def sp_X1_endOfWritten_3 (σ : sl_M) (j : Nat) : Nat → Int32 → Int32
  | 0, _ => 0
  | n + 1, v => 
    if v < 0 then (0 : Int32)
    else if ((σ (6 + j + 6) v.toNatClampNeg)) = (-2 : Int32) then (sp_X1_endOfWritten_3 σ j n (v + (-1 : Int32)))
    else (v + (1 : Int32))

def sp_X1_endOfWritten (σ : sl_M) (j : Nat) : Int32 := (sp_X1_endOfWritten_3 σ j 33 (31 : Int32))
set_option maxHeartbeats 4000000 in
set_option maxRecDepth 100000 in
theorem c_X1_endOfWritten (l : Launch) (G : va_G) (cy : Nat → ClassId) (ad : Nat → Nat) (σ τ : sl_M) (j : Nat) (hj : j < 6) : sl_C l G cy ad yX1_endOfWritten wsX1_endOfWritten ({ frames := 0, cells := 0, slots := 0, locals := 0 }) [.ref (ad (6 + j))] σ τ (some (.int (sp_X1_endOfWritten σ j))) σ τ := by
  refine sl_of (cc := cX1_endOfWritten) (maxL := 2) (ret := (some .int)) (by decide) rfl (Nat.le_of_ble_eq_true rfl) ?_
  intro p e s m below meth c hx hb hr hml hts hown hlocks hK hN hD hP hS ls hl
  have hown : s.vm.findClass RX1 = some m.cls := hown
  have hl : lv_has ls 2 [(0, .ref (ad (6 + j)))] := hl
  have hi1 : ∀ w ∈ wsX10, w ∈ wsX1_endOfWritten := fun _ h => (List.mem_cons_of_mem _ (List.mem_append_right _ h))
  have K3 : ∀ (n : Nat) (v : Int32) (H : Heap) (locs : List Loc) (ls : Array Slot), v.toInt + 1 < (n : Int) → v.toInt ≤ 31 → -1 ≤ v.toInt → va_P G vwCl (sl_wd cy ad σ τ) H → va_S (sl_A ad s.heap.size) s.heap H locs → lv_has ls 2 [(1, .int v), (0, .ref (ad (6 + j)))] → (sp_X1_endOfWritten σ j) = (sp_X1_endOfWritten_3 σ j n v) → W p l e ({ frames := 0, cells := 0, slots := 0, locals := 0 }) s m ([.ref (ad (6 + j))] : List Value).toArray below meth c H locs 0 0 (sl_Z G cy ad (some (.int (sp_X1_endOfWritten σ j))) σ τ [.ref (ad (6 + j))] below s) (F0 m 3 ls []) := by
    intro n
    induction n with
    | zero =>
      intro v H locs ls h1 h2 h3 hP hS hl e_q0
      exact absurd h1 (by omega)
    | succ n ih =>
      intro v H locs ls h1 h2 h3 hP hS hl e_q0
      refine lv_iload_n hx hb dX1_endOfWritten_3 rfl (lv_at hl 0 rfl) ?_
      refine lv_if_lt (tgt := 28) hx hb dX1_endOfWritten_4 (by decide) (fun c_1 => ?_) (fun c_1 => ?_)
      · refine lv_iconst (v := (0 : Int32)) hx hb dX1_endOfWritten_28 (by decide) ?_
        have e_q : (sp_X1_endOfWritten σ j) = (0 : Int32) := by rw [e_q0, sp_X1_endOfWritten_3, if_pos c_1]
        exact sl_iret hx hb hr hlocks hP hS (by rw [e_q]) rfl rfl dX1_endOfWritten_29
      · refine lv_aload_n hx hb dX1_endOfWritten_7 rfl (lv_at hl 1 rfl) ?_
        refine va_get (D := G) (ci := 1) (v := .ref (ad (6 + j + 6))) (C := RX1) (T := TX1) (N := 3) hx hb hts hi1 hown hK hP (6 + j) (sl_aU hj) rfl 2 (by decide) (hts _ mw_X1_endOfWritten_1) (fun _ h9 => h9) rfl dX1_endOfWritten_8 ?_
        refine lv_iload_n hx hb dX1_endOfWritten_11 rfl (lv_at hl 0 rfl) ?_
        refine sl_ldA hx hb hK hP hj (sl_in2 c_1 (by omega)) dX1_endOfWritten_12 ?_
        refine lv_bipush (v := (-2 : Int32)) hx hb dX1_endOfWritten_13 (by decide) ?_
        refine lv_icmp_eq (tgt := 22) hx hb dX1_endOfWritten_15 (by decide) (fun c_2 => ?_) (fun c_2 => ?_)
        · refine lv_iinc (v := (v + (-1 : Int32))) (lv' := [(1, .int (v + (-1 : Int32))), (0, .ref (ad (6 + j)))]) hx hb dX1_endOfWritten_22 hl (k := 0) rfl rfl (by decide) rfl (fun ls hl => ?_)
          refine lv_goto (tgt := 3) hx hb dX1_endOfWritten_25 (by decide) ?_
          exact ih (v + (-1 : Int32)) _ _ ls (by rw [sl_dec c_1]; omega) (by rw [sl_dec c_1]; omega) (by rw [sl_dec c_1]; have := Int32.le_iff_toInt_le.mp (Int32.not_lt.mp c_1); have a3 : (0 : Int32).toInt = 0 := rfl; omega) hP hS (lv_sub hl [0, 1] rfl) (by rw [e_q0, sp_X1_endOfWritten_3, if_neg c_1, if_pos c_2])
        · refine lv_iload_n hx hb dX1_endOfWritten_18 rfl (lv_at hl 0 rfl) ?_
          refine lv_iconst (v := (1 : Int32)) hx hb dX1_endOfWritten_19 (by decide) ?_
          refine lv_iadd hx hb dX1_endOfWritten_20 ?_
          have e_q : (sp_X1_endOfWritten σ j) = (v + (1 : Int32)) := by rw [e_q0, sp_X1_endOfWritten_3, if_neg c_1, if_neg c_2]
          exact sl_iret hx hb hr hlocks hP hS (by rw [e_q]) rfl rfl dX1_endOfWritten_21
  refine lv_bipush (v := (31 : Int32)) hx hb dX1_endOfWritten_0 (by decide) ?_
  refine lv_istore_n (lv' := [(1, .int (31 : Int32)), (0, .ref (ad (6 + j)))]) hx hb dX1_endOfWritten_2 rfl hl (by decide) rfl (fun ls hl => ?_)
  exact K3 33 (31 : Int32) _ _ ls (by decide) (by decide) (by decide) hP hS (lv_sub hl [0, 1] rfl) (by rw [sp_X1_endOfWritten])
set_option maxHeartbeats 4000000 in
set_option maxRecDepth 100000 in
theorem c_X2_clientAt_in (l : Launch) (G : va_G) (cy : Nat → ClassId) (ad : Nat → Nat) (σ τ : sl_M) (a : Int32) (ha : vp_in a 3) : sl_C l G cy ad yX2_clientAt wsX2_clientAt ({ frames := 0, cells := 0, slots := 0, locals := 0 }) [.ref (ad (0)), .int a] σ τ (some (.ref (ad (3 + a.toNatClampNeg)))) σ τ := by
  refine sl_of (cc := cX2_clientAt) (maxL := 2) (ret := (some (.object "SharedLog$Client"))) (by decide) rfl (Nat.le_of_ble_eq_true rfl) ?_
  intro p e s m below meth c hx hb hr hml hts hown hlocks hK hN hD hP hS ls hl
  have hown : s.vm.findClass RX2 = some m.cls := hown
  have hl : lv_has ls 2 [(0, .ref (ad (0))), (1, .int a)] := hl
  have hi2 : ∀ w ∈ wsX20, w ∈ wsX2_clientAt := fun _ h => (List.mem_cons_of_mem _ (List.mem_append_right _ h))
  refine lv_iload_n hx hb dX2_clientAt_0 rfl (lv_at hl 1 rfl) ?_
  refine lv_if_lt (tgt := 18) hx hb dX2_clientAt_1 (by decide) (fun h9 => absurd h9 (sl_i0 ha)) (fun _ => ?_)
  refine lv_iload_n hx hb dX2_clientAt_4 rfl (lv_at hl 1 rfl) ?_
  refine lv_iconst (v := (3 : Int32)) hx hb dX2_clientAt_5 (by decide) ?_
  refine lv_icmp_ge (tgt := 18) hx hb dX2_clientAt_6 (by decide) (fun h9 => absurd h9 (sl_iB ha rfl)) (fun _ => ?_)
  refine lv_aload_n hx hb dX2_clientAt_9 rfl (lv_at hl 0 rfl) ?_
  refine va_get (D := G) (ci := 2) (v := .ref (ad (2))) (C := RX2) (T := TX2) (N := 6) hx hb hts hi2 hown hK hP 0 sl_aL rfl 1 (by decide) (hts _ mw_X2_clientAt_1) (fun _ h9 => h9) rfl dX2_clientAt_10 ?_
  refine lv_iload_n hx hb dX2_clientAt_13 rfl (lv_at hl 1 rfl) ?_
  refine sl_ldC hx hb hK hP ha dX2_clientAt_14 ?_
  refine lv_goto (tgt := 19) hx hb dX2_clientAt_15 (by decide) ?_
  exact sl_aret hx hb hr hlocks (Or.inr ⟨_, rfl⟩) hP hS rfl rfl rfl dX2_clientAt_19
set_option maxHeartbeats 4000000 in
set_option maxRecDepth 100000 in
theorem c_X2_clientAt_neg (l : Launch) (G : va_G) (cy : Nat → ClassId) (ad : Nat → Nat) (σ τ : sl_M) (a : Int32) (ha : a < 0) : sl_C l G cy ad yX2_clientAt wsX2_clientAt ({ frames := 0, cells := 0, slots := 0, locals := 0 }) [.ref (ad (0)), .int a] σ τ (some .null) σ τ := by
  refine sl_of (cc := cX2_clientAt) (maxL := 2) (ret := (some (.object "SharedLog$Client"))) (by decide) rfl (Nat.le_of_ble_eq_true rfl) ?_
  intro p e s m below meth c hx hb hr hml hts hown hlocks hK hN hD hP hS ls hl
  have hown : s.vm.findClass RX2 = some m.cls := hown
  have hl : lv_has ls 2 [(0, .ref (ad (0))), (1, .int a)] := hl
  refine lv_iload_n hx hb dX2_clientAt_0 rfl (lv_at hl 1 rfl) ?_
  refine lv_if_lt (tgt := 18) hx hb dX2_clientAt_1 (by decide) (fun _ => ?_) (fun h9 => absurd ha h9)
  refine lv_null hx hb dX2_clientAt_18 ?_
  exact sl_aret hx hb hr hlocks (Or.inl rfl) hP hS rfl rfl rfl dX2_clientAt_19
set_option maxHeartbeats 4000000 in
set_option maxRecDepth 100000 in
theorem c_X2_clientAt_big (l : Launch) (G : va_G) (cy : Nat → ClassId) (ad : Nat → Nat) (σ τ : sl_M) (a : Int32) (ha : ¬ a < 0) (hb1 : (3 : Int32) ≤ a) : sl_C l G cy ad yX2_clientAt wsX2_clientAt ({ frames := 0, cells := 0, slots := 0, locals := 0 }) [.ref (ad (0)), .int a] σ τ (some .null) σ τ := by
  refine sl_of (cc := cX2_clientAt) (maxL := 2) (ret := (some (.object "SharedLog$Client"))) (by decide) rfl (Nat.le_of_ble_eq_true rfl) ?_
  intro p e s m below meth c hx hb hr hml hts hown hlocks hK hN hD hP hS ls hl
  have hown : s.vm.findClass RX2 = some m.cls := hown
  have hl : lv_has ls 2 [(0, .ref (ad (0))), (1, .int a)] := hl
  refine lv_iload_n hx hb dX2_clientAt_0 rfl (lv_at hl 1 rfl) ?_
  refine lv_if_lt (tgt := 18) hx hb dX2_clientAt_1 (by decide) (fun h9 => absurd h9 ha) (fun _ => ?_)
  refine lv_iload_n hx hb dX2_clientAt_4 rfl (lv_at hl 1 rfl) ?_
  refine lv_iconst (v := (3 : Int32)) hx hb dX2_clientAt_5 (by decide) ?_
  refine lv_icmp_ge (tgt := 18) hx hb dX2_clientAt_6 (by decide) (fun _ => ?_) (fun h9 => absurd hb1 h9)
  refine lv_null hx hb dX2_clientAt_18 ?_
  exact sl_aret hx hb hr hlocks (Or.inl rfl) hP hS rfl rfl rfl dX2_clientAt_19
set_option maxHeartbeats 4000000 in
set_option maxRecDepth 100000 in
theorem c_X2_unitAt_in (l : Launch) (G : va_G) (cy : Nat → ClassId) (ad : Nat → Nat) (σ τ : sl_M) (a : Int32) (ha : vp_in a 6) : sl_C l G cy ad yX2_unitAt wsX2_unitAt ({ frames := 0, cells := 0, slots := 0, locals := 0 }) [.ref (ad (0)), .int a] σ τ (some (.ref (ad (6 + a.toNatClampNeg)))) σ τ := by
  refine sl_of (cc := cX2_unitAt) (maxL := 2) (ret := (some (.object "SharedLog$Unit"))) (by decide) rfl (Nat.le_of_ble_eq_true rfl) ?_
  intro p e s m below meth c hx hb hr hml hts hown hlocks hK hN hD hP hS ls hl
  have hown : s.vm.findClass RX2 = some m.cls := hown
  have hl : lv_has ls 2 [(0, .ref (ad (0))), (1, .int a)] := hl
  have hi2 : ∀ w ∈ wsX20, w ∈ wsX2_unitAt := fun _ h => (List.mem_cons_of_mem _ (List.mem_append_right _ h))
  refine lv_iload_n hx hb dX2_unitAt_0 rfl (lv_at hl 1 rfl) ?_
  refine lv_if_lt (tgt := 19) hx hb dX2_unitAt_1 (by decide) (fun h9 => absurd h9 (sl_i0 ha)) (fun _ => ?_)
  refine lv_iload_n hx hb dX2_unitAt_4 rfl (lv_at hl 1 rfl) ?_
  refine lv_bipush (v := (6 : Int32)) hx hb dX2_unitAt_5 (by decide) ?_
  refine lv_icmp_ge (tgt := 19) hx hb dX2_unitAt_7 (by decide) (fun h9 => absurd h9 (sl_iB ha rfl)) (fun _ => ?_)
  refine lv_aload_n hx hb dX2_unitAt_10 rfl (lv_at hl 0 rfl) ?_
  refine va_get (D := G) (ci := 2) (v := .ref (ad (1))) (C := RX2) (T := TX2) (N := 6) hx hb hts hi2 hown hK hP 0 sl_aL rfl 0 (by decide) (hts _ mw_X2_unitAt_1) (fun _ h9 => h9) rfl dX2_unitAt_11 ?_
  refine lv_iload_n hx hb dX2_unitAt_14 rfl (lv_at hl 1 rfl) ?_
  refine sl_ldU hx hb hK hP ha dX2_unitAt_15 ?_
  refine lv_goto (tgt := 20) hx hb dX2_unitAt_16 (by decide) ?_
  exact sl_aret hx hb hr hlocks (Or.inr ⟨_, rfl⟩) hP hS rfl rfl rfl dX2_unitAt_20
set_option maxHeartbeats 4000000 in
set_option maxRecDepth 100000 in
theorem c_X2_unitAt_neg (l : Launch) (G : va_G) (cy : Nat → ClassId) (ad : Nat → Nat) (σ τ : sl_M) (a : Int32) (ha : a < 0) : sl_C l G cy ad yX2_unitAt wsX2_unitAt ({ frames := 0, cells := 0, slots := 0, locals := 0 }) [.ref (ad (0)), .int a] σ τ (some .null) σ τ := by
  refine sl_of (cc := cX2_unitAt) (maxL := 2) (ret := (some (.object "SharedLog$Unit"))) (by decide) rfl (Nat.le_of_ble_eq_true rfl) ?_
  intro p e s m below meth c hx hb hr hml hts hown hlocks hK hN hD hP hS ls hl
  have hown : s.vm.findClass RX2 = some m.cls := hown
  have hl : lv_has ls 2 [(0, .ref (ad (0))), (1, .int a)] := hl
  refine lv_iload_n hx hb dX2_unitAt_0 rfl (lv_at hl 1 rfl) ?_
  refine lv_if_lt (tgt := 19) hx hb dX2_unitAt_1 (by decide) (fun _ => ?_) (fun h9 => absurd ha h9)
  refine lv_null hx hb dX2_unitAt_19 ?_
  exact sl_aret hx hb hr hlocks (Or.inl rfl) hP hS rfl rfl rfl dX2_unitAt_20
set_option maxHeartbeats 4000000 in
set_option maxRecDepth 100000 in
theorem c_X2_unitAt_big (l : Launch) (G : va_G) (cy : Nat → ClassId) (ad : Nat → Nat) (σ τ : sl_M) (a : Int32) (ha : ¬ a < 0) (hb1 : (6 : Int32) ≤ a) : sl_C l G cy ad yX2_unitAt wsX2_unitAt ({ frames := 0, cells := 0, slots := 0, locals := 0 }) [.ref (ad (0)), .int a] σ τ (some .null) σ τ := by
  refine sl_of (cc := cX2_unitAt) (maxL := 2) (ret := (some (.object "SharedLog$Unit"))) (by decide) rfl (Nat.le_of_ble_eq_true rfl) ?_
  intro p e s m below meth c hx hb hr hml hts hown hlocks hK hN hD hP hS ls hl
  have hown : s.vm.findClass RX2 = some m.cls := hown
  have hl : lv_has ls 2 [(0, .ref (ad (0))), (1, .int a)] := hl
  refine lv_iload_n hx hb dX2_unitAt_0 rfl (lv_at hl 1 rfl) ?_
  refine lv_if_lt (tgt := 19) hx hb dX2_unitAt_1 (by decide) (fun h9 => absurd h9 ha) (fun _ => ?_)
  refine lv_iload_n hx hb dX2_unitAt_4 rfl (lv_at hl 1 rfl) ?_
  refine lv_bipush (v := (6 : Int32)) hx hb dX2_unitAt_5 (by decide) ?_
  refine lv_icmp_ge (tgt := 19) hx hb dX2_unitAt_7 (by decide) (fun _ => ?_) (fun h9 => absurd hb1 h9)
  refine lv_null hx hb dX2_unitAt_19 ?_
  exact sl_aret hx hb hr hlocks (Or.inl rfl) hP hS rfl rfl rfl dX2_unitAt_20
theorem c_X2_clientAt_out (l : Launch) (G : va_G) (cy : Nat → ClassId) (ad : Nat → Nat) (σ τ : sl_M) (a : Int32) (ha : ¬ vp_in a 3) : sl_C l G cy ad yX2_clientAt wsX2_clientAt ({ frames := 0, cells := 0, slots := 0, locals := 0 }) [.ref (ad (0)), .int a] σ τ (some .null) σ τ := by
  by_cases h : a < 0
  · exact c_X2_clientAt_neg l G cy ad σ τ a h
  · exact c_X2_clientAt_big l G cy ad σ τ a h (sl_big ha h rfl)
theorem c_X2_unitAt_out (l : Launch) (G : va_G) (cy : Nat → ClassId) (ad : Nat → Nat) (σ τ : sl_M) (a : Int32) (ha : ¬ vp_in a 6) : sl_C l G cy ad yX2_unitAt wsX2_unitAt ({ frames := 0, cells := 0, slots := 0, locals := 0 }) [.ref (ad (0)), .int a] σ τ (some .null) σ τ := by
  by_cases h : a < 0
  · exact c_X2_unitAt_neg l G cy ad σ τ a h
  · exact c_X2_unitAt_big l G cy ad σ τ a h (sl_big ha h rfl)

