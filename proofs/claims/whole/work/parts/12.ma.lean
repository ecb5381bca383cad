theorem sl_nl {x b : Int32} (h : x ≤ b) : ¬ b < x := Int32.not_lt.mpr h
theorem sl_gt {x b : Int32} (h : ¬ x ≤ b) : b < x := Int32.not_le.mp h
def sp_X3_look_2 (τ : sl_M) (a : Int32) (b : Int32) : Nat → Int32 → Int32
  | 0, _ => (-2 : Int32)
  | n + 1, v => 
    if (τ 18 0) ≤ v then (-2 : Int32)
    else if (τ 19 v.toNatClampNeg) = a then 
      if (τ 20 v.toNatClampNeg) = b then (τ 21 v.toNatClampNeg)
      else (sp_X3_look_2 τ a b n (v + (1 : Int32)))
    else (sp_X3_look_2 τ a b n (v + (1 : Int32)))

def sp_X3_look (τ : sl_M) (a : Int32) (b : Int32) : Int32 := (sp_X3_look_2 τ a b 193 (0 : Int32))
set_option maxHeartbeats 4000000 in
set_option maxRecDepth 100000 in
theorem c_X3_look (l : Launch) (G : va_G) (cy : Nat → ClassId) (ad : Nat → Nat) (σ τ : sl_M) (a : Int32) (b : Int32) (hr0 : 0 ≤ (τ 18 0).toInt) (hr1 : (τ 18 0).toInt ≤ 192) : sl_C l G cy ad yX3_look wsX3_look ({ frames := 0, cells := 0, slots := 0, locals := 0 }) [.ref (ad (18)), .int a, .int b] σ τ (some (.int (sp_X3_look τ a b))) σ τ := by
  refine sl_of (cc := cX3_look) (maxL := 4) (ret := (some .int)) (by decide) rfl (Nat.le_of_ble_eq_true rfl) ?_
  intro p e s m below meth c hx hb hr hml hts hown hlocks hK hN hD hP hS ls hl
  have hown : s.vm.findClass RX3 = some m.cls := hown
  have hl : lv_has ls 4 [(0, .ref (ad (18))), (1, .int a), (2, .int b)] := hl
  have hi3 : ∀ w ∈ wsX30, w ∈ wsX3_look := fun _ h => (List.mem_cons_of_mem _ (List.mem_append_right _ h))
  have K2 : ∀ (n : Nat) (v : Int32) (H : Heap) (locs : List Loc) (ls : Array Slot), (τ 18 0).toInt < v.toInt + (n : Int) → v.toInt ≤ (τ 18 0).toInt → 0 ≤ v.toInt → va_P G vwCl (sl_wd cy ad σ τ) H → va_S (sl_A ad s.heap.size) s.heap H locs → lv_has ls 4 [(3, .int v), (0, .ref (ad (18))), (1, .int a), (2, .int b)] → (sp_X3_look τ a b) = (sp_X3_look_2 τ a b n v) → W p l e ({ frames := 0, cells := 0, slots := 0, locals := 0 }) s m ([.ref (ad (18)), .int a, .int b] : List Value).toArray below meth c H locs 0 0 (sl_Z G cy ad (some (.int (sp_X3_look τ a b))) σ τ [.ref (ad (18)), .int a, .int b] below s) (F0 m 2 ls []) := by
    intro n
    induction n with
    | zero =>
      intro v H locs ls h1 h2 h0 hP hS hl e_q0
      exact absurd h1 (by omega)
    | succ n ih =>
      intro v H locs ls h1 h2 h0 hP hS hl e_q0
      refine lv_iload_n hx hb dX3_look_2 rfl (lv_at hl 0 rfl) ?_
      refine lv_aload_n hx hb dX3_look_3 rfl (lv_at hl 1 rfl) ?_
      refine va_get (D := G) (ci := 3) (v := .int (τ 18 0)) (C := RX3) (T := TX3) (N := 19) hx hb hts hi3 hown hK hP 18 sl_aM rfl 0 (by decide) (hts _ mw_X3_look_1) (fun _ h9 => h9) rfl dX3_look_4 ?_
      refine lv_icmp_ge (tgt := 43) hx hb dX3_look_7 (by decide) (fun c_1 => ?_) (fun c_1 => ?_)
      · refine lv_bipush (v := (-2 : Int32)) hx hb dX3_look_43 (by decide) ?_
        have e_q : (sp_X3_look τ a b) = (-2 : Int32) := by rw [e_q0, sp_X3_look_2, if_pos c_1]
        exact sl_iret hx hb hr hlocks hP hS (by rw [e_q]) rfl rfl dX3_look_45
      · refine lv_aload_n hx hb dX3_look_10 rfl (lv_at hl 1 rfl) ?_
        refine va_get (D := G) (ci := 3) (v := .ref (ad (19))) (C := RX3) (T := TX3) (N := 19) hx hb hts hi3 hown hK hP 18 sl_aM rfl 1 (by decide) (hts _ mw_X3_look_2) (fun _ h9 => h9) rfl dX3_look_11 ?_
        refine lv_iload_n hx hb dX3_look_14 rfl (lv_at hl 0 rfl) ?_
        refine sl_ldR 19 192 hx hb hK hP (by decide) (by decide) rfl (sl_in3 h0 (by have := sl_nle c_1; omega)) dX3_look_15 ?_
        refine lv_iload_n hx hb dX3_look_16 rfl (lv_at hl 2 rfl) ?_
        refine lv_icmp_ne (tgt := 37) hx hb dX3_look_17 (by decide) (fun c_2 => ?_) (fun c_2 => ?_)
        · refine lv_iinc (v := (v + (1 : Int32))) (lv' := [(3, .int (v + (1 : Int32))), (0, .ref (ad (18))), (1, .int a), (2, .int b)]) hx hb dX3_look_37 hl (k := 0) rfl rfl (by decide) rfl (fun ls hl => ?_)
          refine lv_goto (tgt := 2) hx hb dX3_look_40 (by decide) ?_
          exact ih (v + (1 : Int32)) _ _ ls (by rw [sl_inc c_1]; omega) (by rw [sl_inc c_1]; have := sl_nle c_1; omega) (by rw [sl_inc c_1]; omega) hP hS (lv_sub hl [0, 1, 2, 3] rfl) (by rw [e_q0, sp_X3_look_2, if_neg c_1, if_neg c_2])
        · refine lv_aload_n hx hb dX3_look_20 rfl (lv_at hl 1 rfl) ?_
          refine va_get (D := G) (ci := 3) (v := .ref (ad (20))) (C := RX3) (T := TX3) (N := 19) hx hb hts hi3 hown hK hP 18 sl_aM rfl 2 (by decide) (hts _ mw_X3_look_3) (fun _ h9 => h9) rfl dX3_look_21 ?_
          refine lv_iload_n hx hb dX3_look_24 rfl (lv_at hl 0 rfl) ?_
          refine sl_ldR 20 192 hx hb hK hP (by decide) (by decide) rfl (sl_in3 h0 (by have := sl_nle c_1; omega)) dX3_look_25 ?_
          refine lv_iload_n hx hb dX3_look_26 rfl (lv_at hl 3 rfl) ?_
          refine lv_icmp_ne (tgt := 37) hx hb dX3_look_27 (by decide) (fun c_3 => ?_) (fun c_3 => ?_)
          · refine lv_iinc (v := (v + (1 : Int32))) (lv' := [(3, .int (v + (1 : Int32))), (0, .ref (ad (18))), (1, .int a), (2, .int b)]) hx hb dX3_look_37 hl (k := 0) rfl rfl (by decide) rfl (fun ls hl => ?_)
            refine lv_goto (tgt := 2) hx hb dX3_look_40 (by decide) ?_
            exact ih (v + (1 : Int32)) _ _ ls (by rw [sl_inc c_1]; omega) (by rw [sl_inc c_1]; have := sl_nle c_1; omega) (by rw [sl_inc c_1]; omega) hP hS (lv_sub hl [0, 1, 2, 3] rfl) (by rw [e_q0, sp_X3_look_2, if_neg c_1, if_pos c_2, if_neg c_3])
          · refine lv_aload_n hx hb dX3_look_30 rfl (lv_at hl 1 rfl) ?_
            refine va_get (D := G) (ci := 3) (v := .ref (ad (21))) (C := RX3) (T := TX3) (N := 19) hx hb hts hi3 hown hK hP 18 sl_aM rfl 3 (by decide) (hts _ mw_X3_look_4) (fun _ h9 => h9) rfl dX3_look_31 ?_
            refine lv_iload_n hx hb dX3_look_34 rfl (lv_at hl 0 rfl) ?_
            refine sl_ldR 21 192 hx hb hK hP (by decide) (by decide) rfl (sl_in3 h0 (by have := sl_nle c_1; omega)) dX3_look_35 ?_
            have e_q : (sp_X3_look τ a b) = (τ 21 v.toNatClampNeg) := by rw [e_q0, sp_X3_look_2, if_neg c_1, if_pos c_2, if_pos c_3]
            exact sl_iret hx hb hr hlocks hP hS (by rw [e_q]) rfl rfl dX3_look_36
  refine lv_iconst (v := (0 : Int32)) hx hb dX3_look_0 (by decide) ?_
  refine lv_istore_n (lv' := [(3, .int (0 : Int32)), (0, .ref (ad (18))), (1, .int a), (2, .int b)]) hx hb dX3_look_1 rfl hl (by decide) rfl (fun ls hl => ?_)
  exact K2 193 (0 : Int32) _ _ ls (by have a3 : (0 : Int32).toInt = 0 := rfl; omega) (by have a3 : (0 : Int32).toInt = 0 := rfl; omega) (by decide) hP hS (lv_sub hl [0, 1, 2, 3] rfl) (by rw [sp_X3_look])
def sp_X3_put (τ : sl_M) (a : Int32) (b : Int32) (z : Int32) : sl_M := (sl_up (sl_up (sl_up (sl_up τ 19 (τ 18 0).toNatClampNeg a) 20 ((sl_up τ 19 (τ 18 0).toNatClampNeg a) 18 0).toNatClampNeg b) 21 ((sl_up (sl_up τ 19 (τ 18 0).toNatClampNeg a) 20 ((sl_up τ 19 (τ 18 0).toNatClampNeg a) 18 0).toNatClampNeg b) 18 0).toNatClampNeg z) 18 0 (((sl_up (sl_up (sl_up τ 19 (τ 18 0).toNatClampNeg a) 20 ((sl_up τ 19 (τ 18 0).toNatClampNeg a) 18 0).toNatClampNeg b) 21 ((sl_up (sl_up τ 19 (τ 18 0).toNatClampNeg a) 20 ((sl_up τ 19 (τ 18 0).toNatClampNeg a) 18 0).toNatClampNeg b) 18 0).toNatClampNeg z) 18 0) + (1 : Int32)))
set_option maxHeartbeats 4000000 in
set_option maxRecDepth 100000 in
theorem c_X3_put (l : Launch) (G : va_G) (cy : Nat → ClassId) (ad : Nat → Nat) (σ τ : sl_M) (a : Int32) (b : Int32) (z : Int32) (hrw : vp_in (τ 18 0) 192) : sl_C l G cy ad yX3_put wsX3_put ({ frames := 0, cells := 0, slots := 0, locals := 0 }) [.ref (ad (18)), .int a, .int b, .int z] σ τ none σ (sp_X3_put τ a b z) := by
  refine sl_of (cc := cX3_put) (maxL := 4) (ret := none) (by decide) rfl (Nat.le_of_ble_eq_true rfl) ?_
  intro p e s m below meth c hx hb hr hml hts hown hlocks hK hN hD hP hS ls hl
  have hown : s.vm.findClass RX3 = some m.cls := hown
  have hl : lv_has ls 4 [(0, .ref (ad (18))), (1, .int a), (2, .int b), (3, .int z)] := hl
  have hi3 : ∀ w ∈ wsX30, w ∈ wsX3_put := fun _ h => (List.mem_cons_of_mem _ (List.mem_append_right _ h))
  refine lv_aload_n hx hb dX3_put_0 rfl (lv_at hl 0 rfl) ?_
  refine va_get (D := G) (ci := 3) (v := .ref (ad (19))) (C := RX3) (T := TX3) (N := 19) hx hb hts hi3 hown hK hP 18 sl_aM rfl 1 (by decide) (hts _ mw_X3_put_1) (fun _ h9 => h9) rfl dX3_put_1 ?_
  refine lv_aload_n hx hb dX3_put_4 rfl (lv_at hl 0 rfl) ?_
  refine va_get (D := G) (ci := 3) (v := .int (τ 18 0)) (C := RX3) (T := TX3) (N := 19) hx hb hts hi3 hown hK hP 18 sl_aM rfl 0 (by decide) (hts _ mw_X3_put_2) (fun _ h9 => h9) rfl dX3_put_5 ?_
  refine lv_iload_n hx hb dX3_put_8 rfl (lv_at hl 1 rfl) ?_
  refine sl_stR 19 192 hx hb hK hD hP hS (by decide) (by decide) rfl (by first | exact hrw | (rw [sl_up_k (by decide)]; exact hrw) | (rw [sl_up_k (by decide), sl_up_k (by decide)]; exact hrw)) dX3_put_9 (fun H locs hP hS => ?_)
  refine lv_aload_n hx hb dX3_put_10 rfl (lv_at hl 0 rfl) ?_
  refine va_get (D := G) (ci := 3) (v := .ref (ad (20))) (C := RX3) (T := TX3) (N := 19) hx hb hts hi3 hown hK hP 18 sl_aM rfl 2 (by decide) (hts _ mw_X3_put_3) (fun _ h9 => h9) rfl dX3_put_11 ?_
  refine lv_aload_n hx hb dX3_put_14 rfl (lv_at hl 0 rfl) ?_
  refine va_get (D := G) (ci := 3) (v := .int ((sl_up τ 19 (τ 18 0).toNatClampNeg a) 18 0)) (C := RX3) (T := TX3) (N := 19) hx hb hts hi3 hown hK hP 18 sl_aM rfl 0 (by decide) (hts _ mw_X3_put_2) (fun _ h9 => h9) rfl dX3_put_15 ?_
  refine lv_iload_n hx hb dX3_put_18 rfl (lv_at hl 2 rfl) ?_
  refine sl_stR 20 192 hx hb hK hD hP hS (by decide) (by decide) rfl (by first | exact hrw | (rw [sl_up_k (by decide)]; exact hrw) | (rw [sl_up_k (by decide), sl_up_k (by decide)]; exact hrw)) dX3_put_19 (fun H locs hP hS => ?_)
  refine lv_aload_n hx hb dX3_put_20 rfl (lv_at hl 0 rfl) ?_
  refine va_get (D := G) (ci := 3) (v := .ref (ad (21))) (C := RX3) (T := TX3) (N := 19) hx hb hts hi3 hown hK hP 18 sl_aM rfl 3 (by decide) (hts _ mw_X3_put_4) (fun _ h9 => h9) rfl dX3_put_21 ?_
  refine lv_aload_n hx hb dX3_put_24 rfl (lv_at hl 0 rfl) ?_
  refine va_get (D := G) (ci := 3) (v := .int ((sl_up (sl_up τ 19 (τ 18 0).toNatClampNeg a) 20 ((sl_up τ 19 (τ 18 0).toNatClampNeg a) 18 0).toNatClampNeg b) 18 0)) (C := RX3) (T := TX3) (N := 19) hx hb hts hi3 hown hK hP 18 sl_aM rfl 0 (by decide) (hts _ mw_X3_put_2) (fun _ h9 => h9) rfl dX3_put_25 ?_
  refine lv_iload_n hx hb dX3_put_28 rfl (lv_at hl 3 rfl) ?_
  refine sl_stR 21 192 hx hb hK hD hP hS (by decide) (by decide) rfl (by first | exact hrw | (rw [sl_up_k (by decide)]; exact hrw) | (rw [sl_up_k (by decide), sl_up_k (by decide)]; exact hrw)) dX3_put_29 (fun H locs hP hS => ?_)
  refine lv_aload_n hx hb dX3_put_30 rfl (lv_at hl 0 rfl) ?_
  refine lv_aload_n hx hb dX3_put_31 rfl (lv_at hl 0 rfl) ?_
  refine va_get (D := G) (ci := 3) (v := .int ((sl_up (sl_up (sl_up τ 19 (τ 18 0).toNatClampNeg a) 20 ((sl_up τ 19 (τ 18 0).toNatClampNeg a) 18 0).toNatClampNeg b) 21 ((sl_up (sl_up τ 19 (τ 18 0).toNatClampNeg a) 20 ((sl_up τ 19 (τ 18 0).toNatClampNeg a) 18 0).toNatClampNeg b) 18 0).toNatClampNeg z) 18 0)) (C := RX3) (T := TX3) (N := 19) hx hb hts hi3 hown hK hP 18 sl_aM rfl 0 (by decide) (hts _ mw_X3_put_2) (fun _ h9 => h9) rfl dX3_put_32 ?_
  refine lv_iconst (v := (1 : Int32)) hx hb dX3_put_35 (by decide) ?_
  refine lv_iadd hx hb dX3_put_36 ?_
  refine sl_putM hx hb hts hi3 hown hK hD hP hS 0 (by decide) (by decide) rfl (tyX3_ok 0 (by decide)) (hts _ mw_X3_put_2) dX3_put_37 (fun H locs hP hS => ?_)
  have e_q : (sp_X3_put τ a b z) = (sl_up (sl_up (sl_up (sl_up τ 19 (τ 18 0).toNatClampNeg a) 20 ((sl_up τ 19 (τ 18 0).toNatClampNeg a) 18 0).toNatClampNeg b) 21 ((sl_up (sl_up τ 19 (τ 18 0).toNatClampNeg a) 20 ((sl_up τ 19 (τ 18 0).toNatClampNeg a) 18 0).toNatClampNeg b) 18 0).toNatClampNeg z) 18 0 (((sl_up (sl_up (sl_up τ 19 (τ 18 0).toNatClampNeg a) 20 ((sl_up τ 19 (τ 18 0).toNatClampNeg a) 18 0).toNatClampNeg b) 21 ((sl_up (sl_up τ 19 (τ 18 0).toNatClampNeg a) 20 ((sl_up τ 19 (τ 18 0).toNatClampNeg a) 18 0).toNatClampNeg b) 18 0).toNatClampNeg z) 18 0) + (1 : Int32))) := by rw [sp_X3_put]
  exact sl_vret hx hb hr hlocks hP hS rfl rfl (by rw [e_q]) dX3_put_40
def sp_X3_nth_5 (a : Int32) (b : Int32) (z : Int32) : Nat → Int32 → Int32 → Int32
  | 0, _, _ => (-1 : Int32)
  | n + 1, v, w => 
    if (6 : Int32) ≤ v then (-1 : Int32)
    else if (((a.toUInt32 >>> (v.toUInt32 &&& Int32.toUInt32 31)).toInt32) &&& (1 : Int32)) = (1 : Int32) then 
      if b = (2 : Int32) then 
        if w = z then v
        else (sp_X3_nth_5 a b z n (v + (1 : Int32)) (w + (1 : Int32)))
      else if (v - v / (2 : Int32) * (2 : Int32)) = b then 
        if w = z then v
        else (sp_X3_nth_5 a b z n (v + (1 : Int32)) (w + (1 : Int32)))
      else (sp_X3_nth_5 a b z n (v + (1 : Int32)) w)
    else (sp_X3_nth_5 a b z n (v + (1 : Int32)) w)

def sp_X3_nth (a : Int32) (b : Int32) (z : Int32) : Int32 := (sp_X3_nth_5 a b z 7 (0 : Int32) (0 : Int32))
set_option maxHeartbeats 4000000 in
set_option maxRecDepth 100000 in
theorem c_X3_nth (l : Launch) (G : va_G) (cy : Nat → ClassId) (ad : Nat → Nat) (σ τ : sl_M) (a : Int32) (b : Int32) (z : Int32) : sl_C l G cy ad yX3_nth wsX3_nth ({ frames := 0, cells := 0, slots := 0, locals := 0 }) [.int a, .int b, .int z] σ τ (some (.int (sp_X3_nth a b z))) σ τ := by
  refine sl_of (cc := cX3_nth) (maxL := 5) (ret := (some .int)) (by decide) rfl (Nat.le_of_ble_eq_true rfl) ?_
  intro p e s m below meth c hx hb hr hml hts hown hlocks hK hN hD hP hS ls hl
  have hown : s.vm.findClass RX3 = some m.cls := hown
  have hl : lv_has ls 5 [(0, .int a), (1, .int b), (2, .int z)] := hl
  have K5 : ∀ (n : Nat) (v : Int32) (w : Int32) (H : Heap) (locs : List Loc) (ls : Array Slot), 6 < v.toInt + (n : Int) → v.toInt ≤ 6 → 0 ≤ v.toInt → va_P G vwCl (sl_wd cy ad σ τ) H → va_S (sl_A ad s.heap.size) s.heap H locs → lv_has ls 5 [(4, .int v), (3, .int w), (0, .int a), (1, .int b), (2, .int z)] → (sp_X3_nth a b z) = (sp_X3_nth_5 a b z n v w) → W p l e ({ frames := 0, cells := 0, slots := 0, locals := 0 }) s m ([.int a, .int b, .int z] : List Value).toArray below meth c H locs 0 0 (sl_Z G cy ad (some (.int (sp_X3_nth a b z))) σ τ [.int a, .int b, .int z] below s) (F0 m 5 ls []) := by
    intro n
    induction n with
    | zero =>
      intro v w H locs ls h1 h2 h0 hP hS hl e_q0
      exact absurd h1 (by omega)
    | succ n ih =>
      intro v w H locs ls h1 h2 h0 hP hS hl e_q0
      refine lv_iload hx hb dX3_nth_5 (lv_at hl 0 rfl) ?_
      refine lv_bipush (v := (6 : Int32)) hx hb dX3_nth_7 (by decide) ?_
      refine lv_icmp_ge (tgt := 53) hx hb dX3_nth_9 (by decide) (fun c_1 => ?_) (fun c_1 => ?_)
      · refine lv_iconst (v := (-1 : Int32)) hx hb dX3_nth_53 (by decide) ?_
        have e_q : (sp_X3_nth a b z) = (-1 : Int32) := by rw [e_q0, sp_X3_nth_5, if_pos c_1]
        exact sl_iret hx hb hr hlocks hP hS (by rw [e_q]) rfl rfl dX3_nth_54
      · refine lv_iload_n hx hb dX3_nth_12 rfl (lv_at hl 2 rfl) ?_
        refine lv_iload hx hb dX3_nth_13 (lv_at hl 0 rfl) ?_
        refine lv_iushr (v := ((a.toUInt32 >>> (v.toUInt32 &&& Int32.toUInt32 31)).toInt32)) hx hb dX3_nth_15 rfl ?_
        refine lv_iconst (v := (1 : Int32)) hx hb dX3_nth_16 (by decide) ?_
        refine lv_iand hx hb dX3_nth_17 ?_
        refine lv_iconst (v := (1 : Int32)) hx hb dX3_nth_18 (by decide) ?_
        refine lv_icmp_ne (tgt := 47) hx hb dX3_nth_19 (by decide) (fun c_2 => ?_) (fun c_2 => ?_)
        · refine lv_iinc (v := (v + (1 : Int32))) (lv' := [(4, .int (v + (1 : Int32))), (3, .int w), (0, .int a), (1, .int b), (2, .int z)]) hx hb dX3_nth_47 hl (k := 0) rfl rfl (by decide) rfl (fun ls hl => ?_)
          refine lv_goto (tgt := 5) hx hb dX3_nth_50 (by decide) ?_
          exact ih (v + (1 : Int32)) w _ _ ls (by rw [sl_inc c_1]; omega) (by rw [sl_inc c_1]; have := sl_nle c_1; have a6 : (6 : Int32).toInt = 6 := rfl; omega) (by rw [sl_inc c_1]; omega) hP hS (lv_sub hl [0, 1, 2, 3, 4] rfl) (by rw [e_q0, sp_X3_nth_5, if_neg c_1, if_neg c_2])
        · refine lv_iload_n hx hb dX3_nth_22 rfl (lv_at hl 3 rfl) ?_
          refine lv_iconst (v := (2 : Int32)) hx hb dX3_nth_23 (by decide) ?_
          refine lv_icmp_eq (tgt := 35) hx hb dX3_nth_24 (by decide) (fun c_3 => ?_) (fun c_3 => ?_)
          · refine lv_iload_n hx hb dX3_nth_35 rfl (lv_at hl 1 rfl) ?_
            refine lv_iload_n hx hb dX3_nth_36 rfl (lv_at hl 4 rfl) ?_
            refine lv_icmp_ne (tgt := 43) hx hb dX3_nth_37 (by decide) (fun c_4 => ?_) (fun c_4 => ?_)
            · refine lv_iload_n hx hb dX3_nth_43 rfl (lv_at hl 1 rfl) ?_
              refine lv_iconst (v := (1 : Int32)) hx hb dX3_nth_44 (by decide) ?_
              refine lv_iadd hx hb dX3_nth_45 ?_
              refine lv_istore_n (lv' := [(3, .int (w + (1 : Int32))), (4, .int v), (0, .int a), (1, .int b), (2, .int z)]) hx hb dX3_nth_46 rfl hl (by decide) rfl (fun ls hl => ?_)
              refine lv_iinc (v := (v + (1 : Int32))) (lv' := [(4, .int (v + (1 : Int32))), (3, .int (w + (1 : Int32))), (0, .int a), (1, .int b), (2, .int z)]) hx hb dX3_nth_47 hl (k := 1) rfl rfl (by decide) rfl (fun ls hl => ?_)
              refine lv_goto (tgt := 5) hx hb dX3_nth_50 (by decide) ?_
              exact ih (v + (1 : Int32)) (w + (1 : Int32)) _ _ ls (by rw [sl_inc c_1]; omega) (by rw [sl_inc c_1]; have := sl_nle c_1; have a6 : (6 : Int32).toInt = 6 := rfl; omega) (by rw [sl_inc c_1]; omega) hP hS (lv_sub hl [0, 1, 2, 3, 4] rfl) (by rw [e_q0, sp_X3_nth_5, if_neg c_1, if_pos c_2, if_pos c_3, if_neg c_4])
            · refine lv_iload hx hb dX3_nth_40 (lv_at hl 0 rfl) ?_
              have e_q : (sp_X3_nth a b z) = v := by rw [e_q0, sp_X3_nth_5, if_neg c_1, if_pos c_2, if_pos c_3, if_pos c_4]
              exact sl_iret hx hb hr hlocks hP hS (by rw [e_q]) rfl rfl dX3_nth_42
          · refine lv_iload hx hb dX3_nth_27 (lv_at hl 0 rfl) ?_
            refine lv_iconst (v := (2 : Int32)) hx hb dX3_nth_29 (by decide) ?_
            refine lv_irem hx hb dX3_nth_30 (by decide) ?_
            refine lv_iload_n hx hb dX3_nth_31 rfl (lv_at hl 3 rfl) ?_
            refine lv_icmp_ne (tgt := 47) hx hb dX3_nth_32 (by decide) (fun c_5 => ?_) (fun c_5 => ?_)
            · refine lv_iinc (v := (v + (1 : Int32))) (lv' := [(4, .int (v + (1 : Int32))), (3, .int w), (0, .int a), (1, .int b), (2, .int z)]) hx hb dX3_nth_47 hl (k := 0) rfl rfl (by decide) rfl (fun ls hl => ?_)
              refine lv_goto (tgt := 5) hx hb dX3_nth_50 (by decide) ?_
              exact ih (v + (1 : Int32)) w _ _ ls (by rw [sl_inc c_1]; omega) (by rw [sl_inc c_1]; have := sl_nle c_1; have a6 : (6 : Int32).toInt = 6 := rfl; omega) (by rw [sl_inc c_1]; omega) hP hS (lv_sub hl [0, 1, 2, 3, 4] rfl) (by rw [e_q0, sp_X3_nth_5, if_neg c_1, if_pos c_2, if_neg c_3, if_neg c_5])
            · refine lv_iload_n hx hb dX3_nth_35 rfl (lv_at hl 1 rfl) ?_
              refine lv_iload_n hx hb dX3_nth_36 rfl (lv_at hl 4 rfl) ?_
              refine lv_icmp_ne (tgt := 43) hx hb dX3_nth_37 (by decide) (fun c_6 => ?_) (fun c_6 => ?_)
              · refine lv_iload_n hx hb dX3_nth_43 rfl (lv_at hl 1 rfl) ?_
                refine lv_iconst (v := (1 : Int32)) hx hb dX3_nth_44 (by decide) ?_
                refine lv_iadd hx hb dX3_nth_45 ?_
                refine lv_istore_n (lv' := [(3, .int (w + (1 : Int32))), (4, .int v), (0, .int a), (1, .int b), (2, .int z)]) hx hb dX3_nth_46 rfl hl (by decide) rfl (fun ls hl => ?_)
                refine lv_iinc (v := (v + (1 : Int32))) (lv' := [(4, .int (v + (1 : Int32))), (3, .int (w + (1 : Int32))), (0, .int a), (1, .int b), (2, .int z)]) hx hb dX3_nth_47 hl (k := 1) rfl rfl (by decide) rfl (fun ls hl => ?_)
                refine lv_goto (tgt := 5) hx hb dX3_nth_50 (by decide) ?_
                exact ih (v + (1 : Int32)) (w + (1 : Int32)) _ _ ls (by rw [sl_inc c_1]; omega) (by rw [sl_inc c_1]; have := sl_nle c_1; have a6 : (6 : Int32).toInt = 6 := rfl; omega) (by rw [sl_inc c_1]; omega) hP hS (lv_sub hl [0, 1, 2, 3, 4] rfl) (by rw [e_q0, sp_X3_nth_5, if_neg c_1, if_pos c_2, if_neg c_3, if_pos c_5, if_neg c_6])
              · refine lv_iload hx hb dX3_nth_40 (lv_at hl 0 rfl) ?_
                have e_q : (sp_X3_nth a b z) = v := by rw [e_q0, sp_X3_nth_5, if_neg c_1, if_pos c_2, if_neg c_3, if_pos c_5, if_pos c_6]
                exact sl_iret hx hb hr hlocks hP hS (by rw [e_q]) rfl rfl dX3_nth_42
  refine lv_iconst (v := (0 : Int32)) hx hb dX3_nth_0 (by decide) ?_
  refine lv_istore_n (lv' := [(3, .int (0 : Int32)), (0, .int a), (1, .int b), (2, .int z)]) hx hb dX3_nth_1 rfl hl (by decide) rfl (fun ls hl => ?_)
  refine lv_iconst (v := (0 : Int32)) hx hb dX3_nth_2 (by decide) ?_
  refine lv_istore (lv' := [(4, .int (0 : Int32)), (3, .int (0 : Int32)), (0, .int a), (1, .int b), (2, .int z)]) hx hb dX3_nth_3 hl (by decide) rfl (fun ls hl => ?_)
  exact K5 7 (0 : Int32) (0 : Int32) _ _ ls (by decide) (by decide) (by decide) hP hS (lv_sub hl [0, 1, 2, 3, 4] rfl) (by rw [sp_X3_nth])
def sp_X3_length_4 (a : Int32) (b : Int32) : Nat → Int32 → Int32 → Int32
  | 0, _, _ => (-1 : Int32)
  | n + 1, v, w => 
    if (6 : Int32) ≤ v then w
    else if (((a.toUInt32 >>> (v.toUInt32 &&& Int32.toUInt32 31)).toInt32) &&& (1 : Int32)) = (1 : Int32) then 
      if (v - v / (2 : Int32) * (2 : Int32)) = b then (sp_X3_length_4 a b n (v + (1 : Int32)) (w + (1 : Int32)))
      else (sp_X3_length_4 a b n (v + (1 : Int32)) w)
    else (sp_X3_length_4 a b n (v + (1 : Int32)) w)

def sp_X3_length (a : Int32) (b : Int32) : Int32 := (sp_X3_length_4 a b 7 (0 : Int32) (0 : Int32))
set_option maxHeartbeats 4000000 in
set_option maxRecDepth 100000 in
theorem c_X3_length (l : Launch) (G : va_G) (cy : Nat → ClassId) (ad : Nat → Nat) (σ τ : sl_M) (a : Int32) (b : Int32) : sl_C l G cy ad yX3_length wsX3_length ({ frames := 0, cells := 0, slots := 0, locals := 0 }) [.int a, .int b] σ τ (some (.int (sp_X3_length a b))) σ τ := by
  refine sl_of (cc := cX3_length) (maxL := 4) (ret := (some .int)) (by decide) rfl (Nat.le_of_ble_eq_true rfl) ?_
  intro p e s m below meth c hx hb hr hml hts hown hlocks hK hN hD hP hS ls hl
  have hown : s.vm.findClass RX3 = some m.cls := hown
  have hl : lv_has ls 4 [(0, .int a), (1, .int b)] := hl
  have K4 : ∀ (n : Nat) (v : Int32) (w : Int32) (H : Heap) (locs : List Loc) (ls : Array Slot), 6 < v.toInt + (n : Int) → v.toInt ≤ 6 → 0 ≤ v.toInt → va_P G vwCl (sl_wd cy ad σ τ) H → va_S (sl_A ad s.heap.size) s.heap H locs → lv_has ls 4 [(3, .int v), (2, .int w), (0, .int a), (1, .int b)] → (sp_X3_length a b) = (sp_X3_length_4 a b n v w) → W p l e ({ frames := 0, cells := 0, slots := 0, locals := 0 }) s m ([.int a, .int b] : List Value).toArray below meth c H locs 0 0 (sl_Z G cy ad (some (.int (sp_X3_length a b))) σ τ [.int a, .int b] below s) (F0 m 4 ls []) := by
    intro n
    induction n with
    | zero =>
      intro v w H locs ls h1 h2 h0 hP hS hl e_q0
      exact absurd h1 (by omega)
    | succ n ih =>
      intro v w H locs ls h1 h2 h0 hP hS hl e_q0
      refine lv_iload_n hx hb dX3_length_4 rfl (lv_at hl 0 rfl) ?_
      refine lv_bipush (v := (6 : Int32)) hx hb dX3_length_5 (by decide) ?_
      refine lv_icmp_ge (tgt := 36) hx hb dX3_length_7 (by decide) (fun c_1 => ?_) (fun c_1 => ?_)
      · refine lv_iload_n hx hb dX3_length_36 rfl (lv_at hl 1 rfl) ?_
        have e_q : (sp_X3_length a b) = w := by rw [e_q0, sp_X3_length_4, if_pos c_1]
        exact sl_iret hx hb hr hlocks hP hS (by rw [e_q]) rfl rfl dX3_length_37
      · refine lv_iload_n hx hb dX3_length_10 rfl (lv_at hl 2 rfl) ?_
        refine lv_iload_n hx hb dX3_length_11 rfl (lv_at hl 0 rfl) ?_
        refine lv_iushr (v := ((a.toUInt32 >>> (v.toUInt32 &&& Int32.toUInt32 31)).toInt32)) hx hb dX3_length_12 rfl ?_
        refine lv_iconst (v := (1 : Int32)) hx hb dX3_length_13 (by decide) ?_
        refine lv_iand hx hb dX3_length_14 ?_
        refine lv_iconst (v := (1 : Int32)) hx hb dX3_length_15 (by decide) ?_
        refine lv_icmp_ne (tgt := 30) hx hb dX3_length_16 (by decide) (fun c_2 => ?_) (fun c_2 => ?_)
        · refine lv_iinc (v := (v + (1 : Int32))) (lv' := [(3, .int (v + (1 : Int32))), (2, .int w), (0, .int a), (1, .int b)]) hx hb dX3_length_30 hl (k := 0) rfl rfl (by decide) rfl (fun ls hl => ?_)
          refine lv_goto (tgt := 4) hx hb dX3_length_33 (by decide) ?_
          exact ih (v + (1 : Int32)) w _ _ ls (by rw [sl_inc c_1]; omega) (by rw [sl_inc c_1]; have := sl_nle c_1; have a6 : (6 : Int32).toInt = 6 := rfl; omega) (by rw [sl_inc c_1]; omega) hP hS (lv_sub hl [0, 1, 2, 3] rfl) (by rw [e_q0, sp_X3_length_4, if_neg c_1, if_neg c_2])
        · refine lv_iload_n hx hb dX3_length_19 rfl (lv_at hl 0 rfl) ?_
          refine lv_iconst (v := (2 : Int32)) hx hb dX3_length_20 (by decide) ?_
          refine lv_irem hx hb dX3_length_21 (by decide) ?_
          refine lv_iload_n hx hb dX3_length_22 rfl (lv_at hl 3 rfl) ?_
          refine lv_icmp_ne (tgt := 30) hx hb dX3_length_23 (by decide) (fun c_3 => ?_) (fun c_3 => ?_)
          · refine lv_iinc (v := (v + (1 : Int32))) (lv' := [(3, .int (v + (1 : Int32))), (2, .int w), (0, .int a), (1, .int b)]) hx hb dX3_length_30 hl (k := 0) rfl rfl (by decide) rfl (fun ls hl => ?_)
            refine lv_goto (tgt := 4) hx hb dX3_length_33 (by decide) ?_
            exact ih (v + (1 : Int32)) w _ _ ls (by rw [sl_inc c_1]; omega) (by rw [sl_inc c_1]; have := sl_nle c_1; have a6 : (6 : Int32).toInt = 6 := rfl; omega) (by rw [sl_inc c_1]; omega) hP hS (lv_sub hl [0, 1, 2, 3] rfl) (by rw [e_q0, sp_X3_length_4, if_neg c_1, if_pos c_2, if_neg c_3])
          · refine lv_iload_n hx hb dX3_length_26 rfl (lv_at hl 1 rfl) ?_
            refine lv_iconst (v := (1 : Int32)) hx hb dX3_length_27 (by decide) ?_
            refine lv_iadd hx hb dX3_length_28 ?_
            refine lv_istore_n (lv' := [(2, .int (w + (1 : Int32))), (3, .int v), (0, .int a), (1, .int b)]) hx hb dX3_length_29 rfl hl (by decide) rfl (fun ls hl => ?_)
            refine lv_iinc (v := (v + (1 : Int32))) (lv' := [(3, .int (v + (1 : Int32))), (2, .int (w + (1 : Int32))), (0, .int a), (1, .int b)]) hx hb dX3_length_30 hl (k := 1) rfl rfl (by decide) rfl (fun ls hl => ?_)
            refine lv_goto (tgt := 4) hx hb dX3_length_33 (by decide) ?_
            exact ih (v + (1 : Int32)) (w + (1 : Int32)) _ _ ls (by rw [sl_inc c_1]; omega) (by rw [sl_inc c_1]; have := sl_nle c_1; have a6 : (6 : Int32).toInt = 6 := rfl; omega) (by rw [sl_inc c_1]; omega) hP hS (lv_sub hl [0, 1, 2, 3] rfl) (by rw [e_q0, sp_X3_length_4, if_neg c_1, if_pos c_2, if_pos c_3])
  refine lv_iconst (v := (0 : Int32)) hx hb dX3_length_0 (by decide) ?_
  refine lv_istore_n (lv' := [(2, .int (0 : Int32)), (0, .int a), (1, .int b)]) hx hb dX3_length_1 rfl hl (by decide) rfl (fun ls hl => ?_)
  refine lv_iconst (v := (0 : Int32)) hx hb dX3_length_2 (by decide) ?_
  refine lv_istore_n (lv' := [(3, .int (0 : Int32)), (2, .int (0 : Int32)), (0, .int a), (1, .int b)]) hx hb dX3_length_3 rfl hl (by decide) rfl (fun ls hl => ?_)
  exact K4 7 (0 : Int32) (0 : Int32) _ _ ls (by decide) (by decide) (by decide) hP hS (lv_sub hl [0, 1, 2, 3] rfl) (by rw [sp_X3_length])
theorem sl_nthL {a b z : Int32} : ∀ (n : Nat) (v w : Int32), 6 < v.toInt + (n : Int) → 0 ≤ v.toInt → sp_X3_nth_5 a b z n v w = -1 ∨ vp_in (sp_X3_nth_5 a b z n v w) 6 := by
  intro n
  induction n with
  | zero =>
    intro v w _ _
    exact Or.inl rfl
  | succ n ih =>
    intro v w h1 h0
    by_cases c : (6 : Int32) ≤ v
    · exact Or.inl (by rw [sp_X3_nth_5, if_pos c])
    · have i1 : 6 < (v + 1).toInt + (n : Int) := by rw [sl_inc c]; omega
      have i0 : 0 ≤ (v + 1).toInt := by rw [sl_inc c]; omega
      have hv : vp_in v 6 := sl_in3 h0 (by have := sl_nle c; have a6 : (6 : Int32).toInt = 6 := rfl; omega)
      rw [sp_X3_nth_5, if_neg c]
      repeat' split
      all_goals first | exact Or.inr hv | exact ih _ _ i1 i0
theorem sl_nthI {a b z : Int32} (h : ¬ sp_X3_nth a b z < 0) : vp_in (sp_X3_nth a b z) 6 := by
  rcases sl_nthL (a := a) (b := b) (z := z) 7 0 0 (by decide) (by decide) with e | e
  · exact absurd (by rw [sp_X3_nth, e]; decide) h
  · exact e
def sp_X3_begin_in (τ : sl_M) (q : Int32) (a : Int32) (b : Int32) : Int32 × sl_M := 
  if (τ 24 q.toNatClampNeg) = 0 then 
    if b = 0 then ((-3 : Int32), τ)
    else ((0 : Int32), (sl_up (sl_up (sl_up (sl_up (sl_up (sl_up τ 24 q.toNatClampNeg a) 27 q.toNatClampNeg (0 : Int32)) 28 q.toNatClampNeg (0 : Int32)) 31 q.toNatClampNeg (0 : Int32)) 30 q.toNatClampNeg (0 : Int32)) 29 q.toNatClampNeg (0 : Int32)))
  else ((-2 : Int32), τ)
set_option maxHeartbeats 4000000 in
set_option maxRecDepth 100000 in
theorem c_X3_begin_in (l : Launch) (G : va_G) (cy : Nat → ClassId) (ad : Nat → Nat) (σ τ : sl_M) (q : Int32) (a : Int32) (b : Int32) (hc : vp_in q 3) : sl_C l G cy ad yX3_begin wsX3_begin ({ frames := 0, cells := 0, slots := 0, locals := 0 }) [.ref (ad (18)), .int q, .int a, .int b] σ τ (some (.int (sp_X3_begin_in τ q a b).1)) σ (sp_X3_begin_in τ q a b).2 := by
  refine sl_of (cc := cX3_begin) (maxL := 4) (ret := (some .int)) (by decide) rfl (Nat.le_of_ble_eq_true rfl) ?_
  intro p e s m below meth c hx hb hr hml hts hown hlocks hK hN hD hP hS ls hl
  have hown : s.vm.findClass RX3 = some m.cls := hown
  have hl : lv_has ls 4 [(0, .ref (ad (18))), (1, .int q), (2, .int a), (3, .int b)] := hl
  have hi3 : ∀ w ∈ wsX30, w ∈ wsX3_begin := fun _ h => (List.mem_cons_of_mem _ (List.mem_append_right _ h))
  refine lv_iload_n hx hb dX3_begin_0 rfl (lv_at hl 1 rfl) ?_
  refine lv_if_lt (tgt := 9) hx hb dX3_begin_1 (by decide) (fun h9 => absurd h9 (sl_i0 hc)) (fun _ => ?_)
  refine lv_iload_n hx hb dX3_begin_4 rfl (lv_at hl 1 rfl) ?_
  refine lv_iconst (v := (2 : Int32)) hx hb dX3_begin_5 (by decide) ?_
  refine lv_icmp_le (tgt := 11) hx hb dX3_begin_6 (by decide) (fun _ => ?_) (fun h9 => absurd (sl_iL hc rfl) h9)
  refine lv_aload_n hx hb dX3_begin_11 rfl (lv_at hl 0 rfl) ?_
  refine va_get (D := G) (ci := 3) (v := .ref (ad (24))) (C := RX3) (T := TX3) (N := 19) hx hb hts hi3 hown hK hP 18 sl_aM rfl 10 (by decide) (hts _ mw_X3_begin_1) (fun _ h9 => h9) rfl dX3_begin_12 ?_
  refine lv_iload_n hx hb dX3_begin_15 rfl (lv_at hl 1 rfl) ?_
  refine sl_ldR 24 3 hx hb hK hP (by decide) (by decide) rfl hc dX3_begin_16 ?_
  refine lv_if_eq (tgt := 23) hx hb dX3_begin_17 (by decide) (fun c_1 => ?_) (fun c_1 => ?_)
  · refine lv_iload_n hx hb dX3_begin_23 rfl (lv_at hl 3 rfl) ?_
    refine lv_if_ne (tgt := 30) hx hb dX3_begin_24 (by decide) (fun c_2 => ?_) (fun c_2 => ?_)
    · refine lv_aload_n hx hb dX3_begin_30 rfl (lv_at hl 0 rfl) ?_
      refine va_get (D := G) (ci := 3) (v := .ref (ad (24))) (C := RX3) (T := TX3) (N := 19) hx hb hts hi3 hown hK hP 18 sl_aM rfl 10 (by decide) (hts _ mw_X3_begin_1) (fun _ h9 => h9) rfl dX3_begin_31 ?_
      refine lv_iload_n hx hb dX3_begin_34 rfl (lv_at hl 1 rfl) ?_
      refine lv_iload_n hx hb dX3_begin_35 rfl (lv_at hl 2 rfl) ?_
      refine sl_stR 24 3 hx hb hK hD hP hS (by decide) (by decide) rfl hc dX3_begin_36 (fun H locs hP hS => ?_)
      refine lv_aload_n hx hb dX3_begin_37 rfl (lv_at hl 0 rfl) ?_
      refine va_get (D := G) (ci := 3) (v := .ref (ad (27))) (C := RX3) (T := TX3) (N := 19) hx hb hts hi3 hown hK hP 18 sl_aM rfl 13 (by decide) (hts _ mw_X3_begin_2) (fun _ h9 => h9) rfl dX3_begin_38 ?_
      refine lv_iload_n hx hb dX3_begin_41 rfl (lv_at hl 1 rfl) ?_
      refine lv_iconst (v := (0 : Int32)) hx hb dX3_begin_42 (by decide) ?_
      refine sl_stR 27 3 hx hb hK hD hP hS (by decide) (by decide) rfl hc dX3_begin_43 (fun H locs hP hS => ?_)
      refine lv_aload_n hx hb dX3_begin_44 rfl (lv_at hl 0 rfl) ?_
      refine va_get (D := G) (ci := 3) (v := .ref (ad (28))) (C := RX3) (T := TX3) (N := 19) hx hb hts hi3 hown hK hP 18 sl_aM rfl 14 (by decide) (hts _ mw_X3_begin_3) (fun _ h9 => h9) rfl dX3_begin_45 ?_
      refine lv_iload_n hx hb dX3_begin_48 rfl (lv_at hl 1 rfl) ?_
      refine lv_iconst (v := (0 : Int32)) hx hb dX3_begin_49 (by decide) ?_
      refine sl_stR 28 3 hx hb hK hD hP hS (by decide) (by decide) rfl hc dX3_begin_50 (fun H locs hP hS => ?_)
      refine lv_aload_n hx hb dX3_begin_51 rfl (lv_at hl 0 rfl) ?_
      refine va_get (D := G) (ci := 3) (v := .ref (ad (31))) (C := RX3) (T := TX3) (N := 19) hx hb hts hi3 hown hK hP 18 sl_aM rfl 17 (by decide) (hts _ mw_X3_begin_4) (fun _ h9 => h9) rfl dX3_begin_52 ?_
      refine lv_iload_n hx hb dX3_begin_55 rfl (lv_at hl 1 rfl) ?_
      refine lv_iconst (v := (0 : Int32)) hx hb dX3_begin_56 (by decide) ?_
      refine sl_stR 31 3 hx hb hK hD hP hS (by decide) (by decide) rfl hc dX3_begin_57 (fun H locs hP hS => ?_)
      refine lv_aload_n hx hb dX3_begin_58 rfl (lv_at hl 0 rfl) ?_
      refine va_get (D := G) (ci := 3) (v := .ref (ad (30))) (C := RX3) (T := TX3) (N := 19) hx hb hts hi3 hown hK hP 18 sl_aM rfl 16 (by decide) (hts _ mw_X3_begin_5) (fun _ h9 => h9) rfl dX3_begin_59 ?_
      refine lv_iload_n hx hb dX3_begin_62 rfl (lv_at hl 1 rfl) ?_
      refine lv_iconst (v := (0 : Int32)) hx hb dX3_begin_63 (by decide) ?_
      refine sl_stR 30 3 hx hb hK hD hP hS (by decide) (by decide) rfl hc dX3_begin_64 (fun H locs hP hS => ?_)
      refine lv_aload_n hx hb dX3_begin_65 rfl (lv_at hl 0 rfl) ?_
      refine va_get (D := G) (ci := 3) (v := .ref (ad (29))) (C := RX3) (T := TX3) (N := 19) hx hb hts hi3 hown hK hP 18 sl_aM rfl 15 (by decide) (hts _ mw_X3_begin_6) (fun _ h9 => h9) rfl dX3_begin_66 ?_
      refine lv_iload_n hx hb dX3_begin_69 rfl (lv_at hl 1 rfl) ?_
      refine lv_iconst (v := (0 : Int32)) hx hb dX3_begin_70 (by decide) ?_
      refine sl_stR 29 3 hx hb hK hD hP hS (by decide) (by decide) rfl hc dX3_begin_71 (fun H locs hP hS => ?_)
      refine lv_iconst (v := (0 : Int32)) hx hb dX3_begin_72 (by decide) ?_
      have e_q : (sp_X3_begin_in τ q a b) = ((0 : Int32), (sl_up (sl_up (sl_up (sl_up (sl_up (sl_up τ 24 q.toNatClampNeg a) 27 q.toNatClampNeg (0 : Int32)) 28 q.toNatClampNeg (0 : Int32)) 31 q.toNatClampNeg (0 : Int32)) 30 q.toNatClampNeg (0 : Int32)) 29 q.toNatClampNeg (0 : Int32))) := by rw [sp_X3_begin_in, if_pos c_1, if_neg c_2]
      exact sl_iret hx hb hr hlocks hP hS (by rw [e_q]) rfl (by rw [e_q]) dX3_begin_73
    · refine lv_bipush (v := (-3 : Int32)) hx hb dX3_begin_27 (by decide) ?_
      have e_q : (sp_X3_begin_in τ q a b) = ((-3 : Int32), τ) := by rw [sp_X3_begin_in, if_pos c_1, if_pos c_2]
      exact sl_iret hx hb hr hlocks hP hS (by rw [e_q]) rfl (by rw [e_q]) dX3_begin_29
  · refine lv_bipush (v := (-2 : Int32)) hx hb dX3_begin_20 (by decide) ?_
    have e_q : (sp_X3_begin_in τ q a b) = ((-2 : Int32), τ) := by rw [sp_X3_begin_in, if_neg c_1]
    exact sl_iret hx hb hr hlocks hP hS (by rw [e_q]) rfl (by rw [e_q]) dX3_begin_22
set_option maxHeartbeats 4000000 in
set_option maxRecDepth 100000 in
theorem c_X3_begin_neg (l : Launch) (G : va_G) (cy : Nat → ClassId) (ad : Nat → Nat) (σ τ : sl_M) (q : Int32) (a : Int32) (b : Int32) (hq : q < 0) : sl_C l G cy ad yX3_begin wsX3_begin ({ frames := 0, cells := 0, slots := 0, locals := 0 }) [.ref (ad (18)), .int q, .int a, .int b] σ τ (some (.int (-1 : Int32))) σ τ := by
  refine sl_of (cc := cX3_begin) (maxL := 4) (ret := (some .int)) (by decide) rfl (Nat.le_of_ble_eq_true rfl) ?_
  intro p e s m below meth c hx hb hr hml hts hown hlocks hK hN hD hP hS ls hl
  have hown : s.vm.findClass RX3 = some m.cls := hown
  have hl : lv_has ls 4 [(0, .ref (ad (18))), (1, .int q), (2, .int a), (3, .int b)] := hl
  refine lv_iload_n hx hb dX3_begin_0 rfl (lv_at hl 1 rfl) ?_
  refine lv_if_lt (tgt := 9) hx hb dX3_begin_1 (by decide) (fun _ => ?_) (fun h9 => absurd hq h9)
  refine lv_iconst (v := (-1 : Int32)) hx hb dX3_begin_9 (by decide) ?_
  exact sl_iret hx hb hr hlocks hP hS rfl rfl rfl dX3_begin_10
set_option maxHeartbeats 4000000 in
set_option maxRecDepth 100000 in
theorem c_X3_begin_big (l : Launch) (G : va_G) (cy : Nat → ClassId) (ad : Nat → Nat) (σ τ : sl_M) (q : Int32) (a : Int32) (b : Int32) (hq : ¬ q < 0) (hq2 : ¬ q ≤ (2 : Int32)) : sl_C l G cy ad yX3_begin wsX3_begin ({ frames := 0, cells := 0, slots := 0, locals := 0 }) [.ref (ad (18)), .int q, .int a, .int b] σ τ (some (.int (-1 : Int32))) σ τ := by
  refine sl_of (cc := cX3_begin) (maxL := 4) (ret := (some .int)) (by decide) rfl (Nat.le_of_ble_eq_true rfl) ?_
  intro p e s m below meth c hx hb hr hml hts hown hlocks hK hN hD hP hS ls hl
  have hown : s.vm.findClass RX3 = some m.cls := hown
  have hl : lv_has ls 4 [(0, .ref (ad (18))), (1, .int q), (2, .int a), (3, .int b)] := hl
  refine lv_iload_n hx hb dX3_begin_0 rfl (lv_at hl 1 rfl) ?_
  refine lv_if_lt (tgt := 9) hx hb dX3_begin_1 (by decide) (fun h9 => absurd h9 hq) (fun _ => ?_)
  refine lv_iload_n hx hb dX3_begin_4 rfl (lv_at hl 1 rfl) ?_
  refine lv_iconst (v := (2 : Int32)) hx hb dX3_begin_5 (by decide) ?_
  refine lv_icmp_le (tgt := 11) hx hb dX3_begin_6 (by decide) (fun h9 => absurd h9 hq2) (fun _ => ?_)
  refine lv_iconst (v := (-1 : Int32)) hx hb dX3_begin_9 (by decide) ?_
  exact sl_iret hx hb hr hlocks hP hS rfl rfl rfl dX3_begin_10
def sp_X3_end (τ : sl_M) (q : Int32) (a : Int32) (b : Int32) : Int32 × sl_M := ((1 : Int32), (sl_up (sl_up (sl_up τ 24 q.toNatClampNeg (0 : Int32)) 27 q.toNatClampNeg a) 28 q.toNatClampNeg b))
set_option maxHeartbeats 4000000 in
set_option maxRecDepth 100000 in
theorem c_X3_end (l : Launch) (G : va_G) (cy : Nat → ClassId) (ad : Nat → Nat) (σ τ : sl_M) (q : Int32) (a : Int32) (b : Int32) (hc : vp_in q 3) : sl_C l G cy ad yX3_end wsX3_end ({ frames := 0, cells := 0, slots := 0, locals := 0 }) [.ref (ad (18)), .int q, .int a, .int b] σ τ (some (.int (sp_X3_end τ q a b).1)) σ (sp_X3_end τ q a b).2 := by
  refine sl_of (cc := cX3_end) (maxL := 4) (ret := (some .int)) (by decide) rfl (Nat.le_of_ble_eq_true rfl) ?_
  intro p e s m below meth c hx hb hr hml hts hown hlocks hK hN hD hP hS ls hl
  have hown : s.vm.findClass RX3 = some m.cls := hown
  have hl : lv_has ls 4 [(0, .ref (ad (18))), (1, .int q), (2, .int a), (3, .int b)] := hl
  have hi3 : ∀ w ∈ wsX30, w ∈ wsX3_end := fun _ h => (List.mem_cons_of_mem _ (List.mem_append_right _ h))
  refine lv_aload_n hx hb dX3_end_0 rfl (lv_at hl 0 rfl) ?_
  refine va_get (D := G) (ci := 3) (v := .ref (ad (24))) (C := RX3) (T := TX3) (N := 19) hx hb hts hi3 hown hK hP 18 sl_aM rfl 10 (by decide) (hts _ mw_X3_end_1) (fun _ h9 => h9) rfl dX3_end_1 ?_
  refine lv_iload_n hx hb dX3_end_4 rfl (lv_at hl 1 rfl) ?_
  refine lv_iconst (v := (0 : Int32)) hx hb dX3_end_5 (by decide) ?_
  refine sl_stR 24 3 hx hb hK hD hP hS (by decide) (by decide) rfl hc dX3_end_6 (fun H locs hP hS => ?_)
  refine lv_aload_n hx hb dX3_end_7 rfl (lv_at hl 0 rfl) ?_
  refine va_get (D := G) (ci := 3) (v := .ref (ad (27))) (C := RX3) (T := TX3) (N := 19) hx hb hts hi3 hown hK hP 18 sl_aM rfl 13 (by decide) (hts _ mw_X3_end_2) (fun _ h9 => h9) rfl dX3_end_8 ?_
  refine lv_iload_n hx hb dX3_end_11 rfl (lv_at hl 1 rfl) ?_
  refine lv_iload_n hx hb dX3_end_12 rfl (lv_at hl 2 rfl) ?_
  refine sl_stR 27 3 hx hb hK hD hP hS (by decide) (by decide) rfl hc dX3_end_13 (fun H locs hP hS => ?_)
  refine lv_aload_n hx hb dX3_end_14 rfl (lv_at hl 0 rfl) ?_
  refine va_get (D := G) (ci := 3) (v := .ref (ad (28))) (C := RX3) (T := TX3) (N := 19) hx hb hts hi3 hown hK hP 18 sl_aM rfl 14 (by decide) (hts _ mw_X3_end_3) (fun _ h9 => h9) rfl dX3_end_15 ?_
  refine lv_iload_n hx hb dX3_end_18 rfl (lv_at hl 1 rfl) ?_
  refine lv_iload_n hx hb dX3_end_19 rfl (lv_at hl 3 rfl) ?_
  refine sl_stR 28 3 hx hb hK hD hP hS (by decide) (by decide) rfl hc dX3_end_20 (fun H locs hP hS => ?_)
  refine lv_iconst (v := (1 : Int32)) hx hb dX3_end_21 (by decide) ?_
  have e_q : (sp_X3_end τ q a b) = ((1 : Int32), (sl_up (sl_up (sl_up τ 24 q.toNatClampNeg (0 : Int32)) 27 q.toNatClampNeg a) 28 q.toNatClampNeg b)) := by rw [sp_X3_end]
  exact sl_iret hx hb hr hlocks hP hS (by rw [e_q]) rfl (by rw [e_q]) dX3_end_22
