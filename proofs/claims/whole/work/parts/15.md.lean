def sp_X3_alongChain_in_178 (τ1 : sl_M) (q : Int32) (v : Int32) (w : Int32) (z : Int32) : Int32 × sl_M := 
  if v ≤ ((sl_up τ1 31 q.toNatClampNeg ((τ1 31 q.toNatClampNeg) + (1 : Int32))) 31 q.toNatClampNeg) then 
    if ((sl_up τ1 31 q.toNatClampNeg ((τ1 31 q.toNatClampNeg) + (1 : Int32))) 24 q.toNatClampNeg) = (1 : Int32) then (((sp_X3_end (sl_up τ1 31 q.toNatClampNeg ((τ1 31 q.toNatClampNeg) + (1 : Int32))) q (1 : Int32) ((sl_up τ1 31 q.toNatClampNeg ((τ1 31 q.toNatClampNeg) + (1 : Int32))) 29 q.toNatClampNeg)).1), (sp_X3_end (sl_up τ1 31 q.toNatClampNeg ((τ1 31 q.toNatClampNeg) + (1 : Int32))) q (1 : Int32) ((sl_up τ1 31 q.toNatClampNeg ((τ1 31 q.toNatClampNeg) + (1 : Int32))) 29 q.toNatClampNeg)).2)
    else (((sp_X3_end (sl_up τ1 31 q.toNatClampNeg ((τ1 31 q.toNatClampNeg) + (1 : Int32))) q (1 : Int32) ((sl_up τ1 31 q.toNatClampNeg ((τ1 31 q.toNatClampNeg) + (1 : Int32))) 30 q.toNatClampNeg)).1), (sp_X3_end (sl_up τ1 31 q.toNatClampNeg ((τ1 31 q.toNatClampNeg) + (1 : Int32))) q (1 : Int32) ((sl_up τ1 31 q.toNatClampNeg ((τ1 31 q.toNatClampNeg) + (1 : Int32))) 30 q.toNatClampNeg)).2)
  else ((0 : Int32), (sl_up τ1 31 q.toNatClampNeg ((τ1 31 q.toNatClampNeg) + (1 : Int32))))

def sp_X3_alongChain_in_154 (τ1 : sl_M) (q : Int32) (v : Int32) (w : Int32) (z : Int32) : Int32 × sl_M := 
  if z = (-2 : Int32) then (sp_X3_alongChain_in_178 (sp_X3_put τ1 w (τ1 29 q.toNatClampNeg) (τ1 30 q.toNatClampNeg)) q v w z)
  else (sp_X3_alongChain_in_178 τ1 q v w z)

def sp_X3_alongChain_in_91 (τ : sl_M) (q : Int32) (v : Int32) (w : Int32) (z : Int32) : Int32 × sl_M := 
  if (τ 24 q.toNatClampNeg) = (1 : Int32) then 
    if z = (-2 : Int32) then (sp_X3_alongChain_in_154 τ q v w z)
    else if (τ 31 q.toNatClampNeg) = 0 then ((0 : Int32), (sl_up τ 29 q.toNatClampNeg (-1 : Int32)))
    else (sp_X3_alongChain_in_154 τ q v w z)
  else if (τ 31 q.toNatClampNeg) = 0 then 
    if z = (-2 : Int32) then (sp_X3_alongChain_in_154 (sl_up τ 30 q.toNatClampNeg (-1 : Int32)) q v w z)
    else (sp_X3_alongChain_in_154 (sl_up τ 30 q.toNatClampNeg z) q v w z)
  else (sp_X3_alongChain_in_154 τ q v w z)

def sp_X3_alongChain_in_42 (τ : sl_M) (q : Int32) (v : Int32) (w : Int32) : Int32 × sl_M := 
  if (τ 23 w.toNatClampNeg) = (1 : Int32) then ((-3 : Int32), τ)
  else if (τ 22 w.toNatClampNeg) ≤ (τ 25 q.toNatClampNeg) then (sp_X3_alongChain_in_91 τ q v w (sp_X3_look τ w (τ 29 q.toNatClampNeg)))
  else (((sp_X3_end τ q (2 : Int32) (0 : Int32)).1), (sp_X3_end τ q (2 : Int32) (0 : Int32)).2)

def sp_X3_alongChain_in (τ : sl_M) (q : Int32) : Int32 × sl_M := (sp_X3_alongChain_in_42 τ q (sp_X3_length (τ 26 q.toNatClampNeg) ((τ 29 q.toNatClampNeg) - (τ 29 q.toNatClampNeg) / (2 : Int32) * (2 : Int32))) (sp_X3_nth (τ 26 q.toNatClampNeg) ((τ 29 q.toNatClampNeg) - (τ 29 q.toNatClampNeg) / (2 : Int32) * (2 : Int32)) (τ 31 q.toNatClampNeg)))
set_option maxHeartbeats 4000000 in
set_option maxRecDepth 100000 in
theorem c_X3_alongChain_in (l : Launch) (G : va_G) (cy : Nat → ClassId) (ad : Nat → Nat) (σ τ : sl_M) (q : Int32) (hc : vp_in q 3) (hr0 : 0 ≤ (τ 18 0).toInt) (hr1 : (τ 18 0).toInt ≤ 192) (hu : vp_in (sp_X3_nth (τ 26 q.toNatClampNeg) ((τ 29 q.toNatClampNeg) - (τ 29 q.toNatClampNeg) / (2 : Int32) * (2 : Int32)) (τ 31 q.toNatClampNeg)) 6) (hp : (sp_X3_look τ (sp_X3_nth (τ 26 q.toNatClampNeg) ((τ 29 q.toNatClampNeg) - (τ 29 q.toNatClampNeg) / (2 : Int32) * (2 : Int32)) (τ 31 q.toNatClampNeg)) (τ 29 q.toNatClampNeg) = (-2 : Int32) → vp_in (τ 18 0) 192)) : sl_C l G cy ad yX3_alongChain wsX3_alongChain ({ frames := 1, cells := 0, slots := 0, locals := 24 }) [.ref (ad (18)), .int q] σ τ (some (.int (sp_X3_alongChain_in τ q).1)) σ (sp_X3_alongChain_in τ q).2 := by
  refine sl_of (cc := cX3_alongChain) (maxL := 5) (ret := (some .int)) (by decide) rfl (Nat.le_of_ble_eq_true rfl) ?_
  intro p e s m below meth c hx hb hr hml hts hown hlocks hK hN hD hP hS ls hl
  have hown : s.vm.findClass RX3 = some m.cls := hown
  have hl : lv_has ls 5 [(0, .ref (ad (18))), (1, .int q)] := hl
  have hi3 : ∀ w ∈ wsX30, w ∈ wsX3_alongChain := fun _ h => (List.mem_cons_of_mem _ (List.mem_append_right _ h))
  have K178 : ∀ (τ1 : sl_M) (v : Int32) (w : Int32) (z : Int32) (H : Heap) (locs : List Loc) (ls : Array Slot), va_P G vwCl (sl_wd cy ad σ τ1) H → va_S (sl_A ad s.heap.size) s.heap H locs → lv_has ls 5 [(4, .int z), (3, .int w), (2, .int v), (0, .ref (ad (18))), (1, .int q)] → (sp_X3_alongChain_in τ q) = (sp_X3_alongChain_in_178 τ1 q v w z) → W p l e ({ frames := 1, cells := 0, slots := 0, locals := 24 }) s m ([.ref (ad (18)), .int q] : List Value).toArray below meth c H locs 0 0 (sl_Z G cy ad (some (.int (sp_X3_alongChain_in τ q).1)) σ (sp_X3_alongChain_in τ q).2 [.ref (ad (18)), .int q] below s) (F0 m 178 ls []) := by
    intro τ1 v w z H locs ls hP hS hl e_q0
    refine lv_aload_n hx hb dX3_alongChain_178 rfl (lv_at hl 3 rfl) ?_
    refine va_get (D := G) (ci := 3) (v := .ref (ad (31))) (C := RX3) (T := TX3) (N := 19) hx hb hts hi3 hown hK hP 18 sl_aM rfl 17 (by decide) (hts _ mw_X3_alongChain_3) (fun _ h9 => h9) rfl dX3_alongChain_179 ?_
    refine lv_iload_n hx hb dX3_alongChain_182 rfl (lv_at hl 4 rfl) ?_
    refine lv_aload_n hx hb dX3_alongChain_183 rfl (lv_at hl 3 rfl) ?_
    refine va_get (D := G) (ci := 3) (v := .ref (ad (31))) (C := RX3) (T := TX3) (N := 19) hx hb hts hi3 hown hK hP 18 sl_aM rfl 17 (by decide) (hts _ mw_X3_alongChain_3) (fun _ h9 => h9) rfl dX3_alongChain_184 ?_
    refine lv_iload_n hx hb dX3_alongChain_187 rfl (lv_at hl 4 rfl) ?_
    refine sl_ldR 31 3 hx hb hK hP (by decide) (by decide) rfl hc dX3_alongChain_188 ?_
    refine lv_iconst (v := (1 : Int32)) hx hb dX3_alongChain_189 (by decide) ?_
    refine lv_iadd hx hb dX3_alongChain_190 ?_
    refine sl_stR 31 3 hx hb hK hD hP hS (by decide) (by decide) rfl hc dX3_alongChain_191 (fun H locs hP hS => ?_)
    refine lv_aload_n hx hb dX3_alongChain_192 rfl (lv_at hl 3 rfl) ?_
    refine va_get (D := G) (ci := 3) (v := .ref (ad (31))) (C := RX3) (T := TX3) (N := 19) hx hb hts hi3 hown hK hP 18 sl_aM rfl 17 (by decide) (hts _ mw_X3_alongChain_3) (fun _ h9 => h9) rfl dX3_alongChain_193 ?_
    refine lv_iload_n hx hb dX3_alongChain_196 rfl (lv_at hl 4 rfl) ?_
    refine sl_ldR 31 3 hx hb hK hP (by decide) (by decide) rfl hc dX3_alongChain_197 ?_
    refine lv_iload_n hx hb dX3_alongChain_198 rfl (lv_at hl 2 rfl) ?_
    refine lv_icmp_ge (tgt := 204) hx hb dX3_alongChain_199 (by decide) (fun c_1 => ?_) (fun c_1 => ?_)
    · refine lv_aload_n hx hb dX3_alongChain_204 rfl (lv_at hl 3 rfl) ?_
      refine lv_iload_n hx hb dX3_alongChain_205 rfl (lv_at hl 4 rfl) ?_
      refine lv_iconst (v := (1 : Int32)) hx hb dX3_alongChain_206 (by decide) ?_
      refine lv_aload_n hx hb dX3_alongChain_207 rfl (lv_at hl 3 rfl) ?_
      refine va_get (D := G) (ci := 3) (v := .ref (ad (24))) (C := RX3) (T := TX3) (N := 19) hx hb hts hi3 hown hK hP 18 sl_aM rfl 10 (by decide) (hts _ mw_X3_alongChain_7) (fun _ h9 => h9) rfl dX3_alongChain_208 ?_
      refine lv_iload_n hx hb dX3_alongChain_211 rfl (lv_at hl 4 rfl) ?_
      refine sl_ldR 24 3 hx hb hK hP (by decide) (by decide) rfl hc dX3_alongChain_212 ?_
      refine lv_iconst (v := (1 : Int32)) hx hb dX3_alongChain_213 (by decide) ?_
      refine lv_icmp_ne (tgt := 226) hx hb dX3_alongChain_214 (by decide) (fun c_2 => ?_) (fun c_2 => ?_)
      · refine lv_aload_n hx hb dX3_alongChain_226 rfl (lv_at hl 3 rfl) ?_
        refine va_get (D := G) (ci := 3) (v := .ref (ad (30))) (C := RX3) (T := TX3) (N := 19) hx hb hts hi3 hown hK hP 18 sl_aM rfl 16 (by decide) (hts _ mw_X3_alongChain_8) (fun _ h9 => h9) rfl dX3_alongChain_227 ?_
        refine lv_iload_n hx hb dX3_alongChain_230 rfl (lv_at hl 4 rfl) ?_
        refine sl_ldR 30 3 hx hb hK hP (by decide) (by decide) rfl hc dX3_alongChain_231 ?_
        refine sl_cV (n := 3) (As := [.int q, .int (1 : Int32), .int ((sl_up τ1 31 q.toNatClampNeg ((τ1 31 q.toNatClampNeg) + (1 : Int32))) 30 q.toNatClampNeg)]) (rest := []) ⟨hx, hb, hml, hown, hts⟩ (c_X3_end l G cy ad σ (sl_up τ1 31 q.toNatClampNeg ((τ1 31 q.toNatClampNeg) + (1 : Int32))) q (1 : Int32) ((sl_up τ1 31 q.toNatClampNeg ((τ1 31 q.toNatClampNeg) + (1 : Int32))) 30 q.toNatClampNeg) hc) gX3_alongChain_X3_end rfl rfl rfl (by decide +kernel) ⟨Nat.le_of_ble_eq_true rfl, Nat.le_of_ble_eq_true rfl⟩ (va_recv hK hP (ci := 3) (q0 := 18) rfl sl_aM) rfl hl.1 rfl (Nat.le_of_ble_eq_true rfl) dX3_alongChain_232 ⟨Nat.zero_le _, Nat.zero_le _⟩ hK hN hD hP hS (fun H locs hP hS => ?_)
        refine W.eq (g2 := F0 m 235 ls [.int ((sp_X3_end (sl_up τ1 31 q.toNatClampNeg ((τ1 31 q.toNatClampNeg) + (1 : Int32))) q (1 : Int32) ((sl_up τ1 31 q.toNatClampNeg ((τ1 31 q.toNatClampNeg) + (1 : Int32))) 30 q.toNatClampNeg)).1)]) rfl ?_
        have e_q : (sp_X3_alongChain_in τ q) = (((sp_X3_end (sl_up τ1 31 q.toNatClampNeg ((τ1 31 q.toNatClampNeg) + (1 : Int32))) q (1 : Int32) ((sl_up τ1 31 q.toNatClampNeg ((τ1 31 q.toNatClampNeg) + (1 : Int32))) 30 q.toNatClampNeg)).1), (sp_X3_end (sl_up τ1 31 q.toNatClampNeg ((τ1 31 q.toNatClampNeg) + (1 : Int32))) q (1 : Int32) ((sl_up τ1 31 q.toNatClampNeg ((τ1 31 q.toNatClampNeg) + (1 : Int32))) 30 q.toNatClampNeg)).2) := by rw [e_q0, sp_X3_alongChain_in_178, if_pos c_1, if_neg c_2]
        exact sl_iret hx hb hr hlocks hP hS (by rw [e_q]) rfl (by rw [e_q]) dX3_alongChain_235
      · refine lv_aload_n hx hb dX3_alongChain_217 rfl (lv_at hl 3 rfl) ?_
        refine va_get (D := G) (ci := 3) (v := .ref (ad (29))) (C := RX3) (T := TX3) (N := 19) hx hb hts hi3 hown hK hP 18 sl_aM rfl 15 (by decide) (hts _ mw_X3_alongChain_2) (fun _ h9 => h9) rfl dX3_alongChain_218 ?_
        refine lv_iload_n hx hb dX3_alongChain_221 rfl (lv_at hl 4 rfl) ?_
        refine sl_ldR 29 3 hx hb hK hP (by decide) (by decide) rfl hc dX3_alongChain_222 ?_
        refine lv_goto (tgt := 232) hx hb dX3_alongChain_223 (by decide) ?_
        refine sl_cV (n := 3) (As := [.int q, .int (1 : Int32), .int ((sl_up τ1 31 q.toNatClampNeg ((τ1 31 q.toNatClampNeg) + (1 : Int32))) 29 q.toNatClampNeg)]) (rest := []) ⟨hx, hb, hml, hown, hts⟩ (c_X3_end l G cy ad σ (sl_up τ1 31 q.toNatClampNeg ((τ1 31 q.toNatClampNeg) + (1 : Int32))) q (1 : Int32) ((sl_up τ1 31 q.toNatClampNeg ((τ1 31 q.toNatClampNeg) + (1 : Int32))) 29 q.toNatClampNeg) hc) gX3_alongChain_X3_end rfl rfl rfl (by decide +kernel) ⟨Nat.le_of_ble_eq_true rfl, Nat.le_of_ble_eq_true rfl⟩ (va_recv hK hP (ci := 3) (q0 := 18) rfl sl_aM) rfl hl.1 rfl (Nat.le_of_ble_eq_true rfl) dX3_alongChain_232 ⟨Nat.zero_le _, Nat.zero_le _⟩ hK hN hD hP hS (fun H locs hP hS => ?_)
        refine W.eq (g2 := F0 m 235 ls [.int ((sp_X3_end (sl_up τ1 31 q.toNatClampNeg ((τ1 31 q.toNatClampNeg) + (1 : Int32))) q (1 : Int32) ((sl_up τ1 31 q.toNatClampNeg ((τ1 31 q.toNatClampNeg) + (1 : Int32))) 29 q.toNatClampNeg)).1)]) rfl ?_
        have e_q : (sp_X3_alongChain_in τ q) = (((sp_X3_end (sl_up τ1 31 q.toNatClampNeg ((τ1 31 q.toNatClampNeg) + (1 : Int32))) q (1 : Int32) ((sl_up τ1 31 q.toNatClampNeg ((τ1 31 q.toNatClampNeg) + (1 : Int32))) 29 q.toNatClampNeg)).1), (sp_X3_end (sl_up τ1 31 q.toNatClampNeg ((τ1 31 q.toNatClampNeg) + (1 : Int32))) q (1 : Int32) ((sl_up τ1 31 q.toNatClampNeg ((τ1 31 q.toNatClampNeg) + (1 : Int32))) 29 q.toNatClampNeg)).2) := by rw [e_q0, sp_X3_alongChain_in_178, if_pos c_1, if_pos c_2]
        exact sl_iret hx hb hr hlocks hP hS (by rw [e_q]) rfl (by rw [e_q]) dX3_alongChain_235
    · refine lv_iconst (v := (0 : Int32)) hx hb dX3_alongChain_202 (by decide) ?_
      have e_q : (sp_X3_alongChain_in τ q) = ((0 : Int32), (sl_up τ1 31 q.toNatClampNeg ((τ1 31 q.toNatClampNeg) + (1 : Int32)))) := by rw [e_q0, sp_X3_alongChain_in_178, if_neg c_1]
      exact sl_iret hx hb hr hlocks hP hS (by rw [e_q]) rfl (by rw [e_q]) dX3_alongChain_203
  have K154 : ∀ (τ1 : sl_M) (v : Int32) (w : Int32) (z : Int32) (H : Heap) (locs : List Loc) (ls : Array Slot), (z = (-2 : Int32) → vp_in (τ1 18 0) 192) → va_P G vwCl (sl_wd cy ad σ τ1) H → va_S (sl_A ad s.heap.size) s.heap H locs → lv_has ls 5 [(4, .int z), (3, .int w), (2, .int v), (0, .ref (ad (18))), (1, .int q)] → (sp_X3_alongChain_in τ q) = (sp_X3_alongChain_in_154 τ1 q v w z) → W p l e ({ frames := 1, cells := 0, slots := 0, locals := 24 }) s m ([.ref (ad (18)), .int q] : List Value).toArray below meth c H locs 0 0 (sl_Z G cy ad (some (.int (sp_X3_alongChain_in τ q).1)) σ (sp_X3_alongChain_in τ q).2 [.ref (ad (18)), .int q] below s) (F0 m 154 ls []) := by
    intro τ1 v w z H locs ls hp hP hS hl e_q0
    refine lv_iload hx hb dX3_alongChain_154 (lv_at hl 0 rfl) ?_
    refine lv_bipush (v := (-2 : Int32)) hx hb dX3_alongChain_156 (by decide) ?_
    refine lv_icmp_ne (tgt := 178) hx hb dX3_alongChain_158 (by decide) (fun c_3 => ?_) (fun c_3 => ?_)
    · exact K178 τ1 v w z _ _ ls hP hS (lv_sub hl [0, 1, 2, 3, 4] rfl) (by rw [e_q0, sp_X3_alongChain_in_154, if_neg c_3])
    · refine lv_aload_n hx hb dX3_alongChain_161 rfl (lv_at hl 3 rfl) ?_
      refine lv_iload_n hx hb dX3_alongChain_162 rfl (lv_at hl 1 rfl) ?_
      refine lv_aload_n hx hb dX3_alongChain_163 rfl (lv_at hl 3 rfl) ?_
      refine va_get (D := G) (ci := 3) (v := .ref (ad (29))) (C := RX3) (T := TX3) (N := 19) hx hb hts hi3 hown hK hP 18 sl_aM rfl 15 (by decide) (hts _ mw_X3_alongChain_2) (fun _ h9 => h9) rfl dX3_alongChain_164 ?_
      refine lv_iload_n hx hb dX3_alongChain_167 rfl (lv_at hl 4 rfl) ?_
      refine sl_ldR 29 3 hx hb hK hP (by decide) (by decide) rfl hc dX3_alongChain_168 ?_
      refine lv_aload_n hx hb dX3_alongChain_169 rfl (lv_at hl 3 rfl) ?_
      refine va_get (D := G) (ci := 3) (v := .ref (ad (30))) (C := RX3) (T := TX3) (N := 19) hx hb hts hi3 hown hK hP 18 sl_aM rfl 16 (by decide) (hts _ mw_X3_alongChain_8) (fun _ h9 => h9) rfl dX3_alongChain_170 ?_
      refine lv_iload_n hx hb dX3_alongChain_173 rfl (lv_at hl 4 rfl) ?_
      refine sl_ldR 30 3 hx hb hK hP (by decide) (by decide) rfl hc dX3_alongChain_174 ?_
      refine sl_cV (n := 3) (As := [.int w, .int (τ1 29 q.toNatClampNeg), .int (τ1 30 q.toNatClampNeg)]) (rest := []) ⟨hx, hb, hml, hown, hts⟩ (c_X3_put l G cy ad σ τ1 w (τ1 29 q.toNatClampNeg) (τ1 30 q.toNatClampNeg) (hp c_3)) gX3_alongChain_X3_put rfl rfl rfl (by decide +kernel) ⟨Nat.le_of_ble_eq_true rfl, Nat.le_of_ble_eq_true rfl⟩ (va_recv hK hP (ci := 3) (q0 := 18) rfl sl_aM) rfl hl.1 rfl (Nat.le_of_ble_eq_true rfl) dX3_alongChain_175 ⟨Nat.zero_le _, Nat.zero_le _⟩ hK hN hD hP hS (fun H locs hP hS => ?_)
      refine W.eq (g2 := F0 m 178 ls []) rfl ?_
      exact K178 (sp_X3_put τ1 w (τ1 29 q.toNatClampNeg) (τ1 30 q.toNatClampNeg)) v w z _ _ ls hP hS (lv_sub hl [0, 1, 2, 3, 4] rfl) (by rw [e_q0, sp_X3_alongChain_in_154, if_pos c_3])
  have K91 : ∀ (v : Int32) (w : Int32) (z : Int32) (H : Heap) (locs : List Loc) (ls : Array Slot), (z = (-2 : Int32) → vp_in (τ 18 0) 192) → va_P G vwCl (sl_wd cy ad σ τ) H → va_S (sl_A ad s.heap.size) s.heap H locs → lv_has ls 5 [(4, .int z), (3, .int w), (2, .int v), (0, .ref (ad (18))), (1, .int q)] → (sp_X3_alongChain_in τ q) = (sp_X3_alongChain_in_91 τ q v w z) → W p l e ({ frames := 1, cells := 0, slots := 0, locals := 24 }) s m ([.ref (ad (18)), .int q] : List Value).toArray below meth c H locs 0 0 (sl_Z G cy ad (some (.int (sp_X3_alongChain_in τ q).1)) σ (sp_X3_alongChain_in τ q).2 [.ref (ad (18)), .int q] below s) (F0 m 91 ls []) := by
    intro v w z H locs ls hp hP hS hl e_q0
    refine lv_aload_n hx hb dX3_alongChain_91 rfl (lv_at hl 3 rfl) ?_
    refine va_get (D := G) (ci := 3) (v := .ref (ad (24))) (C := RX3) (T := TX3) (N := 19) hx hb hts hi3 hown hK hP 18 sl_aM rfl 10 (by decide) (hts _ mw_X3_alongChain_7) (fun _ h9 => h9) rfl dX3_alongChain_92 ?_
    refine lv_iload_n hx hb dX3_alongChain_95 rfl (lv_at hl 4 rfl) ?_
    refine sl_ldR 24 3 hx hb hK hP (by decide) (by decide) rfl hc dX3_alongChain_96 ?_
    refine lv_iconst (v := (1 : Int32)) hx hb dX3_alongChain_97 (by decide) ?_
    refine lv_icmp_ne (tgt := 126) hx hb dX3_alongChain_98 (by decide) (fun c_4 => ?_) (fun c_4 => ?_)
    · refine lv_aload_n hx hb dX3_alongChain_126 rfl (lv_at hl 3 rfl) ?_
      refine va_get (D := G) (ci := 3) (v := .ref (ad (31))) (C := RX3) (T := TX3) (N := 19) hx hb hts hi3 hown hK hP 18 sl_aM rfl 17 (by decide) (hts _ mw_X3_alongChain_3) (fun _ h9 => h9) rfl dX3_alongChain_127 ?_
      refine lv_iload_n hx hb dX3_alongChain_130 rfl (lv_at hl 4 rfl) ?_
      refine sl_ldR 31 3 hx hb hK hP (by decide) (by decide) rfl hc dX3_alongChain_131 ?_
      refine lv_if_ne (tgt := 154) hx hb dX3_alongChain_132 (by decide) (fun c_5 => ?_) (fun c_5 => ?_)
      · exact K154 τ v w z _ _ ls (by intro h9; first | exact hp h9 | (rw [sl_up_k (by decide)]; exact hp h9)) hP hS (lv_sub hl [0, 1, 2, 3, 4] rfl) (by rw [e_q0, sp_X3_alongChain_in_91, if_neg c_4, if_neg c_5])
      · refine lv_aload_n hx hb dX3_alongChain_135 rfl (lv_at hl 3 rfl) ?_
        refine va_get (D := G) (ci := 3) (v := .ref (ad (30))) (C := RX3) (T := TX3) (N := 19) hx hb hts hi3 hown hK hP 18 sl_aM rfl 16 (by decide) (hts _ mw_X3_alongChain_8) (fun _ h9 => h9) rfl dX3_alongChain_136 ?_
        refine lv_iload_n hx hb dX3_alongChain_139 rfl (lv_at hl 4 rfl) ?_
        refine lv_iload hx hb dX3_alongChain_140 (lv_at hl 0 rfl) ?_
        refine lv_bipush (v := (-2 : Int32)) hx hb dX3_alongChain_142 (by decide) ?_
        refine lv_icmp_ne (tgt := 151) hx hb dX3_alongChain_144 (by decide) (fun c_6 => ?_) (fun c_6 => ?_)
        · refine lv_iload hx hb dX3_alongChain_151 (lv_at hl 0 rfl) ?_
          refine sl_stR 30 3 hx hb hK hD hP hS (by decide) (by decide) rfl hc dX3_alongChain_153 (fun H locs hP hS => ?_)
          exact K154 (sl_up τ 30 q.toNatClampNeg z) v w z _ _ ls (by intro h9; first | exact hp h9 | (rw [sl_up_k (by decide)]; exact hp h9)) hP hS (lv_sub hl [0, 1, 2, 3, 4] rfl) (by rw [e_q0, sp_X3_alongChain_in_91, if_neg c_4, if_pos c_5, if_neg c_6])
        · refine lv_iconst (v := (-1 : Int32)) hx hb dX3_alongChain_147 (by decide) ?_
          refine lv_goto (tgt := 153) hx hb dX3_alongChain_148 (by decide) ?_
          refine sl_stR 30 3 hx hb hK hD hP hS (by decide) (by decide) rfl hc dX3_alongChain_153 (fun H locs hP hS => ?_)
          exact K154 (sl_up τ 30 q.toNatClampNeg (-1 : Int32)) v w z _ _ ls (by intro h9; first | exact hp h9 | (rw [sl_up_k (by decide)]; exact hp h9)) hP hS (lv_sub hl [0, 1, 2, 3, 4] rfl) (by rw [e_q0, sp_X3_alongChain_in_91, if_neg c_4, if_pos c_5, if_pos c_6])
    · refine lv_iload hx hb dX3_alongChain_101 (lv_at hl 0 rfl) ?_
      refine lv_bipush (v := (-2 : Int32)) hx hb dX3_alongChain_103 (by decide) ?_
      refine lv_icmp_eq (tgt := 154) hx hb dX3_alongChain_105 (by decide) (fun c_7 => ?_) (fun c_7 => ?_)
      · exact K154 τ v w z _ _ ls (by intro h9; first | exact hp h9 | (rw [sl_up_k (by decide)]; exact hp h9)) hP hS (lv_sub hl [0, 1, 2, 3, 4] rfl) (by rw [e_q0, sp_X3_alongChain_in_91, if_pos c_4, if_pos c_7])
      · refine lv_aload_n hx hb dX3_alongChain_108 rfl (lv_at hl 3 rfl) ?_
        refine va_get (D := G) (ci := 3) (v := .ref (ad (31))) (C := RX3) (T := TX3) (N := 19) hx hb hts hi3 hown hK hP 18 sl_aM rfl 17 (by decide) (hts _ mw_X3_alongChain_3) (fun _ h9 => h9) rfl dX3_alongChain_109 ?_
        refine lv_iload_n hx hb dX3_alongChain_112 rfl (lv_at hl 4 rfl) ?_
        refine sl_ldR 31 3 hx hb hK hP (by decide) (by decide) rfl hc dX3_alongChain_113 ?_
        refine lv_if_ne (tgt := 154) hx hb dX3_alongChain_114 (by decide) (fun c_8 => ?_) (fun c_8 => ?_)
        · exact K154 τ v w z _ _ ls (by intro h9; first | exact hp h9 | (rw [sl_up_k (by decide)]; exact hp h9)) hP hS (lv_sub hl [0, 1, 2, 3, 4] rfl) (by rw [e_q0, sp_X3_alongChain_in_91, if_pos c_4, if_neg c_7, if_neg c_8])
        · refine lv_aload_n hx hb dX3_alongChain_117 rfl (lv_at hl 3 rfl) ?_
          refine va_get (D := G) (ci := 3) (v := .ref (ad (29))) (C := RX3) (T := TX3) (N := 19) hx hb hts hi3 hown hK hP 18 sl_aM rfl 15 (by decide) (hts _ mw_X3_alongChain_2) (fun _ h9 => h9) rfl dX3_alongChain_118 ?_
          refine lv_iload_n hx hb dX3_alongChain_121 rfl (lv_at hl 4 rfl) ?_
          refine lv_iconst (v := (-1 : Int32)) hx hb dX3_alongChain_122 (by decide) ?_
          refine sl_stR 29 3 hx hb hK hD hP hS (by decide) (by decide) rfl hc dX3_alongChain_123 (fun H locs hP hS => ?_)
          refine lv_iconst (v := (0 : Int32)) hx hb dX3_alongChain_124 (by decide) ?_
          have e_q : (sp_X3_alongChain_in τ q) = ((0 : Int32), (sl_up τ 29 q.toNatClampNeg (-1 : Int32))) := by rw [e_q0, sp_X3_alongChain_in_91, if_pos c_4, if_neg c_7, if_pos c_8]
          exact sl_iret hx hb hr hlocks hP hS (by rw [e_q]) rfl (by rw [e_q]) dX3_alongChain_125
  have K42 : ∀ (v : Int32) (w : Int32) (H : Heap) (locs : List Loc) (ls : Array Slot), vp_in w 6 → (sp_X3_look τ w (τ 29 q.toNatClampNeg) = (-2 : Int32) → vp_in (τ 18 0) 192) → va_P G vwCl (sl_wd cy ad σ τ) H → va_S (sl_A ad s.heap.size) s.heap H locs → lv_has ls 5 [(3, .int w), (2, .int v), (0, .ref (ad (18))), (1, .int q)] → (sp_X3_alongChain_in τ q) = (sp_X3_alongChain_in_42 τ q v w) → W p l e ({ frames := 1, cells := 0, slots := 0, locals := 24 }) s m ([.ref (ad (18)), .int q] : List Value).toArray below meth c H locs 0 0 (sl_Z G cy ad (some (.int (sp_X3_alongChain_in τ q).1)) σ (sp_X3_alongChain_in τ q).2 [.ref (ad (18)), .int q] below s) (F0 m 42 ls []) := by
    intro v w H locs ls hu hp hP hS hl e_q0
    refine lv_aload_n hx hb dX3_alongChain_42 rfl (lv_at hl 2 rfl) ?_
    refine va_get (D := G) (ci := 3) (v := .ref (ad (23))) (C := RX3) (T := TX3) (N := 19) hx hb hts hi3 hown hK hP 18 sl_aM rfl 5 (by decide) (hts _ mw_X3_alongChain_4) (fun _ h9 => h9) rfl dX3_alongChain_43 ?_
    refine lv_iload_n hx hb dX3_alongChain_46 rfl (lv_at hl 0 rfl) ?_
    refine sl_ldR 23 6 hx hb hK hP (by decide) (by decide) rfl hu dX3_alongChain_47 ?_
    refine lv_iconst (v := (1 : Int32)) hx hb dX3_alongChain_48 (by decide) ?_
    refine lv_icmp_ne (tgt := 55) hx hb dX3_alongChain_49 (by decide) (fun c_9 => ?_) (fun c_9 => ?_)
    · refine lv_aload_n hx hb dX3_alongChain_55 rfl (lv_at hl 2 rfl) ?_
      refine va_get (D := G) (ci := 3) (v := .ref (ad (22))) (C := RX3) (T := TX3) (N := 19) hx hb hts hi3 hown hK hP 18 sl_aM rfl 4 (by decide) (hts _ mw_X3_alongChain_5) (fun _ h9 => h9) rfl dX3_alongChain_56 ?_
      refine lv_iload_n hx hb dX3_alongChain_59 rfl (lv_at hl 0 rfl) ?_
      refine sl_ldR 22 6 hx hb hK hP (by decide) (by decide) rfl hu dX3_alongChain_60 ?_
      refine lv_aload_n hx hb dX3_alongChain_61 rfl (lv_at hl 2 rfl) ?_
      refine va_get (D := G) (ci := 3) (v := .ref (ad (25))) (C := RX3) (T := TX3) (N := 19) hx hb hts hi3 hown hK hP 18 sl_aM rfl 11 (by decide) (hts _ mw_X3_alongChain_6) (fun _ h9 => h9) rfl dX3_alongChain_62 ?_
      refine lv_iload_n hx hb dX3_alongChain_65 rfl (lv_at hl 3 rfl) ?_
      refine sl_ldR 25 3 hx hb hK hP (by decide) (by decide) rfl hc dX3_alongChain_66 ?_
      refine lv_icmp_le (tgt := 78) hx hb dX3_alongChain_67 (by decide) (fun c_10 => ?_) (fun c_10 => ?_)
      · refine lv_aload_n hx hb dX3_alongChain_78 rfl (lv_at hl 2 rfl) ?_
        refine lv_iload_n hx hb dX3_alongChain_79 rfl (lv_at hl 0 rfl) ?_
        refine lv_aload_n hx hb dX3_alongChain_80 rfl (lv_at hl 2 rfl) ?_
        refine va_get (D := G) (ci := 3) (v := .ref (ad (29))) (C := RX3) (T := TX3) (N := 19) hx hb hts hi3 hown hK hP 18 sl_aM rfl 15 (by decide) (hts _ mw_X3_alongChain_2) (fun _ h9 => h9) rfl dX3_alongChain_81 ?_
        refine lv_iload_n hx hb dX3_alongChain_84 rfl (lv_at hl 3 rfl) ?_
        refine sl_ldR 29 3 hx hb hK hP (by decide) (by decide) rfl hc dX3_alongChain_85 ?_
        refine sl_cV (n := 2) (As := [.int w, .int (τ 29 q.toNatClampNeg)]) (rest := []) ⟨hx, hb, hml, hown, hts⟩ (c_X3_look l G cy ad σ τ w (τ 29 q.toNatClampNeg) hr0 hr1) gX3_alongChain_X3_look rfl rfl rfl (by decide +kernel) ⟨Nat.le_of_ble_eq_true rfl, Nat.le_of_ble_eq_true rfl⟩ (va_recv hK hP (ci := 3) (q0 := 18) rfl sl_aM) rfl hl.1 rfl (Nat.le_of_ble_eq_true rfl) dX3_alongChain_86 ⟨Nat.zero_le _, Nat.zero_le _⟩ hK hN hD hP hS (fun H locs hP hS => ?_)
        refine W.eq (g2 := F0 m 89 ls [.int (sp_X3_look τ w (τ 29 q.toNatClampNeg))]) rfl ?_
        refine lv_istore (lv' := [(4, .int (sp_X3_look τ w (τ 29 q.toNatClampNeg))), (3, .int w), (2, .int v), (0, .ref (ad (18))), (1, .int q)]) hx hb dX3_alongChain_89 hl (by decide) rfl (fun ls hl => ?_)
        exact K91 v w (sp_X3_look τ w (τ 29 q.toNatClampNeg)) _ _ ls hp hP hS (lv_sub hl [0, 1, 2, 3, 4] rfl) (by rw [e_q0, sp_X3_alongChain_in_42, if_neg c_9, if_pos c_10])
      · refine lv_aload_n hx hb dX3_alongChain_70 rfl (lv_at hl 2 rfl) ?_
        refine lv_iload_n hx hb dX3_alongChain_71 rfl (lv_at hl 3 rfl) ?_
        refine lv_iconst (v := (2 : Int32)) hx hb dX3_alongChain_72 (by decide) ?_
        refine lv_iconst (v := (0 : Int32)) hx hb dX3_alongChain_73 (by decide) ?_
        refine sl_cV (n := 3) (As := [.int q, .int (2 : Int32), .int (0 : Int32)]) (rest := []) ⟨hx, hb, hml, hown, hts⟩ (c_X3_end l G cy ad σ τ q (2 : Int32) (0 : Int32) hc) gX3_alongChain_X3_end rfl rfl rfl (by decide +kernel) ⟨Nat.le_of_ble_eq_true rfl, Nat.le_of_ble_eq_true rfl⟩ (va_recv hK hP (ci := 3) (q0 := 18) rfl sl_aM) rfl hl.1 rfl (Nat.le_of_ble_eq_true rfl) dX3_alongChain_74 ⟨Nat.zero_le _, Nat.zero_le _⟩ hK hN hD hP hS (fun H locs hP hS => ?_)
        refine W.eq (g2 := F0 m 77 ls [.int ((sp_X3_end τ q (2 : Int32) (0 : Int32)).1)]) rfl ?_
        have e_q : (sp_X3_alongChain_in τ q) = (((sp_X3_end τ q (2 : Int32) (0 : Int32)).1), (sp_X3_end τ q (2 : Int32) (0 : Int32)).2) := by rw [e_q0, sp_X3_alongChain_in_42, if_neg c_9, if_neg c_10]
        exact sl_iret hx hb hr hlocks hP hS (by rw [e_q]) rfl (by rw [e_q]) dX3_alongChain_77
    · refine lv_bipush (v := (-3 : Int32)) hx hb dX3_alongChain_52 (by decide) ?_
      have e_q : (sp_X3_alongChain_in τ q) = ((-3 : Int32), τ) := by rw [e_q0, sp_X3_alongChain_in_42, if_pos c_9]
      exact sl_iret hx hb hr hlocks hP hS (by rw [e_q]) rfl (by rw [e_q]) dX3_alongChain_54
  refine lv_aload_n hx hb dX3_alongChain_0 rfl (lv_at hl 0 rfl) ?_
  refine va_get (D := G) (ci := 3) (v := .ref (ad (26))) (C := RX3) (T := TX3) (N := 19) hx hb hts hi3 hown hK hP 18 sl_aM rfl 12 (by decide) (hts _ mw_X3_alongChain_1) (fun _ h9 => h9) rfl dX3_alongChain_1 ?_
  refine lv_iload_n hx hb dX3_alongChain_4 rfl (lv_at hl 1 rfl) ?_
  refine sl_ldR 26 3 hx hb hK hP (by decide) (by decide) rfl hc dX3_alongChain_5 ?_
  refine lv_aload_n hx hb dX3_alongChain_6 rfl (lv_at hl 0 rfl) ?_
  refine va_get (D := G) (ci := 3) (v := .ref (ad (29))) (C := RX3) (T := TX3) (N := 19) hx hb hts hi3 hown hK hP 18 sl_aM rfl 15 (by decide) (hts _ mw_X3_alongChain_2) (fun _ h9 => h9) rfl dX3_alongChain_7 ?_
  refine lv_iload_n hx hb dX3_alongChain_10 rfl (lv_at hl 1 rfl) ?_
  refine sl_ldR 29 3 hx hb hK hP (by decide) (by decide) rfl hc dX3_alongChain_11 ?_
  refine lv_iconst (v := (2 : Int32)) hx hb dX3_alongChain_12 (by decide) ?_
  refine lv_irem hx hb dX3_alongChain_13 (by decide) ?_
  refine sl_cS (n := 2) (As := [.int (τ 26 q.toNatClampNeg), .int ((τ 29 q.toNatClampNeg) - (τ 29 q.toNatClampNeg) / (2 : Int32) * (2 : Int32))]) (rest := []) ⟨hx, hb, hml, hown, hts⟩ (c_X3_length l G cy ad σ τ (τ 26 q.toNatClampNeg) ((τ 29 q.toNatClampNeg) - (τ 29 q.toNatClampNeg) / (2 : Int32) * (2 : Int32))) gX3_alongChain_X3_length rfl rfl rfl (by decide +kernel) ⟨Nat.le_of_ble_eq_true rfl, Nat.le_of_ble_eq_true rfl⟩ rfl hl.1 rfl (Nat.le_of_ble_eq_true rfl) dX3_alongChain_14 ⟨Nat.zero_le _, Nat.zero_le _⟩ hK hN hD hP hS (fun H locs hP hS => ?_)
  refine W.eq (g2 := F0 m 17 ls [.int (sp_X3_length (τ 26 q.toNatClampNeg) ((τ 29 q.toNatClampNeg) - (τ 29 q.toNatClampNeg) / (2 : Int32) * (2 : Int32)))]) rfl ?_
  refine lv_istore_n (lv' := [(2, .int (sp_X3_length (τ 26 q.toNatClampNeg) ((τ 29 q.toNatClampNeg) - (τ 29 q.toNatClampNeg) / (2 : Int32) * (2 : Int32)))), (0, .ref (ad (18))), (1, .int q)]) hx hb dX3_alongChain_17 rfl hl (by decide) rfl (fun ls hl => ?_)
  refine lv_aload_n hx hb dX3_alongChain_18 rfl (lv_at hl 1 rfl) ?_
  refine va_get (D := G) (ci := 3) (v := .ref (ad (26))) (C := RX3) (T := TX3) (N := 19) hx hb hts hi3 hown hK hP 18 sl_aM rfl 12 (by decide) (hts _ mw_X3_alongChain_1) (fun _ h9 => h9) rfl dX3_alongChain_19 ?_
  refine lv_iload_n hx hb dX3_alongChain_22 rfl (lv_at hl 2 rfl) ?_
  refine sl_ldR 26 3 hx hb hK hP (by decide) (by decide) rfl hc dX3_alongChain_23 ?_
  refine lv_aload_n hx hb dX3_alongChain_24 rfl (lv_at hl 1 rfl) ?_
  refine va_get (D := G) (ci := 3) (v := .ref (ad (29))) (C := RX3) (T := TX3) (N := 19) hx hb hts hi3 hown hK hP 18 sl_aM rfl 15 (by decide) (hts _ mw_X3_alongChain_2) (fun _ h9 => h9) rfl dX3_alongChain_25 ?_
  refine lv_iload_n hx hb dX3_alongChain_28 rfl (lv_at hl 2 rfl) ?_
  refine sl_ldR 29 3 hx hb hK hP (by decide) (by decide) rfl hc dX3_alongChain_29 ?_
  refine lv_iconst (v := (2 : Int32)) hx hb dX3_alongChain_30 (by decide) ?_
  refine lv_irem hx hb dX3_alongChain_31 (by decide) ?_
  refine lv_aload_n hx hb dX3_alongChain_32 rfl (lv_at hl 1 rfl) ?_
  refine va_get (D := G) (ci := 3) (v := .ref (ad (31))) (C := RX3) (T := TX3) (N := 19) hx hb hts hi3 hown hK hP 18 sl_aM rfl 17 (by decide) (hts _ mw_X3_alongChain_3) (fun _ h9 => h9) rfl dX3_alongChain_33 ?_
  refine lv_iload_n hx hb dX3_alongChain_36 rfl (lv_at hl 2 rfl) ?_
  refine sl_ldR 31 3 hx hb hK hP (by decide) (by decide) rfl hc dX3_alongChain_37 ?_
  refine sl_cS (n := 3) (As := [.int (τ 26 q.toNatClampNeg), .int ((τ 29 q.toNatClampNeg) - (τ 29 q.toNatClampNeg) / (2 : Int32) * (2 : Int32)), .int (τ 31 q.toNatClampNeg)]) (rest := []) ⟨hx, hb, hml, hown, hts⟩ (c_X3_nth l G cy ad σ τ (τ 26 q.toNatClampNeg) ((τ 29 q.toNatClampNeg) - (τ 29 q.toNatClampNeg) / (2 : Int32) * (2 : Int32)) (τ 31 q.toNatClampNeg)) gX3_alongChain_X3_nth rfl rfl rfl (by decide +kernel) ⟨Nat.le_of_ble_eq_true rfl, Nat.le_of_ble_eq_true rfl⟩ rfl hl.1 rfl (Nat.le_of_ble_eq_true rfl) dX3_alongChain_38 ⟨Nat.zero_le _, Nat.zero_le _⟩ hK hN hD hP hS (fun H locs hP hS => ?_)
  refine W.eq (g2 := F0 m 41 ls [.int (sp_X3_nth (τ 26 q.toNatClampNeg) ((τ 29 q.toNatClampNeg) - (τ 29 q.toNatClampNeg) / (2 : Int32) * (2 : Int32)) (τ 31 q.toNatClampNeg))]) rfl ?_
  refine lv_istore_n (lv' := [(3, .int (sp_X3_nth (τ 26 q.toNatClampNeg) ((τ 29 q.toNatClampNeg) - (τ 29 q.toNatClampNeg) / (2 : Int32) * (2 : Int32)) (τ 31 q.toNatClampNeg))), (2, .int (sp_X3_length (τ 26 q.toNatClampNeg) ((τ 29 q.toNatClampNeg) - (τ 29 q.toNatClampNeg) / (2 : Int32) * (2 : Int32)))), (0, .ref (ad (18))), (1, .int q)]) hx hb dX3_alongChain_41 rfl hl (by decide) rfl (fun ls hl => ?_)
  exact K42 (sp_X3_length (τ 26 q.toNatClampNeg) ((τ 29 q.toNatClampNeg) - (τ 29 q.toNatClampNeg) / (2 : Int32) * (2 : Int32))) (sp_X3_nth (τ 26 q.toNatClampNeg) ((τ 29 q.toNatClampNeg) - (τ 29 q.toNatClampNeg) / (2 : Int32) * (2 : Int32)) (τ 31 q.toNatClampNeg)) _ _ ls hu hp hP hS (lv_sub hl [0, 1, 2, 3] rfl) (by rw [sp_X3_alongChain_in])
def sp_X3_atTail_in_126 (τ : sl_M) (q : Int32) (v : Int32) (w : Int32) (z : Int32) : Int32 × sl_M := 
  if (τ 24 q.toNatClampNeg) = (3 : Int32) then 
    if z = (-2 : Int32) then (((sp_X3_end τ q (3 : Int32) (-2 : Int32)).1), (sp_X3_end τ q (3 : Int32) (-2 : Int32)).2)
    else (((sp_X3_end τ q (1 : Int32) z).1), (sp_X3_end τ q (1 : Int32) z).2)
  else if z = (-2 : Int32) then (((sp_X3_end τ q (3 : Int32) (τ 29 q.toNatClampNeg)).1), (sp_X3_end τ q (3 : Int32) (τ 29 q.toNatClampNeg)).2)
  else if z < 0 then ((0 : Int32), (sl_up τ 29 q.toNatClampNeg ((τ 29 q.toNatClampNeg) + (1 : Int32))))
  else ((0 : Int32), (sl_up (sl_up τ 30 q.toNatClampNeg (((τ 30 q.toNatClampNeg) * (31 : Int32)) + z)) 29 q.toNatClampNeg (((sl_up τ 30 q.toNatClampNeg (((τ 30 q.toNatClampNeg) * (31 : Int32)) + z)) 29 q.toNatClampNeg) + (1 : Int32))))

def sp_X3_atTail_in_77 (τ : sl_M) (q : Int32) (v : Int32) (w : Int32) : Int32 × sl_M := 
  if (τ 23 w.toNatClampNeg) = (1 : Int32) then ((-3 : Int32), τ)
  else if (τ 22 w.toNatClampNeg) ≤ (τ 25 q.toNatClampNeg) then (sp_X3_atTail_in_126 τ q v w (sp_X3_look τ w (τ 29 q.toNatClampNeg)))
  else (((sp_X3_end τ q (2 : Int32) (0 : Int32)).1), (sp_X3_end τ q (2 : Int32) (0 : Int32)).2)

def sp_X3_atTail_in_38 (τ : sl_M) (q : Int32) : Int32 × sl_M := (sp_X3_atTail_in_77 τ q (sp_X3_length (τ 26 q.toNatClampNeg) ((τ 29 q.toNatClampNeg) - (τ 29 q.toNatClampNeg) / (2 : Int32) * (2 : Int32))) (sp_X3_nth (τ 26 q.toNatClampNeg) ((τ 29 q.toNatClampNeg) - (τ 29 q.toNatClampNeg) / (2 : Int32) * (2 : Int32)) ((sp_X3_length (τ 26 q.toNatClampNeg) ((τ 29 q.toNatClampNeg) - (τ 29 q.toNatClampNeg) / (2 : Int32) * (2 : Int32))) - (1 : Int32))))

def sp_X3_atTail_in (τ : sl_M) (q : Int32) : Int32 × sl_M := 
  if (τ 24 q.toNatClampNeg) = (4 : Int32) then 
    if (τ 29 q.toNatClampNeg) = (τ 32 q.toNatClampNeg) then (((sp_X3_end τ q (1 : Int32) (τ 30 q.toNatClampNeg)).1), (sp_X3_end τ q (1 : Int32) (τ 30 q.toNatClampNeg)).2)
    else (sp_X3_atTail_in_38 τ q)
  else (sp_X3_atTail_in_38 τ q)
set_option maxHeartbeats 4000000 in
set_option maxRecDepth 100000 in
theorem c_X3_atTail_in (l : Launch) (G : va_G) (cy : Nat → ClassId) (ad : Nat → Nat) (σ τ : sl_M) (q : Int32) (hc : vp_in q 3) (hr0 : 0 ≤ (τ 18 0).toInt) (hr1 : (τ 18 0).toInt ≤ 192) (hu : ¬ ((τ 24 q.toNatClampNeg) = (4 : Int32) ∧ (τ 29 q.toNatClampNeg) = (τ 32 q.toNatClampNeg)) → vp_in (sp_X3_nth (τ 26 q.toNatClampNeg) ((τ 29 q.toNatClampNeg) - (τ 29 q.toNatClampNeg) / (2 : Int32) * (2 : Int32)) ((sp_X3_length (τ 26 q.toNatClampNeg) ((τ 29 q.toNatClampNeg) - (τ 29 q.toNatClampNeg) / (2 : Int32) * (2 : Int32))) - (1 : Int32))) 6) : sl_C l G cy ad yX3_atTail wsX3_atTail ({ frames := 1, cells := 0, slots := 0, locals := 24 }) [.ref (ad (18)), .int q] σ τ (some (.int (sp_X3_atTail_in τ q).1)) σ (sp_X3_atTail_in τ q).2 := by
  refine sl_of (cc := cX3_atTail) (maxL := 5) (ret := (some .int)) (by decide) rfl (Nat.le_of_ble_eq_true rfl) ?_
  intro p e s m below meth c hx hb hr hml hts hown hlocks hK hN hD hP hS ls hl
  have hown : s.vm.findClass RX3 = some m.cls := hown
  have hl : lv_has ls 5 [(0, .ref (ad (18))), (1, .int q)] := hl
  have hi3 : ∀ w ∈ wsX30, w ∈ wsX3_atTail := fun _ h => (List.mem_cons_of_mem _ (List.mem_append_right _ h))
  have K126 : ∀ (v : Int32) (w : Int32) (z : Int32) (H : Heap) (locs : List Loc) (ls : Array Slot), va_P G vwCl (sl_wd cy ad σ τ) H → va_S (sl_A ad s.heap.size) s.heap H locs → lv_has ls 5 [(4, .int z), (3, .int w), (2, .int v), (0, .ref (ad (18))), (1, .int q)] → (sp_X3_atTail_in τ q) = (sp_X3_atTail_in_126 τ q v w z) → W p l e ({ frames := 1, cells := 0, slots := 0, locals := 24 }) s m ([.ref (ad (18)), .int q] : List Value).toArray below meth c H locs 0 0 (sl_Z G cy ad (some (.int (sp_X3_atTail_in τ q).1)) σ (sp_X3_atTail_in τ q).2 [.ref (ad (18)), .int q] below s) (F0 m 126 ls []) := by
    intro v w z H locs ls hP hS hl e_q0
    refine lv_aload_n hx hb dX3_atTail_126 rfl (lv_at hl 3 rfl) ?_
    refine va_get (D := G) (ci := 3) (v := .ref (ad (24))) (C := RX3) (T := TX3) (N := 19) hx hb hts hi3 hown hK hP 18 sl_aM rfl 10 (by decide) (hts _ mw_X3_atTail_1) (fun _ h9 => h9) rfl dX3_atTail_127 ?_
    refine lv_iload_n hx hb dX3_atTail_130 rfl (lv_at hl 4 rfl) ?_
    refine sl_ldR 24 3 hx hb hK hP (by decide) (by decide) rfl hc dX3_atTail_131 ?_
    refine lv_iconst (v := (3 : Int32)) hx hb dX3_atTail_132 (by decide) ?_
    refine lv_icmp_ne (tgt := 163) hx hb dX3_atTail_133 (by decide) (fun c_1 => ?_) (fun c_1 => ?_)
    · refine lv_iload hx hb dX3_atTail_163 (lv_at hl 0 rfl) ?_
      refine lv_bipush (v := (-2 : Int32)) hx hb dX3_atTail_165 (by decide) ?_
      refine lv_icmp_ne (tgt := 183) hx hb dX3_atTail_167 (by decide) (fun c_2 => ?_) (fun c_2 => ?_)
      · refine lv_iload hx hb dX3_atTail_183 (lv_at hl 0 rfl) ?_
        refine lv_if_lt (tgt := 206) hx hb dX3_atTail_185 (by decide) (fun c_3 => ?_) (fun c_3 => ?_)
        · refine lv_aload_n hx hb dX3_atTail_206 rfl (lv_at hl 3 rfl) ?_
          refine va_get (D := G) (ci := 3) (v := .ref (ad (29))) (C := RX3) (T := TX3) (N := 19) hx hb hts hi3 hown hK hP 18 sl_aM rfl 15 (by decide) (hts _ mw_X3_atTail_2) (fun _ h9 => h9) rfl dX3_atTail_207 ?_
          refine lv_iload_n hx hb dX3_atTail_210 rfl (lv_at hl 4 rfl) ?_
          refine lv_aload_n hx hb dX3_atTail_211 rfl (lv_at hl 3 rfl) ?_
          refine va_get (D := G) (ci := 3) (v := .ref (ad (29))) (C := RX3) (T := TX3) (N := 19) hx hb hts hi3 hown hK hP 18 sl_aM rfl 15 (by decide) (hts _ mw_X3_atTail_2) (fun _ h9 => h9) rfl dX3_atTail_212 ?_
          refine lv_iload_n hx hb dX3_atTail_215 rfl (lv_at hl 4 rfl) ?_
          refine sl_ldR 29 3 hx hb hK hP (by decide) (by decide) rfl hc dX3_atTail_216 ?_
          refine lv_iconst (v := (1 : Int32)) hx hb dX3_atTail_217 (by decide) ?_
          refine lv_iadd hx hb dX3_atTail_218 ?_
          refine sl_stR 29 3 hx hb hK hD hP hS (by decide) (by decide) rfl hc dX3_atTail_219 (fun H locs hP hS => ?_)
          refine lv_iconst (v := (0 : Int32)) hx hb dX3_atTail_220 (by decide) ?_
          have e_q : (sp_X3_atTail_in τ q) = ((0 : Int32), (sl_up τ 29 q.toNatClampNeg ((τ 29 q.toNatClampNeg) + (1 : Int32)))) := by rw [e_q0, sp_X3_atTail_in_126, if_neg c_1, if_neg c_2, if_pos c_3]
          exact sl_iret hx hb hr hlocks hP hS (by rw [e_q]) rfl (by rw [e_q]) dX3_atTail_221
        · refine lv_aload_n hx hb dX3_atTail_188 rfl (lv_at hl 3 rfl) ?_
          refine va_get (D := G) (ci := 3) (v := .ref (ad (30))) (C := RX3) (T := TX3) (N := 19) hx hb hts hi3 hown hK hP 18 sl_aM rfl 16 (by decide) (hts _ mw_X3_atTail_4) (fun _ h9 => h9) rfl dX3_atTail_189 ?_
          refine lv_iload_n hx hb dX3_atTail_192 rfl (lv_at hl 4 rfl) ?_
          refine lv_aload_n hx hb dX3_atTail_193 rfl (lv_at hl 3 rfl) ?_
          refine va_get (D := G) (ci := 3) (v := .ref (ad (30))) (C := RX3) (T := TX3) (N := 19) hx hb hts hi3 hown hK hP 18 sl_aM rfl 16 (by decide) (hts _ mw_X3_atTail_4) (fun _ h9 => h9) rfl dX3_atTail_194 ?_
          refine lv_iload_n hx hb dX3_atTail_197 rfl (lv_at hl 4 rfl) ?_
          refine sl_ldR 30 3 hx hb hK hP (by decide) (by decide) rfl hc dX3_atTail_198 ?_
          refine lv_bipush (v := (31 : Int32)) hx hb dX3_atTail_199 (by decide) ?_
          refine lv_imul hx hb dX3_atTail_201 ?_
          refine lv_iload hx hb dX3_atTail_202 (lv_at hl 0 rfl) ?_
          refine lv_iadd hx hb dX3_atTail_204 ?_
          refine sl_stR 30 3 hx hb hK hD hP hS (by decide) (by decide) rfl hc dX3_atTail_205 (fun H locs hP hS => ?_)
          refine lv_aload_n hx hb dX3_atTail_206 rfl (lv_at hl 3 rfl) ?_
          refine va_get (D := G) (ci := 3) (v := .ref (ad (29))) (C := RX3) (T := TX3) (N := 19) hx hb hts hi3 hown hK hP 18 sl_aM rfl 15 (by decide) (hts _ mw_X3_atTail_2) (fun _ h9 => h9) rfl dX3_atTail_207 ?_
          refine lv_iload_n hx hb dX3_atTail_210 rfl (lv_at hl 4 rfl) ?_
          refine lv_aload_n hx hb dX3_atTail_211 rfl (lv_at hl 3 rfl) ?_
          refine va_get (D := G) (ci := 3) (v := .ref (ad (29))) (C := RX3) (T := TX3) (N := 19) hx hb hts hi3 hown hK hP 18 sl_aM rfl 15 (by decide) (hts _ mw_X3_atTail_2) (fun _ h9 => h9) rfl dX3_atTail_212 ?_
          refine lv_iload_n hx hb dX3_atTail_215 rfl (lv_at hl 4 rfl) ?_
          refine sl_ldR 29 3 hx hb hK hP (by decide) (by decide) rfl hc dX3_atTail_216 ?_
          refine lv_iconst (v := (1 : Int32)) hx hb dX3_atTail_217 (by decide) ?_
          refine lv_iadd hx hb dX3_atTail_218 ?_
          refine sl_stR 29 3 hx hb hK hD hP hS (by decide) (by decide) rfl hc dX3_atTail_219 (fun H locs hP hS => ?_)
          refine lv_iconst (v := (0 : Int32)) hx hb dX3_atTail_220 (by decide) ?_
          have e_q : (sp_X3_atTail_in τ q) = ((0 : Int32), (sl_up (sl_up τ 30 q.toNatClampNeg (((τ 30 q.toNatClampNeg) * (31 : Int32)) + z)) 29 q.toNatClampNeg (((sl_up τ 30 q.toNatClampNeg (((τ 30 q.toNatClampNeg) * (31 : Int32)) + z)) 29 q.toNatClampNeg) + (1 : Int32)))) := by rw [e_q0, sp_X3_atTail_in_126, if_neg c_1, if_neg c_2, if_neg c_3]
          exact sl_iret hx hb hr hlocks hP hS (by rw [e_q]) rfl (by rw [e_q]) dX3_atTail_221
      · refine lv_aload_n hx hb dX3_atTail_170 rfl (lv_at hl 3 rfl) ?_
        refine lv_iload_n hx hb dX3_atTail_171 rfl (lv_at hl 4 rfl) ?_
        refine lv_iconst (v := (3 : Int32)) hx hb dX3_atTail_172 (by decide) ?_
        refine lv_aload_n hx hb dX3_atTail_173 rfl (lv_at hl 3 rfl) ?_
        refine va_get (D := G) (ci := 3) (v := .ref (ad (29))) (C := RX3) (T := TX3) (N := 19) hx hb hts hi3 hown hK hP 18 sl_aM rfl 15 (by decide) (hts _ mw_X3_atTail_2) (fun _ h9 => h9) rfl dX3_atTail_174 ?_
        refine lv_iload_n hx hb dX3_atTail_177 rfl (lv_at hl 4 rfl) ?_
        refine sl_ldR 29 3 hx hb hK hP (by decide) (by decide) rfl hc dX3_atTail_178 ?_
        refine sl_cV (n := 3) (As := [.int q, .int (3 : Int32), .int (τ 29 q.toNatClampNeg)]) (rest := []) ⟨hx, hb, hml, hown, hts⟩ (c_X3_end l G cy ad σ τ q (3 : Int32) (τ 29 q.toNatClampNeg) hc) gX3_atTail_X3_end rfl rfl rfl (by decide +kernel) ⟨Nat.le_of_ble_eq_true rfl, Nat.le_of_ble_eq_true rfl⟩ (va_recv hK hP (ci := 3) (q0 := 18) rfl sl_aM) rfl hl.1 rfl (Nat.le_of_ble_eq_true rfl) dX3_atTail_179 ⟨Nat.zero_le _, Nat.zero_le _⟩ hK hN hD hP hS (fun H locs hP hS => ?_)
        refine W.eq (g2 := F0 m 182 ls [.int ((sp_X3_end τ q (3 : Int32) (τ 29 q.toNatClampNeg)).1)]) rfl ?_
        have e_q : (sp_X3_atTail_in τ q) = (((sp_X3_end τ q (3 : Int32) (τ 29 q.toNatClampNeg)).1), (sp_X3_end τ q (3 : Int32) (τ 29 q.toNatClampNeg)).2) := by rw [e_q0, sp_X3_atTail_in_126, if_neg c_1, if_pos c_2]
        exact sl_iret hx hb hr hlocks hP hS (by rw [e_q]) rfl (by rw [e_q]) dX3_atTail_182
    · refine lv_iload hx hb dX3_atTail_136 (lv_at hl 0 rfl) ?_
      refine lv_bipush (v := (-2 : Int32)) hx hb dX3_atTail_138 (by decide) ?_
      refine lv_icmp_ne (tgt := 154) hx hb dX3_atTail_140 (by decide) (fun c_4 => ?_) (fun c_4 => ?_)
      · refine lv_aload_n hx hb dX3_atTail_154 rfl (lv_at hl 3 rfl) ?_
        refine lv_iload_n hx hb dX3_atTail_155 rfl (lv_at hl 4 rfl) ?_
        refine lv_iconst (v := (1 : Int32)) hx hb dX3_atTail_156 (by decide) ?_
        refine lv_iload hx hb dX3_atTail_157 (lv_at hl 0 rfl) ?_
        refine sl_cV (n := 3) (As := [.int q, .int (1 : Int32), .int z]) (rest := []) ⟨hx, hb, hml, hown, hts⟩ (c_X3_end l G cy ad σ τ q (1 : Int32) z hc) gX3_atTail_X3_end rfl rfl rfl (by decide +kernel) ⟨Nat.le_of_ble_eq_true rfl, Nat.le_of_ble_eq_true rfl⟩ (va_recv hK hP (ci := 3) (q0 := 18) rfl sl_aM) rfl hl.1 rfl (Nat.le_of_ble_eq_true rfl) dX3_atTail_159 ⟨Nat.zero_le _, Nat.zero_le _⟩ hK hN hD hP hS (fun H locs hP hS => ?_)
        refine W.eq (g2 := F0 m 162 ls [.int ((sp_X3_end τ q (1 : Int32) z).1)]) rfl ?_
        have e_q : (sp_X3_atTail_in τ q) = (((sp_X3_end τ q (1 : Int32) z).1), (sp_X3_end τ q (1 : Int32) z).2) := by rw [e_q0, sp_X3_atTail_in_126, if_pos c_1, if_neg c_4]
        exact sl_iret hx hb hr hlocks hP hS (by rw [e_q]) rfl (by rw [e_q]) dX3_atTail_162
      · refine lv_aload_n hx hb dX3_atTail_143 rfl (lv_at hl 3 rfl) ?_
        refine lv_iload_n hx hb dX3_atTail_144 rfl (lv_at hl 4 rfl) ?_
        refine lv_iconst (v := (3 : Int32)) hx hb dX3_atTail_145 (by decide) ?_
        refine lv_bipush (v := (-2 : Int32)) hx hb dX3_atTail_146 (by decide) ?_
        refine sl_cV (n := 3) (As := [.int q, .int (3 : Int32), .int (-2 : Int32)]) (rest := []) ⟨hx, hb, hml, hown, hts⟩ (c_X3_end l G cy ad σ τ q (3 : Int32) (-2 : Int32) hc) gX3_atTail_X3_end rfl rfl rfl (by decide +kernel) ⟨Nat.le_of_ble_eq_true rfl, Nat.le_of_ble_eq_true rfl⟩ (va_recv hK hP (ci := 3) (q0 := 18) rfl sl_aM) rfl hl.1 rfl (Nat.le_of_ble_eq_true rfl) dX3_atTail_148 ⟨Nat.zero_le _, Nat.zero_le _⟩ hK hN hD hP hS (fun H locs hP hS => ?_)
        refine W.eq (g2 := F0 m 151 ls [.int ((sp_X3_end τ q (3 : Int32) (-2 : Int32)).1)]) rfl ?_
        refine lv_goto (tgt := 162) hx hb dX3_atTail_151 (by decide) ?_
        have e_q : (sp_X3_atTail_in τ q) = (((sp_X3_end τ q (3 : Int32) (-2 : Int32)).1), (sp_X3_end τ q (3 : Int32) (-2 : Int32)).2) := by rw [e_q0, sp_X3_atTail_in_126, if_pos c_1, if_pos c_4]
        exact sl_iret hx hb hr hlocks hP hS (by rw [e_q]) rfl (by rw [e_q]) dX3_atTail_162
  have K77 : ∀ (v : Int32) (w : Int32) (H : Heap) (locs : List Loc) (ls : Array Slot), vp_in w 6 → va_P G vwCl (sl_wd cy ad σ τ) H → va_S (sl_A ad s.heap.size) s.heap H locs → lv_has ls 5 [(3, .int w), (2, .int v), (0, .ref (ad (18))), (1, .int q)] → (sp_X3_atTail_in τ q) = (sp_X3_atTail_in_77 τ q v w) → W p l e ({ frames := 1, cells := 0, slots := 0, locals := 24 }) s m ([.ref (ad (18)), .int q] : List Value).toArray below meth c H locs 0 0 (sl_Z G cy ad (some (.int (sp_X3_atTail_in τ q).1)) σ (sp_X3_atTail_in τ q).2 [.ref (ad (18)), .int q] below s) (F0 m 77 ls []) := by
    intro v w H locs ls hu hP hS hl e_q0
    refine lv_aload_n hx hb dX3_atTail_77 rfl (lv_at hl 2 rfl) ?_
    refine va_get (D := G) (ci := 3) (v := .ref (ad (23))) (C := RX3) (T := TX3) (N := 19) hx hb hts hi3 hown hK hP 18 sl_aM rfl 5 (by decide) (hts _ mw_X3_atTail_6) (fun _ h9 => h9) rfl dX3_atTail_78 ?_
    refine lv_iload_n hx hb dX3_atTail_81 rfl (lv_at hl 0 rfl) ?_
    refine sl_ldR 23 6 hx hb hK hP (by decide) (by decide) rfl hu dX3_atTail_82 ?_
    refine lv_iconst (v := (1 : Int32)) hx hb dX3_atTail_83 (by decide) ?_
    refine lv_icmp_ne (tgt := 90) hx hb dX3_atTail_84 (by decide) (fun c_5 => ?_) (fun c_5 => ?_)
    · refine lv_aload_n hx hb dX3_atTail_90 rfl (lv_at hl 2 rfl) ?_
      refine va_get (D := G) (ci := 3) (v := .ref (ad (22))) (C := RX3) (T := TX3) (N := 19) hx hb hts hi3 hown hK hP 18 sl_aM rfl 4 (by decide) (hts _ mw_X3_atTail_7) (fun _ h9 => h9) rfl dX3_atTail_91 ?_
      refine lv_iload_n hx hb dX3_atTail_94 rfl (lv_at hl 0 rfl) ?_
      refine sl_ldR 22 6 hx hb hK hP (by decide) (by decide) rfl hu dX3_atTail_95 ?_
      refine lv_aload_n hx hb dX3_atTail_96 rfl (lv_at hl 2 rfl) ?_
      refine va_get (D := G) (ci := 3) (v := .ref (ad (25))) (C := RX3) (T := TX3) (N := 19) hx hb hts hi3 hown hK hP 18 sl_aM rfl 11 (by decide) (hts _ mw_X3_atTail_8) (fun _ h9 => h9) rfl dX3_atTail_97 ?_
      refine lv_iload_n hx hb dX3_atTail_100 rfl (lv_at hl 3 rfl) ?_
      refine sl_ldR 25 3 hx hb hK hP (by decide) (by decide) rfl hc dX3_atTail_101 ?_
      refine lv_icmp_le (tgt := 113) hx hb dX3_atTail_102 (by decide) (fun c_6 => ?_) (fun c_6 => ?_)
      · refine lv_aload_n hx hb dX3_atTail_113 rfl (lv_at hl 2 rfl) ?_
        refine lv_iload_n hx hb dX3_atTail_114 rfl (lv_at hl 0 rfl) ?_
        refine lv_aload_n hx hb dX3_atTail_115 rfl (lv_at hl 2 rfl) ?_
        refine va_get (D := G) (ci := 3) (v := .ref (ad (29))) (C := RX3) (T := TX3) (N := 19) hx hb hts hi3 hown hK hP 18 sl_aM rfl 15 (by decide) (hts _ mw_X3_atTail_2) (fun _ h9 => h9) rfl dX3_atTail_116 ?_
        refine lv_iload_n hx hb dX3_atTail_119 rfl (lv_at hl 3 rfl) ?_
        refine sl_ldR 29 3 hx hb hK hP (by decide) (by decide) rfl hc dX3_atTail_120 ?_
        refine sl_cV (n := 2) (As := [.int w, .int (τ 29 q.toNatClampNeg)]) (rest := []) ⟨hx, hb, hml, hown, hts⟩ (c_X3_look l G cy ad σ τ w (τ 29 q.toNatClampNeg) hr0 hr1) gX3_atTail_X3_look rfl rfl rfl (by decide +kernel) ⟨Nat.le_of_ble_eq_true rfl, Nat.le_of_ble_eq_true rfl⟩ (va_recv hK hP (ci := 3) (q0 := 18) rfl sl_aM) rfl hl.1 rfl (Nat.le_of_ble_eq_true rfl) dX3_atTail_121 ⟨Nat.zero_le _, Nat.zero_le _⟩ hK hN hD hP hS (fun H locs hP hS => ?_)
        refine W.eq (g2 := F0 m 124 ls [.int (sp_X3_look τ w (τ 29 q.toNatClampNeg))]) rfl ?_
        refine lv_istore (lv' := [(4, .int (sp_X3_look τ w (τ 29 q.toNatClampNeg))), (3, .int w), (2, .int v), (0, .ref (ad (18))), (1, .int q)]) hx hb dX3_atTail_124 hl (by decide) rfl (fun ls hl => ?_)
        exact K126 v w (sp_X3_look τ w (τ 29 q.toNatClampNeg)) _ _ ls hP hS (lv_sub hl [0, 1, 2, 3, 4] rfl) (by rw [e_q0, sp_X3_atTail_in_77, if_neg c_5, if_pos c_6])
      · refine lv_aload_n hx hb dX3_atTail_105 rfl (lv_at hl 2 rfl) ?_
        refine lv_iload_n hx hb dX3_atTail_106 rfl (lv_at hl 3 rfl) ?_
        refine lv_iconst (v := (2 : Int32)) hx hb dX3_atTail_107 (by decide) ?_
        refine lv_iconst (v := (0 : Int32)) hx hb dX3_atTail_108 (by decide) ?_
        refine sl_cV (n := 3) (As := [.int q, .int (2 : Int32), .int (0 : Int32)]) (rest := []) ⟨hx, hb, hml, hown, hts⟩ (c_X3_end l G cy ad σ τ q (2 : Int32) (0 : Int32) hc) gX3_atTail_X3_end rfl rfl rfl (by decide +kernel) ⟨Nat.le_of_ble_eq_true rfl, Nat.le_of_ble_eq_true rfl⟩ (va_recv hK hP (ci := 3) (q0 := 18) rfl sl_aM) rfl hl.1 rfl (Nat.le_of_ble_eq_true rfl) dX3_atTail_109 ⟨Nat.zero_le _, Nat.zero_le _⟩ hK hN hD hP hS (fun H locs hP hS => ?_)
        refine W.eq (g2 := F0 m 112 ls [.int ((sp_X3_end τ q (2 : Int32) (0 : Int32)).1)]) rfl ?_
        have e_q : (sp_X3_atTail_in τ q) = (((sp_X3_end τ q (2 : Int32) (0 : Int32)).1), (sp_X3_end τ q (2 : Int32) (0 : Int32)).2) := by rw [e_q0, sp_X3_atTail_in_77, if_neg c_5, if_neg c_6]
        exact sl_iret hx hb hr hlocks hP hS (by rw [e_q]) rfl (by rw [e_q]) dX3_atTail_112
    · refine lv_bipush (v := (-3 : Int32)) hx hb dX3_atTail_87 (by decide) ?_
      have e_q : (sp_X3_atTail_in τ q) = ((-3 : Int32), τ) := by rw [e_q0, sp_X3_atTail_in_77, if_pos c_5]
      exact sl_iret hx hb hr hlocks hP hS (by rw [e_q]) rfl (by rw [e_q]) dX3_atTail_89
  have K38 : ∀ (H : Heap) (locs : List Loc) (ls : Array Slot), vp_in (sp_X3_nth (τ 26 q.toNatClampNeg) ((τ 29 q.toNatClampNeg) - (τ 29 q.toNatClampNeg) / (2 : Int32) * (2 : Int32)) ((sp_X3_length (τ 26 q.toNatClampNeg) ((τ 29 q.toNatClampNeg) - (τ 29 q.toNatClampNeg) / (2 : Int32) * (2 : Int32))) - (1 : Int32))) 6 → va_P G vwCl (sl_wd cy ad σ τ) H → va_S (sl_A ad s.heap.size) s.heap H locs → lv_has ls 5 [(0, .ref (ad (18))), (1, .int q)] → (sp_X3_atTail_in τ q) = (sp_X3_atTail_in_38 τ q) → W p l e ({ frames := 1, cells := 0, slots := 0, locals := 24 }) s m ([.ref (ad (18)), .int q] : List Value).toArray below meth c H locs 0 0 (sl_Z G cy ad (some (.int (sp_X3_atTail_in τ q).1)) σ (sp_X3_atTail_in τ q).2 [.ref (ad (18)), .int q] below s) (F0 m 38 ls []) := by
    intro H locs ls hu hP hS hl e_q0
    refine lv_aload_n hx hb dX3_atTail_38 rfl (lv_at hl 0 rfl) ?_
    refine va_get (D := G) (ci := 3) (v := .ref (ad (26))) (C := RX3) (T := TX3) (N := 19) hx hb hts hi3 hown hK hP 18 sl_aM rfl 12 (by decide) (hts _ mw_X3_atTail_5) (fun _ h9 => h9) rfl dX3_atTail_39 ?_
    refine lv_iload_n hx hb dX3_atTail_42 rfl (lv_at hl 1 rfl) ?_
    refine sl_ldR 26 3 hx hb hK hP (by decide) (by decide) rfl hc dX3_atTail_43 ?_
    refine lv_aload_n hx hb dX3_atTail_44 rfl (lv_at hl 0 rfl) ?_
    refine va_get (D := G) (ci := 3) (v := .ref (ad (29))) (C := RX3) (T := TX3) (N := 19) hx hb hts hi3 hown hK hP 18 sl_aM rfl 15 (by decide) (hts _ mw_X3_atTail_2) (fun _ h9 => h9) rfl dX3_atTail_45 ?_
    refine lv_iload_n hx hb dX3_atTail_48 rfl (lv_at hl 1 rfl) ?_
    refine sl_ldR 29 3 hx hb hK hP (by decide) (by decide) rfl hc dX3_atTail_49 ?_
    refine lv_iconst (v := (2 : Int32)) hx hb dX3_atTail_50 (by decide) ?_
    refine lv_irem hx hb dX3_atTail_51 (by decide) ?_
    refine sl_cS (n := 2) (As := [.int (τ 26 q.toNatClampNeg), .int ((τ 29 q.toNatClampNeg) - (τ 29 q.toNatClampNeg) / (2 : Int32) * (2 : Int32))]) (rest := []) ⟨hx, hb, hml, hown, hts⟩ (c_X3_length l G cy ad σ τ (τ 26 q.toNatClampNeg) ((τ 29 q.toNatClampNeg) - (τ 29 q.toNatClampNeg) / (2 : Int32) * (2 : Int32))) gX3_atTail_X3_length rfl rfl rfl (by decide +kernel) ⟨Nat.le_of_ble_eq_true rfl, Nat.le_of_ble_eq_true rfl⟩ rfl hl.1 rfl (Nat.le_of_ble_eq_true rfl) dX3_atTail_52 ⟨Nat.zero_le _, Nat.zero_le _⟩ hK hN hD hP hS (fun H locs hP hS => ?_)
    refine W.eq (g2 := F0 m 55 ls [.int (sp_X3_length (τ 26 q.toNatClampNeg) ((τ 29 q.toNatClampNeg) - (τ 29 q.toNatClampNeg) / (2 : Int32) * (2 : Int32)))]) rfl ?_
    refine lv_istore_n (lv' := [(2, .int (sp_X3_length (τ 26 q.toNatClampNeg) ((τ 29 q.toNatClampNeg) - (τ 29 q.toNatClampNeg) / (2 : Int32) * (2 : Int32)))), (0, .ref (ad (18))), (1, .int q)]) hx hb dX3_atTail_55 rfl hl (by decide) rfl (fun ls hl => ?_)
    refine lv_aload_n hx hb dX3_atTail_56 rfl (lv_at hl 1 rfl) ?_
    refine va_get (D := G) (ci := 3) (v := .ref (ad (26))) (C := RX3) (T := TX3) (N := 19) hx hb hts hi3 hown hK hP 18 sl_aM rfl 12 (by decide) (hts _ mw_X3_atTail_5) (fun _ h9 => h9) rfl dX3_atTail_57 ?_
    refine lv_iload_n hx hb dX3_atTail_60 rfl (lv_at hl 2 rfl) ?_
    refine sl_ldR 26 3 hx hb hK hP (by decide) (by decide) rfl hc dX3_atTail_61 ?_
    refine lv_aload_n hx hb dX3_atTail_62 rfl (lv_at hl 1 rfl) ?_
    refine va_get (D := G) (ci := 3) (v := .ref (ad (29))) (C := RX3) (T := TX3) (N := 19) hx hb hts hi3 hown hK hP 18 sl_aM rfl 15 (by decide) (hts _ mw_X3_atTail_2) (fun _ h9 => h9) rfl dX3_atTail_63 ?_
    refine lv_iload_n hx hb dX3_atTail_66 rfl (lv_at hl 2 rfl) ?_
    refine sl_ldR 29 3 hx hb hK hP (by decide) (by decide) rfl hc dX3_atTail_67 ?_
    refine lv_iconst (v := (2 : Int32)) hx hb dX3_atTail_68 (by decide) ?_
    refine lv_irem hx hb dX3_atTail_69 (by decide) ?_
    refine lv_iload_n hx hb dX3_atTail_70 rfl (lv_at hl 0 rfl) ?_
    refine lv_iconst (v := (1 : Int32)) hx hb dX3_atTail_71 (by decide) ?_
    refine lv_isub hx hb dX3_atTail_72 ?_
    refine sl_cS (n := 3) (As := [.int (τ 26 q.toNatClampNeg), .int ((τ 29 q.toNatClampNeg) - (τ 29 q.toNatClampNeg) / (2 : Int32) * (2 : Int32)), .int ((sp_X3_length (τ 26 q.toNatClampNeg) ((τ 29 q.toNatClampNeg) - (τ 29 q.toNatClampNeg) / (2 : Int32) * (2 : Int32))) - (1 : Int32))]) (rest := []) ⟨hx, hb, hml, hown, hts⟩ (c_X3_nth l G cy ad σ τ (τ 26 q.toNatClampNeg) ((τ 29 q.toNatClampNeg) - (τ 29 q.toNatClampNeg) / (2 : Int32) * (2 : Int32)) ((sp_X3_length (τ 26 q.toNatClampNeg) ((τ 29 q.toNatClampNeg) - (τ 29 q.toNatClampNeg) / (2 : Int32) * (2 : Int32))) - (1 : Int32))) gX3_atTail_X3_nth rfl rfl rfl (by decide +kernel) ⟨Nat.le_of_ble_eq_true rfl, Nat.le_of_ble_eq_true rfl⟩ rfl hl.1 rfl (Nat.le_of_ble_eq_true rfl) dX3_atTail_73 ⟨Nat.zero_le _, Nat.zero_le _⟩ hK hN hD hP hS (fun H locs hP hS => ?_)
    refine W.eq (g2 := F0 m 76 ls [.int (sp_X3_nth (τ 26 q.toNatClampNeg) ((τ 29 q.toNatClampNeg) - (τ 29 q.toNatClampNeg) / (2 : Int32) * (2 : Int32)) ((sp_X3_length (τ 26 q.toNatClampNeg) ((τ 29 q.toNatClampNeg) - (τ 29 q.toNatClampNeg) / (2 : Int32) * (2 : Int32))) - (1 : Int32)))]) rfl ?_
    refine lv_istore_n (lv' := [(3, .int (sp_X3_nth (τ 26 q.toNatClampNeg) ((τ 29 q.toNatClampNeg) - (τ 29 q.toNatClampNeg) / (2 : Int32) * (2 : Int32)) ((sp_X3_length (τ 26 q.toNatClampNeg) ((τ 29 q.toNatClampNeg) - (τ 29 q.toNatClampNeg) / (2 : Int32) * (2 : Int32))) - (1 : Int32)))), (2, .int (sp_X3_length (τ 26 q.toNatClampNeg) ((τ 29 q.toNatClampNeg) - (τ 29 q.toNatClampNeg) / (2 : Int32) * (2 : Int32)))), (0, .ref (ad (18))), (1, .int q)]) hx hb dX3_atTail_76 rfl hl (by decide) rfl (fun ls hl => ?_)
    exact K77 (sp_X3_length (τ 26 q.toNatClampNeg) ((τ 29 q.toNatClampNeg) - (τ 29 q.toNatClampNeg) / (2 : Int32) * (2 : Int32))) (sp_X3_nth (τ 26 q.toNatClampNeg) ((τ 29 q.toNatClampNeg) - (τ 29 q.toNatClampNeg) / (2 : Int32) * (2 : Int32)) ((sp_X3_length (τ 26 q.toNatClampNeg) ((τ 29 q.toNatClampNeg) - (τ 29 q.toNatClampNeg) / (2 : Int32) * (2 : Int32))) - (1 : Int32))) _ _ ls hu hP hS (lv_sub hl [0, 1, 2, 3] rfl) (by rw [e_q0, sp_X3_atTail_in_38])
  refine lv_aload_n hx hb dX3_atTail_0 rfl (lv_at hl 0 rfl) ?_
  refine va_get (D := G) (ci := 3) (v := .ref (ad (24))) (C := RX3) (T := TX3) (N := 19) hx hb hts hi3 hown hK hP 18 sl_aM rfl 10 (by decide) (hts _ mw_X3_atTail_1) (fun _ h9 => h9) rfl dX3_atTail_1 ?_
  refine lv_iload_n hx hb dX3_atTail_4 rfl (lv_at hl 1 rfl) ?_
  refine sl_ldR 24 3 hx hb hK hP (by decide) (by decide) rfl hc dX3_atTail_5 ?_
  refine lv_iconst (v := (4 : Int32)) hx hb dX3_atTail_6 (by decide) ?_
  refine lv_icmp_ne (tgt := 38) hx hb dX3_atTail_7 (by decide) (fun c_7 => ?_) (fun c_7 => ?_)
  · exact K38 _ _ ls (hu (fun h9 => c_7 h9.1)) hP hS (lv_sub hl [0, 1] rfl) (by rw [sp_X3_atTail_in, if_neg c_7])
  · refine lv_aload_n hx hb dX3_atTail_10 rfl (lv_at hl 0 rfl) ?_
    refine va_get (D := G) (ci := 3) (v := .ref (ad (29))) (C := RX3) (T := TX3) (N := 19) hx hb hts hi3 hown hK hP 18 sl_aM rfl 15 (by decide) (hts _ mw_X3_atTail_2) (fun _ h9 => h9) rfl dX3_atTail_11 ?_
    refine lv_iload_n hx hb dX3_atTail_14 rfl (lv_at hl 1 rfl) ?_
    refine sl_ldR 29 3 hx hb hK hP (by decide) (by decide) rfl hc dX3_atTail_15 ?_
    refine lv_aload_n hx hb dX3_atTail_16 rfl (lv_at hl 0 rfl) ?_
    refine va_get (D := G) (ci := 3) (v := .ref (ad (32))) (C := RX3) (T := TX3) (N := 19) hx hb hts hi3 hown hK hP 18 sl_aM rfl 18 (by decide) (hts _ mw_X3_atTail_3) (fun _ h9 => h9) rfl dX3_atTail_17 ?_
    refine lv_iload_n hx hb dX3_atTail_20 rfl (lv_at hl 1 rfl) ?_
    refine sl_ldR 32 3 hx hb hK hP (by decide) (by decide) rfl hc dX3_atTail_21 ?_
    refine lv_icmp_ne (tgt := 38) hx hb dX3_atTail_22 (by decide) (fun c_8 => ?_) (fun c_8 => ?_)
    · exact K38 _ _ ls (hu (fun h9 => c_8 h9.2)) hP hS (lv_sub hl [0, 1] rfl) (by rw [sp_X3_atTail_in, if_pos c_7, if_neg c_8])
    · refine lv_aload_n hx hb dX3_atTail_25 rfl (lv_at hl 0 rfl) ?_
      refine lv_iload_n hx hb dX3_atTail_26 rfl (lv_at hl 1 rfl) ?_
      refine lv_iconst (v := (1 : Int32)) hx hb dX3_atTail_27 (by decide) ?_
      refine lv_aload_n hx hb dX3_atTail_28 rfl (lv_at hl 0 rfl) ?_
      refine va_get (D := G) (ci := 3) (v := .ref (ad (30))) (C := RX3) (T := TX3) (N := 19) hx hb hts hi3 hown hK hP 18 sl_aM rfl 16 (by decide) (hts _ mw_X3_atTail_4) (fun _ h9 => h9) rfl dX3_atTail_29 ?_
      refine lv_iload_n hx hb dX3_atTail_32 rfl (lv_at hl 1 rfl) ?_
      refine sl_ldR 30 3 hx hb hK hP (by decide) (by decide) rfl hc dX3_atTail_33 ?_
      refine sl_cV (n := 3) (As := [.int q, .int (1 : Int32), .int (τ 30 q.toNatClampNeg)]) (rest := []) ⟨hx, hb, hml, hown, hts⟩ (c_X3_end l G cy ad σ τ q (1 : Int32) (τ 30 q.toNatClampNeg) hc) gX3_atTail_X3_end rfl rfl rfl (by decide +kernel) ⟨Nat.le_of_ble_eq_true rfl, Nat.le_of_ble_eq_true rfl⟩ (va_recv hK hP (ci := 3) (q0 := 18) rfl sl_aM) rfl hl.1 rfl (Nat.le_of_ble_eq_true rfl) dX3_atTail_34 ⟨Nat.zero_le _, Nat.zero_le _⟩ hK hN hD hP hS (fun H locs hP hS => ?_)
      refine W.eq (g2 := F0 m 37 ls [.int ((sp_X3_end τ q (1 : Int32) (τ 30 q.toNatClampNeg)).1)]) rfl ?_
      have e_q : (sp_X3_atTail_in τ q) = (((sp_X3_end τ q (1 : Int32) (τ 30 q.toNatClampNeg)).1), (sp_X3_end τ q (1 : Int32) (τ 30 q.toNatClampNeg)).2) := by rw [sp_X3_atTail_in, if_pos c_7, if_pos c_8]
      exact sl_iret hx hb hr hlocks hP hS (by rw [e_q]) rfl (by rw [e_q]) dX3_atTail_37
def sp_X3_seal_in_75 (q : Int32) : Nat → sl_M → Int32 → Int32 → Int32 × sl_M
  | 0, τ1, v, w => (0, τ1)
  | n + 1, τ1, v, w => 
    if (τ1 18 0) ≤ v then ((0 : Int32), (sl_up τ1 31 q.toNatClampNeg ((τ1 31 q.toNatClampNeg) + (1 : Int32))))
    else if (τ1 19 v.toNatClampNeg) = w then 
      if ((τ1 20 v.toNatClampNeg) + (1 : Int32)) ≤ (τ1 30 q.toNatClampNeg) then (sp_X3_seal_in_75 q n τ1 (v + (1 : Int32)) w)
      else (sp_X3_seal_in_75 q n (sl_up τ1 30 q.toNatClampNeg ((τ1 20 v.toNatClampNeg) + (1 : Int32))) (v + (1 : Int32)) w)
    else (sp_X3_seal_in_75 q n τ1 (v + (1 : Int32)) w)

def sp_X3_seal_in_17 (τ : sl_M) (q : Int32) (w : Int32) : Int32 × sl_M := 
  if w < 0 then 
    if (τ 18 6) = (τ 25 q.toNatClampNeg) then (((sp_X3_end (sl_up (sl_up (sl_up (sl_up (sl_up (sl_up τ 18 6 ((τ 25 q.toNatClampNeg) + (1 : Int32))) 18 7 ((sl_up τ 18 6 ((τ 25 q.toNatClampNeg) + (1 : Int32))) 32 q.toNatClampNeg)) 18 8 ((sl_up (sl_up τ 18 6 ((τ 25 q.toNatClampNeg) + (1 : Int32))) 18 7 ((sl_up τ 18 6 ((τ 25 q.toNatClampNeg) + (1 : Int32))) 32 q.toNatClampNeg)) 18 6)) 18 9 ((sl_up (sl_up (sl_up τ 18 6 ((τ 25 q.toNatClampNeg) + (1 : Int32))) 18 7 ((sl_up τ 18 6 ((τ 25 q.toNatClampNeg) + (1 : Int32))) 32 q.toNatClampNeg)) 18 8 ((sl_up (sl_up τ 18 6 ((τ 25 q.toNatClampNeg) + (1 : Int32))) 18 7 ((sl_up τ 18 6 ((τ 25 q.toNatClampNeg) + (1 : Int32))) 32 q.toNatClampNeg)) 18 6)) 30 q.toNatClampNeg)) 25 q.toNatClampNeg ((sl_up (sl_up (sl_up (sl_up τ 18 6 ((τ 25 q.toNatClampNeg) + (1 : Int32))) 18 7 ((sl_up τ 18 6 ((τ 25 q.toNatClampNeg) + (1 : Int32))) 32 q.toNatClampNeg)) 18 8 ((sl_up (sl_up τ 18 6 ((τ 25 q.toNatClampNeg) + (1 : Int32))) 18 7 ((sl_up τ 18 6 ((τ 25 q.toNatClampNeg) + (1 : Int32))) 32 q.toNatClampNeg)) 18 6)) 18 9 ((sl_up (sl_up (sl_up τ 18 6 ((τ 25 q.toNatClampNeg) + (1 : Int32))) 18 7 ((sl_up τ 18 6 ((τ 25 q.toNatClampNeg) + (1 : Int32))) 32 q.toNatClampNeg)) 18 8 ((sl_up (sl_up τ 18 6 ((τ 25 q.toNatClampNeg) + (1 : Int32))) 18 7 ((sl_up τ 18 6 ((τ 25 q.toNatClampNeg) + (1 : Int32))) 32 q.toNatClampNeg)) 18 6)) 30 q.toNatClampNeg)) 18 6)) 26 q.toNatClampNeg ((sl_up (sl_up (sl_up (sl_up (sl_up τ 18 6 ((τ 25 q.toNatClampNeg) + (1 : Int32))) 18 7 ((sl_up τ 18 6 ((τ 25 q.toNatClampNeg) + (1 : Int32))) 32 q.toNatClampNeg)) 18 8 ((sl_up (sl_up τ 18 6 ((τ 25 q.toNatClampNeg) + (1 : Int32))) 18 7 ((sl_up τ 18 6 ((τ 25 q.toNatClampNeg) + (1 : Int32))) 32 q.toNatClampNeg)) 18 6)) 18 9 ((sl_up (sl_up (sl_up τ 18 6 ((τ 25 q.toNatClampNeg) + (1 : Int32))) 18 7 ((sl_up τ 18 6 ((τ 25 q.toNatClampNeg) + (1 : Int32))) 32 q.toNatClampNeg)) 18 8 ((sl_up (sl_up τ 18 6 ((τ 25 q.toNatClampNeg) + (1 : Int32))) 18 7 ((sl_up τ 18 6 ((τ 25 q.toNatClampNeg) + (1 : Int32))) 32 q.toNatClampNeg)) 18 6)) 30 q.toNatClampNeg)) 25 q.toNatClampNeg ((sl_up (sl_up (sl_up (sl_up τ 18 6 ((τ 25 q.toNatClampNeg) + (1 : Int32))) 18 7 ((sl_up τ 18 6 ((τ 25 q.toNatClampNeg) + (1 : Int32))) 32 q.toNatClampNeg)) 18 8 ((sl_up (sl_up τ 18 6 ((τ 25 q.toNatClampNeg) + (1 : Int32))) 18 7 ((sl_up τ 18 6 ((τ 25 q.toNatClampNeg) + (1 : Int32))) 32 q.toNatClampNeg)) 18 6)) 18 9 ((sl_up (sl_up (sl_up τ 18 6 ((τ 25 q.toNatClampNeg) + (1 : Int32))) 18 7 ((sl_up τ 18 6 ((τ 25 q.toNatClampNeg) + (1 : Int32))) 32 q.toNatClampNeg)) 18 8 ((sl_up (sl_up τ 18 6 ((τ 25 q.toNatClampNeg) + (1 : Int32))) 18 7 ((sl_up τ 18 6 ((τ 25 q.toNatClampNeg) + (1 : Int32))) 32 q.toNatClampNeg)) 18 6)) 30 q.toNatClampNeg)) 18 6)) 18 7)) q (1 : Int32) ((sl_up (sl_up (sl_up (sl_up (sl_up (sl_up τ 18 6 ((τ 25 q.toNatClampNeg) + (1 : Int32))) 18 7 ((sl_up τ 18 6 ((τ 25 q.toNatClampNeg) + (1 : Int32))) 32 q.toNatClampNeg)) 18 8 ((sl_up (sl_up τ 18 6 ((τ 25 q.toNatClampNeg) + (1 : Int32))) 18 7 ((sl_up τ 18 6 ((τ 25 q.toNatClampNeg) + (1 : Int32))) 32 q.toNatClampNeg)) 18 6)) 18 9 ((sl_up (sl_up (sl_up τ 18 6 ((τ 25 q.toNatClampNeg) + (1 : Int32))) 18 7 ((sl_up τ 18 6 ((τ 25 q.toNatClampNeg) + (1 : Int32))) 32 q.toNatClampNeg)) 18 8 ((sl_up (sl_up τ 18 6 ((τ 25 q.toNatClampNeg) + (1 : Int32))) 18 7 ((sl_up τ 18 6 ((τ 25 q.toNatClampNeg) + (1 : Int32))) 32 q.toNatClampNeg)) 18 6)) 30 q.toNatClampNeg)) 25 q.toNatClampNeg ((sl_up (sl_up (sl_up (sl_up τ 18 6 ((τ 25 q.toNatClampNeg) + (1 : Int32))) 18 7 ((sl_up τ 18 6 ((τ 25 q.toNatClampNeg) + (1 : Int32))) 32 q.toNatClampNeg)) 18 8 ((sl_up (sl_up τ 18 6 ((τ 25 q.toNatClampNeg) + (1 : Int32))) 18 7 ((sl_up τ 18 6 ((τ 25 q.toNatClampNeg) + (1 : Int32))) 32 q.toNatClampNeg)) 18 6)) 18 9 ((sl_up (sl_up (sl_up τ 18 6 ((τ 25 q.toNatClampNeg) + (1 : Int32))) 18 7 ((sl_up τ 18 6 ((τ 25 q.toNatClampNeg) + (1 : Int32))) 32 q.toNatClampNeg)) 18 8 ((sl_up (sl_up τ 18 6 ((τ 25 q.toNatClampNeg) + (1 : Int32))) 18 7 ((sl_up τ 18 6 ((τ 25 q.toNatClampNeg) + (1 : Int32))) 32 q.toNatClampNeg)) 18 6)) 30 q.toNatClampNeg)) 18 6)) 26 q.toNatClampNeg ((sl_up (sl_up (sl_up (sl_up (sl_up τ 18 6 ((τ 25 q.toNatClampNeg) + (1 : Int32))) 18 7 ((sl_up τ 18 6 ((τ 25 q.toNatClampNeg) + (1 : Int32))) 32 q.toNatClampNeg)) 18 8 ((sl_up (sl_up τ 18 6 ((τ 25 q.toNatClampNeg) + (1 : Int32))) 18 7 ((sl_up τ 18 6 ((τ 25 q.toNatClampNeg) + (1 : Int32))) 32 q.toNatClampNeg)) 18 6)) 18 9 ((sl_up (sl_up (sl_up τ 18 6 ((τ 25 q.toNatClampNeg) + (1 : Int32))) 18 7 ((sl_up τ 18 6 ((τ 25 q.toNatClampNeg) + (1 : Int32))) 32 q.toNatClampNeg)) 18 8 ((sl_up (sl_up τ 18 6 ((τ 25 q.toNatClampNeg) + (1 : Int32))) 18 7 ((sl_up τ 18 6 ((τ 25 q.toNatClampNeg) + (1 : Int32))) 32 q.toNatClampNeg)) 18 6)) 30 q.toNatClampNeg)) 25 q.toNatClampNeg ((sl_up (sl_up (sl_up (sl_up τ 18 6 ((τ 25 q.toNatClampNeg) + (1 : Int32))) 18 7 ((sl_up τ 18 6 ((τ 25 q.toNatClampNeg) + (1 : Int32))) 32 q.toNatClampNeg)) 18 8 ((sl_up (sl_up τ 18 6 ((τ 25 q.toNatClampNeg) + (1 : Int32))) 18 7 ((sl_up τ 18 6 ((τ 25 q.toNatClampNeg) + (1 : Int32))) 32 q.toNatClampNeg)) 18 6)) 18 9 ((sl_up (sl_up (sl_up τ 18 6 ((τ 25 q.toNatClampNeg) + (1 : Int32))) 18 7 ((sl_up τ 18 6 ((τ 25 q.toNatClampNeg) + (1 : Int32))) 32 q.toNatClampNeg)) 18 8 ((sl_up (sl_up τ 18 6 ((τ 25 q.toNatClampNeg) + (1 : Int32))) 18 7 ((sl_up τ 18 6 ((τ 25 q.toNatClampNeg) + (1 : Int32))) 32 q.toNatClampNeg)) 18 6)) 30 q.toNatClampNeg)) 18 6)) 18 7)) 18 6)).1), (sp_X3_end (sl_up (sl_up (sl_up (sl_up (sl_up (sl_up τ 18 6 ((τ 25 q.toNatClampNeg) + (1 : Int32))) 18 7 ((sl_up τ 18 6 ((τ 25 q.toNatClampNeg) + (1 : Int32))) 32 q.toNatClampNeg)) 18 8 ((sl_up (sl_up τ 18 6 ((τ 25 q.toNatClampNeg) + (1 : Int32))) 18 7 ((sl_up τ 18 6 ((τ 25 q.toNatClampNeg) + (1 : Int32))) 32 q.toNatClampNeg)) 18 6)) 18 9 ((sl_up (sl_up (sl_up τ 18 6 ((τ 25 q.toNatClampNeg) + (1 : Int32))) 18 7 ((sl_up τ 18 6 ((τ 25 q.toNatClampNeg) + (1 : Int32))) 32 q.toNatClampNeg)) 18 8 ((sl_up (sl_up τ 18 6 ((τ 25 q.toNatClampNeg) + (1 : Int32))) 18 7 ((sl_up τ 18 6 ((τ 25 q.toNatClampNeg) + (1 : Int32))) 32 q.toNatClampNeg)) 18 6)) 30 q.toNatClampNeg)) 25 q.toNatClampNeg ((sl_up (sl_up (sl_up (sl_up τ 18 6 ((τ 25 q.toNatClampNeg) + (1 : Int32))) 18 7 ((sl_up τ 18 6 ((τ 25 q.toNatClampNeg) + (1 : Int32))) 32 q.toNatClampNeg)) 18 8 ((sl_up (sl_up τ 18 6 ((τ 25 q.toNatClampNeg) + (1 : Int32))) 18 7 ((sl_up τ 18 6 ((τ 25 q.toNatClampNeg) + (1 : Int32))) 32 q.toNatClampNeg)) 18 6)) 18 9 ((sl_up (sl_up (sl_up τ 18 6 ((τ 25 q.toNatClampNeg) + (1 : Int32))) 18 7 ((sl_up τ 18 6 ((τ 25 q.toNatClampNeg) + (1 : Int32))) 32 q.toNatClampNeg)) 18 8 ((sl_up (sl_up τ 18 6 ((τ 25 q.toNatClampNeg) + (1 : Int32))) 18 7 ((sl_up τ 18 6 ((τ 25 q.toNatClampNeg) + (1 : Int32))) 32 q.toNatClampNeg)) 18 6)) 30 q.toNatClampNeg)) 18 6)) 26 q.toNatClampNeg ((sl_up (sl_up (sl_up (sl_up (sl_up τ 18 6 ((τ 25 q.toNatClampNeg) + (1 : Int32))) 18 7 ((sl_up τ 18 6 ((τ 25 q.toNatClampNeg) + (1 : Int32))) 32 q.toNatClampNeg)) 18 8 ((sl_up (sl_up τ 18 6 ((τ 25 q.toNatClampNeg) + (1 : Int32))) 18 7 ((sl_up τ 18 6 ((τ 25 q.toNatClampNeg) + (1 : Int32))) 32 q.toNatClampNeg)) 18 6)) 18 9 ((sl_up (sl_up (sl_up τ 18 6 ((τ 25 q.toNatClampNeg) + (1 : Int32))) 18 7 ((sl_up τ 18 6 ((τ 25 q.toNatClampNeg) + (1 : Int32))) 32 q.toNatClampNeg)) 18 8 ((sl_up (sl_up τ 18 6 ((τ 25 q.toNatClampNeg) + (1 : Int32))) 18 7 ((sl_up τ 18 6 ((τ 25 q.toNatClampNeg) + (1 : Int32))) 32 q.toNatClampNeg)) 18 6)) 30 q.toNatClampNeg)) 25 q.toNatClampNeg ((sl_up (sl_up (sl_up (sl_up τ 18 6 ((τ 25 q.toNatClampNeg) + (1 : Int32))) 18 7 ((sl_up τ 18 6 ((τ 25 q.toNatClampNeg) + (1 : Int32))) 32 q.toNatClampNeg)) 18 8 ((sl_up (sl_up τ 18 6 ((τ 25 q.toNatClampNeg) + (1 : Int32))) 18 7 ((sl_up τ 18 6 ((τ 25 q.toNatClampNeg) + (1 : Int32))) 32 q.toNatClampNeg)) 18 6)) 18 9 ((sl_up (sl_up (sl_up τ 18 6 ((τ 25 q.toNatClampNeg) + (1 : Int32))) 18 7 ((sl_up τ 18 6 ((τ 25 q.toNatClampNeg) + (1 : Int32))) 32 q.toNatClampNeg)) 18 8 ((sl_up (sl_up τ 18 6 ((τ 25 q.toNatClampNeg) + (1 : Int32))) 18 7 ((sl_up τ 18 6 ((τ 25 q.toNatClampNeg) + (1 : Int32))) 32 q.toNatClampNeg)) 18 6)) 30 q.toNatClampNeg)) 18 6)) 18 7)) q (1 : Int32) ((sl_up (sl_up (sl_up (sl_up (sl_up (sl_up τ 18 6 ((τ 25 q.toNatClampNeg) + (1 : Int32))) 18 7 ((sl_up τ 18 6 ((τ 25 q.toNatClampNeg) + (1 : Int32))) 32 q.toNatClampNeg)) 18 8 ((sl_up (sl_up τ 18 6 ((τ 25 q.toNatClampNeg) + (1 : Int32))) 18 7 ((sl_up τ 18 6 ((τ 25 q.toNatClampNeg) + (1 : Int32))) 32 q.toNatClampNeg)) 18 6)) 18 9 ((sl_up (sl_up (sl_up τ 18 6 ((τ 25 q.toNatClampNeg) + (1 : Int32))) 18 7 ((sl_up τ 18 6 ((τ 25 q.toNatClampNeg) + (1 : Int32))) 32 q.toNatClampNeg)) 18 8 ((sl_up (sl_up τ 18 6 ((τ 25 q.toNatClampNeg) + (1 : Int32))) 18 7 ((sl_up τ 18 6 ((τ 25 q.toNatClampNeg) + (1 : Int32))) 32 q.toNatClampNeg)) 18 6)) 30 q.toNatClampNeg)) 25 q.toNatClampNeg ((sl_up (sl_up (sl_up (sl_up τ 18 6 ((τ 25 q.toNatClampNeg) + (1 : Int32))) 18 7 ((sl_up τ 18 6 ((τ 25 q.toNatClampNeg) + (1 : Int32))) 32 q.toNatClampNeg)) 18 8 ((sl_up (sl_up τ 18 6 ((τ 25 q.toNatClampNeg) + (1 : Int32))) 18 7 ((sl_up τ 18 6 ((τ 25 q.toNatClampNeg) + (1 : Int32))) 32 q.toNatClampNeg)) 18 6)) 18 9 ((sl_up (sl_up (sl_up τ 18 6 ((τ 25 q.toNatClampNeg) + (1 : Int32))) 18 7 ((sl_up τ 18 6 ((τ 25 q.toNatClampNeg) + (1 : Int32))) 32 q.toNatClampNeg)) 18 8 ((sl_up (sl_up τ 18 6 ((τ 25 q.toNatClampNeg) + (1 : Int32))) 18 7 ((sl_up τ 18 6 ((τ 25 q.toNatClampNeg) + (1 : Int32))) 32 q.toNatClampNeg)) 18 6)) 30 q.toNatClampNeg)) 18 6)) 26 q.toNatClampNeg ((sl_up (sl_up (sl_up (sl_up (sl_up τ 18 6 ((τ 25 q.toNatClampNeg) + (1 : Int32))) 18 7 ((sl_up τ 18 6 ((τ 25 q.toNatClampNeg) + (1 : Int32))) 32 q.toNatClampNeg)) 18 8 ((sl_up (sl_up τ 18 6 ((τ 25 q.toNatClampNeg) + (1 : Int32))) 18 7 ((sl_up τ 18 6 ((τ 25 q.toNatClampNeg) + (1 : Int32))) 32 q.toNatClampNeg)) 18 6)) 18 9 ((sl_up (sl_up (sl_up τ 18 6 ((τ 25 q.toNatClampNeg) + (1 : Int32))) 18 7 ((sl_up τ 18 6 ((τ 25 q.toNatClampNeg) + (1 : Int32))) 32 q.toNatClampNeg)) 18 8 ((sl_up (sl_up τ 18 6 ((τ 25 q.toNatClampNeg) + (1 : Int32))) 18 7 ((sl_up τ 18 6 ((τ 25 q.toNatClampNeg) + (1 : Int32))) 32 q.toNatClampNeg)) 18 6)) 30 q.toNatClampNeg)) 25 q.toNatClampNeg ((sl_up (sl_up (sl_up (sl_up τ 18 6 ((τ 25 q.toNatClampNeg) + (1 : Int32))) 18 7 ((sl_up τ 18 6 ((τ 25 q.toNatClampNeg) + (1 : Int32))) 32 q.toNatClampNeg)) 18 8 ((sl_up (sl_up τ 18 6 ((τ 25 q.toNatClampNeg) + (1 : Int32))) 18 7 ((sl_up τ 18 6 ((τ 25 q.toNatClampNeg) + (1 : Int32))) 32 q.toNatClampNeg)) 18 6)) 18 9 ((sl_up (sl_up (sl_up τ 18 6 ((τ 25 q.toNatClampNeg) + (1 : Int32))) 18 7 ((sl_up τ 18 6 ((τ 25 q.toNatClampNeg) + (1 : Int32))) 32 q.toNatClampNeg)) 18 8 ((sl_up (sl_up τ 18 6 ((τ 25 q.toNatClampNeg) + (1 : Int32))) 18 7 ((sl_up τ 18 6 ((τ 25 q.toNatClampNeg) + (1 : Int32))) 32 q.toNatClampNeg)) 18 6)) 30 q.toNatClampNeg)) 18 6)) 18 7)) 18 6)).2)
    else (((sp_X3_end τ q (5 : Int32) (τ 18 6)).1), (sp_X3_end τ q (5 : Int32) (τ 18 6)).2)
  else if (τ 23 w.toNatClampNeg) = (1 : Int32) then ((-3 : Int32), τ)
  else if (τ 22 w.toNatClampNeg) ≤ ((τ 25 q.toNatClampNeg) + (1 : Int32)) then (sp_X3_seal_in_75 q 193 (sl_up τ 22 w.toNatClampNeg ((τ 25 q.toNatClampNeg) + (1 : Int32))) (0 : Int32) w)
  else (((sp_X3_end τ q (2 : Int32) (0 : Int32)).1), (sp_X3_end τ q (2 : Int32) (0 : Int32)).2)

def sp_X3_seal_in (τ : sl_M) (q : Int32) : Int32 × sl_M := (sp_X3_seal_in_17 τ q (sp_X3_nth (τ 32 q.toNatClampNeg) (2 : Int32) (τ 31 q.toNatClampNeg)))
set_option maxHeartbeats 4000000 in
set_option maxRecDepth 100000 in
theorem c_X3_seal_in (l : Launch) (G : va_G) (cy : Nat → ClassId) (ad : Nat → Nat) (σ τ : sl_M) (q : Int32) (hc : vp_in q 3) (hr0 : 0 ≤ (τ 18 0).toInt) (hr1 : (τ 18 0).toInt ≤ 192) : sl_C l G cy ad yX3_seal wsX3_seal ({ frames := 1, cells := 0, slots := 0, locals := 24 }) [.ref (ad (18)), .int q] σ τ (some (.int (sp_X3_seal_in τ q).1)) σ (sp_X3_seal_in τ q).2 := by
  refine sl_of (cc := cX3_seal) (maxL := 4) (ret := (some .int)) (by decide) rfl (Nat.le_of_ble_eq_true rfl) ?_
  intro p e s m below meth c hx hb hr hml hts hown hlocks hK hN hD hP hS ls hl
  have hown : s.vm.findClass RX3 = some m.cls := hown
  have hl : lv_has ls 4 [(0, .ref (ad (18))), (1, .int q)] := hl
  have hi3 : ∀ w ∈ wsX30, w ∈ wsX3_seal := fun _ h => (List.mem_cons_of_mem _ (List.mem_append_right _ h))
  have K75 : ∀ (n : Nat) (τ1 : sl_M) (v : Int32) (w : Int32) (H : Heap) (locs : List Loc) (ls : Array Slot), (τ1 18 0).toInt ≤ 192 → (τ1 18 0).toInt < v.toInt + (n : Int) → v.toInt ≤ (τ1 18 0).toInt → 0 ≤ v.toInt → va_P G vwCl (sl_wd cy ad σ τ1) H → va_S (sl_A ad s.heap.size) s.heap H locs → lv_has ls 4 [(3, .int v), (2, .int w), (0, .ref (ad (18))), (1, .int q)] → (sp_X3_seal_in τ q) = (sp_X3_seal_in_75 q n τ1 v w) → W p l e ({ frames := 1, cells := 0, slots := 0, locals := 24 }) s m ([.ref (ad (18)), .int q] : List Value).toArray below meth c H locs 0 0 (sl_Z G cy ad (some (.int (sp_X3_seal_in τ q).1)) σ (sp_X3_seal_in τ q).2 [.ref (ad (18)), .int q] below s) (F0 m 75 ls []) := by
    intro n
    induction n with
    | zero =>
      intro τ1 v w H locs ls hr1 h1 h2 h0 hP hS hl e_q0
      exact absurd h1 (by omega)
    | succ n ih =>
      intro τ1 v w H locs ls hr1 h1 h2 h0 hP hS hl e_q0
      refine lv_iload_n hx hb dX3_seal_75 rfl (lv_at hl 0 rfl) ?_
      refine lv_aload_n hx hb dX3_seal_76 rfl (lv_at hl 2 rfl) ?_
      refine va_get (D := G) (ci := 3) (v := .int (τ1 18 0)) (C := RX3) (T := TX3) (N := 19) hx hb hts hi3 hown hK hP 18 sl_aM rfl 0 (by decide) (hts _ mw_X3_seal_6) (fun _ h9 => h9) rfl dX3_seal_77 ?_
      refine lv_icmp_ge (tgt := 130) hx hb dX3_seal_80 (by decide) (fun c_1 => ?_) (fun c_1 => ?_)
      · refine lv_aload_n hx hb dX3_seal_130 rfl (lv_at hl 2 rfl) ?_
        refine va_get (D := G) (ci := 3) (v := .ref (ad (31))) (C := RX3) (T := TX3) (N := 19) hx hb hts hi3 hown hK hP 18 sl_aM rfl 17 (by decide) (hts _ mw_X3_seal_2) (fun _ h9 => h9) rfl dX3_seal_131 ?_
        refine lv_iload_n hx hb dX3_seal_134 rfl (lv_at hl 3 rfl) ?_
        refine lv_aload_n hx hb dX3_seal_135 rfl (lv_at hl 2 rfl) ?_
        refine va_get (D := G) (ci := 3) (v := .ref (ad (31))) (C := RX3) (T := TX3) (N := 19) hx hb hts hi3 hown hK hP 18 sl_aM rfl 17 (by decide) (hts _ mw_X3_seal_2) (fun _ h9 => h9) rfl dX3_seal_136 ?_
        refine lv_iload_n hx hb dX3_seal_139 rfl (lv_at hl 3 rfl) ?_
        refine sl_ldR 31 3 hx hb hK hP (by decide) (by decide) rfl hc dX3_seal_140 ?_
        refine lv_iconst (v := (1 : Int32)) hx hb dX3_seal_141 (by decide) ?_
        refine lv_iadd hx hb dX3_seal_142 ?_
        refine sl_stR 31 3 hx hb hK hD hP hS (by decide) (by decide) rfl hc dX3_seal_143 (fun H locs hP hS => ?_)
        refine lv_iconst (v := (0 : Int32)) hx hb dX3_seal_144 (by decide) ?_
        have e_q : (sp_X3_seal_in τ q) = ((0 : Int32), (sl_up τ1 31 q.toNatClampNeg ((τ1 31 q.toNatClampNeg) + (1 : Int32)))) := by rw [e_q0, sp_X3_seal_in_75, if_pos c_1]
        exact sl_iret hx hb hr hlocks hP hS (by rw [e_q]) rfl (by rw [e_q]) dX3_seal_145
      · refine lv_aload_n hx hb dX3_seal_83 rfl (lv_at hl 2 rfl) ?_
        refine va_get (D := G) (ci := 3) (v := .ref (ad (19))) (C := RX3) (T := TX3) (N := 19) hx hb hts hi3 hown hK hP 18 sl_aM rfl 1 (by decide) (hts _ mw_X3_seal_7) (fun _ h9 => h9) rfl dX3_seal_84 ?_
        refine lv_iload_n hx hb dX3_seal_87 rfl (lv_at hl 0 rfl) ?_
        refine sl_ldR 19 192 hx hb hK hP (by decide) (by decide) rfl (sl_in3 h0 (by have := sl_nle c_1; omega)) dX3_seal_88 ?_
        refine lv_iload_n hx hb dX3_seal_89 rfl (lv_at hl 1 rfl) ?_
        refine lv_icmp_ne (tgt := 124) hx hb dX3_seal_90 (by decide) (fun c_2 => ?_) (fun c_2 => ?_)
        · refine lv_iinc (v := (v + (1 : Int32))) (lv' := [(3, .int (v + (1 : Int32))), (2, .int w), (0, .ref (ad (18))), (1, .int q)]) hx hb dX3_seal_124 hl (k := 0) rfl rfl (by decide) rfl (fun ls hl => ?_)
          refine lv_goto (tgt := 75) hx hb dX3_seal_127 (by decide) ?_
          exact ih τ1 (v + (1 : Int32)) w _ _ ls (by first | exact hr1 | (rw [sl_up_k (by decide)]; exact hr1)) (by rw [sl_inc c_1]; first | omega | (rw [sl_up_k (by decide)]; omega)) (by rw [sl_inc c_1]; have := sl_nle c_1; first | omega | (rw [sl_up_k (by decide)]; omega)) (by rw [sl_inc c_1]; omega) hP hS (lv_sub hl [0, 1, 2, 3] rfl) (by rw [e_q0, sp_X3_seal_in_75, if_neg c_1, if_neg c_2])
        · refine lv_aload_n hx hb dX3_seal_93 rfl (lv_at hl 2 rfl) ?_
          refine va_get (D := G) (ci := 3) (v := .ref (ad (20))) (C := RX3) (T := TX3) (N := 19) hx hb hts hi3 hown hK hP 18 sl_aM rfl 2 (by decide) (hts _ mw_X3_seal_8) (fun _ h9 => h9) rfl dX3_seal_94 ?_
          refine lv_iload_n hx hb dX3_seal_97 rfl (lv_at hl 0 rfl) ?_
          refine sl_ldR 20 192 hx hb hK hP (by decide) (by decide) rfl (sl_in3 h0 (by have := sl_nle c_1; omega)) dX3_seal_98 ?_
          refine lv_iconst (v := (1 : Int32)) hx hb dX3_seal_99 (by decide) ?_
          refine lv_iadd hx hb dX3_seal_100 ?_
          refine lv_aload_n hx hb dX3_seal_101 rfl (lv_at hl 2 rfl) ?_
          refine va_get (D := G) (ci := 3) (v := .ref (ad (30))) (C := RX3) (T := TX3) (N := 19) hx hb hts hi3 hown hK hP 18 sl_aM rfl 16 (by decide) (hts _ mw_X3_seal_9) (fun _ h9 => h9) rfl dX3_seal_102 ?_
          refine lv_iload_n hx hb dX3_seal_105 rfl (lv_at hl 3 rfl) ?_
          refine sl_ldR 30 3 hx hb hK hP (by decide) (by decide) rfl hc dX3_seal_106 ?_
          refine lv_icmp_le (tgt := 124) hx hb dX3_seal_107 (by decide) (fun c_3 => ?_) (fun c_3 => ?_)
          · refine lv_iinc (v := (v + (1 : Int32))) (lv' := [(3, .int (v + (1 : Int32))), (2, .int w), (0, .ref (ad (18))), (1, .int q)]) hx hb dX3_seal_124 hl (k := 0) rfl rfl (by decide) rfl (fun ls hl => ?_)
            refine lv_goto (tgt := 75) hx hb dX3_seal_127 (by decide) ?_
            exact ih τ1 (v + (1 : Int32)) w _ _ ls (by first | exact hr1 | (rw [sl_up_k (by decide)]; exact hr1)) (by rw [sl_inc c_1]; first | omega | (rw [sl_up_k (by decide)]; omega)) (by rw [sl_inc c_1]; have := sl_nle c_1; first | omega | (rw [sl_up_k (by decide)]; omega)) (by rw [sl_inc c_1]; omega) hP hS (lv_sub hl [0, 1, 2, 3] rfl) (by rw [e_q0, sp_X3_seal_in_75, if_neg c_1, if_pos c_2, if_pos c_3])
          · refine lv_aload_n hx hb dX3_seal_110 rfl (lv_at hl 2 rfl) ?_
            refine va_get (D := G) (ci := 3) (v := .ref (ad (30))) (C := RX3) (T := TX3) (N := 19) hx hb hts hi3 hown hK hP 18 sl_aM rfl 16 (by decide) (hts _ mw_X3_seal_9) (fun _ h9 => h9) rfl dX3_seal_111 ?_
            refine lv_iload_n hx hb dX3_seal_114 rfl (lv_at hl 3 rfl) ?_
            refine lv_aload_n hx hb dX3_seal_115 rfl (lv_at hl 2 rfl) ?_
            refine va_get (D := G) (ci := 3) (v := .ref (ad (20))) (C := RX3) (T := TX3) (N := 19) hx hb hts hi3 hown hK hP 18 sl_aM rfl 2 (by decide) (hts _ mw_X3_seal_8) (fun _ h9 => h9) rfl dX3_seal_116 ?_
            refine lv_iload_n hx hb dX3_seal_119 rfl (lv_at hl 0 rfl) ?_
            refine sl_ldR 20 192 hx hb hK hP (by decide) (by decide) rfl (sl_in3 h0 (by have := sl_nle c_1; omega)) dX3_seal_120 ?_
            refine lv_iconst (v := (1 : Int32)) hx hb dX3_seal_121 (by decide) ?_
            refine lv_iadd hx hb dX3_seal_122 ?_
            refine sl_stR 30 3 hx hb hK hD hP hS (by decide) (by decide) rfl hc dX3_seal_123 (fun H locs hP hS => ?_)
            refine lv_iinc (v := (v + (1 : Int32))) (lv' := [(3, .int (v + (1 : Int32))), (2, .int w), (0, .ref (ad (18))), (1, .int q)]) hx hb dX3_seal_124 hl (k := 0) rfl rfl (by decide) rfl (fun ls hl => ?_)
            refine lv_goto (tgt := 75) hx hb dX3_seal_127 (by decide) ?_
            exact ih (sl_up τ1 30 q.toNatClampNeg ((τ1 20 v.toNatClampNeg) + (1 : Int32))) (v + (1 : Int32)) w _ _ ls (by first | exact hr1 | (rw [sl_up_k (by decide)]; exact hr1)) (by rw [sl_inc c_1]; first | omega | (rw [sl_up_k (by decide)]; omega)) (by rw [sl_inc c_1]; have := sl_nle c_1; first | omega | (rw [sl_up_k (by decide)]; omega)) (by rw [sl_inc c_1]; omega) hP hS (lv_sub hl [0, 1, 2, 3] rfl) (by rw [e_q0, sp_X3_seal_in_75, if_neg c_1, if_pos c_2, if_neg c_3])
  have K17 : ∀ (w : Int32) (H : Heap) (locs : List Loc) (ls : Array Slot), (¬ w < 0 → vp_in w 6) → va_P G vwCl (sl_wd cy ad σ τ) H → va_S (sl_A ad s.heap.size) s.heap H locs → lv_has ls 4 [(2, .int w), (0, .ref (ad (18))), (1, .int q)] → (sp_X3_seal_in τ q) = (sp_X3_seal_in_17 τ q w) → W p l e ({ frames := 1, cells := 0, slots := 0, locals := 24 }) s m ([.ref (ad (18)), .int q] : List Value).toArray below meth c H locs 0 0 (sl_Z G cy ad (some (.int (sp_X3_seal_in τ q).1)) σ (sp_X3_seal_in τ q).2 [.ref (ad (18)), .int q] below s) (F0 m 17 ls []) := by
    intro w H locs ls hu hP hS hl e_q0
    refine lv_iload_n hx hb dX3_seal_17 rfl (lv_at hl 0 rfl) ?_
    refine lv_if_lt (tgt := 146) hx hb dX3_seal_18 (by decide) (fun c_4 => ?_) (fun c_4 => ?_)
    · refine lv_aload_n hx hb dX3_seal_146 rfl (lv_at hl 1 rfl) ?_
      refine va_get (D := G) (ci := 3) (v := .int (τ 18 6)) (C := RX3) (T := TX3) (N := 19) hx hb hts hi3 hown hK hP 18 sl_aM rfl 6 (by decide) (hts _ mw_X3_seal_10) (fun _ h9 => h9) rfl dX3_seal_147 ?_
      refine lv_aload_n hx hb dX3_seal_150 rfl (lv_at hl 1 rfl) ?_
      refine va_get (D := G) (ci := 3) (v := .ref (ad (25))) (C := RX3) (T := TX3) (N := 19) hx hb hts hi3 hown hK hP 18 sl_aM rfl 11 (by decide) (hts _ mw_X3_seal_5) (fun _ h9 => h9) rfl dX3_seal_151 ?_
      refine lv_iload_n hx hb dX3_seal_154 rfl (lv_at hl 2 rfl) ?_
      refine sl_ldR 25 3 hx hb hK hP (by decide) (by decide) rfl hc dX3_seal_155 ?_
      refine lv_icmp_eq (tgt := 170) hx hb dX3_seal_156 (by decide) (fun c_5 => ?_) (fun c_5 => ?_)
      · refine lv_aload_n hx hb dX3_seal_170 rfl (lv_at hl 1 rfl) ?_
        refine lv_aload_n hx hb dX3_seal_171 rfl (lv_at hl 1 rfl) ?_
        refine va_get (D := G) (ci := 3) (v := .ref (ad (25))) (C := RX3) (T := TX3) (N := 19) hx hb hts hi3 hown hK hP 18 sl_aM rfl 11 (by decide) (hts _ mw_X3_seal_5) (fun _ h9 => h9) rfl dX3_seal_172 ?_
        refine lv_iload_n hx hb dX3_seal_175 rfl (lv_at hl 2 rfl) ?_
        refine sl_ldR 25 3 hx hb hK hP (by decide) (by decide) rfl hc dX3_seal_176 ?_
        refine lv_iconst (v := (1 : Int32)) hx hb dX3_seal_177 (by decide) ?_
        refine lv_iadd hx hb dX3_seal_178 ?_
        refine sl_putM hx hb hts hi3 hown hK hD hP hS 6 (by decide) (by decide) rfl (tyX3_ok 6 (by decide)) (hts _ mw_X3_seal_10) dX3_seal_179 (fun H locs hP hS => ?_)
        refine lv_aload_n hx hb dX3_seal_182 rfl (lv_at hl 1 rfl) ?_
        refine lv_aload_n hx hb dX3_seal_183 rfl (lv_at hl 1 rfl) ?_
        refine va_get (D := G) (ci := 3) (v := .ref (ad (32))) (C := RX3) (T := TX3) (N := 19) hx hb hts hi3 hown hK hP 18 sl_aM rfl 18 (by decide) (hts _ mw_X3_seal_1) (fun _ h9 => h9) rfl dX3_seal_184 ?_
        refine lv_iload_n hx hb dX3_seal_187 rfl (lv_at hl 2 rfl) ?_
        refine sl_ldR 32 3 hx hb hK hP (by decide) (by decide) rfl hc dX3_seal_188 ?_
        refine sl_putM hx hb hts hi3 hown hK hD hP hS 7 (by decide) (by decide) rfl (tyX3_ok 7 (by decide)) (hts _ mw_X3_seal_11) dX3_seal_189 (fun H locs hP hS => ?_)
        refine lv_aload_n hx hb dX3_seal_192 rfl (lv_at hl 1 rfl) ?_
        refine lv_aload_n hx hb dX3_seal_193 rfl (lv_at hl 1 rfl) ?_
        refine va_get (D := G) (ci := 3) (v := .int ((sl_up (sl_up τ 18 6 ((τ 25 q.toNatClampNeg) + (1 : Int32))) 18 7 ((sl_up τ 18 6 ((τ 25 q.toNatClampNeg) + (1 : Int32))) 32 q.toNatClampNeg)) 18 6)) (C := RX3) (T := TX3) (N := 19) hx hb hts hi3 hown hK hP 18 sl_aM rfl 6 (by decide) (hts _ mw_X3_seal_10) (fun _ h9 => h9) rfl dX3_seal_194 ?_
        refine sl_putM hx hb hts hi3 hown hK hD hP hS 8 (by decide) (by decide) rfl (tyX3_ok 8 (by decide)) (hts _ mw_X3_seal_12) dX3_seal_197 (fun H locs hP hS => ?_)
        refine lv_aload_n hx hb dX3_seal_200 rfl (lv_at hl 1 rfl) ?_
        refine lv_aload_n hx hb dX3_seal_201 rfl (lv_at hl 1 rfl) ?_
        refine va_get (D := G) (ci := 3) (v := .ref (ad (30))) (C := RX3) (T := TX3) (N := 19) hx hb hts hi3 hown hK hP 18 sl_aM rfl 16 (by decide) (hts _ mw_X3_seal_9) (fun _ h9 => h9) rfl dX3_seal_202 ?_
        refine lv_iload_n hx hb dX3_seal_205 rfl (lv_at hl 2 rfl) ?_
        refine sl_ldR 30 3 hx hb hK hP (by decide) (by decide) rfl hc dX3_seal_206 ?_
        refine sl_putM hx hb hts hi3 hown hK hD hP hS 9 (by decide) (by decide) rfl (tyX3_ok 9 (by decide)) (hts _ mw_X3_seal_13) dX3_seal_207 (fun H locs hP hS => ?_)
        refine lv_aload_n hx hb dX3_seal_210 rfl (lv_at hl 1 rfl) ?_
        refine va_get (D := G) (ci := 3) (v := .ref (ad (25))) (C := RX3) (T := TX3) (N := 19) hx hb hts hi3 hown hK hP 18 sl_aM rfl 11 (by decide) (hts _ mw_X3_seal_5) (fun _ h9 => h9) rfl dX3_seal_211 ?_
        refine lv_iload_n hx hb dX3_seal_214 rfl (lv_at hl 2 rfl) ?_
        refine lv_aload_n hx hb dX3_seal_215 rfl (lv_at hl 1 rfl) ?_
        refine va_get (D := G) (ci := 3) (v := .int ((sl_up (sl_up (sl_up (sl_up τ 18 6 ((τ 25 q.toNatClampNeg) + (1 : Int32))) 18 7 ((sl_up τ 18 6 ((τ 25 q.toNatClampNeg) + (1 : Int32))) 32 q.toNatClampNeg)) 18 8 ((sl_up (sl_up τ 18 6 ((τ 25 q.toNatClampNeg) + (1 : Int32))) 18 7 ((sl_up τ 18 6 ((τ 25 q.toNatClampNeg) + (1 : Int32))) 32 q.toNatClampNeg)) 18 6)) 18 9 ((sl_up (sl_up (sl_up τ 18 6 ((τ 25 q.toNatClampNeg) + (1 : Int32))) 18 7 ((sl_up τ 18 6 ((τ 25 q.toNatClampNeg) + (1 : Int32))) 32 q.toNatClampNeg)) 18 8 ((sl_up (sl_up τ 18 6 ((τ 25 q.toNatClampNeg) + (1 : Int32))) 18 7 ((sl_up τ 18 6 ((τ 25 q.toNatClampNeg) + (1 : Int32))) 32 q.toNatClampNeg)) 18 6)) 30 q.toNatClampNeg)) 18 6)) (C := RX3) (T := TX3) (N := 19) hx hb hts hi3 hown hK hP 18 sl_aM rfl 6 (by decide) (hts _ mw_X3_seal_10) (fun _ h9 => h9) rfl dX3_seal_216 ?_
        refine sl_stR 25 3 hx hb hK hD hP hS (by decide) (by decide) rfl hc dX3_seal_219 (fun H locs hP hS => ?_)
        refine lv_aload_n hx hb dX3_seal_220 rfl (lv_at hl 1 rfl) ?_
        refine va_get (D := G) (ci := 3) (v := .ref (ad (26))) (C := RX3) (T := TX3) (N := 19) hx hb hts hi3 hown hK hP 18 sl_aM rfl 12 (by decide) (hts _ mw_X3_seal_14) (fun _ h9 => h9) rfl dX3_seal_221 ?_
        refine lv_iload_n hx hb dX3_seal_224 rfl (lv_at hl 2 rfl) ?_
        refine lv_aload_n hx hb dX3_seal_225 rfl (lv_at hl 1 rfl) ?_
        refine va_get (D := G) (ci := 3) (v := .int ((sl_up (sl_up (sl_up (sl_up (sl_up τ 18 6 ((τ 25 q.toNatClampNeg) + (1 : Int32))) 18 7 ((sl_up τ 18 6 ((τ 25 q.toNatClampNeg) + (1 : Int32))) 32 q.toNatClampNeg)) 18 8 ((sl_up (sl_up τ 18 6 ((τ 25 q.toNatClampNeg) + (1 : Int32))) 18 7 ((sl_up τ 18 6 ((τ 25 q.toNatClampNeg) + (1 : Int32))) 32 q.toNatClampNeg)) 18 6)) 18 9 ((sl_up (sl_up (sl_up τ 18 6 ((τ 25 q.toNatClampNeg) + (1 : Int32))) 18 7 ((sl_up τ 18 6 ((τ 25 q.toNatClampNeg) + (1 : Int32))) 32 q.toNatClampNeg)) 18 8 ((sl_up (sl_up τ 18 6 ((τ 25 q.toNatClampNeg) + (1 : Int32))) 18 7 ((sl_up τ 18 6 ((τ 25 q.toNatClampNeg) + (1 : Int32))) 32 q.toNatClampNeg)) 18 6)) 30 q.toNatClampNeg)) 25 q.toNatClampNeg ((sl_up (sl_up (sl_up (sl_up τ 18 6 ((τ 25 q.toNatClampNeg) + (1 : Int32))) 18 7 ((sl_up τ 18 6 ((τ 25 q.toNatClampNeg) + (1 : Int32))) 32 q.toNatClampNeg)) 18 8 ((sl_up (sl_up τ 18 6 ((τ 25 q.toNatClampNeg) + (1 : Int32))) 18 7 ((sl_up τ 18 6 ((τ 25 q.toNatClampNeg) + (1 : Int32))) 32 q.toNatClampNeg)) 18 6)) 18 9 ((sl_up (sl_up (sl_up τ 18 6 ((τ 25 q.toNatClampNeg) + (1 : Int32))) 18 7 ((sl_up τ 18 6 ((τ 25 q.toNatClampNeg) + (1 : Int32))) 32 q.toNatClampNeg)) 18 8 ((sl_up (sl_up τ 18 6 ((τ 25 q.toNatClampNeg) + (1 : Int32))) 18 7 ((sl_up τ 18 6 ((τ 25 q.toNatClampNeg) + (1 : Int32))) 32 q.toNatClampNeg)) 18 6)) 30 q.toNatClampNeg)) 18 6)) 18 7)) (C := RX3) (T := TX3) (N := 19) hx hb hts hi3 hown hK hP 18 sl_aM rfl 7 (by decide) (hts _ mw_X3_seal_11) (fun _ h9 => h9) rfl dX3_seal_226 ?_
        refine sl_stR 26 3 hx hb hK hD hP hS (by decide) (by decide) rfl hc dX3_seal_229 (fun H locs hP hS => ?_)
        refine lv_aload_n hx hb dX3_seal_230 rfl (lv_at hl 1 rfl) ?_
        refine lv_iload_n hx hb dX3_seal_231 rfl (lv_at hl 2 rfl) ?_
        refine lv_iconst (v := (1 : Int32)) hx hb dX3_seal_232 (by decide) ?_
        refine lv_aload_n hx hb dX3_seal_233 rfl (lv_at hl 1 rfl) ?_
        refine va_get (D := G) (ci := 3) (v := .int ((sl_up (sl_up (sl_up (sl_up (sl_up (sl_up τ 18 6 ((τ 25 q.toNatClampNeg) + (1 : Int32))) 18 7 ((sl_up τ 18 6 ((τ 25 q.toNatClampNeg) + (1 : Int32))) 32 q.toNatClampNeg)) 18 8 ((sl_up (sl_up τ 18 6 ((τ 25 q.toNatClampNeg) + (1 : Int32))) 18 7 ((sl_up τ 18 6 ((τ 25 q.toNatClampNeg) + (1 : Int32))) 32 q.toNatClampNeg)) 18 6)) 18 9 ((sl_up (sl_up (sl_up τ 18 6 ((τ 25 q.toNatClampNeg) + (1 : Int32))) 18 7 ((sl_up τ 18 6 ((τ 25 q.toNatClampNeg) + (1 : Int32))) 32 q.toNatClampNeg)) 18 8 ((sl_up (sl_up τ 18 6 ((τ 25 q.toNatClampNeg) + (1 : Int32))) 18 7 ((sl_up τ 18 6 ((τ 25 q.toNatClampNeg) + (1 : Int32))) 32 q.toNatClampNeg)) 18 6)) 30 q.toNatClampNeg)) 25 q.toNatClampNeg ((sl_up (sl_up (sl_up (sl_up τ 18 6 ((τ 25 q.toNatClampNeg) + (1 : Int32))) 18 7 ((sl_up τ 18 6 ((τ 25 q.toNatClampNeg) + (1 : Int32))) 32 q.toNatClampNeg)) 18 8 ((sl_up (sl_up τ 18 6 ((τ 25 q.toNatClampNeg) + (1 : Int32))) 18 7 ((sl_up τ 18 6 ((τ 25 q.toNatClampNeg) + (1 : Int32))) 32 q.toNatClampNeg)) 18 6)) 18 9 ((sl_up (sl_up (sl_up τ 18 6 ((τ 25 q.toNatClampNeg) + (1 : Int32))) 18 7 ((sl_up τ 18 6 ((τ 25 q.toNatClampNeg) + (1 : Int32))) 32 q.toNatClampNeg)) 18 8 ((sl_up (sl_up τ 18 6 ((τ 25 q.toNatClampNeg) + (1 : Int32))) 18 7 ((sl_up τ 18 6 ((τ 25 q.toNatClampNeg) + (1 : Int32))) 32 q.toNatClampNeg)) 18 6)) 30 q.toNatClampNeg)) 18 6)) 26 q.toNatClampNeg ((sl_up (sl_up (sl_up (sl_up (sl_up τ 18 6 ((τ 25 q.toNatClampNeg) + (1 : Int32))) 18 7 ((sl_up τ 18 6 ((τ 25 q.toNatClampNeg) + (1 : Int32))) 32 q.toNatClampNeg)) 18 8 ((sl_up (sl_up τ 18 6 ((τ 25 q.toNatClampNeg) + (1 : Int32))) 18 7 ((sl_up τ 18 6 ((τ 25 q.toNatClampNeg) + (1 : Int32))) 32 q.toNatClampNeg)) 18 6)) 18 9 ((sl_up (sl_up (sl_up τ 18 6 ((τ 25 q.toNatClampNeg) + (1 : Int32))) 18 7 ((sl_up τ 18 6 ((τ 25 q.toNatClampNeg) + (1 : Int32))) 32 q.toNatClampNeg)) 18 8 ((sl_up (sl_up τ 18 6 ((τ 25 q.toNatClampNeg) + (1 : Int32))) 18 7 ((sl_up τ 18 6 ((τ 25 q.toNatClampNeg) + (1 : Int32))) 32 q.toNatClampNeg)) 18 6)) 30 q.toNatClampNeg)) 25 q.toNatClampNeg ((sl_up (sl_up (sl_up (sl_up τ 18 6 ((τ 25 q.toNatClampNeg) + (1 : Int32))) 18 7 ((sl_up τ 18 6 ((τ 25 q.toNatClampNeg) + (1 : Int32))) 32 q.toNatClampNeg)) 18 8 ((sl_up (sl_up τ 18 6 ((τ 25 q.toNatClampNeg) + (1 : Int32))) 18 7 ((sl_up τ 18 6 ((τ 25 q.toNatClampNeg) + (1 : Int32))) 32 q.toNatClampNeg)) 18 6)) 18 9 ((sl_up (sl_up (sl_up τ 18 6 ((τ 25 q.toNatClampNeg) + (1 : Int32))) 18 7 ((sl_up τ 18 6 ((τ 25 q.toNatClampNeg) + (1 : Int32))) 32 q.toNatClampNeg)) 18 8 ((sl_up (sl_up τ 18 6 ((τ 25 q.toNatClampNeg) + (1 : Int32))) 18 7 ((sl_up τ 18 6 ((τ 25 q.toNatClampNeg) + (1 : Int32))) 32 q.toNatClampNeg)) 18 6)) 30 q.toNatClampNeg)) 18 6)) 18 7)) 18 6)) (C := RX3) (T := TX3) (N := 19) hx hb hts hi3 hown hK hP 18 sl_aM rfl 6 (by decide) (hts _ mw_X3_seal_10) (fun _ h9 => h9) rfl dX3_seal_234 ?_
        refine sl_cV (n := 3) (As := [.int q, .int (1 : Int32), .int ((sl_up (sl_up (sl_up (sl_up (sl_up (sl_up τ 18 6 ((τ 25 q.toNatClampNeg) + (1 : Int32))) 18 7 ((sl_up τ 18 6 ((τ 25 q.toNatClampNeg) + (1 : Int32))) 32 q.toNatClampNeg)) 18 8 ((sl_up (sl_up τ 18 6 ((τ 25 q.toNatClampNeg) + (1 : Int32))) 18 7 ((sl_up τ 18 6 ((τ 25 q.toNatClampNeg) + (1 : Int32))) 32 q.toNatClampNeg)) 18 6)) 18 9 ((sl_up (sl_up (sl_up τ 18 6 ((τ 25 q.toNatClampNeg) + (1 : Int32))) 18 7 ((sl_up τ 18 6 ((τ 25 q.toNatClampNeg) + (1 : Int32))) 32 q.toNatClampNeg)) 18 8 ((sl_up (sl_up τ 18 6 ((τ 25 q.toNatClampNeg) + (1 : Int32))) 18 7 ((sl_up τ 18 6 ((τ 25 q.toNatClampNeg) + (1 : Int32))) 32 q.toNatClampNeg)) 18 6)) 30 q.toNatClampNeg)) 25 q.toNatClampNeg ((sl_up (sl_up (sl_up (sl_up τ 18 6 ((τ 25 q.toNatClampNeg) + (1 : Int32))) 18 7 ((sl_up τ 18 6 ((τ 25 q.toNatClampNeg) + (1 : Int32))) 32 q.toNatClampNeg)) 18 8 ((sl_up (sl_up τ 18 6 ((τ 25 q.toNatClampNeg) + (1 : Int32))) 18 7 ((sl_up τ 18 6 ((τ 25 q.toNatClampNeg) + (1 : Int32))) 32 q.toNatClampNeg)) 18 6)) 18 9 ((sl_up (sl_up (sl_up τ 18 6 ((τ 25 q.toNatClampNeg) + (1 : Int32))) 18 7 ((sl_up τ 18 6 ((τ 25 q.toNatClampNeg) + (1 : Int32))) 32 q.toNatClampNeg)) 18 8 ((sl_up (sl_up τ 18 6 ((τ 25 q.toNatClampNeg) + (1 : Int32))) 18 7 ((sl_up τ 18 6 ((τ 25 q.toNatClampNeg) + (1 : Int32))) 32 q.toNatClampNeg)) 18 6)) 30 q.toNatClampNeg)) 18 6)) 26 q.toNatClampNeg ((sl_up (sl_up (sl_up (sl_up (sl_up τ 18 6 ((τ 25 q.toNatClampNeg) + (1 : Int32))) 18 7 ((sl_up τ 18 6 ((τ 25 q.toNatClampNeg) + (1 : Int32))) 32 q.toNatClampNeg)) 18 8 ((sl_up (sl_up τ 18 6 ((τ 25 q.toNatClampNeg) + (1 : Int32))) 18 7 ((sl_up τ 18 6 ((τ 25 q.toNatClampNeg) + (1 : Int32))) 32 q.toNatClampNeg)) 18 6)) 18 9 ((sl_up (sl_up (sl_up τ 18 6 ((τ 25 q.toNatClampNeg) + (1 : Int32))) 18 7 ((sl_up τ 18 6 ((τ 25 q.toNatClampNeg) + (1 : Int32))) 32 q.toNatClampNeg)) 18 8 ((sl_up (sl_up τ 18 6 ((τ 25 q.toNatClampNeg) + (1 : Int32))) 18 7 ((sl_up τ 18 6 ((τ 25 q.toNatClampNeg) + (1 : Int32))) 32 q.toNatClampNeg)) 18 6)) 30 q.toNatClampNeg)) 25 q.toNatClampNeg ((sl_up (sl_up (sl_up (sl_up τ 18 6 ((τ 25 q.toNatClampNeg) + (1 : Int32))) 18 7 ((sl_up τ 18 6 ((τ 25 q.toNatClampNeg) + (1 : Int32))) 32 q.toNatClampNeg)) 18 8 ((sl_up (sl_up τ 18 6 ((τ 25 q.toNatClampNeg) + (1 : Int32))) 18 7 ((sl_up τ 18 6 ((τ 25 q.toNatClampNeg) + (1 : Int32))) 32 q.toNatClampNeg)) 18 6)) 18 9 ((sl_up (sl_up (sl_up τ 18 6 ((τ 25 q.toNatClampNeg) + (1 : Int32))) 18 7 ((sl_up τ 18 6 ((τ 25 q.toNatClampNeg) + (1 : Int32))) 32 q.toNatClampNeg)) 18 8 ((sl_up (sl_up τ 18 6 ((τ 25 q.toNatClampNeg) + (1 : Int32))) 18 7 ((sl_up τ 18 6 ((τ 25 q.toNatClampNeg) + (1 : Int32))) 32 q.toNatClampNeg)) 18 6)) 30 q.toNatClampNeg)) 18 6)) 18 7)) 18 6)]) (rest := []) ⟨hx, hb, hml, hown, hts⟩ (c_X3_end l G cy ad σ (sl_up (sl_up (sl_up (sl_up (sl_up (sl_up τ 18 6 ((τ 25 q.toNatClampNeg) + (1 : Int32))) 18 7 ((sl_up τ 18 6 ((τ 25 q.toNatClampNeg) + (1 : Int32))) 32 q.toNatClampNeg)) 18 8 ((sl_up (sl_up τ 18 6 ((τ 25 q.toNatClampNeg) + (1 : Int32))) 18 7 ((sl_up τ 18 6 ((τ 25 q.toNatClampNeg) + (1 : Int32))) 32 q.toNatClampNeg)) 18 6)) 18 9 ((sl_up (sl_up (sl_up τ 18 6 ((τ 25 q.toNatClampNeg) + (1 : Int32))) 18 7 ((sl_up τ 18 6 ((τ 25 q.toNatClampNeg) + (1 : Int32))) 32 q.toNatClampNeg)) 18 8 ((sl_up (sl_up τ 18 6 ((τ 25 q.toNatClampNeg) + (1 : Int32))) 18 7 ((sl_up τ 18 6 ((τ 25 q.toNatClampNeg) + (1 : Int32))) 32 q.toNatClampNeg)) 18 6)) 30 q.toNatClampNeg)) 25 q.toNatClampNeg ((sl_up (sl_up (sl_up (sl_up τ 18 6 ((τ 25 q.toNatClampNeg) + (1 : Int32))) 18 7 ((sl_up τ 18 6 ((τ 25 q.toNatClampNeg) + (1 : Int32))) 32 q.toNatClampNeg)) 18 8 ((sl_up (sl_up τ 18 6 ((τ 25 q.toNatClampNeg) + (1 : Int32))) 18 7 ((sl_up τ 18 6 ((τ 25 q.toNatClampNeg) + (1 : Int32))) 32 q.toNatClampNeg)) 18 6)) 18 9 ((sl_up (sl_up (sl_up τ 18 6 ((τ 25 q.toNatClampNeg) + (1 : Int32))) 18 7 ((sl_up τ 18 6 ((τ 25 q.toNatClampNeg) + (1 : Int32))) 32 q.toNatClampNeg)) 18 8 ((sl_up (sl_up τ 18 6 ((τ 25 q.toNatClampNeg) + (1 : Int32))) 18 7 ((sl_up τ 18 6 ((τ 25 q.toNatClampNeg) + (1 : Int32))) 32 q.toNatClampNeg)) 18 6)) 30 q.toNatClampNeg)) 18 6)) 26 q.toNatClampNeg ((sl_up (sl_up (sl_up (sl_up (sl_up τ 18 6 ((τ 25 q.toNatClampNeg) + (1 : Int32))) 18 7 ((sl_up τ 18 6 ((τ 25 q.toNatClampNeg) + (1 : Int32))) 32 q.toNatClampNeg)) 18 8 ((sl_up (sl_up τ 18 6 ((τ 25 q.toNatClampNeg) + (1 : Int32))) 18 7 ((sl_up τ 18 6 ((τ 25 q.toNatClampNeg) + (1 : Int32))) 32 q.toNatClampNeg)) 18 6)) 18 9 ((sl_up (sl_up (sl_up τ 18 6 ((τ 25 q.toNatClampNeg) + (1 : Int32))) 18 7 ((sl_up τ 18 6 ((τ 25 q.toNatClampNeg) + (1 : Int32))) 32 q.toNatClampNeg)) 18 8 ((sl_up (sl_up τ 18 6 ((τ 25 q.toNatClampNeg) + (1 : Int32))) 18 7 ((sl_up τ 18 6 ((τ 25 q.toNatClampNeg) + (1 : Int32))) 32 q.toNatClampNeg)) 18 6)) 30 q.toNatClampNeg)) 25 q.toNatClampNeg ((sl_up (sl_up (sl_up (sl_up τ 18 6 ((τ 25 q.toNatClampNeg) + (1 : Int32))) 18 7 ((sl_up τ 18 6 ((τ 25 q.toNatClampNeg) + (1 : Int32))) 32 q.toNatClampNeg)) 18 8 ((sl_up (sl_up τ 18 6 ((τ 25 q.toNatClampNeg) + (1 : Int32))) 18 7 ((sl_up τ 18 6 ((τ 25 q.toNatClampNeg) + (1 : Int32))) 32 q.toNatClampNeg)) 18 6)) 18 9 ((sl_up (sl_up (sl_up τ 18 6 ((τ 25 q.toNatClampNeg) + (1 : Int32))) 18 7 ((sl_up τ 18 6 ((τ 25 q.toNatClampNeg) + (1 : Int32))) 32 q.toNatClampNeg)) 18 8 ((sl_up (sl_up τ 18 6 ((τ 25 q.toNatClampNeg) + (1 : Int32))) 18 7 ((sl_up τ 18 6 ((τ 25 q.toNatClampNeg) + (1 : Int32))) 32 q.toNatClampNeg)) 18 6)) 30 q.toNatClampNeg)) 18 6)) 18 7)) q (1 : Int32) ((sl_up (sl_up (sl_up (sl_up (sl_up (sl_up τ 18 6 ((τ 25 q.toNatClampNeg) + (1 : Int32))) 18 7 ((sl_up τ 18 6 ((τ 25 q.toNatClampNeg) + (1 : Int32))) 32 q.toNatClampNeg)) 18 8 ((sl_up (sl_up τ 18 6 ((τ 25 q.toNatClampNeg) + (1 : Int32))) 18 7 ((sl_up τ 18 6 ((τ 25 q.toNatClampNeg) + (1 : Int32))) 32 q.toNatClampNeg)) 18 6)) 18 9 ((sl_up (sl_up (sl_up τ 18 6 ((τ 25 q.toNatClampNeg) + (1 : Int32))) 18 7 ((sl_up τ 18 6 ((τ 25 q.toNatClampNeg) + (1 : Int32))) 32 q.toNatClampNeg)) 18 8 ((sl_up (sl_up τ 18 6 ((τ 25 q.toNatClampNeg) + (1 : Int32))) 18 7 ((sl_up τ 18 6 ((τ 25 q.toNatClampNeg) + (1 : Int32))) 32 q.toNatClampNeg)) 18 6)) 30 q.toNatClampNeg)) 25 q.toNatClampNeg ((sl_up (sl_up (sl_up (sl_up τ 18 6 ((τ 25 q.toNatClampNeg) + (1 : Int32))) 18 7 ((sl_up τ 18 6 ((τ 25 q.toNatClampNeg) + (1 : Int32))) 32 q.toNatClampNeg)) 18 8 ((sl_up (sl_up τ 18 6 ((τ 25 q.toNatClampNeg) + (1 : Int32))) 18 7 ((sl_up τ 18 6 ((τ 25 q.toNatClampNeg) + (1 : Int32))) 32 q.toNatClampNeg)) 18 6)) 18 9 ((sl_up (sl_up (sl_up τ 18 6 ((τ 25 q.toNatClampNeg) + (1 : Int32))) 18 7 ((sl_up τ 18 6 ((τ 25 q.toNatClampNeg) + (1 : Int32))) 32 q.toNatClampNeg)) 18 8 ((sl_up (sl_up τ 18 6 ((τ 25 q.toNatClampNeg) + (1 : Int32))) 18 7 ((sl_up τ 18 6 ((τ 25 q.toNatClampNeg) + (1 : Int32))) 32 q.toNatClampNeg)) 18 6)) 30 q.toNatClampNeg)) 18 6)) 26 q.toNatClampNeg ((sl_up (sl_up (sl_up (sl_up (sl_up τ 18 6 ((τ 25 q.toNatClampNeg) + (1 : Int32))) 18 7 ((sl_up τ 18 6 ((τ 25 q.toNatClampNeg) + (1 : Int32))) 32 q.toNatClampNeg)) 18 8 ((sl_up (sl_up τ 18 6 ((τ 25 q.toNatClampNeg) + (1 : Int32))) 18 7 ((sl_up τ 18 6 ((τ 25 q.toNatClampNeg) + (1 : Int32))) 32 q.toNatClampNeg)) 18 6)) 18 9 ((sl_up (sl_up (sl_up τ 18 6 ((τ 25 q.toNatClampNeg) + (1 : Int32))) 18 7 ((sl_up τ 18 6 ((τ 25 q.toNatClampNeg) + (1 : Int32))) 32 q.toNatClampNeg)) 18 8 ((sl_up (sl_up τ 18 6 ((τ 25 q.toNatClampNeg) + (1 : Int32))) 18 7 ((sl_up τ 18 6 ((τ 25 q.toNatClampNeg) + (1 : Int32))) 32 q.toNatClampNeg)) 18 6)) 30 q.toNatClampNeg)) 25 q.toNatClampNeg ((sl_up (sl_up (sl_up (sl_up τ 18 6 ((τ 25 q.toNatClampNeg) + (1 : Int32))) 18 7 ((sl_up τ 18 6 ((τ 25 q.toNatClampNeg) + (1 : Int32))) 32 q.toNatClampNeg)) 18 8 ((sl_up (sl_up τ 18 6 ((τ 25 q.toNatClampNeg) + (1 : Int32))) 18 7 ((sl_up τ 18 6 ((τ 25 q.toNatClampNeg) + (1 : Int32))) 32 q.toNatClampNeg)) 18 6)) 18 9 ((sl_up (sl_up (sl_up τ 18 6 ((τ 25 q.toNatClampNeg) + (1 : Int32))) 18 7 ((sl_up τ 18 6 ((τ 25 q.toNatClampNeg) + (1 : Int32))) 32 q.toNatClampNeg)) 18 8 ((sl_up (sl_up τ 18 6 ((τ 25 q.toNatClampNeg) + (1 : Int32))) 18 7 ((sl_up τ 18 6 ((τ 25 q.toNatClampNeg) + (1 : Int32))) 32 q.toNatClampNeg)) 18 6)) 30 q.toNatClampNeg)) 18 6)) 18 7)) 18 6) hc) gX3_seal_X3_end rfl rfl rfl (by decide +kernel) ⟨Nat.le_of_ble_eq_true rfl, Nat.le_of_ble_eq_true rfl⟩ (va_recv hK hP (ci := 3) (q0 := 18) rfl sl_aM) rfl hl.1 rfl (Nat.le_of_ble_eq_true rfl) dX3_seal_237 ⟨Nat.zero_le _, Nat.zero_le _⟩ hK hN hD hP hS (fun H locs hP hS => ?_)
        refine W.eq (g2 := F0 m 240 ls [.int ((sp_X3_end (sl_up (sl_up (sl_up (sl_up (sl_up (sl_up τ 18 6 ((τ 25 q.toNatClampNeg) + (1 : Int32))) 18 7 ((sl_up τ 18 6 ((τ 25 q.toNatClampNeg) + (1 : Int32))) 32 q.toNatClampNeg)) 18 8 ((sl_up (sl_up τ 18 6 ((τ 25 q.toNatClampNeg) + (1 : Int32))) 18 7 ((sl_up τ 18 6 ((τ 25 q.toNatClampNeg) + (1 : Int32))) 32 q.toNatClampNeg)) 18 6)) 18 9 ((sl_up (sl_up (sl_up τ 18 6 ((τ 25 q.toNatClampNeg) + (1 : Int32))) 18 7 ((sl_up τ 18 6 ((τ 25 q.toNatClampNeg) + (1 : Int32))) 32 q.toNatClampNeg)) 18 8 ((sl_up (sl_up τ 18 6 ((τ 25 q.toNatClampNeg) + (1 : Int32))) 18 7 ((sl_up τ 18 6 ((τ 25 q.toNatClampNeg) + (1 : Int32))) 32 q.toNatClampNeg)) 18 6)) 30 q.toNatClampNeg)) 25 q.toNatClampNeg ((sl_up (sl_up (sl_up (sl_up τ 18 6 ((τ 25 q.toNatClampNeg) + (1 : Int32))) 18 7 ((sl_up τ 18 6 ((τ 25 q.toNatClampNeg) + (1 : Int32))) 32 q.toNatClampNeg)) 18 8 ((sl_up (sl_up τ 18 6 ((τ 25 q.toNatClampNeg) + (1 : Int32))) 18 7 ((sl_up τ 18 6 ((τ 25 q.toNatClampNeg) + (1 : Int32))) 32 q.toNatClampNeg)) 18 6)) 18 9 ((sl_up (sl_up (sl_up τ 18 6 ((τ 25 q.toNatClampNeg) + (1 : Int32))) 18 7 ((sl_up τ 18 6 ((τ 25 q.toNatClampNeg) + (1 : Int32))) 32 q.toNatClampNeg)) 18 8 ((sl_up (sl_up τ 18 6 ((τ 25 q.toNatClampNeg) + (1 : Int32))) 18 7 ((sl_up τ 18 6 ((τ 25 q.toNatClampNeg) + (1 : Int32))) 32 q.toNatClampNeg)) 18 6)) 30 q.toNatClampNeg)) 18 6)) 26 q.toNatClampNeg ((sl_up (sl_up (sl_up (sl_up (sl_up τ 18 6 ((τ 25 q.toNatClampNeg) + (1 : Int32))) 18 7 ((sl_up τ 18 6 ((τ 25 q.toNatClampNeg) + (1 : Int32))) 32 q.toNatClampNeg)) 18 8 ((sl_up (sl_up τ 18 6 ((τ 25 q.toNatClampNeg) + (1 : Int32))) 18 7 ((sl_up τ 18 6 ((τ 25 q.toNatClampNeg) + (1 : Int32))) 32 q.toNatClampNeg)) 18 6)) 18 9 ((sl_up (sl_up (sl_up τ 18 6 ((τ 25 q.toNatClampNeg) + (1 : Int32))) 18 7 ((sl_up τ 18 6 ((τ 25 q.toNatClampNeg) + (1 : Int32))) 32 q.toNatClampNeg)) 18 8 ((sl_up (sl_up τ 18 6 ((τ 25 q.toNatClampNeg) + (1 : Int32))) 18 7 ((sl_up τ 18 6 ((τ 25 q.toNatClampNeg) + (1 : Int32))) 32 q.toNatClampNeg)) 18 6)) 30 q.toNatClampNeg)) 25 q.toNatClampNeg ((sl_up (sl_up (sl_up (sl_up τ 18 6 ((τ 25 q.toNatClampNeg) + (1 : Int32))) 18 7 ((sl_up τ 18 6 ((τ 25 q.toNatClampNeg) + (1 : Int32))) 32 q.toNatClampNeg)) 18 8 ((sl_up (sl_up τ 18 6 ((τ 25 q.toNatClampNeg) + (1 : Int32))) 18 7 ((sl_up τ 18 6 ((τ 25 q.toNatClampNeg) + (1 : Int32))) 32 q.toNatClampNeg)) 18 6)) 18 9 ((sl_up (sl_up (sl_up τ 18 6 ((τ 25 q.toNatClampNeg) + (1 : Int32))) 18 7 ((sl_up τ 18 6 ((τ 25 q.toNatClampNeg) + (1 : Int32))) 32 q.toNatClampNeg)) 18 8 ((sl_up (sl_up τ 18 6 ((τ 25 q.toNatClampNeg) + (1 : Int32))) 18 7 ((sl_up τ 18 6 ((τ 25 q.toNatClampNeg) + (1 : Int32))) 32 q.toNatClampNeg)) 18 6)) 30 q.toNatClampNeg)) 18 6)) 18 7)) q (1 : Int32) ((sl_up (sl_up (sl_up (sl_up (sl_up (sl_up τ 18 6 ((τ 25 q.toNatClampNeg) + (1 : Int32))) 18 7 ((sl_up τ 18 6 ((τ 25 q.toNatClampNeg) + (1 : Int32))) 32 q.toNatClampNeg)) 18 8 ((sl_up (sl_up τ 18 6 ((τ 25 q.toNatClampNeg) + (1 : Int32))) 18 7 ((sl_up τ 18 6 ((τ 25 q.toNatClampNeg) + (1 : Int32))) 32 q.toNatClampNeg)) 18 6)) 18 9 ((sl_up (sl_up (sl_up τ 18 6 ((τ 25 q.toNatClampNeg) + (1 : Int32))) 18 7 ((sl_up τ 18 6 ((τ 25 q.toNatClampNeg) + (1 : Int32))) 32 q.toNatClampNeg)) 18 8 ((sl_up (sl_up τ 18 6 ((τ 25 q.toNatClampNeg) + (1 : Int32))) 18 7 ((sl_up τ 18 6 ((τ 25 q.toNatClampNeg) + (1 : Int32))) 32 q.toNatClampNeg)) 18 6)) 30 q.toNatClampNeg)) 25 q.toNatClampNeg ((sl_up (sl_up (sl_up (sl_up τ 18 6 ((τ 25 q.toNatClampNeg) + (1 : Int32))) 18 7 ((sl_up τ 18 6 ((τ 25 q.toNatClampNeg) + (1 : Int32))) 32 q.toNatClampNeg)) 18 8 ((sl_up (sl_up τ 18 6 ((τ 25 q.toNatClampNeg) + (1 : Int32))) 18 7 ((sl_up τ 18 6 ((τ 25 q.toNatClampNeg) + (1 : Int32))) 32 q.toNatClampNeg)) 18 6)) 18 9 ((sl_up (sl_up (sl_up τ 18 6 ((τ 25 q.toNatClampNeg) + (1 : Int32))) 18 7 ((sl_up τ 18 6 ((τ 25 q.toNatClampNeg) + (1 : Int32))) 32 q.toNatClampNeg)) 18 8 ((sl_up (sl_up τ 18 6 ((τ 25 q.toNatClampNeg) + (1 : Int32))) 18 7 ((sl_up τ 18 6 ((τ 25 q.toNatClampNeg) + (1 : Int32))) 32 q.toNatClampNeg)) 18 6)) 30 q.toNatClampNeg)) 18 6)) 26 q.toNatClampNeg ((sl_up (sl_up (sl_up (sl_up (sl_up τ 18 6 ((τ 25 q.toNatClampNeg) + (1 : Int32))) 18 7 ((sl_up τ 18 6 ((τ 25 q.toNatClampNeg) + (1 : Int32))) 32 q.toNatClampNeg)) 18 8 ((sl_up (sl_up τ 18 6 ((τ 25 q.toNatClampNeg) + (1 : Int32))) 18 7 ((sl_up τ 18 6 ((τ 25 q.toNatClampNeg) + (1 : Int32))) 32 q.toNatClampNeg)) 18 6)) 18 9 ((sl_up (sl_up (sl_up τ 18 6 ((τ 25 q.toNatClampNeg) + (1 : Int32))) 18 7 ((sl_up τ 18 6 ((τ 25 q.toNatClampNeg) + (1 : Int32))) 32 q.toNatClampNeg)) 18 8 ((sl_up (sl_up τ 18 6 ((τ 25 q.toNatClampNeg) + (1 : Int32))) 18 7 ((sl_up τ 18 6 ((τ 25 q.toNatClampNeg) + (1 : Int32))) 32 q.toNatClampNeg)) 18 6)) 30 q.toNatClampNeg)) 25 q.toNatClampNeg ((sl_up (sl_up (sl_up (sl_up τ 18 6 ((τ 25 q.toNatClampNeg) + (1 : Int32))) 18 7 ((sl_up τ 18 6 ((τ 25 q.toNatClampNeg) + (1 : Int32))) 32 q.toNatClampNeg)) 18 8 ((sl_up (sl_up τ 18 6 ((τ 25 q.toNatClampNeg) + (1 : Int32))) 18 7 ((sl_up τ 18 6 ((τ 25 q.toNatClampNeg) + (1 : Int32))) 32 q.toNatClampNeg)) 18 6)) 18 9 ((sl_up (sl_up (sl_up τ 18 6 ((τ 25 q.toNatClampNeg) + (1 : Int32))) 18 7 ((sl_up τ 18 6 ((τ 25 q.toNatClampNeg) + (1 : Int32))) 32 q.toNatClampNeg)) 18 8 ((sl_up (sl_up τ 18 6 ((τ 25 q.toNatClampNeg) + (1 : Int32))) 18 7 ((sl_up τ 18 6 ((τ 25 q.toNatClampNeg) + (1 : Int32))) 32 q.toNatClampNeg)) 18 6)) 30 q.toNatClampNeg)) 18 6)) 18 7)) 18 6)).1)]) rfl ?_
        have e_q : (sp_X3_seal_in τ q) = (((sp_X3_end (sl_up (sl_up (sl_up (sl_up (sl_up (sl_up τ 18 6 ((τ 25 q.toNatClampNeg) + (1 : Int32))) 18 7 ((sl_up τ 18 6 ((τ 25 q.toNatClampNeg) + (1 : Int32))) 32 q.toNatClampNeg)) 18 8 ((sl_up (sl_up τ 18 6 ((τ 25 q.toNatClampNeg) + (1 : Int32))) 18 7 ((sl_up τ 18 6 ((τ 25 q.toNatClampNeg) + (1 : Int32))) 32 q.toNatClampNeg)) 18 6)) 18 9 ((sl_up (sl_up (sl_up τ 18 6 ((τ 25 q.toNatClampNeg) + (1 : Int32))) 18 7 ((sl_up τ 18 6 ((τ 25 q.toNatClampNeg) + (1 : Int32))) 32 q.toNatClampNeg)) 18 8 ((sl_up (sl_up τ 18 6 ((τ 25 q.toNatClampNeg) + (1 : Int32))) 18 7 ((sl_up τ 18 6 ((τ 25 q.toNatClampNeg) + (1 : Int32))) 32 q.toNatClampNeg)) 18 6)) 30 q.toNatClampNeg)) 25 q.toNatClampNeg ((sl_up (sl_up (sl_up (sl_up τ 18 6 ((τ 25 q.toNatClampNeg) + (1 : Int32))) 18 7 ((sl_up τ 18 6 ((τ 25 q.toNatClampNeg) + (1 : Int32))) 32 q.toNatClampNeg)) 18 8 ((sl_up (sl_up τ 18 6 ((τ 25 q.toNatClampNeg) + (1 : Int32))) 18 7 ((sl_up τ 18 6 ((τ 25 q.toNatClampNeg) + (1 : Int32))) 32 q.toNatClampNeg)) 18 6)) 18 9 ((sl_up (sl_up (sl_up τ 18 6 ((τ 25 q.toNatClampNeg) + (1 : Int32))) 18 7 ((sl_up τ 18 6 ((τ 25 q.toNatClampNeg) + (1 : Int32))) 32 q.toNatClampNeg)) 18 8 ((sl_up (sl_up τ 18 6 ((τ 25 q.toNatClampNeg) + (1 : Int32))) 18 7 ((sl_up τ 18 6 ((τ 25 q.toNatClampNeg) + (1 : Int32))) 32 q.toNatClampNeg)) 18 6)) 30 q.toNatClampNeg)) 18 6)) 26 q.toNatClampNeg ((sl_up (sl_up (sl_up (sl_up (sl_up τ 18 6 ((τ 25 q.toNatClampNeg) + (1 : Int32))) 18 7 ((sl_up τ 18 6 ((τ 25 q.toNatClampNeg) + (1 : Int32))) 32 q.toNatClampNeg)) 18 8 ((sl_up (sl_up τ 18 6 ((τ 25 q.toNatClampNeg) + (1 : Int32))) 18 7 ((sl_up τ 18 6 ((τ 25 q.toNatClampNeg) + (1 : Int32))) 32 q.toNatClampNeg)) 18 6)) 18 9 ((sl_up (sl_up (sl_up τ 18 6 ((τ 25 q.toNatClampNeg) + (1 : Int32))) 18 7 ((sl_up τ 18 6 ((τ 25 q.toNatClampNeg) + (1 : Int32))) 32 q.toNatClampNeg)) 18 8 ((sl_up (sl_up τ 18 6 ((τ 25 q.toNatClampNeg) + (1 : Int32))) 18 7 ((sl_up τ 18 6 ((τ 25 q.toNatClampNeg) + (1 : Int32))) 32 q.toNatClampNeg)) 18 6)) 30 q.toNatClampNeg)) 25 q.toNatClampNeg ((sl_up (sl_up (sl_up (sl_up τ 18 6 ((τ 25 q.toNatClampNeg) + (1 : Int32))) 18 7 ((sl_up τ 18 6 ((τ 25 q.toNatClampNeg) + (1 : Int32))) 32 q.toNatClampNeg)) 18 8 ((sl_up (sl_up τ 18 6 ((τ 25 q.toNatClampNeg) + (1 : Int32))) 18 7 ((sl_up τ 18 6 ((τ 25 q.toNatClampNeg) + (1 : Int32))) 32 q.toNatClampNeg)) 18 6)) 18 9 ((sl_up (sl_up (sl_up τ 18 6 ((τ 25 q.toNatClampNeg) + (1 : Int32))) 18 7 ((sl_up τ 18 6 ((τ 25 q.toNatClampNeg) + (1 : Int32))) 32 q.toNatClampNeg)) 18 8 ((sl_up (sl_up τ 18 6 ((τ 25 q.toNatClampNeg) + (1 : Int32))) 18 7 ((sl_up τ 18 6 ((τ 25 q.toNatClampNeg) + (1 : Int32))) 32 q.toNatClampNeg)) 18 6)) 30 q.toNatClampNeg)) 18 6)) 18 7)) q (1 : Int32) ((sl_up (sl_up (sl_up (sl_up (sl_up (sl_up τ 18 6 ((τ 25 q.toNatClampNeg) + (1 : Int32))) 18 7 ((sl_up τ 18 6 ((τ 25 q.toNatClampNeg) + (1 : Int32))) 32 q.toNatClampNeg)) 18 8 ((sl_up (sl_up τ 18 6 ((τ 25 q.toNatClampNeg) + (1 : Int32))) 18 7 ((sl_up τ 18 6 ((τ 25 q.toNatClampNeg) + (1 : Int32))) 32 q.toNatClampNeg)) 18 6)) 18 9 ((sl_up (sl_up (sl_up τ 18 6 ((τ 25 q.toNatClampNeg) + (1 : Int32))) 18 7 ((sl_up τ 18 6 ((τ 25 q.toNatClampNeg) + (1 : Int32))) 32 q.toNatClampNeg)) 18 8 ((sl_up (sl_up τ 18 6 ((τ 25 q.toNatClampNeg) + (1 : Int32))) 18 7 ((sl_up τ 18 6 ((τ 25 q.toNatClampNeg) + (1 : Int32))) 32 q.toNatClampNeg)) 18 6)) 30 q.toNatClampNeg)) 25 q.toNatClampNeg ((sl_up (sl_up (sl_up (sl_up τ 18 6 ((τ 25 q.toNatClampNeg) + (1 : Int32))) 18 7 ((sl_up τ 18 6 ((τ 25 q.toNatClampNeg) + (1 : Int32))) 32 q.toNatClampNeg)) 18 8 ((sl_up (sl_up τ 18 6 ((τ 25 q.toNatClampNeg) + (1 : Int32))) 18 7 ((sl_up τ 18 6 ((τ 25 q.toNatClampNeg) + (1 : Int32))) 32 q.toNatClampNeg)) 18 6)) 18 9 ((sl_up (sl_up (sl_up τ 18 6 ((τ 25 q.toNatClampNeg) + (1 : Int32))) 18 7 ((sl_up τ 18 6 ((τ 25 q.toNatClampNeg) + (1 : Int32))) 32 q.toNatClampNeg)) 18 8 ((sl_up (sl_up τ 18 6 ((τ 25 q.toNatClampNeg) + (1 : Int32))) 18 7 ((sl_up τ 18 6 ((τ 25 q.toNatClampNeg) + (1 : Int32))) 32 q.toNatClampNeg)) 18 6)) 30 q.toNatClampNeg)) 18 6)) 26 q.toNatClampNeg ((sl_up (sl_up (sl_up (sl_up (sl_up τ 18 6 ((τ 25 q.toNatClampNeg) + (1 : Int32))) 18 7 ((sl_up τ 18 6 ((τ 25 q.toNatClampNeg) + (1 : Int32))) 32 q.toNatClampNeg)) 18 8 ((sl_up (sl_up τ 18 6 ((τ 25 q.toNatClampNeg) + (1 : Int32))) 18 7 ((sl_up τ 18 6 ((τ 25 q.toNatClampNeg) + (1 : Int32))) 32 q.toNatClampNeg)) 18 6)) 18 9 ((sl_up (sl_up (sl_up τ 18 6 ((τ 25 q.toNatClampNeg) + (1 : Int32))) 18 7 ((sl_up τ 18 6 ((τ 25 q.toNatClampNeg) + (1 : Int32))) 32 q.toNatClampNeg)) 18 8 ((sl_up (sl_up τ 18 6 ((τ 25 q.toNatClampNeg) + (1 : Int32))) 18 7 ((sl_up τ 18 6 ((τ 25 q.toNatClampNeg) + (1 : Int32))) 32 q.toNatClampNeg)) 18 6)) 30 q.toNatClampNeg)) 25 q.toNatClampNeg ((sl_up (sl_up (sl_up (sl_up τ 18 6 ((τ 25 q.toNatClampNeg) + (1 : Int32))) 18 7 ((sl_up τ 18 6 ((τ 25 q.toNatClampNeg) + (1 : Int32))) 32 q.toNatClampNeg)) 18 8 ((sl_up (sl_up τ 18 6 ((τ 25 q.toNatClampNeg) + (1 : Int32))) 18 7 ((sl_up τ 18 6 ((τ 25 q.toNatClampNeg) + (1 : Int32))) 32 q.toNatClampNeg)) 18 6)) 18 9 ((sl_up (sl_up (sl_up τ 18 6 ((τ 25 q.toNatClampNeg) + (1 : Int32))) 18 7 ((sl_up τ 18 6 ((τ 25 q.toNatClampNeg) + (1 : Int32))) 32 q.toNatClampNeg)) 18 8 ((sl_up (sl_up τ 18 6 ((τ 25 q.toNatClampNeg) + (1 : Int32))) 18 7 ((sl_up τ 18 6 ((τ 25 q.toNatClampNeg) + (1 : Int32))) 32 q.toNatClampNeg)) 18 6)) 30 q.toNatClampNeg)) 18 6)) 18 7)) 18 6)).1), (sp_X3_end (sl_up (sl_up (sl_up (sl_up (sl_up (sl_up τ 18 6 ((τ 25 q.toNatClampNeg) + (1 : Int32))) 18 7 ((sl_up τ 18 6 ((τ 25 q.toNatClampNeg) + (1 : Int32))) 32 q.toNatClampNeg)) 18 8 ((sl_up (sl_up τ 18 6 ((τ 25 q.toNatClampNeg) + (1 : Int32))) 18 7 ((sl_up τ 18 6 ((τ 25 q.toNatClampNeg) + (1 : Int32))) 32 q.toNatClampNeg)) 18 6)) 18 9 ((sl_up (sl_up (sl_up τ 18 6 ((τ 25 q.toNatClampNeg) + (1 : Int32))) 18 7 ((sl_up τ 18 6 ((τ 25 q.toNatClampNeg) + (1 : Int32))) 32 q.toNatClampNeg)) 18 8 ((sl_up (sl_up τ 18 6 ((τ 25 q.toNatClampNeg) + (1 : Int32))) 18 7 ((sl_up τ 18 6 ((τ 25 q.toNatClampNeg) + (1 : Int32))) 32 q.toNatClampNeg)) 18 6)) 30 q.toNatClampNeg)) 25 q.toNatClampNeg ((sl_up (sl_up (sl_up (sl_up τ 18 6 ((τ 25 q.toNatClampNeg) + (1 : Int32))) 18 7 ((sl_up τ 18 6 ((τ 25 q.toNatClampNeg) + (1 : Int32))) 32 q.toNatClampNeg)) 18 8 ((sl_up (sl_up τ 18 6 ((τ 25 q.toNatClampNeg) + (1 : Int32))) 18 7 ((sl_up τ 18 6 ((τ 25 q.toNatClampNeg) + (1 : Int32))) 32 q.toNatClampNeg)) 18 6)) 18 9 ((sl_up (sl_up (sl_up τ 18 6 ((τ 25 q.toNatClampNeg) + (1 : Int32))) 18 7 ((sl_up τ 18 6 ((τ 25 q.toNatClampNeg) + (1 : Int32))) 32 q.toNatClampNeg)) 18 8 ((sl_up (sl_up τ 18 6 ((τ 25 q.toNatClampNeg) + (1 : Int32))) 18 7 ((sl_up τ 18 6 ((τ 25 q.toNatClampNeg) + (1 : Int32))) 32 q.toNatClampNeg)) 18 6)) 30 q.toNatClampNeg)) 18 6)) 26 q.toNatClampNeg ((sl_up (sl_up (sl_up (sl_up (sl_up τ 18 6 ((τ 25 q.toNatClampNeg) + (1 : Int32))) 18 7 ((sl_up τ 18 6 ((τ 25 q.toNatClampNeg) + (1 : Int32))) 32 q.toNatClampNeg)) 18 8 ((sl_up (sl_up τ 18 6 ((τ 25 q.toNatClampNeg) + (1 : Int32))) 18 7 ((sl_up τ 18 6 ((τ 25 q.toNatClampNeg) + (1 : Int32))) 32 q.toNatClampNeg)) 18 6)) 18 9 ((sl_up (sl_up (sl_up τ 18 6 ((τ 25 q.toNatClampNeg) + (1 : Int32))) 18 7 ((sl_up τ 18 6 ((τ 25 q.toNatClampNeg) + (1 : Int32))) 32 q.toNatClampNeg)) 18 8 ((sl_up (sl_up τ 18 6 ((τ 25 q.toNatClampNeg) + (1 : Int32))) 18 7 ((sl_up τ 18 6 ((τ 25 q.toNatClampNeg) + (1 : Int32))) 32 q.toNatClampNeg)) 18 6)) 30 q.toNatClampNeg)) 25 q.toNatClampNeg ((sl_up (sl_up (sl_up (sl_up τ 18 6 ((τ 25 q.toNatClampNeg) + (1 : Int32))) 18 7 ((sl_up τ 18 6 ((τ 25 q.toNatClampNeg) + (1 : Int32))) 32 q.toNatClampNeg)) 18 8 ((sl_up (sl_up τ 18 6 ((τ 25 q.toNatClampNeg) + (1 : Int32))) 18 7 ((sl_up τ 18 6 ((τ 25 q.toNatClampNeg) + (1 : Int32))) 32 q.toNatClampNeg)) 18 6)) 18 9 ((sl_up (sl_up (sl_up τ 18 6 ((τ 25 q.toNatClampNeg) + (1 : Int32))) 18 7 ((sl_up τ 18 6 ((τ 25 q.toNatClampNeg) + (1 : Int32))) 32 q.toNatClampNeg)) 18 8 ((sl_up (sl_up τ 18 6 ((τ 25 q.toNatClampNeg) + (1 : Int32))) 18 7 ((sl_up τ 18 6 ((τ 25 q.toNatClampNeg) + (1 : Int32))) 32 q.toNatClampNeg)) 18 6)) 30 q.toNatClampNeg)) 18 6)) 18 7)) q (1 : Int32) ((sl_up (sl_up (sl_up (sl_up (sl_up (sl_up τ 18 6 ((τ 25 q.toNatClampNeg) + (1 : Int32))) 18 7 ((sl_up τ 18 6 ((τ 25 q.toNatClampNeg) + (1 : Int32))) 32 q.toNatClampNeg)) 18 8 ((sl_up (sl_up τ 18 6 ((τ 25 q.toNatClampNeg) + (1 : Int32))) 18 7 ((sl_up τ 18 6 ((τ 25 q.toNatClampNeg) + (1 : Int32))) 32 q.toNatClampNeg)) 18 6)) 18 9 ((sl_up (sl_up (sl_up τ 18 6 ((τ 25 q.toNatClampNeg) + (1 : Int32))) 18 7 ((sl_up τ 18 6 ((τ 25 q.toNatClampNeg) + (1 : Int32))) 32 q.toNatClampNeg)) 18 8 ((sl_up (sl_up τ 18 6 ((τ 25 q.toNatClampNeg) + (1 : Int32))) 18 7 ((sl_up τ 18 6 ((τ 25 q.toNatClampNeg) + (1 : Int32))) 32 q.toNatClampNeg)) 18 6)) 30 q.toNatClampNeg)) 25 q.toNatClampNeg ((sl_up (sl_up (sl_up (sl_up τ 18 6 ((τ 25 q.toNatClampNeg) + (1 : Int32))) 18 7 ((sl_up τ 18 6 ((τ 25 q.toNatClampNeg) + (1 : Int32))) 32 q.toNatClampNeg)) 18 8 ((sl_up (sl_up τ 18 6 ((τ 25 q.toNatClampNeg) + (1 : Int32))) 18 7 ((sl_up τ 18 6 ((τ 25 q.toNatClampNeg) + (1 : Int32))) 32 q.toNatClampNeg)) 18 6)) 18 9 ((sl_up (sl_up (sl_up τ 18 6 ((τ 25 q.toNatClampNeg) + (1 : Int32))) 18 7 ((sl_up τ 18 6 ((τ 25 q.toNatClampNeg) + (1 : Int32))) 32 q.toNatClampNeg)) 18 8 ((sl_up (sl_up τ 18 6 ((τ 25 q.toNatClampNeg) + (1 : Int32))) 18 7 ((sl_up τ 18 6 ((τ 25 q.toNatClampNeg) + (1 : Int32))) 32 q.toNatClampNeg)) 18 6)) 30 q.toNatClampNeg)) 18 6)) 26 q.toNatClampNeg ((sl_up (sl_up (sl_up (sl_up (sl_up τ 18 6 ((τ 25 q.toNatClampNeg) + (1 : Int32))) 18 7 ((sl_up τ 18 6 ((τ 25 q.toNatClampNeg) + (1 : Int32))) 32 q.toNatClampNeg)) 18 8 ((sl_up (sl_up τ 18 6 ((τ 25 q.toNatClampNeg) + (1 : Int32))) 18 7 ((sl_up τ 18 6 ((τ 25 q.toNatClampNeg) + (1 : Int32))) 32 q.toNatClampNeg)) 18 6)) 18 9 ((sl_up (sl_up (sl_up τ 18 6 ((τ 25 q.toNatClampNeg) + (1 : Int32))) 18 7 ((sl_up τ 18 6 ((τ 25 q.toNatClampNeg) + (1 : Int32))) 32 q.toNatClampNeg)) 18 8 ((sl_up (sl_up τ 18 6 ((τ 25 q.toNatClampNeg) + (1 : Int32))) 18 7 ((sl_up τ 18 6 ((τ 25 q.toNatClampNeg) + (1 : Int32))) 32 q.toNatClampNeg)) 18 6)) 30 q.toNatClampNeg)) 25 q.toNatClampNeg ((sl_up (sl_up (sl_up (sl_up τ 18 6 ((τ 25 q.toNatClampNeg) + (1 : Int32))) 18 7 ((sl_up τ 18 6 ((τ 25 q.toNatClampNeg) + (1 : Int32))) 32 q.toNatClampNeg)) 18 8 ((sl_up (sl_up τ 18 6 ((τ 25 q.toNatClampNeg) + (1 : Int32))) 18 7 ((sl_up τ 18 6 ((τ 25 q.toNatClampNeg) + (1 : Int32))) 32 q.toNatClampNeg)) 18 6)) 18 9 ((sl_up (sl_up (sl_up τ 18 6 ((τ 25 q.toNatClampNeg) + (1 : Int32))) 18 7 ((sl_up τ 18 6 ((τ 25 q.toNatClampNeg) + (1 : Int32))) 32 q.toNatClampNeg)) 18 8 ((sl_up (sl_up τ 18 6 ((τ 25 q.toNatClampNeg) + (1 : Int32))) 18 7 ((sl_up τ 18 6 ((τ 25 q.toNatClampNeg) + (1 : Int32))) 32 q.toNatClampNeg)) 18 6)) 30 q.toNatClampNeg)) 18 6)) 18 7)) 18 6)).2) := by rw [e_q0, sp_X3_seal_in_17, if_pos c_4, if_pos c_5]
        exact sl_iret hx hb hr hlocks hP hS (by rw [e_q]) rfl (by rw [e_q]) dX3_seal_240
      · refine lv_aload_n hx hb dX3_seal_159 rfl (lv_at hl 1 rfl) ?_
        refine lv_iload_n hx hb dX3_seal_160 rfl (lv_at hl 2 rfl) ?_
        refine lv_iconst (v := (5 : Int32)) hx hb dX3_seal_161 (by decide) ?_
        refine lv_aload_n hx hb dX3_seal_162 rfl (lv_at hl 1 rfl) ?_
        refine va_get (D := G) (ci := 3) (v := .int (τ 18 6)) (C := RX3) (T := TX3) (N := 19) hx hb hts hi3 hown hK hP 18 sl_aM rfl 6 (by decide) (hts _ mw_X3_seal_10) (fun _ h9 => h9) rfl dX3_seal_163 ?_
        refine sl_cV (n := 3) (As := [.int q, .int (5 : Int32), .int (τ 18 6)]) (rest := []) ⟨hx, hb, hml, hown, hts⟩ (c_X3_end l G cy ad σ τ q (5 : Int32) (τ 18 6) hc) gX3_seal_X3_end rfl rfl rfl (by decide +kernel) ⟨Nat.le_of_ble_eq_true rfl, Nat.le_of_ble_eq_true rfl⟩ (va_recv hK hP (ci := 3) (q0 := 18) rfl sl_aM) rfl hl.1 rfl (Nat.le_of_ble_eq_true rfl) dX3_seal_166 ⟨Nat.zero_le _, Nat.zero_le _⟩ hK hN hD hP hS (fun H locs hP hS => ?_)
        refine W.eq (g2 := F0 m 169 ls [.int ((sp_X3_end τ q (5 : Int32) (τ 18 6)).1)]) rfl ?_
        have e_q : (sp_X3_seal_in τ q) = (((sp_X3_end τ q (5 : Int32) (τ 18 6)).1), (sp_X3_end τ q (5 : Int32) (τ 18 6)).2) := by rw [e_q0, sp_X3_seal_in_17, if_pos c_4, if_neg c_5]
        exact sl_iret hx hb hr hlocks hP hS (by rw [e_q]) rfl (by rw [e_q]) dX3_seal_169
    · refine lv_aload_n hx hb dX3_seal_21 rfl (lv_at hl 1 rfl) ?_
      refine va_get (D := G) (ci := 3) (v := .ref (ad (23))) (C := RX3) (T := TX3) (N := 19) hx hb hts hi3 hown hK hP 18 sl_aM rfl 5 (by decide) (hts _ mw_X3_seal_3) (fun _ h9 => h9) rfl dX3_seal_22 ?_
      refine lv_iload_n hx hb dX3_seal_25 rfl (lv_at hl 0 rfl) ?_
      refine sl_ldR 23 6 hx hb hK hP (by decide) (by decide) rfl (hu c_4) dX3_seal_26 ?_
      refine lv_iconst (v := (1 : Int32)) hx hb dX3_seal_27 (by decide) ?_
      refine lv_icmp_ne (tgt := 34) hx hb dX3_seal_28 (by decide) (fun c_6 => ?_) (fun c_6 => ?_)
      · refine lv_aload_n hx hb dX3_seal_34 rfl (lv_at hl 1 rfl) ?_
        refine va_get (D := G) (ci := 3) (v := .ref (ad (22))) (C := RX3) (T := TX3) (N := 19) hx hb hts hi3 hown hK hP 18 sl_aM rfl 4 (by decide) (hts _ mw_X3_seal_4) (fun _ h9 => h9) rfl dX3_seal_35 ?_
        refine lv_iload_n hx hb dX3_seal_38 rfl (lv_at hl 0 rfl) ?_
        refine sl_ldR 22 6 hx hb hK hP (by decide) (by decide) rfl (hu c_4) dX3_seal_39 ?_
        refine lv_aload_n hx hb dX3_seal_40 rfl (lv_at hl 1 rfl) ?_
        refine va_get (D := G) (ci := 3) (v := .ref (ad (25))) (C := RX3) (T := TX3) (N := 19) hx hb hts hi3 hown hK hP 18 sl_aM rfl 11 (by decide) (hts _ mw_X3_seal_5) (fun _ h9 => h9) rfl dX3_seal_41 ?_
        refine lv_iload_n hx hb dX3_seal_44 rfl (lv_at hl 2 rfl) ?_
        refine sl_ldR 25 3 hx hb hK hP (by decide) (by decide) rfl hc dX3_seal_45 ?_
        refine lv_iconst (v := (1 : Int32)) hx hb dX3_seal_46 (by decide) ?_
        refine lv_iadd hx hb dX3_seal_47 ?_
        refine lv_icmp_le (tgt := 59) hx hb dX3_seal_48 (by decide) (fun c_7 => ?_) (fun c_7 => ?_)
        · refine lv_aload_n hx hb dX3_seal_59 rfl (lv_at hl 1 rfl) ?_
          refine va_get (D := G) (ci := 3) (v := .ref (ad (22))) (C := RX3) (T := TX3) (N := 19) hx hb hts hi3 hown hK hP 18 sl_aM rfl 4 (by decide) (hts _ mw_X3_seal_4) (fun _ h9 => h9) rfl dX3_seal_60 ?_
          refine lv_iload_n hx hb dX3_seal_63 rfl (lv_at hl 0 rfl) ?_
          refine lv_aload_n hx hb dX3_seal_64 rfl (lv_at hl 1 rfl) ?_
          refine va_get (D := G) (ci := 3) (v := .ref (ad (25))) (C := RX3) (T := TX3) (N := 19) hx hb hts hi3 hown hK hP 18 sl_aM rfl 11 (by decide) (hts _ mw_X3_seal_5) (fun _ h9 => h9) rfl dX3_seal_65 ?_
          refine lv_iload_n hx hb dX3_seal_68 rfl (lv_at hl 2 rfl) ?_
          refine sl_ldR 25 3 hx hb hK hP (by decide) (by decide) rfl hc dX3_seal_69 ?_
          refine lv_iconst (v := (1 : Int32)) hx hb dX3_seal_70 (by decide) ?_
          refine lv_iadd hx hb dX3_seal_71 ?_
          refine sl_stR 22 6 hx hb hK hD hP hS (by decide) (by decide) rfl (hu c_4) dX3_seal_72 (fun H locs hP hS => ?_)
          refine lv_iconst (v := (0 : Int32)) hx hb dX3_seal_73 (by decide) ?_
          refine lv_istore_n (lv' := [(3, .int (0 : Int32)), (2, .int w), (0, .ref (ad (18))), (1, .int q)]) hx hb dX3_seal_74 rfl hl (by decide) rfl (fun ls hl => ?_)
          exact K75 193 (sl_up τ 22 w.toNatClampNeg ((τ 25 q.toNatClampNeg) + (1 : Int32))) (0 : Int32) w _ _ ls (by rw [sl_up_k (by decide)]; exact hr1) (by rw [sl_up_k (by decide)]; have a3 : (0 : Int32).toInt = 0 := rfl; omega) (by rw [sl_up_k (by decide)]; have a3 : (0 : Int32).toInt = 0 := rfl; omega) (by decide) hP hS (lv_sub hl [0, 1, 2, 3] rfl) (by rw [e_q0, sp_X3_seal_in_17, if_neg c_4, if_neg c_6, if_pos c_7])
        · refine lv_aload_n hx hb dX3_seal_51 rfl (lv_at hl 1 rfl) ?_
          refine lv_iload_n hx hb dX3_seal_52 rfl (lv_at hl 2 rfl) ?_
          refine lv_iconst (v := (2 : Int32)) hx hb dX3_seal_53 (by decide) ?_
          refine lv_iconst (v := (0 : Int32)) hx hb dX3_seal_54 (by decide) ?_
          refine sl_cV (n := 3) (As := [.int q, .int (2 : Int32), .int (0 : Int32)]) (rest := []) ⟨hx, hb, hml, hown, hts⟩ (c_X3_end l G cy ad σ τ q (2 : Int32) (0 : Int32) hc) gX3_seal_X3_end rfl rfl rfl (by decide +kernel) ⟨Nat.le_of_ble_eq_true rfl, Nat.le_of_ble_eq_true rfl⟩ (va_recv hK hP (ci := 3) (q0 := 18) rfl sl_aM) rfl hl.1 rfl (Nat.le_of_ble_eq_true rfl) dX3_seal_55 ⟨Nat.zero_le _, Nat.zero_le _⟩ hK hN hD hP hS (fun H locs hP hS => ?_)
          refine W.eq (g2 := F0 m 58 ls [.int ((sp_X3_end τ q (2 : Int32) (0 : Int32)).1)]) rfl ?_
          have e_q : (sp_X3_seal_in τ q) = (((sp_X3_end τ q (2 : Int32) (0 : Int32)).1), (sp_X3_end τ q (2 : Int32) (0 : Int32)).2) := by rw [e_q0, sp_X3_seal_in_17, if_neg c_4, if_neg c_6, if_neg c_7]
          exact sl_iret hx hb hr hlocks hP hS (by rw [e_q]) rfl (by rw [e_q]) dX3_seal_58
      · refine lv_bipush (v := (-3 : Int32)) hx hb dX3_seal_31 (by decide) ?_
        have e_q : (sp_X3_seal_in τ q) = ((-3 : Int32), τ) := by rw [e_q0, sp_X3_seal_in_17, if_neg c_4, if_pos c_6]
        exact sl_iret hx hb hr hlocks hP hS (by rw [e_q]) rfl (by rw [e_q]) dX3_seal_33
  refine lv_aload_n hx hb dX3_seal_0 rfl (lv_at hl 0 rfl) ?_
  refine va_get (D := G) (ci := 3) (v := .ref (ad (32))) (C := RX3) (T := TX3) (N := 19) hx hb hts hi3 hown hK hP 18 sl_aM rfl 18 (by decide) (hts _ mw_X3_seal_1) (fun _ h9 => h9) rfl dX3_seal_1 ?_
  refine lv_iload_n hx hb dX3_seal_4 rfl (lv_at hl 1 rfl) ?_
  refine sl_ldR 32 3 hx hb hK hP (by decide) (by decide) rfl hc dX3_seal_5 ?_
  refine lv_iconst (v := (2 : Int32)) hx hb dX3_seal_6 (by decide) ?_
  refine lv_aload_n hx hb dX3_seal_7 rfl (lv_at hl 0 rfl) ?_
  refine va_get (D := G) (ci := 3) (v := .ref (ad (31))) (C := RX3) (T := TX3) (N := 19) hx hb hts hi3 hown hK hP 18 sl_aM rfl 17 (by decide) (hts _ mw_X3_seal_2) (fun _ h9 => h9) rfl dX3_seal_8 ?_
  refine lv_iload_n hx hb dX3_seal_11 rfl (lv_at hl 1 rfl) ?_
  refine sl_ldR 31 3 hx hb hK hP (by decide) (by decide) rfl hc dX3_seal_12 ?_
  refine sl_cS (n := 3) (As := [.int (τ 32 q.toNatClampNeg), .int (2 : Int32), .int (τ 31 q.toNatClampNeg)]) (rest := []) ⟨hx, hb, hml, hown, hts⟩ (c_X3_nth l G cy ad σ τ (τ 32 q.toNatClampNeg) (2 : Int32) (τ 31 q.toNatClampNeg)) gX3_seal_X3_nth rfl rfl rfl (by decide +kernel) ⟨Nat.le_of_ble_eq_true rfl, Nat.le_of_ble_eq_true rfl⟩ rfl hl.1 rfl (Nat.le_of_ble_eq_true rfl) dX3_seal_13 ⟨Nat.zero_le _, Nat.zero_le _⟩ hK hN hD hP hS (fun H locs hP hS => ?_)
  refine W.eq (g2 := F0 m 16 ls [.int (sp_X3_nth (τ 32 q.toNatClampNeg) (2 : Int32) (τ 31 q.toNatClampNeg))]) rfl ?_
  refine lv_istore_n (lv' := [(2, .int (sp_X3_nth (τ 32 q.toNatClampNeg) (2 : Int32) (τ 31 q.toNatClampNeg))), (0, .ref (ad (18))), (1, .int q)]) hx hb dX3_seal_16 rfl hl (by decide) rfl (fun ls hl => ?_)
  exact K17 (sp_X3_nth (τ 32 q.toNatClampNeg) (2 : Int32) (τ 31 q.toNatClampNeg)) _ _ ls (fun h9 => sl_nthI h9) hP hS (lv_sub hl [0, 1, 2] rfl) (by rw [sp_X3_seal_in])
