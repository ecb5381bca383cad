def sp_X3_step_in (τ : sl_M) (q : Int32) : Int32 × sl_M := 
  if (τ 24 q.toNatClampNeg) = 0 then ((-2 : Int32), τ)
  else if (τ 24 q.toNatClampNeg) = (5 : Int32) then (((sp_X3_seal_in τ q).1), (sp_X3_seal_in τ q).2)
  else if (τ 24 q.toNatClampNeg) = (3 : Int32) then (((sp_X3_atTail_in τ q).1), (sp_X3_atTail_in τ q).2)
  else if (τ 24 q.toNatClampNeg) = (4 : Int32) then (((sp_X3_atTail_in τ q).1), (sp_X3_atTail_in τ q).2)
  else if (τ 24 q.toNatClampNeg) = (2 : Int32) then (((sp_X3_alongChain_in τ q).1), (sp_X3_alongChain_in τ q).2)
  else if (τ 29 q.toNatClampNeg) < 0 then 
    if (τ 25 q.toNatClampNeg) = (τ 18 8) then 
      if (τ 18 9) = (32 : Int32) then (((sp_X3_end τ q (4 : Int32) (0 : Int32)).1), (sp_X3_end τ q (4 : Int32) (0 : Int32)).2)
      else ((0 : Int32), (sl_up (sl_up (sl_up τ 29 q.toNatClampNeg (τ 18 9)) 18 9 (((sl_up τ 29 q.toNatClampNeg (τ 18 9)) 18 9) + (1 : Int32))) 31 q.toNatClampNeg (0 : Int32)))
    else (((sp_X3_end τ q (2 : Int32) (0 : Int32)).1), (sp_X3_end τ q (2 : Int32) (0 : Int32)).2)
  else (((sp_X3_alongChain_in τ q).1), (sp_X3_alongChain_in τ q).2)
set_option maxHeartbeats 4000000 in
set_option maxRecDepth 100000 in
theorem c_X3_step_in (l : Launch) (G : va_G) (cy : Nat → ClassId) (ad : Nat → Nat) (σ τ : sl_M) (q : Int32) (hc : vp_in q 3) (hr0 : 0 ≤ (τ 18 0).toInt) (hr1 : (τ 18 0).toInt ≤ 192) (h34 : ((τ 24 q.toNatClampNeg) = (3 : Int32) ∨ (τ 24 q.toNatClampNeg) = (4 : Int32)) → ¬ ((τ 24 q.toNatClampNeg) = (4 : Int32) ∧ (τ 29 q.toNatClampNeg) = (τ 32 q.toNatClampNeg)) → vp_in (sp_X3_nth (τ 26 q.toNatClampNeg) ((τ 29 q.toNatClampNeg) - (τ 29 q.toNatClampNeg) / (2 : Int32) * (2 : Int32)) ((sp_X3_length (τ 26 q.toNatClampNeg) ((τ 29 q.toNatClampNeg) - (τ 29 q.toNatClampNeg) / (2 : Int32) * (2 : Int32))) - (1 : Int32))) 6) (h12 : ((τ 24 q.toNatClampNeg) = (2 : Int32) ∨ (¬ (τ 24 q.toNatClampNeg) = 0 ∧ ¬ (τ 24 q.toNatClampNeg) = (5 : Int32) ∧ ¬ (τ 24 q.toNatClampNeg) = (3 : Int32) ∧ ¬ (τ 24 q.toNatClampNeg) = (4 : Int32) ∧ ¬ (τ 29 q.toNatClampNeg) < 0)) → vp_in (sp_X3_nth (τ 26 q.toNatClampNeg) ((τ 29 q.toNatClampNeg) - (τ 29 q.toNatClampNeg) / (2 : Int32) * (2 : Int32)) (τ 31 q.toNatClampNeg)) 6 ∧ (sp_X3_look τ (sp_X3_nth (τ 26 q.toNatClampNeg) ((τ 29 q.toNatClampNeg) - (τ 29 q.toNatClampNeg) / (2 : Int32) * (2 : Int32)) (τ 31 q.toNatClampNeg)) (τ 29 q.toNatClampNeg) = (-2 : Int32) → vp_in (τ 18 0) 192)) : sl_C l G cy ad yX3_step wsX3_step ({ frames := 2, cells := 0, slots := 0, locals := 48 }) [.ref (ad (18)), .int q] σ τ (some (.int (sp_X3_step_in τ q).1)) σ (sp_X3_step_in τ q).2 := by
  refine sl_of (cc := cX3_step) (maxL := 2) (ret := (some .int)) (by decide) rfl (Nat.le_of_ble_eq_true rfl) ?_
  intro p e s m below meth c hx hb hr hml hts hown hlocks hK hN hD hP hS ls hl
  have hown : s.vm.findClass RX3 = some m.cls := hown
  have hl : lv_has ls 2 [(0, .ref (ad (18))), (1, .int q)] := hl
  have hi3 : ∀ w ∈ wsX30, w ∈ wsX3_step := fun _ h => (List.mem_cons_of_mem _ (List.mem_append_right _ h))
  refine lv_iload_n hx hb dX3_step_0 rfl (lv_at hl 1 rfl) ?_
  refine lv_if_lt (tgt := 9) hx hb dX3_step_1 (by decide) (fun h9 => absurd h9 (sl_i0 hc)) (fun _ => ?_)
  refine lv_iload_n hx hb dX3_step_4 rfl (lv_at hl 1 rfl) ?_
  refine lv_iconst (v := (2 : Int32)) hx hb dX3_step_5 (by decide) ?_
  refine lv_icmp_le (tgt := 11) hx hb dX3_step_6 (by decide) (fun _ => ?_) (fun h9 => absurd (sl_iL hc rfl) h9)
  refine lv_aload_n hx hb dX3_step_11 rfl (lv_at hl 0 rfl) ?_
  refine va_get (D := G) (ci := 3) (v := .ref (ad (24))) (C := RX3) (T := TX3) (N := 19) hx hb hts hi3 hown hK hP 18 sl_aM rfl 10 (by decide) (hts _ mw_X3_step_1) (fun _ h9 => h9) rfl dX3_step_12 ?_
  refine lv_iload_n hx hb dX3_step_15 rfl (lv_at hl 1 rfl) ?_
  refine sl_ldR 24 3 hx hb hK hP (by decide) (by decide) rfl hc dX3_step_16 ?_
  refine lv_if_ne (tgt := 23) hx hb dX3_step_17 (by decide) (fun c_1 => ?_) (fun c_1 => ?_)
  · refine lv_aload_n hx hb dX3_step_23 rfl (lv_at hl 0 rfl) ?_
    refine va_get (D := G) (ci := 3) (v := .ref (ad (24))) (C := RX3) (T := TX3) (N := 19) hx hb hts hi3 hown hK hP 18 sl_aM rfl 10 (by decide) (hts _ mw_X3_step_1) (fun _ h9 => h9) rfl dX3_step_24 ?_
    refine lv_iload_n hx hb dX3_step_27 rfl (lv_at hl 1 rfl) ?_
    refine sl_ldR 24 3 hx hb hK hP (by decide) (by decide) rfl hc dX3_step_28 ?_
    refine lv_iconst (v := (5 : Int32)) hx hb dX3_step_29 (by decide) ?_
    refine lv_icmp_ne (tgt := 39) hx hb dX3_step_30 (by decide) (fun c_2 => ?_) (fun c_2 => ?_)
    · refine lv_aload_n hx hb dX3_step_39 rfl (lv_at hl 0 rfl) ?_
      refine va_get (D := G) (ci := 3) (v := .ref (ad (24))) (C := RX3) (T := TX3) (N := 19) hx hb hts hi3 hown hK hP 18 sl_aM rfl 10 (by decide) (hts _ mw_X3_step_1) (fun _ h9 => h9) rfl dX3_step_40 ?_
      refine lv_iload_n hx hb dX3_step_43 rfl (lv_at hl 1 rfl) ?_
      refine sl_ldR 24 3 hx hb hK hP (by decide) (by decide) rfl hc dX3_step_44 ?_
      refine lv_iconst (v := (3 : Int32)) hx hb dX3_step_45 (by decide) ?_
      refine lv_icmp_eq (tgt := 59) hx hb dX3_step_46 (by decide) (fun c_3 => ?_) (fun c_3 => ?_)
      · refine lv_aload_n hx hb dX3_step_59 rfl (lv_at hl 0 rfl) ?_
        refine lv_iload_n hx hb dX3_step_60 rfl (lv_at hl 1 rfl) ?_
        refine sl_cV (n := 1) (As := [.int q]) (rest := []) ⟨hx, hb, hml, hown, hts⟩ (c_X3_atTail_in l G cy ad σ τ q hc hr0 hr1 (h34 (Or.inl c_3))) gX3_step_X3_atTail rfl rfl rfl (by decide +kernel) ⟨Nat.le_of_ble_eq_true rfl, Nat.le_of_ble_eq_true rfl⟩ (va_recv hK hP (ci := 3) (q0 := 18) rfl sl_aM) rfl hl.1 rfl (Nat.le_of_ble_eq_true rfl) dX3_step_61 ⟨Nat.zero_le _, Nat.zero_le _⟩ hK hN hD hP hS (fun H locs hP hS => ?_)
        refine W.eq (g2 := F0 m 64 ls [.int ((sp_X3_atTail_in τ q).1)]) rfl ?_
        have e_q : (sp_X3_step_in τ q) = (((sp_X3_atTail_in τ q).1), (sp_X3_atTail_in τ q).2) := by rw [sp_X3_step_in, if_neg c_1, if_neg c_2, if_pos c_3]
        exact sl_iret hx hb hr hlocks hP hS (by rw [e_q]) rfl (by rw [e_q]) dX3_step_64
      · refine lv_aload_n hx hb dX3_step_49 rfl (lv_at hl 0 rfl) ?_
        refine va_get (D := G) (ci := 3) (v := .ref (ad (24))) (C := RX3) (T := TX3) (N := 19) hx hb hts hi3 hown hK hP 18 sl_aM rfl 10 (by decide) (hts _ mw_X3_step_1) (fun _ h9 => h9) rfl dX3_step_50 ?_
        refine lv_iload_n hx hb dX3_step_53 rfl (lv_at hl 1 rfl) ?_
        refine sl_ldR 24 3 hx hb hK hP (by decide) (by decide) rfl hc dX3_step_54 ?_
        refine lv_iconst (v := (4 : Int32)) hx hb dX3_step_55 (by decide) ?_
        refine lv_icmp_ne (tgt := 65) hx hb dX3_step_56 (by decide) (fun c_4 => ?_) (fun c_4 => ?_)
        · refine lv_aload_n hx hb dX3_step_65 rfl (lv_at hl 0 rfl) ?_
          refine va_get (D := G) (ci := 3) (v := .ref (ad (24))) (C := RX3) (T := TX3) (N := 19) hx hb hts hi3 hown hK hP 18 sl_aM rfl 10 (by decide) (hts _ mw_X3_step_1) (fun _ h9 => h9) rfl dX3_step_66 ?_
          refine lv_iload_n hx hb dX3_step_69 rfl (lv_at hl 1 rfl) ?_
          refine sl_ldR 24 3 hx hb hK hP (by decide) (by decide) rfl hc dX3_step_70 ?_
          refine lv_iconst (v := (2 : Int32)) hx hb dX3_step_71 (by decide) ?_
          refine lv_icmp_eq (tgt := 84) hx hb dX3_step_72 (by decide) (fun c_5 => ?_) (fun c_5 => ?_)
          · refine lv_aload_n hx hb dX3_step_84 rfl (lv_at hl 0 rfl) ?_
            refine lv_iload_n hx hb dX3_step_85 rfl (lv_at hl 1 rfl) ?_
            refine sl_cV (n := 1) (As := [.int q]) (rest := []) ⟨hx, hb, hml, hown, hts⟩ (c_X3_alongChain_in l G cy ad σ τ q hc hr0 hr1 ((h12 (Or.inl c_5)).1) ((h12 (Or.inl c_5)).2)) gX3_step_X3_alongChain rfl rfl rfl (by decide +kernel) ⟨Nat.le_of_ble_eq_true rfl, Nat.le_of_ble_eq_true rfl⟩ (va_recv hK hP (ci := 3) (q0 := 18) rfl sl_aM) rfl hl.1 rfl (Nat.le_of_ble_eq_true rfl) dX3_step_86 ⟨Nat.zero_le _, Nat.zero_le _⟩ hK hN hD hP hS (fun H locs hP hS => ?_)
            refine W.eq (g2 := F0 m 89 ls [.int ((sp_X3_alongChain_in τ q).1)]) rfl ?_
            have e_q : (sp_X3_step_in τ q) = (((sp_X3_alongChain_in τ q).1), (sp_X3_alongChain_in τ q).2) := by rw [sp_X3_step_in, if_neg c_1, if_neg c_2, if_neg c_3, if_neg c_4, if_pos c_5]
            exact sl_iret hx hb hr hlocks hP hS (by rw [e_q]) rfl (by rw [e_q]) dX3_step_89
          · refine lv_aload_n hx hb dX3_step_75 rfl (lv_at hl 0 rfl) ?_
            refine va_get (D := G) (ci := 3) (v := .ref (ad (29))) (C := RX3) (T := TX3) (N := 19) hx hb hts hi3 hown hK hP 18 sl_aM rfl 15 (by decide) (hts _ mw_X3_step_2) (fun _ h9 => h9) rfl dX3_step_76 ?_
            refine lv_iload_n hx hb dX3_step_79 rfl (lv_at hl 1 rfl) ?_
            refine sl_ldR 29 3 hx hb hK hP (by decide) (by decide) rfl hc dX3_step_80 ?_
            refine lv_if_lt (tgt := 90) hx hb dX3_step_81 (by decide) (fun c_6 => ?_) (fun c_6 => ?_)
            · refine lv_aload_n hx hb dX3_step_90 rfl (lv_at hl 0 rfl) ?_
              refine va_get (D := G) (ci := 3) (v := .ref (ad (25))) (C := RX3) (T := TX3) (N := 19) hx hb hts hi3 hown hK hP 18 sl_aM rfl 11 (by decide) (hts _ mw_X3_step_3) (fun _ h9 => h9) rfl dX3_step_91 ?_
              refine lv_iload_n hx hb dX3_step_94 rfl (lv_at hl 1 rfl) ?_
              refine sl_ldR 25 3 hx hb hK hP (by decide) (by decide) rfl hc dX3_step_95 ?_
              refine lv_aload_n hx hb dX3_step_96 rfl (lv_at hl 0 rfl) ?_
              refine va_get (D := G) (ci := 3) (v := .int (τ 18 8)) (C := RX3) (T := TX3) (N := 19) hx hb hts hi3 hown hK hP 18 sl_aM rfl 8 (by decide) (hts _ mw_X3_step_4) (fun _ h9 => h9) rfl dX3_step_97 ?_
              refine lv_icmp_eq (tgt := 111) hx hb dX3_step_100 (by decide) (fun c_7 => ?_) (fun c_7 => ?_)
              · refine lv_aload_n hx hb dX3_step_111 rfl (lv_at hl 0 rfl) ?_
                refine va_get (D := G) (ci := 3) (v := .int (τ 18 9)) (C := RX3) (T := TX3) (N := 19) hx hb hts hi3 hown hK hP 18 sl_aM rfl 9 (by decide) (hts _ mw_X3_step_5) (fun _ h9 => h9) rfl dX3_step_112 ?_
                refine lv_bipush (v := (32 : Int32)) hx hb dX3_step_115 (by decide) ?_
                refine lv_icmp_ne (tgt := 128) hx hb dX3_step_117 (by decide) (fun c_8 => ?_) (fun c_8 => ?_)
                · refine lv_aload_n hx hb dX3_step_128 rfl (lv_at hl 0 rfl) ?_
                  refine va_get (D := G) (ci := 3) (v := .ref (ad (29))) (C := RX3) (T := TX3) (N := 19) hx hb hts hi3 hown hK hP 18 sl_aM rfl 15 (by decide) (hts _ mw_X3_step_2) (fun _ h9 => h9) rfl dX3_step_129 ?_
                  refine lv_iload_n hx hb dX3_step_132 rfl (lv_at hl 1 rfl) ?_
                  refine lv_aload_n hx hb dX3_step_133 rfl (lv_at hl 0 rfl) ?_
                  refine va_get (D := G) (ci := 3) (v := .int (τ 18 9)) (C := RX3) (T := TX3) (N := 19) hx hb hts hi3 hown hK hP 18 sl_aM rfl 9 (by decide) (hts _ mw_X3_step_5) (fun _ h9 => h9) rfl dX3_step_134 ?_
                  refine sl_stR 29 3 hx hb hK hD hP hS (by decide) (by decide) rfl hc dX3_step_137 (fun H locs hP hS => ?_)
                  refine lv_aload_n hx hb dX3_step_138 rfl (lv_at hl 0 rfl) ?_
                  refine lv_aload_n hx hb dX3_step_139 rfl (lv_at hl 0 rfl) ?_
                  refine va_get (D := G) (ci := 3) (v := .int ((sl_up τ 29 q.toNatClampNeg (τ 18 9)) 18 9)) (C := RX3) (T := TX3) (N := 19) hx hb hts hi3 hown hK hP 18 sl_aM rfl 9 (by decide) (hts _ mw_X3_step_5) (fun _ h9 => h9) rfl dX3_step_140 ?_
                  refine lv_iconst (v := (1 : Int32)) hx hb dX3_step_143 (by decide) ?_
                  refine lv_iadd hx hb dX3_step_144 ?_
                  refine sl_putM hx hb hts hi3 hown hK hD hP hS 9 (by decide) (by decide) rfl (tyX3_ok 9 (by decide)) (hts _ mw_X3_step_5) dX3_step_145 (fun H locs hP hS => ?_)
                  refine lv_aload_n hx hb dX3_step_148 rfl (lv_at hl 0 rfl) ?_
                  refine va_get (D := G) (ci := 3) (v := .ref (ad (31))) (C := RX3) (T := TX3) (N := 19) hx hb hts hi3 hown hK hP 18 sl_aM rfl 17 (by decide) (hts _ mw_X3_step_6) (fun _ h9 => h9) rfl dX3_step_149 ?_
                  refine lv_iload_n hx hb dX3_step_152 rfl (lv_at hl 1 rfl) ?_
                  refine lv_iconst (v := (0 : Int32)) hx hb dX3_step_153 (by decide) ?_
                  refine sl_stR 31 3 hx hb hK hD hP hS (by decide) (by decide) rfl hc dX3_step_154 (fun H locs hP hS => ?_)
                  refine lv_iconst (v := (0 : Int32)) hx hb dX3_step_155 (by decide) ?_
                  have e_q : (sp_X3_step_in τ q) = ((0 : Int32), (sl_up (sl_up (sl_up τ 29 q.toNatClampNeg (τ 18 9)) 18 9 (((sl_up τ 29 q.toNatClampNeg (τ 18 9)) 18 9) + (1 : Int32))) 31 q.toNatClampNeg (0 : Int32))) := by rw [sp_X3_step_in, if_neg c_1, if_neg c_2, if_neg c_3, if_neg c_4, if_neg c_5, if_pos c_6, if_pos c_7, if_neg c_8]
                  exact sl_iret hx hb hr hlocks hP hS (by rw [e_q]) rfl (by rw [e_q]) dX3_step_156
                · refine lv_aload_n hx hb dX3_step_120 rfl (lv_at hl 0 rfl) ?_
                  refine lv_iload_n hx hb dX3_step_121 rfl (lv_at hl 1 rfl) ?_
                  refine lv_iconst (v := (4 : Int32)) hx hb dX3_step_122 (by decide) ?_
                  refine lv_iconst (v := (0 : Int32)) hx hb dX3_step_123 (by decide) ?_
                  refine sl_cV (n := 3) (As := [.int q, .int (4 : Int32), .int (0 : Int32)]) (rest := []) ⟨hx, hb, hml, hown, hts⟩ (c_X3_end l G cy ad σ τ q (4 : Int32) (0 : Int32) hc) gX3_step_X3_end rfl rfl rfl (by decide +kernel) ⟨Nat.le_of_ble_eq_true rfl, Nat.le_of_ble_eq_true rfl⟩ (va_recv hK hP (ci := 3) (q0 := 18) rfl sl_aM) rfl hl.1 rfl (Nat.le_of_ble_eq_true rfl) dX3_step_124 ⟨Nat.zero_le _, Nat.zero_le _⟩ hK hN hD hP hS (fun H locs hP hS => ?_)
                  refine W.eq (g2 := F0 m 127 ls [.int ((sp_X3_end τ q (4 : Int32) (0 : Int32)).1)]) rfl ?_
                  have e_q : (sp_X3_step_in τ q) = (((sp_X3_end τ q (4 : Int32) (0 : Int32)).1), (sp_X3_end τ q (4 : Int32) (0 : Int32)).2) := by rw [sp_X3_step_in, if_neg c_1, if_neg c_2, if_neg c_3, if_neg c_4, if_neg c_5, if_pos c_6, if_pos c_7, if_pos c_8]
                  exact sl_iret hx hb hr hlocks hP hS (by rw [e_q]) rfl (by rw [e_q]) dX3_step_127
              · refine lv_aload_n hx hb dX3_step_103 rfl (lv_at hl 0 rfl) ?_
                refine lv_iload_n hx hb dX3_step_104 rfl (lv_at hl 1 rfl) ?_
                refine lv_iconst (v := (2 : Int32)) hx hb dX3_step_105 (by decide) ?_
                refine lv_iconst (v := (0 : Int32)) hx hb dX3_step_106 (by decide) ?_
                refine sl_cV (n := 3) (As := [.int q, .int (2 : Int32), .int (0 : Int32)]) (rest := []) ⟨hx, hb, hml, hown, hts⟩ (c_X3_end l G cy ad σ τ q (2 : Int32) (0 : Int32) hc) gX3_step_X3_end rfl rfl rfl (by decide +kernel) ⟨Nat.le_of_ble_eq_true rfl, Nat.le_of_ble_eq_true rfl⟩ (va_recv hK hP (ci := 3) (q0 := 18) rfl sl_aM) rfl hl.1 rfl (Nat.le_of_ble_eq_true rfl) dX3_step_107 ⟨Nat.zero_le _, Nat.zero_le _⟩ hK hN hD hP hS (fun H locs hP hS => ?_)
                refine W.eq (g2 := F0 m 110 ls [.int ((sp_X3_end τ q (2 : Int32) (0 : Int32)).1)]) rfl ?_
                have e_q : (sp_X3_step_in τ q) = (((sp_X3_end τ q (2 : Int32) (0 : Int32)).1), (sp_X3_end τ q (2 : Int32) (0 : Int32)).2) := by rw [sp_X3_step_in, if_neg c_1, if_neg c_2, if_neg c_3, if_neg c_4, if_neg c_5, if_pos c_6, if_neg c_7]
                exact sl_iret hx hb hr hlocks hP hS (by rw [e_q]) rfl (by rw [e_q]) dX3_step_110
            · refine lv_aload_n hx hb dX3_step_84 rfl (lv_at hl 0 rfl) ?_
              refine lv_iload_n hx hb dX3_step_85 rfl (lv_at hl 1 rfl) ?_
              refine sl_cV (n := 1) (As := [.int q]) (rest := []) ⟨hx, hb, hml, hown, hts⟩ (c_X3_alongChain_in l G cy ad σ τ q hc hr0 hr1 ((h12 (Or.inr ⟨c_1, c_2, c_3, c_4, c_6⟩)).1) ((h12 (Or.inr ⟨c_1, c_2, c_3, c_4, c_6⟩)).2)) gX3_step_X3_alongChain rfl rfl rfl (by decide +kernel) ⟨Nat.le_of_ble_eq_true rfl, Nat.le_of_ble_eq_true rfl⟩ (va_recv hK hP (ci := 3) (q0 := 18) rfl sl_aM) rfl hl.1 rfl (Nat.le_of_ble_eq_true rfl) dX3_step_86 ⟨Nat.zero_le _, Nat.zero_le _⟩ hK hN hD hP hS (fun H locs hP hS => ?_)
              refine W.eq (g2 := F0 m 89 ls [.int ((sp_X3_alongChain_in τ q).1)]) rfl ?_
              have e_q : (sp_X3_step_in τ q) = (((sp_X3_alongChain_in τ q).1), (sp_X3_alongChain_in τ q).2) := by rw [sp_X3_step_in, if_neg c_1, if_neg c_2, if_neg c_3, if_neg c_4, if_neg c_5, if_neg c_6]
              exact sl_iret hx hb hr hlocks hP hS (by rw [e_q]) rfl (by rw [e_q]) dX3_step_89
        · refine lv_aload_n hx hb dX3_step_59 rfl (lv_at hl 0 rfl) ?_
          refine lv_iload_n hx hb dX3_step_60 rfl (lv_at hl 1 rfl) ?_
          refine sl_cV (n := 1) (As := [.int q]) (rest := []) ⟨hx, hb, hml, hown, hts⟩ (c_X3_atTail_in l G cy ad σ τ q hc hr0 hr1 (h34 (Or.inr c_4))) gX3_step_X3_atTail rfl rfl rfl (by decide +kernel) ⟨Nat.le_of_ble_eq_true rfl, Nat.le_of_ble_eq_true rfl⟩ (va_recv hK hP (ci := 3) (q0 := 18) rfl sl_aM) rfl hl.1 rfl (Nat.le_of_ble_eq_true rfl) dX3_step_61 ⟨Nat.zero_le _, Nat.zero_le _⟩ hK hN hD hP hS (fun H locs hP hS => ?_)
          refine W.eq (g2 := F0 m 64 ls [.int ((sp_X3_atTail_in τ q).1)]) rfl ?_
          have e_q : (sp_X3_step_in τ q) = (((sp_X3_atTail_in τ q).1), (sp_X3_atTail_in τ q).2) := by rw [sp_X3_step_in, if_neg c_1, if_neg c_2, if_neg c_3, if_pos c_4]
          exact sl_iret hx hb hr hlocks hP hS (by rw [e_q]) rfl (by rw [e_q]) dX3_step_64
    · refine lv_aload_n hx hb dX3_step_33 rfl (lv_at hl 0 rfl) ?_
      refine lv_iload_n hx hb dX3_step_34 rfl (lv_at hl 1 rfl) ?_
      refine sl_cV (n := 1) (As := [.int q]) (rest := []) ⟨hx, hb, hml, hown, hts⟩ (c_X3_seal_in l G cy ad σ τ q hc hr0 hr1) gX3_step_X3_seal rfl rfl rfl (by decide +kernel) ⟨Nat.le_of_ble_eq_true rfl, Nat.le_of_ble_eq_true rfl⟩ (va_recv hK hP (ci := 3) (q0 := 18) rfl sl_aM) rfl hl.1 rfl (Nat.le_of_ble_eq_true rfl) dX3_step_35 ⟨Nat.zero_le _, Nat.zero_le _⟩ hK hN hD hP hS (fun H locs hP hS => ?_)
      refine W.eq (g2 := F0 m 38 ls [.int ((sp_X3_seal_in τ q).1)]) rfl ?_
      have e_q : (sp_X3_step_in τ q) = (((sp_X3_seal_in τ q).1), (sp_X3_seal_in τ q).2) := by rw [sp_X3_step_in, if_neg c_1, if_pos c_2]
      exact sl_iret hx hb hr hlocks hP hS (by rw [e_q]) rfl (by rw [e_q]) dX3_step_38
  · refine lv_bipush (v := (-2 : Int32)) hx hb dX3_step_20 (by decide) ?_
    have e_q : (sp_X3_step_in τ q) = ((-2 : Int32), τ) := by rw [sp_X3_step_in, if_pos c_1]
    exact sl_iret hx hb hr hlocks hP hS (by rw [e_q]) rfl (by rw [e_q]) dX3_step_22
