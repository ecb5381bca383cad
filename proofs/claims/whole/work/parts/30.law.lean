theorem sl_fgt {ad : Nat → Nat} {n q : Nat} (hge : ∀ k, k < 33 → n ≤ ad k) (h : sl_A ad n q) : n ≤ q := by
  rcases h with ⟨k, hk, rfl⟩ | h
  · exact hge k hk
  · exact h
theorem sl_plus {v w : Int32} {k : Int} (h0 : 0 ≤ v.toInt) (h1 : v.toInt + k ≤ 2000) (hw : w.toInt = k ∧ 0 ≤ k) : (v + w).toInt = v.toInt + k := by
  rw [Int32.toInt_add, hw.1, Int.bmod_eq_of_le (by omega) (by omega)]
theorem sl_len3 {L : Nat} {v : Int32} (hL : L ≤ 1536) (c : ¬ (Int32.ofNat L - (3 : Int32)) < v) : v.toInt + 3 ≤ L := by
  have h1 : v.toInt ≤ (Int32.ofNat L - (3 : Int32)).toInt := Int32.le_iff_toInt_le.mp (Int32.not_lt.mp c)
  have h2 : (Int32.ofNat L).toInt = L := nI_toInt (by omega)
  have h3 : (3 : Int32).toInt = 3 := rfl
  rw [Int32.toInt_sub, h2, h3, Int.bmod_eq_of_le (by omega) (by omega)] at h1
  omega
set_option maxHeartbeats 4000000 in
set_option maxRecDepth 100000 in
theorem law_loop {p : Program} {l : Launch} {e : Env} {s : State} {m : MethodId} {below : List Frame} {meth : Method} {c : Code} {G : va_G} {cy : Nat → ClassId} {ad : Nat → Nat} {b L : Nat} {xs : Nat → Int32} (hL : L ≤ 1536) (C0 : lw_At p s m meth c b L xs) (hK : va_K G vwCl (sl_tys cy) s) (hN : sl_N s) (hge : ∀ k, k < 33 → s.heap.size ≤ ad k) (hD : ∀ σ1 τ1, va_D (sl_A ad s.heap.size) (sl_wd cy ad σ1 τ1)) :
    ∀ (n : Nat) (v : Int32) (σ τ : sl_M) (H : Heap) (locs : List Loc) (ls : Array Slot), 1539 < v.toInt + (n : Int) → 0 ≤ v.toInt → v.toInt ≤ 1539 → sl_R σ τ → va_P G vwCl (sl_wd cy ad σ τ) H → va_S (sl_A ad s.heap.size) s.heap H locs → lv_has ls 4 [(3, .int v), (0, .ref b), (1, .ref (ad (0))), (2, .ref (ad (18)))] → W p l e room_1 s m #[Value.ref b] below meth c H locs 600000 7302250 (lw_Z below #[Value.ref b] s) (F0 m 18 ls []) := by
  obtain ⟨hx, hb, hr, hml, hown, hts0, hX, hbl, hlocks, hgv⟩ := C0
  have hts : ∀ w ∈ wsL_law, w.before #[Value.ref b] s = true := fun w h => hts0 w (wsL_law_in w h)
  have hbA : ¬ sl_A ad s.heap.size b := fun h => absurd (sl_fgt hge h) (Nat.not_le.mpr hbl)
  intro n
  induction n with
  | zero =>
    intro v σ τ H locs ls h1 h0 h2
    exact absurd h1 (by omega)
  | succ n ih =>
    intro v σ τ H locs ls h1 h0 h2 hR hP hS hl
    refine lv_iload_n hx hb dL_law_18 rfl (lv_at hl 0 rfl) ?_
    refine lv_aload_n hx hb dL_law_19 rfl (lv_at hl 1 rfl) ?_
    refine va_slen hx hb hX hbl hbA hS dL_law_20 ?_
    refine lv_iconst (v := (3 : Int32)) hx hb dL_law_21 (by decide) ?_
    refine lv_isub hx hb dL_law_22 ?_
    refine lv_icmp_gt (tgt := 577) hx hb dL_law_23 (by decide) (fun c0 => ?_) (fun c0 => ?_)
    · refine lv_iconst (v := (1 : Int32)) hx hb dL_law_577 (by decide) ?_
      refine va_forget (fun q hq => sl_fgt hge (hS.2.2 q hq)) ?_
      exact lw_ret hx hb hr hlocks dL_law_578
    · have hv3 := sl_len3 hL c0
      have e1 : (v + 1).toInt = v.toInt + 1 := sl_plus (k := 1) h0 (by omega) (by decide)
      have e2 : (v + 2).toInt = v.toInt + 2 := sl_plus (k := 2) h0 (by omega) (by decide)
      have e3 : (v + 3).toInt = v.toInt + 3 := sl_plus (k := 3) h0 (by omega) (by decide)
      have hv0 : vp_in v L := sl_in3 h0 (by omega)
      have hv1 : vp_in (v + 1) L := sl_in3 (by omega) (by omega)
      have hv2 : vp_in (v + 2) L := sl_in3 (by omega) (by omega)
      have K571 : ∀ (σ τ : sl_M) (H : Heap) (locs : List Loc) (ls : Array Slot), sl_R σ τ → va_P G vwCl (sl_wd cy ad σ τ) H → va_S (sl_A ad s.heap.size) s.heap H locs → lv_has ls 4 [(3, .int v), (0, .ref b), (1, .ref (ad (0))), (2, .ref (ad (18)))] → W p l e room_1 s m #[Value.ref b] below meth c H locs 600000 7302250 (lw_Z below #[Value.ref b] s) (F0 m 571 ls []) := by
        intro σ τ H locs ls hR hP hS hl
        refine lv_iinc (v := v + 3) (lv' := [(3, .int (v + 3)), (0, .ref b), (1, .ref (ad (0))), (2, .ref (ad (18)))]) hx hb dL_law_571 hl (k := 0) rfl rfl (by decide) rfl (fun ls hl => ?_)
        refine lv_goto (tgt := 18) hx hb dL_law_574 (by decide) ?_
        exact ih (v + 3) σ τ H locs ls (by rw [e3]; omega) (by rw [e3]; omega) (by rw [e3]; omega) hR hP hS hl
      refine lv_aload_n hx hb dL_law_26 rfl (lv_at hl 1 rfl) ?_
      refine lv_iload_n hx hb dL_law_27 rfl (lv_at hl 0 rfl) ?_
      refine va_sld hx hb hX hbl hbA hS hv0 dL_law_28 ?_
      refine lv_bipush (v := (31 : Int32)) hx hb dL_law_29 (by decide) ?_
      refine lv_iand hx hb dL_law_31 ?_
      by_cases c_1 : ((xs v.toNatClampNeg) &&& (31 : Int32)) = (0 : Int32)
      · refine lv_tableIn (off := 84) (tgt := 116) hx hb dL_law_32 (by rw [c_1]; decide) (by rw [c_1]; decide) (by rw [c_1]; decide) (by decide) ?_
        refine lv_aload_n hx hb dL_law_116 rfl (lv_at hl 2 rfl) ?_
        refine lv_aload_n hx hb dL_law_117 rfl (lv_at hl 1 rfl) ?_
        refine lv_iload_n hx hb dL_law_118 rfl (lv_at hl 0 rfl) ?_
        refine lv_iconst (v := (1 : Int32)) hx hb dL_law_119 (by decide) ?_
        refine lv_iadd hx hb dL_law_120 ?_
        refine va_sld hx hb hX hbl hbA hS hv1 dL_law_121 ?_
        refine lv_aload_n hx hb dL_law_122 rfl (lv_at hl 1 rfl) ?_
        refine lv_iload_n hx hb dL_law_123 rfl (lv_at hl 0 rfl) ?_
        refine lv_iconst (v := (2 : Int32)) hx hb dL_law_124 (by decide) ?_
        refine lv_iadd hx hb dL_law_125 ?_
        refine va_sld hx hb hX hbl hbA hS hv2 dL_law_126 ?_
        by_cases c_2 : vp_in (xs (v + (1 : Int32)).toNatClampNeg) 3
        · refine sl_cV (n := 2) (As := [.int (xs (v + (1 : Int32)).toNatClampNeg), .int (xs (v + (2 : Int32)).toNatClampNeg)]) (rest := []) ⟨hx, hb, hml, hown, hts⟩ (c_X2_append_in l G cy ad σ τ (xs (v + (1 : Int32)).toNatClampNeg) (xs (v + (2 : Int32)).toNatClampNeg) c_2) gL_law_X2_append rfl rfl rfl (by decide +kernel) ⟨Nat.le_of_ble_eq_true rfl, Nat.le_of_ble_eq_true rfl⟩ (va_recv hK hP (ci := 2) (q0 := 0) rfl sl_aL) rfl hl.1 rfl (Nat.le_of_ble_eq_true rfl) dL_law_127 ⟨Nat.le_refl _, Nat.le_refl _⟩ hK hN hD hP hS (fun H locs hP hS => ?_)
          refine W.eq (g2 := F0 m 130 ls [.int ((sp_X2_append_in σ (xs (v + (1 : Int32)).toNatClampNeg) (xs (v + (2 : Int32)).toNatClampNeg)).1)]) rfl ?_
          refine lv_aload_n hx hb dL_law_130 rfl (lv_at hl 3 rfl) ?_
          refine lv_aload_n hx hb dL_law_131 rfl (lv_at hl 1 rfl) ?_
          refine lv_iload_n hx hb dL_law_132 rfl (lv_at hl 0 rfl) ?_
          refine lv_iconst (v := (1 : Int32)) hx hb dL_law_133 (by decide) ?_
          refine lv_iadd hx hb dL_law_134 ?_
          refine va_sld hx hb hX hbl hbA hS hv1 dL_law_135 ?_
          refine lv_aload_n hx hb dL_law_136 rfl (lv_at hl 1 rfl) ?_
          refine lv_iload_n hx hb dL_law_137 rfl (lv_at hl 0 rfl) ?_
          refine lv_iconst (v := (2 : Int32)) hx hb dL_law_138 (by decide) ?_
          refine lv_iadd hx hb dL_law_139 ?_
          refine va_sld hx hb hX hbl hbA hS hv2 dL_law_140 ?_
          refine sl_cV (n := 2) (As := [.int (xs (v + (1 : Int32)).toNatClampNeg), .int (xs (v + (2 : Int32)).toNatClampNeg)]) (rest := [.int ((sp_X2_append_in σ (xs (v + (1 : Int32)).toNatClampNeg) (xs (v + (2 : Int32)).toNatClampNeg)).1)]) ⟨hx, hb, hml, hown, hts⟩ (c_X3_append_in l G cy ad ((sp_X2_append_in σ (xs (v + (1 : Int32)).toNatClampNeg) (xs (v + (2 : Int32)).toNatClampNeg)).2) τ (xs (v + (1 : Int32)).toNatClampNeg) (xs (v + (2 : Int32)).toNatClampNeg) c_2) gL_law_X3_append rfl rfl rfl (by decide +kernel) ⟨Nat.le_of_ble_eq_true rfl, Nat.le_of_ble_eq_true rfl⟩ (va_recv hK hP (ci := 3) (q0 := 18) rfl sl_aM) rfl hl.1 rfl (Nat.le_of_ble_eq_true rfl) dL_law_141 ⟨Nat.le_refl _, Nat.le_refl _⟩ hK hN hD hP hS (fun H locs hP hS => ?_)
          refine W.eq (g2 := F0 m 144 ls [.int ((sp_X3_append_in τ (xs (v + (1 : Int32)).toNatClampNeg) (xs (v + (2 : Int32)).toNatClampNeg)).1), .int ((sp_X2_append_in σ (xs (v + (1 : Int32)).toNatClampNeg) (xs (v + (2 : Int32)).toNatClampNeg)).1)]) rfl ?_
          refine lv_icmp_eq (tgt := 571) hx hb dL_law_144 (by decide) (fun _ => ?_) (fun h9 => absurd (sl_r_append (a := (xs (v + (2 : Int32)).toNatClampNeg)) hR c_2).1 h9)
          exact K571 ((sp_X2_append_in σ (xs (v + (1 : Int32)).toNatClampNeg) (xs (v + (2 : Int32)).toNatClampNeg)).2) ((sp_X3_append_in τ (xs (v + (1 : Int32)).toNatClampNeg) (xs (v + (2 : Int32)).toNatClampNeg)).2) _ _ ls ((sl_r_append (a := (xs (v + (2 : Int32)).toNatClampNeg)) hR c_2).2) hP hS (lv_sub hl [0, 1, 2, 3] rfl)
        · refine sl_cV (n := 2) (As := [.int (xs (v + (1 : Int32)).toNatClampNeg), .int (xs (v + (2 : Int32)).toNatClampNeg)]) (rest := []) ⟨hx, hb, hml, hown, hts⟩ (c_X2_append_out l G cy ad σ τ (xs (v + (1 : Int32)).toNatClampNeg) (xs (v + (2 : Int32)).toNatClampNeg) c_2) gL_law_X2_append rfl rfl rfl (by decide +kernel) ⟨Nat.le_of_ble_eq_true rfl, Nat.le_of_ble_eq_true rfl⟩ (va_recv hK hP (ci := 2) (q0 := 0) rfl sl_aL) rfl hl.1 rfl (Nat.le_of_ble_eq_true rfl) dL_law_127 ⟨Nat.le_refl _, Nat.le_refl _⟩ hK hN hD hP hS (fun H locs hP hS => ?_)
          refine W.eq (g2 := F0 m 130 ls [.int (-1 : Int32)]) rfl ?_
          refine lv_aload_n hx hb dL_law_130 rfl (lv_at hl 3 rfl) ?_
          refine lv_aload_n hx hb dL_law_131 rfl (lv_at hl 1 rfl) ?_
          refine lv_iload_n hx hb dL_law_132 rfl (lv_at hl 0 rfl) ?_
          refine lv_iconst (v := (1 : Int32)) hx hb dL_law_133 (by decide) ?_
          refine lv_iadd hx hb dL_law_134 ?_
          refine va_sld hx hb hX hbl hbA hS hv1 dL_law_135 ?_
          refine lv_aload_n hx hb dL_law_136 rfl (lv_at hl 1 rfl) ?_
          refine lv_iload_n hx hb dL_law_137 rfl (lv_at hl 0 rfl) ?_
          refine lv_iconst (v := (2 : Int32)) hx hb dL_law_138 (by decide) ?_
          refine lv_iadd hx hb dL_law_139 ?_
          refine va_sld hx hb hX hbl hbA hS hv2 dL_law_140 ?_
          refine sl_cV (n := 2) (As := [.int (xs (v + (1 : Int32)).toNatClampNeg), .int (xs (v + (2 : Int32)).toNatClampNeg)]) (rest := [.int (-1 : Int32)]) ⟨hx, hb, hml, hown, hts⟩ (c_X3_append_out l G cy ad σ τ (xs (v + (1 : Int32)).toNatClampNeg) (xs (v + (2 : Int32)).toNatClampNeg) c_2) gL_law_X3_append rfl rfl rfl (by decide +kernel) ⟨Nat.le_of_ble_eq_true rfl, Nat.le_of_ble_eq_true rfl⟩ (va_recv hK hP (ci := 3) (q0 := 18) rfl sl_aM) rfl hl.1 rfl (Nat.le_of_ble_eq_true rfl) dL_law_141 ⟨Nat.le_refl _, Nat.le_refl _⟩ hK hN hD hP hS (fun H locs hP hS => ?_)
          refine W.eq (g2 := F0 m 144 ls [.int (-1 : Int32), .int (-1 : Int32)]) rfl ?_
          refine lv_icmp_eq (tgt := 571) hx hb dL_law_144 (by decide) (fun _ => ?_) (fun h9 => absurd (by decide) h9)
          exact K571 σ τ _ _ ls hR hP hS (lv_sub hl [0, 1, 2, 3] rfl)
      · by_cases c_3 : ((xs v.toNatClampNeg) &&& (31 : Int32)) = (1 : Int32)
        · refine lv_tableIn (off := 117) (tgt := 149) hx hb dL_law_32 (by rw [c_3]; decide) (by rw [c_3]; decide) (by rw [c_3]; decide) (by decide) ?_
          refine lv_aload_n hx hb dL_law_149 rfl (lv_at hl 2 rfl) ?_
          refine lv_aload_n hx hb dL_law_150 rfl (lv_at hl 1 rfl) ?_
          refine lv_iload_n hx hb dL_law_151 rfl (lv_at hl 0 rfl) ?_
          refine lv_iconst (v := (1 : Int32)) hx hb dL_law_152 (by decide) ?_
          refine lv_iadd hx hb dL_law_153 ?_
          refine va_sld hx hb hX hbl hbA hS hv1 dL_law_154 ?_
          refine lv_aload_n hx hb dL_law_155 rfl (lv_at hl 1 rfl) ?_
          refine lv_iload_n hx hb dL_law_156 rfl (lv_at hl 0 rfl) ?_
          refine lv_iconst (v := (2 : Int32)) hx hb dL_law_157 (by decide) ?_
          refine lv_iadd hx hb dL_law_158 ?_
          refine va_sld hx hb hX hbl hbA hS hv2 dL_law_159 ?_
          by_cases c_4 : vp_in (xs (v + (1 : Int32)).toNatClampNeg) 3
          · refine sl_cV (n := 2) (As := [.int (xs (v + (1 : Int32)).toNatClampNeg), .int (xs (v + (2 : Int32)).toNatClampNeg)]) (rest := []) ⟨hx, hb, hml, hown, hts⟩ (c_X2_fill_in l G cy ad σ τ (xs (v + (1 : Int32)).toNatClampNeg) (xs (v + (2 : Int32)).toNatClampNeg) c_4) gL_law_X2_fill rfl rfl rfl (by decide +kernel) ⟨Nat.le_of_ble_eq_true rfl, Nat.le_of_ble_eq_true rfl⟩ (va_recv hK hP (ci := 2) (q0 := 0) rfl sl_aL) rfl hl.1 rfl (Nat.le_of_ble_eq_true rfl) dL_law_160 ⟨Nat.le_refl _, Nat.le_refl _⟩ hK hN hD hP hS (fun H locs hP hS => ?_)
            refine W.eq (g2 := F0 m 163 ls [.int ((sp_X2_fill_in σ (xs (v + (1 : Int32)).toNatClampNeg) (xs (v + (2 : Int32)).toNatClampNeg)).1)]) rfl ?_
            refine lv_aload_n hx hb dL_law_163 rfl (lv_at hl 3 rfl) ?_
            refine lv_aload_n hx hb dL_law_164 rfl (lv_at hl 1 rfl) ?_
            refine lv_iload_n hx hb dL_law_165 rfl (lv_at hl 0 rfl) ?_
            refine lv_iconst (v := (1 : Int32)) hx hb dL_law_166 (by decide) ?_
            refine lv_iadd hx hb dL_law_167 ?_
            refine va_sld hx hb hX hbl hbA hS hv1 dL_law_168 ?_
            refine lv_aload_n hx hb dL_law_169 rfl (lv_at hl 1 rfl) ?_
            refine lv_iload_n hx hb dL_law_170 rfl (lv_at hl 0 rfl) ?_
            refine lv_iconst (v := (2 : Int32)) hx hb dL_law_171 (by decide) ?_
            refine lv_iadd hx hb dL_law_172 ?_
            refine va_sld hx hb hX hbl hbA hS hv2 dL_law_173 ?_
            refine sl_cV (n := 2) (As := [.int (xs (v + (1 : Int32)).toNatClampNeg), .int (xs (v + (2 : Int32)).toNatClampNeg)]) (rest := [.int ((sp_X2_fill_in σ (xs (v + (1 : Int32)).toNatClampNeg) (xs (v + (2 : Int32)).toNatClampNeg)).1)]) ⟨hx, hb, hml, hown, hts⟩ (c_X3_fill_in l G cy ad ((sp_X2_fill_in σ (xs (v + (1 : Int32)).toNatClampNeg) (xs (v + (2 : Int32)).toNatClampNeg)).2) τ (xs (v + (1 : Int32)).toNatClampNeg) (xs (v + (2 : Int32)).toNatClampNeg) c_4) gL_law_X3_fill rfl rfl rfl (by decide +kernel) ⟨Nat.le_of_ble_eq_true rfl, Nat.le_of_ble_eq_true rfl⟩ (va_recv hK hP (ci := 3) (q0 := 18) rfl sl_aM) rfl hl.1 rfl (Nat.le_of_ble_eq_true rfl) dL_law_174 ⟨Nat.le_refl _, Nat.le_refl _⟩ hK hN hD hP hS (fun H locs hP hS => ?_)
            refine W.eq (g2 := F0 m 177 ls [.int ((sp_X3_fill_in τ (xs (v + (1 : Int32)).toNatClampNeg) (xs (v + (2 : Int32)).toNatClampNeg)).1), .int ((sp_X2_fill_in σ (xs (v + (1 : Int32)).toNatClampNeg) (xs (v + (2 : Int32)).toNatClampNeg)).1)]) rfl ?_
            refine lv_icmp_eq (tgt := 571) hx hb dL_law_177 (by decide) (fun _ => ?_) (fun h9 => absurd (sl_r_fill (a := (xs (v + (2 : Int32)).toNatClampNeg)) hR c_4).1 h9)
            exact K571 ((sp_X2_fill_in σ (xs (v + (1 : Int32)).toNatClampNeg) (xs (v + (2 : Int32)).toNatClampNeg)).2) ((sp_X3_fill_in τ (xs (v + (1 : Int32)).toNatClampNeg) (xs (v + (2 : Int32)).toNatClampNeg)).2) _ _ ls ((sl_r_fill (a := (xs (v + (2 : Int32)).toNatClampNeg)) hR c_4).2) hP hS (lv_sub hl [0, 1, 2, 3] rfl)
          · refine sl_cV (n := 2) (As := [.int (xs (v + (1 : Int32)).toNatClampNeg), .int (xs (v + (2 : Int32)).toNatClampNeg)]) (rest := []) ⟨hx, hb, hml, hown, hts⟩ (c_X2_fill_out l G cy ad σ τ (xs (v + (1 : Int32)).toNatClampNeg) (xs (v + (2 : Int32)).toNatClampNeg) c_4) gL_law_X2_fill rfl rfl rfl (by decide +kernel) ⟨Nat.le_of_ble_eq_true rfl, Nat.le_of_ble_eq_true rfl⟩ (va_recv hK hP (ci := 2) (q0 := 0) rfl sl_aL) rfl hl.1 rfl (Nat.le_of_ble_eq_true rfl) dL_law_160 ⟨Nat.le_refl _, Nat.le_refl _⟩ hK hN hD hP hS (fun H locs hP hS => ?_)
            refine W.eq (g2 := F0 m 163 ls [.int (-1 : Int32)]) rfl ?_
            refine lv_aload_n hx hb dL_law_163 rfl (lv_at hl 3 rfl) ?_
            refine lv_aload_n hx hb dL_law_164 rfl (lv_at hl 1 rfl) ?_
            refine lv_iload_n hx hb dL_law_165 rfl (lv_at hl 0 rfl) ?_
            refine lv_iconst (v := (1 : Int32)) hx hb dL_law_166 (by decide) ?_
            refine lv_iadd hx hb dL_law_167 ?_
            refine va_sld hx hb hX hbl hbA hS hv1 dL_law_168 ?_
            refine lv_aload_n hx hb dL_law_169 rfl (lv_at hl 1 rfl) ?_
            refine lv_iload_n hx hb dL_law_170 rfl (lv_at hl 0 rfl) ?_
            refine lv_iconst (v := (2 : Int32)) hx hb dL_law_171 (by decide) ?_
            refine lv_iadd hx hb dL_law_172 ?_
            refine va_sld hx hb hX hbl hbA hS hv2 dL_law_173 ?_
            refine sl_cV (n := 2) (As := [.int (xs (v + (1 : Int32)).toNatClampNeg), .int (xs (v + (2 : Int32)).toNatClampNeg)]) (rest := [.int (-1 : Int32)]) ⟨hx, hb, hml, hown, hts⟩ (c_X3_fill_out l G cy ad σ τ (xs (v + (1 : Int32)).toNatClampNeg) (xs (v + (2 : Int32)).toNatClampNeg) c_4) gL_law_X3_fill rfl rfl rfl (by decide +kernel) ⟨Nat.le_of_ble_eq_true rfl, Nat.le_of_ble_eq_true rfl⟩ (va_recv hK hP (ci := 3) (q0 := 18) rfl sl_aM) rfl hl.1 rfl (Nat.le_of_ble_eq_true rfl) dL_law_174 ⟨Nat.le_refl _, Nat.le_refl _⟩ hK hN hD hP hS (fun H locs hP hS => ?_)
            refine W.eq (g2 := F0 m 177 ls [.int (-1 : Int32), .int (-1 : Int32)]) rfl ?_
            refine lv_icmp_eq (tgt := 571) hx hb dL_law_177 (by decide) (fun _ => ?_) (fun h9 => absurd (by decide) h9)
            exact K571 σ τ _ _ ls hR hP hS (lv_sub hl [0, 1, 2, 3] rfl)
        · by_cases c_5 : ((xs v.toNatClampNeg) &&& (31 : Int32)) = (2 : Int32)
          · refine lv_tableIn (off := 150) (tgt := 182) hx hb dL_law_32 (by rw [c_5]; decide) (by rw [c_5]; decide) (by rw [c_5]; decide) (by decide) ?_
            refine lv_aload_n hx hb dL_law_182 rfl (lv_at hl 2 rfl) ?_
            refine lv_aload_n hx hb dL_law_183 rfl (lv_at hl 1 rfl) ?_
            refine lv_iload_n hx hb dL_law_184 rfl (lv_at hl 0 rfl) ?_
            refine lv_iconst (v := (1 : Int32)) hx hb dL_law_185 (by decide) ?_
            refine lv_iadd hx hb dL_law_186 ?_
            refine va_sld hx hb hX hbl hbA hS hv1 dL_law_187 ?_
            refine lv_aload_n hx hb dL_law_188 rfl (lv_at hl 1 rfl) ?_
            refine lv_iload_n hx hb dL_law_189 rfl (lv_at hl 0 rfl) ?_
            refine lv_iconst (v := (2 : Int32)) hx hb dL_law_190 (by decide) ?_
            refine lv_iadd hx hb dL_law_191 ?_
            refine va_sld hx hb hX hbl hbA hS hv2 dL_law_192 ?_
            by_cases c_6 : vp_in (xs (v + (1 : Int32)).toNatClampNeg) 3
            · refine sl_cV (n := 2) (As := [.int (xs (v + (1 : Int32)).toNatClampNeg), .int (xs (v + (2 : Int32)).toNatClampNeg)]) (rest := []) ⟨hx, hb, hml, hown, hts⟩ (c_X2_read_in l G cy ad σ τ (xs (v + (1 : Int32)).toNatClampNeg) (xs (v + (2 : Int32)).toNatClampNeg) c_6) gL_law_X2_read rfl rfl rfl (by decide +kernel) ⟨Nat.le_of_ble_eq_true rfl, Nat.le_of_ble_eq_true rfl⟩ (va_recv hK hP (ci := 2) (q0 := 0) rfl sl_aL) rfl hl.1 rfl (Nat.le_of_ble_eq_true rfl) dL_law_193 ⟨Nat.le_refl _, Nat.le_refl _⟩ hK hN hD hP hS (fun H locs hP hS => ?_)
              refine W.eq (g2 := F0 m 196 ls [.int ((sp_X2_read_in σ (xs (v + (1 : Int32)).toNatClampNeg) (xs (v + (2 : Int32)).toNatClampNeg)).1)]) rfl ?_
              refine lv_aload_n hx hb dL_law_196 rfl (lv_at hl 3 rfl) ?_
              refine lv_aload_n hx hb dL_law_197 rfl (lv_at hl 1 rfl) ?_
              refine lv_iload_n hx hb dL_law_198 rfl (lv_at hl 0 rfl) ?_
              refine lv_iconst (v := (1 : Int32)) hx hb dL_law_199 (by decide) ?_
              refine lv_iadd hx hb dL_law_200 ?_
              refine va_sld hx hb hX hbl hbA hS hv1 dL_law_201 ?_
              refine lv_aload_n hx hb dL_law_202 rfl (lv_at hl 1 rfl) ?_
              refine lv_iload_n hx hb dL_law_203 rfl (lv_at hl 0 rfl) ?_
              refine lv_iconst (v := (2 : Int32)) hx hb dL_law_204 (by decide) ?_
              refine lv_iadd hx hb dL_law_205 ?_
              refine va_sld hx hb hX hbl hbA hS hv2 dL_law_206 ?_
              refine sl_cV (n := 2) (As := [.int (xs (v + (1 : Int32)).toNatClampNeg), .int (xs (v + (2 : Int32)).toNatClampNeg)]) (rest := [.int ((sp_X2_read_in σ (xs (v + (1 : Int32)).toNatClampNeg) (xs (v + (2 : Int32)).toNatClampNeg)).1)]) ⟨hx, hb, hml, hown, hts⟩ (c_X3_read_in l G cy ad ((sp_X2_read_in σ (xs (v + (1 : Int32)).toNatClampNeg) (xs (v + (2 : Int32)).toNatClampNeg)).2) τ (xs (v + (1 : Int32)).toNatClampNeg) (xs (v + (2 : Int32)).toNatClampNeg) c_6) gL_law_X3_read rfl rfl rfl (by decide +kernel) ⟨Nat.le_of_ble_eq_true rfl, Nat.le_of_ble_eq_true rfl⟩ (va_recv hK hP (ci := 3) (q0 := 18) rfl sl_aM) rfl hl.1 rfl (Nat.le_of_ble_eq_true rfl) dL_law_207 ⟨Nat.le_refl _, Nat.le_refl _⟩ hK hN hD hP hS (fun H locs hP hS => ?_)
              refine W.eq (g2 := F0 m 210 ls [.int ((sp_X3_read_in τ (xs (v + (1 : Int32)).toNatClampNeg) (xs (v + (2 : Int32)).toNatClampNeg)).1), .int ((sp_X2_read_in σ (xs (v + (1 : Int32)).toNatClampNeg) (xs (v + (2 : Int32)).toNatClampNeg)).1)]) rfl ?_
              refine lv_icmp_eq (tgt := 571) hx hb dL_law_210 (by decide) (fun _ => ?_) (fun h9 => absurd (sl_r_read (a := (xs (v + (2 : Int32)).toNatClampNeg)) hR c_6).1 h9)
              exact K571 ((sp_X2_read_in σ (xs (v + (1 : Int32)).toNatClampNeg) (xs (v + (2 : Int32)).toNatClampNeg)).2) ((sp_X3_read_in τ (xs (v + (1 : Int32)).toNatClampNeg) (xs (v + (2 : Int32)).toNatClampNeg)).2) _ _ ls ((sl_r_read (a := (xs (v + (2 : Int32)).toNatClampNeg)) hR c_6).2) hP hS (lv_sub hl [0, 1, 2, 3] rfl)
            · refine sl_cV (n := 2) (As := [.int (xs (v + (1 : Int32)).toNatClampNeg), .int (xs (v + (2 : Int32)).toNatClampNeg)]) (rest := []) ⟨hx, hb, hml, hown, hts⟩ (c_X2_read_out l G cy ad σ τ (xs (v + (1 : Int32)).toNatClampNeg) (xs (v + (2 : Int32)).toNatClampNeg) c_6) gL_law_X2_read rfl rfl rfl (by decide +kernel) ⟨Nat.le_of_ble_eq_true rfl, Nat.le_of_ble_eq_true rfl⟩ (va_recv hK hP (ci := 2) (q0 := 0) rfl sl_aL) rfl hl.1 rfl (Nat.le_of_ble_eq_true rfl) dL_law_193 ⟨Nat.le_refl _, Nat.le_refl _⟩ hK hN hD hP hS (fun H locs hP hS => ?_)
              refine W.eq (g2 := F0 m 196 ls [.int (-1 : Int32)]) rfl ?_
              refine lv_aload_n hx hb dL_law_196 rfl (lv_at hl 3 rfl) ?_
              refine lv_aload_n hx hb dL_law_197 rfl (lv_at hl 1 rfl) ?_
              refine lv_iload_n hx hb dL_law_198 rfl (lv_at hl 0 rfl) ?_
              refine lv_iconst (v := (1 : Int32)) hx hb dL_law_199 (by decide) ?_
              refine lv_iadd hx hb dL_law_200 ?_
              refine va_sld hx hb hX hbl hbA hS hv1 dL_law_201 ?_
              refine lv_aload_n hx hb dL_law_202 rfl (lv_at hl 1 rfl) ?_
              refine lv_iload_n hx hb dL_law_203 rfl (lv_at hl 0 rfl) ?_
              refine lv_iconst (v := (2 : Int32)) hx hb dL_law_204 (by decide) ?_
              refine lv_iadd hx hb dL_law_205 ?_
              refine va_sld hx hb hX hbl hbA hS hv2 dL_law_206 ?_
              refine sl_cV (n := 2) (As := [.int (xs (v + (1 : Int32)).toNatClampNeg), .int (xs (v + (2 : Int32)).toNatClampNeg)]) (rest := [.int (-1 : Int32)]) ⟨hx, hb, hml, hown, hts⟩ (c_X3_read_out l G cy ad σ τ (xs (v + (1 : Int32)).toNatClampNeg) (xs (v + (2 : Int32)).toNatClampNeg) c_6) gL_law_X3_read rfl rfl rfl (by decide +kernel) ⟨Nat.le_of_ble_eq_true rfl, Nat.le_of_ble_eq_true rfl⟩ (va_recv hK hP (ci := 3) (q0 := 18) rfl sl_aM) rfl hl.1 rfl (Nat.le_of_ble_eq_true rfl) dL_law_207 ⟨Nat.le_refl _, Nat.le_refl _⟩ hK hN hD hP hS (fun H locs hP hS => ?_)
              refine W.eq (g2 := F0 m 210 ls [.int (-1 : Int32), .int (-1 : Int32)]) rfl ?_
              refine lv_icmp_eq (tgt := 571) hx hb dL_law_210 (by decide) (fun _ => ?_) (fun h9 => absurd (by decide) h9)
              exact K571 σ τ _ _ ls hR hP hS (lv_sub hl [0, 1, 2, 3] rfl)
          · by_cases c_7 : ((xs v.toNatClampNeg) &&& (31 : Int32)) = (3 : Int32)
            · refine lv_tableIn (off := 183) (tgt := 215) hx hb dL_law_32 (by rw [c_7]; decide) (by rw [c_7]; decide) (by rw [c_7]; decide) (by decide) ?_
              refine lv_aload_n hx hb dL_law_215 rfl (lv_at hl 2 rfl) ?_
              refine lv_aload_n hx hb dL_law_216 rfl (lv_at hl 1 rfl) ?_
              refine lv_iload_n hx hb dL_law_217 rfl (lv_at hl 0 rfl) ?_
              refine lv_iconst (v := (1 : Int32)) hx hb dL_law_218 (by decide) ?_
              refine lv_iadd hx hb dL_law_219 ?_
              refine va_sld hx hb hX hbl hbA hS hv1 dL_law_220 ?_
              refine lv_aload_n hx hb dL_law_221 rfl (lv_at hl 1 rfl) ?_
              refine lv_iload_n hx hb dL_law_222 rfl (lv_at hl 0 rfl) ?_
              refine lv_iconst (v := (2 : Int32)) hx hb dL_law_223 (by decide) ?_
              refine lv_iadd hx hb dL_law_224 ?_
              refine va_sld hx hb hX hbl hbA hS hv2 dL_law_225 ?_
              by_cases c_8 : vp_in (xs (v + (1 : Int32)).toNatClampNeg) 3
              · refine sl_cV (n := 2) (As := [.int (xs (v + (1 : Int32)).toNatClampNeg), .int (xs (v + (2 : Int32)).toNatClampNeg)]) (rest := []) ⟨hx, hb, hml, hown, hts⟩ (c_X2_replay_in l G cy ad σ τ (xs (v + (1 : Int32)).toNatClampNeg) (xs (v + (2 : Int32)).toNatClampNeg) c_8) gL_law_X2_replay rfl rfl rfl (by decide +kernel) ⟨Nat.le_of_ble_eq_true rfl, Nat.le_of_ble_eq_true rfl⟩ (va_recv hK hP (ci := 2) (q0 := 0) rfl sl_aL) rfl hl.1 rfl (Nat.le_of_ble_eq_true rfl) dL_law_226 ⟨Nat.le_refl _, Nat.le_refl _⟩ hK hN hD hP hS (fun H locs hP hS => ?_)
                refine W.eq (g2 := F0 m 229 ls [.int ((sp_X2_replay_in σ (xs (v + (1 : Int32)).toNatClampNeg) (xs (v + (2 : Int32)).toNatClampNeg)).1)]) rfl ?_
                refine lv_aload_n hx hb dL_law_229 rfl (lv_at hl 3 rfl) ?_
                refine lv_aload_n hx hb dL_law_230 rfl (lv_at hl 1 rfl) ?_
                refine lv_iload_n hx hb dL_law_231 rfl (lv_at hl 0 rfl) ?_
                refine lv_iconst (v := (1 : Int32)) hx hb dL_law_232 (by decide) ?_
                refine lv_iadd hx hb dL_law_233 ?_
                refine va_sld hx hb hX hbl hbA hS hv1 dL_law_234 ?_
                refine lv_aload_n hx hb dL_law_235 rfl (lv_at hl 1 rfl) ?_
                refine lv_iload_n hx hb dL_law_236 rfl (lv_at hl 0 rfl) ?_
                refine lv_iconst (v := (2 : Int32)) hx hb dL_law_237 (by decide) ?_
                refine lv_iadd hx hb dL_law_238 ?_
                refine va_sld hx hb hX hbl hbA hS hv2 dL_law_239 ?_
                refine sl_cV (n := 2) (As := [.int (xs (v + (1 : Int32)).toNatClampNeg), .int (xs (v + (2 : Int32)).toNatClampNeg)]) (rest := [.int ((sp_X2_replay_in σ (xs (v + (1 : Int32)).toNatClampNeg) (xs (v + (2 : Int32)).toNatClampNeg)).1)]) ⟨hx, hb, hml, hown, hts⟩ (c_X3_replay_in l G cy ad ((sp_X2_replay_in σ (xs (v + (1 : Int32)).toNatClampNeg) (xs (v + (2 : Int32)).toNatClampNeg)).2) τ (xs (v + (1 : Int32)).toNatClampNeg) (xs (v + (2 : Int32)).toNatClampNeg) c_8) gL_law_X3_replay rfl rfl rfl (by decide +kernel) ⟨Nat.le_of_ble_eq_true rfl, Nat.le_of_ble_eq_true rfl⟩ (va_recv hK hP (ci := 3) (q0 := 18) rfl sl_aM) rfl hl.1 rfl (Nat.le_of_ble_eq_true rfl) dL_law_240 ⟨Nat.le_refl _, Nat.le_refl _⟩ hK hN hD hP hS (fun H locs hP hS => ?_)
                refine W.eq (g2 := F0 m 243 ls [.int ((sp_X3_replay_in τ (xs (v + (1 : Int32)).toNatClampNeg) (xs (v + (2 : Int32)).toNatClampNeg)).1), .int ((sp_X2_replay_in σ (xs (v + (1 : Int32)).toNatClampNeg) (xs (v + (2 : Int32)).toNatClampNeg)).1)]) rfl ?_
                refine lv_icmp_eq (tgt := 571) hx hb dL_law_243 (by decide) (fun _ => ?_) (fun h9 => absurd (sl_r_replay (a := (xs (v + (2 : Int32)).toNatClampNeg)) hR c_8).1 h9)
                exact K571 ((sp_X2_replay_in σ (xs (v + (1 : Int32)).toNatClampNeg) (xs (v + (2 : Int32)).toNatClampNeg)).2) ((sp_X3_replay_in τ (xs (v + (1 : Int32)).toNatClampNeg) (xs (v + (2 : Int32)).toNatClampNeg)).2) _ _ ls ((sl_r_replay (a := (xs (v + (2 : Int32)).toNatClampNeg)) hR c_8).2) hP hS (lv_sub hl [0, 1, 2, 3] rfl)
              · refine sl_cV (n := 2) (As := [.int (xs (v + (1 : Int32)).toNatClampNeg), .int (xs (v + (2 : Int32)).toNatClampNeg)]) (rest := []) ⟨hx, hb, hml, hown, hts⟩ (c_X2_replay_out l G cy ad σ τ (xs (v + (1 : Int32)).toNatClampNeg) (xs (v + (2 : Int32)).toNatClampNeg) c_8) gL_law_X2_replay rfl rfl rfl (by decide +kernel) ⟨Nat.le_of_ble_eq_true rfl, Nat.le_of_ble_eq_true rfl⟩ (va_recv hK hP (ci := 2) (q0 := 0) rfl sl_aL) rfl hl.1 rfl (Nat.le_of_ble_eq_true rfl) dL_law_226 ⟨Nat.le_refl _, Nat.le_refl _⟩ hK hN hD hP hS (fun H locs hP hS => ?_)
                refine W.eq (g2 := F0 m 229 ls [.int (-1 : Int32)]) rfl ?_
                refine lv_aload_n hx hb dL_law_229 rfl (lv_at hl 3 rfl) ?_
                refine lv_aload_n hx hb dL_law_230 rfl (lv_at hl 1 rfl) ?_
                refine lv_iload_n hx hb dL_law_231 rfl (lv_at hl 0 rfl) ?_
                refine lv_iconst (v := (1 : Int32)) hx hb dL_law_232 (by decide) ?_
                refine lv_iadd hx hb dL_law_233 ?_
                refine va_sld hx hb hX hbl hbA hS hv1 dL_law_234 ?_
                refine lv_aload_n hx hb dL_law_235 rfl (lv_at hl 1 rfl) ?_
                refine lv_iload_n hx hb dL_law_236 rfl (lv_at hl 0 rfl) ?_
                refine lv_iconst (v := (2 : Int32)) hx hb dL_law_237 (by decide) ?_
                refine lv_iadd hx hb dL_law_238 ?_
                refine va_sld hx hb hX hbl hbA hS hv2 dL_law_239 ?_
                refine sl_cV (n := 2) (As := [.int (xs (v + (1 : Int32)).toNatClampNeg), .int (xs (v + (2 : Int32)).toNatClampNeg)]) (rest := [.int (-1 : Int32)]) ⟨hx, hb, hml, hown, hts⟩ (c_X3_replay_out l G cy ad σ τ (xs (v + (1 : Int32)).toNatClampNeg) (xs (v + (2 : Int32)).toNatClampNeg) c_8) gL_law_X3_replay rfl rfl rfl (by decide +kernel) ⟨Nat.le_of_ble_eq_true rfl, Nat.le_of_ble_eq_true rfl⟩ (va_recv hK hP (ci := 3) (q0 := 18) rfl sl_aM) rfl hl.1 rfl (Nat.le_of_ble_eq_true rfl) dL_law_240 ⟨Nat.le_refl _, Nat.le_refl _⟩ hK hN hD hP hS (fun H locs hP hS => ?_)
                refine W.eq (g2 := F0 m 243 ls [.int (-1 : Int32), .int (-1 : Int32)]) rfl ?_
                refine lv_icmp_eq (tgt := 571) hx hb dL_law_243 (by decide) (fun _ => ?_) (fun h9 => absurd (by decide) h9)
                exact K571 σ τ _ _ ls hR hP hS (lv_sub hl [0, 1, 2, 3] rfl)
            · by_cases c_9 : ((xs v.toNatClampNeg) &&& (31 : Int32)) = (4 : Int32)
              · refine lv_tableIn (off := 216) (tgt := 248) hx hb dL_law_32 (by rw [c_9]; decide) (by rw [c_9]; decide) (by rw [c_9]; decide) (by decide) ?_
                refine lv_aload_n hx hb dL_law_248 rfl (lv_at hl 2 rfl) ?_
                refine lv_aload_n hx hb dL_law_249 rfl (lv_at hl 1 rfl) ?_
                refine lv_iload_n hx hb dL_law_250 rfl (lv_at hl 0 rfl) ?_
                refine lv_iconst (v := (1 : Int32)) hx hb dL_law_251 (by decide) ?_
                refine lv_iadd hx hb dL_law_252 ?_
                refine va_sld hx hb hX hbl hbA hS hv1 dL_law_253 ?_
                refine lv_aload_n hx hb dL_law_254 rfl (lv_at hl 1 rfl) ?_
                refine lv_iload_n hx hb dL_law_255 rfl (lv_at hl 0 rfl) ?_
                refine lv_iconst (v := (2 : Int32)) hx hb dL_law_256 (by decide) ?_
                refine lv_iadd hx hb dL_law_257 ?_
                refine va_sld hx hb hX hbl hbA hS hv2 dL_law_258 ?_
                by_cases c_10 : vp_in (xs (v + (1 : Int32)).toNatClampNeg) 3
                · refine sl_cV (n := 2) (As := [.int (xs (v + (1 : Int32)).toNatClampNeg), .int (xs (v + (2 : Int32)).toNatClampNeg)]) (rest := []) ⟨hx, hb, hml, hown, hts⟩ (c_X2_reform_in l G cy ad σ τ (xs (v + (1 : Int32)).toNatClampNeg) (xs (v + (2 : Int32)).toNatClampNeg) c_10) gL_law_X2_reform rfl rfl rfl (by decide +kernel) ⟨Nat.le_of_ble_eq_true rfl, Nat.le_of_ble_eq_true rfl⟩ (va_recv hK hP (ci := 2) (q0 := 0) rfl sl_aL) rfl hl.1 rfl (Nat.le_of_ble_eq_true rfl) dL_law_259 ⟨Nat.le_refl _, Nat.le_refl _⟩ hK hN hD hP hS (fun H locs hP hS => ?_)
                  refine W.eq (g2 := F0 m 262 ls [.int ((sp_X2_reform_in σ (xs (v + (1 : Int32)).toNatClampNeg) (xs (v + (2 : Int32)).toNatClampNeg)).1)]) rfl ?_
                  refine lv_aload_n hx hb dL_law_262 rfl (lv_at hl 3 rfl) ?_
                  refine lv_aload_n hx hb dL_law_263 rfl (lv_at hl 1 rfl) ?_
                  refine lv_iload_n hx hb dL_law_264 rfl (lv_at hl 0 rfl) ?_
                  refine lv_iconst (v := (1 : Int32)) hx hb dL_law_265 (by decide) ?_
                  refine lv_iadd hx hb dL_law_266 ?_
                  refine va_sld hx hb hX hbl hbA hS hv1 dL_law_267 ?_
                  refine lv_aload_n hx hb dL_law_268 rfl (lv_at hl 1 rfl) ?_
                  refine lv_iload_n hx hb dL_law_269 rfl (lv_at hl 0 rfl) ?_
                  refine lv_iconst (v := (2 : Int32)) hx hb dL_law_270 (by decide) ?_
                  refine lv_iadd hx hb dL_law_271 ?_
                  refine va_sld hx hb hX hbl hbA hS hv2 dL_law_272 ?_
                  refine sl_cV (n := 2) (As := [.int (xs (v + (1 : Int32)).toNatClampNeg), .int (xs (v + (2 : Int32)).toNatClampNeg)]) (rest := [.int ((sp_X2_reform_in σ (xs (v + (1 : Int32)).toNatClampNeg) (xs (v + (2 : Int32)).toNatClampNeg)).1)]) ⟨hx, hb, hml, hown, hts⟩ (c_X3_reform_in l G cy ad ((sp_X2_reform_in σ (xs (v + (1 : Int32)).toNatClampNeg) (xs (v + (2 : Int32)).toNatClampNeg)).2) τ (xs (v + (1 : Int32)).toNatClampNeg) (xs (v + (2 : Int32)).toNatClampNeg) c_10) gL_law_X3_reform rfl rfl rfl (by decide +kernel) ⟨Nat.le_of_ble_eq_true rfl, Nat.le_of_ble_eq_true rfl⟩ (va_recv hK hP (ci := 3) (q0 := 18) rfl sl_aM) rfl hl.1 rfl (Nat.le_of_ble_eq_true rfl) dL_law_273 ⟨Nat.le_refl _, Nat.le_refl _⟩ hK hN hD hP hS (fun H locs hP hS => ?_)
                  refine W.eq (g2 := F0 m 276 ls [.int ((sp_X3_reform_in τ (xs (v + (1 : Int32)).toNatClampNeg) (xs (v + (2 : Int32)).toNatClampNeg)).1), .int ((sp_X2_reform_in σ (xs (v + (1 : Int32)).toNatClampNeg) (xs (v + (2 : Int32)).toNatClampNeg)).1)]) rfl ?_
                  refine lv_icmp_eq (tgt := 571) hx hb dL_law_276 (by decide) (fun _ => ?_) (fun h9 => absurd (sl_r_reform (a := (xs (v + (2 : Int32)).toNatClampNeg)) hR c_10).1 h9)
                  exact K571 ((sp_X2_reform_in σ (xs (v + (1 : Int32)).toNatClampNeg) (xs (v + (2 : Int32)).toNatClampNeg)).2) ((sp_X3_reform_in τ (xs (v + (1 : Int32)).toNatClampNeg) (xs (v + (2 : Int32)).toNatClampNeg)).2) _ _ ls ((sl_r_reform (a := (xs (v + (2 : Int32)).toNatClampNeg)) hR c_10).2) hP hS (lv_sub hl [0, 1, 2, 3] rfl)
                · refine sl_cV (n := 2) (As := [.int (xs (v + (1 : Int32)).toNatClampNeg), .int (xs (v + (2 : Int32)).toNatClampNeg)]) (rest := []) ⟨hx, hb, hml, hown, hts⟩ (c_X2_reform_out l G cy ad σ τ (xs (v + (1 : Int32)).toNatClampNeg) (xs (v + (2 : Int32)).toNatClampNeg) c_10) gL_law_X2_reform rfl rfl rfl (by decide +kernel) ⟨Nat.le_of_ble_eq_true rfl, Nat.le_of_ble_eq_true rfl⟩ (va_recv hK hP (ci := 2) (q0 := 0) rfl sl_aL) rfl hl.1 rfl (Nat.le_of_ble_eq_true rfl) dL_law_259 ⟨Nat.le_refl _, Nat.le_refl _⟩ hK hN hD hP hS (fun H locs hP hS => ?_)
                  refine W.eq (g2 := F0 m 262 ls [.int (-1 : Int32)]) rfl ?_
                  refine lv_aload_n hx hb dL_law_262 rfl (lv_at hl 3 rfl) ?_
                  refine lv_aload_n hx hb dL_law_263 rfl (lv_at hl 1 rfl) ?_
                  refine lv_iload_n hx hb dL_law_264 rfl (lv_at hl 0 rfl) ?_
                  refine lv_iconst (v := (1 : Int32)) hx hb dL_law_265 (by decide) ?_
                  refine lv_iadd hx hb dL_law_266 ?_
                  refine va_sld hx hb hX hbl hbA hS hv1 dL_law_267 ?_
                  refine lv_aload_n hx hb dL_law_268 rfl (lv_at hl 1 rfl) ?_
                  refine lv_iload_n hx hb dL_law_269 rfl (lv_at hl 0 rfl) ?_
                  refine lv_iconst (v := (2 : Int32)) hx hb dL_law_270 (by decide) ?_
                  refine lv_iadd hx hb dL_law_271 ?_
                  refine va_sld hx hb hX hbl hbA hS hv2 dL_law_272 ?_
                  refine sl_cV (n := 2) (As := [.int (xs (v + (1 : Int32)).toNatClampNeg), .int (xs (v + (2 : Int32)).toNatClampNeg)]) (rest := [.int (-1 : Int32)]) ⟨hx, hb, hml, hown, hts⟩ (c_X3_reform_out l G cy ad σ τ (xs (v + (1 : Int32)).toNatClampNeg) (xs (v + (2 : Int32)).toNatClampNeg) c_10) gL_law_X3_reform rfl rfl rfl (by decide +kernel) ⟨Nat.le_of_ble_eq_true rfl, Nat.le_of_ble_eq_true rfl⟩ (va_recv hK hP (ci := 3) (q0 := 18) rfl sl_aM) rfl hl.1 rfl (Nat.le_of_ble_eq_true rfl) dL_law_273 ⟨Nat.le_refl _, Nat.le_refl _⟩ hK hN hD hP hS (fun H locs hP hS => ?_)
                  refine W.eq (g2 := F0 m 276 ls [.int (-1 : Int32), .int (-1 : Int32)]) rfl ?_
                  refine lv_icmp_eq (tgt := 571) hx hb dL_law_276 (by decide) (fun _ => ?_) (fun h9 => absurd (by decide) h9)
                  exact K571 σ τ _ _ ls hR hP hS (lv_sub hl [0, 1, 2, 3] rfl)
              · by_cases c_11 : ((xs v.toNatClampNeg) &&& (31 : Int32)) = (5 : Int32)
                · refine lv_tableIn (off := 249) (tgt := 281) hx hb dL_law_32 (by rw [c_11]; decide) (by rw [c_11]; decide) (by rw [c_11]; decide) (by decide) ?_
                  refine lv_aload_n hx hb dL_law_281 rfl (lv_at hl 2 rfl) ?_
                  refine lv_aload_n hx hb dL_law_282 rfl (lv_at hl 1 rfl) ?_
                  refine lv_iload_n hx hb dL_law_283 rfl (lv_at hl 0 rfl) ?_
                  refine lv_iconst (v := (1 : Int32)) hx hb dL_law_284 (by decide) ?_
                  refine lv_iadd hx hb dL_law_285 ?_
                  refine va_sld hx hb hX hbl hbA hS hv1 dL_law_286 ?_
                  by_cases c_12 : vp_in (xs (v + (1 : Int32)).toNatClampNeg) 3
                  · refine sl_cV (n := 1) (As := [.int (xs (v + (1 : Int32)).toNatClampNeg)]) (rest := []) ⟨hx, hb, hml, hown, hts⟩ (c_X2_step_in l G cy ad σ τ (xs (v + (1 : Int32)).toNatClampNeg) c_12) gL_law_X2_step rfl rfl rfl (by decide +kernel) ⟨Nat.le_of_ble_eq_true rfl, Nat.le_of_ble_eq_true rfl⟩ (va_recv hK hP (ci := 2) (q0 := 0) rfl sl_aL) rfl hl.1 rfl (Nat.le_of_ble_eq_true rfl) dL_law_287 ⟨Nat.le_refl _, Nat.le_refl _⟩ hK hN hD hP hS (fun H locs hP hS => ?_)
                    refine W.eq (g2 := F0 m 290 ls [.int ((sp_X2_step_in σ (xs (v + (1 : Int32)).toNatClampNeg)).1)]) rfl ?_
                    refine lv_aload_n hx hb dL_law_290 rfl (lv_at hl 3 rfl) ?_
                    refine lv_aload_n hx hb dL_law_291 rfl (lv_at hl 1 rfl) ?_
                    refine lv_iload_n hx hb dL_law_292 rfl (lv_at hl 0 rfl) ?_
                    refine lv_iconst (v := (1 : Int32)) hx hb dL_law_293 (by decide) ?_
                    refine lv_iadd hx hb dL_law_294 ?_
                    refine va_sld hx hb hX hbl hbA hS hv1 dL_law_295 ?_
                    refine sl_cV (n := 1) (As := [.int (xs (v + (1 : Int32)).toNatClampNeg)]) (rest := [.int ((sp_X2_step_in σ (xs (v + (1 : Int32)).toNatClampNeg)).1)]) ⟨hx, hb, hml, hown, hts⟩ (c_X3_step_in l G cy ad ((sp_X2_step_in σ (xs (v + (1 : Int32)).toNatClampNeg)).2) τ (xs (v + (1 : Int32)).toNatClampNeg) c_12 ((sl_r_pre hR c_12).1) ((sl_r_pre hR c_12).2.1) ((sl_r_pre hR c_12).2.2.1) ((sl_r_pre hR c_12).2.2.2)) gL_law_X3_step rfl rfl rfl (by decide +kernel) ⟨Nat.le_of_ble_eq_true rfl, Nat.le_of_ble_eq_true rfl⟩ (va_recv hK hP (ci := 3) (q0 := 18) rfl sl_aM) rfl hl.1 rfl (Nat.le_of_ble_eq_true rfl) dL_law_296 ⟨Nat.le_refl _, Nat.le_refl _⟩ hK hN hD hP hS (fun H locs hP hS => ?_)
                    refine W.eq (g2 := F0 m 299 ls [.int ((sp_X3_step_in τ (xs (v + (1 : Int32)).toNatClampNeg)).1), .int ((sp_X2_step_in σ (xs (v + (1 : Int32)).toNatClampNeg)).1)]) rfl ?_
                    refine lv_icmp_eq (tgt := 571) hx hb dL_law_299 (by decide) (fun _ => ?_) (fun h9 => absurd (sl_r_step hR c_12).1 h9)
                    exact K571 ((sp_X2_step_in σ (xs (v + (1 : Int32)).toNatClampNeg)).2) ((sp_X3_step_in τ (xs (v + (1 : Int32)).toNatClampNeg)).2) _ _ ls ((sl_r_step hR c_12).2) hP hS (lv_sub hl [0, 1, 2, 3] rfl)
                  · refine sl_cV (n := 1) (As := [.int (xs (v + (1 : Int32)).toNatClampNeg)]) (rest := []) ⟨hx, hb, hml, hown, hts⟩ (c_X2_step_out l G cy ad σ τ (xs (v + (1 : Int32)).toNatClampNeg) c_12) gL_law_X2_step rfl rfl rfl (by decide +kernel) ⟨Nat.le_of_ble_eq_true rfl, Nat.le_of_ble_eq_true rfl⟩ (va_recv hK hP (ci := 2) (q0 := 0) rfl sl_aL) rfl hl.1 rfl (Nat.le_of_ble_eq_true rfl) dL_law_287 ⟨Nat.le_refl _, Nat.le_refl _⟩ hK hN hD hP hS (fun H locs hP hS => ?_)
                    refine W.eq (g2 := F0 m 290 ls [.int (-1 : Int32)]) rfl ?_
                    refine lv_aload_n hx hb dL_law_290 rfl (lv_at hl 3 rfl) ?_
                    refine lv_aload_n hx hb dL_law_291 rfl (lv_at hl 1 rfl) ?_
                    refine lv_iload_n hx hb dL_law_292 rfl (lv_at hl 0 rfl) ?_
                    refine lv_iconst (v := (1 : Int32)) hx hb dL_law_293 (by decide) ?_
                    refine lv_iadd hx hb dL_law_294 ?_
                    refine va_sld hx hb hX hbl hbA hS hv1 dL_law_295 ?_
                    refine sl_cV (n := 1) (As := [.int (xs (v + (1 : Int32)).toNatClampNeg)]) (rest := [.int (-1 : Int32)]) ⟨hx, hb, hml, hown, hts⟩ (c_X3_step_out l G cy ad σ τ (xs (v + (1 : Int32)).toNatClampNeg) c_12) gL_law_X3_step rfl rfl rfl (by decide +kernel) ⟨Nat.le_of_ble_eq_true rfl, Nat.le_of_ble_eq_true rfl⟩ (va_recv hK hP (ci := 3) (q0 := 18) rfl sl_aM) rfl hl.1 rfl (Nat.le_of_ble_eq_true rfl) dL_law_296 ⟨Nat.le_refl _, Nat.le_refl _⟩ hK hN hD hP hS (fun H locs hP hS => ?_)
                    refine W.eq (g2 := F0 m 299 ls [.int (-1 : Int32), .int (-1 : Int32)]) rfl ?_
                    refine lv_icmp_eq (tgt := 571) hx hb dL_law_299 (by decide) (fun _ => ?_) (fun h9 => absurd (by decide) h9)
                    exact K571 σ τ _ _ ls hR hP hS (lv_sub hl [0, 1, 2, 3] rfl)
                · by_cases c_13 : ((xs v.toNatClampNeg) &&& (31 : Int32)) = (6 : Int32)
                  · refine lv_tableIn (off := 272) (tgt := 304) hx hb dL_law_32 (by rw [c_13]; decide) (by rw [c_13]; decide) (by rw [c_13]; decide) (by decide) ?_
                    refine lv_aload_n hx hb dL_law_304 rfl (lv_at hl 2 rfl) ?_
                    refine lv_aload_n hx hb dL_law_305 rfl (lv_at hl 1 rfl) ?_
                    refine lv_iload_n hx hb dL_law_306 rfl (lv_at hl 0 rfl) ?_
                    refine lv_iconst (v := (1 : Int32)) hx hb dL_law_307 (by decide) ?_
                    refine lv_iadd hx hb dL_law_308 ?_
                    refine va_sld hx hb hX hbl hbA hS hv1 dL_law_309 ?_
                    by_cases c_14 : vp_in (xs (v + (1 : Int32)).toNatClampNeg) 3
                    · refine sl_cV (n := 1) (As := [.int (xs (v + (1 : Int32)).toNatClampNeg)]) (rest := []) ⟨hx, hb, hml, hown, hts⟩ (c_X2_refresh_in l G cy ad σ τ (xs (v + (1 : Int32)).toNatClampNeg) c_14) gL_law_X2_refresh rfl rfl rfl (by decide +kernel) ⟨Nat.le_of_ble_eq_true rfl, Nat.le_of_ble_eq_true rfl⟩ (va_recv hK hP (ci := 2) (q0 := 0) rfl sl_aL) rfl hl.1 rfl (Nat.le_of_ble_eq_true rfl) dL_law_310 ⟨Nat.le_refl _, Nat.le_refl _⟩ hK hN hD hP hS (fun H locs hP hS => ?_)
                      refine W.eq (g2 := F0 m 313 ls [.int ((sp_X2_refresh_in σ (xs (v + (1 : Int32)).toNatClampNeg)).1)]) rfl ?_
                      refine lv_aload_n hx hb dL_law_313 rfl (lv_at hl 3 rfl) ?_
                      refine lv_aload_n hx hb dL_law_314 rfl (lv_at hl 1 rfl) ?_
                      refine lv_iload_n hx hb dL_law_315 rfl (lv_at hl 0 rfl) ?_
                      refine lv_iconst (v := (1 : Int32)) hx hb dL_law_316 (by decide) ?_
                      refine lv_iadd hx hb dL_law_317 ?_
                      refine va_sld hx hb hX hbl hbA hS hv1 dL_law_318 ?_
                      refine sl_cV (n := 1) (As := [.int (xs (v + (1 : Int32)).toNatClampNeg)]) (rest := [.int ((sp_X2_refresh_in σ (xs (v + (1 : Int32)).toNatClampNeg)).1)]) ⟨hx, hb, hml, hown, hts⟩ (c_X3_refresh_in l G cy ad ((sp_X2_refresh_in σ (xs (v + (1 : Int32)).toNatClampNeg)).2) τ (xs (v + (1 : Int32)).toNatClampNeg) c_14) gL_law_X3_refresh rfl rfl rfl (by decide +kernel) ⟨Nat.le_of_ble_eq_true rfl, Nat.le_of_ble_eq_true rfl⟩ (va_recv hK hP (ci := 3) (q0 := 18) rfl sl_aM) rfl hl.1 rfl (Nat.le_of_ble_eq_true rfl) dL_law_319 ⟨Nat.le_refl _, Nat.le_refl _⟩ hK hN hD hP hS (fun H locs hP hS => ?_)
                      refine W.eq (g2 := F0 m 322 ls [.int ((sp_X3_refresh_in τ (xs (v + (1 : Int32)).toNatClampNeg)).1), .int ((sp_X2_refresh_in σ (xs (v + (1 : Int32)).toNatClampNeg)).1)]) rfl ?_
                      refine lv_icmp_eq (tgt := 571) hx hb dL_law_322 (by decide) (fun _ => ?_) (fun h9 => absurd (sl_r_refresh hR c_14).1 h9)
                      exact K571 ((sp_X2_refresh_in σ (xs (v + (1 : Int32)).toNatClampNeg)).2) ((sp_X3_refresh_in τ (xs (v + (1 : Int32)).toNatClampNeg)).2) _ _ ls ((sl_r_refresh hR c_14).2) hP hS (lv_sub hl [0, 1, 2, 3] rfl)
                    · refine sl_cV (n := 1) (As := [.int (xs (v + (1 : Int32)).toNatClampNeg)]) (rest := []) ⟨hx, hb, hml, hown, hts⟩ (c_X2_refresh_out l G cy ad σ τ (xs (v + (1 : Int32)).toNatClampNeg) c_14) gL_law_X2_refresh rfl rfl rfl (by decide +kernel) ⟨Nat.le_of_ble_eq_true rfl, Nat.le_of_ble_eq_true rfl⟩ (va_recv hK hP (ci := 2) (q0 := 0) rfl sl_aL) rfl hl.1 rfl (Nat.le_of_ble_eq_true rfl) dL_law_310 ⟨Nat.le_refl _, Nat.le_refl _⟩ hK hN hD hP hS (fun H locs hP hS => ?_)
                      refine W.eq (g2 := F0 m 313 ls [.int (-1 : Int32)]) rfl ?_
                      refine lv_aload_n hx hb dL_law_313 rfl (lv_at hl 3 rfl) ?_
                      refine lv_aload_n hx hb dL_law_314 rfl (lv_at hl 1 rfl) ?_
                      refine lv_iload_n hx hb dL_law_315 rfl (lv_at hl 0 rfl) ?_
                      refine lv_iconst (v := (1 : Int32)) hx hb dL_law_316 (by decide) ?_
                      refine lv_iadd hx hb dL_law_317 ?_
                      refine va_sld hx hb hX hbl hbA hS hv1 dL_law_318 ?_
                      refine sl_cV (n := 1) (As := [.int (xs (v + (1 : Int32)).toNatClampNeg)]) (rest := [.int (-1 : Int32)]) ⟨hx, hb, hml, hown, hts⟩ (c_X3_refresh_out l G cy ad σ τ (xs (v + (1 : Int32)).toNatClampNeg) c_14) gL_law_X3_refresh rfl rfl rfl (by decide +kernel) ⟨Nat.le_of_ble_eq_true rfl, Nat.le_of_ble_eq_true rfl⟩ (va_recv hK hP (ci := 3) (q0 := 18) rfl sl_aM) rfl hl.1 rfl (Nat.le_of_ble_eq_true rfl) dL_law_319 ⟨Nat.le_refl _, Nat.le_refl _⟩ hK hN hD hP hS (fun H locs hP hS => ?_)
                      refine W.eq (g2 := F0 m 322 ls [.int (-1 : Int32), .int (-1 : Int32)]) rfl ?_
                      refine lv_icmp_eq (tgt := 571) hx hb dL_law_322 (by decide) (fun _ => ?_) (fun h9 => absurd (by decide) h9)
                      exact K571 σ τ _ _ ls hR hP hS (lv_sub hl [0, 1, 2, 3] rfl)
                  · by_cases c_15 : ((xs v.toNatClampNeg) &&& (31 : Int32)) = (7 : Int32)
                    · refine lv_tableIn (off := 295) (tgt := 327) hx hb dL_law_32 (by rw [c_15]; decide) (by rw [c_15]; decide) (by rw [c_15]; decide) (by decide) ?_
                      refine lv_aload_n hx hb dL_law_327 rfl (lv_at hl 2 rfl) ?_
                      refine lv_aload_n hx hb dL_law_328 rfl (lv_at hl 1 rfl) ?_
                      refine lv_iload_n hx hb dL_law_329 rfl (lv_at hl 0 rfl) ?_
                      refine lv_iconst (v := (1 : Int32)) hx hb dL_law_330 (by decide) ?_
                      refine lv_iadd hx hb dL_law_331 ?_
                      refine va_sld hx hb hX hbl hbA hS hv1 dL_law_332 ?_
                      refine lv_aload_n hx hb dL_law_333 rfl (lv_at hl 1 rfl) ?_
                      refine lv_iload_n hx hb dL_law_334 rfl (lv_at hl 0 rfl) ?_
                      refine lv_iconst (v := (2 : Int32)) hx hb dL_law_335 (by decide) ?_
                      refine lv_iadd hx hb dL_law_336 ?_
                      refine va_sld hx hb hX hbl hbA hS hv2 dL_law_337 ?_
                      refine lv_if_eq (tgt := 345) hx hb dL_law_338 (by decide) (fun c_16 => ?_) (fun c_16 => ?_)
                      · refine lv_iconst (v := (0 : Int32)) hx hb dL_law_345 (by decide) ?_
                        by_cases c_17 : vp_in (xs (v + (1 : Int32)).toNatClampNeg) 6
                        · refine sl_cV (n := 2) (As := [.int (xs (v + (1 : Int32)).toNatClampNeg), .int (0 : Int32)]) (rest := []) ⟨hx, hb, hml, hown, hts⟩ (c_X2_setUp_in l G cy ad σ τ (xs (v + (1 : Int32)).toNatClampNeg) (0 : Int32) c_17 rfl rfl) gL_law_X2_setUp rfl rfl rfl (by decide +kernel) ⟨Nat.le_of_ble_eq_true rfl, Nat.le_of_ble_eq_true rfl⟩ (va_recv hK hP (ci := 2) (q0 := 0) rfl sl_aL) rfl hl.1 rfl (Nat.le_of_ble_eq_true rfl) dL_law_346 ⟨Nat.le_refl _, Nat.le_refl _⟩ hK hN hD hP hS (fun H locs hP hS => ?_)
                          refine W.eq (g2 := F0 m 349 ls [.int ((sp_X2_setUp_in σ (xs (v + (1 : Int32)).toNatClampNeg) (0 : Int32)).1)]) rfl ?_
                          refine lv_aload_n hx hb dL_law_349 rfl (lv_at hl 3 rfl) ?_
                          refine lv_aload_n hx hb dL_law_350 rfl (lv_at hl 1 rfl) ?_
                          refine lv_iload_n hx hb dL_law_351 rfl (lv_at hl 0 rfl) ?_
                          refine lv_iconst (v := (1 : Int32)) hx hb dL_law_352 (by decide) ?_
                          refine lv_iadd hx hb dL_law_353 ?_
                          refine va_sld hx hb hX hbl hbA hS hv1 dL_law_354 ?_
                          refine lv_aload_n hx hb dL_law_355 rfl (lv_at hl 1 rfl) ?_
                          refine lv_iload_n hx hb dL_law_356 rfl (lv_at hl 0 rfl) ?_
                          refine lv_iconst (v := (2 : Int32)) hx hb dL_law_357 (by decide) ?_
                          refine lv_iadd hx hb dL_law_358 ?_
                          refine va_sld hx hb hX hbl hbA hS hv2 dL_law_359 ?_
                          refine lv_if_eq (tgt := 367) hx hb dL_law_360 (by decide) (fun _ => ?_) (fun h9 => absurd c_16 h9)
                          refine lv_iconst (v := (0 : Int32)) hx hb dL_law_367 (by decide) ?_
                          refine sl_cV (n := 2) (As := [.int (xs (v + (1 : Int32)).toNatClampNeg), .int (0 : Int32)]) (rest := [.int ((sp_X2_setUp_in σ (xs (v + (1 : Int32)).toNatClampNeg) (0 : Int32)).1)]) ⟨hx, hb, hml, hown, hts⟩ (c_X3_setUp_in l G cy ad ((sp_X2_setUp_in σ (xs (v + (1 : Int32)).toNatClampNeg) (0 : Int32)).2) τ (xs (v + (1 : Int32)).toNatClampNeg) (0 : Int32) c_17) gL_law_X3_setUp rfl rfl rfl (by decide +kernel) ⟨Nat.le_of_ble_eq_true rfl, Nat.le_of_ble_eq_true rfl⟩ (va_recv hK hP (ci := 3) (q0 := 18) rfl sl_aM) rfl hl.1 rfl (Nat.le_of_ble_eq_true rfl) dL_law_368 ⟨Nat.le_refl _, Nat.le_refl _⟩ hK hN hD hP hS (fun H locs hP hS => ?_)
                          refine W.eq (g2 := F0 m 371 ls [.int ((sp_X3_setUp_in τ (xs (v + (1 : Int32)).toNatClampNeg) (0 : Int32)).1), .int ((sp_X2_setUp_in σ (xs (v + (1 : Int32)).toNatClampNeg) (0 : Int32)).1)]) rfl ?_
                          refine lv_icmp_eq (tgt := 571) hx hb dL_law_371 (by decide) (fun _ => ?_) (fun h9 => absurd (sl_r_setUp (a := (0 : Int32)) hR c_17 (by decide)).1 h9)
                          exact K571 ((sp_X2_setUp_in σ (xs (v + (1 : Int32)).toNatClampNeg) (0 : Int32)).2) ((sp_X3_setUp_in τ (xs (v + (1 : Int32)).toNatClampNeg) (0 : Int32)).2) _ _ ls ((sl_r_setUp (a := (0 : Int32)) hR c_17 (by decide)).2) hP hS (lv_sub hl [0, 1, 2, 3] rfl)
                        · refine sl_cV (n := 2) (As := [.int (xs (v + (1 : Int32)).toNatClampNeg), .int (0 : Int32)]) (rest := []) ⟨hx, hb, hml, hown, hts⟩ (c_X2_setUp_out l G cy ad σ τ (xs (v + (1 : Int32)).toNatClampNeg) (0 : Int32) c_17) gL_law_X2_setUp rfl rfl rfl (by decide +kernel) ⟨Nat.le_of_ble_eq_true rfl, Nat.le_of_ble_eq_true rfl⟩ (va_recv hK hP (ci := 2) (q0 := 0) rfl sl_aL) rfl hl.1 rfl (Nat.le_of_ble_eq_true rfl) dL_law_346 ⟨Nat.le_refl _, Nat.le_refl _⟩ hK hN hD hP hS (fun H locs hP hS => ?_)
                          refine W.eq (g2 := F0 m 349 ls [.int (0 : Int32)]) rfl ?_
                          refine lv_aload_n hx hb dL_law_349 rfl (lv_at hl 3 rfl) ?_
                          refine lv_aload_n hx hb dL_law_350 rfl (lv_at hl 1 rfl) ?_
                          refine lv_iload_n hx hb dL_law_351 rfl (lv_at hl 0 rfl) ?_
                          refine lv_iconst (v := (1 : Int32)) hx hb dL_law_352 (by decide) ?_
                          refine lv_iadd hx hb dL_law_353 ?_
                          refine va_sld hx hb hX hbl hbA hS hv1 dL_law_354 ?_
                          refine lv_aload_n hx hb dL_law_355 rfl (lv_at hl 1 rfl) ?_
                          refine lv_iload_n hx hb dL_law_356 rfl (lv_at hl 0 rfl) ?_
                          refine lv_iconst (v := (2 : Int32)) hx hb dL_law_357 (by decide) ?_
                          refine lv_iadd hx hb dL_law_358 ?_
                          refine va_sld hx hb hX hbl hbA hS hv2 dL_law_359 ?_
                          refine lv_if_eq (tgt := 367) hx hb dL_law_360 (by decide) (fun _ => ?_) (fun h9 => absurd c_16 h9)
                          refine lv_iconst (v := (0 : Int32)) hx hb dL_law_367 (by decide) ?_
                          refine sl_cV (n := 2) (As := [.int (xs (v + (1 : Int32)).toNatClampNeg), .int (0 : Int32)]) (rest := [.int (0 : Int32)]) ⟨hx, hb, hml, hown, hts⟩ (c_X3_setUp_out l G cy ad σ τ (xs (v + (1 : Int32)).toNatClampNeg) (0 : Int32) c_17) gL_law_X3_setUp rfl rfl rfl (by decide +kernel) ⟨Nat.le_of_ble_eq_true rfl, Nat.le_of_ble_eq_true rfl⟩ (va_recv hK hP (ci := 3) (q0 := 18) rfl sl_aM) rfl hl.1 rfl (Nat.le_of_ble_eq_true rfl) dL_law_368 ⟨Nat.le_refl _, Nat.le_refl _⟩ hK hN hD hP hS (fun H locs hP hS => ?_)
                          refine W.eq (g2 := F0 m 371 ls [.int (0 : Int32), .int (0 : Int32)]) rfl ?_
                          refine lv_icmp_eq (tgt := 571) hx hb dL_law_371 (by decide) (fun _ => ?_) (fun h9 => absurd (by decide) h9)
                          exact K571 σ τ _ _ ls hR hP hS (lv_sub hl [0, 1, 2, 3] rfl)
                      · refine lv_iconst (v := (1 : Int32)) hx hb dL_law_341 (by decide) ?_
                        refine lv_goto (tgt := 346) hx hb dL_law_342 (by decide) ?_
                        by_cases c_18 : vp_in (xs (v + (1 : Int32)).toNatClampNeg) 6
                        · refine sl_cV (n := 2) (As := [.int (xs (v + (1 : Int32)).toNatClampNeg), .int (1 : Int32)]) (rest := []) ⟨hx, hb, hml, hown, hts⟩ (c_X2_setUp_in l G cy ad σ τ (xs (v + (1 : Int32)).toNatClampNeg) (1 : Int32) c_18 rfl rfl) gL_law_X2_setUp rfl rfl rfl (by decide +kernel) ⟨Nat.le_of_ble_eq_true rfl, Nat.le_of_ble_eq_true rfl⟩ (va_recv hK hP (ci := 2) (q0 := 0) rfl sl_aL) rfl hl.1 rfl (Nat.le_of_ble_eq_true rfl) dL_law_346 ⟨Nat.le_refl _, Nat.le_refl _⟩ hK hN hD hP hS (fun H locs hP hS => ?_)
                          refine W.eq (g2 := F0 m 349 ls [.int ((sp_X2_setUp_in σ (xs (v + (1 : Int32)).toNatClampNeg) (1 : Int32)).1)]) rfl ?_
                          refine lv_aload_n hx hb dL_law_349 rfl (lv_at hl 3 rfl) ?_
                          refine lv_aload_n hx hb dL_law_350 rfl (lv_at hl 1 rfl) ?_
                          refine lv_iload_n hx hb dL_law_351 rfl (lv_at hl 0 rfl) ?_
                          refine lv_iconst (v := (1 : Int32)) hx hb dL_law_352 (by decide) ?_
                          refine lv_iadd hx hb dL_law_353 ?_
                          refine va_sld hx hb hX hbl hbA hS hv1 dL_law_354 ?_
                          refine lv_aload_n hx hb dL_law_355 rfl (lv_at hl 1 rfl) ?_
                          refine lv_iload_n hx hb dL_law_356 rfl (lv_at hl 0 rfl) ?_
                          refine lv_iconst (v := (2 : Int32)) hx hb dL_law_357 (by decide) ?_
                          refine lv_iadd hx hb dL_law_358 ?_
                          refine va_sld hx hb hX hbl hbA hS hv2 dL_law_359 ?_
                          refine lv_if_eq (tgt := 367) hx hb dL_law_360 (by decide) (fun h9 => absurd h9 c_16) (fun _ => ?_)
                          refine lv_iconst (v := (1 : Int32)) hx hb dL_law_363 (by decide) ?_
                          refine lv_goto (tgt := 368) hx hb dL_law_364 (by decide) ?_
                          refine sl_cV (n := 2) (As := [.int (xs (v + (1 : Int32)).toNatClampNeg), .int (1 : Int32)]) (rest := [.int ((sp_X2_setUp_in σ (xs (v + (1 : Int32)).toNatClampNeg) (1 : Int32)).1)]) ⟨hx, hb, hml, hown, hts⟩ (c_X3_setUp_in l G cy ad ((sp_X2_setUp_in σ (xs (v + (1 : Int32)).toNatClampNeg) (1 : Int32)).2) τ (xs (v + (1 : Int32)).toNatClampNeg) (1 : Int32) c_18) gL_law_X3_setUp rfl rfl rfl (by decide +kernel) ⟨Nat.le_of_ble_eq_true rfl, Nat.le_of_ble_eq_true rfl⟩ (va_recv hK hP (ci := 3) (q0 := 18) rfl sl_aM) rfl hl.1 rfl (Nat.le_of_ble_eq_true rfl) dL_law_368 ⟨Nat.le_refl _, Nat.le_refl _⟩ hK hN hD hP hS (fun H locs hP hS => ?_)
                          refine W.eq (g2 := F0 m 371 ls [.int ((sp_X3_setUp_in τ (xs (v + (1 : Int32)).toNatClampNeg) (1 : Int32)).1), .int ((sp_X2_setUp_in σ (xs (v + (1 : Int32)).toNatClampNeg) (1 : Int32)).1)]) rfl ?_
                          refine lv_icmp_eq (tgt := 571) hx hb dL_law_371 (by decide) (fun _ => ?_) (fun h9 => absurd (sl_r_setUp (a := (1 : Int32)) hR c_18 (by decide)).1 h9)
                          exact K571 ((sp_X2_setUp_in σ (xs (v + (1 : Int32)).toNatClampNeg) (1 : Int32)).2) ((sp_X3_setUp_in τ (xs (v + (1 : Int32)).toNatClampNeg) (1 : Int32)).2) _ _ ls ((sl_r_setUp (a := (1 : Int32)) hR c_18 (by decide)).2) hP hS (lv_sub hl [0, 1, 2, 3] rfl)
                        · refine sl_cV (n := 2) (As := [.int (xs (v + (1 : Int32)).toNatClampNeg), .int (1 : Int32)]) (rest := []) ⟨hx, hb, hml, hown, hts⟩ (c_X2_setUp_out l G cy ad σ τ (xs (v + (1 : Int32)).toNatClampNeg) (1 : Int32) c_18) gL_law_X2_setUp rfl rfl rfl (by decide +kernel) ⟨Nat.le_of_ble_eq_true rfl, Nat.le_of_ble_eq_true rfl⟩ (va_recv hK hP (ci := 2) (q0 := 0) rfl sl_aL) rfl hl.1 rfl (Nat.le_of_ble_eq_true rfl) dL_law_346 ⟨Nat.le_refl _, Nat.le_refl _⟩ hK hN hD hP hS (fun H locs hP hS => ?_)
                          refine W.eq (g2 := F0 m 349 ls [.int (0 : Int32)]) rfl ?_
                          refine lv_aload_n hx hb dL_law_349 rfl (lv_at hl 3 rfl) ?_
                          refine lv_aload_n hx hb dL_law_350 rfl (lv_at hl 1 rfl) ?_
                          refine lv_iload_n hx hb dL_law_351 rfl (lv_at hl 0 rfl) ?_
                          refine lv_iconst (v := (1 : Int32)) hx hb dL_law_352 (by decide) ?_
                          refine lv_iadd hx hb dL_law_353 ?_
                          refine va_sld hx hb hX hbl hbA hS hv1 dL_law_354 ?_
                          refine lv_aload_n hx hb dL_law_355 rfl (lv_at hl 1 rfl) ?_
                          refine lv_iload_n hx hb dL_law_356 rfl (lv_at hl 0 rfl) ?_
                          refine lv_iconst (v := (2 : Int32)) hx hb dL_law_357 (by decide) ?_
                          refine lv_iadd hx hb dL_law_358 ?_
                          refine va_sld hx hb hX hbl hbA hS hv2 dL_law_359 ?_
                          refine lv_if_eq (tgt := 367) hx hb dL_law_360 (by decide) (fun h9 => absurd h9 c_16) (fun _ => ?_)
                          refine lv_iconst (v := (1 : Int32)) hx hb dL_law_363 (by decide) ?_
                          refine lv_goto (tgt := 368) hx hb dL_law_364 (by decide) ?_
                          refine sl_cV (n := 2) (As := [.int (xs (v + (1 : Int32)).toNatClampNeg), .int (1 : Int32)]) (rest := [.int (0 : Int32)]) ⟨hx, hb, hml, hown, hts⟩ (c_X3_setUp_out l G cy ad σ τ (xs (v + (1 : Int32)).toNatClampNeg) (1 : Int32) c_18) gL_law_X3_setUp rfl rfl rfl (by decide +kernel) ⟨Nat.le_of_ble_eq_true rfl, Nat.le_of_ble_eq_true rfl⟩ (va_recv hK hP (ci := 3) (q0 := 18) rfl sl_aM) rfl hl.1 rfl (Nat.le_of_ble_eq_true rfl) dL_law_368 ⟨Nat.le_refl _, Nat.le_refl _⟩ hK hN hD hP hS (fun H locs hP hS => ?_)
                          refine W.eq (g2 := F0 m 371 ls [.int (0 : Int32), .int (0 : Int32)]) rfl ?_
                          refine lv_icmp_eq (tgt := 571) hx hb dL_law_371 (by decide) (fun _ => ?_) (fun h9 => absurd (by decide) h9)
                          exact K571 σ τ _ _ ls hR hP hS (lv_sub hl [0, 1, 2, 3] rfl)
                    · by_cases c_19 : ((xs v.toNatClampNeg) &&& (31 : Int32)) = (8 : Int32)
                      · refine lv_tableIn (off := 344) (tgt := 376) hx hb dL_law_32 (by rw [c_19]; decide) (by rw [c_19]; decide) (by rw [c_19]; decide) (by decide) ?_
                        refine lv_aload_n hx hb dL_law_376 rfl (lv_at hl 2 rfl) ?_
                        refine sl_cV (n := 0) (As := []) (rest := []) ⟨hx, hb, hml, hown, hts⟩ (c_X2_loseSequencer l G cy ad σ τ) gL_law_X2_loseSequencer rfl rfl rfl (by decide +kernel) ⟨Nat.le_of_ble_eq_true rfl, Nat.le_of_ble_eq_true rfl⟩ (va_recv hK hP (ci := 2) (q0 := 0) rfl sl_aL) rfl hl.1 rfl (Nat.le_of_ble_eq_true rfl) dL_law_377 ⟨Nat.le_refl _, Nat.le_refl _⟩ hK hN hD hP hS (fun H locs hP hS => ?_)
                        refine W.eq (g2 := F0 m 380 ls []) rfl ?_
                        refine lv_aload_n hx hb dL_law_380 rfl (lv_at hl 3 rfl) ?_
                        refine sl_cV (n := 0) (As := []) (rest := []) ⟨hx, hb, hml, hown, hts⟩ (c_X3_loseSequencer l G cy ad (sp_X2_loseSequencer σ) τ) gL_law_X3_loseSequencer rfl rfl rfl (by decide +kernel) ⟨Nat.le_of_ble_eq_true rfl, Nat.le_of_ble_eq_true rfl⟩ (va_recv hK hP (ci := 3) (q0 := 18) rfl sl_aM) rfl hl.1 rfl (Nat.le_of_ble_eq_true rfl) dL_law_381 ⟨Nat.le_refl _, Nat.le_refl _⟩ hK hN hD hP hS (fun H locs hP hS => ?_)
                        refine W.eq (g2 := F0 m 384 ls []) rfl ?_
                        refine lv_goto (tgt := 571) hx hb dL_law_384 (by decide) ?_
                        exact K571 (sp_X2_loseSequencer σ) (sp_X3_loseSequencer τ) _ _ ls (sl_r_lose hR) hP hS (lv_sub hl [0, 1, 2, 3] rfl)
                      · by_cases c_20 : ((xs v.toNatClampNeg) &&& (31 : Int32)) = (9 : Int32)
                        · refine lv_tableIn (off := 355) (tgt := 387) hx hb dL_law_32 (by rw [c_20]; decide) (by rw [c_20]; decide) (by rw [c_20]; decide) (by decide) ?_
                          refine lv_aload_n hx hb dL_law_387 rfl (lv_at hl 2 rfl) ?_
                          refine lv_aload_n hx hb dL_law_388 rfl (lv_at hl 1 rfl) ?_
                          refine lv_iload_n hx hb dL_law_389 rfl (lv_at hl 0 rfl) ?_
                          refine lv_iconst (v := (1 : Int32)) hx hb dL_law_390 (by decide) ?_
                          refine lv_iadd hx hb dL_law_391 ?_
                          refine va_sld hx hb hX hbl hbA hS hv1 dL_law_392 ?_
                          by_cases c_21 : vp_in (xs (v + (1 : Int32)).toNatClampNeg) 3
                          · refine sl_cV (n := 1) (As := [.int (xs (v + (1 : Int32)).toNatClampNeg)]) (rest := []) ⟨hx, hb, hml, hown, hts⟩ (c_X2_busy_in l G cy ad σ τ (xs (v + (1 : Int32)).toNatClampNeg) c_21) gL_law_X2_busy rfl rfl rfl (by decide +kernel) ⟨Nat.le_of_ble_eq_true rfl, Nat.le_of_ble_eq_true rfl⟩ (va_recv hK hP (ci := 2) (q0 := 0) rfl sl_aL) rfl hl.1 rfl (Nat.le_of_ble_eq_true rfl) dL_law_393 ⟨Nat.le_refl _, Nat.le_refl _⟩ hK hN hD hP hS (fun H locs hP hS => ?_)
                            refine W.eq (g2 := F0 m 396 ls [.int (sp_X2_busy_in σ (xs (v + (1 : Int32)).toNatClampNeg))]) rfl ?_
                            refine lv_aload_n hx hb dL_law_396 rfl (lv_at hl 3 rfl) ?_
                            refine lv_aload_n hx hb dL_law_397 rfl (lv_at hl 1 rfl) ?_
                            refine lv_iload_n hx hb dL_law_398 rfl (lv_at hl 0 rfl) ?_
                            refine lv_iconst (v := (1 : Int32)) hx hb dL_law_399 (by decide) ?_
                            refine lv_iadd hx hb dL_law_400 ?_
                            refine va_sld hx hb hX hbl hbA hS hv1 dL_law_401 ?_
                            refine sl_cV (n := 1) (As := [.int (xs (v + (1 : Int32)).toNatClampNeg)]) (rest := [.int (sp_X2_busy_in σ (xs (v + (1 : Int32)).toNatClampNeg))]) ⟨hx, hb, hml, hown, hts⟩ (c_X3_busy_in l G cy ad σ τ (xs (v + (1 : Int32)).toNatClampNeg) c_21) gL_law_X3_busy rfl rfl rfl (by decide +kernel) ⟨Nat.le_of_ble_eq_true rfl, Nat.le_of_ble_eq_true rfl⟩ (va_recv hK hP (ci := 3) (q0 := 18) rfl sl_aM) rfl hl.1 rfl (Nat.le_of_ble_eq_true rfl) dL_law_402 ⟨Nat.le_refl _, Nat.le_refl _⟩ hK hN hD hP hS (fun H locs hP hS => ?_)
                            refine W.eq (g2 := F0 m 405 ls [.int (sp_X3_busy_in τ (xs (v + (1 : Int32)).toNatClampNeg)), .int (sp_X2_busy_in σ (xs (v + (1 : Int32)).toNatClampNeg))]) rfl ?_
                            refine lv_icmp_eq (tgt := 571) hx hb dL_law_405 (by decide) (fun _ => ?_) (fun h9 => absurd (sl_r_busy hR c_21) h9)
                            exact K571 σ τ _ _ ls hR hP hS (lv_sub hl [0, 1, 2, 3] rfl)
                          · refine sl_cV (n := 1) (As := [.int (xs (v + (1 : Int32)).toNatClampNeg)]) (rest := []) ⟨hx, hb, hml, hown, hts⟩ (c_X2_busy_out l G cy ad σ τ (xs (v + (1 : Int32)).toNatClampNeg) c_21) gL_law_X2_busy rfl rfl rfl (by decide +kernel) ⟨Nat.le_of_ble_eq_true rfl, Nat.le_of_ble_eq_true rfl⟩ (va_recv hK hP (ci := 2) (q0 := 0) rfl sl_aL) rfl hl.1 rfl (Nat.le_of_ble_eq_true rfl) dL_law_393 ⟨Nat.le_refl _, Nat.le_refl _⟩ hK hN hD hP hS (fun H locs hP hS => ?_)
                            refine W.eq (g2 := F0 m 396 ls [.int (-9 : Int32)]) rfl ?_
                            refine lv_aload_n hx hb dL_law_396 rfl (lv_at hl 3 rfl) ?_
                            refine lv_aload_n hx hb dL_law_397 rfl (lv_at hl 1 rfl) ?_
                            refine lv_iload_n hx hb dL_law_398 rfl (lv_at hl 0 rfl) ?_
                            refine lv_iconst (v := (1 : Int32)) hx hb dL_law_399 (by decide) ?_
                            refine lv_iadd hx hb dL_law_400 ?_
                            refine va_sld hx hb hX hbl hbA hS hv1 dL_law_401 ?_
                            refine sl_cV (n := 1) (As := [.int (xs (v + (1 : Int32)).toNatClampNeg)]) (rest := [.int (-9 : Int32)]) ⟨hx, hb, hml, hown, hts⟩ (c_X3_busy_out l G cy ad σ τ (xs (v + (1 : Int32)).toNatClampNeg) c_21) gL_law_X3_busy rfl rfl rfl (by decide +kernel) ⟨Nat.le_of_ble_eq_true rfl, Nat.le_of_ble_eq_true rfl⟩ (va_recv hK hP (ci := 3) (q0 := 18) rfl sl_aM) rfl hl.1 rfl (Nat.le_of_ble_eq_true rfl) dL_law_402 ⟨Nat.le_refl _, Nat.le_refl _⟩ hK hN hD hP hS (fun H locs hP hS => ?_)
                            refine W.eq (g2 := F0 m 405 ls [.int (-9 : Int32), .int (-9 : Int32)]) rfl ?_
                            refine lv_icmp_eq (tgt := 571) hx hb dL_law_405 (by decide) (fun _ => ?_) (fun h9 => absurd (by decide) h9)
                            exact K571 σ τ _ _ ls hR hP hS (lv_sub hl [0, 1, 2, 3] rfl)
                        · by_cases c_22 : ((xs v.toNatClampNeg) &&& (31 : Int32)) = (10 : Int32)
                          · refine lv_tableIn (off := 378) (tgt := 410) hx hb dL_law_32 (by rw [c_22]; decide) (by rw [c_22]; decide) (by rw [c_22]; decide) (by decide) ?_
                            refine lv_aload_n hx hb dL_law_410 rfl (lv_at hl 2 rfl) ?_
                            refine lv_aload_n hx hb dL_law_411 rfl (lv_at hl 1 rfl) ?_
                            refine lv_iload_n hx hb dL_law_412 rfl (lv_at hl 0 rfl) ?_
                            refine lv_iconst (v := (1 : Int32)) hx hb dL_law_413 (by decide) ?_
                            refine lv_iadd hx hb dL_law_414 ?_
                            refine va_sld hx hb hX hbl hbA hS hv1 dL_law_415 ?_
                            by_cases c_23 : vp_in (xs (v + (1 : Int32)).toNatClampNeg) 3
                            · refine sl_cV (n := 1) (As := [.int (xs (v + (1 : Int32)).toNatClampNeg)]) (rest := []) ⟨hx, hb, hml, hown, hts⟩ (c_X2_outcome_in l G cy ad σ τ (xs (v + (1 : Int32)).toNatClampNeg) c_23) gL_law_X2_outcome rfl rfl rfl (by decide +kernel) ⟨Nat.le_of_ble_eq_true rfl, Nat.le_of_ble_eq_true rfl⟩ (va_recv hK hP (ci := 2) (q0 := 0) rfl sl_aL) rfl hl.1 rfl (Nat.le_of_ble_eq_true rfl) dL_law_416 ⟨Nat.le_refl _, Nat.le_refl _⟩ hK hN hD hP hS (fun H locs hP hS => ?_)
                              refine W.eq (g2 := F0 m 419 ls [.int (sp_X2_outcome_in σ (xs (v + (1 : Int32)).toNatClampNeg))]) rfl ?_
                              refine lv_aload_n hx hb dL_law_419 rfl (lv_at hl 3 rfl) ?_
                              refine lv_aload_n hx hb dL_law_420 rfl (lv_at hl 1 rfl) ?_
                              refine lv_iload_n hx hb dL_law_421 rfl (lv_at hl 0 rfl) ?_
                              refine lv_iconst (v := (1 : Int32)) hx hb dL_law_422 (by decide) ?_
                              refine lv_iadd hx hb dL_law_423 ?_
                              refine va_sld hx hb hX hbl hbA hS hv1 dL_law_424 ?_
                              refine sl_cV (n := 1) (As := [.int (xs (v + (1 : Int32)).toNatClampNeg)]) (rest := [.int (sp_X2_outcome_in σ (xs (v + (1 : Int32)).toNatClampNeg))]) ⟨hx, hb, hml, hown, hts⟩ (c_X3_outcome_in l G cy ad σ τ (xs (v + (1 : Int32)).toNatClampNeg) c_23) gL_law_X3_outcome rfl rfl rfl (by decide +kernel) ⟨Nat.le_of_ble_eq_true rfl, Nat.le_of_ble_eq_true rfl⟩ (va_recv hK hP (ci := 3) (q0 := 18) rfl sl_aM) rfl hl.1 rfl (Nat.le_of_ble_eq_true rfl) dL_law_425 ⟨Nat.le_refl _, Nat.le_refl _⟩ hK hN hD hP hS (fun H locs hP hS => ?_)
                              refine W.eq (g2 := F0 m 428 ls [.int (sp_X3_outcome_in τ (xs (v + (1 : Int32)).toNatClampNeg)), .int (sp_X2_outcome_in σ (xs (v + (1 : Int32)).toNatClampNeg))]) rfl ?_
                              refine lv_icmp_eq (tgt := 571) hx hb dL_law_428 (by decide) (fun _ => ?_) (fun h9 => absurd (sl_r_outcome hR c_23) h9)
                              exact K571 σ τ _ _ ls hR hP hS (lv_sub hl [0, 1, 2, 3] rfl)
                            · refine sl_cV (n := 1) (As := [.int (xs (v + (1 : Int32)).toNatClampNeg)]) (rest := []) ⟨hx, hb, hml, hown, hts⟩ (c_X2_outcome_out l G cy ad σ τ (xs (v + (1 : Int32)).toNatClampNeg) c_23) gL_law_X2_outcome rfl rfl rfl (by decide +kernel) ⟨Nat.le_of_ble_eq_true rfl, Nat.le_of_ble_eq_true rfl⟩ (va_recv hK hP (ci := 2) (q0 := 0) rfl sl_aL) rfl hl.1 rfl (Nat.le_of_ble_eq_true rfl) dL_law_416 ⟨Nat.le_refl _, Nat.le_refl _⟩ hK hN hD hP hS (fun H locs hP hS => ?_)
                              refine W.eq (g2 := F0 m 419 ls [.int (-9 : Int32)]) rfl ?_
                              refine lv_aload_n hx hb dL_law_419 rfl (lv_at hl 3 rfl) ?_
                              refine lv_aload_n hx hb dL_law_420 rfl (lv_at hl 1 rfl) ?_
                              refine lv_iload_n hx hb dL_law_421 rfl (lv_at hl 0 rfl) ?_
                              refine lv_iconst (v := (1 : Int32)) hx hb dL_law_422 (by decide) ?_
                              refine lv_iadd hx hb dL_law_423 ?_
                              refine va_sld hx hb hX hbl hbA hS hv1 dL_law_424 ?_
                              refine sl_cV (n := 1) (As := [.int (xs (v + (1 : Int32)).toNatClampNeg)]) (rest := [.int (-9 : Int32)]) ⟨hx, hb, hml, hown, hts⟩ (c_X3_outcome_out l G cy ad σ τ (xs (v + (1 : Int32)).toNatClampNeg) c_23) gL_law_X3_outcome rfl rfl rfl (by decide +kernel) ⟨Nat.le_of_ble_eq_true rfl, Nat.le_of_ble_eq_true rfl⟩ (va_recv hK hP (ci := 3) (q0 := 18) rfl sl_aM) rfl hl.1 rfl (Nat.le_of_ble_eq_true rfl) dL_law_425 ⟨Nat.le_refl _, Nat.le_refl _⟩ hK hN hD hP hS (fun H locs hP hS => ?_)
                              refine W.eq (g2 := F0 m 428 ls [.int (-9 : Int32), .int (-9 : Int32)]) rfl ?_
                              refine lv_icmp_eq (tgt := 571) hx hb dL_law_428 (by decide) (fun _ => ?_) (fun h9 => absurd (by decide) h9)
                              exact K571 σ τ _ _ ls hR hP hS (lv_sub hl [0, 1, 2, 3] rfl)
                          · by_cases c_24 : ((xs v.toNatClampNeg) &&& (31 : Int32)) = (11 : Int32)
                            · refine lv_tableIn (off := 401) (tgt := 433) hx hb dL_law_32 (by rw [c_24]; decide) (by rw [c_24]; decide) (by rw [c_24]; decide) (by decide) ?_
                              refine lv_aload_n hx hb dL_law_433 rfl (lv_at hl 2 rfl) ?_
                              refine lv_aload_n hx hb dL_law_434 rfl (lv_at hl 1 rfl) ?_
                              refine lv_iload_n hx hb dL_law_435 rfl (lv_at hl 0 rfl) ?_
                              refine lv_iconst (v := (1 : Int32)) hx hb dL_law_436 (by decide) ?_
                              refine lv_iadd hx hb dL_law_437 ?_
                              refine va_sld hx hb hX hbl hbA hS hv1 dL_law_438 ?_
                              by_cases c_25 : vp_in (xs (v + (1 : Int32)).toNatClampNeg) 3
                              · refine sl_cV (n := 1) (As := [.int (xs (v + (1 : Int32)).toNatClampNeg)]) (rest := []) ⟨hx, hb, hml, hown, hts⟩ (c_X2_number_in l G cy ad σ τ (xs (v + (1 : Int32)).toNatClampNeg) c_25) gL_law_X2_number rfl rfl rfl (by decide +kernel) ⟨Nat.le_of_ble_eq_true rfl, Nat.le_of_ble_eq_true rfl⟩ (va_recv hK hP (ci := 2) (q0 := 0) rfl sl_aL) rfl hl.1 rfl (Nat.le_of_ble_eq_true rfl) dL_law_439 ⟨Nat.le_refl _, Nat.le_refl _⟩ hK hN hD hP hS (fun H locs hP hS => ?_)
                                refine W.eq (g2 := F0 m 442 ls [.int (sp_X2_number_in σ (xs (v + (1 : Int32)).toNatClampNeg))]) rfl ?_
                                refine lv_aload_n hx hb dL_law_442 rfl (lv_at hl 3 rfl) ?_
                                refine lv_aload_n hx hb dL_law_443 rfl (lv_at hl 1 rfl) ?_
                                refine lv_iload_n hx hb dL_law_444 rfl (lv_at hl 0 rfl) ?_
                                refine lv_iconst (v := (1 : Int32)) hx hb dL_law_445 (by decide) ?_
                                refine lv_iadd hx hb dL_law_446 ?_
                                refine va_sld hx hb hX hbl hbA hS hv1 dL_law_447 ?_
                                refine sl_cV (n := 1) (As := [.int (xs (v + (1 : Int32)).toNatClampNeg)]) (rest := [.int (sp_X2_number_in σ (xs (v + (1 : Int32)).toNatClampNeg))]) ⟨hx, hb, hml, hown, hts⟩ (c_X3_number_in l G cy ad σ τ (xs (v + (1 : Int32)).toNatClampNeg) c_25) gL_law_X3_number rfl rfl rfl (by decide +kernel) ⟨Nat.le_of_ble_eq_true rfl, Nat.le_of_ble_eq_true rfl⟩ (va_recv hK hP (ci := 3) (q0 := 18) rfl sl_aM) rfl hl.1 rfl (Nat.le_of_ble_eq_true rfl) dL_law_448 ⟨Nat.le_refl _, Nat.le_refl _⟩ hK hN hD hP hS (fun H locs hP hS => ?_)
                                refine W.eq (g2 := F0 m 451 ls [.int (sp_X3_number_in τ (xs (v + (1 : Int32)).toNatClampNeg)), .int (sp_X2_number_in σ (xs (v + (1 : Int32)).toNatClampNeg))]) rfl ?_
                                refine lv_icmp_eq (tgt := 571) hx hb dL_law_451 (by decide) (fun _ => ?_) (fun h9 => absurd (sl_r_number hR c_25) h9)
                                exact K571 σ τ _ _ ls hR hP hS (lv_sub hl [0, 1, 2, 3] rfl)
                              · refine sl_cV (n := 1) (As := [.int (xs (v + (1 : Int32)).toNatClampNeg)]) (rest := []) ⟨hx, hb, hml, hown, hts⟩ (c_X2_number_out l G cy ad σ τ (xs (v + (1 : Int32)).toNatClampNeg) c_25) gL_law_X2_number rfl rfl rfl (by decide +kernel) ⟨Nat.le_of_ble_eq_true rfl, Nat.le_of_ble_eq_true rfl⟩ (va_recv hK hP (ci := 2) (q0 := 0) rfl sl_aL) rfl hl.1 rfl (Nat.le_of_ble_eq_true rfl) dL_law_439 ⟨Nat.le_refl _, Nat.le_refl _⟩ hK hN hD hP hS (fun H locs hP hS => ?_)
                                refine W.eq (g2 := F0 m 442 ls [.int (-9 : Int32)]) rfl ?_
                                refine lv_aload_n hx hb dL_law_442 rfl (lv_at hl 3 rfl) ?_
                                refine lv_aload_n hx hb dL_law_443 rfl (lv_at hl 1 rfl) ?_
                                refine lv_iload_n hx hb dL_law_444 rfl (lv_at hl 0 rfl) ?_
                                refine lv_iconst (v := (1 : Int32)) hx hb dL_law_445 (by decide) ?_
                                refine lv_iadd hx hb dL_law_446 ?_
                                refine va_sld hx hb hX hbl hbA hS hv1 dL_law_447 ?_
                                refine sl_cV (n := 1) (As := [.int (xs (v + (1 : Int32)).toNatClampNeg)]) (rest := [.int (-9 : Int32)]) ⟨hx, hb, hml, hown, hts⟩ (c_X3_number_out l G cy ad σ τ (xs (v + (1 : Int32)).toNatClampNeg) c_25) gL_law_X3_number rfl rfl rfl (by decide +kernel) ⟨Nat.le_of_ble_eq_true rfl, Nat.le_of_ble_eq_true rfl⟩ (va_recv hK hP (ci := 3) (q0 := 18) rfl sl_aM) rfl hl.1 rfl (Nat.le_of_ble_eq_true rfl) dL_law_448 ⟨Nat.le_refl _, Nat.le_refl _⟩ hK hN hD hP hS (fun H locs hP hS => ?_)
                                refine W.eq (g2 := F0 m 451 ls [.int (-9 : Int32), .int (-9 : Int32)]) rfl ?_
                                refine lv_icmp_eq (tgt := 571) hx hb dL_law_451 (by decide) (fun _ => ?_) (fun h9 => absurd (by decide) h9)
                                exact K571 σ τ _ _ ls hR hP hS (lv_sub hl [0, 1, 2, 3] rfl)
                            · by_cases c_26 : ((xs v.toNatClampNeg) &&& (31 : Int32)) = (12 : Int32)
                              · refine lv_tableIn (off := 424) (tgt := 456) hx hb dL_law_32 (by rw [c_26]; decide) (by rw [c_26]; decide) (by rw [c_26]; decide) (by decide) ?_
                                refine lv_aload_n hx hb dL_law_456 rfl (lv_at hl 2 rfl) ?_
                                refine lv_aload_n hx hb dL_law_457 rfl (lv_at hl 1 rfl) ?_
                                refine lv_iload_n hx hb dL_law_458 rfl (lv_at hl 0 rfl) ?_
                                refine lv_iconst (v := (1 : Int32)) hx hb dL_law_459 (by decide) ?_
                                refine lv_iadd hx hb dL_law_460 ?_
                                refine va_sld hx hb hX hbl hbA hS hv1 dL_law_461 ?_
                                by_cases c_27 : vp_in (xs (v + (1 : Int32)).toNatClampNeg) 3
                                · refine sl_cV (n := 1) (As := [.int (xs (v + (1 : Int32)).toNatClampNeg)]) (rest := []) ⟨hx, hb, hml, hown, hts⟩ (c_X2_epochOf_in l G cy ad σ τ (xs (v + (1 : Int32)).toNatClampNeg) c_27) gL_law_X2_epochOf rfl rfl rfl (by decide +kernel) ⟨Nat.le_of_ble_eq_true rfl, Nat.le_of_ble_eq_true rfl⟩ (va_recv hK hP (ci := 2) (q0 := 0) rfl sl_aL) rfl hl.1 rfl (Nat.le_of_ble_eq_true rfl) dL_law_462 ⟨Nat.le_refl _, Nat.le_refl _⟩ hK hN hD hP hS (fun H locs hP hS => ?_)
                                  refine W.eq (g2 := F0 m 465 ls [.int (sp_X2_epochOf_in σ (xs (v + (1 : Int32)).toNatClampNeg))]) rfl ?_
                                  refine lv_aload_n hx hb dL_law_465 rfl (lv_at hl 3 rfl) ?_
                                  refine lv_aload_n hx hb dL_law_466 rfl (lv_at hl 1 rfl) ?_
                                  refine lv_iload_n hx hb dL_law_467 rfl (lv_at hl 0 rfl) ?_
                                  refine lv_iconst (v := (1 : Int32)) hx hb dL_law_468 (by decide) ?_
                                  refine lv_iadd hx hb dL_law_469 ?_
                                  refine va_sld hx hb hX hbl hbA hS hv1 dL_law_470 ?_
                                  refine sl_cV (n := 1) (As := [.int (xs (v + (1 : Int32)).toNatClampNeg)]) (rest := [.int (sp_X2_epochOf_in σ (xs (v + (1 : Int32)).toNatClampNeg))]) ⟨hx, hb, hml, hown, hts⟩ (c_X3_epochOf_in l G cy ad σ τ (xs (v + (1 : Int32)).toNatClampNeg) c_27) gL_law_X3_epochOf rfl rfl rfl (by decide +kernel) ⟨Nat.le_of_ble_eq_true rfl, Nat.le_of_ble_eq_true rfl⟩ (va_recv hK hP (ci := 3) (q0 := 18) rfl sl_aM) rfl hl.1 rfl (Nat.le_of_ble_eq_true rfl) dL_law_471 ⟨Nat.le_refl _, Nat.le_refl _⟩ hK hN hD hP hS (fun H locs hP hS => ?_)
                                  refine W.eq (g2 := F0 m 474 ls [.int (sp_X3_epochOf_in τ (xs (v + (1 : Int32)).toNatClampNeg)), .int (sp_X2_epochOf_in σ (xs (v + (1 : Int32)).toNatClampNeg))]) rfl ?_
                                  refine lv_icmp_eq (tgt := 571) hx hb dL_law_474 (by decide) (fun _ => ?_) (fun h9 => absurd (sl_r_epochOf hR c_27) h9)
                                  exact K571 σ τ _ _ ls hR hP hS (lv_sub hl [0, 1, 2, 3] rfl)
                                · refine sl_cV (n := 1) (As := [.int (xs (v + (1 : Int32)).toNatClampNeg)]) (rest := []) ⟨hx, hb, hml, hown, hts⟩ (c_X2_epochOf_out l G cy ad σ τ (xs (v + (1 : Int32)).toNatClampNeg) c_27) gL_law_X2_epochOf rfl rfl rfl (by decide +kernel) ⟨Nat.le_of_ble_eq_true rfl, Nat.le_of_ble_eq_true rfl⟩ (va_recv hK hP (ci := 2) (q0 := 0) rfl sl_aL) rfl hl.1 rfl (Nat.le_of_ble_eq_true rfl) dL_law_462 ⟨Nat.le_refl _, Nat.le_refl _⟩ hK hN hD hP hS (fun H locs hP hS => ?_)
                                  refine W.eq (g2 := F0 m 465 ls [.int (-9 : Int32)]) rfl ?_
                                  refine lv_aload_n hx hb dL_law_465 rfl (lv_at hl 3 rfl) ?_
                                  refine lv_aload_n hx hb dL_law_466 rfl (lv_at hl 1 rfl) ?_
                                  refine lv_iload_n hx hb dL_law_467 rfl (lv_at hl 0 rfl) ?_
                                  refine lv_iconst (v := (1 : Int32)) hx hb dL_law_468 (by decide) ?_
                                  refine lv_iadd hx hb dL_law_469 ?_
                                  refine va_sld hx hb hX hbl hbA hS hv1 dL_law_470 ?_
                                  refine sl_cV (n := 1) (As := [.int (xs (v + (1 : Int32)).toNatClampNeg)]) (rest := [.int (-9 : Int32)]) ⟨hx, hb, hml, hown, hts⟩ (c_X3_epochOf_out l G cy ad σ τ (xs (v + (1 : Int32)).toNatClampNeg) c_27) gL_law_X3_epochOf rfl rfl rfl (by decide +kernel) ⟨Nat.le_of_ble_eq_true rfl, Nat.le_of_ble_eq_true rfl⟩ (va_recv hK hP (ci := 3) (q0 := 18) rfl sl_aM) rfl hl.1 rfl (Nat.le_of_ble_eq_true rfl) dL_law_471 ⟨Nat.le_refl _, Nat.le_refl _⟩ hK hN hD hP hS (fun H locs hP hS => ?_)
                                  refine W.eq (g2 := F0 m 474 ls [.int (-9 : Int32), .int (-9 : Int32)]) rfl ?_
                                  refine lv_icmp_eq (tgt := 571) hx hb dL_law_474 (by decide) (fun _ => ?_) (fun h9 => absurd (by decide) h9)
                                  exact K571 σ τ _ _ ls hR hP hS (lv_sub hl [0, 1, 2, 3] rfl)
                              · by_cases c_28 : ((xs v.toNatClampNeg) &&& (31 : Int32)) = (13 : Int32)
                                · refine lv_tableIn (off := 447) (tgt := 479) hx hb dL_law_32 (by rw [c_28]; decide) (by rw [c_28]; decide) (by rw [c_28]; decide) (by decide) ?_
                                  refine lv_aload_n hx hb dL_law_479 rfl (lv_at hl 2 rfl) ?_
                                  refine lv_aload_n hx hb dL_law_480 rfl (lv_at hl 1 rfl) ?_
                                  refine lv_iload_n hx hb dL_law_481 rfl (lv_at hl 0 rfl) ?_
                                  refine lv_iconst (v := (1 : Int32)) hx hb dL_law_482 (by decide) ?_
                                  refine lv_iadd hx hb dL_law_483 ?_
                                  refine va_sld hx hb hX hbl hbA hS hv1 dL_law_484 ?_
                                  by_cases c_29 : vp_in (xs (v + (1 : Int32)).toNatClampNeg) 3
                                  · refine sl_cV (n := 1) (As := [.int (xs (v + (1 : Int32)).toNatClampNeg)]) (rest := []) ⟨hx, hb, hml, hown, hts⟩ (c_X2_membersOf_in l G cy ad σ τ (xs (v + (1 : Int32)).toNatClampNeg) c_29) gL_law_X2_membersOf rfl rfl rfl (by decide +kernel) ⟨Nat.le_of_ble_eq_true rfl, Nat.le_of_ble_eq_true rfl⟩ (va_recv hK hP (ci := 2) (q0 := 0) rfl sl_aL) rfl hl.1 rfl (Nat.le_of_ble_eq_true rfl) dL_law_485 ⟨Nat.le_refl _, Nat.le_refl _⟩ hK hN hD hP hS (fun H locs hP hS => ?_)
                                    refine W.eq (g2 := F0 m 488 ls [.int (sp_X2_membersOf_in σ (xs (v + (1 : Int32)).toNatClampNeg))]) rfl ?_
                                    refine lv_aload_n hx hb dL_law_488 rfl (lv_at hl 3 rfl) ?_
                                    refine lv_aload_n hx hb dL_law_489 rfl (lv_at hl 1 rfl) ?_
                                    refine lv_iload_n hx hb dL_law_490 rfl (lv_at hl 0 rfl) ?_
                                    refine lv_iconst (v := (1 : Int32)) hx hb dL_law_491 (by decide) ?_
                                    refine lv_iadd hx hb dL_law_492 ?_
                                    refine va_sld hx hb hX hbl hbA hS hv1 dL_law_493 ?_
                                    refine sl_cV (n := 1) (As := [.int (xs (v + (1 : Int32)).toNatClampNeg)]) (rest := [.int (sp_X2_membersOf_in σ (xs (v + (1 : Int32)).toNatClampNeg))]) ⟨hx, hb, hml, hown, hts⟩ (c_X3_membersOf_in l G cy ad σ τ (xs (v + (1 : Int32)).toNatClampNeg) c_29) gL_law_X3_membersOf rfl rfl rfl (by decide +kernel) ⟨Nat.le_of_ble_eq_true rfl, Nat.le_of_ble_eq_true rfl⟩ (va_recv hK hP (ci := 3) (q0 := 18) rfl sl_aM) rfl hl.1 rfl (Nat.le_of_ble_eq_true rfl) dL_law_494 ⟨Nat.le_refl _, Nat.le_refl _⟩ hK hN hD hP hS (fun H locs hP hS => ?_)
                                    refine W.eq (g2 := F0 m 497 ls [.int (sp_X3_membersOf_in τ (xs (v + (1 : Int32)).toNatClampNeg)), .int (sp_X2_membersOf_in σ (xs (v + (1 : Int32)).toNatClampNeg))]) rfl ?_
                                    refine lv_icmp_eq (tgt := 571) hx hb dL_law_497 (by decide) (fun _ => ?_) (fun h9 => absurd (sl_r_membersOf hR c_29) h9)
                                    exact K571 σ τ _ _ ls hR hP hS (lv_sub hl [0, 1, 2, 3] rfl)
                                  · refine sl_cV (n := 1) (As := [.int (xs (v + (1 : Int32)).toNatClampNeg)]) (rest := []) ⟨hx, hb, hml, hown, hts⟩ (c_X2_membersOf_out l G cy ad σ τ (xs (v + (1 : Int32)).toNatClampNeg) c_29) gL_law_X2_membersOf rfl rfl rfl (by decide +kernel) ⟨Nat.le_of_ble_eq_true rfl, Nat.le_of_ble_eq_true rfl⟩ (va_recv hK hP (ci := 2) (q0 := 0) rfl sl_aL) rfl hl.1 rfl (Nat.le_of_ble_eq_true rfl) dL_law_485 ⟨Nat.le_refl _, Nat.le_refl _⟩ hK hN hD hP hS (fun H locs hP hS => ?_)
                                    refine W.eq (g2 := F0 m 488 ls [.int (-9 : Int32)]) rfl ?_
                                    refine lv_aload_n hx hb dL_law_488 rfl (lv_at hl 3 rfl) ?_
                                    refine lv_aload_n hx hb dL_law_489 rfl (lv_at hl 1 rfl) ?_
                                    refine lv_iload_n hx hb dL_law_490 rfl (lv_at hl 0 rfl) ?_
                                    refine lv_iconst (v := (1 : Int32)) hx hb dL_law_491 (by decide) ?_
                                    refine lv_iadd hx hb dL_law_492 ?_
                                    refine va_sld hx hb hX hbl hbA hS hv1 dL_law_493 ?_
                                    refine sl_cV (n := 1) (As := [.int (xs (v + (1 : Int32)).toNatClampNeg)]) (rest := [.int (-9 : Int32)]) ⟨hx, hb, hml, hown, hts⟩ (c_X3_membersOf_out l G cy ad σ τ (xs (v + (1 : Int32)).toNatClampNeg) c_29) gL_law_X3_membersOf rfl rfl rfl (by decide +kernel) ⟨Nat.le_of_ble_eq_true rfl, Nat.le_of_ble_eq_true rfl⟩ (va_recv hK hP (ci := 3) (q0 := 18) rfl sl_aM) rfl hl.1 rfl (Nat.le_of_ble_eq_true rfl) dL_law_494 ⟨Nat.le_refl _, Nat.le_refl _⟩ hK hN hD hP hS (fun H locs hP hS => ?_)
                                    refine W.eq (g2 := F0 m 497 ls [.int (-9 : Int32), .int (-9 : Int32)]) rfl ?_
                                    refine lv_icmp_eq (tgt := 571) hx hb dL_law_497 (by decide) (fun _ => ?_) (fun h9 => absurd (by decide) h9)
                                    exact K571 σ τ _ _ ls hR hP hS (lv_sub hl [0, 1, 2, 3] rfl)
                                · by_cases c_30 : ((xs v.toNatClampNeg) &&& (31 : Int32)) = (14 : Int32)
                                  · refine lv_tableIn (off := 470) (tgt := 502) hx hb dL_law_32 (by rw [c_30]; decide) (by rw [c_30]; decide) (by rw [c_30]; decide) (by decide) ?_
                                    refine lv_aload_n hx hb dL_law_502 rfl (lv_at hl 2 rfl) ?_
                                    refine sl_cV (n := 0) (As := []) (rest := []) ⟨hx, hb, hml, hown, hts⟩ (c_X2_tail l G cy ad σ τ) gL_law_X2_tail rfl rfl rfl (by decide +kernel) ⟨Nat.le_of_ble_eq_true rfl, Nat.le_of_ble_eq_true rfl⟩ (va_recv hK hP (ci := 2) (q0 := 0) rfl sl_aL) rfl hl.1 rfl (Nat.le_of_ble_eq_true rfl) dL_law_503 ⟨Nat.le_refl _, Nat.le_refl _⟩ hK hN hD hP hS (fun H locs hP hS => ?_)
                                    refine W.eq (g2 := F0 m 506 ls [.int (sp_X2_tail σ)]) rfl ?_
                                    refine lv_aload_n hx hb dL_law_506 rfl (lv_at hl 3 rfl) ?_
                                    refine sl_cV (n := 0) (As := []) (rest := [.int (sp_X2_tail σ)]) ⟨hx, hb, hml, hown, hts⟩ (c_X3_tail l G cy ad σ τ) gL_law_X3_tail rfl rfl rfl (by decide +kernel) ⟨Nat.le_of_ble_eq_true rfl, Nat.le_of_ble_eq_true rfl⟩ (va_recv hK hP (ci := 3) (q0 := 18) rfl sl_aM) rfl hl.1 rfl (Nat.le_of_ble_eq_true rfl) dL_law_507 ⟨Nat.le_refl _, Nat.le_refl _⟩ hK hN hD hP hS (fun H locs hP hS => ?_)
                                    refine W.eq (g2 := F0 m 510 ls [.int (sp_X3_tail τ), .int (sp_X2_tail σ)]) rfl ?_
                                    refine lv_icmp_eq (tgt := 571) hx hb dL_law_510 (by decide) (fun _ => ?_) (fun h9 => absurd (sl_r_tail hR) h9)
                                    exact K571 σ τ _ _ ls hR hP hS (lv_sub hl [0, 1, 2, 3] rfl)
                                  · by_cases c_31 : ((xs v.toNatClampNeg) &&& (31 : Int32)) = (15 : Int32)
                                    · refine lv_tableIn (off := 483) (tgt := 515) hx hb dL_law_32 (by rw [c_31]; decide) (by rw [c_31]; decide) (by rw [c_31]; decide) (by decide) ?_
                                      refine lv_aload_n hx hb dL_law_515 rfl (lv_at hl 2 rfl) ?_
                                      refine lv_aload_n hx hb dL_law_516 rfl (lv_at hl 1 rfl) ?_
                                      refine lv_iload_n hx hb dL_law_517 rfl (lv_at hl 0 rfl) ?_
                                      refine lv_iconst (v := (1 : Int32)) hx hb dL_law_518 (by decide) ?_
                                      refine lv_iadd hx hb dL_law_519 ?_
                                      refine va_sld hx hb hX hbl hbA hS hv1 dL_law_520 ?_
                                      by_cases c_32 : vp_in (xs (v + (1 : Int32)).toNatClampNeg) 6
                                      · refine sl_cV (n := 1) (As := [.int (xs (v + (1 : Int32)).toNatClampNeg)]) (rest := []) ⟨hx, hb, hml, hown, hts⟩ (c_X2_unitEpoch_in l G cy ad σ τ (xs (v + (1 : Int32)).toNatClampNeg) c_32) gL_law_X2_unitEpoch rfl rfl rfl (by decide +kernel) ⟨Nat.le_of_ble_eq_true rfl, Nat.le_of_ble_eq_true rfl⟩ (va_recv hK hP (ci := 2) (q0 := 0) rfl sl_aL) rfl hl.1 rfl (Nat.le_of_ble_eq_true rfl) dL_law_521 ⟨Nat.le_refl _, Nat.le_refl _⟩ hK hN hD hP hS (fun H locs hP hS => ?_)
                                        refine W.eq (g2 := F0 m 524 ls [.int (sp_X2_unitEpoch_in σ (xs (v + (1 : Int32)).toNatClampNeg))]) rfl ?_
                                        refine lv_aload_n hx hb dL_law_524 rfl (lv_at hl 3 rfl) ?_
                                        refine lv_aload_n hx hb dL_law_525 rfl (lv_at hl 1 rfl) ?_
                                        refine lv_iload_n hx hb dL_law_526 rfl (lv_at hl 0 rfl) ?_
                                        refine lv_iconst (v := (1 : Int32)) hx hb dL_law_527 (by decide) ?_
                                        refine lv_iadd hx hb dL_law_528 ?_
                                        refine va_sld hx hb hX hbl hbA hS hv1 dL_law_529 ?_
                                        refine sl_cV (n := 1) (As := [.int (xs (v + (1 : Int32)).toNatClampNeg)]) (rest := [.int (sp_X2_unitEpoch_in σ (xs (v + (1 : Int32)).toNatClampNeg))]) ⟨hx, hb, hml, hown, hts⟩ (c_X3_unitEpoch_in l G cy ad σ τ (xs (v + (1 : Int32)).toNatClampNeg) c_32) gL_law_X3_unitEpoch rfl rfl rfl (by decide +kernel) ⟨Nat.le_of_ble_eq_true rfl, Nat.le_of_ble_eq_true rfl⟩ (va_recv hK hP (ci := 3) (q0 := 18) rfl sl_aM) rfl hl.1 rfl (Nat.le_of_ble_eq_true rfl) dL_law_530 ⟨Nat.le_refl _, Nat.le_refl _⟩ hK hN hD hP hS (fun H locs hP hS => ?_)
                                        refine W.eq (g2 := F0 m 533 ls [.int (sp_X3_unitEpoch_in τ (xs (v + (1 : Int32)).toNatClampNeg)), .int (sp_X2_unitEpoch_in σ (xs (v + (1 : Int32)).toNatClampNeg))]) rfl ?_
                                        refine lv_icmp_eq (tgt := 571) hx hb dL_law_533 (by decide) (fun _ => ?_) (fun h9 => absurd (sl_r_unitEpoch hR c_32) h9)
                                        exact K571 σ τ _ _ ls hR hP hS (lv_sub hl [0, 1, 2, 3] rfl)
                                      · refine sl_cV (n := 1) (As := [.int (xs (v + (1 : Int32)).toNatClampNeg)]) (rest := []) ⟨hx, hb, hml, hown, hts⟩ (c_X2_unitEpoch_out l G cy ad σ τ (xs (v + (1 : Int32)).toNatClampNeg) c_32) gL_law_X2_unitEpoch rfl rfl rfl (by decide +kernel) ⟨Nat.le_of_ble_eq_true rfl, Nat.le_of_ble_eq_true rfl⟩ (va_recv hK hP (ci := 2) (q0 := 0) rfl sl_aL) rfl hl.1 rfl (Nat.le_of_ble_eq_true rfl) dL_law_521 ⟨Nat.le_refl _, Nat.le_refl _⟩ hK hN hD hP hS (fun H locs hP hS => ?_)
                                        refine W.eq (g2 := F0 m 524 ls [.int (-9 : Int32)]) rfl ?_
                                        refine lv_aload_n hx hb dL_law_524 rfl (lv_at hl 3 rfl) ?_
                                        refine lv_aload_n hx hb dL_law_525 rfl (lv_at hl 1 rfl) ?_
                                        refine lv_iload_n hx hb dL_law_526 rfl (lv_at hl 0 rfl) ?_
                                        refine lv_iconst (v := (1 : Int32)) hx hb dL_law_527 (by decide) ?_
                                        refine lv_iadd hx hb dL_law_528 ?_
                                        refine va_sld hx hb hX hbl hbA hS hv1 dL_law_529 ?_
                                        refine sl_cV (n := 1) (As := [.int (xs (v + (1 : Int32)).toNatClampNeg)]) (rest := [.int (-9 : Int32)]) ⟨hx, hb, hml, hown, hts⟩ (c_X3_unitEpoch_out l G cy ad σ τ (xs (v + (1 : Int32)).toNatClampNeg) c_32) gL_law_X3_unitEpoch rfl rfl rfl (by decide +kernel) ⟨Nat.le_of_ble_eq_true rfl, Nat.le_of_ble_eq_true rfl⟩ (va_recv hK hP (ci := 3) (q0 := 18) rfl sl_aM) rfl hl.1 rfl (Nat.le_of_ble_eq_true rfl) dL_law_530 ⟨Nat.le_refl _, Nat.le_refl _⟩ hK hN hD hP hS (fun H locs hP hS => ?_)
                                        refine W.eq (g2 := F0 m 533 ls [.int (-9 : Int32), .int (-9 : Int32)]) rfl ?_
                                        refine lv_icmp_eq (tgt := 571) hx hb dL_law_533 (by decide) (fun _ => ?_) (fun h9 => absurd (by decide) h9)
                                        exact K571 σ τ _ _ ls hR hP hS (lv_sub hl [0, 1, 2, 3] rfl)
                                    · by_cases c_33 : ((xs v.toNatClampNeg) &&& (31 : Int32)) = (16 : Int32)
                                      · refine lv_tableIn (off := 506) (tgt := 538) hx hb dL_law_32 (by rw [c_33]; decide) (by rw [c_33]; decide) (by rw [c_33]; decide) (by decide) ?_
                                        refine lv_aload_n hx hb dL_law_538 rfl (lv_at hl 2 rfl) ?_
                                        refine lv_aload_n hx hb dL_law_539 rfl (lv_at hl 1 rfl) ?_
                                        refine lv_iload_n hx hb dL_law_540 rfl (lv_at hl 0 rfl) ?_
                                        refine lv_iconst (v := (1 : Int32)) hx hb dL_law_541 (by decide) ?_
                                        refine lv_iadd hx hb dL_law_542 ?_
                                        refine va_sld hx hb hX hbl hbA hS hv1 dL_law_543 ?_
                                        refine lv_aload_n hx hb dL_law_544 rfl (lv_at hl 1 rfl) ?_
                                        refine lv_iload_n hx hb dL_law_545 rfl (lv_at hl 0 rfl) ?_
                                        refine lv_iconst (v := (2 : Int32)) hx hb dL_law_546 (by decide) ?_
                                        refine lv_iadd hx hb dL_law_547 ?_
                                        refine va_sld hx hb hX hbl hbA hS hv2 dL_law_548 ?_
                                        by_cases c_34 : vp_in (xs (v + (1 : Int32)).toNatClampNeg) 6
                                        · refine sl_cV (n := 2) (As := [.int (xs (v + (1 : Int32)).toNatClampNeg), .int (xs (v + (2 : Int32)).toNatClampNeg)]) (rest := []) ⟨hx, hb, hml, hown, hts⟩ (c_X2_cell_in l G cy ad σ τ (xs (v + (1 : Int32)).toNatClampNeg) (xs (v + (2 : Int32)).toNatClampNeg) c_34) gL_law_X2_cell rfl rfl rfl (by decide +kernel) ⟨Nat.le_of_ble_eq_true rfl, Nat.le_of_ble_eq_true rfl⟩ (va_recv hK hP (ci := 2) (q0 := 0) rfl sl_aL) rfl hl.1 rfl (Nat.le_of_ble_eq_true rfl) dL_law_549 ⟨Nat.le_refl _, Nat.le_refl _⟩ hK hN hD hP hS (fun H locs hP hS => ?_)
                                          refine W.eq (g2 := F0 m 552 ls [.int (sp_X2_cell_in σ (xs (v + (1 : Int32)).toNatClampNeg) (xs (v + (2 : Int32)).toNatClampNeg))]) rfl ?_
                                          refine lv_aload_n hx hb dL_law_552 rfl (lv_at hl 3 rfl) ?_
                                          refine lv_aload_n hx hb dL_law_553 rfl (lv_at hl 1 rfl) ?_
                                          refine lv_iload_n hx hb dL_law_554 rfl (lv_at hl 0 rfl) ?_
                                          refine lv_iconst (v := (1 : Int32)) hx hb dL_law_555 (by decide) ?_
                                          refine lv_iadd hx hb dL_law_556 ?_
                                          refine va_sld hx hb hX hbl hbA hS hv1 dL_law_557 ?_
                                          refine lv_aload_n hx hb dL_law_558 rfl (lv_at hl 1 rfl) ?_
                                          refine lv_iload_n hx hb dL_law_559 rfl (lv_at hl 0 rfl) ?_
                                          refine lv_iconst (v := (2 : Int32)) hx hb dL_law_560 (by decide) ?_
                                          refine lv_iadd hx hb dL_law_561 ?_
                                          refine va_sld hx hb hX hbl hbA hS hv2 dL_law_562 ?_
                                          refine sl_cV (n := 2) (As := [.int (xs (v + (1 : Int32)).toNatClampNeg), .int (xs (v + (2 : Int32)).toNatClampNeg)]) (rest := [.int (sp_X2_cell_in σ (xs (v + (1 : Int32)).toNatClampNeg) (xs (v + (2 : Int32)).toNatClampNeg))]) ⟨hx, hb, hml, hown, hts⟩ (c_X3_cell_in l G cy ad σ τ (xs (v + (1 : Int32)).toNatClampNeg) (xs (v + (2 : Int32)).toNatClampNeg) c_34 ((sl_r_rows hR).1) ((sl_r_rows hR).2)) gL_law_X3_cell rfl rfl rfl (by decide +kernel) ⟨Nat.le_of_ble_eq_true rfl, Nat.le_of_ble_eq_true rfl⟩ (va_recv hK hP (ci := 3) (q0 := 18) rfl sl_aM) rfl hl.1 rfl (Nat.le_of_ble_eq_true rfl) dL_law_563 ⟨Nat.le_refl _, Nat.le_refl _⟩ hK hN hD hP hS (fun H locs hP hS => ?_)
                                          refine W.eq (g2 := F0 m 566 ls [.int (sp_X3_cell_in τ (xs (v + (1 : Int32)).toNatClampNeg) (xs (v + (2 : Int32)).toNatClampNeg)), .int (sp_X2_cell_in σ (xs (v + (1 : Int32)).toNatClampNeg) (xs (v + (2 : Int32)).toNatClampNeg))]) rfl ?_
                                          refine lv_icmp_eq (tgt := 571) hx hb dL_law_566 (by decide) (fun _ => ?_) (fun h9 => absurd (sl_r_cell (a := (xs (v + (2 : Int32)).toNatClampNeg)) hR c_34) h9)
                                          exact K571 σ τ _ _ ls hR hP hS (lv_sub hl [0, 1, 2, 3] rfl)
                                        · refine sl_cV (n := 2) (As := [.int (xs (v + (1 : Int32)).toNatClampNeg), .int (xs (v + (2 : Int32)).toNatClampNeg)]) (rest := []) ⟨hx, hb, hml, hown, hts⟩ (c_X2_cell_out l G cy ad σ τ (xs (v + (1 : Int32)).toNatClampNeg) (xs (v + (2 : Int32)).toNatClampNeg) c_34) gL_law_X2_cell rfl rfl rfl (by decide +kernel) ⟨Nat.le_of_ble_eq_true rfl, Nat.le_of_ble_eq_true rfl⟩ (va_recv hK hP (ci := 2) (q0 := 0) rfl sl_aL) rfl hl.1 rfl (Nat.le_of_ble_eq_true rfl) dL_law_549 ⟨Nat.le_refl _, Nat.le_refl _⟩ hK hN hD hP hS (fun H locs hP hS => ?_)
                                          refine W.eq (g2 := F0 m 552 ls [.int (-9 : Int32)]) rfl ?_
                                          refine lv_aload_n hx hb dL_law_552 rfl (lv_at hl 3 rfl) ?_
                                          refine lv_aload_n hx hb dL_law_553 rfl (lv_at hl 1 rfl) ?_
                                          refine lv_iload_n hx hb dL_law_554 rfl (lv_at hl 0 rfl) ?_
                                          refine lv_iconst (v := (1 : Int32)) hx hb dL_law_555 (by decide) ?_
                                          refine lv_iadd hx hb dL_law_556 ?_
                                          refine va_sld hx hb hX hbl hbA hS hv1 dL_law_557 ?_
                                          refine lv_aload_n hx hb dL_law_558 rfl (lv_at hl 1 rfl) ?_
                                          refine lv_iload_n hx hb dL_law_559 rfl (lv_at hl 0 rfl) ?_
                                          refine lv_iconst (v := (2 : Int32)) hx hb dL_law_560 (by decide) ?_
                                          refine lv_iadd hx hb dL_law_561 ?_
                                          refine va_sld hx hb hX hbl hbA hS hv2 dL_law_562 ?_
                                          refine sl_cV (n := 2) (As := [.int (xs (v + (1 : Int32)).toNatClampNeg), .int (xs (v + (2 : Int32)).toNatClampNeg)]) (rest := [.int (-9 : Int32)]) ⟨hx, hb, hml, hown, hts⟩ (c_X3_cell_out l G cy ad σ τ (xs (v + (1 : Int32)).toNatClampNeg) (xs (v + (2 : Int32)).toNatClampNeg) c_34) gL_law_X3_cell rfl rfl rfl (by decide +kernel) ⟨Nat.le_of_ble_eq_true rfl, Nat.le_of_ble_eq_true rfl⟩ (va_recv hK hP (ci := 3) (q0 := 18) rfl sl_aM) rfl hl.1 rfl (Nat.le_of_ble_eq_true rfl) dL_law_563 ⟨Nat.le_refl _, Nat.le_refl _⟩ hK hN hD hP hS (fun H locs hP hS => ?_)
                                          refine W.eq (g2 := F0 m 566 ls [.int (-9 : Int32), .int (-9 : Int32)]) rfl ?_
                                          refine lv_icmp_eq (tgt := 571) hx hb dL_law_566 (by decide) (fun _ => ?_) (fun h9 => absurd (by decide) h9)
                                          exact K571 σ τ _ _ ls hR hP hS (lv_sub hl [0, 1, 2, 3] rfl)
                                      · refine lv_tableOut (tgt := 571) hx hb dL_law_32 (by have h0 := lv_neT (a := 0) c_1 rfl; have h1 := lv_neT (a := 1) c_3 rfl; have h2 := lv_neT (a := 2) c_5 rfl; have h3 := lv_neT (a := 3) c_7 rfl; have h4 := lv_neT (a := 4) c_9 rfl; have h5 := lv_neT (a := 5) c_11 rfl; have h6 := lv_neT (a := 6) c_13 rfl; have h7 := lv_neT (a := 7) c_15 rfl; have h8 := lv_neT (a := 8) c_19 rfl; have h9 := lv_neT (a := 9) c_20 rfl; have h10 := lv_neT (a := 10) c_22 rfl; have h11 := lv_neT (a := 11) c_24 rfl; have h12 := lv_neT (a := 12) c_26 rfl; have h13 := lv_neT (a := 13) c_28 rfl; have h14 := lv_neT (a := 14) c_30 rfl; have h15 := lv_neT (a := 15) c_31 rfl; have h16 := lv_neT (a := 16) c_33 rfl; omega) (by decide) ?_
                                        exact K571 σ τ _ _ ls hR hP hS (lv_sub hl [0, 1, 2, 3] rfl)
