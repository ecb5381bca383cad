theorem sl_nft : ∀ q ∈ sl_nf, Cond.fieldLinkNest RX2 q.1 q.2.1 q.2.2.1 q.2.2.2 "SharedLog" ∈ lw_tbl := by decide +kernel
theorem sl_nmt : ∀ q ∈ sl_nm, Cond.methodLinkNest q.1 q.2.1 q.2.2 "SharedLog" ∈ lw_tbl := by decide +kernel
theorem sl_wU : Cond.arrayOver (.object "SharedLog$Unit") ∈ lw_tbl := by decide +kernel
theorem sl_wC : Cond.arrayOver (.object "SharedLog$Client") ∈ lw_tbl := by decide +kernel
theorem sl_wI : Cond.arrayClass .int ∈ lw_tbl := by decide +kernel
theorem sl_wi0 : Cond.instantiable RX0 12 ∈ lw_tbl := by decide +kernel
theorem sl_wi1 : Cond.instantiable RX1 3 ∈ lw_tbl := by decide +kernel
theorem sl_wi2 : Cond.instantiable RX2 6 ∈ lw_tbl := by decide +kernel
theorem sl_wi3 : Cond.instantiable RX3 19 ∈ lw_tbl := by decide +kernel
theorem mw_L_law_0 : Cond.classLink RL 7 RX2 ∈ wsL_law := List.mem_of_getElem? (i := 0) (by decide +kernel)
theorem mw_L_law_1 : Cond.instantiable RX2 6 ∈ wsL_law := List.mem_of_getElem? (i := 1) (by decide +kernel)
theorem mw_L_law_2 : Cond.initialized RX2 ∈ wsL_law := List.mem_of_getElem? (i := 2) (by decide +kernel)
theorem mw_L_law_3 : Cond.classLink RL 10 RX3 ∈ wsL_law := List.mem_of_getElem? (i := 3) (by decide +kernel)
theorem mw_L_law_4 : Cond.instantiable RX3 19 ∈ wsL_law := List.mem_of_getElem? (i := 4) (by decide +kernel)
theorem mw_L_law_46 : Cond.methodLink RL 12 yX3_init ∈ wsL_law := List.mem_of_getElem? (i := 46) (by decide +kernel)
theorem mw_L_law_47 : Cond.instanceMethod yX3_init ∈ wsL_law := List.mem_of_getElem? (i := 47) (by decide +kernel)
theorem mw_L_law_5 : Cond.initialized RX3 ∈ wsL_law := List.mem_of_getElem? (i := 5) (by decide +kernel)
theorem mw_L_law_6 : Cond.methodLink RL 9 yX2_init ∈ wsL_law := List.mem_of_getElem? (i := 6) (by decide +kernel)
theorem mw_L_law_7 : Cond.instanceMethod yX2_init ∈ wsL_law := List.mem_of_getElem? (i := 7) (by decide +kernel)
set_option maxHeartbeats 4000000 in
set_option maxRecDepth 100000 in
/-- THE LAW, from its entry -/
theorem whole_start {p : Program} {e : Env} {s : State} {m : MethodId} {below : List Frame} {meth : Method} {c : Code} (l : Launch) {b L : Nat} {xs : Nat → Int32} (hL : L ≤ 1536) (C0 : lw_At p s m meth c b L xs) : W p l e room_1 s m #[Value.ref b] below meth c s.heap [] 0 0 (lw_Z below #[Value.ref b] s) (entryFrame m ([Value.ref b] : List Value).toArray 4) := by
  obtain ⟨hx, hb, hr, hml, hown, hts0, hX, hbl, hlocks, hgv⟩ := id C0
  have hts : ∀ w ∈ wsL_law, w.before #[Value.ref b] s = true := fun w h => hts0 w (wsL_law_in w h)
  have hA : ∀ q : Nat, s.heap.size ≤ q → (fun q : Nat => s.heap.size ≤ q) q := fun _ h => h
  obtain ⟨c0, iS0, hKn0⟩ := u_known (C := RX0) (T := TX0) (N := 12) (n := 12) hts0 inX0 (hts0 _ sl_wi0)
  obtain ⟨c1, iS1, hKn1⟩ := u_known (C := RX1) (T := TX1) (N := 3) (n := 3) hts0 inX1 (hts0 _ sl_wi1)
  obtain ⟨c2, iS2, hKn2⟩ := u_known (C := RX2) (T := TX2) (N := 6) (n := 6) hts0 inX2 (hts0 _ sl_wi2)
  obtain ⟨c3, iS3, hKn3⟩ := u_known (C := RX3) (T := TX3) (N := 19) (n := 19) hts0 inX3 (hts0 _ sl_wi3)
  obtain ⟨dC, dI, hKc⟩ : ∃ (dC : Nat → ClassId) (dI : Nat → Nat → Nat), ∀ (k : Nat) (q : vw_C), vwCl[k]? = some q → u_Kn s q.1 q.2.1 q.2.2 (dC k) (dI k) := by
    refine ⟨fun k => if k = 0 then c0 else if k = 1 then c1 else if k = 2 then c2 else c3, fun k => if k = 0 then iS0 else if k = 1 then iS1 else if k = 2 then iS2 else iS3, ?_⟩
    intro k q hq
    match k, hq with
    | 0, hq => cases hq; exact hKn0
    | 1, hq => cases hq; exact hKn1
    | 2, hq => cases hq; exact hKn2
    | 3, hq => cases hq; exact hKn3
    | k + 4, hq => simp [vwCl] at hq
  obtain ⟨cI, kI, cpI, f1, f2, f3⟩ := Cond.arrayClass_spec (hts0 _ sl_wI)
  have hAU : va_AO "SharedLog$Unit" s := va_AO.of (hts0 _ sl_wU)
  have hAC : va_AO "SharedLog$Client" s := va_AO.of (hts0 _ sl_wC)
  obtain ⟨cpU, cU, kU, u1, u2, u3, u4, u5⟩ := Cond.arrayOver_spec hAU
  obtain ⟨cpC, cC, kC, d1, d2, d3, d4, d5⟩ := Cond.arrayOver_spec hAC
  obtain ⟨cy, e0, e1, e2⟩ : ∃ cy : Nat → ClassId, cy 0 = cI ∧ cy 1 = cC ∧ cy 2 = cU := ⟨fun k => if k = 0 then cI else if k = 1 then cC else cU, rfl, rfl, rfl⟩
  have hK : va_K (dC, dI) vwCl (sl_tys cy) s := by
    refine ⟨hKc, fun k q hq => ?_⟩
    match k, hq with
    | 0, hq => cases hq; exact ⟨by rw [e0]; exact fun n z => ⟨fun k h => (by cases h), kI, f2, cpI, f3⟩, by rw [e0]; exact f1⟩
    | 1, hq => cases hq; exact ⟨by rw [e1]; exact fun n z => ⟨fun k h => (by cases h), kC, d3, cpC, d4⟩, by rw [e1]; exact ⟨kC, cpC, d3, d4, d1, d5⟩⟩
    | 2, hq => cases hq; exact ⟨by rw [e2]; exact fun n z => ⟨fun k h => (by cases h), kU, u3, cpU, u4⟩, by rw [e2]; exact ⟨kU, cpU, u3, u4, u1, u5⟩⟩
    | k + 3, hq => simp [sl_tys] at hq
  have hN : sl_N s := ⟨fun q hq => va_Nw.of rfl (hts0 _ (sl_nft q hq)), fun q hq => va_Nw.of rfl (hts0 _ (sl_nmt q hq))⟩
  have hS : va_S (fun q : Nat => s.heap.size ≤ q) s.heap s.heap [] := va_S.rf
  have hP : va_P (dC, dI) vwCl [] s.heap := fun k q h => by simp at h
  have hD : va_D (fun q : Nat => s.heap.size ≤ q) [] := ⟨fun i j p q h => by simp at h, fun k q h => by simp at h⟩
  have hl := lv_entry ([.ref b]) (n := 4) (Nat.le_of_ble_eq_true rfl)
  rw [lg_entry_eq]
  generalize (lg_sl ([.ref b]) ++ List.replicate (4 - (lg_sl ([.ref b])).length) Slot.unset).toArray = ls at hl ⊢
  have hl : lv_has ls 4 [(0, .ref b)] := hl
  refine va_new (ci := 2) (fs := [.null, .null, .int 0, .int 0, .int 0, .int 0]) (C := RX2) (T := TX2) (N := 6) hx hb hts inlX2 tyX2 tyX2_ok hown (hts _ mw_L_law_0) (hts _ mw_L_law_1) (hts _ mw_L_law_2) hK hP hD hS hA rfl (fun j hj => by rcases (show j = 0 ∨ j = 1 ∨ j = 2 ∨ j = 3 ∨ j = 4 ∨ j = 5 by omega) with rfl | rfl | rfl | rfl | rfl | rfl <;> rfl) (Nat.le_of_ble_eq_true rfl) (Nat.le_of_ble_eq_true rfl) dL_law_0 (fun q0 H hP hD hS => ?_)
  have hP : va_P (dC, dI) vwCl [(q0, .inr (2, [.null, .null, .int 0, .int 0, .int 0, .int 0]))] H := hP
  have hD : va_D (fun q : Nat => s.heap.size ≤ q) [(q0, .inr (2, [.null, .null, .int 0, .int 0, .int 0, .int 0]))] := hD
  refine W.widen (k := 1) (n := 6) (by omega) (by omega) ?_
  refine lv_dup hx hb dL_law_3 rfl ?_
  have hFc := va_free (wc := [(q0, .inr (2, [.null, .null, .int 0, .int 0, .int 0, .int 0]))]) hD hS hA [0] rfl
  refine va_callv (va_runI (As := []) (rest := [.ref q0]) ⟨hx, hb, hml, hown, hts⟩ (ci_X2 l (dC, dI) cy q0 H.size) (cwI 0 hts gL_law_X2_init rfl rfl rfl (hts _ mw_L_law_2) (hts _ mw_L_law_6) (hts _ mw_L_law_7) rfl (by decide +kernel) ⟨Nat.le_of_ble_eq_true rfl, Nat.le_of_ble_eq_true rfl⟩) ⟨sl_blindC, fun U hU hW => ⟨rfl, by rw [hU], by rw [hU]; exact hP, va_K.moved hW.alike hK, hD.weaken (fun _ _ _ _ => trivial), hN.warm hW, hAU.moved hW.alike, hAC.moved hW.alike⟩⟩ rfl rfl hl.1 rfl (lv_room (Nat.le_of_ble_eq_true rfl)) dL_law_4 ⟨Nat.le_of_ble_eq_true rfl, Nat.le_of_ble_eq_true rfl⟩) hS (fun q _ h => hFc q h) hFc (fun u t H1 locs ht hvm hw hB hz1 hk1 hS => ?_)
  obtain ⟨a, F, rU, rC⟩ := u
  obtain ⟨hP1, hD1⟩ := hB
  rw [ht] at hP1
  obtain ⟨hP, hD⟩ := va_join (wr := []) (w1 := sl_wx cy a F rU rC) hP hD [0] [] rfl rfl (by decide) (by decide) hk1 hFc hP1 hD1
  generalize H1 = H at hP hS ⊢
  have hP : va_P (dC, dI) vwCl (sl_wx cy a F rU rC) H := hP
  have hD : va_D (fun q : Nat => s.heap.size ≤ q) (sl_wx cy a F rU rC) := hD
  obtain ⟨ha0, hF, hrU, hrC⟩ := hw
  dsimp only at ha0 hF hrU hrC
  refine W.widen (k := 18) (n := 261) (by omega) (by omega) ?_
  refine lv_astore_n (lv' := [(1, .ref q0), (0, .ref b)]) hx hb dL_law_7 rfl hl (by decide) rfl (fun ls hl => ?_)
  refine va_new (ci := 3) (fs := [.int 0, .null, .null, .null, .null, .null, .int 0, .int 0, .int 0, .int 0, .null, .null, .null, .null, .null, .null, .null, .null, .null]) (C := RX3) (T := TX3) (N := 19) hx hb hts inlX3 tyX3 tyX3_ok hown (hts _ mw_L_law_3) (hts _ mw_L_law_4) (hts _ mw_L_law_5) hK hP hD hS hA rfl (fun j hj => by rcases (show j = 0 ∨ j = 1 ∨ j = 2 ∨ j = 3 ∨ j = 4 ∨ j = 5 ∨ j = 6 ∨ j = 7 ∨ j = 8 ∨ j = 9 ∨ j = 10 ∨ j = 11 ∨ j = 12 ∨ j = 13 ∨ j = 14 ∨ j = 15 ∨ j = 16 ∨ j = 17 ∨ j = 18 by omega) with rfl | rfl | rfl | rfl | rfl | rfl | rfl | rfl | rfl | rfl | rfl | rfl | rfl | rfl | rfl | rfl | rfl | rfl | rfl <;> rfl) (Nat.le_of_ble_eq_true rfl) (Nat.le_of_ble_eq_true rfl) dL_law_8 (fun q1 H hP hD hS => ?_)
  have hP : va_P (dC, dI) vwCl (sl_wx cy a F rU rC ++ [(q1, .inr (3, [.int 0, .null, .null, .null, .null, .null, .int 0, .int 0, .int 0, .int 0, .null, .null, .null, .null, .null, .null, .null, .null, .null]))]) H := hP
  have hD : va_D (fun q : Nat => s.heap.size ≤ q) (sl_wx cy a F rU rC ++ [(q1, .inr (3, [.int 0, .null, .null, .null, .null, .null, .int 0, .int 0, .int 0, .int 0, .null, .null, .null, .null, .null, .null, .null, .null, .null]))]) := hD
  refine W.widen (k := 19) (n := 280) (by omega) (by omega) ?_
  refine lv_dup hx hb dL_law_11 rfl ?_
  have hPc := hP.sub (ws' := [(q1, .inr (3, [.int 0, .null, .null, .null, .null, .null, .int 0, .int 0, .int 0, .int 0, .null, .null, .null, .null, .null, .null, .null, .null, .null]))]) [18] rfl
  have hDc := hD.sub (ws' := [(q1, .inr (3, [.int 0, .null, .null, .null, .null, .null, .int 0, .int 0, .int 0, .int 0, .null, .null, .null, .null, .null, .null, .null, .null, .null]))]) [18] (by decide) rfl
  have hFc := va_free (wc := [(q1, .inr (3, [.int 0, .null, .null, .null, .null, .null, .int 0, .int 0, .int 0, .int 0, .null, .null, .null, .null, .null, .null, .null, .null, .null]))]) hD hS hA [18] rfl
  refine va_callv (va_runI (As := []) (rest := [.ref q1]) ⟨hx, hb, hml, hown, hts⟩ (ci_X3 l (dC, dI) cy q1 H.size) (cwI 0 hts gL_law_X3_init rfl rfl rfl (hts _ mw_L_law_5) (hts _ mw_L_law_46) (hts _ mw_L_law_47) rfl (by decide +kernel) ⟨Nat.le_of_ble_eq_true rfl, Nat.le_of_ble_eq_true rfl⟩) ⟨sl_blindC, fun U hU hW => ⟨rfl, by rw [hU], by rw [hU]; exact hPc, va_K.moved hW.alike hK, hDc.weaken (fun _ _ _ _ => trivial), hN.warm hW, hAU.moved hW.alike, hAC.moved hW.alike⟩⟩ rfl rfl hl.1 rfl (lv_room (Nat.le_of_ble_eq_true rfl)) dL_law_12 ⟨Nat.le_of_ble_eq_true rfl, Nat.le_of_ble_eq_true rfl⟩) hS (fun q _ h => hFc q h) hFc (fun u t H1 locs ht hvm hw hB hz1 hk1 hS => ?_)
  obtain ⟨a2, Mf⟩ := u
  obtain ⟨hP1, hD1⟩ := hB
  rw [ht] at hP1
  obtain ⟨hP, hD⟩ := va_join (wr := sl_wx cy a F rU rC) (w1 := sl_wm cy a2 Mf) hP hD [18] [0, 1, 2, 3, 4, 5, 6, 7, 8, 9, 10, 11, 12, 13, 14, 15, 16, 17] rfl rfl (by decide) (by decide) hk1 hFc hP1 hD1
  generalize H1 = H at hP hS ⊢
  obtain ⟨ha2, hM⟩ := hw
  dsimp only at ha2 hM
  obtain ⟨ad, had⟩ : ∃ ad : Nat → Nat, ad = fun k => if k < 18 then a k else a2 k := ⟨_, rfl⟩
  have hP2 := sl_refn (k := 2) (g := fun j => some (ad (3 + j))) (sl_refn (k := 1) (g := fun j => some (ad (6 + j))) hP rfl (fun j hj => by rw [hrU j hj, had]; simp only []; rw [if_pos (by omega)])) rfl (fun j hj => by rw [hrC j hj, had]; simp only []; rw [if_pos (by omega)])
  have hD2 := va_D.set (p := 2) (e := .inl (cy 1, 3, .inr (.inr (.inr (.inr (fun j => some (ad (3 + j)))))))) (va_D.set (p := 1) (e := .inl (cy 2, 6, .inr (.inr (.inr (.inr (fun j => some (ad (6 + j)))))))) hD rfl) rfl
  have hPw : va_P (dC, dI) vwCl (sl_wd cy ad (sl_s0 F) (sl_t0 Mf)) H := by
    subst had
    exact hP2
  have hDw : va_D (fun q : Nat => s.heap.size ≤ q) (sl_wd cy ad (sl_s0 F) (sl_t0 Mf)) := by
    subst had
    exact hD2
  have hge : ∀ k, k < 33 → s.heap.size ≤ ad k := fun k hk => hDw.2 k _ (sl_wd_at hk)
  have hS2 : va_S (sl_A ad s.heap.size) s.heap H locs := ⟨hS.1, fun q h1 h2 => hS.2.1 q h1 (fun g => h2 (Or.inr g)), fun w hw => Or.inr (hS.2.2 w hw)⟩
  have x0 : q0 = ad 0 := by rw [had]; exact ha0.symm
  have x18 : q1 = ad 18 := by rw [had]; exact ha2.symm
  refine W.widen (k := 600000) (n := 7302250) (by omega) (by omega) ?_
  refine lv_astore_n (lv' := [(2, .ref q1), (1, .ref q0), (0, .ref b)]) hx hb dL_law_15 rfl hl (by decide) rfl (fun ls hl => ?_)
  refine lv_iconst (v := 0) hx hb dL_law_16 (by decide) ?_
  refine lv_istore_n (lv' := [(3, .int 0), (2, .ref q1), (1, .ref q0), (0, .ref b)]) hx hb dL_law_17 rfl hl (by decide) rfl (fun ls hl => ?_)
  rw [x0, x18] at hl
  exact law_loop hL C0 hK hN hge (fun σ1 τ1 => sl_D1 hDw) 1540 0 (sl_s0 F) (sl_t0 Mf) H locs ls (by decide) (by decide) (by decide) (sl_r_init hF hM) hPw hS2 (lv_sub hl [0, 3, 2, 1] rfl)
