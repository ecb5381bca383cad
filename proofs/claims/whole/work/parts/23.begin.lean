/-! the calls that begin an operation, the questions, refresh, setUp, loseSequencer -/
theorem sl_n3 : ((-3 : Int32) = 0) = False := eq_false (by decide)
theorem sl_n2 : ((-2 : Int32) = 0) = False := eq_false (by decide)
abbrev sl_bg (τ : sl_M) (i : Nat) (a : Int32) : sl_M := sl_up (sl_up (sl_up (sl_up (sl_up (sl_up τ 24 i a) 27 i (0 : Int32)) 28 i (0 : Int32)) 31 i (0 : Int32)) 30 i (0 : Int32)) 29 i (0 : Int32)
section SLB
variable {σ τ : sl_M} {q a b : Int32} {i : Nat}
theorem sl_b0 (k : ¬ τ 24 q.toNatClampNeg = 0) : sp_X3_begin_in τ q a b = (-2, τ) := by rw [sp_X3_begin_in, if_neg k]
theorem sl_b1 (k : τ 24 q.toNatClampNeg = 0) : sp_X3_begin_in τ q a 0 = (-3, τ) := by rw [sp_X3_begin_in, if_pos k, if_pos rfl]
theorem sl_b2 (k : τ 24 q.toNatClampNeg = 0) : sp_X3_begin_in τ q a 1 = (0, sl_bg τ q.toNatClampNeg a) := by rw [sp_X3_begin_in, if_pos k, if_neg (by decide)]
theorem sl_chain {p : Nat} (hp : p < 100) : sp_X0_chainOf σ i (nI p) = σ (3 + i) 1 &&& sl_msk p := by
  have e : nI p - nI p / (2 : Int32) * (2 : Int32) = nI (p % 2) := pk_rem (d := 2) (by omega) (by decide) (by decide)
  rw [sp_X0_chainOf, e, sl_msk]
  by_cases c : p % 2 = 0
  · rw [if_pos (by rw [c]; rfl), if_pos c]
  · rw [if_neg (fun g => c ((nI_eq (by omega) (by decide)).mp (g.trans nI_0.symm))), if_neg c]
theorem sl_ok_ne {x : Int32} (h : sl_ok x) (p : Nat) : x &&& sl_msk p ≠ 0 := by
  obtain ⟨n, hn, rfl, h1, h2⟩ := h
  unfold sl_msk
  split
  · exact h1
  · exact h2
theorem sl_i32 {x : Int32} (h0 : ¬ x < 0) : 0 ≤ x.toInt := by
  have a1 : (0 : Int32).toInt ≤ x.toInt := Int32.le_iff_toInt_le.mp (Int32.not_lt.mp h0)
  exact a1
theorem sl_gtle {x y z : Int32} (hyz : y.toInt + 1 = z.toInt) : y < x ↔ z ≤ x := by
  rw [Int32.lt_iff_toInt_lt, Int32.le_iff_toInt_le]
  omega
theorem sl_r_append (h : sl_R σ τ) (hc : vp_in q 3) : (sp_X2_append_in σ q a).1 = (sp_X3_append_in τ q a).1 ∧ sl_R (sp_X2_append_in σ q a).2 (sp_X3_append_in τ q a).2 := by
  have hi := sl_lt hc
  have e2 : σ (3 + q.toNatClampNeg) 2 = τ 24 q.toNatClampNeg := (h.2.2.2 _ hi).2.2.1
  have hw := sl_w h hi
  unfold sp_X2_append_in
  rw [e2]
  by_cases k0 : τ 24 q.toNatClampNeg = 0
  · rw [if_pos k0]
    by_cases a0 : a < 0
    · rw [if_pos a0]
      simp only [sp_X3_append_in, if_pos a0, sl_b1 k0, sl_n3, if_false]
      exact ⟨trivial, h⟩
    · rw [if_neg a0]
      by_cases a1 : a ≤ 1073741823
      · rw [if_pos a1]
        simp only [sp_X3_append_in, if_neg a0, if_neg (sl_nl a1), sl_b2 k0, if_true, sp_X0_begin, true_and]
        refine sl_R_of (i := q.toNatClampNeg) ?_ ?_ ?_ ?_ (Or.inr (Or.inl ⟨?_, ?_, ?_, Or.inl ⟨?_, ?_⟩⟩))
        · repeat' first | exact hw | refine sl_kx hi (by decide) ?_ | refine sl_km (by decide) (by decide) (by decide) ?_
        all_goals simp (disch := decide) only [sl_up_s, sl_up_f, sl_up_k]
        exact sl_i32 a0
      · rw [if_neg a1]
        simp only [sp_X3_append_in, if_neg a0, if_pos (sl_gt a1), sl_b1 k0, sl_n3, if_false]
        exact ⟨trivial, h⟩
  · rw [if_neg k0]
    simp only [sp_X3_append_in, sl_b0 k0, sl_n2, if_false, ite_self]
    exact ⟨trivial, h⟩
theorem sl_r_fill (h : sl_R σ τ) (hc : vp_in q 3) : (sp_X2_fill_in σ q a).1 = (sp_X3_fill_in τ q a).1 ∧ sl_R (sp_X2_fill_in σ q a).2 (sp_X3_fill_in τ q a).2 := by
  have hi := sl_lt hc
  have e2 : σ (3 + q.toNatClampNeg) 2 = τ 24 q.toNatClampNeg := (h.2.2.2 _ hi).2.2.1
  have hw := sl_w h hi
  unfold sp_X2_fill_in
  rw [e2]
  by_cases k0 : τ 24 q.toNatClampNeg = 0
  · rw [if_pos k0]
    by_cases a0 : a < 0
    · rw [if_pos (show sp_X2_isPosition a = 0 by rw [sp_X2_isPosition, if_pos a0])]
      simp only [sp_X3_fill_in, if_pos a0, sl_b1 k0, sl_n3, if_false]
      exact ⟨trivial, h⟩
    · by_cases a1 : (32 : Int32) ≤ a
      · rw [if_pos (show sp_X2_isPosition a = 0 by rw [sp_X2_isPosition, if_neg a0, if_pos a1])]
        simp only [sp_X3_fill_in, if_neg a0, if_pos ((sl_gtle (x := a) (y := 31) (z := 32) rfl).mpr a1), sl_b1 k0, sl_n3, if_false]
        exact ⟨trivial, h⟩
      · obtain ⟨p, hp, rfl⟩ := vp_in_of (sl_in a0 a1 (n := 32) rfl) (by decide)
        rw [if_neg (show ¬ sp_X2_isPosition (nI p) = 0 by rw [sp_X2_isPosition, if_neg a0, if_neg a1]; decide)]
        simp only [sp_X3_fill_in, if_neg a0, if_neg (fun g => a1 ((sl_gtle (x := nI p) (y := 31) (z := 32) rfl).mp g)), sl_b2 k0, if_true, sp_X0_begin, true_and, sl_chain (show p < 100 by omega)]
        refine sl_R_of (i := q.toNatClampNeg) ?_ ?_ ?_ ?_ (Or.inr (Or.inr (Or.inl ⟨?_, ⟨p, 0, hp, by decide, ?_, ?_, ?_, ?_, ?_⟩, Or.inl ⟨?_, ?_⟩⟩)))
        · repeat' first | exact hw | refine sl_kx hi (by decide) ?_ | refine sl_km (by decide) (by decide) (by decide) ?_
        all_goals simp (disch := decide) only [sl_up_s, sl_up_f, sl_up_k, sl_drp, nI_0]
        exact sl_ok_ne hw.2.2.2.2.2.2 p
  · rw [if_neg k0]
    simp only [sp_X3_fill_in, sl_b0 k0, sl_n2, if_false, ite_self]
    exact ⟨trivial, h⟩
theorem sl_r_read (h : sl_R σ τ) (hc : vp_in q 3) : (sp_X2_read_in σ q a).1 = (sp_X3_read_in τ q a).1 ∧ sl_R (sp_X2_read_in σ q a).2 (sp_X3_read_in τ q a).2 := by
  have hi := sl_lt hc
  have e2 : σ (3 + q.toNatClampNeg) 2 = τ 24 q.toNatClampNeg := (h.2.2.2 _ hi).2.2.1
  have hw := sl_w h hi
  unfold sp_X2_read_in
  rw [e2]
  by_cases k0 : τ 24 q.toNatClampNeg = 0
  · rw [if_pos k0]
    by_cases a0 : a < 0
    · rw [if_pos (show sp_X2_isPosition a = 0 by rw [sp_X2_isPosition, if_pos a0])]
      simp only [sp_X3_read_in, if_pos a0, sl_b1 k0, sl_n3, if_false]
      exact ⟨trivial, h⟩
    · by_cases a1 : (32 : Int32) ≤ a
      · rw [if_pos (show sp_X2_isPosition a = 0 by rw [sp_X2_isPosition, if_neg a0, if_pos a1])]
        simp only [sp_X3_read_in, if_neg a0, if_pos ((sl_gtle (x := a) (y := 31) (z := 32) rfl).mpr a1), sl_b1 k0, sl_n3, if_false]
        exact ⟨trivial, h⟩
      · obtain ⟨p, hp, rfl⟩ := vp_in_of (sl_in a0 a1 (n := 32) rfl) (by decide)
        rw [if_neg (show ¬ sp_X2_isPosition (nI p) = 0 by rw [sp_X2_isPosition, if_neg a0, if_neg a1]; decide)]
        simp only [sp_X3_read_in, if_neg a0, if_neg (fun g => a1 ((sl_gtle (x := nI p) (y := 31) (z := 32) rfl).mp g)), sl_b2 k0, if_true, sp_X0_begin, true_and, sl_chain (show p < 100 by omega)]
        refine sl_R_of (i := q.toNatClampNeg) ?_ ?_ ?_ ?_ (Or.inr (Or.inr (Or.inr (Or.inl ⟨?_, ⟨p, hp, ?_, ?_, ?_⟩⟩))))
        · repeat' first | exact hw | refine sl_kx hi (by decide) ?_ | refine sl_km (by decide) (by decide) (by decide) ?_
        all_goals simp (disch := decide) only [sl_up_s, sl_up_f, sl_up_k]
  · rw [if_neg k0]
    simp only [sp_X3_read_in, sl_b0 k0, sl_n2, if_false, ite_self]
    exact ⟨trivial, h⟩
theorem sl_r_replay (h : sl_R σ τ) (hc : vp_in q 3) : (sp_X2_replay_in σ q a).1 = (sp_X3_replay_in τ q a).1 ∧ sl_R (sp_X2_replay_in σ q a).2 (sp_X3_replay_in τ q a).2 := by
  have hi := sl_lt hc
  have e2 : σ (3 + q.toNatClampNeg) 2 = τ 24 q.toNatClampNeg := (h.2.2.2 _ hi).2.2.1
  have hw := sl_w h hi
  unfold sp_X2_replay_in
  rw [e2]
  by_cases k0 : τ 24 q.toNatClampNeg = 0
  · rw [if_pos k0]
    by_cases a0 : a < 0
    · rw [if_pos a0]
      simp only [sp_X3_replay_in, if_pos a0, sl_b1 k0, sl_n3, if_false]
      exact ⟨trivial, h⟩
    · rw [if_neg a0]
      by_cases a1 : a ≤ 32
      · rw [if_pos a1]
        obtain ⟨u, hu, rfl⟩ := nI_of2 (n := 32) rfl a0 a1
        simp only [sp_X3_replay_in, if_neg a0, if_neg (sl_nl a1), sl_b2 k0, if_true, sp_X0_begin, true_and]
        refine sl_R_of (i := q.toNatClampNeg) ?_ ?_ ?_ ?_ (Or.inr (Or.inr (Or.inr (Or.inr (Or.inl ⟨?_, ⟨0, u, Nat.zero_le u, hu, ?_, ?_, ?_, ?_, ?_, ?_⟩⟩)))))
        · repeat' first | exact hw | refine sl_kx hi (by decide) ?_ | refine sl_km (by decide) (by decide) (by decide) ?_
        all_goals simp (disch := decide) only [sl_up_s, sl_up_f, sl_up_k, nI_0]
        rw [sp_X0_replayRoute]
        simp (disch := decide) only [sl_up_s, sl_up_f, sl_up_k]
        by_cases c : 0 = u
        · rw [if_pos (by rw [← c]; rfl), if_pos c]
        · rw [if_neg (fun g => c ((nI_eq (by decide) (by omega)).mp (nI_0.trans g))), if_neg c, ← nI_0, sl_chain (by decide)]
          simp (disch := decide) only [sl_up_s, sl_up_f, sl_up_k]
      · rw [if_neg a1]
        simp only [sp_X3_replay_in, if_neg a0, if_pos (sl_gt a1), sl_b1 k0, sl_n3, if_false]
        exact ⟨trivial, h⟩
  · rw [if_neg k0]
    simp only [sp_X3_replay_in, sl_b0 k0, sl_n2, if_false, ite_self]
    exact ⟨trivial, h⟩
theorem sl_r_reform (h : sl_R σ τ) (hc : vp_in q 3) : (sp_X2_reform_in σ q a).1 = (sp_X3_reform_in τ q a).1 ∧ sl_R (sp_X2_reform_in σ q a).2 (sp_X3_reform_in τ q a).2 := by
  have hi := sl_lt hc
  have e2 : σ (3 + q.toNatClampNeg) 2 = τ 24 q.toNatClampNeg := (h.2.2.2 _ hi).2.2.1
  have e1 : σ (3 + q.toNatClampNeg) 1 = τ 26 q.toNatClampNeg := (h.2.2.2 _ hi).2.1
  have hw := sl_w h hi
  unfold sp_X2_reform_in
  rw [e2]
  by_cases k0 : τ 24 q.toNatClampNeg = 0
  · rw [if_pos k0]
    by_cases a0 : a < 0
    · rw [if_pos a0]
      simp only [sp_X3_reform_in, if_pos a0, if_pos k0, sl_b1 k0, sl_n3, if_false]
      exact ⟨trivial, h⟩
    · rw [if_neg a0]
      by_cases a1 : a ≤ 63
      · rw [if_pos a1]
        obtain ⟨w, hwn, rfl⟩ := nI_of2 (n := 63) rfl a0 a1
        obtain ⟨n, hn, en, -, -⟩ := hw.2.2.2.2.2.2
        obtain ⟨f7, f7l⟩ := sl_f7 n hn w (by omega)
        obtain ⟨f6a, f6b⟩ := sl_f6 _ f7l
        have el : τ 26 q.toNatClampNeg &&& (nI w ^^^ (-1 : Int32)) = nI (n &&& (63 ^^^ w)) := by rw [← e1, en]; exact f7
        rw [e1]
        simp only [sp_X3_reform_in, if_neg a0, if_neg (sl_nl a1), if_pos k0, sl_b2 k0, if_true, sl_up_k (σ := sl_up (sl_up (sl_up (sl_up (sl_up τ 24 q.toNatClampNeg 5) 27 q.toNatClampNeg 0) 28 q.toNatClampNeg 0) 31 q.toNatClampNeg 0) 30 q.toNatClampNeg 0) (k := 29) (a := 26) (by decide), sl_up_k (σ := sl_up (sl_up (sl_up (sl_up τ 24 q.toNatClampNeg 5) 27 q.toNatClampNeg 0) 28 q.toNatClampNeg 0) 31 q.toNatClampNeg 0) (k := 30) (a := 26) (by decide), sl_up_k (σ := sl_up (sl_up (sl_up τ 24 q.toNatClampNeg 5) 27 q.toNatClampNeg 0) 28 q.toNatClampNeg 0) (k := 31) (a := 26) (by decide), sl_up_k (σ := sl_up (sl_up τ 24 q.toNatClampNeg 5) 27 q.toNatClampNeg 0) (k := 28) (a := 26) (by decide), sl_up_k (σ := sl_up τ 24 q.toNatClampNeg 5) (k := 27) (a := 26) (by decide), sl_up_k (σ := τ) (k := 24) (a := 26) (by decide), el]
        by_cases c1 : nI (n &&& (63 ^^^ w)) &&& 21 = 0
        · rw [if_pos c1, if_pos (f6a.mp c1)]
          exact ⟨rfl, h⟩
        · rw [if_neg c1, if_neg (fun g => c1 (f6a.mpr g))]
          by_cases c2 : nI (n &&& (63 ^^^ w)) &&& 42 = 0
          · rw [if_pos c2, if_pos (f6b.mp c2)]
            exact ⟨rfl, h⟩
          · rw [if_neg c2, if_neg (fun g => c2 (f6b.mpr g))]
            refine ⟨rfl, ?_⟩
            show sl_R (sp_X0_begin _ _ _ _).2 (sl_up (sl_bg τ q.toNatClampNeg 5) 32 q.toNatClampNeg (nI (n &&& (63 ^^^ w))))
            simp only [sp_X0_begin]
            refine sl_R_of (i := q.toNatClampNeg) ?_ ?_ ?_ ?_ (Or.inr (Or.inr (Or.inr (Or.inr (Or.inr ⟨?_, ?_, ?_, ⟨0, by decide, ?_, ?_⟩, ?_, ⟨0, by decide, ?_⟩⟩)))))
            · repeat' first | exact hw | refine sl_kx hi (by decide) ?_ | refine sl_km (by decide) (by decide) (by decide) ?_
            all_goals simp (disch := decide) only [sl_up_s, sl_up_f, sl_up_k, nI_0, sl_drp]
            exact ⟨_, f7l, rfl, c1, c2⟩
      · rw [if_neg a1]
        simp only [sp_X3_reform_in, if_neg a0, if_pos (sl_gt a1), if_pos k0, sl_b1 k0, sl_n3, if_false]
        exact ⟨trivial, h⟩
  · rw [if_neg k0]
    simp only [sp_X3_reform_in, if_neg k0, sl_b0 k0, sl_n2, if_false, ite_self]
    exact ⟨trivial, h⟩
theorem sl_r_busy (h : sl_R σ τ) (hc : vp_in q 3) : sp_X2_busy_in σ q = sp_X3_busy_in τ q := (h.2.2.2 _ (sl_lt hc)).2.2.1
theorem sl_r_outcome (h : sl_R σ τ) (hc : vp_in q 3) : sp_X2_outcome_in σ q = sp_X3_outcome_in τ q := (h.2.2.2 _ (sl_lt hc)).2.2.2.1
theorem sl_r_number (h : sl_R σ τ) (hc : vp_in q 3) : sp_X2_number_in σ q = sp_X3_number_in τ q := (h.2.2.2 _ (sl_lt hc)).2.2.2.2.1
theorem sl_r_epochOf (h : sl_R σ τ) (hc : vp_in q 3) : sp_X2_epochOf_in σ q = sp_X3_epochOf_in τ q := (h.2.2.2 _ (sl_lt hc)).1
theorem sl_r_membersOf (h : sl_R σ τ) (hc : vp_in q 3) : sp_X2_membersOf_in σ q = sp_X3_membersOf_in τ q := (h.2.2.2 _ (sl_lt hc)).2.1
theorem sl_r_tail (h : sl_R σ τ) : sp_X2_tail σ = sp_X3_tail τ := h.1.2.2.2.1
theorem sl_r_unitEpoch {u : Int32} (h : sl_R σ τ) (hu : vp_in u 6) : sp_X2_unitEpoch_in σ u = sp_X3_unitEpoch_in τ u := (h.2.1 _ (sl_lt hu)).1
theorem sl_r_lose (h : sl_R σ τ) : sl_R (sp_X2_loseSequencer σ) (sp_X3_loseSequencer τ) := by
  obtain ⟨hG, hU, hR, hC⟩ := h
  unfold sp_X2_loseSequencer sp_X3_loseSequencer
  refine ⟨?_, sl_RU_fr hU (fun j g hj => sl_up_k (by omega)) (fun _ => sl_up_k (by decide)) (fun _ => sl_up_k (by decide)), sl_RR_fr hR (fun u p hu => sl_up_k (by omega)) (sl_up_f (by decide)) (fun _ => sl_up_k (by decide)) (fun _ => sl_up_k (by decide)) (fun _ => sl_up_k (by decide)), fun i hi => sl_RC_fr (hC i hi) (sl_up_row (by omega)) (fun k hk => sl_up_k (by omega))⟩
  obtain ⟨g1, g2, g3, g4, g5, n, hn, g6⟩ := hG
  refine ⟨?_, ?_, ?_, ?_, ?_, 0, by decide, ?_⟩
  all_goals simp (disch := decide) only [sl_up_s, sl_up_f, sl_up_k, nI_0]
  · exact g1
  · exact g2
  · exact g3
  · exact g5
theorem sl_r_setUp {u : Int32} (h : sl_R σ τ) (hu : vp_in u 6) (ha : a = 0 ∨ a = 1) : (sp_X2_setUp_in σ u a).1 = (sp_X3_setUp_in τ u a).1 ∧ sl_R (sp_X2_setUp_in σ u a).2 (sp_X3_setUp_in τ u a).2 := by
  have hj := sl_lt hu
  obtain ⟨hG, hU, hR, hC⟩ := h
  have key : ∀ z : Int32, (a = 0 ↔ z = 1) → sl_R (sl_up σ (6 + u.toNatClampNeg) 1 a) (sl_up τ 23 u.toNatClampNeg z) := by
    intro z hz
    refine ⟨sl_RG_fr hG (fun g => sl_up_k (by omega)) (fun g _ => sl_up_k (by decide)), ?_, sl_RR_fr hR (fun v p hv => sl_up_k (by omega)) (sl_up_k (by decide)) (fun _ => sl_up_k (by decide)) (fun _ => sl_up_k (by decide)) (fun _ => sl_up_k (by decide)), fun i hi => sl_RC_fr (hC i hi) (sl_up_row (by omega)) (fun k hk => sl_up_k (by omega))⟩
    intro j hj'
    obtain ⟨r1, r2⟩ := hU j hj'
    rw [sl_up_f (by decide), sl_up_k (σ := τ) (by decide)]
    refine ⟨r1, ?_⟩
    by_cases e : j = u.toNatClampNeg
    · subst e
      rw [sl_up_s, sl_up_s]
      exact hz
    · rw [sl_up_k (by omega), sl_up_f e]
      exact r2
  unfold sp_X2_setUp_in sp_X3_setUp_in
  by_cases c : a = 0
  · rw [if_pos c]
    exact ⟨rfl, key 1 ⟨fun _ => rfl, fun _ => c⟩⟩
  · rw [if_neg c]
    exact ⟨rfl, key 0 ⟨fun g => absurd g c, fun g => absurd g (by decide)⟩⟩
theorem sl_r_refresh (h : sl_R σ τ) (hc : vp_in q 3) : (sp_X2_refresh_in σ q).1 = (sp_X3_refresh_in τ q).1 ∧ sl_R (sp_X2_refresh_in σ q).2 (sp_X3_refresh_in τ q).2 := by
  have hi := sl_lt hc
  obtain ⟨hG, hU, hR, hC⟩ := id h
  obtain ⟨d0, d1, e2, d3, d4, d5, d6⟩ := hC _ hi
  unfold sp_X2_refresh_in sp_X3_refresh_in
  rw [e2]
  by_cases k0 : τ 24 q.toNatClampNeg = 0
  · rw [if_pos k0, if_pos k0]
    obtain ⟨g1, g2, g3, g4, g5, g6⟩ := id hG
    unfold sp_X2_takeStoreProjection
    refine ⟨?_, sl_RG_fr hG (fun g => ?_) (fun g _ => ?_), sl_RU_fr hU (fun j g hj => ?_) (fun _ => ?_) (fun _ => ?_), sl_RR_fr hR (fun v p hv => ?_) ?_ (fun _ => ?_) (fun _ => ?_) (fun _ => ?_), fun i' h' => ?_⟩
    case refine_12 =>
      by_cases e : i' = q.toNatClampNeg
      · subst e
        refine ⟨?_, ?_, ?_, ?_, ?_, ?_, Or.inl ?_⟩
        all_goals simp (disch := omega) only [sl_up_s, sl_up_f, sl_up_k]
        · exact g1
        · exact g2
        · exact e2
        · exact d3
        · exact d4
        · exact g5
        · exact k0
      · refine sl_RC_fr (hC i' h') ?_ (fun k hk => ?_)
        · show sl_up _ _ _ _ (3 + i') = _
          rw [sl_up_row (by omega), sl_up_row (by omega)]
        · show sl_up _ _ _ _ _ _ = _
          rw [sl_up_f e, sl_up_f e]
    all_goals simp (disch := omega) only [sl_up_s, sl_up_f, sl_up_k]
    exact g1
  · rw [if_neg k0, if_neg k0]
    exact ⟨rfl, h⟩
end SLB
