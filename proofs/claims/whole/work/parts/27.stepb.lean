section SLL
variable {σ τ : sl_M} {q : Int32}
theorem sl_tailj {n p : Nat} (hn : n < 64) (hok : nI n &&& sl_msk p ≠ 0) : ∃ j, j < 6 ∧ sp_X3_nth (nI n) (nI (p % 2)) (sp_X3_length (nI n) (nI (p % 2)) - 1) = nI j ∧ sp_X2_lowestUnit (sp_X2_highestOf (nI n &&& sl_msk p)) = nI j := by
  have hb : p % 2 < 2 := Nat.mod_lt _ (by decide)
  rw [sl_msk_mb] at hok ⊢
  obtain ⟨f4, f4n⟩ := sl_f4 n hn (p % 2) hb hok
  obtain ⟨j, hj, ej⟩ := vp_in_of (sl_nthI f4n) (by decide)
  exact ⟨j, hj, ej, by rw [f4, ej]⟩
theorem sl_at {n p j : Nat} (hkk : ¬ (τ 24 q.toNatClampNeg = 4 ∧ τ 29 q.toNatClampNeg = τ 32 q.toNatClampNeg)) (e26 : τ 26 q.toNatClampNeg = nI n) (e29 : τ 29 q.toNatClampNeg = nI p) (hp : p < 32) (hj : sp_X3_nth (nI n) (nI (p % 2)) (sp_X3_length (nI n) (nI (p % 2)) - 1) = nI j) (hj6 : j < 6) : sp_X3_atTail_in τ q = if τ 23 j = 1 then (-3, τ) else if τ 22 j ≤ τ 25 q.toNatClampNeg then sp_X3_atTail_in_126 τ q (sp_X3_length (nI n) (nI (p % 2))) (nI j) (sp_X3_look τ (nI j) (nI p)) else sp_X3_end τ q 2 0 := by
  have e : sp_X3_atTail_in τ q = sp_X3_atTail_in_38 τ q := by
    rw [sp_X3_atTail_in]
    by_cases k4 : τ 24 q.toNatClampNeg = 4
    · rw [if_pos k4, if_neg (fun g => hkk ⟨k4, g⟩)]
    · rw [if_neg k4]
  rw [e, sp_X3_atTail_in_38, e26, e29, sl_par (by omega), hj, sp_X3_atTail_in_77, nI_clamp (by omega), e29]
theorem sl_r_s3 (h : sl_R σ τ) (hc : vp_in q 3) (k : τ 24 q.toNatClampNeg = 3) (o : sl_O3 (σ (3 + q.toNatClampNeg)) (fun k => τ k q.toNatClampNeg)) : (sp_X2_step_in σ q).1 = (sp_X3_step_in τ q).1 ∧ sl_R (sp_X2_step_in σ q).2 (sp_X3_step_in τ q).2 := by
  have hi := sl_lt hc
  have hw := sl_w h hi
  obtain ⟨e0, e1', e2, e3, e4, hok, -⟩ := h.2.2.2 _ hi
  dsimp only at e0 e1' e2 e3 e4
  obtain ⟨n, hn, e1, -, -⟩ := id hok
  obtain ⟨p, hp, e29, e6, e5⟩ := o
  dsimp only at e29
  have hk0 : ¬ σ (3 + q.toNatClampNeg) 2 = 0 := by rw [e2, k]; decide
  rw [e1] at e5
  obtain ⟨j, hj, ej, el⟩ := sl_tailj (p := p) hn (by rw [← e1]; exact sl_ok_ne hok p)
  rw [sl_sxU (j := j) hk0 (by rw [e5, el]; exact nI_pos (by omega)) (by rw [e5, el]; exact nI_clamp (by omega)), sl_m34 (Or.inl k), sl_at (fun g => absurd (k.symm.trans g.1) (by decide)) (e1'.symm.trans e1) e29 hp ej hj, sl_new4 e0 e2 (by rw [k]; decide)]
  refine sl_unit h hi hj ?_
  rw [sp_X2_stepAtUnit, if_neg (by rw [e2, k]; decide), if_neg (by rw [e2, k]; decide), if_pos (e2.trans k), sl_look_eq h.2.2.1 hj hp]
  show (sp_X2_readAt σ q.toNatClampNeg j).1 = _ ∧ sl_R (sp_X2_readAt σ q.toNatClampNeg j).2 _
  rw [sp_X2_readAt, e6, sl_ct hp, sp_X3_atTail_in_126, if_pos k]
  by_cases z : σ (6 + j + 6) p = -2
  · rw [if_pos z, if_pos z, z]
    exact sl_R_end hi hw
  · rw [if_neg z, if_neg z]
    exact sl_R_end hi hw
theorem sl_rr {s : sl_M} {i p u : Nat} (hp : p ≤ 32) (hu : u ≤ 32) (h6 : s (3 + i) 6 = nI p) (h8 : s (3 + i) 8 = nI u) : sp_X0_replayRoute s i = if p = u then 0 else sp_X2_highestOf (s (3 + i) 1 &&& sl_msk p) := by
  rw [sp_X0_replayRoute, h6, h8, sl_chain (by omega)]
  by_cases c : p = u
  · rw [if_pos (by rw [c]), if_pos c]
  · rw [if_neg (fun g => c (sl_nIi (by omega) (by omega) g)), if_neg c]
theorem sl_r_s4 (h : sl_R σ τ) (hc : vp_in q 3) (k : τ 24 q.toNatClampNeg = 4) (o : sl_O4 (σ (3 + q.toNatClampNeg)) (fun k => τ k q.toNatClampNeg)) : (sp_X2_step_in σ q).1 = (sp_X3_step_in τ q).1 ∧ sl_R (sp_X2_step_in σ q).2 (sp_X3_step_in τ q).2 := by
  have hi := sl_lt hc
  have hw := sl_w h hi
  obtain ⟨e0, e1', e2, e3, e4, hok, -⟩ := h.2.2.2 _ hi
  dsimp only at e0 e1' e2 e3 e4
  obtain ⟨n, hn, e1, -, -⟩ := id hok
  obtain ⟨p, u, hpu, hu, e29, e6, e8, e32, e9, e5⟩ := o
  dsimp only at e29 e32 e9
  have hk0 : ¬ σ (3 + q.toNatClampNeg) 2 = 0 := by rw [e2, k]; decide
  by_cases c : p = u
  · rw [if_pos c] at e5
    rw [sl_sxN hk0 (by rw [e5]; decide), sp_X2_stepWithoutUnit, if_neg (by rw [e2, k]; decide), if_pos (e2.trans k), sl_m34 (Or.inr k), sp_X3_atTail_in, if_pos k, if_pos (by rw [e29, e32, c]), e9]
    exact sl_R_end hi hw
  · rw [if_neg c, e1] at e5
    have hp : p < 32 := by omega
    obtain ⟨j, hj, ej, el⟩ := sl_tailj (p := p) hn (by rw [← e1]; exact sl_ok_ne hok p)
    have hV : -2 ≤ (σ (6 + j + 6) p).toInt := by
      obtain ⟨R, -, -, -, -, -, hV⟩ := h.2.2.1
      exact hV j p hj hp
    rw [sl_sxU (j := j) hk0 (by rw [e5, el]; exact nI_pos (by omega)) (by rw [e5, el]; exact nI_clamp (by omega)), sl_m34 (Or.inr k), sl_at (fun g => c (sl_nIi (by omega) (by omega) (e29.symm.trans (g.2.trans e32)))) (e1'.symm.trans e1) e29 hp ej hj, sl_new4 e0 e2 (by rw [k]; decide)]
    refine sl_unit h hi hj ?_
    rw [sp_X2_stepAtUnit, if_neg (by rw [e2, k]; decide), if_neg (by rw [e2, k]; decide), if_neg (by rw [e2, k]; decide), if_pos (e2.trans k), sl_look_eq h.2.2.1 hj hp]
    show (sp_X2_replayAt σ q.toNatClampNeg j).1 = _ ∧ sl_R (sp_X2_replayAt σ q.toNatClampNeg j).2 _
    rw [sp_X2_replayAt, e6, sl_ct hp, sp_X3_atTail_in_126, if_neg (show ¬ τ 24 q.toNatClampNeg = 3 by rw [k]; decide), e29]
    by_cases z : σ (6 + j + 6) p = -2
    · rw [if_pos z, if_pos z]
      exact sl_R_end hi hw
    · rw [if_neg z, if_neg z]
      by_cases y : σ (6 + j + 6) p = -1
      · rw [if_pos y, if_pos (show σ (6 + j + 6) p < 0 by rw [y]; decide), nI_1, sl_rr (s := sl_up σ (3 + q.toNatClampNeg) 6 (nI (p + 1))) (i := q.toNatClampNeg) (p := p + 1) (u := u) (by omega) hu (sl_up_s _ _ _ _) (by rw [sl_up_f (by decide)]; exact e8)]
        refine ⟨rfl, ?_⟩
        show sl_R (sl_up (sl_up σ (3 + q.toNatClampNeg) 6 (nI (p + 1))) (3 + q.toNatClampNeg) 5 _) (sl_up τ 29 q.toNatClampNeg (nI (p + 1)))
        refine sl_R_of (i := q.toNatClampNeg) (sl_kx hi (by decide) (sl_kx hi (by decide) (sl_km (by decide) (by decide) (by decide) hw))) ?_ ?_ ?_ (Or.inr (Or.inr (Or.inr (Or.inr (Or.inl ⟨?_, p + 1, u, by omega, hu, ?_, ?_, ?_, ?_, ?_, ?_⟩)))))
        all_goals simp (disch := decide) only [sl_up_s, sl_up_f, sl_up_k]
        · exact e2
        · exact e3
        · exact e4
        · exact k
        · exact e8
        · exact e32
        · exact e9
      · have hz0 : ¬ σ (6 + j + 6) p < 0 := by
          intro g
          have g1 := Int32.lt_iff_toInt_lt.mp g
          have g0 : (0 : Int32).toInt = 0 := rfl
          have z1 : (σ (6 + j + 6) p).toInt ≠ -2 := fun g => z (Int32.toInt_inj.mp (g.trans rfl))
          have y1 : (σ (6 + j + 6) p).toInt ≠ -1 := fun g => y (Int32.toInt_inj.mp (g.trans rfl))
          omega
        rw [if_neg y, if_neg hz0, sl_up_f (σ := σ) (f := 9) (b := 6) (by decide), e6, sl_up_k (σ := τ) (k := 30) (a := 29) (by decide), e29, nI_1, e9, sl_rr (s := sl_up (sl_up σ (3 + q.toNatClampNeg) 9 (τ 30 q.toNatClampNeg * 31 + σ (6 + j + 6) p)) (3 + q.toNatClampNeg) 6 (nI (p + 1))) (i := q.toNatClampNeg) (p := p + 1) (u := u) (by omega) hu (sl_up_s _ _ _ _) (by rw [sl_up_f (by decide), sl_up_f (by decide)]; exact e8)]
        refine ⟨rfl, ?_⟩
        show sl_R (sl_up (sl_up (sl_up σ (3 + q.toNatClampNeg) 9 _) (3 + q.toNatClampNeg) 6 (nI (p + 1))) (3 + q.toNatClampNeg) 5 _) (sl_up (sl_up τ 30 q.toNatClampNeg _) 29 q.toNatClampNeg (nI (p + 1)))
        refine sl_R_of (i := q.toNatClampNeg) (sl_kx hi (by decide) (sl_kx hi (by decide) (sl_kx hi (by decide) (sl_km (by decide) (by decide) (by decide) (sl_km (by decide) (by decide) (by decide) hw))))) ?_ ?_ ?_ (Or.inr (Or.inr (Or.inr (Or.inr (Or.inl ⟨?_, p + 1, u, by omega, hu, ?_, ?_, ?_, ?_, ?_, ?_⟩)))))
        all_goals simp (disch := decide) only [sl_up_s, sl_up_f, sl_up_k]
        · exact e2
        · exact e3
        · exact e4
        · exact k
        · exact e8
        · exact e32
theorem sl_w_seal {i j : Nat} {E : Int32} (hi : i < 3) (hj : j < 6) (h : sl_Rw i σ τ) : sl_Rw i (sl_up σ (6 + j) 0 E) (sl_up τ 22 j E) := by
  obtain ⟨hG, hU, hR, hC, a1, a2, a3⟩ := h
  refine ⟨sl_RG_fr hG (fun g => sl_up_k (by omega)) (fun g _ => sl_up_k (by decide)), fun j' hj' => ?_, sl_RR_fr hR (fun u p hu => sl_up_k (by omega)) (sl_up_k (by decide)) (fun _ => sl_up_k (by decide)) (fun _ => sl_up_k (by decide)) (fun _ => sl_up_k (by decide)), fun i' h' e => sl_RC_fr (hC i' h' e) (sl_up_row (by omega)) (fun k hk => sl_up_k (by omega)), ?_, ?_, ?_⟩
  · obtain ⟨r1, r2⟩ := hU j' hj'
    rw [sl_up_f (σ := σ) (f := 0) (b := 1) (by decide), sl_up_k (σ := τ) (k := 22) (a := 23) (by decide)]
    refine ⟨?_, r2⟩
    by_cases e : j' = j
    · subst e
      rw [sl_up_s, sl_up_s]
    · rw [sl_up_k (by omega), sl_up_f e]
      exact r1
  · rw [sl_up_k (by omega), sl_up_k (by decide)]; exact a1
  · rw [sl_up_k (by omega), sl_up_k (by decide)]; exact a2
  · rw [sl_up_k (by omega)]; exact a3
theorem sl_w_store {i w : Nat} {E s : Int32} (hi : i < 3) (hw : w ≤ 32) (hs : sl_ok s) (h : sl_Rw i σ τ) : sl_Rw i (sl_up (sl_up (sl_up (sl_up (sl_up (sl_up σ 0 2 E) 0 3 s) 0 4 E) 0 5 (nI w)) (3 + i) 0 E) (3 + i) 1 s) (sl_up (sl_up (sl_up (sl_up (sl_up (sl_up τ 18 6 E) 18 7 s) 18 8 E) 18 9 (nI w)) 25 i E) 26 i s) := by
  obtain ⟨hG, hU, hR, hC, a1, a2, a3⟩ := h
  refine ⟨⟨?_, ?_, ?_, ?_, ?_, w, hw, ?_⟩, sl_RU_fr hU (fun j g hj => ?_) (fun _ => ?_) (fun _ => ?_), sl_RR_fr hR (fun u p hu => ?_) ?_ (fun _ => ?_) (fun _ => ?_) (fun _ => ?_), fun i' h' e => sl_RC_fr (hC i' h' e) ?_ (fun k hk => ?_), ?_, ?_, ?_⟩
  all_goals first | (simp (disch := omega) only [sl_up_s, sl_up_f, sl_up_k]; done) | skip
  · simp (disch := omega) only [sl_up_s, sl_up_f, sl_up_k]
    exact hs
  · rw [sl_up_row (by omega), sl_up_row (by omega), sl_up_row (by omega), sl_up_row (by omega), sl_up_row (by omega), sl_up_row (by omega)]
  · simp (disch := omega) only [sl_up_s, sl_up_f, sl_up_k]
    exact hs
theorem sl_r_s5 (h : sl_R σ τ) (hc : vp_in q 3) (k : τ 24 q.toNatClampNeg = 5) (o : sl_O5 (σ (3 + q.toNatClampNeg)) (fun k => τ k q.toNatClampNeg)) : (sp_X2_step_in σ q).1 = (sp_X3_step_in τ q).1 ∧ sl_R (sp_X2_step_in σ q).2 (sp_X3_step_in τ q).2 := by
  have hi := sl_lt hc
  have hw := sl_w h hi
  obtain ⟨e0, e1', e2, e3, e4, hok, -⟩ := h.2.2.2 _ hi
  dsimp only at e0 e1' e2 e3 e4
  obtain ⟨e10, hok2, ⟨a, ha, e31, e5⟩, e11, w, hw32, e30⟩ := o
  dsimp only at e10 hok2 e31 e5 e11 e30
  obtain ⟨n, hn, e32, -, -⟩ := id hok2
  have hk0 : ¬ σ (3 + q.toNatClampNeg) 2 = 0 := by rw [e2, k]; decide
  obtain ⟨f5, f5n⟩ := sl_f5 n hn a (by omega)
  have hM : sp_X3_step_in τ q = sp_X3_seal_in_17 τ q (sp_X3_nth (nI n) 2 (nI a)) := by
    rw [sp_X3_step_in, if_neg (by rw [k]; decide), if_pos k]
    show sp_X3_seal_in τ q = _
    rw [sp_X3_seal_in, e32, e31]
  have el : sp_X2_lowestUnit (σ (3 + q.toNatClampNeg) 5) = sp_X3_nth (nI n) 2 (nI a) := by rw [e5, e32, f5]
  rw [hM, sp_X3_seal_in_17]
  by_cases c : sp_X3_nth (nI n) 2 (nI a) < 0
  · obtain ⟨g1, g2, g3, g4, g5, m, hm, g6⟩ := id h.1
    rw [sl_sxN hk0 (by rw [el]; exact c), sp_X2_stepWithoutUnit, if_neg (by rw [e2, k]; decide), if_neg (by rw [e2, k]; decide), if_pos c]
    show (sp_X2_askStore σ q.toNatClampNeg).1 = _ ∧ sl_R (sp_X2_askStore σ q.toNatClampNeg).2 _
    rw [sp_X2_askStore, g1, e0]
    by_cases d : τ 18 6 = τ 25 q.toNatClampNeg
    · rw [if_pos d, if_pos d]
      simp only [sp_X2_takeStoreProjection]
      simp (disch := omega) only [sl_up_s, sl_up_f, sl_up_k]
      rw [e10, e11, e30]
      exact sl_R_end hi (sl_w_store hi hw32 hok2 hw)
    · rw [if_neg d, if_neg d]
      exact sl_R_end hi hw
  · obtain ⟨j, hj, ej⟩ := vp_in_of (sl_nthI c) (by decide)
    have hnew : sp_X0_newestEpochItBears σ q.toNatClampNeg = τ 25 q.toNatClampNeg + 1 := by rw [sp_X0_newestEpochItBears, if_pos (e2.trans k), e0]
    have ha6 := f5n c
    rw [if_neg c, ej, nI_clamp (show j < 2 ^ 31 by omega), sl_sxU (j := j) hk0 (by rw [el]; exact c) (by rw [el, ej]; exact nI_clamp (by omega)), hnew]
    refine sl_unit h hi hj ?_
    rw [sp_X2_stepAtUnit, if_neg (by rw [e2, k]; decide), if_neg (by rw [e2, k]; decide), if_neg (by rw [e2, k]; decide), if_neg (by rw [e2, k]; decide)]
    show (sp_X2_sealAt σ q.toNatClampNeg j).1 = _ ∧ sl_R (sp_X2_sealAt σ q.toNatClampNeg j).2 _
    obtain ⟨R, hR, h0, hA, hB, hC, hV⟩ := id h.2.2.1
    obtain ⟨V, v1, v2, v3, v4, v5⟩ := sl_seal_l (q := q) (u := j) hR hj 193 0 (sl_up τ 22 j (τ 25 q.toNatClampNeg + 1)) w (by omega) (by omega) hw32 (by rw [sl_up_k (by decide)]; exact h0) (by rw [sl_up_k (by decide)]; exact e30) (fun m hm => by
      obtain ⟨u, p, _, hp, _, g2, _⟩ := hA m hm
      exact ⟨p, hp, by rw [sl_up_k (by decide)]; exact g2⟩)
    obtain ⟨ee, w1, w2, w3, w4⟩ := sl_eow (σ := sl_up σ (6 + j) 0 (τ 25 q.toNatClampNeg + 1)) (j := j)
    have hVe : V = if w < ee then ee else w := by
      have x1 : ee ≤ V := by
        rcases w4 with e | ⟨p, hp, g, e⟩
        · omega
        · rw [sl_up_k (by omega)] at g
          obtain ⟨m, m1, m2, m3⟩ := hB j p hj hp g
          have := v3 m p (by omega) m1 hp (by rw [sl_up_k (by decide)]; exact m2) (by rw [sl_up_k (by decide)]; exact m3)
          omega
      have x2 : V = w ∨ V ≤ ee := by
        rcases v4 with e | ⟨m, p, m1, hp, m2, m3, e⟩
        · exact Or.inl e
        · rw [sl_up_k (by decide)] at m2 m3
          obtain ⟨u', p', hu', hp', y1, y2, y3, y4⟩ := hA m m1
          have z1 : u' = j := sl_nIi (by omega) (by omega) (y1.symm.trans m2)
          have z2 : p' = p := sl_nIi (by omega) (by omega) (y2.symm.trans m3)
          subst z1; subst z2
          have := w3 p' hp' (by rw [sl_up_k (by omega), ← y3]; exact y4)
          exact Or.inr (by omega)
      split <;> omega
    have hmax : (if nI w < nI ee then nI ee else nI w) = nI V := by
      rw [hVe]
      by_cases c2 : w < ee
      · rw [if_pos (nI_lt c2 (by omega)), if_pos c2]
      · rw [if_neg (nI_nlt (by omega) (by omega)), if_neg c2]
    rw [nI_0] at v5
    rw [v5, sp_X2_sealAt, e0, w2, sl_up_k (σ := σ) (k := 6 + j) (a := 3 + q.toNatClampNeg) (by omega), e11, e30, hmax, sl_up_f (f := 11) (b := 5) (by decide), sl_up_k (σ := σ) (k := 6 + j) (a := 3 + q.toNatClampNeg) (by omega), e5, sl_up_k (σ := τ) (k := 22) (a := 31) (by decide), e31, nI_1]
    refine ⟨rfl, ?_⟩
    show sl_R (sl_up (sl_up (sl_up σ (6 + j) 0 (τ 25 q.toNatClampNeg + 1)) (3 + q.toNatClampNeg) 11 (nI V)) (3 + q.toNatClampNeg) 5 (sl_drp (a + 1) (τ 32 q.toNatClampNeg))) (sl_up (sl_up (sl_up τ 22 j (τ 25 q.toNatClampNeg + 1)) 30 q.toNatClampNeg (nI V)) 31 q.toNatClampNeg (nI (a + 1)))
    refine sl_R_of (i := q.toNatClampNeg) (sl_kx hi (by decide) (sl_kx hi (by decide) (sl_km (by decide) (by decide) (by decide) (sl_km (by decide) (by decide) (by decide) (sl_w_seal hi hj hw))))) ?_ ?_ ?_ (Or.inr (Or.inr (Or.inr (Or.inr (Or.inr ⟨?_, ?_, ?_, ⟨a + 1, by omega, ?_, ?_⟩, ?_, ⟨V, v1, ?_⟩⟩)))))
    all_goals simp (disch := omega) only [sl_up_s, sl_up_f, sl_up_k]
    · exact e2
    · exact e3
    · exact e4
    · exact k
    · exact e10
    · exact hok2
theorem sl_r_step (h : sl_R σ τ) (hc : vp_in q 3) : (sp_X2_step_in σ q).1 = (sp_X3_step_in τ q).1 ∧ sl_R (sp_X2_step_in σ q).2 (sp_X3_step_in τ q).2 := by
  have hi := sl_lt hc
  obtain ⟨e0, e1, e2, e3, e4, hok, op⟩ := h.2.2.2 _ hi
  rcases op with k | ⟨k, o⟩ | ⟨k, o⟩ | ⟨k, o⟩ | ⟨k, o⟩ | ⟨k, o⟩
  · have k' : τ 24 q.toNatClampNeg = 0 := k
    rw [sp_X2_step_in, if_pos (e2.trans k), sp_X3_step_in, if_pos k']
    exact ⟨rfl, h⟩
  · exact sl_r_s1 h hc k o
  · exact sl_r_s2 h hc k o
  · exact sl_r_s3 h hc k o
  · exact sl_r_s4 h hc k o
  · exact sl_r_s5 h hc k o
theorem sl_r_pre (h : sl_R σ τ) (hc : vp_in q 3) : 0 ≤ (τ 18 0).toInt ∧ (τ 18 0).toInt ≤ 192 ∧ (((τ 24 q.toNatClampNeg) = (3 : Int32) ∨ (τ 24 q.toNatClampNeg) = (4 : Int32)) → ¬ ((τ 24 q.toNatClampNeg) = (4 : Int32) ∧ (τ 29 q.toNatClampNeg) = (τ 32 q.toNatClampNeg)) → vp_in (sp_X3_nth (τ 26 q.toNatClampNeg) ((τ 29 q.toNatClampNeg) - (τ 29 q.toNatClampNeg) / (2 : Int32) * (2 : Int32)) ((sp_X3_length (τ 26 q.toNatClampNeg) ((τ 29 q.toNatClampNeg) - (τ 29 q.toNatClampNeg) / (2 : Int32) * (2 : Int32))) - (1 : Int32))) 6) ∧ (((τ 24 q.toNatClampNeg) = (2 : Int32) ∨ (¬ (τ 24 q.toNatClampNeg) = 0 ∧ ¬ (τ 24 q.toNatClampNeg) = (5 : Int32) ∧ ¬ (τ 24 q.toNatClampNeg) = (3 : Int32) ∧ ¬ (τ 24 q.toNatClampNeg) = (4 : Int32) ∧ ¬ (τ 29 q.toNatClampNeg) < 0)) → vp_in (sp_X3_nth (τ 26 q.toNatClampNeg) ((τ 29 q.toNatClampNeg) - (τ 29 q.toNatClampNeg) / (2 : Int32) * (2 : Int32)) (τ 31 q.toNatClampNeg)) 6 ∧ (sp_X3_look τ (sp_X3_nth (τ 26 q.toNatClampNeg) ((τ 29 q.toNatClampNeg) - (τ 29 q.toNatClampNeg) / (2 : Int32) * (2 : Int32)) (τ 31 q.toNatClampNeg)) (τ 29 q.toNatClampNeg) = (-2 : Int32) → vp_in (τ 18 0) 192)) := by
  have hi := sl_lt hc
  obtain ⟨r0, r1⟩ := sl_r_rows h
  obtain ⟨e0, e1', e2, e3, e4, hok, op⟩ := h.2.2.2 _ hi
  dsimp only at e0 e1' e2 e3 e4
  obtain ⟨n, hn, e1, -, -⟩ := id hok
  have e26 := e1'.symm.trans e1
  refine ⟨r0, r1, fun k34 hne => ?_, fun k12 => ?_⟩
  · have hp : ∃ p, p < 32 ∧ τ 29 q.toNatClampNeg = nI p := by
      rcases op with k | ⟨k, o⟩ | ⟨k, o⟩ | ⟨k, o⟩ | ⟨k, o⟩ | ⟨k, o⟩
      · rcases k34 with g | g
        · exact absurd (k.symm.trans g) (by decide)
        · exact absurd (k.symm.trans g) (by decide)
      · rcases k34 with g | g
        · exact absurd (k.symm.trans g) (by decide)
        · exact absurd (k.symm.trans g) (by decide)
      · rcases k34 with g | g
        · exact absurd (k.symm.trans g) (by decide)
        · exact absurd (k.symm.trans g) (by decide)
      · obtain ⟨p, hp, e29, -⟩ := o
        exact ⟨p, hp, e29⟩
      · obtain ⟨p, u, hpu, hu, e29, -, -, e32, -⟩ := o
        refine ⟨p, ?_, e29⟩
        have : p ≠ u := fun g => hne ⟨k, by dsimp only at e29 e32; rw [e29, e32, g]⟩
        omega
      · rcases k34 with g | g
        · exact absurd (k.symm.trans g) (by decide)
        · exact absurd (k.symm.trans g) (by decide)
    obtain ⟨p, hp, e29⟩ := hp
    obtain ⟨j, hj, ej, -⟩ := sl_tailj (p := p) hn (by rw [← e1]; exact sl_ok_ne hok p)
    rw [e26, e29, sl_par (by omega), ej]
    exact vp_in_nI hj (by decide)
  · have hon : sl_on (σ (3 + q.toNatClampNeg)) (fun k => τ k q.toNatClampNeg) := by
      rcases op with k | ⟨k, o⟩ | ⟨k, o⟩ | ⟨k, o⟩ | ⟨k, o⟩ | ⟨k, o⟩
      · rcases k12 with g | ⟨g, -⟩
        · exact absurd (k.symm.trans g) (by decide)
        · exact absurd k g
      · rcases k12 with g | ⟨-, -, -, -, g⟩
        · exact absurd (k.symm.trans g) (by decide)
        · obtain ⟨-, -, ⟨p29, -⟩ | on⟩ := o
          · exact absurd (by dsimp only at p29; rw [p29]; decide) g
          · exact on
      · exact o.1
      · rcases k12 with g | ⟨-, -, g, -⟩
        · exact absurd (k.symm.trans g) (by decide)
        · exact absurd k g
      · rcases k12 with g | ⟨-, -, -, g, -⟩
        · exact absurd (k.symm.trans g) (by decide)
        · exact absurd k g
      · rcases k12 with g | ⟨-, g, -⟩
        · exact absurd (k.symm.trans g) (by decide)
        · exact absurd k g
    obtain ⟨p, a, hp, ha, e29, e6, e31, e5, e5n⟩ := hon
    dsimp only at e29 e31
    rw [e1] at e5
    obtain ⟨j, hj, ej, el⟩ := sl_stand hn hp ha e1 e5 e5n
    rw [e26, e29, e31, sl_par (by omega), ej, sl_look_eq h.2.2.1 hj hp]
    refine ⟨vp_in_nI hj (by decide), fun z => ?_⟩
    obtain ⟨R, hR, h0⟩ := sl_free h.2.2.1 hj hp z
    rw [h0]
    exact vp_in_nI hR (by decide)
theorem sl_r_init {F : Nat → Nat → Int32} {Mf : Nat → Int32} (hF : ∀ j k, j < 6 → k < 32 → F j k = -2) (hM : ∀ k, k < 3 → Mf k = 63) : sl_R (sl_s0 F) (sl_t0 Mf) := by
  have ok63 : sl_ok 63 := ⟨63, by decide, rfl, by decide, by decide⟩
  have hcell : ∀ u p, u < 6 → p < 32 → sl_s0 F (6 + u + 6) p = -2 := fun u p hu hp => by
    rw [sl_s0, if_neg (by omega), if_neg (by omega), if_neg (by omega), show 6 + u + 6 - 12 = u by omega]
    exact hF u p hu hp
  refine ⟨⟨rfl, rfl, rfl, rfl, ok63, 0, by decide, rfl⟩, fun j hj => ?_, ⟨0, by decide, rfl, fun n hn => absurd hn (by omega), fun u p hu hp hne => absurd (hcell u p hu hp) hne, fun n n' hn => absurd hn (by omega), fun u p hu hp => by rw [hcell u p hu hp]; decide⟩, fun i hi => ?_⟩
  · have s0 : sl_s0 F (6 + j) 0 = 0 := by rw [sl_s0, if_neg (by omega), if_neg (by omega), if_pos (by omega), if_neg (by decide)]
    have s1 : sl_s0 F (6 + j) 1 = 1 := by rw [sl_s0, if_neg (by omega), if_neg (by omega), if_pos (by omega), if_pos rfl]
    rw [s0, s1]
    exact ⟨rfl, fun g => absurd g (by decide), fun g => absurd (show (0 : Int32) = 1 from g) (by decide)⟩
  · have hs : ∀ f, sl_s0 F (3 + i) f = if f = 1 then 63 else if f = 7 then -2 else 0 := fun f => by rw [sl_s0, if_neg (by omega), if_pos (by omega)]
    refine ⟨?_, ?_, ?_, ?_, ?_, ?_, Or.inl rfl⟩
    · rw [hs]; rfl
    · rw [hs]; exact (hM i hi).symm
    · rw [hs]; rfl
    · rw [hs]; rfl
    · rw [hs]; rfl
    · rw [hs]; exact ok63
end SLL
