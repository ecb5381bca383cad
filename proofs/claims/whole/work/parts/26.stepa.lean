/-! one step, kind by kind -/
section SLK
variable {σ τ : sl_M} {q : Int32}
theorem sl_m12 (k : τ 24 q.toNatClampNeg = 1 ∧ ¬ τ 29 q.toNatClampNeg < 0 ∨ τ 24 q.toNatClampNeg = 2) : sp_X3_step_in τ q = sp_X3_alongChain_in τ q := by
  rcases k with ⟨k, hp⟩ | k
  · rw [sp_X3_step_in, if_neg (by rw [k]; decide), if_neg (by rw [k]; decide), if_neg (by rw [k]; decide), if_neg (by rw [k]; decide), if_neg (by rw [k]; decide), if_neg hp]
  · rw [sp_X3_step_in, if_neg (by rw [k]; decide), if_neg (by rw [k]; decide), if_neg (by rw [k]; decide), if_neg (by rw [k]; decide), if_pos k]
theorem sl_m34 (k : τ 24 q.toNatClampNeg = 3 ∨ τ 24 q.toNatClampNeg = 4) : sp_X3_step_in τ q = sp_X3_atTail_in τ q := by
  rcases k with k | k
  · rw [sp_X3_step_in, if_neg (by rw [k]; decide), if_neg (by rw [k]; decide), if_pos k]
  · rw [sp_X3_step_in, if_neg (by rw [k]; decide), if_neg (by rw [k]; decide), if_neg (by rw [k]; decide), if_pos k]
theorem sl_new4 (e0 : σ (3 + q.toNatClampNeg) 0 = τ 25 q.toNatClampNeg) (e2 : σ (3 + q.toNatClampNeg) 2 = τ 24 q.toNatClampNeg) (k : τ 24 q.toNatClampNeg ≠ 5) : sp_X0_newestEpochItBears σ q.toNatClampNeg = τ 25 q.toNatClampNeg := by
  rw [sp_X0_newestEpochItBears, if_neg (by rw [e2]; exact k), e0]
/-- where an append or a fill stands -/
theorem sl_stand {n p a : Nat} (hn : n < 64) (hp : p < 32) (ha : a < 6) (e1 : σ (3 + q.toNatClampNeg) 1 = nI n) (e5 : σ (3 + q.toNatClampNeg) 5 = sl_drp a (nI n &&& sl_msk p)) (e5n : σ (3 + q.toNatClampNeg) 5 ≠ 0) : ∃ j, j < 6 ∧ sp_X3_nth (nI n) (nI (p % 2)) (nI a) = nI j ∧ sp_X2_lowestUnit (σ (3 + q.toNatClampNeg) 5) = nI j := by
  have hb : p % 2 < 2 := Nat.mod_lt _ (by decide)
  have e5m : sl_drp a (nI n &&& sl_mb (p % 2)) ≠ 0 := by rw [← sl_msk_mb, ← e5]; exact e5n
  obtain ⟨f1, f1n⟩ := sl_f1 n hn (p % 2) hb a ha e5m
  obtain ⟨j, hj, ej⟩ := vp_in_of (sl_nthI f1n) (by decide)
  exact ⟨j, hj, ej, by rw [e5, sl_msk_mb, f1, ej]⟩
theorem sl_r_s1 (h : sl_R σ τ) (hc : vp_in q 3) (k : τ 24 q.toNatClampNeg = 1) (o : sl_O1 (σ (3 + q.toNatClampNeg)) (fun k => τ k q.toNatClampNeg)) : (sp_X2_step_in σ q).1 = (sp_X3_step_in τ q).1 ∧ sl_R (sp_X2_step_in σ q).2 (sp_X3_step_in τ q).2 := by
  have hi := sl_lt hc
  have hw := sl_w h hi
  obtain ⟨e0, e1', e2, e3, e4, hok, -⟩ := h.2.2.2 _ hi
  dsimp only at e0 e1' e2 e3 e4
  obtain ⟨n, hn, e1, -, -⟩ := id hok
  obtain ⟨h7, h30, hpos⟩ := o
  dsimp only at h7 h30 hpos
  have hk0 : ¬ σ (3 + q.toNatClampNeg) 2 = 0 := by rw [e2, k]; decide
  rcases hpos with ⟨p29, r0⟩ | ⟨p, a, hp, ha, e29, e6, e31, e5, e5n⟩
  · rw [sl_sxN hk0 (by rw [r0]; decide), sp_X2_stepWithoutUnit, if_pos (e2.trans k), sp_X3_step_in, if_neg (by rw [k]; decide), if_neg (by rw [k]; decide), if_neg (by rw [k]; decide), if_neg (by rw [k]; decide), if_neg (by rw [k]; decide), if_pos (by rw [p29]; decide)]
    show (sp_X2_askSequencer σ q.toNatClampNeg).1 = _ ∧ sl_R (sp_X2_askSequencer σ q.toNatClampNeg).2 _
    obtain ⟨g1, g2, g3, g4, g5, m, hm, g6⟩ := id h.1
    rw [sp_X2_askSequencer, e0, g3]
    by_cases c : τ 25 q.toNatClampNeg = τ 18 8
    · rw [if_pos c, if_pos c]
      by_cases d : m = 32
      · rw [if_neg (show ¬ σ 0 5 < 32 by rw [g6, d]; decide), if_pos (show τ 18 9 = 32 by rw [← g4, g6, d]; rfl)]
        exact sl_R_end hi hw
      · rw [if_pos (show σ 0 5 < 32 by rw [g6]; exact nI_lt (b := 32) (by omega) (by decide)), if_neg (show ¬ τ 18 9 = 32 from fun g => d (sl_nIi (by omega) (by decide) (g6.symm.trans (g4.trans g))))]
        refine ⟨rfl, ?_⟩
        have ech : sp_X0_chainOf (sl_up σ (3 + q.toNatClampNeg) 6 (σ 0 5)) q.toNatClampNeg ((sl_up σ (3 + q.toNatClampNeg) 6 (σ 0 5)) (3 + q.toNatClampNeg) 6) = nI n &&& sl_msk m := by rw [sl_up_s, g6, sl_chain (by omega), sl_up_f (by decide), e1]
        have e05 : ∀ x y : Int32, sl_up (sl_up σ (3 + q.toNatClampNeg) 6 x) (3 + q.toNatClampNeg) 5 y 0 5 = nI m := fun x y => by rw [sl_up_k (by omega), sl_up_k (by omega), g6]
        have e18 : ∀ x : Int32, sl_up τ 29 q.toNatClampNeg x 18 9 = nI m := fun x => by rw [sl_up_k (by decide), ← g4, g6]
        show sl_R (sl_up (sl_up (sl_up σ (3 + q.toNatClampNeg) 6 (σ 0 5)) (3 + q.toNatClampNeg) 5 (sp_X0_chainOf (sl_up σ (3 + q.toNatClampNeg) 6 (σ 0 5)) q.toNatClampNeg ((sl_up σ (3 + q.toNatClampNeg) 6 (σ 0 5)) (3 + q.toNatClampNeg) 6))) 0 5 (sl_up (sl_up σ (3 + q.toNatClampNeg) 6 (σ 0 5)) (3 + q.toNatClampNeg) 5 (sp_X0_chainOf (sl_up σ (3 + q.toNatClampNeg) 6 (σ 0 5)) q.toNatClampNeg ((sl_up σ (3 + q.toNatClampNeg) 6 (σ 0 5)) (3 + q.toNatClampNeg) 6)) 0 5 + 1)) (sl_up (sl_up (sl_up τ 29 q.toNatClampNeg (τ 18 9)) 18 9 (sl_up τ 29 q.toNatClampNeg (τ 18 9) 18 9 + 1)) 31 q.toNatClampNeg 0)
        rw [ech, e05, e18, nI_1, g6, ← g4, g6]
        refine sl_R_of (i := q.toNatClampNeg) (sl_km (by decide) (by decide) (by decide) (sl_w_next hi (by omega) (sl_kx hi (by decide) (sl_kx hi (by decide) (sl_km (by decide) (by decide) (by decide) hw))))) ?_ ?_ ?_ (Or.inr (Or.inl ⟨?_, ?_, ?_, Or.inr ⟨m, 0, by omega, by decide, ?_, ?_, ?_, ?_, ?_⟩⟩))
        all_goals simp (disch := omega) only [sl_up_s, sl_up_f, sl_up_k, sl_drp, nI_0]
        · exact e2
        · exact e3
        · exact e4
        · exact k
        · exact h7
        · exact h30
        · rw [e1]
        · rw [← e1]; exact sl_ok_ne hok m
    · rw [if_neg c, if_neg c]
      exact sl_R_end hi hw
  · dsimp only at e29 e31
    rw [e1] at e5
    obtain ⟨j, hj, ej, el⟩ := sl_stand hn hp ha e1 e5 e5n
    rw [sl_sxU (j := j) hk0 (by rw [el]; exact nI_pos (by omega)) (by rw [el]; exact nI_clamp (by omega)), sl_m12 (Or.inl ⟨k, by rw [e29]; exact nI_pos (by omega)⟩), sl_ac (e1'.symm.trans e1) e29 hp e31 ej hj, sl_new4 e0 e2 (by rw [k]; decide)]
    refine sl_unit h hi hj ?_
    rw [sp_X2_stepAtUnit, if_pos (e2.trans k), sl_look_eq h.2.2.1 hj hp]
    show (sp_X2_appendAt σ q.toNatClampNeg j).1 = _ ∧ sl_R (sp_X2_appendAt σ q.toNatClampNeg j).2 _
    rw [sp_X2_appendAt, e6, sl_ct hp, sp_X3_alongChain_in_91, if_pos k]
    by_cases z : σ (6 + j + 6) p = -2
    · rw [if_pos z, if_pos z, sp_X3_alongChain_in_154, if_pos z, sl_wo1 hp z, sl_up_k (σ := σ) (k := 6 + j + 6) (a := 3 + q.toNatClampNeg) (by omega), e6, e29, h7]
      refine sl_adv (n := n) (p := p) (a := a) hi (sl_w_put hw hi hj hp z (by omega)) hn hp ha ?_ ?_ ?_ ?_ ?_ ?_ ?_ ?_ ?_ ?_ ?_ ?_
      all_goals simp (disch := omega) only [sl_put_rd, sl_up_s, sl_up_f, sl_up_k]
      · exact e1
      · exact e5
      · exact e5n
      · exact e6
      · exact e29
      · exact e31
      · exact e2
      · exact e3
      · exact e4
      · exact h7
      · exact Or.inl ⟨k, h30⟩
      · rw [if_pos k]; exact e29.symm
    · rw [if_neg z, if_neg z, sl_head hn hp ha e1 e5 e5n e6, e31]
      by_cases az : a = 0
      · rw [if_pos az, if_neg (by decide), if_pos (by rw [az]; rfl)]
        refine ⟨rfl, ?_⟩
        show sl_R (sl_up σ (3 + q.toNatClampNeg) 5 0) (sl_up τ 29 q.toNatClampNeg (-1))
        refine sl_R_of (i := q.toNatClampNeg) (sl_kx hi (by decide) (sl_km (by decide) (by decide) (by decide) hw)) ?_ ?_ ?_ (Or.inr (Or.inl ⟨?_, ?_, ?_, Or.inl ⟨?_, ?_⟩⟩))
        all_goals simp (disch := decide) only [sl_up_s, sl_up_f, sl_up_k]
        · exact e2
        · exact e3
        · exact e4
        · exact k
        · exact h7
        · exact h30
      · rw [if_neg az, if_pos rfl, if_neg (fun g => az (sl_nIi (by omega) (by decide) (g.trans nI_0.symm))), sp_X3_alongChain_in_154, if_neg z, sl_wo2 hp z, e6]
        exact sl_adv (n := n) (p := p) (a := a) hi hw hn hp ha e1 e5 e5n e6 e29 e31 e2 e3 e4 h7 (Or.inl ⟨k, h30⟩) (by rw [if_pos k]; exact e29.symm)
theorem sl_r_s2 (h : sl_R σ τ) (hc : vp_in q 3) (k : τ 24 q.toNatClampNeg = 2) (o : sl_O2 (σ (3 + q.toNatClampNeg)) (fun k => τ k q.toNatClampNeg)) : (sp_X2_step_in σ q).1 = (sp_X3_step_in τ q).1 ∧ sl_R (sp_X2_step_in σ q).2 (sp_X3_step_in τ q).2 := by
  have hi := sl_lt hc
  have hw := sl_w h hi
  obtain ⟨e0, e1', e2, e3, e4, hok, -⟩ := h.2.2.2 _ hi
  dsimp only at e0 e1' e2 e3 e4
  obtain ⟨n, hn, e1, -, -⟩ := id hok
  obtain ⟨⟨p, a, hp, ha, e29, e6, e31, e5, e5n⟩, hcont⟩ := o
  dsimp only at e29 e31 hcont
  have hk0 : ¬ σ (3 + q.toNatClampNeg) 2 = 0 := by rw [e2, k]; decide
  have k1 : ¬ τ 24 q.toNatClampNeg = 1 := by rw [k]; decide
  rw [e1] at e5
  obtain ⟨j, hj, ej, el⟩ := sl_stand hn hp ha e1 e5 e5n
  have hV : -2 ≤ (σ (6 + j + 6) p).toInt := by
    obtain ⟨R, -, -, -, -, -, hV⟩ := h.2.2.1
    exact hV j p hj hp
  rw [sl_sxU (j := j) hk0 (by rw [el]; exact nI_pos (by omega)) (by rw [el]; exact nI_clamp (by omega)), sl_m12 (Or.inr k), sl_ac (e1'.symm.trans e1) e29 hp e31 ej hj, sl_new4 e0 e2 (by rw [k]; decide)]
  refine sl_unit h hi hj ?_
  rw [sp_X2_stepAtUnit, if_neg (by rw [e2]; exact k1), if_pos (e2.trans k), sl_look_eq h.2.2.1 hj hp]
  show (sp_X2_fillAt σ q.toNatClampNeg j).1 = _ ∧ sl_R (sp_X2_fillAt σ q.toNatClampNeg j).2 _
  rw [sp_X2_fillAt, e6, sp_X3_alongChain_in_91, if_neg k1, e31]
  have hx7 : a = 0 ∧ σ (3 + q.toNatClampNeg) 7 = -1 ∨ a ≠ 0 ∧ σ (3 + q.toNatClampNeg) 7 = τ 30 q.toNatClampNeg ∧ -1 ≤ (τ 30 q.toNatClampNeg).toInt := by
    rcases hcont with ⟨y, x7⟩ | ⟨y, x7, y30⟩
    · exact Or.inl ⟨sl_nIi (by omega) (by decide) (e31.symm.trans (y.trans nI_0.symm)), x7⟩
    · exact Or.inr ⟨fun g => y (by rw [e31, g]; rfl), x7, y30⟩
  by_cases z : σ (6 + j + 6) p = -2
  · rw [sl_wo1 hp z, sl_head (σ := sl_up σ (6 + j + 6) p (σ (3 + q.toNatClampNeg) 7)) hn hp ha (by rw [sl_up_k (by omega)]; exact e1) (by rw [sl_up_k (by omega)]; exact e5) (by rw [sl_up_k (by omega)]; exact e5n) (by rw [sl_up_k (by omega)]; exact e6)]
    rcases hx7 with ⟨az, x7⟩ | ⟨az, x7, y30⟩
    · rw [if_pos az, if_neg (by decide), if_pos (by rw [az]; rfl), if_pos z, sp_X3_alongChain_in_154, if_pos z, sl_up_k (σ := σ) (k := 6 + j + 6) (a := 3 + q.toNatClampNeg) (by omega), e6, sl_ct hp, sl_up_s, sl_up_s, sl_up_s, sl_up_k (σ := τ) (k := 30) (a := 29) (by decide), e29, x7]
      refine sl_adv (n := n) (p := p) (a := a) hi (sl_kx hi (by decide) (sl_w_put (sl_km (by decide) (by decide) (by decide) hw) hi hj hp z (by decide))) hn hp ha ?_ ?_ ?_ ?_ ?_ ?_ ?_ ?_ ?_ ?_ ?_ ?_
      all_goals simp (disch := omega) only [sl_put_rd, sl_up_s, sl_up_f, sl_up_k]
      · exact e1
      · exact e5
      · exact e5n
      · exact e6
      · exact e29
      · exact e31
      · exact e2
      · exact e3
      · exact e4
      · exact Or.inr ⟨k, by decide⟩
      · rw [if_neg k1]
    · rw [if_neg az, if_pos rfl, if_neg (fun g => az (sl_nIi (by omega) (by decide) (g.trans nI_0.symm))), sp_X3_alongChain_in_154, if_pos z, sl_up_k (σ := σ) (k := 6 + j + 6) (a := 3 + q.toNatClampNeg) (by omega), x7, e29]
      refine sl_adv (n := n) (p := p) (a := a) hi (sl_w_put hw hi hj hp z y30) hn hp ha ?_ ?_ ?_ ?_ ?_ ?_ ?_ ?_ ?_ ?_ ?_ ?_
      all_goals simp (disch := omega) only [sl_put_rd, sl_up_s, sl_up_f, sl_up_k]
      · exact e1
      · exact e5
      · exact e5n
      · exact e6
      · exact e29
      · exact e31
      · exact e2
      · exact e3
      · exact e4
      · exact x7
      · exact Or.inr ⟨k, y30⟩
      · rw [if_neg k1]
  · rw [sl_wo2 hp z, sl_head hn hp ha e1 e5 e5n e6]
    rcases hx7 with ⟨az, x7⟩ | ⟨az, x7, y30⟩
    · rw [if_pos az, if_neg (by decide), if_pos (by rw [az]; rfl), if_neg z, sp_X3_alongChain_in_154, if_neg z, e6, sl_ct hp, sl_up_s]
      refine sl_adv (n := n) (p := p) (a := a) hi (sl_kx hi (by decide) (sl_km (by decide) (by decide) (by decide) hw)) hn hp ha ?_ ?_ ?_ ?_ ?_ ?_ ?_ ?_ ?_ ?_ ?_ ?_
      all_goals simp (disch := decide) only [sl_up_s, sl_up_f, sl_up_k]
      · exact e1
      · exact e5
      · exact e5n
      · exact e6
      · exact e29
      · exact e31
      · exact e2
      · exact e3
      · exact e4
      · refine Or.inr ⟨k, ?_⟩
        have : (σ (6 + j + 6) p).toInt ≠ -2 := fun g => z (Int32.toInt_inj.mp (g.trans rfl))
        omega
      · rw [if_neg k1]
    · rw [if_neg az, if_pos rfl, if_neg (fun g => az (sl_nIi (by omega) (by decide) (g.trans nI_0.symm))), sp_X3_alongChain_in_154, if_neg z]
      exact sl_adv (n := n) (p := p) (a := a) hi hw hn hp ha e1 e5 e5n e6 e29 e31 e2 e3 e4 x7 (Or.inr ⟨k, y30⟩) (by rw [if_neg k1]; exact x7)
end SLK
