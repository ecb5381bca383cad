/-! one step: common rows -/
section SLS
variable {σ τ : sl_M} {q : Int32}
theorem sl_par {p : Nat} (hp : p < 100) : nI p - nI p / (2 : Int32) * (2 : Int32) = nI (p % 2) := pk_rem (d := 2) (by omega) (by decide) (by decide)
theorem sl_ct {j p : Nat} (hp : p < 32) : sp_X1_contentAt σ j (nI p) = σ (6 + j + 6) p := by
  rw [sp_X1_contentAt, if_neg (show ¬ sp_X2_isPosition (nI p) = 0 by rw [sp_X2_isPosition, if_neg (nI_pos (by omega)), if_neg (show ¬ (32 : Int32) ≤ nI p from nI_ge (a := p) (b := 32) (by omega) (by decide))]; decide), nI_clamp (by omega)]
theorem sl_wo1 {j p : Nat} {v : Int32} (hp : p < 32) (h : σ (6 + j + 6) p = -2) : sp_X1_writeOnce σ j (nI p) v = sl_up σ (6 + j + 6) p v := by
  rw [sp_X1_writeOnce, if_neg (show ¬ sp_X2_isPosition (nI p) = 0 by rw [sp_X2_isPosition, if_neg (nI_pos (by omega)), if_neg (show ¬ (32 : Int32) ≤ nI p from nI_ge (a := p) (b := 32) (by omega) (by decide))]; decide), nI_clamp (by omega), if_pos h]
theorem sl_wo2 {j p : Nat} {v : Int32} (hp : p < 32) (h : ¬ σ (6 + j + 6) p = -2) : sp_X1_writeOnce σ j (nI p) v = σ := by
  rw [sp_X1_writeOnce, if_neg (show ¬ sp_X2_isPosition (nI p) = 0 by rw [sp_X2_isPosition, if_neg (nI_pos (by omega)), if_neg (show ¬ (32 : Int32) ≤ nI p from nI_ge (a := p) (b := 32) (by omega) (by decide))]; decide), nI_clamp (by omega), if_neg h]
theorem sl_put_rd {a b z : Int32} {k f : Nat} (hk : 22 ≤ k) : sp_X3_put τ a b z k f = τ k f := by
  unfold sp_X3_put
  rw [sl_up_k (by omega), sl_up_k (by omega), sl_up_k (by omega), sl_up_k (by omega)]
theorem sl_w_put {i j p : Nat} {z : Int32} (h : sl_Rw i σ τ) (hi : i < 3) (hj : j < 6) (hp : p < 32) (hc : σ (6 + j + 6) p = -2) (hz : -1 ≤ z.toInt) : sl_Rw i (sl_up σ (6 + j + 6) p z) (sp_X3_put τ (nI j) (nI p) z) := by
  obtain ⟨hG, hU, hR, hC, a1, a2, a3⟩ := h
  obtain ⟨R, hRl, h0⟩ := sl_free hR hj hp hc
  have hR' := sl_RR_put hR hj hp hc hz
  refine ⟨sl_RG_fr hG (fun g => sl_up_k (by omega)) (fun g hg => ?_), sl_RU_fr hU (fun k g hk => sl_up_k (by omega)) (fun _ => sl_put_rd (by decide)) (fun _ => sl_put_rd (by decide)), hR', fun i' h' e => sl_RC_fr (hC i' h' e) (sl_up_row (by omega)) (fun k hk => sl_put_rd (by omega)), ?_, ?_, ?_⟩
  · rw [sl_put_eq hRl h0, sl_up_f hg, sl_up_k (by decide), sl_up_k (by decide), sl_up_k (by decide)]
  · rw [sl_up_k (by omega), sl_put_rd (by decide)]; exact a1
  · rw [sl_up_k (by omega), sl_put_rd (by decide)]; exact a2
  · rw [sl_up_k (by omega)]; exact a3
theorem sl_w_next {i m : Nat} (hi : i < 3) (hm : m ≤ 32) (h : sl_Rw i σ τ) : sl_Rw i (sl_up σ 0 5 (nI m)) (sl_up τ 18 9 (nI m)) := by
  obtain ⟨hG, hU, hR, hC, a1, a2, a3⟩ := h
  refine ⟨?_, sl_RU_fr hU (fun j g hj => sl_up_k (by omega)) (fun _ => sl_up_k (by decide)) (fun _ => sl_up_k (by decide)), sl_RR_fr hR (fun u p hu => sl_up_k (by omega)) (sl_up_f (by decide)) (fun _ => sl_up_k (by decide)) (fun _ => sl_up_k (by decide)) (fun _ => sl_up_k (by decide)), fun i' h' e => sl_RC_fr (hC i' h' e) (sl_up_row (by omega)) (fun k hk => sl_up_k (by omega)), ?_, ?_, ?_⟩
  · obtain ⟨g1, g2, g3, g4, g5, n, hn, g6⟩ := hG
    refine ⟨?_, ?_, ?_, ?_, ?_, m, hm, ?_⟩
    all_goals simp (disch := decide) only [sl_up_s, sl_up_f]
    · exact g1
    · exact g2
    · exact g3
    · exact g5
  · rw [sl_up_k (by omega), sl_up_k (by decide)]; exact a1
  · rw [sl_up_k (by omega), sl_up_k (by decide)]; exact a2
  · rw [sl_up_k (by omega)]; exact a3
theorem sl_sxN (hk : ¬ σ (3 + q.toNatClampNeg) 2 = 0) (hw : sp_X2_lowestUnit (σ (3 + q.toNatClampNeg) 5) < 0) : sp_X2_step_in σ q = sp_X2_stepWithoutUnit σ q.toNatClampNeg := by rw [sp_X2_step_in, if_neg hk, if_pos hw]
theorem sl_sxU {j : Nat} (hk : ¬ σ (3 + q.toNatClampNeg) 2 = 0) (hw : ¬ sp_X2_lowestUnit (σ (3 + q.toNatClampNeg) 5) < 0) (hj : (sp_X2_lowestUnit (σ (3 + q.toNatClampNeg) 5)).toNatClampNeg = j) : sp_X2_step_in σ q = if σ (6 + j) 1 = 0 then (-3, σ) else if σ (6 + j) 0 ≤ sp_X0_newestEpochItBears σ q.toNatClampNeg then sp_X2_stepAtUnit σ q.toNatClampNeg j else sp_X0_end σ q.toNatClampNeg 2 0 := by
  rw [sp_X2_step_in, if_neg hk, if_neg hw, hj]
theorem sl_unit {j : Nat} {E : Int32} {A B : Int32 × sl_M} (h : sl_R σ τ) (hi : q.toNatClampNeg < 3) (hj : j < 6) (hAB : A.1 = B.1 ∧ sl_R A.2 B.2) : (if σ (6 + j) 1 = 0 then ((-3 : Int32), σ) else if σ (6 + j) 0 ≤ E then A else sp_X0_end σ q.toNatClampNeg 2 0).1 = (if τ 23 j = 1 then ((-3 : Int32), τ) else if τ 22 j ≤ E then B else sp_X3_end τ q 2 0).1 ∧ sl_R (if σ (6 + j) 1 = 0 then ((-3 : Int32), σ) else if σ (6 + j) 0 ≤ E then A else sp_X0_end σ q.toNatClampNeg 2 0).2 (if τ 23 j = 1 then ((-3 : Int32), τ) else if τ 22 j ≤ E then B else sp_X3_end τ q 2 0).2 := by
  obtain ⟨r1, r2⟩ := h.2.1 j hj
  by_cases c : σ (6 + j) 1 = 0
  · rw [if_pos c, if_pos (r2.mp c)]
    exact ⟨rfl, h⟩
  · rw [if_neg c, if_neg (fun g => c (r2.mpr g)), r1]
    by_cases d : τ 22 j ≤ E
    · rw [if_pos d, if_pos d]
      exact hAB
    · rw [if_neg d, if_neg d]
      exact sl_R_end hi (sl_w h hi)
theorem sl_ac {n p a j : Nat} (e26 : τ 26 q.toNatClampNeg = nI n) (e29 : τ 29 q.toNatClampNeg = nI p) (hp : p < 32) (e31 : τ 31 q.toNatClampNeg = nI a) (hj : sp_X3_nth (nI n) (nI (p % 2)) (nI a) = nI j) (hj6 : j < 6) : sp_X3_alongChain_in τ q = if τ 23 j = 1 then (-3, τ) else if τ 22 j ≤ τ 25 q.toNatClampNeg then sp_X3_alongChain_in_91 τ q (sp_X3_length (nI n) (nI (p % 2))) (nI j) (sp_X3_look τ (nI j) (nI p)) else sp_X3_end τ q 2 0 := by
  rw [sp_X3_alongChain_in, e26, e29, e31, sl_par (by omega), hj, sp_X3_alongChain_in_42, nI_clamp (by omega), e29]
/-- to the next unit of the chain, or behind the tail -/
theorem sl_adv {n p a : Nat} {z w num : Int32} (hi : q.toNatClampNeg < 3) (hw : sl_Rw q.toNatClampNeg σ τ) (hn : n < 64) (hp : p < 32) (ha : a < 6) (e1 : σ (3 + q.toNatClampNeg) 1 = nI n) (e5 : σ (3 + q.toNatClampNeg) 5 = sl_drp a (nI n &&& sl_msk p)) (e5n : σ (3 + q.toNatClampNeg) 5 ≠ 0) (e6 : σ (3 + q.toNatClampNeg) 6 = nI p) (e29 : τ 29 q.toNatClampNeg = nI p) (e31 : τ 31 q.toNatClampNeg = nI a) (e2 : σ (3 + q.toNatClampNeg) 2 = τ 24 q.toNatClampNeg) (e3 : σ (3 + q.toNatClampNeg) 3 = τ 27 q.toNatClampNeg) (e4 : σ (3 + q.toNatClampNeg) 4 = τ 28 q.toNatClampNeg) (h7 : σ (3 + q.toNatClampNeg) 7 = τ 30 q.toNatClampNeg) (hK : (τ 24 q.toNatClampNeg = 1 ∧ 0 ≤ (τ 30 q.toNatClampNeg).toInt) ∨ (τ 24 q.toNatClampNeg = 2 ∧ -1 ≤ (τ 30 q.toNatClampNeg).toInt)) (hnum : num = if τ 24 q.toNatClampNeg = 1 then τ 29 q.toNatClampNeg else τ 30 q.toNatClampNeg) : (sp_X0_goAlongChain σ q.toNatClampNeg num).1 = (sp_X3_alongChain_in_178 τ q (sp_X3_length (nI n) (nI (p % 2))) w z).1 ∧ sl_R (sp_X0_goAlongChain σ q.toNatClampNeg num).2 (sp_X3_alongChain_in_178 τ q (sp_X3_length (nI n) (nI (p % 2))) w z).2 := by
  have hb : p % 2 < 2 := Nat.mod_lt _ (by decide)
  have e5m : sl_drp a (nI n &&& sl_mb (p % 2)) ≠ 0 := by rw [← sl_msk_mb, ← e5]; exact e5n
  have hwl : sp_X2_withoutLowest (σ (3 + q.toNatClampNeg) 5) = sl_drp (a + 1) (nI n &&& sl_mb (p % 2)) := by rw [e5]; rfl
  rw [sp_X0_goAlongChain, sp_X3_alongChain_in_178, sl_up_s, sl_up_s, hwl, e31]
  have f3 := sl_f3 n hn (p % 2) hb a ha e5m
  have hw2 : sl_Rw q.toNatClampNeg (sl_up σ (3 + q.toNatClampNeg) 5 (sl_drp (a + 1) (nI n &&& sl_mb (p % 2)))) (sl_up τ 31 q.toNatClampNeg (nI a + 1)) := sl_kx hi (by decide) (sl_km (by decide) (by decide) (by decide) hw)
  have k24 : sl_up τ 31 q.toNatClampNeg (nI a + 1) 24 q.toNatClampNeg = τ 24 q.toNatClampNeg := sl_up_k (by decide)
  have k29 : sl_up τ 31 q.toNatClampNeg (nI a + 1) 29 q.toNatClampNeg = τ 29 q.toNatClampNeg := sl_up_k (by decide)
  have k30 : sl_up τ 31 q.toNatClampNeg (nI a + 1) 30 q.toNatClampNeg = τ 30 q.toNatClampNeg := sl_up_k (by decide)
  by_cases c : sl_drp (a + 1) (nI n &&& sl_mb (p % 2)) = 0
  · rw [if_pos c, if_pos (f3.mp c), k24, k29, k30]
    by_cases k1 : τ 24 q.toNatClampNeg = 1
    · rw [if_pos k1] at hnum
      rw [if_pos k1, hnum]
      exact sl_R_end hi hw2
    · rw [if_neg k1] at hnum
      rw [if_neg k1, hnum]
      exact sl_R_end hi hw2
  · rw [if_neg c, if_neg (fun g => c (f3.mpr g))]
    have ha1 := sl_f3b n hn (p % 2) hb a ha c
    have hon : sl_on (sl_up σ (3 + q.toNatClampNeg) 5 (sl_drp (a + 1) (nI n &&& sl_mb (p % 2))) (3 + q.toNatClampNeg)) (fun k => sl_up τ 31 q.toNatClampNeg (nI a + 1) k q.toNatClampNeg) := by
      refine ⟨p, a + 1, hp, ha1, ?_, ?_, ?_, ?_, ?_⟩
      all_goals simp (disch := decide) only [sl_up_s, sl_up_f, sl_up_k]
      · exact e29
      · exact e6
      · exact nI_1 a
      · rw [e1, sl_msk_mb]
      · exact c
    refine ⟨rfl, ?_⟩
    show sl_R (sl_up σ (3 + q.toNatClampNeg) 5 (sl_drp (a + 1) (nI n &&& sl_mb (p % 2)))) (sl_up τ 31 q.toNatClampNeg (nI a + 1))
    refine sl_R_of hw2 ?_ ?_ ?_ ?_
    · rw [k24, sl_up_f (by decide)]; exact e2
    · simp (disch := decide) only [sl_up_s, sl_up_f, sl_up_k]; exact e3
    · simp (disch := decide) only [sl_up_s, sl_up_f, sl_up_k]; exact e4
    · rcases hK with ⟨k1, h30⟩ | ⟨k2, h30⟩
      · refine Or.inr (Or.inl ⟨k24.trans k1, ?_, ?_, Or.inr hon⟩)
        · simp (disch := decide) only [sl_up_s, sl_up_f, sl_up_k]; exact h7
        · show 0 ≤ (sl_up _ _ _ _ _ _).toInt
          rw [k30]; exact h30
      · refine Or.inr (Or.inr (Or.inl ⟨k24.trans k2, hon, Or.inr ⟨?_, ?_, ?_⟩⟩))
        · show sl_up _ _ _ _ _ _ ≠ _
          rw [sl_up_s, nI_1]
          exact fun g => absurd (sl_nIi (by omega) (by decide) (g.trans nI_0.symm)) (by omega)
        · simp (disch := decide) only [sl_up_s, sl_up_f, sl_up_k]; exact h7
        · show -1 ≤ (sl_up _ _ _ _ _ _).toInt
          rw [k30]; exact h30
/-- what stands at the head -/
theorem sl_head {n p a : Nat} (hn : n < 64) (hp : p < 32) (ha : a < 6) (e1 : σ (3 + q.toNatClampNeg) 1 = nI n) (e5 : σ (3 + q.toNatClampNeg) 5 = sl_drp a (nI n &&& sl_msk p)) (e5n : σ (3 + q.toNatClampNeg) 5 ≠ 0) (e6 : σ (3 + q.toNatClampNeg) 6 = nI p) : sp_X0_isAtHead σ q.toNatClampNeg = if a = 0 then 1 else 0 := by
  have hb : p % 2 < 2 := Nat.mod_lt _ (by decide)
  have e5m : sl_drp a (nI n &&& sl_mb (p % 2)) ≠ 0 := by rw [← sl_msk_mb, ← e5]; exact e5n
  have f2 := sl_f2 n hn (p % 2) hb a ha e5m
  rw [sp_X0_isAtHead, e6, sl_chain (by omega), e1, e5, sl_msk_mb]
  by_cases c : a = 0
  · rw [if_pos (f2.mpr c), if_pos c]
  · rw [if_neg (fun g => c (f2.mp g)), if_neg c]
end SLS
