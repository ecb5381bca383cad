/-! the reference's table of rows against the cells -/
section SLT
variable {σ τ : sl_M}
theorem sl_pigeon : ∀ (N R : Nat) (f : Nat → Nat), (∀ n, n < R → f n < N) → (∀ n n', n < R → n' < R → f n = f n' → n = n') → R ≤ N := by
  intro N
  induction N with
  | zero =>
    intro R f h _
    rcases Nat.eq_zero_or_pos R with e | e
    · omega
    · exact absurd (h 0 e) (Nat.not_lt_zero _)
  | succ N ih =>
    intro R f h hin
    cases R with
    | zero => exact Nat.zero_le _
    | succ R =>
      refine Nat.succ_le_succ (ih R (fun n => if f n = N then f R else f n) (fun n hn => ?_) (fun n n' hn hn' e => ?_))
      · have hR := h R (by omega)
        have hf := h n (by omega)
        by_cases c : f n = N
        · rw [if_pos c]
          rcases Nat.lt_or_ge (f R) N with q | q
          · exact q
          · have := hin n R (by omega) (by omega) (by omega)
            omega
        · rw [if_neg c]
          omega
      · by_cases c : f n = N <;> by_cases c' : f n' = N
        · exact hin n n' (by omega) (by omega) (by omega)
        · rw [if_pos c, if_neg c'] at e
          have := hin R n' (by omega) (by omega) e
          omega
        · rw [if_neg c, if_pos c'] at e
          have := hin n R (by omega) (by omega) e
          omega
        · rw [if_neg c, if_neg c'] at e
          exact hin n n' (by omega) (by omega) e
theorem sl_look_l {R : Nat} (hR : R ≤ 192) (h0 : τ 18 0 = nI R) {a b cell : Int32} : ∀ (n k : Nat), k ≤ R → R < k + n → (∀ m, k ≤ m → m < R → τ 19 m = a → τ 20 m = b → τ 21 m = cell) → ((∃ m, k ≤ m ∧ m < R ∧ τ 19 m = a ∧ τ 20 m = b) ∨ cell = -2) → sp_X3_look_2 τ a b n (nI k) = cell := by
  intro n
  induction n with
  | zero =>
    intro k h1 h2
    exact absurd h2 (by omega)
  | succ n ih =>
    intro k h1 h2 H1 H2
    have hk : (nI k).toNatClampNeg = k := nI_clamp (by omega)
    rw [sp_X3_look_2, h0, hk]
    by_cases c : R ≤ k
    · rw [if_pos (nI_le c (by omega))]
      rcases H2 with ⟨m, m1, m2, _⟩ | e
      · omega
      · exact e.symm
    · rw [if_neg (nI_ge (by omega) (by omega))]
      have step : ¬ (τ 19 k = a ∧ τ 20 k = b) → sp_X3_look_2 τ a b n (nI k + 1) = cell := by
        intro h
        rw [nI_1]
        refine ih (k + 1) (by omega) (by omega) (fun m m1 m2 => H1 m (by omega) m2) ?_
        rcases H2 with ⟨m, m1, m2, m3, m4⟩ | e
        · refine Or.inl ⟨m, ?_, m2, m3, m4⟩
          rcases Nat.lt_or_ge k m with q | q
          · omega
          · have e : m = k := by omega
            subst e
            exact absurd ⟨m3, m4⟩ h
        · exact Or.inr e
      by_cases c1 : τ 19 k = a
      · rw [if_pos c1]
        by_cases c2 : τ 20 k = b
        · rw [if_pos c2]
          exact H1 k (Nat.le_refl k) (by omega) c1 c2
        · rw [if_neg c2]
          exact step (fun h => c2 h.2)
      · rw [if_neg c1]
        exact step (fun h => c1 h.1)
theorem sl_nIi {a b : Nat} (ha : a < 1000) (hb : b < 1000) (h : nI a = nI b) : a = b := (nI_eq (by omega) (by omega)).mp h
theorem sl_look_eq {u p : Nat} (h : sl_RR σ τ) (hu : u < 6) (hp : p < 32) : sp_X3_look τ (nI u) (nI p) = σ (6 + u + 6) p := by
  obtain ⟨R, hR, h0, hA, hB, hC, hV⟩ := h
  rw [sp_X3_look]
  refine sl_look_l hR h0 193 0 (by omega) (by omega) ?_ ?_
  · intro m _ m2 m3 m4
    obtain ⟨u', p', hu', hp', e1, e2, e3, _⟩ := hA m m2
    have x1 : u' = u := sl_nIi (by omega) (by omega) (e1.symm.trans m3)
    have x2 : p' = p := sl_nIi (by omega) (by omega) (e2.symm.trans m4)
    subst x1; subst x2
    exact e3
  · by_cases c : σ (6 + u + 6) p = -2
    · exact Or.inr c
    · obtain ⟨n, g1, g2, g3⟩ := hB u p hu hp c
      exact Or.inl ⟨n, Nat.zero_le _, g1, g2, g3⟩
theorem sl_r_rows (h : sl_R σ τ) : 0 ≤ (τ 18 0).toInt ∧ (τ 18 0).toInt ≤ 192 := by
  obtain ⟨R, hR, h0, -⟩ := h.2.2.1
  rw [h0, nI_toInt (by omega)]
  omega
theorem sl_free {u p : Nat} (h : sl_RR σ τ) (hu : u < 6) (hp : p < 32) (hc : σ (6 + u + 6) p = -2) : ∃ R, R < 192 ∧ τ 18 0 = nI R := by
  obtain ⟨R, hR, h0, hA, hB, hC, hV⟩ := h
  refine ⟨R, ?_, h0⟩
  have key : ∀ n, n < R → ∃ u p, u < 6 ∧ p < 32 ∧ (τ 19 n).toNatClampNeg = u ∧ (τ 20 n).toNatClampNeg = p ∧ τ 19 n = nI u ∧ τ 20 n = nI p ∧ σ (6 + u + 6) p ≠ -2 := by
    intro n hn
    obtain ⟨u', p', hu', hp', e1, e2, e3, e4⟩ := hA n hn
    exact ⟨u', p', hu', hp', by rw [e1]; exact nI_clamp (by omega), by rw [e2]; exact nI_clamp (by omega), e1, e2, by rw [← e3]; exact e4⟩
  have := sl_pigeon 192 (R + 1) (fun n => if n = R then 32 * u + p else 32 * (τ 19 n).toNatClampNeg + (τ 20 n).toNatClampNeg) (fun n hn => ?_) (fun n n' hn hn' e => ?_)
  · omega
  · by_cases c : n = R
    · simp only [if_pos c]
      omega
    · simp only [if_neg c]
      obtain ⟨u', p', hu', hp', e1, e2, -⟩ := key n (by omega)
      rw [e1, e2]
      omega
  · by_cases c : n = R <;> by_cases c' : n' = R
    · omega
    · simp only [if_pos c, if_neg c'] at e
      obtain ⟨u', p', hu', hp', e1, e2, -, -, e5⟩ := key n' (by omega)
      rw [e1, e2] at e
      have x1 : u' = u := by omega
      have x2 : p' = p := by omega
      subst x1; subst x2
      exact absurd hc e5
    · simp only [if_neg c, if_pos c'] at e
      obtain ⟨u', p', hu', hp', e1, e2, -, -, e5⟩ := key n (by omega)
      rw [e1, e2] at e
      have x1 : u' = u := by omega
      have x2 : p' = p := by omega
      subst x1; subst x2
      exact absurd hc e5
    · simp only [if_neg c, if_neg c'] at e
      obtain ⟨u1, p1, hu1, hp1, e1, e2, e3, e4, -⟩ := key n (by omega)
      obtain ⟨u2, p2, hu2, hp2, g1, g2, g3, g4, -⟩ := key n' (by omega)
      rw [e1, e2, g1, g2] at e
      have x1 : u1 = u2 := by omega
      have x2 : p1 = p2 := by omega
      subst x1; subst x2
      exact hC n n' (by omega) (by omega) (e3.trans g3.symm) (e4.trans g4.symm)
theorem sl_put_eq {R : Nat} {a b z : Int32} (hR : R < 192) (h0 : τ 18 0 = nI R) : sp_X3_put τ a b z = sl_up (sl_up (sl_up (sl_up τ 19 R a) 20 R b) 21 R z) 18 0 (nI (R + 1)) := by
  have hk : (nI R).toNatClampNeg = R := nI_clamp (by omega)
  unfold sp_X3_put
  simp (disch := decide) only [sl_up_k, h0, hk, nI_1]
theorem sl_RR_put {u p : Nat} {z : Int32} (h : sl_RR σ τ) (hu : u < 6) (hp : p < 32) (hc : σ (6 + u + 6) p = -2) (hz : -1 ≤ z.toInt) : sl_RR (sl_up σ (6 + u + 6) p z) (sp_X3_put τ (nI u) (nI p) z) := by
  obtain ⟨R', hR', h0'⟩ := sl_free h hu hp hc
  obtain ⟨R, hR, h0, hA, hB, hC, hV⟩ := h
  have eR : R = R' := sl_nIi (by omega) (by omega) (h0.symm.trans h0')
  subst eR
  have hz2 : z ≠ -2 := fun e => by rw [e] at hz; exact absurd hz (by decide)
  rw [sl_put_eq hR' h0]
  have r18 : ∀ x, (sl_up (sl_up (sl_up (sl_up τ 19 R (nI u)) 20 R (nI p)) 21 R z) 18 0 x) 18 0 = x := fun x => sl_up_s _ _ _ _
  have r19 : ∀ n, (sl_up (sl_up (sl_up (sl_up τ 19 R (nI u)) 20 R (nI p)) 21 R z) 18 0 (nI (R + 1))) 19 n = if n = R then nI u else τ 19 n := by
    intro n
    by_cases c : n = R
    · subst c
      simp (disch := decide) only [sl_up_k, sl_up_s, if_true]
    · simp (disch := first | decide | exact c) only [sl_up_k, sl_up_f, if_neg c]
  have r20 : ∀ n, (sl_up (sl_up (sl_up (sl_up τ 19 R (nI u)) 20 R (nI p)) 21 R z) 18 0 (nI (R + 1))) 20 n = if n = R then nI p else τ 20 n := by
    intro n
    by_cases c : n = R
    · subst c
      simp (disch := decide) only [sl_up_k, sl_up_s, if_true]
    · simp (disch := first | decide | exact c) only [sl_up_k, sl_up_f, if_neg c]
  have r21 : ∀ n, (sl_up (sl_up (sl_up (sl_up τ 19 R (nI u)) 20 R (nI p)) 21 R z) 18 0 (nI (R + 1))) 21 n = if n = R then z else τ 21 n := by
    intro n
    by_cases c : n = R
    · subst c
      simp (disch := decide) only [sl_up_k, sl_up_s, if_true]
    · simp (disch := first | decide | exact c) only [sl_up_k, sl_up_f, if_neg c]
  have rc : ∀ u' p', u' < 6 → sl_up σ (6 + u + 6) p z (6 + u' + 6) p' = if u' = u ∧ p' = p then z else σ (6 + u' + 6) p' := by
    intro u' p' _
    by_cases c : u' = u ∧ p' = p
    · obtain ⟨rfl, rfl⟩ := c
      rw [sl_up_s, if_pos ⟨rfl, rfl⟩]
    · rw [if_neg c]
      by_cases c1 : u' = u
      · subst c1
        exact sl_up_f (fun e => c ⟨rfl, e⟩)
      · exact sl_up_k (by omega)
  refine ⟨R + 1, by omega, r18 _, fun n hn => ?_, fun u' p' hu' hp' hne => ?_, fun n n' hn hn' e1 e2 => ?_, fun u' p' hu' hp' => ?_⟩
  · rw [r19, r20, r21]
    by_cases c : n = R
    · simp only [if_pos c]
      exact ⟨u, p, hu, hp, rfl, rfl, by rw [rc u p hu, if_pos ⟨rfl, rfl⟩], hz2⟩
    · simp only [if_neg c]
      obtain ⟨u', p', hu', hp', g1, g2, g3, g4⟩ := hA n (by omega)
      refine ⟨u', p', hu', hp', g1, g2, ?_, g4⟩
      rw [rc u' p' hu']
      by_cases c2 : u' = u ∧ p' = p
      · obtain ⟨rfl, rfl⟩ := c2
        exact absurd (g3.trans hc) g4
      · rw [if_neg c2]
        exact g3
  · rw [rc u' p' hu'] at hne
    by_cases c2 : u' = u ∧ p' = p
    · obtain ⟨rfl, rfl⟩ := c2
      exact ⟨R, by omega, by rw [r19, if_pos rfl], by rw [r20, if_pos rfl]⟩
    · rw [if_neg c2] at hne
      obtain ⟨n, g1, g2, g3⟩ := hB u' p' hu' hp' hne
      exact ⟨n, by omega, by rw [r19, if_neg (by omega)]; exact g2, by rw [r20, if_neg (by omega)]; exact g3⟩
  · rw [r19, r19] at e1
    rw [r20, r20] at e2
    have no : ∀ k, k < R → τ 19 k = nI u → τ 20 k = nI p → False := by
      intro k hk x1 x2
      obtain ⟨u', p', hu', hp', g1, g2, g3, g4⟩ := hA k hk
      have y1 : u' = u := sl_nIi (by omega) (by omega) (g1.symm.trans x1)
      have y2 : p' = p := sl_nIi (by omega) (by omega) (g2.symm.trans x2)
      subst y1; subst y2
      exact g4 (g3.trans hc)
    by_cases c : n = R <;> by_cases c' : n' = R
    · omega
    · rw [if_pos c, if_neg c'] at e1 e2
      exact (no n' (by omega) e1.symm e2.symm).elim
    · rw [if_neg c, if_pos c'] at e1 e2
      exact (no n (by omega) e1 e2).elim
    · rw [if_neg c, if_neg c'] at e1 e2
      exact hC n n' (by omega) (by omega) e1 e2
  · rw [rc u' p' hu']
    split
    · omega
    · exact hV u' p' hu' hp'
theorem sl_r_cell {u a : Int32} (h : sl_R σ τ) (hu : vp_in u 6) : sp_X2_cell_in σ u a = sp_X3_cell_in τ u a := by
  obtain ⟨j, hj, rfl⟩ := vp_in_of hu (by decide)
  rw [sp_X2_cell_in, sp_X3_cell_in, nI_clamp (show j < 2 ^ 31 by omega), sp_X1_contentAt]
  by_cases a0 : a < 0
  · rw [if_pos (show sp_X2_isPosition a = 0 by rw [sp_X2_isPosition, if_pos a0]), if_pos a0]
  · rw [if_neg a0]
    by_cases a1 : (32 : Int32) ≤ a
    · rw [if_pos (show sp_X2_isPosition a = 0 by rw [sp_X2_isPosition, if_neg a0, if_pos a1]), if_neg (Int32.not_le.mpr ((sl_gtle (x := a) (y := 31) (z := 32) rfl).mpr a1))]
    · obtain ⟨p, hp, rfl⟩ := vp_in_of (sl_in a0 a1 (n := 32) rfl) (by decide)
      rw [if_neg (show ¬ sp_X2_isPosition (nI p) = 0 by rw [sp_X2_isPosition, if_neg a0, if_neg a1]; decide), if_pos (Int32.not_lt.mp (fun g => a1 ((sl_gtle (x := nI p) (y := 31) (z := 32) rfl).mp g))), nI_clamp (show p < 2 ^ 31 by omega)]
      exact (sl_look_eq h.2.2.1 hj hp).symm
/-- the end of a unit -/
theorem sl_eow_l {j : Nat} : ∀ (n k : Nat), k ≤ 32 → k < n → ∃ e, e ≤ 32 ∧ sp_X1_endOfWritten_3 σ j n (nI k + (-1)) = nI e ∧ (∀ p, p < k → σ (6 + j + 6) p ≠ -2 → p + 1 ≤ e) ∧ (e = 0 ∨ ∃ p, p < 32 ∧ σ (6 + j + 6) p ≠ -2 ∧ e = p + 1) := by
  intro n
  induction n with
  | zero =>
    intro k _ h
    omega
  | succ n ih =>
    intro k h1 h2
    cases k with
    | zero =>
      refine ⟨0, by decide, ?_, fun p hp => absurd hp (by omega), Or.inl rfl⟩
      rw [sp_X1_endOfWritten_3, if_pos (by decide)]
      rfl
    | succ k =>
      rw [pk_m1, sp_X1_endOfWritten_3, if_neg (nI_pos (by omega)), nI_clamp (by omega)]
      by_cases c : σ (6 + j + 6) k = -2
      · rw [if_pos c]
        obtain ⟨e, he, g1, g2, g3⟩ := ih k (by omega) (by omega)
        refine ⟨e, he, g1, fun p hp hne => ?_, g3⟩
        rcases Nat.lt_or_ge p k with q | q
        · exact g2 p q hne
        · have x : p = k := by omega
          subst x
          exact absurd c hne
      · rw [if_neg c, nI_1]
        exact ⟨k + 1, by omega, rfl, fun p hp _ => by omega, Or.inr ⟨k, by omega, c, rfl⟩⟩
theorem sl_eow {j : Nat} : ∃ e, e ≤ 32 ∧ sp_X1_endOfWritten σ j = nI e ∧ (∀ p, p < 32 → σ (6 + j + 6) p ≠ -2 → p + 1 ≤ e) ∧ (e = 0 ∨ ∃ p, p < 32 ∧ σ (6 + j + 6) p ≠ -2 ∧ e = p + 1) := sl_eow_l (σ := σ) (j := j) 33 32 (by decide) (by decide)
/-- the reference's loop over the rows of a unit -/
theorem sl_seal_l {q : Int32} {R u : Nat} (hR : R ≤ 192) (hu : u < 6) : ∀ (n k : Nat) (τ : sl_M) (v0 : Nat), k ≤ R → R < k + n → v0 ≤ 32 → τ 18 0 = nI R → τ 30 q.toNatClampNeg = nI v0 → (∀ m, m < R → ∃ p, p < 32 ∧ τ 20 m = nI p) → ∃ V, V ≤ 32 ∧ v0 ≤ V ∧ (∀ m p, k ≤ m → m < R → p < 32 → τ 19 m = nI u → τ 20 m = nI p → p + 1 ≤ V) ∧ (V = v0 ∨ ∃ m p, m < R ∧ p < 32 ∧ τ 19 m = nI u ∧ τ 20 m = nI p ∧ V = p + 1) ∧ sp_X3_seal_in_75 q n τ (nI k) (nI u) = (0, sl_up (sl_up τ 30 q.toNatClampNeg (nI V)) 31 q.toNatClampNeg (τ 31 q.toNatClampNeg + 1)) := by
  intro n
  induction n with
  | zero =>
    intro k τ v0 h1 h2
    omega
  | succ n ih =>
    intro k τ v0 h1 h2 hv h0 h30 hrow
    have hk : (nI k).toNatClampNeg = k := nI_clamp (by omega)
    rw [sp_X3_seal_in_75, h0, hk]
    by_cases c : R ≤ k
    · rw [if_pos (nI_le c (by omega))]
      exact ⟨v0, hv, Nat.le_refl _, fun m p m1 m2 => by omega, Or.inl rfl, by rw [sl_up_id h30]⟩
    · rw [if_neg (nI_ge (by omega) (by omega)), nI_1]
      obtain ⟨p0, hp0, e20⟩ := hrow k (by omega)
      by_cases c1 : τ 19 k = nI u
      · rw [if_pos c1, e20, h30, nI_1]
        by_cases c2 : p0 + 1 ≤ v0
        · rw [if_pos (nI_le c2 (by omega))]
          obtain ⟨V, g1, g2, g3, g4, g5⟩ := ih (k + 1) τ v0 (by omega) (by omega) hv h0 h30 hrow
          refine ⟨V, g1, g2, fun m p m1 m2 hp e1 e2 => ?_, g4, g5⟩
          rcases Nat.lt_or_ge k m with r | r
          · exact g3 m p (by omega) m2 hp e1 e2
          · have x : m = k := by omega
            subst x
            have y : p = p0 := sl_nIi (by omega) (by omega) (e2.symm.trans e20)
            omega
        · rw [if_neg (nI_ge (by omega) (by omega))]
          have f18 : sl_up τ 30 q.toNatClampNeg (nI (p0 + 1)) 18 0 = nI R := by rw [sl_up_k (by decide)]; exact h0
          obtain ⟨V, g1, g2, g3, g4, g5⟩ := ih (k + 1) (sl_up τ 30 q.toNatClampNeg (nI (p0 + 1))) (p0 + 1) (by omega) (by omega) (by omega) f18 (sl_up_s _ _ _ _) (fun m hm => by rw [sl_up_k (by decide)]; exact hrow m hm)
          refine ⟨V, g1, by omega, fun m p m1 m2 hp e1 e2 => ?_, ?_, ?_⟩
          · rcases Nat.lt_or_ge k m with r | r
            · exact g3 m p (by omega) m2 hp (by rw [sl_up_k (by decide)]; exact e1) (by rw [sl_up_k (by decide)]; exact e2)
            · have x : m = k := by omega
              subst x
              have y : p = p0 := sl_nIi (by omega) (by omega) (e2.symm.trans e20)
              omega
          · rcases g4 with e | ⟨m, p, m2, hp, e1, e2, e3⟩
            · exact Or.inr ⟨k, p0, by omega, hp0, c1, e20, e⟩
            · rw [sl_up_k (by decide)] at e1 e2
              exact Or.inr ⟨m, p, m2, hp, e1, e2, e3⟩
          · rw [g5, sl_up_up, sl_up_k (σ := τ) (k := 30) (a := 31) (by decide)]
      · rw [if_neg c1]
        obtain ⟨V, g1, g2, g3, g4, g5⟩ := ih (k + 1) τ v0 (by omega) (by omega) hv h0 h30 hrow
        refine ⟨V, g1, g2, fun m p m1 m2 hp e1 e2 => ?_, g4, g5⟩
        rcases Nat.lt_or_ge k m with r | r
        · exact g3 m p (by omega) m2 hp e1 e2
        · have x : m = k := by omega
          subst x
          exact absurd e1 c1
end SLT
