/-! what an update leaves as it was -/
theorem sl_up_id {σ : sl_M} {k f : Nat} {v : Int32} (h : σ k f = v) : sl_up σ k f v = σ := by
  funext a b
  by_cases e : a = k ∧ b = f
  · obtain ⟨rfl, rfl⟩ := e
    simp [sl_up, h]
  · simp [sl_up, e]
theorem sl_up_up {σ : sl_M} {k f : Nat} {v w : Int32} : sl_up (sl_up σ k f v) k f w = sl_up σ k f w := by
  funext a b
  by_cases e : a = k ∧ b = f
  · simp [sl_up, e]
  · simp [sl_up, e]
theorem sl_RG_fr {σ τ σ' τ' : sl_M} (h : sl_RG σ τ) (h1 : ∀ f, σ' 0 f = σ 0 f) (h2 : ∀ f, f ≠ 0 → τ' 18 f = τ 18 f) : sl_RG σ' τ' := by
  unfold sl_RG at h ⊢
  rw [h1 2, h1 3, h1 4, h1 5, h2 6 (by decide), h2 7 (by decide), h2 8 (by decide), h2 9 (by decide)]
  exact h
theorem sl_RU_fr {σ τ σ' τ' : sl_M} (h : sl_RU σ τ) (h1 : ∀ j f, j < 6 → σ' (6 + j) f = σ (6 + j) f) (h2 : ∀ j, τ' 22 j = τ 22 j) (h3 : ∀ j, τ' 23 j = τ 23 j) : sl_RU σ' τ' := by
  intro j hj
  rw [h1 j 0 hj, h1 j 1 hj, h2, h3]
  exact h j hj
theorem sl_RR_fr {σ τ σ' τ' : sl_M} (h : sl_RR σ τ) (h1 : ∀ u p, u < 6 → σ' (6 + u + 6) p = σ (6 + u + 6) p) (h2 : τ' 18 0 = τ 18 0) (h3 : ∀ n, τ' 19 n = τ 19 n) (h4 : ∀ n, τ' 20 n = τ 20 n) (h5 : ∀ n, τ' 21 n = τ 21 n) : sl_RR σ' τ' := by
  obtain ⟨R, hR, h0, hA, hB, hC, hV⟩ := h
  refine ⟨R, hR, h2.trans h0, fun n hn => ?_, fun u p hu hp hne => ?_, fun n n' hn hn' e1 e2 => ?_, fun u p hu hp => ?_⟩
  · obtain ⟨u, p, hu, hp, g1, g2, g3, g4⟩ := hA n hn
    exact ⟨u, p, hu, hp, by rw [h3]; exact g1, by rw [h4]; exact g2, by rw [h5, h1 u p hu]; exact g3, by rw [h5]; exact g4⟩
  · rw [h1 u p hu] at hne
    obtain ⟨n, g1, g2, g3⟩ := hB u p hu hp hne
    exact ⟨n, g1, by rw [h3]; exact g2, by rw [h4]; exact g3⟩
  · rw [h3, h3] at e1
    rw [h4, h4] at e2
    exact hC n n' hn hn' e1 e2
  · rw [h1 u p hu]
    exact hV u p hu hp
theorem sl_RC_fr {x y x' y' : Nat → Int32} (h : sl_RC x y) (hx : x' = x) (hy : ∀ k, 24 ≤ k → y' k = y k) : sl_RC x' y' := by
  subst hx
  unfold sl_RC sl_Op sl_O1 sl_O2 sl_O3 sl_O4 sl_O5 sl_on at h ⊢
  simp only [hy 24 (by decide), hy 25 (by decide), hy 26 (by decide), hy 27 (by decide), hy 28 (by decide), hy 29 (by decide), hy 30 (by decide), hy 31 (by decide), hy 32 (by decide)]
  exact h
/-- the relation, but for what client i is doing -/
def sl_Rw (i : Nat) (σ τ : sl_M) : Prop := sl_RG σ τ ∧ sl_RU σ τ ∧ sl_RR σ τ ∧ (∀ i', i' < 3 → i' ≠ i → sl_RC (σ (3 + i')) (fun k => τ k i')) ∧ σ (3 + i) 0 = τ 25 i ∧ σ (3 + i) 1 = τ 26 i ∧ sl_ok (σ (3 + i) 1)
section SLF
variable {σ τ : sl_M} {i : Nat}
theorem sl_w (h : sl_R σ τ) (hi : i < 3) : sl_Rw i σ τ := ⟨h.1, h.2.1, h.2.2.1, fun i' h' _ => h.2.2.2 i' h', (h.2.2.2 i hi).1, (h.2.2.2 i hi).2.1, (h.2.2.2 i hi).2.2.2.2.2.1⟩
theorem sl_R_of (h : sl_Rw i σ τ) (hk : σ (3 + i) 2 = τ 24 i) (ho : σ (3 + i) 3 = τ 27 i) (hn : σ (3 + i) 4 = τ 28 i) (op : sl_Op (σ (3 + i)) (fun k => τ k i)) : sl_R σ τ := by
  obtain ⟨hG, hU, hR, hC, a1, a2, a3⟩ := h
  refine ⟨hG, hU, hR, fun i' h' => ?_⟩
  by_cases e : i' = i
  · subst e
    exact ⟨a1, a2, hk, ho, hn, a3, op⟩
  · exact hC i' h' e
theorem sl_kx {f : Nat} {v : Int32} (hi : i < 3) (hf : 2 ≤ f) (h : sl_Rw i σ τ) : sl_Rw i (sl_up σ (3 + i) f v) τ := by
  obtain ⟨hG, hU, hR, hC, a1, a2, a3⟩ := h
  refine ⟨sl_RG_fr hG (fun g => sl_up_k (by omega)) (fun _ _ => rfl), sl_RU_fr hU (fun j g hj => sl_up_k (by omega)) (fun _ => rfl) (fun _ => rfl), sl_RR_fr hR (fun u p hu => sl_up_k (by omega)) rfl (fun _ => rfl) (fun _ => rfl) (fun _ => rfl), fun i' h' e => sl_RC_fr (hC i' h' e) (sl_up_row (by omega)) (fun _ _ => rfl), ?_, ?_, ?_⟩
  · rw [sl_up_f (by omega)]; exact a1
  · rw [sl_up_f (by omega)]; exact a2
  · rw [sl_up_f (by omega)]; exact a3
theorem sl_km {k : Nat} {v : Int32} (h24 : 24 ≤ k) (h25 : k ≠ 25) (h26 : k ≠ 26) (h : sl_Rw i σ τ) : sl_Rw i σ (sl_up τ k i v) := by
  obtain ⟨hG, hU, hR, hC, a1, a2, a3⟩ := h
  refine ⟨sl_RG_fr hG (fun _ => rfl) (fun g _ => sl_up_k (by omega)), sl_RU_fr hU (fun _ _ _ => rfl) (fun _ => sl_up_k (by omega)) (fun _ => sl_up_k (by omega)), sl_RR_fr hR (fun _ _ _ => rfl) (sl_up_k (by omega)) (fun _ => sl_up_k (by omega)) (fun _ => sl_up_k (by omega)) (fun _ => sl_up_k (by omega)), fun i' h' e => sl_RC_fr (hC i' h' e) rfl (fun _ _ => sl_up_f e), ?_, ?_, a3⟩
  · rw [sl_up_k (fun q => h25 q.symm)]; exact a1
  · rw [sl_up_k (fun q => h26 q.symm)]; exact a2
theorem sl_R_end {q a b : Int32} (hi : q.toNatClampNeg < 3) (h : sl_Rw q.toNatClampNeg σ τ) : (sp_X0_end σ q.toNatClampNeg a b).1 = (sp_X3_end τ q a b).1 ∧ sl_R (sp_X0_end σ q.toNatClampNeg a b).2 (sp_X3_end τ q a b).2 := by
  refine ⟨rfl, ?_⟩
  rw [sp_X0_end, sp_X3_end]
  refine sl_R_of (sl_kx hi (by decide) (sl_kx hi (by decide) (sl_kx hi (by decide) (sl_km (by decide) (by decide) (by decide) (sl_km (by decide) (by decide) (by decide) (sl_km (by decide) (by decide) (by decide) h)))))) ?_ ?_ ?_ (Or.inl ?_)
  all_goals simp (disch := decide) only [sl_up_s, sl_up_f, sl_up_k]
end SLF
