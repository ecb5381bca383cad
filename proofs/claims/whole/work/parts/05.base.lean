/-! The flat memory of both systems, and the world that holds it. Cells: 0 the log, 1 its array of units, 2 its array of clients, 3..5 the clients, 6..11 the units, 12..17 their cells, 18 the model, 19..32 its arrays. -/
abbrev sl_M : Type := Nat → Nat → Int32
def sl_up (σ : sl_M) (k f : Nat) (v : Int32) : sl_M := fun a b => if a = k ∧ b = f then v else σ a b
theorem sl_up_s (σ : sl_M) (k f : Nat) (v : Int32) : sl_up σ k f v k f = v := by simp [sl_up]
theorem sl_up_k {σ : sl_M} {k f a b : Nat} {v : Int32} (h : a ≠ k) : sl_up σ k f v a b = σ a b := by simp [sl_up, h]
theorem sl_up_f {σ : sl_M} {k f a b : Nat} {v : Int32} (h : b ≠ f) : sl_up σ k f v a b = σ a b := by simp [sl_up, h]
theorem sl_up_row {σ : sl_M} {k f a : Nat} {v : Int32} (h : a ≠ k) : sl_up σ k f v a = σ a := by funext b; simp [sl_up, h]
theorem sl_up_own (σ : sl_M) (k f : Nat) (v : Int32) : sl_up σ k f v k = upd (σ k) f v := by funext b; by_cases h : b = f <;> simp [sl_up, upd, h]
abbrev sl_fC (σ : sl_M) (k : Nat) : List Value := [.int (σ k 0), .int (σ k 1), .int (σ k 2), .int (σ k 3), .int (σ k 4), .int (σ k 5), .int (σ k 6), .int (σ k 7), .int (σ k 8), .int (σ k 9), .int (σ k 10), .int (σ k 11)]
abbrev sl_fU (ad : Nat → Nat) (σ : sl_M) (k : Nat) : List Value := [.int (σ k 0), .int (σ k 1), .ref (ad (k + 6))]
abbrev sl_fL (ad : Nat → Nat) (σ : sl_M) : List Value := [.ref (ad 1), .ref (ad 2), .int (σ 0 2), .int (σ 0 3), .int (σ 0 4), .int (σ 0 5)]
abbrev sl_fM (ad : Nat → Nat) (τ : sl_M) : List Value := [.int (τ 18 0), .ref (ad 19), .ref (ad 20), .ref (ad 21), .ref (ad 22), .ref (ad 23), .int (τ 18 6), .int (τ 18 7), .int (τ 18 8), .int (τ 18 9), .ref (ad 24), .ref (ad 25), .ref (ad 26), .ref (ad 27), .ref (ad 28), .ref (ad 29), .ref (ad 30), .ref (ad 31), .ref (ad 32)]
def sl_len (k : Nat) : Nat := if k < 22 then 192 else if k < 24 then 6 else 3
def sl_ent (cy : Nat → ClassId) (ad : Nat → Nat) (σ τ : sl_M) (k : Nat) : va_E :=
  if k = 0 then .inr (2, sl_fL ad σ)
  else if k = 1 then .inl (cy 2, 6, .inr (.inr (.inr (.inr (fun j => some (ad (6 + j)))))))
  else if k = 2 then .inl (cy 1, 3, .inr (.inr (.inr (.inr (fun j => some (ad (3 + j)))))))
  else if k < 6 then .inr (0, sl_fC σ k)
  else if k < 12 then .inr (1, sl_fU ad σ k)
  else if k < 18 then .inl (cy 0, 32, .inl (σ k))
  else if k = 18 then .inr (3, sl_fM ad τ)
  else .inl (cy 0, sl_len k, .inl (τ k))
def sl_wd (cy : Nat → ClassId) (ad : Nat → Nat) (σ τ : sl_M) : va_W := (List.range 33).map (fun k => (ad k, sl_ent cy ad σ τ k))
section SLW
variable {cy : Nat → ClassId} {ad : Nat → Nat} {σ τ σ' τ' : sl_M} {i j k : Nat}
theorem sl_wd_at (hk : k < 33) : (sl_wd cy ad σ τ)[k]? = some (ad k, sl_ent cy ad σ τ k) := by simp [sl_wd, hk]
theorem sl_wd_of {q : Nat × va_E} (h : (sl_wd cy ad σ τ)[k]? = some q) : k < 33 ∧ q = (ad k, sl_ent cy ad σ τ k) := by
  by_cases hk : k < 33
  · rw [sl_wd_at hk] at h
    exact ⟨hk, (Option.some.inj h).symm⟩
  · have : (sl_wd cy ad σ τ)[k]? = none := by
      rw [List.getElem?_eq_none]
      simp [sl_wd]
      omega
    rw [this] at h
    cases h
theorem sl_wd_set {e : va_E} (h1 : sl_ent cy ad σ' τ' k = e) (h2 : ∀ j, j < 33 → j ≠ k → sl_ent cy ad σ' τ' j = sl_ent cy ad σ τ j) : (sl_wd cy ad σ τ).set k (ad k, e) = sl_wd cy ad σ' τ' := by
  apply List.ext_getElem?
  intro j
  by_cases hj : j < 33
  · rw [sl_wd_at hj]
    by_cases hjk : j = k
    · subst hjk
      rw [List.getElem?_set_self (by simp [sl_wd]; exact hj), h1]
    · rw [List.getElem?_set_ne (fun q => hjk q.symm), sl_wd_at hj, h2 j hj hjk]
  · rw [List.getElem?_eq_none (by simp [sl_wd]; omega), List.getElem?_eq_none (by simp [sl_wd]; omega)]
theorem sl_aL : (sl_wd cy ad σ τ)[0]? = some (ad 0, .inr (2, sl_fL ad σ)) := sl_wd_at (by decide)
theorem sl_a1 : (sl_wd cy ad σ τ)[1]? = some (ad 1, .inl (cy 2, 6, .inr (.inr (.inr (.inr (fun j => some (ad (6 + j)))))))) := sl_wd_at (by decide)
theorem sl_a2 : (sl_wd cy ad σ τ)[2]? = some (ad 2, .inl (cy 1, 3, .inr (.inr (.inr (.inr (fun j => some (ad (3 + j)))))))) := sl_wd_at (by decide)
theorem sl_aC (hi : i < 3) : (sl_wd cy ad σ τ)[3 + i]? = some (ad (3 + i), .inr (0, sl_fC σ (3 + i))) := by
  rw [sl_wd_at (by omega), sl_ent, if_neg (by omega), if_neg (by omega), if_neg (by omega), if_pos (by omega)]
theorem sl_aU (hj : j < 6) : (sl_wd cy ad σ τ)[6 + j]? = some (ad (6 + j), .inr (1, sl_fU ad σ (6 + j))) := by
  rw [sl_wd_at (by omega), sl_ent, if_neg (by omega), if_neg (by omega), if_neg (by omega), if_neg (by omega), if_pos (by omega)]
theorem sl_aA (hj : j < 6) : (sl_wd cy ad σ τ)[6 + j + 6]? = some (ad (6 + j + 6), .inl (cy 0, 32, .inl (σ (6 + j + 6)))) := by
  rw [sl_wd_at (by omega), sl_ent, if_neg (by omega), if_neg (by omega), if_neg (by omega), if_neg (by omega), if_neg (by omega), if_pos (by omega)]
theorem sl_aM : (sl_wd cy ad σ τ)[18]? = some (ad 18, .inr (3, sl_fM ad τ)) := sl_wd_at (by decide)
theorem sl_aR {n : Nat} (h1 : 18 < k) (h2 : k < 33) (hn : sl_len k = n) : (sl_wd cy ad σ τ)[k]? = some (ad k, .inl (cy 0, n, .inl (τ k))) := by
  subst hn
  rw [sl_wd_at h2, sl_ent, if_neg (by omega), if_neg (by omega), if_neg (by omega), if_neg (by omega), if_neg (by omega), if_neg (by omega), if_neg (by omega)]
theorem sl_sC (hi : i < 3) {f : Nat} (hf : f < 12) (v : Int32) : (sl_wd cy ad σ τ).set (3 + i) (ad (3 + i), .inr (0, (sl_fC σ (3 + i)).set f (.int v))) = sl_wd cy ad (sl_up σ (3 + i) f v) τ := by
  refine sl_wd_set ?_ (fun j hj hjk => ?_)
  · rw [sl_ent, if_neg (by omega), if_neg (by omega), if_neg (by omega), if_pos (by omega)]
    rcases (show f = 0 ∨ f = 1 ∨ f = 2 ∨ f = 3 ∨ f = 4 ∨ f = 5 ∨ f = 6 ∨ f = 7 ∨ f = 8 ∨ f = 9 ∨ f = 10 ∨ f = 11 by omega) with rfl | rfl | rfl | rfl | rfl | rfl | rfl | rfl | rfl | rfl | rfl | rfl <;> simp [sl_fC, sl_up]
  · simp only [sl_ent, sl_fL, sl_fC, sl_fU, sl_up_k (σ := σ) (k := 3 + i) hjk, sl_up_row (σ := σ) (k := 3 + i) hjk]
    by_cases h0 : j = 0
    · subst h0
      simp [sl_up_k (σ := σ) (k := 3 + i) (a := 0) (by omega)]
    · simp [h0]
theorem sl_sU (hj : j < 6) {f : Nat} (hf : f < 2) (v : Int32) : (sl_wd cy ad σ τ).set (6 + j) (ad (6 + j), .inr (1, (sl_fU ad σ (6 + j)).set f (.int v))) = sl_wd cy ad (sl_up σ (6 + j) f v) τ := by
  refine sl_wd_set ?_ (fun q hq hqk => ?_)
  · rw [sl_ent, if_neg (by omega), if_neg (by omega), if_neg (by omega), if_neg (by omega), if_pos (by omega)]
    rcases (show f = 0 ∨ f = 1 by omega) with rfl | rfl <;> simp [sl_fU, sl_up]
  · simp only [sl_ent, sl_fL, sl_fC, sl_fU, sl_up_k (σ := σ) (k := 6 + j) hqk, sl_up_row (σ := σ) (k := 6 + j) hqk]
    by_cases h0 : q = 0
    · subst h0
      simp [sl_up_k (σ := σ) (k := 6 + j) (a := 0) (by omega)]
    · simp [h0]
theorem sl_sL {f : Nat} (h2 : 2 ≤ f) (hf : f < 6) (v : Int32) : (sl_wd cy ad σ τ).set 0 (ad 0, .inr (2, (sl_fL ad σ).set f (.int v))) = sl_wd cy ad (sl_up σ 0 f v) τ := by
  refine sl_wd_set ?_ (fun q hq hqk => ?_)
  · rw [sl_ent, if_pos rfl]
    rcases (show f = 2 ∨ f = 3 ∨ f = 4 ∨ f = 5 by omega) with rfl | rfl | rfl | rfl <;> simp [sl_fL, sl_up]
  · simp only [sl_ent, sl_fL, sl_fC, sl_fU, sl_up_k (σ := σ) (k := 0) hqk, sl_up_row (σ := σ) (k := 0) hqk, if_neg hqk]
theorem sl_sA (hj : j < 6) (n : Nat) (v : Int32) : (sl_wd cy ad σ τ).set (6 + j + 6) (ad (6 + j + 6), .inl (cy 0, 32, .inl (upd (σ (6 + j + 6)) n v))) = sl_wd cy ad (sl_up σ (6 + j + 6) n v) τ := by
  refine sl_wd_set ?_ (fun q hq hqk => ?_)
  · rw [sl_ent, if_neg (by omega), if_neg (by omega), if_neg (by omega), if_neg (by omega), if_neg (by omega), if_pos (by omega), sl_up_own]
  · simp only [sl_ent, sl_fL, sl_fC, sl_fU, sl_up_k (σ := σ) (k := 6 + j + 6) hqk, sl_up_row (σ := σ) (k := 6 + j + 6) hqk]
    by_cases h0 : q = 0
    · subst h0
      simp [sl_up_k (σ := σ) (k := 6 + j + 6) (a := 0) (by omega)]
    · simp [h0]
theorem sl_sM {f : Nat} (hf : f = 0 ∨ f = 6 ∨ f = 7 ∨ f = 8 ∨ f = 9) (v : Int32) : (sl_wd cy ad σ τ).set 18 (ad 18, .inr (3, (sl_fM ad τ).set f (.int v))) = sl_wd cy ad σ (sl_up τ 18 f v) := by
  refine sl_wd_set ?_ (fun q hq hqk => ?_)
  · rw [sl_ent, if_neg (by omega), if_neg (by omega), if_neg (by omega), if_neg (by omega), if_neg (by omega), if_neg (by omega), if_pos rfl]
    rcases hf with rfl | rfl | rfl | rfl | rfl <;> simp [sl_fM, sl_up]
  · simp only [sl_ent, sl_fM, sl_up_row (σ := τ) (k := 18) hqk, if_neg hqk]
theorem sl_sR {n : Nat} (h1 : 18 < k) (h2 : k < 33) (hn : sl_len k = n) (q : Nat) (v : Int32) : (sl_wd cy ad σ τ).set k (ad k, .inl (cy 0, n, .inl (upd (τ k) q v))) = sl_wd cy ad σ (sl_up τ k q v) := by
  subst hn
  refine sl_wd_set ?_ (fun a ha hak => ?_)
  · rw [sl_ent, if_neg (by omega), if_neg (by omega), if_neg (by omega), if_neg (by omega), if_neg (by omega), if_neg (by omega), if_neg (by omega), sl_up_own]
  · simp only [sl_ent, sl_fM, sl_up_row (σ := τ) (k := k) hak]
    by_cases h0 : a = 18
    · subst h0
      simp [sl_up_k (σ := τ) (k := k) (a := 18) (by omega)]
    · simp [h0]
end SLW
