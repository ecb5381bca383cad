/-! finite facts of masks, by decision -/
def sl_mb (b : Nat) : Int32 := if b = 0 then 21 else 42
theorem sl_msk_mb (p : Nat) : sl_msk p = sl_mb (p % 2) := rfl
set_option maxRecDepth 100000 in
theorem sl_f1 : ∀ n, n < 64 → ∀ b, b < 2 → ∀ a, a < 6 → sl_drp a (nI n &&& sl_mb b) ≠ 0 → sp_X2_lowestUnit (sl_drp a (nI n &&& sl_mb b)) = sp_X3_nth (nI n) (nI b) (nI a) ∧ ¬ sp_X3_nth (nI n) (nI b) (nI a) < 0 := by decide +kernel
set_option maxRecDepth 100000 in
theorem sl_f2 : ∀ n, n < 64 → ∀ b, b < 2 → ∀ a, a < 6 → sl_drp a (nI n &&& sl_mb b) ≠ 0 → (sl_drp a (nI n &&& sl_mb b) = nI n &&& sl_mb b ↔ a = 0) := by decide +kernel
set_option maxRecDepth 100000 in
theorem sl_f3 : ∀ n, n < 64 → ∀ b, b < 2 → ∀ a, a < 6 → sl_drp a (nI n &&& sl_mb b) ≠ 0 → (sl_drp (a + 1) (nI n &&& sl_mb b) = 0 ↔ sp_X3_length (nI n) (nI b) ≤ nI a + 1) := by decide +kernel
set_option maxRecDepth 100000 in
theorem sl_f3b : ∀ n, n < 64 → ∀ b, b < 2 → ∀ a, a < 6 → sl_drp (a + 1) (nI n &&& sl_mb b) ≠ 0 → a + 1 < 6 := by decide +kernel
set_option maxRecDepth 100000 in
theorem sl_f4 : ∀ n, n < 64 → ∀ b, b < 2 → nI n &&& sl_mb b ≠ 0 → sp_X2_lowestUnit (sp_X2_highestOf (nI n &&& sl_mb b)) = sp_X3_nth (nI n) (nI b) (sp_X3_length (nI n) (nI b) - 1) ∧ ¬ sp_X3_nth (nI n) (nI b) (sp_X3_length (nI n) (nI b) - 1) < 0 := by decide +kernel
set_option maxRecDepth 100000 in
theorem sl_f5 : ∀ n, n < 64 → ∀ a, a < 7 → sp_X2_lowestUnit (sl_drp a (nI n)) = sp_X3_nth (nI n) 2 (nI a) ∧ (¬ sp_X3_nth (nI n) 2 (nI a) < 0 → a < 6) := by decide +kernel
set_option maxRecDepth 100000 in
theorem sl_f6 : ∀ n, n < 64 → (nI n &&& 21 = 0 ↔ sp_X3_length (nI n) 0 = 0) ∧ (nI n &&& 42 = 0 ↔ sp_X3_length (nI n) 1 = 0) := by decide +kernel
set_option maxRecDepth 100000 in
theorem sl_f7 : ∀ n, n < 64 → ∀ w, w < 64 → nI n &&& (nI w ^^^ (-1)) = nI (n &&& (63 ^^^ w)) ∧ n &&& (63 ^^^ w) < 64 := by decide +kernel
