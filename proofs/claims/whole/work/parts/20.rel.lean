/-! What the two systems have in common. -/
def sl_ok (x : Int32) : Prop := ∃ n : Nat, n < 64 ∧ x = nI n ∧ nI n &&& 21 ≠ 0 ∧ nI n &&& 42 ≠ 0
def sl_drp : Nat → Int32 → Int32
  | 0, r => r
  | a + 1, r => sp_X2_withoutLowest (sl_drp a r)
def sl_msk (p : Nat) : Int32 := if p % 2 = 0 then 21 else 42
def sl_RG (σ τ : sl_M) : Prop := σ 0 2 = τ 18 6 ∧ σ 0 3 = τ 18 7 ∧ σ 0 4 = τ 18 8 ∧ σ 0 5 = τ 18 9 ∧ sl_ok (σ 0 3) ∧ ∃ n, n ≤ 32 ∧ σ 0 5 = nI n
def sl_RU (σ τ : sl_M) : Prop := ∀ j, j < 6 → σ (6 + j) 0 = τ 22 j ∧ (σ (6 + j) 1 = 0 ↔ τ 23 j = 1)
def sl_RR (σ τ : sl_M) : Prop := ∃ R : Nat, R ≤ 192 ∧ τ 18 0 = nI R ∧ (∀ n, n < R → ∃ u p, u < 6 ∧ p < 32 ∧ τ 19 n = nI u ∧ τ 20 n = nI p ∧ τ 21 n = σ (6 + u + 6) p ∧ τ 21 n ≠ -2) ∧ (∀ u p, u < 6 → p < 32 → σ (6 + u + 6) p ≠ -2 → ∃ n, n < R ∧ τ 19 n = nI u ∧ τ 20 n = nI p) ∧ (∀ n n', n < R → n' < R → τ 19 n = τ 19 n' → τ 20 n = τ 20 n' → n = n') ∧ (∀ u p, u < 6 → p < 32 → -2 ≤ (σ (6 + u + 6) p).toInt)
def sl_on (x y : Nat → Int32) : Prop := ∃ p a, p < 32 ∧ a < 6 ∧ y 29 = nI p ∧ x 6 = nI p ∧ y 31 = nI a ∧ x 5 = sl_drp a (x 1 &&& sl_msk p) ∧ x 5 ≠ 0
def sl_O1 (x y : Nat → Int32) : Prop := x 7 = y 30 ∧ 0 ≤ (y 30).toInt ∧ ((y 29 = -1 ∧ x 5 = 0) ∨ sl_on x y)
def sl_O2 (x y : Nat → Int32) : Prop := sl_on x y ∧ ((y 31 = 0 ∧ x 7 = -1) ∨ (y 31 ≠ 0 ∧ x 7 = y 30 ∧ -1 ≤ (y 30).toInt))
def sl_O3 (x y : Nat → Int32) : Prop := ∃ p, p < 32 ∧ y 29 = nI p ∧ x 6 = nI p ∧ x 5 = sp_X2_highestOf (x 1 &&& sl_msk p)
def sl_O4 (x y : Nat → Int32) : Prop := ∃ p u, p ≤ u ∧ u ≤ 32 ∧ y 29 = nI p ∧ x 6 = nI p ∧ x 8 = nI u ∧ y 32 = nI u ∧ x 9 = y 30 ∧ x 5 = (if p = u then 0 else sp_X2_highestOf (x 1 &&& sl_msk p))
def sl_O5 (x y : Nat → Int32) : Prop := x 10 = y 32 ∧ sl_ok (y 32) ∧ (∃ a, a ≤ 6 ∧ y 31 = nI a ∧ x 5 = sl_drp a (y 32)) ∧ x 11 = y 30 ∧ ∃ w, w ≤ 32 ∧ y 30 = nI w
def sl_Op (x y : Nat → Int32) : Prop := y 24 = 0 ∨ (y 24 = 1 ∧ sl_O1 x y) ∨ (y 24 = 2 ∧ sl_O2 x y) ∨ (y 24 = 3 ∧ sl_O3 x y) ∨ (y 24 = 4 ∧ sl_O4 x y) ∨ (y 24 = 5 ∧ sl_O5 x y)
def sl_RC (x y : Nat → Int32) : Prop := x 0 = y 25 ∧ x 1 = y 26 ∧ x 2 = y 24 ∧ x 3 = y 27 ∧ x 4 = y 28 ∧ sl_ok (x 1) ∧ sl_Op x y
def sl_R (σ τ : sl_M) : Prop := sl_RG σ τ ∧ sl_RU σ τ ∧ sl_RR σ τ ∧ ∀ i, i < 3 → sl_RC (σ (3 + i)) (fun k => τ k i)
