/-! A RULE IS REMOVED; A BASIN IS ADDED -/
/-- rules from r to k - 1 moved down -/
def rms (σ : Sg) (r k : Nat) : Sg := fun f i j => if f = 8 ∧ (r ≤ i ∧ (i < k ∧ j < 5)) then σ 8 (i + 1) j else σ f i j
theorem rms_0 {σ : Sg} {r : Nat} : rms σ r r = σ := by
  funext f i j
  exact if_neg (fun q => by omega)
theorem rms_hi {σ : Sg} {r k i j : Nat} (h : k ≤ i) : rms σ r k 8 i j = σ 8 i j := if_neg (fun q => by omega)
theorem rms_1 {σ : Sg} {r k : Nat} (h : r ≤ k) : su (su (su (su (su (rms σ r k) 8 k 0 (rms σ r k 8 (k + 1) 0)) 8 k 1 (rms σ r k 8 (k + 1) 1)) 8 k 2 (rms σ r k 8 (k + 1) 2)) 8 k 3 (rms σ r k 8 (k + 1) 3)) 8 k 4 (rms σ r k 8 (k + 1) 4) = rms σ r (k + 1) := by
  simp only [rms_hi (σ := σ) (r := r) (Nat.le_succ k)]
  funext f i j
  by_cases e : f = 8 ∧ i = k ∧ j < 5
  · obtain ⟨rfl, rfl, hj⟩ := e
    have er : rms σ r (i + 1) 8 i j = σ 8 (i + 1) j := if_pos ⟨rfl, h, Nat.lt_succ_self i, hj⟩
    rw [er]
    rcases (show j = 0 ∨ j = 1 ∨ j = 2 ∨ j = 3 ∨ j = 4 by omega) with rfl | rfl | rfl | rfl | rfl
    · rw [su_n (by omega), su_n (by omega), su_n (by omega), su_n (by omega), su_s]
    · rw [su_n (by omega), su_n (by omega), su_n (by omega), su_s]
    · rw [su_n (by omega), su_n (by omega), su_s]
    · rw [su_n (by omega), su_s]
    · rw [su_s]
  · rw [su_n (by omega), su_n (by omega), su_n (by omega), su_n (by omega), su_n (by omega)]
    unfold rms
    by_cases q : f = 8 ∧ (r ≤ i ∧ (i < k ∧ j < 5))
    · rw [if_pos q, if_pos ⟨q.1, q.2.1, by omega, q.2.2.2⟩]
    · rw [if_neg q, if_neg (fun z => by omega)]
def fRem (σ : Sg) (x : Int32) : Sg := rms (su σ 0 1 0 (σ 0 1 0 - 1)) (jN x) (σ 0 1 0 - 1)
theorem agr_rms0 {σ σ' : Sg} (h : agr σ σ') {r k : Nat} : agr (rms σ r k) (rms σ' r k) := by
  intro f i j hf hj
  unfold rms
  split
  · exact h 8 (i + 1) j (by decide) (fun q => by omega)
  · exact h f i j hf hj
theorem agr.rms {σ σ' : Sg} (h : agr σ σ') {r k : Nat} : agr (rms σ r k) (rms σ' r k) := agr_rms0 h
