/-! THE MODEL'S HOUR -/
def mra (τ : Sg) (n : Nat) : Sg := fun f i j => if f = 3 ∧ (i < n ∧ j = 0) then τ 3 i 0 + τ 1 i 5 else ra τ n f i j
theorem mra_0 {τ : Sg} : mra τ 0 = τ := by
  funext f i j
  unfold mra
  rw [if_neg (fun q => Nat.not_lt_zero _ q.2.1), ra_0]
theorem mra_1 {τ : Sg} {n : Nat} : su (su (su (mra τ n) 3 n 0 (τ 3 n 0 + τ 1 n 5)) 12 1 0 (τ 12 1 0 + sumT (fun b => τ 1 b 5) n + τ 1 n 5)) 5 n (τ 12 0 0 + 1) (τ 1 n 5) = mra τ (n + 1) := by
  funext f i j
  by_cases h3 : f = 3
  · subst h3
    rw [su_n (by omega), su_n (by omega)]
    unfold mra
    by_cases e : i = n ∧ j = 0
    · rw [e.1, e.2, su_s, if_pos ⟨rfl, Nat.lt_succ_self n, rfl⟩]
    · rw [su_n (by omega)]
      show (if 3 = 3 ∧ (i < n ∧ j = 0) then τ 3 i 0 + τ 1 i 5 else ra τ n 3 i j) = _
      by_cases q : i < n ∧ j = 0
      · rw [if_pos ⟨rfl, q⟩, if_pos ⟨rfl, by omega, q.2⟩]
      · rw [if_neg (fun z => q z.2), if_neg (fun z => by omega)]; rfl
  · have e1 : ∀ m a b, mra τ m f a b = ra τ m f a b := fun m a b => if_neg (fun q => h3 q.1)
    rw [e1 (n + 1), ← ra_1]
    by_cases e5 : f = 5 ∧ i = n ∧ j = τ 12 0 0 + 1
    · rw [e5.1, e5.2.1, e5.2.2, su_s, su_n (by omega), su_s]
    · rw [su_n e5]
      by_cases e12 : f = 12 ∧ i = 1 ∧ j = 0
      · rw [e12.1, e12.2.1, e12.2.2, su_s, su_s]
      · rw [su_n e12, su_n e12, su_n (by omega), su_n e5, e1]
theorem mra_V {τ : Sg} : (fun i => mra τ (τ 0 0 0) 3 i 0) = mvR (ra τ (τ 0 0 0)) (τ 12 0 0 + 1) (fun i => τ 3 i 0) := by
  funext i
  show mra τ (τ 0 0 0) 3 i 0 = fst (τ 0 0 0) (fun b => τ 3 b 0 + ra τ (τ 0 0 0) 5 b (τ 12 0 0 + 1)) (fun i => τ 3 i 0) i
  by_cases h : i < τ 0 0 0
  · rw [fst_lt h]
    have e1 : mra τ (τ 0 0 0) 3 i 0 = τ 3 i 0 + τ 1 i 5 := if_pos ⟨rfl, h, rfl⟩
    have e2 : ra τ (τ 0 0 0) 5 i (τ 12 0 0 + 1) = τ 1 i 5 := if_pos ⟨rfl, h, rfl⟩
    rw [e1, e2]
  · rw [fst_ge h]
    exact if_neg (fun q => h q.2.1)
theorem mvO_fo {σ : Sg} {fo h : Nat} {V : Nat → Nat} : mvO σ 0 fo h V = mvO σ 0 0 h V := by
  funext b
  unfold mvO lvg opF
  rw [if_neg (by omega), if_neg (by omega)]
theorem mvV_fo {σ : Sg} {fo h : Nat} {V S : Nat → Nat} : mvV σ 0 fo h V S = mvV σ 0 0 h V S := by unfold mvV mvG; rw [mvO_fo]
theorem mvS_fo {σ : Sg} {fo h : Nat} {V S : Nat → Nat} : mvS σ 0 fo h V S = mvS σ 0 0 h V S := by unfold mvS mvG; rw [mvO_fo]
def mhO (τ : Sg) : Nat → Nat := mvO (ra τ (τ 0 0 0)) 0 0 (τ 12 0 0 + 1) (fun i => τ 3 i 0)
def mhF (τ : Sg) : Sg := msw (mra τ (τ 0 0 0)) 0 (mvV (ra τ (τ 0 0 0)) 0 0 (τ 12 0 0 + 1) (fun i => τ 3 i 0) (fun i => τ 4 i 0)) (mvS (ra τ (τ 0 0 0)) 0 0 (τ 12 0 0 + 1) (fun i => τ 3 i 0) (fun i => τ 4 i 0)) (fst (τ 0 0 0) (mhO τ) (fun i => τ 70 i 0))
def mhour (τ : Sg) : Sg := su (vo (su (mhF τ) 6 0 0 (τ 6 0 0 + mhO τ 0)) (τ 0 0 0)) 12 0 0 (τ 12 0 0 + 1)
theorem agr.ra {σ σ' : Sg} (h : agr σ σ') {n : Nat} : agr (ra σ n) (ra σ' n) := by
  intro f i j hf hj
  unfold Jvm.Pilot.CStormBasinLaw_law_r7612_63bf78.ra
  rw [h 12 0 0 (by decide) (fun q => by omega), h 12 1 0 (by decide) (fun q => by omega), h.fn (f := 1) (by decide) (by decide) (by decide) (by decide), h f i j hf hj]
theorem agr.vo {σ σ' : Sg} (h : agr σ σ') {n : Nat} : agr (vo σ n) (vo σ' n) := by
  intro f i j hf hj
  unfold Jvm.Pilot.CStormBasinLaw_law_r7612_63bf78.vo
  rw [h 12 0 0 (by decide) (fun q => by omega), h 4 i 0 (by decide) (fun _ => rfl), h f i j hf hj]
