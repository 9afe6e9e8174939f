/-! PURE 9: the calls keep what class and model share in order -/
theorem InvB.cg {σ σ' : Sg} (I : InvB σ) (h0 : σ' 0 = σ 0) (h12 : σ' 12 = σ 12) (h11 : σ' 11 = σ 11) (h1 : ∀ b j, j ≠ 4 → j ≠ 5 → σ' 1 b j = σ 1 b j) (h45 : ∀ b, b < σ 0 0 0 → σ' 1 b 4 ≤ 10 ∧ σ' 1 b 5 ≤ 500) (h2 : σ' 2 = σ 2) (h5 : σ' 5 = σ 5) (h7 : σ' 7 = σ 7) (h8 : σ' 8 = σ 8) (h9 : ∀ k j, j ≠ 4 → σ' 9 k j = σ 9 k j) (h94 : ∀ k, k < σ 0 2 0 → σ' 9 k 4 ≤ σ 9 k 3) (h10 : ∀ k h, k < σ 0 2 0 → σ' 10 k h ≤ 1) : InvB σ' := by
  obtain ⟨i1, i2, i3, i4⟩ := I
  refine ⟨by rw [h0, h12, h11]; exact i1, fun b hb => ?_, fun j hj => ?_, fun k hk => ?_⟩
  · rw [h0] at hb
    obtain ⟨a1, a2, a3, a4, a5, a6⟩ := i2 b hb
    rw [h1 b 0 (by decide) (by decide), h1 b 1 (by decide) (by decide), h1 b 2 (by decide) (by decide), h1 b 3 (by decide) (by decide), h1 b 6 (by decide) (by decide), h2, h5, h7]
    exact ⟨a1, a2, h45 b hb, a4, a5, a6⟩
  · rw [h0] at hj
    rw [h8, h0]
    exact i3 j hj
  · rw [h0] at hk
    obtain ⟨⟨b1, b2, b3, b4, b5⟩, b6⟩ := i4 k hk
    rw [h9 k 0 (by decide), h9 k 1 (by decide), h9 k 2 (by decide), h9 k 3 (by decide), h0, h1 _ 6 (by decide) (by decide)]
    exact ⟨⟨b1, b2, b3, b4, h94 k hk⟩, fun h => h10 k h hk⟩
theorem IR.hand {σ : Sg} (Q : IR σ) {b p : Nat} (hb : b < σ 0 0 0) (hp : p ≤ 10) : IR (su σ 1 b 4 p) := by
  obtain ⟨I, V, Z1, Z2⟩ := Q
  refine ⟨I.cg rfl rfl rfl (fun c j h4 h5 => su_n (by omega)) (fun c hc => ?_) rfl rfl rfl rfl (fun k j h => rfl) (fun k hk => ?_) (fun k h hk => (I.2.2.2 k hk).2 h), V, fun c hc => ?_, Z2⟩
  · obtain ⟨-, -, a3, -⟩ := I.2.1 c hc
    rw [su_n (f := 1) (j' := 5) (by omega)]
    by_cases e : c = b
    · rw [e, su_s]; exact ⟨hp, by rw [← e]; exact a3.2⟩
    · rw [su_n (by omega)]; exact a3
  · obtain ⟨⟨-, -, -, -, b5⟩, -⟩ := I.2.2.2 k hk
    exact b5
  · obtain ⟨z1, z2, z3⟩ := Z1 c hc
    have hc' : σ 0 0 0 ≤ c := hc
    exact ⟨⟨(su_n (by omega)).trans z1.1, (su_n (by omega)).trans z1.2⟩, z2, z3⟩
theorem IR.rain {σ : Sg} (Q : IR σ) {b p : Nat} (hb : b < σ 0 0 0) (hp : p ≤ 500) : IR (su σ 1 b 5 p) := by
  obtain ⟨I, V, Z1, Z2⟩ := Q
  refine ⟨I.cg rfl rfl rfl (fun c j h4 h5 => su_n (by omega)) (fun c hc => ?_) rfl rfl rfl rfl (fun k j h => rfl) (fun k hk => ?_) (fun k h hk => (I.2.2.2 k hk).2 h), V, fun c hc => ?_, Z2⟩
  · obtain ⟨-, -, a3, -⟩ := I.2.1 c hc
    rw [su_n (f := 1) (j' := 4) (by omega)]
    by_cases e : c = b
    · rw [e, su_s]; exact ⟨by rw [← e]; exact a3.1, hp⟩
    · rw [su_n (by omega)]; exact a3
  · obtain ⟨⟨-, -, -, -, b5⟩, -⟩ := I.2.2.2 k hk
    exact b5
  · obtain ⟨z1, z2, z3⟩ := Z1 c hc
    have hc' : σ 0 0 0 ≤ c := hc
    exact ⟨⟨(su_n (by omega)).trans z1.1, (su_n (by omega)).trans z1.2⟩, z2, z3⟩
theorem IR.pay {σ : Sg} (Q : IR σ) {k h : Nat} (hk : k < σ 0 2 0) : IR (fPay σ k h) := by
  obtain ⟨I, V, Z1, Z2⟩ := Q
  unfold fPay
  have e9 : ∀ m j, ¬ (m = k ∧ j = 4) → su (su σ 10 k h 1) 9 k 4 (σ 9 k 4 + pmt σ k h) 9 m j = σ 9 m j := fun m j hm => (su_n (by omega)).trans (su_n (by omega))
  have e10 : ∀ m t, su (su σ 10 k h 1) 9 k 4 (σ 9 k 4 + pmt σ k h) 10 m t = if m = k ∧ t = h then 1 else σ 10 m t := by
    intro m t
    rw [su_n (by omega)]
    by_cases q : m = k ∧ t = h
    · rw [if_pos q, q.1, q.2, su_s]
    · rw [if_neg q, su_n (by omega)]
  refine ⟨I.cg rfl rfl rfl (fun c j h4 h5 => rfl) (fun c hc => (I.2.1 c hc).2.2.1) rfl rfl rfl rfl (fun m j hj => e9 m j (by omega)) (fun m hm => ?_) (fun m t hm => ?_), V, Z1, fun m hm => ?_⟩
  · obtain ⟨⟨-, -, -, -, b5⟩, -⟩ := I.2.2.2 m hm
    by_cases e : m = k
    · rw [e] at b5 ⊢
      rw [su_s]
      unfold pmt
      omega
    · rw [e9 m 4 (by omega)]; exact b5
  · rw [e10]
    split
    · exact Nat.le_refl _
    · exact (I.2.2.2 m hm).2 t
  · have hm' : σ 0 2 0 ≤ m := hm
    rw [e9 m 4 (by omega)]
    refine ⟨(Z2 m hm').1, fun t => ?_⟩
    rw [e10, if_neg (by omega)]
    exact (Z2 m hm').2 t
theorem IR.cell {σ : Sg} (Q : IR σ) {b p : Nat} (hb : b < σ 0 0 0) (hp : p ≤ 30) (hc : σ 1 b 6 < 8) : IR (su (su σ 1 b 6 (σ 1 b 6 + 1)) 2 b (σ 1 b 6) p) := by
  obtain ⟨⟨i1, i2, i3, i4⟩, V, Z1, Z2⟩ := Q
  have e1 : ∀ c j, ¬ (c = b ∧ j = 6) → su (su σ 1 b 6 (σ 1 b 6 + 1)) 2 b (σ 1 b 6) p 1 c j = σ 1 c j := fun c j h => (su_n (by omega)).trans (su_n (by omega))
  have e6 : su (su σ 1 b 6 (σ 1 b 6 + 1)) 2 b (σ 1 b 6) p 1 b 6 = σ 1 b 6 + 1 := (su_n (by omega)).trans su_s
  have e2 : ∀ c, c ≠ b → su (su σ 1 b 6 (σ 1 b 6 + 1)) 2 b (σ 1 b 6) p 2 c = σ 2 c := fun c h => by funext j; exact (su_n (by omega)).trans (su_n (by omega))
  have e2b : su (su σ 1 b 6 (σ 1 b 6 + 1)) 2 b (σ 1 b 6) p 2 b = up1 (σ 2 b) (σ 1 b 6) p := by
    funext j
    rw [su_sp1, sp_s]
    have : su σ 1 b 6 (σ 1 b 6 + 1) 2 b = σ 2 b := by funext j; exact su_n (by omega)
    rw [this]
  have h6 : ∀ c, σ 1 c 6 ≤ su (su σ 1 b 6 (σ 1 b 6 + 1)) 2 b (σ 1 b 6) p 1 c 6 := by
    intro c
    by_cases e : c = b
    · rw [e, e6]; omega
    · rw [e1 c 6 (by omega)]; omega
  refine ⟨⟨i1, fun c hc' => ?_, i3, fun k hk => ?_⟩, V, fun c hc' => ?_, Z2⟩
  · obtain ⟨a1, a2, a3, a4, a5, a6⟩ := i2 c hc'
    rw [e1 c 0 (by omega), e1 c 1 (by omega), e1 c 2 (by omega), e1 c 3 (by omega), e1 c 4 (by omega), e1 c 5 (by omega)]
    refine ⟨a1, a2, a3, ?_, a5, a6⟩
    by_cases e : c = b
    · rw [e] at a4 ⊢
      rw [e6, e2b]
      exact a4.add hc hp
    · rw [e1 c 6 (by omega), e2 c e]; exact a4
  · obtain ⟨⟨b1, b2, b3⟩, b4⟩ := i4 k hk
    exact ⟨⟨b1, Nat.lt_of_lt_of_le b2 (h6 _), b3⟩, b4⟩
  · have hc'' : σ 0 0 0 ≤ c := hc'
    obtain ⟨z1, z2, z3⟩ := Z1 c hc''
    rw [e1 c 4 (by omega), e1 c 5 (by omega), e2 c (by omega)]
    exact ⟨z1, z2, z3⟩
