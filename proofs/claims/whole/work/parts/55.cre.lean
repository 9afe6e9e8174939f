/-! OBJECTS MADE: lists that grow; what is made keeps the elements of the lists where they are -/
/-- the places after a full array of c places grows -/
def gro (c : Nat) : Nat := if c = 0 then 10 else c + max 1 (c / 2)
theorem gro_lt (c : Nat) : c < gro c := by unfold gro; split <;> omega
theorem gro_le {c : Nat} (h : c ≤ 20) : gro c ≤ 30 := by unfold gro; split <;> omega
/-- the places after one more is put -/
def cap' (c n : Nat) : Nat := if c < n then n else gro c
theorem cpy_all {c : Nat} {f : Nat → Option Nat} (hf : ∀ j, c ≤ j → f j = none) : va_cpy f (fun _ => none) 0 0 c = f := by
  funext j
  unfold va_cpy
  by_cases h : 0 ≤ j ∧ j < 0 + c
  · rw [if_pos h, Nat.sub_zero, Nat.zero_add]
  · rw [if_neg h, hf j (by omega)]
theorem cpy_0 {f : Nat → Option Nat} {s d : Nat} : va_cpy f f s d 0 = f := by
  funext j
  unfold va_cpy
  rw [if_neg (by omega)]
abbrev Els (ci : Nat) (ad : Nm) (μ : Ce) (f : Nat → Option Nat) : Prop := ∀ i q, f i = some q → ∃ k' i' fs, μ k' i' = some (.inr (ci, fs)) ∧ ad k' i' = q
theorem Els.new {ci : Nat} {ad : Nm} {μ : Ce} {f : Nat → Option Nat} (h : Els ci ad μ f) {K I q : Nat} {e : va_E} (hn : μ K I = none) : Els ci (nmu ad K I q) (up2 μ K I e) f := by
  intro i x hx
  obtain ⟨k', i', fs, g1, g2⟩ := h i x hx
  have hne : ¬ (k' = K ∧ i' = I) := by
    rintro ⟨rfl, rfl⟩
    rw [hn] at g1
    cases g1
  exact ⟨k', i', fs, (up2_n hne).trans g1, (nmu_n hne).trans g2⟩
theorem Els.up {ci cj : Nat} {ad : Nm} {μ : Ce} {f : Nat → Option Nat} (h : Els ci ad μ f) {K I : Nat} {gs : List Value} {e : va_E} (hn : μ K I = some (.inr (cj, gs))) (hc : cj ≠ ci) : Els ci ad (up2 μ K I e) f := by
  intro i x hx
  obtain ⟨k', i', fs, g1, g2⟩ := h i x hx
  have hne : ¬ (k' = K ∧ i' = I) := by
    rintro ⟨rfl, rfl⟩
    rw [hn] at g1
    exact hc (congrArg Prod.fst (Sum.inr.inj (Option.some.inj g1)))
  exact ⟨k', i', fs, (up2_n hne).trans g1, g2⟩
theorem Els.none {ci : Nat} {ad : Nm} {μ : Ce} : Els ci ad μ (fun _ => none) := fun _ _ h => by cases h
section ZSW
variable {g : Gx} {z : Zx} {nL n k pc : Nat} {ad : Nm} {μ : Ce} {lv : Lv} {st : List Value}
/-- the grown array takes the old one's name -/
theorem r_sw {l q : Nat} {e e1 : va_E} (h : μ 90 0 = none) (kk : WW g z nL n k (nmu ad 2 l q) (up2 (up2 μ 2 l e) 1 l e1) pc lv st) : WW g z nL n k (nmu ad 90 0 q) (up2 (up2 μ 90 0 e) 1 l e1) pc lv st := by
  refine r_ren (fun k i => if k = 2 ∧ i = l then (90, 0) else (k, i)) (fun k i x hx => ?_) (fun k i k' i' h1 h2 hp => ?_) kk
  · by_cases c : k = 2 ∧ i = l
    · obtain ⟨rfl, rfl⟩ := c
      rw [if_pos ⟨rfl, rfl⟩]
      rw [up2_n (by omega), up2_s] at hx
      refine ⟨(up2_n (by show ¬ (90 = 1 ∧ _); omega)).trans (up2_s.trans hx), nmu_s.trans nmu_s.symm⟩
    · rw [if_neg c]
      show up2 (up2 μ 90 0 e) 1 l e1 k i = some x ∧ nmu ad 90 0 q k i = nmu ad 2 l q k i
      by_cases c1 : k = 1 ∧ i = l
      · obtain ⟨rfl, rfl⟩ := c1
        rw [up2_s] at hx
        exact ⟨up2_s.trans hx, (nmu_n (by omega)).trans (nmu_n (by omega)).symm⟩
      · rw [up2_n c1, up2_n c] at hx
        have hne : ¬ (k = 90 ∧ i = 0) := by
          rintro ⟨rfl, rfl⟩
          rw [h] at hx
          cases hx
        exact ⟨(up2_n c1).trans ((up2_n hne).trans hx), (nmu_n hne).trans (nmu_n c).symm⟩
  · have hno : ∀ a b, up2 (up2 μ 2 l e) 1 l e1 a b ≠ none → ¬ (a = 90 ∧ b = 0) := by
      rintro _ _ hh ⟨rfl, rfl⟩
      rw [up2_n (by omega), up2_n (by omega)] at hh
      exact hh h
    have n1 := hno _ _ h1
    have n2 := hno _ _ h2
    by_cases c : k = 2 ∧ i = l <;> by_cases c' : k' = 2 ∧ i' = l
    · exact ⟨c.1.trans c'.1.symm, c.2.trans c'.2.symm⟩
    · rw [if_pos c, if_neg c'] at hp
      exact absurd ⟨(congrArg Prod.fst hp).symm, (congrArg Prod.snd hp).symm⟩ n2
    · rw [if_neg c, if_pos c'] at hp
      exact absurd ⟨congrArg Prod.fst hp, congrArg Prod.snd hp⟩ n1
    · rw [if_neg c, if_neg c'] at hp
      exact ⟨congrArg Prod.fst hp, congrArg Prod.snd hp⟩
end ZSW
theorem nmu_id {ad : Nm} {k i : Nat} : nmu ad k i (ad k i) = ad := by
  funext a b
  by_cases h : a = k ∧ b = i
  · rw [h.1, h.2, nmu_s]
  · rw [nmu_n h]
theorem shrN {n : Nat} (h : n < 2 ^ 31) (m : Nat) (hm : 2 = m) : nI n >>> (nI 1 &&& 31) = nI (n / m) := by
  subst hm
  have k := pk_shrN (n := n) h (nI 1 &&& 31) 1 (by decide)
  rw [Nat.pow_one] at k
  exact k
theorem shr0 {n : Nat} (_ : n < 2 ^ 31) : nI n >>> (nI 0 &&& 31) = nI n := by
  have k := pk_shrN (n := n) (by omega) (nI 0 &&& 31) 0 (by decide)
  rw [Nat.pow_zero, Nat.div_one] at k
  exact k
theorem i2bN' : ∀ n, n < 128 → (nI n).toInt8.toInt32 = nI n := by decide +kernel
theorem i2bN {n : Nat} (h : n < 128) : (nI n).toInt8.toInt32 = nI n := i2bN' n h
theorem bn {f : Nat} (h : f < 128) : vp_nar .byte (nI f) = nI f := by rw [vp_nar_byte]; exact i2bN h
theorem fitZ {f : Nat} (h : f ≤ 1) : fits .boolean (.int (nI f)) = true := by
  rcases (show f = 0 ∨ f = 1 by omega) with rfl | rfl <;> rfl
