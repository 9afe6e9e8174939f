/-! ONE SET OF NUMBERS OUT OF TWO that agree -/
def mg (σ τ : Sg) : Sg := fun f i j => if 60 ≤ f ∨ ((f = 3 ∨ f = 4 ∨ f = 6) ∧ j = 2) then τ f i j else σ f i j
theorem mg_s {σ τ : Sg} {f i j : Nat} (h : ¬ (60 ≤ f ∨ ((f = 3 ∨ f = 4 ∨ f = 6) ∧ j = 2))) : mg σ τ f i j = σ f i j := if_neg h
theorem mg_t {σ τ : Sg} {f i j : Nat} (h : 60 ≤ f ∨ ((f = 3 ∨ f = 4 ∨ f = 6) ∧ j = 2)) : mg σ τ f i j = τ f i j := if_pos h
theorem mg_f {σ τ : Sg} {f : Nat} (h : f < 60) (h3 : f ≠ 3) (h4 : f ≠ 4) (h6 : f ≠ 6) : mg σ τ f = σ f := by
  funext i j
  exact mg_s (by omega)
theorem mg_a {σ τ : Sg} (h : agr σ τ) {f i j : Nat} (hf : f < 20) (hj : f = 3 ∨ f = 4 ∨ f = 6 → j = 0) : mg σ τ f i j = τ f i j := by
  by_cases q : 60 ≤ f ∨ ((f = 3 ∨ f = 4 ∨ f = 6) ∧ j = 2)
  · exact mg_t q
  · rw [mg_s q]; exact h f i j hf hj
theorem agr.mg {σ τ : Sg} : agr (mg σ τ) σ := fun f i j hf hj => mg_s (by omega)
theorem ICo_mg0 {σ τ : Sg} (C : ICo σ) : ICo (mg σ τ) := by
  obtain ⟨c1, c2, c3, c4, c5, c6⟩ := C
  have e : ∀ f, f < 60 → f ≠ 3 → f ≠ 4 → f ≠ 6 → mg σ τ f = σ f := fun f h1 h2 h3 h4 => mg_f h1 h2 h3 h4
  refine ⟨?_, ?_, ?_, ?_, ?_, ?_⟩
  · unfold InvL at *; rw [e 0 (by decide) (by decide) (by decide) (by decide), e 34 (by decide) (by decide) (by decide) (by decide)]; exact c1
  · unfold InvD at *; rw [e 0 (by decide) (by decide) (by decide) (by decide), e 1 (by decide) (by decide) (by decide) (by decide), e 2 (by decide) (by decide) (by decide) (by decide), e 30 (by decide) (by decide) (by decide) (by decide)]; exact c2
  · intro b hb; rw [mg_s (by omega), mg_s (by omega)]; exact c3 b hb
  · rw [e 31 (by decide) (by decide) (by decide) (by decide), e 12 (by decide) (by decide) (by decide) (by decide), c4]
    exact (fld_cg (by rw [e 0 (by decide) (by decide) (by decide) (by decide)]) (fun b => by rw [e 1 (by decide) (by decide) (by decide) (by decide)]) (e 2 (by decide) (by decide) (by decide) (by decide)) (e 7 (by decide) (by decide) (by decide) (by decide)) _).symm
  · intro k hk
    rw [e 0 (by decide) (by decide) (by decide) (by decide)] at hk
    rw [e 32 (by decide) (by decide) (by decide) (by decide)]
    unfold clm
    rw [e 10 (by decide) (by decide) (by decide) (by decide)]
    exact c5 k hk
  · rw [e 37 (by decide) (by decide) (by decide) (by decide)]; exact c6
theorem ICo.mg {σ τ : Sg} (C : ICo σ) : ICo (mg σ τ) := ICo_mg0 C
theorem IMo_mg0 {σ τ : Sg} (M : IMo τ) (h : agr σ τ) : IMo (mg σ τ) := by
  obtain ⟨m1, m2, m3⟩ := M
  have e0 : ∀ i j, mg σ τ 0 i j = τ 0 i j := fun i j => mg_a h (by decide) (fun q => by omega)
  have e10 : ∀ i j, mg σ τ 10 i j = τ 10 i j := fun i j => mg_a h (by decide) (fun q => by omega)
  refine ⟨?_, ?_, ?_⟩
  · rw [mg_t (by omega), m1]
    unfold clT clm
    simp only [e0, e10]
  · rw [mg_t (by omega), mg_t (by omega)]; exact m2
  · intro b hb
    rw [e0] at hb
    rw [mg_t (by omega), mg_t (by omega)]
    exact m3 b hb
theorem IMo.mg {σ τ : Sg} (M : IMo τ) (h : agr σ τ) : IMo (mg σ τ) := IMo_mg0 M h
section ZMG
variable {z : Zx} {ad : Nm} {σ τ : Sg} {o : Int64 × UInt64}
theorem W_mg (h : agr σ τ) : Wz z ad σ τ o = Wz z ad (mg σ τ) (mg σ τ) o := by
  have hS : ∀ f i j, f < 60 → f ≠ 3 → f ≠ 4 → f ≠ 6 → mg σ τ f i j = σ f i j := fun f i j h1 h2 h3 h4 => mg_s (by omega)
  have hN : ∀ f i j, j ≠ 2 → f < 60 → mg σ τ f i j = σ f i j := fun f i j h1 h2 => mg_s (by omega)
  have hA : ∀ f i j, f < 20 → f ≠ 3 → f ≠ 4 → f ≠ 6 → mg σ τ f i j = τ f i j := fun f i j h1 h2 h3 h4 => mg_a h h1 (fun q => by omega)
  have e30 : ∀ i, mg σ τ 3 i 0 = τ 3 i 0 := fun i => mg_a h (by decide) (fun _ => rfl)
  have e40 : ∀ i, mg σ τ 4 i 0 = τ 4 i 0 := fun i => mg_a h (by decide) (fun _ => rfl)
  have e60 : ∀ i, mg σ τ 6 i 0 = τ 6 i 0 := fun i => mg_a h (by decide) (fun _ => rfl)
  have e32 : ∀ i, mg σ τ 3 i 2 = τ 3 i 2 := fun i => mg_t (by omega)
  have e42 : ∀ i, mg σ τ 4 i 2 = τ 4 i 2 := fun i => mg_t (by omega)
  have hT : ∀ f i j, 60 ≤ f → mg σ τ f i j = τ f i j := fun f i j h1 => mg_t (Or.inl h1)
  have a0 : ∀ i j, mg σ τ 0 i j = τ 0 i j := fun i j => hA 0 i j (by decide) (by decide) (by decide) (by decide)
  have a1 : ∀ i j, mg σ τ 1 i j = τ 1 i j := fun i j => hA 1 i j (by decide) (by decide) (by decide) (by decide)
  have a2 : ∀ i j, mg σ τ 2 i j = τ 2 i j := fun i j => hA 2 i j (by decide) (by decide) (by decide) (by decide)
  have a5 : ∀ i j, mg σ τ 5 i j = τ 5 i j := fun i j => hA 5 i j (by decide) (by decide) (by decide) (by decide)
  have a7 : ∀ i j, mg σ τ 7 i j = τ 7 i j := fun i j => hA 7 i j (by decide) (by decide) (by decide) (by decide)
  have a8 : ∀ i j, mg σ τ 8 i j = τ 8 i j := fun i j => hA 8 i j (by decide) (by decide) (by decide) (by decide)
  have a9 : ∀ i j, mg σ τ 9 i j = τ 9 i j := fun i j => hA 9 i j (by decide) (by decide) (by decide) (by decide)
  have a10 : ∀ i j, mg σ τ 10 i j = τ 10 i j := fun i j => hA 10 i j (by decide) (by decide) (by decide) (by decide)
  have a11 : ∀ i j, mg σ τ 11 i j = τ 11 i j := fun i j => hA 11 i j (by decide) (by decide) (by decide) (by decide)
  have a12 : ∀ i j, mg σ τ 12 i j = τ 12 i j := fun i j => hA 12 i j (by decide) (by decide) (by decide) (by decide)
  have s0 : ∀ i j, mg σ τ 0 i j = σ 0 i j := fun i j => hS 0 i j (by decide) (by decide) (by decide) (by decide)
  generalize mg σ τ = ρ at hS hN hA e30 e40 e60 e32 e42 hT a0 a1 a2 a5 a7 a8 a9 a10 a11 a12 s0 ⊢
  have sf : ∀ f, f < 60 → f ≠ 3 → f ≠ 4 → f ≠ 6 → ρ f = σ f := fun f h1 h2 h3 h4 => by funext i j; exact hS f i j h1 h2 h3 h4
  funext k i
  match k with
  | 0 =>
    show (if i = 0 then _ else none) = (if i = 0 then _ else none)
    rw [hS 12 0 0 (by decide) (by decide) (by decide) (by decide), hS 12 1 0 (by decide) (by decide) (by decide) (by decide), hS 31 0 0 (by decide) (by decide) (by decide) (by decide)]
  | 1 =>
    show (if i < 3 then _ else none) = (if i < 3 then _ else none)
    rw [sf 33 (by decide) (by decide) (by decide) (by decide), sf 34 (by decide) (by decide) (by decide) (by decide), sf 0 (by decide) (by decide) (by decide) (by decide)]
  | 2 =>
    show (if i < 3 ∧ σ 34 i 0 ≠ 0 then some (aO z (σ 34 i 0) (fun j => if j < σ 0 i 0 then some (ad (9 + i) j) else none)) else none) = (if i < 3 ∧ ρ 34 i 0 ≠ 0 then some (aO z (ρ 34 i 0) (fun j => if j < ρ 0 i 0 then some (ad (9 + i) j) else none)) else none)
    rw [sf 34 (by decide) (by decide) (by decide) (by decide), sf 0 (by decide) (by decide) (by decide) (by decide)]
  | 3 =>
    by_cases q : i < 2
    · rw [W_3 q, W_3 q, hN 6 0 i (by omega) (by decide)]
    · exact (if_neg q).trans (if_neg q).symm
  | 4 =>
    by_cases q : i < 2
    · have e : ∀ j, ρ 3 j i = σ 3 j i := fun j => hN 3 j i (by omega) (by decide)
      rw [W_4 q, W_4 q]
      simp only [e]
    · exact (if_neg q).trans (if_neg q).symm
  | 5 =>
    by_cases q : i < 2
    · have e : ∀ j, ρ 4 j i = σ 4 j i := fun j => hN 4 j i (by omega) (by decide)
      rw [W_5 q, W_5 q]
      simp only [e]
    · exact (if_neg q).trans (if_neg q).symm
  | 6 =>
    show (if i < 2 then some (aI z 6 (fun j => nI (σ 27 j i))) else none) = (if i < 2 then some (aI z 6 (fun j => nI (ρ 27 j i))) else none)
    rw [sf 27 (by decide) (by decide) (by decide) (by decide)]
  | 7 =>
    show (if i = 0 then _ else none) = (if i = 0 then _ else none)
    rw [hS 37 0 0 (by decide) (by decide) (by decide) (by decide), hS 12 2 0 (by decide) (by decide) (by decide) (by decide)]
  | 8 =>
    show (if i = 0 then some (aB z 16 (fun j => nI (σ 11 0 j))) else none) = (if i = 0 then some (aB z 16 (fun j => nI (ρ 11 0 j))) else none)
    rw [sf 11 (by decide) (by decide) (by decide) (by decide)]
  | 9 =>
    show (if i < σ 0 0 0 then _ else none) = (if i < ρ 0 0 0 then _ else none)
    rw [sf 1 (by decide) (by decide) (by decide) (by decide), sf 0 (by decide) (by decide) (by decide) (by decide)]
  | 10 =>
    show (if i < σ 0 1 0 then _ else none) = (if i < ρ 0 1 0 then _ else none)
    rw [sf 8 (by decide) (by decide) (by decide) (by decide), sf 0 (by decide) (by decide) (by decide) (by decide)]
  | 11 =>
    show (if i < σ 0 2 0 then _ else none) = (if i < ρ 0 2 0 then _ else none)
    rw [sf 9 (by decide) (by decide) (by decide) (by decide), sf 32 (by decide) (by decide) (by decide) (by decide), sf 0 (by decide) (by decide) (by decide) (by decide)]
  | 12 =>
    show (if i < σ 0 0 0 then _ else none) = (if i < ρ 0 0 0 then _ else none)
    rw [sf 1 (by decide) (by decide) (by decide) (by decide), sf 0 (by decide) (by decide) (by decide) (by decide)]
  | 13 =>
    show (if i < σ 0 0 0 then some (aI z 61 (fun h => nI (σ 5 i h))) else none) = (if i < ρ 0 0 0 then some (aI z 61 (fun h => nI (ρ 5 i h))) else none)
    rw [sf 5 (by decide) (by decide) (by decide) (by decide), sf 0 (by decide) (by decide) (by decide) (by decide)]
  | 14 =>
    show (if i < σ 0 0 0 then some (aI z 8 (fun c => nI (σ 2 i c))) else none) = (if i < ρ 0 0 0 then some (aI z 8 (fun c => nI (ρ 2 i c))) else none)
    rw [sf 2 (by decide) (by decide) (by decide) (by decide), sf 0 (by decide) (by decide) (by decide) (by decide)]
  | 15 =>
    show (if i < σ 0 0 0 then some (aI z 8 (fun c => nI (σ 30 i c))) else none) = (if i < ρ 0 0 0 then some (aI z 8 (fun c => nI (ρ 30 i c))) else none)
    rw [sf 30 (by decide) (by decide) (by decide) (by decide), sf 0 (by decide) (by decide) (by decide) (by decide)]
  | 16 =>
    show (if i < σ 0 0 0 then some (aI z 8 (fun c => nI (σ 35 i c))) else none) = (if i < ρ 0 0 0 then some (aI z 8 (fun c => nI (ρ 35 i c))) else none)
    rw [sf 35 (by decide) (by decide) (by decide) (by decide), sf 0 (by decide) (by decide) (by decide) (by decide)]
  | 17 =>
    show (if i < σ 0 0 0 then some (aI z 61 (fun h => nI (σ 7 i h))) else none) = (if i < ρ 0 0 0 then some (aI z 61 (fun h => nI (ρ 7 i h))) else none)
    rw [sf 7 (by decide) (by decide) (by decide) (by decide), sf 0 (by decide) (by decide) (by decide) (by decide)]
  | 18 =>
    show (if i < σ 0 2 0 then some (aZ z 61 (fun h => nI (σ 10 i h))) else none) = (if i < ρ 0 2 0 then some (aZ z 61 (fun h => nI (ρ 10 i h))) else none)
    rw [sf 10 (by decide) (by decide) (by decide) (by decide), sf 0 (by decide) (by decide) (by decide) (by decide)]
  | 19 => rfl
  | 20 =>
    show (if i = 0 then _ else none) = (if i = 0 then _ else none)
    rw [a0 0 0, a0 1 0, a0 2 0, a12 0 0, a12 1 0, a12 2 0, e60 0, hT 71 0 0 (by decide), hT 72 0 0 (by decide), hT 73 0 0 (by decide), hT 74 0 0 (by decide)]
  | 21 =>
    have b70 : ∀ i j, ρ 70 i j = τ 70 i j := fun i j => hT 70 i j (by decide)
    simp only [Wz, a0, a1, a2, a5, a7, a8, a9, a10, a11, e30, e40, e32, e42, b70]
  | n + 22 => rfl
theorem mg_all {G : Sg} (hG : IR G) (h1 : agr σ G) (h2 : agr τ G) (C : ICo σ) (M : IMo τ) : ∃ ρ, Wz z ad σ τ o = Wz z ad ρ ρ o ∧ IR ρ ∧ ICo ρ ∧ IMo ρ :=
  have h := h1.tr h2.sy
  ⟨mg σ τ, W_mg h, hG.agr (agr.mg.tr h1), C.mg, M.mg h⟩
end ZMG
