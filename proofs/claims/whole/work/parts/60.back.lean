/-! BACK TO ONE WORLD: a rule, a house, a basin is there -/
/-- what a list's object says of its data -/
def HD (z : Zx) (ad : Nm) (μ : Ce) (li n c : Nat) (f : Nat → Option Nat) (D : Nat) : Prop := (D = z.2.2 0 ∧ n = 0 ∧ c = 0 ∧ μ 2 li = none) ∨ (D = ad 2 li ∧ n ≠ 0 ∧ μ 2 li = some (aO z n f))
theorem el_f {i n q : Nat} {a : Nat → Nat} (h : (if i < n then some (a i) else none) = some q) : i < n ∧ a i = q := by
  by_cases c : i < n
  · rw [if_pos c] at h
    exact ⟨c, Option.some.inj h⟩
  · rw [if_neg c] at h
    cases h
theorem cap_ne (c n : Nat) (h : c ≤ n) : cap' c n ≠ 0 := by
  unfold cap'
  split
  · omega
  · have := gro_lt c; omega
theorem cap_lt (c n : Nat) : c < cap' c n := by
  unfold cap'
  split
  · assumption
  · exact gro_lt c
theorem capn_le {c n : Nat} (hn : n ≤ 100) (hc : c ≤ 20) : cap' c n ≤ 100 := by
  unfold cap'
  split
  · exact hn
  · have := gro_le hc; omega
def lsF (ad : Nm) (kE c : Nat) : Nat → Option Nat := fun j => if j < c then some (ad kE j) else none
theorem lsF_up {ad ad' : Nm} {kE c q : Nat} (h : ∀ j, j < c → ad' kE j = ad kE j) (hq : ad' kE c = q) : va_up (lsF ad kE c) c (some q) = lsF ad' kE (c + 1) := by
  funext j
  unfold va_up lsF
  by_cases e : j = c
  · subst e
    rw [if_pos rfl, if_pos (by omega), hq]
  · rw [if_neg e]
    by_cases g : j < c
    · rw [if_pos g, if_pos (by omega), h j g]
    · rw [if_neg g, if_neg (by omega)]
theorem lsF_no {ad : Nm} {kE c : Nat} : ∀ j, c ≤ j → lsF ad kE c j = none := fun j h => if_neg (by omega)
/-- a list's numbers after one more -/
def sL (σ : Sg) (li : Nat) : Sg := su (su (su σ 0 li 0 (σ 0 li 0 + 1)) 34 li 0 (cap' (σ 0 li 0) (σ 34 li 0))) 33 li 0 (σ 33 li 0 + 1)
def sRu (σ : Sg) (a b c d e : Nat) : Sg := sL (su (su (su (su (su σ 8 (σ 0 1 0) 0 a) 8 (σ 0 1 0) 1 b) 8 (σ 0 1 0) 2 c) 8 (σ 0 1 0) 3 d) 8 (σ 0 1 0) 4 e) 1
def sHo (σ : Sg) (a b c d : Nat) : Sg := sL (su (su (su (su (su σ 9 (σ 0 2 0) 0 a) 9 (σ 0 2 0) 1 b) 9 (σ 0 2 0) 2 c) 9 (σ 0 2 0) 3 d) 32 (σ 0 2 0) 0 0) 2
def sBa (σ : Sg) (a d w b h : Nat) : Sg := sL (sp (sp (su (su (su (su (su (su σ 1 (σ 0 0 0) 0 a) 1 (σ 0 0 0) 1 d) 1 (σ 0 0 0) 2 w) 1 (σ 0 0 0) 3 b) 2 (σ 0 0 0) 0 h) 1 (σ 0 0 0) 6 1) 30 (σ 0 0 0) (fun _ => 0)) 35 (σ 0 0 0) (fun _ => 0)) 0
section ZBK
variable {z : Zx} {ad : Nm} {σ τ : Sg} {o : Int64 × UInt64}
/-- Wz unchanged at places that don't see the change -/
theorem wz_1 {ad ad' : Nm} {σ σ' : Sg} {i : Nat} (h33 : σ' 33 i 0 = σ 33 i 0) (h34 : σ' 34 i 0 = σ 34 i 0) (h0 : σ' 0 i 0 = σ 0 i 0) (h2 : ad' 2 i = ad 2 i) : Wz z ad σ τ o 1 i = Wz z ad' σ' τ o 1 i := by
  by_cases h : i < 3
  · rw [W_1 h, W_1 h, h33, h34, h0, h2]
  · exact (if_neg h).trans (if_neg h).symm
theorem wz_2 {ad ad' : Nm} {σ σ' : Sg} {i : Nat} (h34 : σ' 34 i 0 = σ 34 i 0) (h0 : σ' 0 i 0 = σ 0 i 0) (h2 : i < 3 → ∀ j, j < σ 0 i 0 → ad' (9 + i) j = ad (9 + i) j) : Wz z ad σ τ o 2 i = Wz z ad' σ' τ o 2 i := by
  by_cases h : i < 3 ∧ σ 34 i 0 ≠ 0
  · rw [W_2 h, W_2 (by rw [h34]; exact h), h34, h0]
    have e : (fun j => if j < σ 0 i 0 then some (ad (9 + i) j) else none) = fun j => if j < σ 0 i 0 then some (ad' (9 + i) j) else none := by
      funext j
      by_cases g : j < σ 0 i 0
      · rw [if_pos g, if_pos g, h2 h.1 j g]
      · rw [if_neg g, if_neg g]
    rw [e]
  · exact (if_neg h).trans (if_neg (by rw [h34]; exact h)).symm
theorem sL_n {σ : Sg} {li f i j : Nat} (h : ¬ (i = li ∧ j = 0 ∧ (f = 0 ∨ f = 34 ∨ f = 33))) : sL σ li f i j = σ f i j := (su_n (by omega)).trans ((su_n (by omega)).trans (su_n (by omega)))
theorem sL_f {σ : Sg} {li f : Nat} (h : f ≠ 0) (h1 : f ≠ 34) (h2 : f ≠ 33) : sL σ li f = σ f := by
  funext i j
  exact sL_n (by omega)
theorem sL_0 {σ : Sg} {li : Nat} : sL σ li 0 li 0 = σ 0 li 0 + 1 := (su_n (by omega)).trans ((su_n (by omega)).trans su_s)
theorem sL_34 {σ : Sg} {li : Nat} : sL σ li 34 li 0 = cap' (σ 0 li 0) (σ 34 li 0) := (su_n (by omega)).trans su_s
theorem sL_33 {σ : Sg} {li : Nat} : sL σ li 33 li 0 = σ 33 li 0 + 1 := su_s
theorem back_R {q q2 a b c d e : Nat} (L : InvL σ) : up2 (up2 (up2 (Wz z ad σ τ o) 10 (σ 0 1 0) (.inr (7, [.int (nI a), .int (nI b), .int (nI c), .int (nI d), .int (nI e)]))) 2 1 (aO z (cap' (σ 0 1 0) (σ 34 1 0)) (va_up (lsF ad 10 (σ 0 1 0)) (σ 0 1 0) (some q)))) 1 1 (.inr (4, [.int (nI (σ 33 1 0 + 1)), .ref q2, .int (nI (σ 0 1 0 + 1))])) = Wz z (nmu (nmu ad 10 (σ 0 1 0) q) 2 1 q2) (sRu σ a b c d e) τ o := by
  have hcap := cap_ne _ _ (L 1 (by decide)).1
  have e0 : ∀ f i j, f ≠ 8 → sRu σ a b c d e f i j = sL σ 1 f i j := by
    intro f i j hf
    unfold sRu sL
    simp only [su, hf, false_and, if_false]
    rfl
  funext k i
  by_cases c1 : k = 1 ∧ i = 1
  · obtain ⟨rfl, rfl⟩ := c1
    rw [up2_s, W_1 (by decide), e0 33 _ _ (by decide), e0 34 _ _ (by decide), e0 0 _ _ (by decide), sL_33, sL_34, sL_0, if_neg hcap, nmu_s]
  rw [up2_n c1]
  by_cases c2 : k = 2 ∧ i = 1
  · obtain ⟨rfl, rfl⟩ := c2
    rw [up2_s, W_2 ⟨by decide, by rw [e0 34 _ _ (by decide), sL_34]; exact hcap⟩, e0 34 _ _ (by decide), e0 0 _ _ (by decide), sL_34, sL_0]
    rw [lsF_up (ad' := nmu (nmu ad 10 (σ 0 1 0) q) 2 1 q2) (fun j hj => (nmu_n (by omega)).trans (nmu_n (by omega))) ((nmu_n (by omega)).trans nmu_s)]
    rfl
  rw [up2_n c2]
  by_cases c3 : k = 10 ∧ i = σ 0 1 0
  · obtain ⟨rfl, rfl⟩ := c3
    rw [up2_s, W_10 (by rw [e0 0 _ _ (by decide), sL_0]; omega)]
    unfold sRu
    simp only [sL_f (f := 8) (by decide) (by decide) (by decide)]
    simp [su]
  rw [up2_n c3]
  match k with
  | 0 => rfl
  | 1 => exact wz_1 ((e0 33 _ _ (by decide)).trans (sL_n (by omega))) ((e0 34 _ _ (by decide)).trans (sL_n (by omega))) ((e0 0 _ _ (by decide)).trans (sL_n (by omega))) (nmu_n (by omega) |>.trans (nmu_n (by omega)))
  | 2 => exact wz_2 ((e0 34 _ _ (by decide)).trans (sL_n (by omega))) ((e0 0 _ _ (by decide)).trans (sL_n (by omega))) (fun h3 j _ => (nmu_n (by omega)).trans (nmu_n (by omega)))
  | 3 => rfl
  | 4 => rfl
  | 5 => rfl
  | 6 => rfl
  | 7 => rfl
  | 8 => rfl
  | 9 => rfl
  | 10 =>
    have hi : i ≠ σ 0 1 0 := fun q => c3 ⟨rfl, q⟩
    by_cases g : i < σ 0 1 0
    · rw [W_10 g, W_10 (by rw [e0 0 _ _ (by decide), sL_0]; omega)]
      unfold sRu
      simp only [sL_f (f := 8) (by decide) (by decide) (by decide)]
      simp [su, hi]
    · exact (if_neg g).trans (if_neg (by rw [e0 0 _ _ (by decide), sL_0]; omega)).symm
  | 11 => rfl
  | 12 => rfl
  | 13 => rfl
  | 14 => rfl
  | 15 => rfl
  | 16 => rfl
  | 17 => rfl
  | 18 => rfl
  | 19 => rfl
  | 20 => rfl
  | 21 => rfl
  | n + 22 => rfl
theorem back_H {q q18 q2 a b c d : Nat} (L : InvL σ) (hz : (∀ h, σ 10 (σ 0 2 0) h = 0) ∧ σ 9 (σ 0 2 0) 4 = 0) : up2 (up2 (up2 (up2 (Wz z ad σ τ o) 18 (σ 0 2 0) (aZ z 61 (fun _ => 0))) 11 (σ 0 2 0) (.inr (6, [.ref (ad 12 a), .int (nI b), .int (nI c), .int (nI d), .ref q18, .int 0, .int 0]))) 2 2 (aO z (cap' (σ 0 2 0) (σ 34 2 0)) (va_up (lsF ad 11 (σ 0 2 0)) (σ 0 2 0) (some q)))) 1 2 (.inr (4, [.int (nI (σ 33 2 0 + 1)), .ref q2, .int (nI (σ 0 2 0 + 1))])) = Wz z (nmu (nmu (nmu ad 11 (σ 0 2 0) q) 18 (σ 0 2 0) q18) 2 2 q2) (sHo σ a b c d) τ o := by
  have hcap := cap_ne _ _ (L 2 (by decide)).1
  have e0 : ∀ f i j, f ≠ 9 → f ≠ 32 → sHo σ a b c d f i j = sL σ 2 f i j := by
    intro f i j hf hf2
    unfold sHo sL
    simp only [su, hf, hf2, false_and, if_false]
    rfl
  funext k i
  by_cases c1 : k = 1 ∧ i = 2
  · obtain ⟨rfl, rfl⟩ := c1
    rw [up2_s, W_1 (by decide), e0 33 _ _ (by decide) (by decide), e0 34 _ _ (by decide) (by decide), e0 0 _ _ (by decide) (by decide), sL_33, sL_34, sL_0, if_neg hcap, nmu_s]
  rw [up2_n c1]
  by_cases c2 : k = 2 ∧ i = 2
  · obtain ⟨rfl, rfl⟩ := c2
    rw [up2_s, W_2 ⟨by decide, by rw [e0 34 _ _ (by decide) (by decide), sL_34]; exact hcap⟩, e0 34 _ _ (by decide) (by decide), e0 0 _ _ (by decide) (by decide), sL_34, sL_0]
    rw [lsF_up (ad' := nmu (nmu (nmu ad 11 (σ 0 2 0) q) 18 (σ 0 2 0) q18) 2 2 q2) (fun j hj => (nmu_n (by omega)).trans ((nmu_n (by omega)).trans (nmu_n (by omega)))) ((nmu_n (by omega)).trans ((nmu_n (by omega)).trans nmu_s))]
    rfl
  rw [up2_n c2]
  by_cases c3 : k = 11 ∧ i = σ 0 2 0
  · obtain ⟨rfl, rfl⟩ := c3
    rw [up2_s, W_11 (by rw [e0 0 _ _ (by decide) (by decide), sL_0]; omega)]
    unfold sHo
    simp only [sL_f (f := 9) (by decide) (by decide) (by decide), sL_f (f := 32) (by decide) (by decide) (by decide)]
    have e18 : nmu (nmu (nmu ad 11 (σ 0 2 0) q) 18 (σ 0 2 0) q18) 2 2 q2 18 (σ 0 2 0) = q18 := (nmu_n (by omega)).trans nmu_s
    have e12 : ∀ x, nmu (nmu (nmu ad 11 (σ 0 2 0) q) 18 (σ 0 2 0) q18) 2 2 q2 12 x = ad 12 x := fun x => (nmu_n (by omega)).trans ((nmu_n (by omega)).trans (nmu_n (by omega)))
    rw [e18, e12]
    simp [su, hz.2]
    rfl
  rw [up2_n c3]
  by_cases c4 : k = 18 ∧ i = σ 0 2 0
  · obtain ⟨rfl, rfl⟩ := c4
    rw [up2_s, W_18 (by rw [e0 0 _ _ (by decide) (by decide), sL_0]; omega)]
    have e : (fun h => nI (sHo σ a b c d 10 (σ 0 2 0) h)) = fun _ => (0 : Int32) := by
      funext h
      rw [e0 10 _ _ (by decide) (by decide), sL_n (by omega), hz.1 h]
      rfl
    rw [e]
  rw [up2_n c4]
  match k with
  | 0 => rfl
  | 1 => exact wz_1 ((e0 33 _ _ (by decide) (by decide)).trans (sL_n (by omega))) ((e0 34 _ _ (by decide) (by decide)).trans (sL_n (by omega))) ((e0 0 _ _ (by decide) (by decide)).trans (sL_n (by omega))) ((nmu_n (by omega)).trans ((nmu_n (by omega)).trans (nmu_n (by omega))))
  | 2 => exact wz_2 ((e0 34 _ _ (by decide) (by decide)).trans (sL_n (by omega))) ((e0 0 _ _ (by decide) (by decide)).trans (sL_n (by omega))) (fun h3 j _ => (nmu_n (by omega)).trans ((nmu_n (by omega)).trans (nmu_n (by omega))))
  | 3 => rfl
  | 4 => rfl
  | 5 => rfl
  | 6 => rfl
  | 7 => rfl
  | 8 => rfl
  | 9 => rfl
  | 10 => rfl
  | 11 =>
    have hi : i ≠ σ 0 2 0 := fun q => c3 ⟨rfl, q⟩
    by_cases g : i < σ 0 2 0
    · rw [W_11 g, W_11 (by rw [e0 0 _ _ (by decide) (by decide), sL_0]; omega)]
      unfold sHo
      simp only [sL_f (f := 9) (by decide) (by decide) (by decide), sL_f (f := 32) (by decide) (by decide) (by decide)]
      have e18 : nmu (nmu (nmu ad 11 (σ 0 2 0) q) 18 (σ 0 2 0) q18) 2 2 q2 18 i = ad 18 i := (nmu_n (by omega)).trans ((nmu_n (by omega)).trans (nmu_n (by omega)))
      have e12 : ∀ x, nmu (nmu (nmu ad 11 (σ 0 2 0) q) 18 (σ 0 2 0) q18) 2 2 q2 12 x = ad 12 x := fun x => (nmu_n (by omega)).trans ((nmu_n (by omega)).trans (nmu_n (by omega)))
      rw [e18, e12]
      simp [su, hi]
    · exact (if_neg g).trans (if_neg (by rw [e0 0 _ _ (by decide) (by decide), sL_0]; omega)).symm
  | 12 => rfl
  | 13 => rfl
  | 14 => rfl
  | 15 => rfl
  | 16 => rfl
  | 17 => rfl
  | 18 =>
    have hi : i ≠ σ 0 2 0 := fun q => c4 ⟨rfl, q⟩
    by_cases g : i < σ 0 2 0
    · rw [W_18 g, W_18 (by rw [e0 0 _ _ (by decide) (by decide), sL_0]; omega)]
      rfl
    · exact (if_neg g).trans (if_neg (by rw [e0 0 _ _ (by decide) (by decide), sL_0]; omega)).symm
  | 19 => rfl
  | 20 => rfl
  | 21 => rfl
  | n + 22 => rfl
theorem sp_rw {σ : Sg} {f b : Nat} {p : Nat → Nat} {f' : Nat} (h : f' ≠ f) : sp σ f b p f' = σ f' := by
  funext i j
  exact if_neg (fun q => h q.1)
theorem back_B {q9 q12 q13 q14 q15 q16 q17 q2 a d w b h : Nat} (L : InvL σ) (hz : (σ 1 (σ 0 0 0) 4 = 0 ∧ σ 1 (σ 0 0 0) 5 = 0) ∧ (∀ h, σ 5 (σ 0 0 0) h = 0 ∧ σ 7 (σ 0 0 0) h = 0) ∧ ∀ c, σ 2 (σ 0 0 0) c = 0) (hh : ∀ k, k < σ 0 2 0 → σ 9 k 0 < σ 0 0 0) : up2 (up2 (up2 (up2 (up2 (up2 (up2 (up2 (up2 (Wz z ad σ τ o) 14 (σ 0 0 0) (aI z 8 (upd (fun _ => 0) 0 (nI h)))) 15 (σ 0 0 0) (aI z 8 (fun _ => 0))) 16 (σ 0 0 0) (aI z 8 (fun _ => 0))) 17 (σ 0 0 0) (aI z 61 (fun _ => 0))) 12 (σ 0 0 0) (.inr (8, [.ref q14, .ref q15, .ref q16, .ref q17, .int (nI 1)]))) 13 (σ 0 0 0) (aI z 61 (fun _ => 0))) 9 (σ 0 0 0) (.inr (5, [.int (nI a), .int (nI d), .int (nI w), .int (bw b), .ref q12, .ref q13, .int 0, .int 0]))) 2 0 (aO z (cap' (σ 0 0 0) (σ 34 0 0)) (va_up (lsF ad 9 (σ 0 0 0)) (σ 0 0 0) (some q9)))) 1 0 (.inr (4, [.int (nI (σ 33 0 0 + 1)), .ref q2, .int (nI (σ 0 0 0 + 1))])) = Wz z (nmu (nmu (nmu (nmu (nmu (nmu (nmu (nmu ad 9 (σ 0 0 0) q9) 12 (σ 0 0 0) q12) 14 (σ 0 0 0) q14) 15 (σ 0 0 0) q15) 16 (σ 0 0 0) q16) 17 (σ 0 0 0) q17) 13 (σ 0 0 0) q13) 2 0 q2) (sBa σ a d w b h) τ o := by
  have hcap := cap_ne _ _ (L 0 (by decide)).1
  have e0 : ∀ f i j, f ≠ 1 → f ≠ 2 → f ≠ 30 → f ≠ 35 → sBa σ a d w b h f i j = sL σ 0 f i j := by
    intro f i j h1 h2 h3 h4
    unfold sBa sL
    simp only [su, sp, h1, h2, h3, h4, false_and, if_false]
    rfl
  have es : ∀ i j, sBa σ a d w b h 1 i j = su (su (su (su (su σ 1 (σ 0 0 0) 0 a) 1 (σ 0 0 0) 1 d) 1 (σ 0 0 0) 2 w) 1 (σ 0 0 0) 3 b) 1 (σ 0 0 0) 6 1 1 i j := by
    intro i j
    unfold sBa
    rw [sL_f (by decide) (by decide) (by decide), sp_rw (by decide), sp_rw (by decide)]
    simp [su]
  have es2 : ∀ i j, sBa σ a d w b h 2 i j = su σ 2 (σ 0 0 0) 0 h 2 i j := by
    intro i j
    unfold sBa
    rw [sL_f (by decide) (by decide) (by decide), sp_rw (by decide), sp_rw (by decide)]
    simp [su]
  have es30 : ∀ i j, sBa σ a d w b h 30 i j = if i = σ 0 0 0 then 0 else σ 30 i j := by
    intro i j
    unfold sBa
    rw [sL_f (by decide) (by decide) (by decide), sp_rw (by decide)]
    simp [su, sp]
  have es35 : ∀ i j, sBa σ a d w b h 35 i j = if i = σ 0 0 0 then 0 else σ 35 i j := by
    intro i j
    unfold sBa
    rw [sL_f (by decide) (by decide) (by decide)]
    simp [su, sp]
  have hn : sBa σ a d w b h 0 0 0 = σ 0 0 0 + 1 := (e0 0 _ _ (by decide) (by decide) (by decide) (by decide)).trans sL_0
  obtain ⟨ad', had⟩ : ∃ x, x = nmu (nmu (nmu (nmu (nmu (nmu (nmu (nmu ad 9 (σ 0 0 0) q9) 12 (σ 0 0 0) q12) 14 (σ 0 0 0) q14) 15 (σ 0 0 0) q15) 16 (σ 0 0 0) q16) 17 (σ 0 0 0) q17) 13 (σ 0 0 0) q13) 2 0 q2 := ⟨_, rfl⟩
  have a9 : ad' 9 (σ 0 0 0) = q9 := by subst had; simp [nmu]
  have a12 : ad' 12 (σ 0 0 0) = q12 := by subst had; simp [nmu]
  have a13 : ad' 13 (σ 0 0 0) = q13 := by subst had; simp [nmu]
  have a14 : ad' 14 (σ 0 0 0) = q14 := by subst had; simp [nmu]
  have a15 : ad' 15 (σ 0 0 0) = q15 := by subst had; simp [nmu]
  have a16 : ad' 16 (σ 0 0 0) = q16 := by subst had; simp [nmu]
  have a17 : ad' 17 (σ 0 0 0) = q17 := by subst had; simp [nmu]
  have a2 : ad' 2 0 = q2 := by subst had; simp [nmu]
  have an : ∀ k i, (i ≠ σ 0 0 0 ∨ (k ≠ 9 ∧ k ≠ 12 ∧ k ≠ 13 ∧ k ≠ 14 ∧ k ≠ 15 ∧ k ≠ 16 ∧ k ≠ 17)) → ¬ (k = 2 ∧ i = 0) → ad' k i = ad k i := by
    intro k i h1 h2
    subst had
    rw [nmu_n h2, nmu_n (by omega), nmu_n (by omega), nmu_n (by omega), nmu_n (by omega), nmu_n (by omega), nmu_n (by omega), nmu_n (by omega)]
  have rest : ∀ k i, ¬ (k = 1 ∧ i = 0) → ¬ (k = 2 ∧ i = 0) → ¬ (i = σ 0 0 0 ∧ (k = 9 ∨ k = 12 ∨ k = 13 ∨ k = 14 ∨ k = 15 ∨ k = 16 ∨ k = 17)) → Wz z ad σ τ o k i = Wz z ad' (sBa σ a d w b h) τ o k i := by
    intro k i c1 c2 c3
    have eN : ∀ e1 e2 : Option va_E, i ≠ σ 0 0 0 → (i < σ 0 0 0 → e1 = e2) → (if i < σ 0 0 0 then e1 else none) = (if i < sBa σ a d w b h 0 0 0 then e2 else none) := by
      intro e1 e2 h1 h2
      by_cases g : i < σ 0 0 0
      · rw [if_pos g, if_pos (by rw [hn]; omega), h2 g]
      · rw [if_neg g, if_neg (by rw [hn]; omega)]
    match k with
    | 0 => subst had; rfl
    | 1 => exact wz_1 ((e0 33 _ _ (by decide) (by decide) (by decide) (by decide)).trans (sL_n (by omega))) ((e0 34 _ _ (by decide) (by decide) (by decide) (by decide)).trans (sL_n (by omega))) ((e0 0 _ _ (by decide) (by decide) (by decide) (by decide)).trans (sL_n (by omega))) (an 2 i (by omega) (by omega))
    | 2 => exact wz_2 ((e0 34 _ _ (by decide) (by decide) (by decide) (by decide)).trans (sL_n (by omega))) ((e0 0 _ _ (by decide) (by decide) (by decide) (by decide)).trans (sL_n (by omega))) (fun h3 j hj => an _ j (by omega) (by omega))
    | 3 => subst had; rfl
    | 4 => rfl
    | 5 => rfl
    | 6 => rfl
    | 7 => subst had; rfl
    | 8 => rfl
    | 9 =>
      refine eN _ _ (by omega) (fun g => ?_)
      have hi : i ≠ σ 0 0 0 := by omega
      rw [an 12 i (by omega) (by omega), an 13 i (by omega) (by omega)]
      simp [es, su, hi]
    | 10 => rfl
    | 11 =>
      by_cases g : i < σ 0 2 0
      · rw [W_11 g, W_11 (σ := sBa σ a d w b h) g]
        have e1 : sBa σ a d w b h 9 i 0 = σ 9 i 0 := rfl
        have hh2 := hh i g
        rw [e1, an 12 _ (by omega) (by omega), an 18 i (by omega) (by omega)]
        rfl
      · exact (if_neg g).trans (if_neg g).symm
    | 12 =>
      refine eN _ _ (by omega) (fun g => ?_)
      have hi : i ≠ σ 0 0 0 := by omega
      rw [an 14 i (by omega) (by omega), an 15 i (by omega) (by omega), an 16 i (by omega) (by omega), an 17 i (by omega) (by omega)]
      simp [es, su, hi]
    | 13 => exact eN _ _ (by omega) (fun g => rfl)
    | 14 =>
      refine eN _ _ (by omega) (fun g => ?_)
      have hi : i ≠ σ 0 0 0 := by omega
      simp [es2, su, hi]
    | 15 =>
      refine eN _ _ (by omega) (fun g => ?_)
      have hi : i ≠ σ 0 0 0 := by omega
      simp [es30, hi]
    | 16 =>
      refine eN _ _ (by omega) (fun g => ?_)
      have hi : i ≠ σ 0 0 0 := by omega
      simp [es35, hi]
    | 17 => exact eN _ _ (by omega) (fun g => rfl)
    | 18 => rfl
    | 19 => rfl
    | 20 => subst had; rfl
    | 21 => rfl
    | n + 22 => rfl
  rw [← had]
  funext k i
  by_cases c1 : k = 1 ∧ i = 0
  · obtain ⟨rfl, rfl⟩ := c1
    rw [up2_s, W_1 (by decide), e0 33 _ _ (by decide) (by decide) (by decide) (by decide), e0 34 _ _ (by decide) (by decide) (by decide) (by decide), hn, sL_33, sL_34, if_neg hcap, a2]
  rw [up2_n c1]
  by_cases c2 : k = 2 ∧ i = 0
  · obtain ⟨rfl, rfl⟩ := c2
    rw [up2_s, W_2 ⟨by decide, by rw [e0 34 _ _ (by decide) (by decide) (by decide) (by decide), sL_34]; exact hcap⟩, e0 34 _ _ (by decide) (by decide) (by decide) (by decide), hn, sL_34]
    rw [lsF_up (ad' := ad') (fun j hj => an 9 j (by omega) (by omega)) a9]
    rfl
  rw [up2_n c2]
  by_cases k9 : k = 9 ∧ i = σ 0 0 0
  · obtain ⟨rfl, rfl⟩ := k9
    rw [up2_s, W_9 (by rw [hn]; omega), a12, a13]
    simp [es, su, hz.1.1, hz.1.2]
    rfl
  rw [up2_n k9]
  by_cases k13 : k = 13 ∧ i = σ 0 0 0
  · obtain ⟨rfl, rfl⟩ := k13
    rw [up2_s, W_13 (by rw [hn]; omega)]
    have e : (fun h' => nI (sBa σ a d w b h 5 (σ 0 0 0) h')) = fun _ => (0 : Int32) := by
      funext h'
      rw [e0 5 _ _ (by decide) (by decide) (by decide) (by decide), sL_n (by omega), (hz.2.1 h').1]
      rfl
    rw [e]
  rw [up2_n k13]
  by_cases k12 : k = 12 ∧ i = σ 0 0 0
  · obtain ⟨rfl, rfl⟩ := k12
    rw [up2_s, W_12 (by rw [hn]; omega), a14, a15, a16, a17, es, su_s]
  rw [up2_n k12]
  by_cases k17 : k = 17 ∧ i = σ 0 0 0
  · obtain ⟨rfl, rfl⟩ := k17
    rw [up2_s, W_17 (by rw [hn]; omega)]
    have e : (fun h' => nI (sBa σ a d w b h 7 (σ 0 0 0) h')) = fun _ => (0 : Int32) := by
      funext h'
      rw [e0 7 _ _ (by decide) (by decide) (by decide) (by decide), sL_n (by omega), (hz.2.1 h').2]
      rfl
    rw [e]
  rw [up2_n k17]
  by_cases k16 : k = 16 ∧ i = σ 0 0 0
  · obtain ⟨rfl, rfl⟩ := k16
    rw [up2_s, W_16 (by rw [hn]; omega)]
    simp only [es35, if_pos]
    rfl
  rw [up2_n k16]
  by_cases k15 : k = 15 ∧ i = σ 0 0 0
  · obtain ⟨rfl, rfl⟩ := k15
    rw [up2_s, W_15 (by rw [hn]; omega)]
    simp only [es30, if_pos]
    rfl
  rw [up2_n k15]
  by_cases k14 : k = 14 ∧ i = σ 0 0 0
  · obtain ⟨rfl, rfl⟩ := k14
    rw [up2_s, W_14 (by rw [hn]; omega)]
    have e : (upd (fun _ => (0 : Int32)) 0 (nI h)) = fun c => nI (sBa σ a d w b h 2 (σ 0 0 0) c) := by
      funext c
      rw [es2]
      unfold upd
      by_cases q : c = 0
      · rw [if_pos q, q, su_s]
      · rw [if_neg q, su_n (by omega), hz.2.2 c]
        rfl
    rw [e]
  rw [up2_n k14]
  exact rest k i c1 c2 (by omega)
end ZBK
