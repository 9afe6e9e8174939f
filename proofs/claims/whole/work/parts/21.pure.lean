/-! PURE: what the methods compute, in numbers -/
theorem pI_t {c : Prop} [Decidable c] (h : c) : nI 1 = pI c := (if_pos h).symm
theorem pI_f {c : Prop} [Decidable c] (h : ¬ c) : nI 0 = pI c := (if_neg h).symm
theorem mminN {a b : Nat} (ha : a < 2 ^ 31) (hb : b < 2 ^ 31) : (if nI b < nI a then nI b else nI a) = nI (min a b) := by
  by_cases h : b < a
  · rw [if_pos (nI_lt h ha), Nat.min_eq_right (by omega)]
  · rw [if_neg (nI_nlt (by omega) hb), Nat.min_eq_left (by omega)]
theorem mmaxN {a b : Nat} (ha : a < 2 ^ 31) (hb : b < 2 ^ 31) : (if nI a < nI b then nI b else nI a) = nI (max a b) := by
  by_cases h : a < b
  · rw [if_pos (nI_lt h hb), Nat.max_eq_right (by omega)]
  · rw [if_neg (nI_nlt (by omega) ha), Nat.max_eq_left (by omega)]
/-- cells among the first c that are not above h -/
def ahd (hs : Nat → Nat) (h : Nat) : Nat → Nat
  | 0 => 0
  | c + 1 => ahd hs h c + if hs c ≤ h then 1 else 0
theorem ahd_le (hs : Nat → Nat) (h : Nat) : ∀ c, ahd hs h c ≤ c
  | 0 => Nat.le_refl 0
  | c + 1 => by have := ahd_le hs h c; show _ + _ ≤ _; split <;> omega
theorem ahd_t {hs : Nat → Nat} {h c : Nat} (q : hs c ≤ h) : ahd hs h (c + 1) = ahd hs h c + 1 := by rw [ahd, if_pos q]
theorem ahd_f {hs : Nat → Nat} {h c : Nat} (q : ¬ hs c ≤ h) : ahd hs h (c + 1) = ahd hs h c := by rw [ahd, if_neg q]; rfl
/-- cells that are wet, of the first c, with v on the street, by the dry marks -/
def wetc (dr : Nat → Nat) (v : Nat) : Nat → Nat
  | 0 => 0
  | c + 1 => wetc dr v c + if dr c < v then 1 else 0
theorem wetc_le (dr : Nat → Nat) (v : Nat) : ∀ c, wetc dr v c ≤ c
  | 0 => Nat.le_refl 0
  | c + 1 => by have := wetc_le dr v c; show _ + _ ≤ _; split <;> omega
theorem wetc_t {dr : Nat → Nat} {v c : Nat} (q : dr c < v) : wetc dr v (c + 1) = wetc dr v c + 1 := by rw [wetc, if_pos q]
theorem wetc_f {dr : Nat → Nat} {v c : Nat} (q : ¬ dr c < v) : wetc dr v (c + 1) = wetc dr v c := by rw [wetc, if_neg q]; rfl
