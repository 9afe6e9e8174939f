/-! A BASIN IS ADDED TO THE MODEL -/
section ZBA
variable {z : Zx} {ad : Nm} {σ T : Sg} {o : Int64 × UInt64} {n : Nat}
/-- the model's world when the new basin's below is written and the basins aren't counted yet -/
def Wy (z : Zx) (ad : Nm) (σ T : Sg) (n : Nat) (o : Int64 × UInt64) : Ce := up2 (Wz z ad σ T o) 21 4 (aI z 6 (fun j => if j < n + 1 then bw (T 1 j 3) else 0))
theorem up2_sw {μ : Ce} {k i k2 i2 : Nat} {e e2 : va_E} (h : ¬ (k = k2 ∧ i = i2)) : up2 (up2 μ k i e) k2 i2 e2 = up2 (up2 μ k2 i2 e2) k i e := by
  funext a b
  by_cases c : a = k ∧ b = i
  · obtain ⟨rfl, rfl⟩ := c
    rw [up2_n h, up2_s, up2_s]
  · by_cases c2 : a = k2 ∧ b = i2
    · obtain ⟨rfl, rfl⟩ := c2
      rw [up2_s, up2_n c, up2_s]
    · rw [up2_n c2, up2_n c, up2_n c, up2_n c2]
theorem y_0 {x : Nat} (hn : T 0 0 0 = n) : up2 (Wz z ad σ T o) 21 4 (aI z 6 (upd (fun j => if j < T 0 0 0 then bw (T 1 j 3) else 0) n (bw x))) = Wy z ad σ (su T 1 n 3 x) n o := by
  subst hn
  unfold Wy
  have e1 : (upd (fun j => if j < T 0 0 0 then bw (T 1 j 3) else 0) (T 0 0 0) (bw x)) = fun j => if j < T 0 0 0 + 1 then bw (su T 1 (T 0 0 0) 3 x 1 j 3) else 0 := by
    funext j
    unfold upd
    by_cases e : j = T 0 0 0
    · rw [if_pos e, if_pos (by omega), e, su_s]
    · rw [if_neg e, su_n (by omega)]
      show (if j < T 0 0 0 then bw (T 1 j 3) else 0) = _
      by_cases g : j < T 0 0 0
      · rw [if_pos g, if_pos (by omega)]
      · rw [if_neg g, if_neg (by omega)]
  rw [e1]
  funext k' i'
  by_cases c : k' = 21 ∧ i' = 4
  · rw [c.1, c.2, up2_s, up2_s]
  · rw [up2_n c, up2_n c]
    simp only [Wz]
    split <;> (try rfl) <;> first | (simp_all [su]; done) | (split <;> (try rfl) <;> simp_all [su])
theorem y_8 {a b v : Nat} (h : b < 8) : up2 (Wy z ad σ T n o) 21 8 (aI z 48 (upd (fun j => nI (T 2 (j / 8) (j % 8))) (8 * a + b) (nI v))) = Wy z ad σ (su T 2 a b v) n o := by
  unfold Wy
  rw [up2_sw (by omega), u_21_8 h]
  rfl
theorem y_7 {j v : Nat} : up2 (Wy z ad σ T n o) 21 7 (aI z 6 (upd (fun j => nI (T 1 j 6)) j (nI v))) = Wy z ad σ (su T 1 j 6 v) n o := by
  unfold Wy
  rw [up2_sw (by omega), u_21_7]
  congr 4
  funext q
  rw [su_n (by omega)]
theorem y_20 (hn : T 0 0 0 = n) : up2 (Wy z ad σ T n o) 20 0 (.inr (11, [.int (nI (n + 1)), .ref (ad 21 1), .ref (ad 21 2), .ref (ad 21 3), .ref (ad 21 4), .ref (ad 21 5), .ref (ad 21 6), .ref (ad 21 7), .ref (ad 21 8), .ref (ad 21 9), .ref (ad 21 10), .ref (ad 21 11), .ref (ad 21 12), .ref (ad 21 13), .int (nI (T 0 1 0)), .ref (ad 21 15), .ref (ad 21 16), .ref (ad 21 17), .ref (ad 21 18), .ref (ad 21 19), .int (nI (T 12 0 0)), .int (nI (T 12 1 0)), .int (nI (T 6 0 0)), .ref (ad 21 23), .ref (ad 21 24), .int (nI (T 0 2 0)), .ref (ad 21 26), .ref (ad 21 27), .ref (ad 21 28), .ref (ad 21 29), .ref (ad 21 30), .ref (ad 21 31), .int (nI (T 71 0 0)), .int (bw (T 73 0 0)), .int (nI (T 74 0 0)), .ref (ad 21 35), .int (nI (T 12 2 0)), .int (nI (T 72 0 0))])) = Wz z ad σ (su T 0 0 0 (n + 1)) o := by
  subst hn
  unfold Wy
  funext k' i'
  by_cases c : k' = 20 ∧ i' = 0
  · rw [c.1, c.2, up2_s]
    rfl
  · rw [up2_n c]
    by_cases c2 : k' = 21 ∧ i' = 4
    · rw [c2.1, c2.2, up2_s]
      simp [Wz, su]
    · rw [up2_n c2]
      simp only [Wz]
      split <;> (try rfl) <;> first | (simp_all [su]; done) | (split <;> (try rfl) <;> simp_all [su])
end ZBA
/-- the number of what is below, NONE being 0 -/
def jB (x : Int32) : Nat := (x.toInt + 1).toNat
theorem jB_b {x : Nat} (h : x < 2 ^ 31) : jB (bw x) = x := by unfold jB; rw [bw_toInt h]; omega
def fBasin (σ : Sg) (a d w b h : Int32) : Sg := su (su (su (su (su (su (su σ 1 (σ 0 0 0) 0 (jN a)) 1 (σ 0 0 0) 1 (jN d)) 1 (σ 0 0 0) 2 (jN w)) 1 (σ 0 0 0) 3 (jB b)) 2 (σ 0 0 0) 0 (jN h)) 1 (σ 0 0 0) 6 1) 0 0 0 (σ 0 0 0 + 1)
theorem blw_iff {σ : Sg} {b : Int32} (h : σ 0 0 0 < 2 ^ 30) : blw σ b ↔ ∃ x, (x ≤ σ 0 0 0 ∧ (σ 0 0 0 = 0 → x = 0) ∧ (0 < σ 0 0 0 → 1 ≤ x)) ∧ b = bw x := by
  unfold blw
  by_cases c : σ 0 0 0 = 0
  · rw [if_pos c]
    refine ⟨fun q => ⟨0, ⟨by omega, fun _ => rfl, fun q => by omega⟩, q⟩, ?_⟩
    rintro ⟨x, ⟨h1, h2, h3⟩, h4⟩
    rw [h4, h2 c]
  · rw [if_neg c, in0_iff h]
    refine ⟨?_, ?_⟩
    · rintro ⟨v, hv, rfl⟩
      exact ⟨v + 1, ⟨by omega, fun q => absurd q c, fun _ => by omega⟩, by rw [bw_nI (by omega)]; rfl⟩
    · rintro ⟨x, ⟨h1, h2, h3⟩, h4⟩
      exact ⟨x - 1, by omega, by rw [h4, bw_nI (by omega)]⟩
