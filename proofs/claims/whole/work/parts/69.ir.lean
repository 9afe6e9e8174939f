/-! WHAT IS ADDED OR TAKEN AWAY KEEPS THE INVARIANTS; each call by its code -/
theorem IR.rule {σ : Sg} (Q : IR σ) {a b c d e : Nat} (hn : σ 0 1 0 < 12) (ha : a < σ 0 0 0) (hb : b < σ 0 0 0) (hc : c ≤ 1) (hd : d ≤ 40) (he : e ≤ 10) : IR (su (su (su (su (su (su σ 8 (σ 0 1 0) 0 a) 8 (σ 0 1 0) 1 b) 8 (σ 0 1 0) 2 c) 8 (σ 0 1 0) 3 d) 8 (σ 0 1 0) 4 e) 0 1 0 (σ 0 1 0 + 1)) := by
  obtain ⟨⟨⟨i1, i2, i3, i4, i5⟩, iB, iR, iH⟩, V, Z⟩ := Q
  refine ⟨⟨⟨i1, ?_, i3, i4, i5⟩, iB, ?_, iH⟩, V, Z⟩
  · show σ 0 1 0 + 1 ≤ 12; omega
  · intro j hj
    have hj' : j < σ 0 1 0 + 1 := hj
    by_cases q : j = σ 0 1 0
    · subst q
      simp [su]
      exact ⟨ha, hb, hc, hd, he⟩
    · have := iR j (by omega)
      simp [su, q]
      exact this
theorem IR.house {σ : Sg} (Q : IR σ) {a b c d : Nat} (hn : σ 0 2 0 < 10) (ha : a < σ 0 0 0) (hb : b < σ 1 a 6) (hc : 1 ≤ c ∧ c ≤ 100) (hd : d ≤ 5000) : IR (su (su (su (su (su σ 9 (σ 0 2 0) 0 a) 9 (σ 0 2 0) 1 b) 9 (σ 0 2 0) 2 c) 9 (σ 0 2 0) 3 d) 0 2 0 (σ 0 2 0 + 1)) := by
  obtain ⟨⟨⟨i1, i2, i3, i4, i5⟩, iB, iR, iH⟩, V, Z1, Z2⟩ := Q
  have hz := Z2 (σ 0 2 0) (Nat.le_refl _)
  refine ⟨⟨⟨i1, i2, ?_, i4, i5⟩, iB, iR, ?_⟩, V, Z1, ?_⟩
  · show σ 0 2 0 + 1 ≤ 10; omega
  · intro k hk
    have hk' : k < σ 0 2 0 + 1 := hk
    by_cases q : k = σ 0 2 0
    · subst q
      simp [su, hz.1, hz.2]
      exact ⟨ha, hb, hc, hd⟩
    · have := iH k (by omega)
      simp [su, q]
      exact this
  · intro k hk
    have hk' : σ 0 2 0 + 1 ≤ k := hk
    have := Z2 k (by omega)
    have q : k ≠ σ 0 2 0 := by omega
    simp [su, q]
    exact this
theorem IR.basin {σ : Sg} (Q : IR σ) {a d w u h : Nat} (hn : σ 0 0 0 < 6) (ha : 1 ≤ a ∧ a ≤ 50) (hd : 1 ≤ d ∧ d ≤ 40) (hw : w ≤ 20) (hu : u ≤ σ 0 0 0 ∧ (σ 0 0 0 = 0 → u = 0) ∧ (0 < σ 0 0 0 → 1 ≤ u)) (hh : h ≤ 30) : IR (su (su (su (su (su (su (su σ 1 (σ 0 0 0) 0 a) 1 (σ 0 0 0) 1 d) 1 (σ 0 0 0) 2 w) 1 (σ 0 0 0) 3 u) 2 (σ 0 0 0) 0 h) 1 (σ 0 0 0) 6 1) 0 0 0 (σ 0 0 0 + 1)) := by
  obtain ⟨⟨⟨i1, i2, i3, i4, i5⟩, iB, iR, iH⟩, ⟨V1, V2⟩, Z1, Z2⟩ := Q
  obtain ⟨⟨z4, z5⟩, z57, z2⟩ := Z1 (σ 0 0 0) (Nat.le_refl _)
  refine ⟨⟨⟨?_, i2, i3, i4, i5⟩, ?_, ?_, ?_⟩, ⟨V1, ?_⟩, ?_, Z2⟩
  · show σ 0 0 0 + 1 ≤ 6; omega
  · intro b hb
    have hb' : b < σ 0 0 0 + 1 := hb
    by_cases q : b = σ 0 0 0
    · subst q
      have e2 : ∀ c, (su (su (su (su (su (su (su σ 1 (σ 0 0 0) 0 a) 1 (σ 0 0 0) 1 d) 1 (σ 0 0 0) 2 w) 1 (σ 0 0 0) 3 u) 2 (σ 0 0 0) 0 h) 1 (σ 0 0 0) 6 1) 0 0 0 (σ 0 0 0 + 1)) 2 (σ 0 0 0) c = if c = 0 then h else 0 := by
        intro c
        by_cases g : c = 0
        · subst g; simp [su]
        · simp [su, g, z2 c]
      refine ⟨⟨?_, ?_, ?_⟩, ⟨?_, ?_, ?_⟩, ⟨?_, ?_⟩, ⟨?_, ?_, ?_⟩, ?_, ?_⟩
      · simp [su]; exact ha
      · simp [su]; exact hd
      · simp [su]; exact hw
      · intro g; simp [su]; exact hu.2.1 g
      · intro g; simp [su]; exact hu.2.2 g
      · simp [su]; exact hu.1
      · simp [su, z4]
      · simp [su, z5]
      · simp [su]
      · simp [su]
      · intro c hc
        rw [e2]
        split
        · exact hh
        · omega
      · intro t; have := (z57 t).1; show σ 5 (σ 0 0 0) t ≤ 500; omega
      · intro t; have := (z57 t).2; show σ 7 (σ 0 0 0) t ≤ 240000; omega
    · have := iB b (by omega)
      have e2 : (su (su (su (su (su (su (su σ 1 (σ 0 0 0) 0 a) 1 (σ 0 0 0) 1 d) 1 (σ 0 0 0) 2 w) 1 (σ 0 0 0) 3 u) 2 (σ 0 0 0) 0 h) 1 (σ 0 0 0) 6 1) 0 0 0 (σ 0 0 0 + 1)) 2 b = σ 2 b := by
        funext c
        simp [su, q]
      rw [e2]
      simp [su, q]
      simpa using this
  · intro j hj
    obtain ⟨r1, r2, r3⟩ := iR j hj
    refine ⟨?_, ?_, r3⟩
    · show σ 8 j 0 < σ 0 0 0 + 1; omega
    · show σ 8 j 1 < σ 0 0 0 + 1; omega
  · intro k hk
    obtain ⟨⟨h1, h2, h3⟩, h4⟩ := iH k hk
    refine ⟨⟨?_, ?_, h3⟩, h4⟩
    · show σ 9 k 0 < σ 0 0 0 + 1; omega
    · have q : σ 9 k 0 ≠ σ 0 0 0 := by omega
      show σ 9 k 1 < (su (su (su (su (su (su (su σ 1 (σ 0 0 0) 0 a) 1 (σ 0 0 0) 1 d) 1 (σ 0 0 0) 2 w) 1 (σ 0 0 0) 3 u) 2 (σ 0 0 0) 0 h) 1 (σ 0 0 0) 6 1) 0 0 0 (σ 0 0 0 + 1)) 1 (σ 9 k 0) 6
      simp [su, q]
      exact h2
  · intro b hb
    have hb' : σ 0 0 0 + 1 ≤ b := hb
    exact V2 b (by omega)
  · intro b hb
    have hb' : σ 0 0 0 + 1 ≤ b := hb
    have q : b ≠ σ 0 0 0 := by omega
    have := Z1 b (by omega)
    simp [su, q]
    exact this
theorem IR.rem {σ : Sg} (Q : IR σ) {r : Nat} (hr : r < σ 0 1 0) : IR (rms (su σ 0 1 0 (σ 0 1 0 - 1)) r (σ 0 1 0 - 1)) := by
  obtain ⟨⟨⟨i1, i2, i3, i4, i5⟩, iB, iR, iH⟩, V, Z⟩ := Q
  refine ⟨⟨⟨i1, ?_, i3, i4, i5⟩, iB, ?_, iH⟩, V, Z⟩
  · show σ 0 1 0 - 1 ≤ 12; omega
  · intro j hj
    have hj' : j < σ 0 1 0 - 1 := hj
    have e8 : ∀ t, t < 5 → rms (su σ 0 1 0 (σ 0 1 0 - 1)) r (σ 0 1 0 - 1) 8 j t = if r ≤ j then σ 8 (j + 1) t else σ 8 j t := by
      intro t ht
      unfold rms
      by_cases g : r ≤ j
      · rw [if_pos ⟨rfl, g, hj', ht⟩, if_pos g, su_n (by omega)]
      · rw [if_neg (by omega), if_neg g, su_n (by omega)]
    rw [e8 0 (by decide), e8 1 (by decide), e8 2 (by decide), e8 3 (by decide), e8 4 (by decide)]
    by_cases g : r ≤ j
    · simp only [if_pos g]; exact iR (j + 1) (by omega)
    · simp only [if_neg g]; exact iR j (by omega)
-- by the codes
theorem c0_B {σ : Sg} {x : Int32} (h : cB σ x = 0) : in0 x (σ 0 0 0) := by
  unfold cB at h
  by_cases q : in0 x (σ 0 0 0)
  · exact q
  · rw [if_neg q] at h; omega
theorem ir_Bx {σ : Sg} {m : Nat} {x y : Int32} (h : cBx σ m x y = 0) : in0 x (σ 0 0 0) ∧ inR y 0 m := by
  unfold cBx at h
  by_cases q : in0 x (σ 0 0 0)
  · rw [if_pos q] at h
    by_cases q' : inR y 0 m
    · exact ⟨q, q'⟩
    · rw [if_neg q'] at h; omega
  · rw [if_neg q] at h; omega
theorem ir_hand {σ : Sg} (Q : IR σ) {x y : Int32} (h : cBx σ 10 x y = 0) : IR (fHand σ x y) := by
  have q0 := Q.1.1.1
  obtain ⟨h1, h2⟩ := ir_Bx h
  obtain ⟨b, hb, rfl⟩ := (in0_iff (by omega)).mp h1
  obtain ⟨p, hp, rfl⟩ := (inR_iff (by decide) (by decide)).mp h2
  unfold fHand
  rw [jN_n (by omega), jN_n (by omega)]
  exact Q.hand hb hp.2
theorem ir_rain {σ : Sg} (Q : IR σ) {x y : Int32} (h : cBx σ 500 x y = 0) : IR (fRain σ x y) := by
  have q0 := Q.1.1.1
  obtain ⟨h1, h2⟩ := ir_Bx h
  obtain ⟨b, hb, rfl⟩ := (in0_iff (by omega)).mp h1
  obtain ⟨p, hp, rfl⟩ := (inR_iff (by decide) (by decide)).mp h2
  unfold fRain
  rw [jN_n (by omega), jN_n (by omega)]
  exact Q.rain hb hp.2
theorem ir_basin {σ : Sg} (Q : IR σ) {a d w b h : Int32} (hh : cAB σ a d w b h = 0) : IR (fBasin σ a d w b h) := by
  have q0 := Q.1.1.1
  unfold cAB at hh
  by_cases q1 : blw σ b
  · rw [if_pos q1] at hh
    by_cases q2 : (inR a 1 50 ∧ inR d 1 40 ∧ inR w 0 20) ∧ inR h 0 30
    · rw [if_pos q2] at hh
      by_cases q3 : σ 0 0 0 < 6 ∧ σ 12 0 0 = 0
      · obtain ⟨u, hu, rfl⟩ := (blw_iff (by omega)).mp q1
        obtain ⟨v1, hv1, rfl⟩ := (inR_iff (by decide) (by decide)).mp q2.1.1
        obtain ⟨v2, hv2, rfl⟩ := (inR_iff (by decide) (by decide)).mp q2.1.2.1
        obtain ⟨v3, hv3, rfl⟩ := (inR_iff (by decide) (by decide)).mp q2.1.2.2
        obtain ⟨v4, hv4, rfl⟩ := (inR_iff (by decide) (by decide)).mp q2.2
        unfold fBasin
        rw [jN_n (by omega), jN_n (by omega), jN_n (by omega), jN_n (by omega), jB_b (by omega)]
        exact Q.basin q3.1 hv1 hv2 hv3.2 hu hv4.2
      · rw [if_neg q3] at hh; omega
    · rw [if_neg q2] at hh; omega
  · rw [if_neg q1] at hh; omega
theorem ir_rule {σ : Sg} (Q : IR σ) {x y e0 p0 : Int32} {fr : Nat} (hfr : fr ≤ 1) (hh : cAR σ x y e0 p0 = 0) : IR (fRule σ x y fr e0 p0) := by
  have q0 := Q.1.1.1
  unfold cAR at hh
  by_cases q1 : in0 x (σ 0 0 0) ∧ in0 y (σ 0 0 0)
  · rw [if_pos q1] at hh
    by_cases q2 : inR e0 0 40 ∧ inR p0 0 10
    · rw [if_pos q2] at hh
      by_cases q3 : σ 0 1 0 < 12
      · obtain ⟨v1, hv1, rfl⟩ := (in0_iff (by omega)).mp q1.1
        obtain ⟨v2, hv2, rfl⟩ := (in0_iff (by omega)).mp q1.2
        obtain ⟨v3, hv3, rfl⟩ := (inR_iff (by decide) (by decide)).mp q2.1
        obtain ⟨v4, hv4, rfl⟩ := (inR_iff (by decide) (by decide)).mp q2.2
        unfold fRule
        rw [jN_n (by omega), jN_n (by omega), jN_n (by omega), jN_n (by omega)]
        exact Q.rule q3 hv1 hv2 hfr hv3.2 hv4.2
      · rw [if_neg q3] at hh; omega
    · rw [if_neg q2] at hh; omega
  · rw [if_neg q1] at hh; omega
theorem cells_lt {σ : Sg} (Q : IR σ) {b : Nat} (hb : b < σ 0 0 0) : σ 1 b 6 ≤ 8 := (Q.1.2.1 b hb).2.2.2.1.2.1
theorem ir_house {σ : Sg} (Q : IR σ) {x y r c0 : Int32} (hh : cAH σ x y r c0 = 0) : IR (fHouse σ x y r c0) := by
  have q0 := Q.1.1.1
  unfold cAH at hh
  by_cases q1 : in0 x (σ 0 0 0) ∧ in0 y (σ 1 (jN x) 6)
  · rw [if_pos q1] at hh
    by_cases q2 : inR r 1 100 ∧ inR c0 0 5000
    · rw [if_pos q2] at hh
      by_cases q3 : σ 0 2 0 < 10
      · obtain ⟨h1, h2⟩ := q1
        obtain ⟨v1, hv1, rfl⟩ := (in0_iff (by omega)).mp h1
        rw [jN_n (by omega)] at h2
        have hc := cells_lt Q hv1
        obtain ⟨v2, hv2, rfl⟩ := (in0_iff (by omega)).mp h2
        obtain ⟨v3, hv3, rfl⟩ := (inR_iff (by decide) (by decide)).mp q2.1
        obtain ⟨v4, hv4, rfl⟩ := (inR_iff (by decide) (by decide)).mp q2.2
        unfold fHouse
        rw [jN_n (by omega), jN_n (by omega), jN_n (by omega), jN_n (by omega)]
        exact Q.house q3 hv1 hv2 hv3 hv4.2
      · rw [if_neg q3] at hh; omega
    · rw [if_neg q2] at hh; omega
  · rw [if_neg q1] at hh; omega
theorem ir_rem {σ : Sg} (Q : IR σ) {x : Int32} (h : cR σ x = 0) : IR (fRem σ x) := by
  have q1 := Q.1.1.2.1
  unfold cR at h
  by_cases q : in0 x (σ 0 1 0)
  · obtain ⟨j, hj, rfl⟩ := (in0_iff (by omega)).mp q
    unfold fRem
    rw [jN_n (by omega)]
    exact Q.rem hj
  · rw [if_neg q] at h; omega
theorem ir_line {σ : Sg} (Q : IR σ) {x : Int32} (h : cR σ x = 0) : IR (wrl σ (σ 8 (jN x) 0) (σ 8 (jN x) 1) (σ 8 (jN x) 2) (σ 8 (jN x) 3) (σ 8 (jN x) 4)) := by
  have q1 := Q.1.1.2.1
  have q0 := Q.1.1.1
  unfold cR at h
  by_cases q : in0 x (σ 0 1 0)
  · obtain ⟨j, hj, rfl⟩ := (in0_iff (by omega)).mp q
    rw [jN_n (by omega)]
    obtain ⟨r1, r2, r3, r4, r5⟩ := Q.1.2.2.1 j hj
    exact Q.ln kL.wrl (LnO.wrl (by omega) (by omega) (by omega) (by omega))
  · rw [if_neg q] at h; omega
theorem ir_cell {σ : Sg} (Q : IR σ) {x y : Int32} (hh : cAC σ x y = 0) : IR (fCell σ x y) := by
  have q0 := Q.1.1.1
  unfold cAC at hh
  by_cases q1 : in0 x (σ 0 0 0)
  · rw [if_pos q1] at hh
    by_cases q2 : inR y 0 30
    · rw [if_pos q2] at hh
      by_cases q3 : σ 1 (jN x) 6 < 8 ∧ σ 12 0 0 = 0
      · obtain ⟨v1, hv1, rfl⟩ := (in0_iff (by omega)).mp q1
        obtain ⟨v2, hv2, rfl⟩ := (inR_iff (by decide) (by decide)).mp q2
        have h3 := q3.1
        rw [jN_n (by omega)] at h3
        unfold fCell
        rw [jN_n (by omega), jN_n (by omega)]
        exact Q.cell hv1 hv2.2 h3
      · rw [if_neg q3] at hh; omega
    · rw [if_neg q2] at hh; omega
  · rw [if_neg q1] at hh; omega
theorem ir_pass {σ : Sg} (Q : IR σ) {x : Int32} (hh : cP σ x = 0) : IR (hrs σ (jN x)) := by
  unfold cP at hh
  by_cases q1 : inR x 1 24
  · rw [if_pos q1] at hh
    by_cases q2 : σ 0 0 0 ≠ 0 ∧ σ 12 0 0 + jN x ≤ 60
    · exact Q.hrs _ q2.2
    · rw [if_neg q2] at hh; omega
  · rw [if_neg q1] at hh; omega
theorem ir_claim {σ : Sg} (Q : IR σ) {x t : Int32} (hh : cCl σ x t = 0) : IR (fPay σ (jN x) (jN t)) := by
  have q2 := Q.1.1.2.2.1
  unfold cCl at hh
  by_cases q1 : in0 x (σ 0 2 0)
  · obtain ⟨v1, hv1, rfl⟩ := (in0_iff (by omega)).mp q1
    rw [jN_n (by omega)]
    exact Q.pay hv1
  · rw [if_neg q1] at hh; omega
theorem ir_worst {σ : Sg} (Q : IR σ) {x : Int32} (hh : cCW σ x = 0) : IR (fPay σ (jN x) (wsh σ (jN x) (σ 12 0 0))) := by
  have q2 := Q.1.1.2.2.1
  unfold cCW at hh
  by_cases q1 : in0 x (σ 0 2 0)
  · obtain ⟨v1, hv1, rfl⟩ := (in0_iff (by omega)).mp q1
    rw [jN_n (by omega)]
    exact Q.pay hv1
  · rw [if_neg q1] at hh; omega
