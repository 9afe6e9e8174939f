/-! PURE 5: moving water, an hour, a trial -/
theorem opn_t {ru ba : Nat → Nat → Nat} {V : Nat → Nat} {b i : Nat} (hi : 0 < i) (h : ru (i - 1) 0 = b) (h2 : hldN ru ba V (i - 1) = 1) : opn ru ba V b i = ru (i - 1) 4 := by
  obtain ⟨m, rfl⟩ : ∃ m, i = m + 1 := ⟨i - 1, by omega⟩
  rw [Nat.add_sub_cancel] at *
  rw [opn, if_pos ⟨h, h2⟩]
theorem opn_f {ru ba : Nat → Nat → Nat} {V : Nat → Nat} {b i : Nat} (hi : 0 < i) (h : ¬ (ru (i - 1) 0 = b ∧ hldN ru ba V (i - 1) = 1)) : opn ru ba V b i = opn ru ba V b (i - 1) := by
  obtain ⟨m, rfl⟩ : ∃ m, i = m + 1 := ⟨i - 1, by omega⟩
  rw [Nat.add_sub_cancel] at *
  rw [opn, if_neg h]
theorem hldN_le (ru ba : Nat → Nat → Nat) (V : Nat → Nat) (j : Nat) : hldN ru ba V j ≤ 1 := by unfold hldN; split <;> omega
theorem opn_le {ru ba : Nat → Nat → Nat} {V : Nat → Nat} {b : Nat} : ∀ {n : Nat}, (∀ j, j < n → ru j 4 ≤ 10) → ba b 4 ≤ 10 → opn ru ba V b n ≤ 10
  | 0, _, h => h
  | n + 1, h1, h => by
    have := opn_le (V := V) (n := n) (fun j hj => h1 j (by omega)) h
    have := h1 n (by omega)
    rw [opn]
    split <;> omega
theorem opF_le {ru ba : Nat → Nat → Nat} {V : Nat → Nat} {b n fx fo : Nat} (h1 : ∀ j, j < n → ru j 4 ≤ 10) (h : ba b 4 ≤ 10) (hf : fo ≤ 10) : opF ru ba V n fx fo b ≤ 10 := by
  unfold opF
  split
  · exact hf
  · exact opn_le h1 h
theorem gt_step {σ : Sg} {w i r : Nat} {V S O O' : Nat → Nat} {ba : Nat → Nat → Nat} (ho : O' i = O i) (hx : ba i 3 ≠ i + 1) : gate (sw σ w (gtV ba O V i) S (r + gtR ba O i) O') w i (ba i 3) = sw σ w (gtV ba O V (i + 1)) S (r + gtR ba O (i + 1)) O' := by
  rw [gate_sw, gtV, gtR]
  by_cases h : ba i 3 = 0
  · rw [if_pos h, if_pos h, if_pos h, ho, Nat.add_assoc]
  · rw [if_neg h, if_neg h, if_neg h, if_neg (by omega), ho]
/-- the water of w is moved for the hour h -/
def mv (σ : Sg) (w fx fo h : Nat) : Sg :=
  sw σ w (mvV σ fx fo h (fun i => σ 3 i w) (fun i => σ 4 i w)) (mvS σ fx fo h (fun i => σ 3 i w) (fun i => σ 4 i w)) (σ 6 0 w + gtR (σ 1) (mvO σ fx fo h (fun i => σ 3 i w)) (σ 0 0 0)) (fst (σ 0 0 0) (mvO σ fx fo h (fun i => σ 3 i w)) (fun i => σ 27 i w))
-- bounds
section ZMV
variable {σ : Sg} {w fx fo h : Nat} {V S : Nat → Nat}
theorem mvR_le (I : InvB σ) (hV : ∀ b, V b ≤ 2000) (b : Nat) : mvR σ h V b ≤ 2500 := by
  unfold mvR
  have := hV b
  by_cases g : b < σ 0 0 0
  · rw [fst_lt g]
    have := (I.2.1 b g).2.2.2.2.1 h
    omega
  · rw [fst_ge g]; omega
theorem mvO_le (I : InvB σ) (hf : fo ≤ 10) {b : Nat} (hb : b < σ 0 0 0) : mvO σ fx fo h V b ≤ 200 := by
  obtain ⟨⟨-, -, h1⟩, -, ⟨h2, -⟩, -⟩ := I.2.1 b hb
  have h3 := opF_le (ru := σ 8) (ba := σ 1) (V := mvR σ h V) (b := b) (n := σ 0 1 0) (fx := fx) (fo := fo) (fun j hj => (I.2.2.1 j hj).2.2.2.2) h2 hf
  have h4 := Nat.mul_le_mul h3 h1
  show min (_ * σ 1 b 2) _ ≤ _
  omega
theorem mvO_leV {b : Nat} : mvO σ fx fo h V b ≤ mvR σ h V b := Nat.min_le_right _ _
theorem gtV_le' {ba : Nat → Nat → Nat} {O V : Nat → Nat} {M N : Nat} (hM : ∀ b, b < N → O b ≤ M) : ∀ (n b : Nat), n ≤ N → gtV ba O V n b ≤ V b + M * n
  | 0, _, _ => by rw [gtV]; omega
  | n + 1, b, hn => by
    have ih := fun b => gtV_le' (ba := ba) (V := V) hM n b (by omega)
    have h1 := ih b
    have h2 := ih n
    have h3 := ih (ba n 3 - 1)
    have h4 := hM n (by omega)
    have e : M * (n + 1) = M * n + M := Nat.mul_succ M n
    rw [gtV]
    split
    · by_cases g : b = n
      · rw [g, up1_s]; omega
      · rw [up1_n g]; omega
    · by_cases g : b = ba n 3 - 1
      · rw [g, up1_s]; omega
      · rw [up1_n g]
        by_cases g2 : b = n
        · rw [g2, up1_s]; omega
        · rw [up1_n g2]; omega
theorem mvGn_le (I : InvB σ) (hf : fo ≤ 10) (hV : ∀ b, V b ≤ 2000) (b : Nat) {n : Nat} (hn : n ≤ σ 0 0 0) : gtV (σ 1) (mvO σ fx fo h V) (mvR σ h V) n b ≤ 3700 := by
  have h1 := mvR_le (h := h) I hV b
  have h2 := gtV_le' (ba := σ 1) (O := mvO σ fx fo h V) (V := mvR σ h V) (N := σ 0 0 0) (fun b hb => mvO_le (fx := fx) (h := h) (V := V) I hf hb) n b hn
  have := I.1.1
  omega
theorem mvG_le (I : InvB σ) (hf : fo ≤ 10) (hV : ∀ b, V b ≤ 2000) (b : Nat) : mvG σ fx fo h V b ≤ 3700 := mvGn_le I hf hV b (Nat.le_refl _)
theorem mvG_hi (I : InvB σ) {b : Nat} (hb : σ 0 0 0 ≤ b) : mvG σ fx fo h V b = V b := by
  unfold mvG
  rw [gtV_hi (fun m hm => (I.2.1 m hm).2.1.2.2) hb]
  exact fst_ge (by omega)
theorem cap_le (I : InvB σ) {b : Nat} (hb : b < σ 0 0 0) : σ 1 b 0 * σ 1 b 1 ≤ 2000 := by
  obtain ⟨⟨⟨-, h1⟩, ⟨-, h2⟩, -⟩, -⟩ := I.2.1 b hb
  exact Nat.mul_le_mul h1 h2
theorem mvV_le (I : InvB σ) (hf : fo ≤ 10) (hV : ∀ b, V b ≤ 2000) (b : Nat) : mvV σ fx fo h V S b ≤ 2000 := by
  unfold mvV
  by_cases g : b < σ 0 0 0
  · rw [fst_lt g]
    have := cap_le I g
    show stV _ _ _ ≤ _
    unfold stV
    split <;> omega
  · rw [fst_ge g, mvG_hi I (by omega)]; exact hV b
theorem mvS_le (I : InvB σ) (hf : fo ≤ 10) (hV : ∀ b, V b ≤ 2000) (b : Nat) : mvS σ fx fo h V S b ≤ S b + 4000 := by
  unfold mvS
  by_cases g : b < σ 0 0 0
  · rw [fst_lt g]
    have := mvG_le (fx := fx) (h := h) I hf hV b
    show stS _ _ _ ≤ _
    unfold stS
    split <;> omega
  · rw [fst_ge g]; omega
theorem mvV_hi (I : InvB σ) {b : Nat} (hb : σ 0 0 0 ≤ b) : mvV σ fx fo h V S b = V b := by
  unfold mvV
  rw [fst_ge (by omega), mvG_hi I hb]
theorem mvS_hi {b : Nat} (hb : σ 0 0 0 ≤ b) : mvS σ fx fo h V S b = S b := fst_ge (by omega)
end ZMV
/-- rain of the hour, for the first n basins -/
def ra (σ : Sg) (n : Nat) : Sg := fun f i j => if f = 5 ∧ (i < n ∧ j = σ 12 0 0 + 1) then σ 1 i 5 else if f = 12 ∧ (i = 1 ∧ j = 0) then σ 12 1 0 + sumT (fun b => σ 1 b 5) n else σ f i j
theorem ra_0 {σ : Sg} : ra σ 0 = σ := by
  funext f i j
  unfold ra
  rw [if_neg (fun q => Nat.not_lt_zero _ q.2.1)]
  split
  · next q => rw [q.1, q.2.1, q.2.2]; rfl
  · rfl
theorem ra_1 {σ : Sg} {n : Nat} : su (su (ra σ n) 5 n (σ 12 0 0 + 1) (σ 1 n 5)) 12 1 0 (σ 12 1 0 + sumT (fun b => σ 1 b 5) n + σ 1 n 5) = ra σ (n + 1) := by
  funext f i j
  unfold su ra
  by_cases h1 : f = 12 ∧ (i = 1 ∧ j = 0)
  · rw [if_pos h1, if_neg (fun q => by omega), if_pos h1, sumT, Nat.add_assoc]
  · rw [if_neg h1, if_neg h1, if_neg h1]
    by_cases h2 : f = 5 ∧ (i = n ∧ j = σ 12 0 0 + 1)
    · rw [if_pos h2, if_pos ⟨h2.1, by omega, h2.2.2⟩, h2.2.1]
    · rw [if_neg h2]
      by_cases h3 : f = 5 ∧ (i < n ∧ j = σ 12 0 0 + 1)
      · rw [if_pos h3, if_pos ⟨h3.1, by omega, h3.2.2⟩]
      · rw [if_neg h3, if_neg (fun q => by omega)]
/-- the street's water at the hour's end, for the first n basins -/
def vo (σ : Sg) (n : Nat) : Sg := fun f i j => if f = 7 ∧ (i < n ∧ j = σ 12 0 0 + 1) then σ 4 i 0 else σ f i j
theorem vo_0 {σ : Sg} : vo σ 0 = σ := by
  funext f i j
  unfold vo
  rw [if_neg (fun q => Nat.not_lt_zero _ q.2.1)]
theorem vo_1 {σ : Sg} {n : Nat} : su (vo σ n) 7 n (σ 12 0 0 + 1) (σ 4 n 0) = vo σ (n + 1) := by
  funext f i j
  unfold su vo
  by_cases h2 : f = 7 ∧ (i = n ∧ j = σ 12 0 0 + 1)
  · rw [if_pos h2, if_pos ⟨h2.1, by omega, h2.2.2⟩, h2.2.1]
  · rw [if_neg h2]
    by_cases h3 : f = 7 ∧ (i < n ∧ j = σ 12 0 0 + 1)
    · rw [if_pos h3, if_pos ⟨h3.1, by omega, h3.2.2⟩]
    · rw [if_neg h3, if_neg (fun q => by omega)]
/-- an hour passes -/
def hourW (σ : Sg) : Sg := vo (mv (ra σ (σ 0 0 0)) 0 0 0 (σ 12 0 0 + 1)) (σ 0 0 0)
def hour (σ : Sg) : Sg := su (su (hourW σ) 31 0 0 (σ 31 0 0 + wsm (σ 2) (σ 1) (fun b => hourW σ 4 b 0) (σ 0 0 0))) 12 0 0 (σ 12 0 0 + 1)
/-- a trial: volumes and streets after n hours -/
def trP (σ : Sg) (fx fo : Nat) : Nat → (Nat → Nat) × (Nat → Nat)
  | 0 => (fun _ => 0, fun _ => 0)
  | n + 1 => (mvV σ fx fo (n + 1) (trP σ fx fo n).1 (trP σ fx fo n).2, mvS σ fx fo (n + 1) (trP σ fx fo n).1 (trP σ fx fo n).2)
def trW (σ : Sg) (fx fo : Nat) : Nat → Nat
  | 0 => 0
  | n + 1 => trW σ fx fo n + wsm (σ 2) (σ 1) (trP σ fx fo (n + 1)).2 (σ 0 0 0)
theorem trP_le {σ : Sg} {fx fo : Nat} (I : InvB σ) (hf : fo ≤ 10) : ∀ n b, (trP σ fx fo n).1 b ≤ 2000 ∧ (trP σ fx fo n).2 b ≤ 4000 * n
  | 0, _ => ⟨Nat.zero_le _, Nat.zero_le _⟩
  | n + 1, b => by
    have ih := trP_le (fx := fx) I hf n
    refine ⟨mvV_le I hf (fun b => (ih b).1) b, ?_⟩
    have := mvS_le (fx := fx) (h := n + 1) (S := (trP σ fx fo n).2) I hf (fun b => (ih b).1) b
    have := (ih b).2
    show mvS σ fx fo (n + 1) (trP σ fx fo n).1 (trP σ fx fo n).2 b ≤ _
    omega
theorem mvV_lo {σ : Sg} {fx fo h : Nat} {V S : Nat → Nat} (I : InvB σ) {n : Nat} (hn : σ 0 0 0 ≤ n) (hz : ∀ b, n ≤ b → V b = 0 ∧ S b = 0) : ∀ b, n ≤ b → mvV σ fx fo h V S b = 0 ∧ mvS σ fx fo h V S b = 0 := fun b hb => by
  rw [mvV_hi I (Nat.le_trans hn hb), mvS_hi (Nat.le_trans hn hb)]
  exact hz b hb
theorem trP_hi {σ : Sg} {fx fo : Nat} (I : InvB σ) : ∀ n b, σ 0 0 0 ≤ b → (trP σ fx fo n).1 b = 0 ∧ (trP σ fx fo n).2 b = 0
  | 0, _, _ => ⟨rfl, rfl⟩
  | n + 1, b, hb => mvV_lo I (Nat.le_refl _) (trP_hi I n) b hb
theorem InvB.rain {σ : Sg} (I : InvB σ) {n : Nat} (hn : n ≤ σ 0 0 0) : InvB (ra σ n) := by
  refine ⟨I.1, fun b hb => ?_, I.2.2.1, I.2.2.2⟩
  obtain ⟨h1, h2, h3, h4, h5, h6⟩ := I.2.1 b hb
  refine ⟨h1, h2, h3, h4, fun h => ?_, h6⟩
  show (if 5 = 5 ∧ (b < n ∧ h = σ 12 0 0 + 1) then σ 1 b 5 else _) ≤ 500
  split
  · exact h3.2
  · exact h5 h
theorem vo_7 {σ : Sg} {n i j M : Nat} (h1 : ∀ h, σ 7 i h ≤ M) (h2 : σ 4 i 0 ≤ M) : vo σ n 7 i j ≤ M := by
  unfold vo
  split
  · exact h2
  · exact h1 j
theorem InvB.hrW {σ : Sg} (I : InvB σ) (hV : ∀ b, σ 3 b 0 ≤ 2000) (hS : ∀ b, σ 4 b 0 ≤ 4000 * σ 12 0 0) (hc : σ 12 0 0 < 60) : InvB (hourW σ) := by
  have I2 : InvB (mv (ra σ (σ 0 0 0)) 0 0 0 (σ 12 0 0 + 1)) := I.rain (Nat.le_refl _)
  refine ⟨I2.1, fun b hb => ?_, I2.2.2.1, I2.2.2.2⟩
  obtain ⟨h1, h2, h3, h4, h5, h6⟩ := I2.2.1 b hb
  refine ⟨h1, h2, h3, h4, h5, fun h => ?_⟩
  refine vo_7 h6 ?_
  show mvS (ra σ (σ 0 0 0)) 0 0 (σ 12 0 0 + 1) (fun i => σ 3 i 0) (fun i => σ 4 i 0) b ≤ 240000
  have e := mvS_le (fx := 0) (fo := 0) (h := σ 12 0 0 + 1) (S := fun i => σ 4 i 0) (I.rain (Nat.le_refl (σ 0 0 0))) (Nat.zero_le 10) hV b
  have := hS b
  have e2 : (fun i => σ 4 i 0) b = σ 4 b 0 := rfl
  omega
theorem InvB.hr {σ : Sg} (I : InvB σ) (hV : ∀ b, σ 3 b 0 ≤ 2000) (hS : ∀ b, σ 4 b 0 ≤ 4000 * σ 12 0 0) (hc : σ 12 0 0 < 60) : InvB (hour σ) := by
  have I2 := I.hrW hV hS hc
  exact ⟨⟨I2.1.1, I2.1.2.1, I2.1.2.2.1, hc, I2.1.2.2.2.2⟩, I2.2⟩
theorem sw_sw {σ : Sg} {w r r' : Nat} {V S O V' S' O' : Nat → Nat} : sw (sw σ w V S r O) w V' S' r' O' = sw σ w V' S' r' O' := by
  funext f i j
  by_cases h1 : f = 3 ∧ j = w
  · simp [sw, h1]
  · by_cases h2 : f = 4 ∧ j = w
    · simp [sw, h2]
    · by_cases h3 : f = 6 ∧ (i = 0 ∧ j = w)
      · simp [sw, h3]
      · by_cases h4 : f = 27 ∧ j = w
        · simp [sw, h4]
        · unfold sw
          rw [if_neg h1, if_neg h2, if_neg h3, if_neg h4, if_neg h1, if_neg h2, if_neg h3, if_neg h4, if_neg h1, if_neg h2, if_neg h3, if_neg h4]
theorem mv_sw {σ : Sg} {w r fx fo h : Nat} {V S O : Nat → Nat} : mv (sw σ w V S r O) w fx fo h = sw σ w (mvV σ fx fo h V S) (mvS σ fx fo h V S) (r + gtR (σ 1) (mvO σ fx fo h V) (σ 0 0 0)) (fst (σ 0 0 0) (mvO σ fx fo h V) O) := by
  unfold mv
  rw [sw_sw, show (fun i => sw σ w V S r O 3 i w) = V from funext fun _ => sw_3, show (fun i => sw σ w V S r O 4 i w) = S from funext fun _ => sw_4, show (fun i => sw σ w V S r O 27 i w) = O from funext fun _ => sw_27, sw_6]
  rfl
theorem zer_sw {σ : Sg} {w : Nat} (h : ∀ b, 6 ≤ b → σ 3 b w = 0 ∧ σ 4 b w = 0) : zer σ w = sw σ w (fun _ => 0) (fun _ => 0) 0 (fun i => σ 27 i w) := by
  funext f i j
  have hf : ∀ (g : Nat → Nat), (∀ b, 6 ≤ b → g b = 0) → fil 6 0 g i = 0 := fun g hg => by
    unfold fil
    split
    · rfl
    · exact hg i (by omega)
  by_cases h1 : f = 3 ∧ j = w
  · obtain ⟨rfl, rfl⟩ := h1
    rw [sw_3]
    rw [show zer σ j 3 i j = fil 6 0 (fun b => σ 3 b j) i by simp [zer, su, sc]]
    exact hf _ (fun b hb => (h b hb).1)
  · by_cases h2 : f = 4 ∧ j = w
    · obtain ⟨rfl, rfl⟩ := h2
      rw [sw_4]
      rw [show zer σ j 4 i j = fil 6 0 (fun b => σ 4 b j) i by simp [zer, su, sc]]
      exact hf _ (fun b hb => (h b hb).2)
    · by_cases h3 : f = 6 ∧ (i = 0 ∧ j = w)
      · obtain ⟨rfl, rfl, rfl⟩ := h3
        rw [sw_6]
        exact if_pos ⟨rfl, rfl, rfl⟩
      · unfold zer su sc sw
        rw [if_neg h3, if_neg h2, if_neg h1, if_neg h1, if_neg h2, if_neg h3]
        split
        · next q => rw [q.1, q.2]
        · rfl
theorem wsm_le' {σ : Sg} {S : Nat → Nat} (I : InvB σ) {n : Nat} (hn : n ≤ σ 0 0 0) : wsm (σ 2) (σ 1) S n ≤ 8 * n := wsm_le (fun b hb => (I.2.1 b (by omega)).2.2.2.1.2.1)
theorem trW_le {σ : Sg} {fx fo : Nat} (I : InvB σ) : ∀ n, trW σ fx fo n ≤ 48 * n
  | 0 => Nat.zero_le _
  | n + 1 => by
    have := trW_le (fx := fx) (fo := fo) I n
    have h1 := wsm_le' (S := (trP σ fx fo (n + 1)).2) I (Nat.le_refl (σ 0 0 0))
    have := I.1.1
    rw [trW]
    omega
