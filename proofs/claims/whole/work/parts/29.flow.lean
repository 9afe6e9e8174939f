/-! PURE 5: moving water, an hour, a trial -/
theorem opn_t {ru ba : Nat → Nat → Nat} {V : Nat → Nat} {b i : Nat} (hi : 0 < i) (h : ru (i - 1) 0 = b) (h2 : hldN ru ba V (i - 1) = 1) : opn ru ba V b i = ru (i - 1) 4 := by
  obtain ⟨m, rfl⟩ : ∃ m, i = m + 1 := ⟨i - 1, by omega⟩
  rw [Nat.add_sub_cancel] at *
  rw [opn, if_pos ⟨h, h2⟩]
theorem opn_f {ru ba : Nat → Nat → Nat} {V : Nat → Nat} {b i : Nat} (hi : 0 < i) (h : ¬ (ru (i - 1) 0 = b ∧ hldN ru ba V (i - 1) = 1)) : opn ru ba V b i = opn ru ba V b (i - 1) := by
  obtain ⟨m, rfl⟩ : ∃ m, i = m + 1 := ⟨i - 1, by omega⟩
  rw [Nat.add_sub_cancel] at *
  rw [opn, if_neg h]
theorem hldN_le (ru ba : Nat → Nat → Nat) (V : Nat → Nat) (j : Nat) : hldN ru ba V j ≤ 1 := by unfold hldN; split <;> omega
theorem opn_le {ru ba : Nat → Nat → Nat} {V : Nat → Nat} {b : Nat} : ∀ {n : Nat}, (∀ j, j < n → ru j 4 ≤ 10) → ba b 4 ≤ 10 → opn ru ba V b n ≤ 10
  | 0, _, h => h
  | n + 1, h1, h => by
    have := opn_le (V := V) (n := n) (fun j hj => h1 j (by omega)) h
    have := h1 n (by omega)
    rw [opn]
    split <;> omega
theorem opF_le {ru ba : Nat → Nat → Nat} {V : Nat → Nat} {b n fx fo : Nat} (h1 : ∀ j, j < n → ru j 4 ≤ 10) (h : ba b 4 ≤ 10) (hf : fo ≤ 10) : opF ru ba V n fx fo b ≤ 10 := by
  unfold opF
  split
  · exact hf
  · exact opn_le h1 h
theorem gt_step {σ : Sg} {w i r : Nat} {V S O O' : Nat → Nat} {ba : Nat → Nat → Nat} (ho : O' i = O i) (hx : ba i 3 ≠ i + 1) : gate (sw σ w (gtV ba O V i) S (r + gtR ba O i) O') w i (ba i 3) = sw σ w (gtV ba O V (i + 1)) S (r + gtR ba O (i + 1)) O' := by
  rw [gate_sw, gtV, gtR]
  by_cases h : ba i 3 = 0
  · rw [if_pos h, if_pos h, if_pos h, ho, Nat.add_assoc]
  · rw [if_neg h, if_neg h, if_neg h, if_neg (by omega), ho]
/-- the water of w is moved for the hour h -/
def mv (σ : Sg) (w fx fo h : Nat) : Sg :=
  sw σ w (mvV σ fx fo h (fun i => σ 3 i w) (fun i => σ 4 i w)) (mvS σ fx fo h (fun i => σ 3 i w) (fun i => σ 4 i w)) (σ 6 0 w + gtR (σ 1) (mvO σ fx fo h (fun i => σ 3 i w)) (σ 0 0 0)) (fst (σ 0 0 0) (mvO σ fx fo h (fun i => σ 3 i w)) (fun i => σ 27 i w))
-- bounds
section ZMV
variable {σ : Sg} {w fx fo h : Nat} {V S : Nat → Nat}
theorem mvR_le (I : InvB σ) (hV : ∀ b, V b ≤ 2000) (b : Nat) : mvR σ h V b ≤ 2500 := by
  unfold mvR
  have := hV b
  by_cases g : b < σ 0 0 0
  · rw [fst_lt g]
    have := (I.2.1 b g).2.2.2.2.1 h
    omega
  · rw [fst_ge g]; omega
theorem mvO_le (I : InvB σ) (hf : fo ≤ 10) {b : Nat} (hb : b < σ 0 0 0) : mvO σ fx fo h V b ≤ 200 := by
  obtain ⟨⟨-, -, h1⟩, -, ⟨h2, -⟩, -⟩ := I.2.1 b hb
  have h3 := opF_le (ru := σ 8) (ba := σ 1) (V := mvR σ h V) (b := b) (n := σ 0 1 0) (fx := fx) (fo := fo) (fun j hj => (I.2.2.1 j hj).2.2.2.2) h2 hf
  have h4 := Nat.mul_le_mul h3 h1
  show min (_ * σ 1 b 2) _ ≤ _
  omega
theorem mvO_leV {b : Nat} : mvO σ fx fo h V b ≤ mvR σ h V b := Nat.min_le_right _ _
theorem gtV_le' {ba : Nat → Nat → Nat} {O V : Nat → Nat} {M N : Nat} (hM : ∀ b, b < N → O b ≤ M) : ∀ (n b : Nat), n ≤ N → gtV ba O V n b ≤ V b + M * n
  | 0, _, _ => by rw [gtV]; omega
  | n + 1, b, hn => by
    have ih := fun b => gtV_le' (ba := ba) (V := V) hM n b (by omega)
    have h1 := ih b
    have h2 := ih n
    have h3 := ih (ba n 3 - 1)
    have h4 := hM n (by omega)
    have e : M * (n + 1) = M * n + M := Nat.mul_succ M n
    rw [gtV]
    split
    · by_cases g : b = n
      · rw [g, up1_s]; omega
      · rw [up1_n g]; omega
    · by_cases g : b = ba n 3 - 1
      · rw [g, up1_s]; omega
      · rw [up1_n g]
        by_cases g2 : b = n
        · rw [g2, up1_s]; omega
        · rw [up1_n g2]; omega
theorem mvGn_le (I : InvB σ) (hf : fo ≤ 10) (hV : ∀ b, V b ≤ 2000) (b : Nat) {n : Nat} (hn : n ≤ σ 0 0 0) : gtV (σ 1) (mvO σ fx fo h V) (mvR σ h V) n b ≤ 3700 := by
  have h1 := mvR_le (h := h) I hV b
  have h2 := gtV_le' (ba := σ 1) (O := mvO σ fx fo h V) (V := mvR σ h V) (N := σ 0 0 0) (fun b hb => mvO_le (fx := fx) (h := h) (V := V) I hf hb) n b hn
  have := I.1.1
  omega
theorem mvG_le (I : InvB σ) (hf : fo ≤ 10) (hV : ∀ b, V b ≤ 2000) (b : Nat) : mvG σ fx fo h V b ≤ 3700 := mvGn_le I hf hV b (Nat.le_refl _)
theorem mvG_hi (I : InvB σ) {b : Nat} (hb : σ 0 0 0 ≤ b) : mvG σ fx fo h V b = V b := by
  unfold mvG
  rw [gtV_hi (fun m hm => (I.2.1 m hm).2.1.2.2) hb]
  exact fst_ge (by omega)
theorem cap_le (I : InvB σ) {b : Nat} (hb : b < σ 0 0 0) : σ 1 b 0 * σ 1 b 1 ≤ 2000 := by
  obtain ⟨⟨⟨-, h1⟩, ⟨-, h2⟩, -⟩, -⟩ := I.2.1 b hb
  exact Nat.mul_le_mul h1 h2
theorem mvV_le (I : InvB σ) (hf : fo ≤ 10) (hV : ∀ b, V b ≤ 2000) (b : Nat) : mvV σ fx fo h V S b ≤ 2000 := by
  unfold mvV
  by_cases g : b < σ 0 0 0
  · rw [fst_lt g]
    have := cap_le I g
    show stV _ _ _ ≤ _
    unfold stV
    split <;> omega
  · rw [fst_ge g, mvG_hi I (by omega)]; exact hV b
theorem mvS_le (I : InvB σ) (hf : fo ≤ 10) (hV : ∀ b, V b ≤ 2000) (b : Nat) : mvS σ fx fo h V S b ≤ S b + 4000 := by
  unfold mvS
  by_cases g : b < σ 0 0 0
  · rw [fst_lt g]
    have := mvG_le (fx := fx) (h := h) I hf hV b
    show stS _ _ _ ≤ _
    unfold stS
    split <;> omega
  · rw [fst_ge g]; omega
theorem mvV_hi (I : InvB σ) {b : Nat} (hb : σ 0 0 0 ≤ b) : mvV σ fx fo h V S b = V b := by
  unfold mvV
  rw [fst_ge (by omega), mvG_hi I hb]
theorem mvS_hi {b : Nat} (hb : σ 0 0 0 ≤ b) : mvS σ fx fo h V S b = S b := fst_ge (by omega)
end ZMV
/-- rain of the hour, for the first n basins -/
def ra (σ : Sg) (n : Nat) : Sg := fun f i j => if f = 5 ∧ (i < n ∧ j = σ 12 0 0 + 1) then σ 1 i 5 else if f = 12 ∧ (i = 1 ∧ j = 0) then σ 12 1 0 + sumT (fun b => σ 1 b 5) n else σ f i j
theorem ra_0 {σ : Sg} : ra σ 0 = σ := by
  funext f i j
  unfold ra
  rw [if_neg (fun q => Nat.not_lt_zero _ q.2.1)]
  split
  · next q => rw [q.1, q.2.1, q.2.2]; rfl
  · rfl
theorem ra_1 {σ : Sg} {n : Nat} : su (su (ra σ n) 5 n (σ 12 0 0 + 1) (σ 1 n 5)) 12 1 0 (σ 12 1 0 + sumT (fun b => σ 1 b 5) n + σ 1 n 5) = ra σ (n + 1) := by
  funext f i j
  unfold su ra
  by_cases h1 : f = 12 ∧ (i = 1 ∧ j = 0)
  · rw [if_pos h1, if_neg (fun q => by omega), if_pos h1, sumT, Nat.add_assoc]
  · rw [if_neg h1, if_neg h1, if_neg h1]
    by_cases h2 : f = 5 ∧ (i = n ∧ j = σ 12 0 0 + 1)
    · rw [if_pos h2, if_pos ⟨h2.1, by omega, h2.2.2⟩, h2.2.1]
    · rw [if_neg h2]
      by_cases h3 : f = 5 ∧ (i < n ∧ j = σ 12 0 0 + 1)
      · rw [if_pos h3, if_pos ⟨h3.1, by omega, h3.2.2⟩]
      · rw [if_neg h3, if_neg (fun q => by omega)]
/-- the street's water at the hour's end, for the first n basins -/
def vo (σ : Sg) (n : Nat) : Sg := fun f i j => if f = 7 ∧ (i < n ∧ j = σ 12 0 0 + 1) then σ 4 i 0 else σ f i j
theorem vo_0 {σ : Sg} : vo σ 0 = σ := by
  funext f i j
  unfold vo
  rw [if_neg (fun q => Nat.not_lt_zero _ q.2.1)]
theorem vo_1 {σ : Sg} {n : Nat} : su (vo σ n) 7 n (σ 12 0 0 + 1) (σ 4 n 0) = vo σ (n + 1) := by
  funext f i j
  unfold su vo
  by_cases h2 : f = 7 ∧ (i = n ∧ j = σ 12 0 0 + 1)
  · rw [if_pos h2, if_pos ⟨h2.1, by omega, h2.2.2⟩, h2.2.1]
  · rw [if_neg h2]
    by_cases h3 : f = 7 ∧ (i < n ∧ j = σ 12 0 0 + 1)
    · rw [if_pos h3, if_pos ⟨h3.1, by omega, h3.2.2⟩]
    · rw [if_neg h3, if_neg (fun q => by omega)]
/-- an hour passes -/
def hourW (σ : Sg) : Sg := vo (mv (ra σ (σ 0 0 0)) 0 0 0 (σ 12 0 0 + 1)) (σ 0 0 0)
def hour (σ : Sg) : Sg := su (su (hourW σ) 31 0 0 (σ 31 0 0 + wsm (σ 2) (σ 1) (fun b => hourW σ 4 b 0) (σ 0 0 0))) 12 0 0 (σ 12 0 0 + 1)
/-- a trial: volumes and streets after n hours -/
def trP (σ : Sg) (fx fo : Nat) : Nat → (Nat → Nat) × (Nat → Nat)
  | 0 => (fun _ => 0, fun _ => 0)
  | n + 1 => (mvV σ fx fo (n + 1) (trP σ fx fo n).1 (trP σ fx fo n).2, mvS σ fx fo (n + 1) (trP σ fx fo n).1 (trP σ fx fo n).2)
def trW (σ : Sg) (fx fo : Nat) : Nat → Nat
  | 0 => 0
  | n + 1 => trW σ fx fo n + wsm (σ 2) (σ 1) (trP σ fx fo (n + 1)).2 (σ 0 0 0)
theorem trP_le {σ : Sg} {fx fo : Nat} (I : InvB σ) (hf : fo ≤ 10) : ∀ n b, (trP σ fx fo n).1 b ≤ 2000 ∧ (trP σ fx fo n).2 b ≤ 4000 * n
  | 0, _ => ⟨Nat.zero_le _, Nat.zero_le _⟩
  | n + 1, b => by
    have ih := trP_le (fx := fx) I hf n
    refine ⟨mvV_le I hf (fun b => (ih b).1) b, ?_⟩
    have := mvS_le (fx := fx) (h := n + 1) (S := (trP σ fx fo n).2) I hf (fun b => (ih b).1) b
    have := (ih b).2
    show mvS σ fx fo (n + 1) (trP σ fx fo n).1 (trP σ fx fo n).2 b ≤ _
    omega
