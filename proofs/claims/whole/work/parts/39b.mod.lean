/-! THE MODEL: pure things -/
theorem pI_n0 {c : Prop} [Decidable c] : pI (¬ c) = 0 ↔ c := by rw [pI_eq0]; exact Decidable.not_not
section ZMD
variable {z : Zx} {ad : Nm} {σ τ : Sg} {o : Int64 × UInt64} {u : Nat}
theorem W_v (h : u = 0 ∨ u = 2) : Wz z ad σ τ o 21 (9 + u) = some (aI z 6 (fun j => nI (τ 3 j u))) := by rcases h with rfl | rfl <;> rfl
theorem W_s (h : u = 0 ∨ u = 2) : Wz z ad σ τ o 21 (10 + u) = some (aI z 6 (fun j => nI (τ 4 j u))) := by rcases h with rfl | rfl <;> rfl
theorem u_v {j v : Nat} (h : u = 0 ∨ u = 2) : up2 (Wz z ad σ τ o) 21 (9 + u) (aI z 6 (upd (fun j => nI (τ 3 j u)) j (nI v))) = Wz z ad σ (su τ 3 j u v) o := by
  rcases h with rfl | rfl
  · exact u_21_9
  · exact u_21_11
theorem u_s {j v : Nat} (h : u = 0 ∨ u = 2) : up2 (Wz z ad σ τ o) 21 (10 + u) (aI z 6 (upd (fun j => nI (τ 4 j u)) j (nI v))) = Wz z ad σ (su τ 4 j u v) o := by
  rcases h with rfl | rfl
  · exact u_21_10
  · exact u_21_12
end ZMD
/-- the model's columns: volumes and streets of u, outs -/
def msw (τ : Sg) (u : Nat) (V S O : Nat → Nat) : Sg := fun f i j => if f = 3 ∧ j = u then V i else if f = 4 ∧ j = u then S i else if f = 70 ∧ j = 0 then O i else τ f i j
section ZMW
variable {τ : Sg} {u i v : Nat} {V S O V' S' O' : Nat → Nat}
theorem msw_3 : msw τ u V S O 3 i u = V i := if_pos ⟨rfl, rfl⟩
theorem msw_4 : msw τ u V S O 4 i u = S i := by simp [msw]
theorem msw_70 : msw τ u V S O 70 i 0 = O i := by simp [msw]
theorem msw_id : msw τ u (fun i => τ 3 i u) (fun i => τ 4 i u) (fun i => τ 70 i 0) = τ := by
  funext f i j
  unfold msw
  by_cases h1 : f = 3 ∧ j = u
  · rw [if_pos h1, h1.1, h1.2]
  · rw [if_neg h1]
    by_cases h2 : f = 4 ∧ j = u
    · rw [if_pos h2, h2.1, h2.2]
    · rw [if_neg h2]
      by_cases h3 : f = 70 ∧ j = 0
      · rw [if_pos h3, h3.1, h3.2]
      · rw [if_neg h3]
theorem su_msw3 : su (msw τ u V S O) 3 i u v = msw τ u (up1 V i v) S O := by
  funext f a b
  by_cases h1 : f = 3 ∧ b = u
  · obtain ⟨rfl, rfl⟩ := h1
    by_cases e : a = i <;> simp [su, msw, up1, e]
  · rw [su, if_neg (fun q => h1 ⟨q.1, q.2.2⟩), msw, msw, if_neg h1, if_neg h1]
theorem su_msw4 : su (msw τ u V S O) 4 i u v = msw τ u V (up1 S i v) O := by
  funext f a b
  by_cases h1 : f = 4 ∧ b = u
  · obtain ⟨rfl, rfl⟩ := h1
    by_cases e : a = i <;> simp [su, msw, up1, e]
  · rw [su, if_neg (fun q => h1 ⟨q.1, q.2.2⟩)]
    unfold msw
    by_cases h2 : f = 3 ∧ b = u
    · rw [if_pos h2, if_pos h2]
    · rw [if_neg h2, if_neg h2, if_neg h1, if_neg h1]
theorem su_msw70 : su (msw τ u V S O) 70 i 0 v = msw τ u V S (up1 O i v) := by
  funext f a b
  by_cases h1 : f = 70 ∧ b = 0
  · obtain ⟨rfl, rfl⟩ := h1
    by_cases e : a = i <;> simp [su, msw, up1, e]
  · rw [su, if_neg (fun q => h1 ⟨q.1, q.2.2⟩)]
    unfold msw
    rw [if_neg h1, if_neg h1]
theorem msw_msw : msw (msw τ u V S O) u V' S' O' = msw τ u V' S' O' := by
  funext f a b
  by_cases h1 : f = 3 ∧ b = u
  · simp [msw, h1]
  · by_cases h2 : f = 4 ∧ b = u
    · simp [msw, h2]
    · by_cases h3 : f = 70 ∧ b = 0
      · simp [msw, h3]
      · unfold msw
        rw [if_neg h1, if_neg h2, if_neg h3, if_neg h1, if_neg h2, if_neg h3, if_neg h1, if_neg h2, if_neg h3]
theorem InvB.msw (I : InvB τ) : InvB (msw τ u V S O) := I
end ZMW
theorem sub_a {L A x : Nat} : nI L - nI A - nI x = nI L - nI (A + x) := by
  rw [← nI_add, Int32.sub_sub]
theorem sub_0 {L : Nat} : nI L = nI L - nI 0 := by rw [show nI 0 = 0 from rfl, Int32.sub_zero]
theorem sub_le {L A : Nat} (hL : L < 2 ^ 30) (hA : A < 2 ^ 30) : nI L - nI A ≤ 0 ↔ L ≤ A := by
  rw [Int32.le_iff_toInt_le, pk_sub_toInt hL hA, show (0 : Int32).toInt = 0 from rfl]
  omega
theorem subneg {a m : Nat} : nI a - -(nI m) = nI (a + m) := by rw [Int32.sub_neg, nI_add]
theorem addneg {a m : Nat} (h : m ≤ a) : nI a + -(nI m) = nI (a - m) := by rw [← Int32.sub_eq_add_neg, pk_sub h]
/-- the openings, from the first rule on -/
def opi (ru ba : Nat → Nat → Nat) (V : Nat → Nat) (b n : Nat) : Nat := opn ru ba V b n
theorem opn_1t {ru ba : Nat → Nat → Nat} {V : Nat → Nat} {b i : Nat} (h : ru i 0 = b) (h2 : hldN ru ba V i = 1) : opn ru ba V b (i + 1) = ru i 4 := by rw [opn, if_pos ⟨h, h2⟩]
theorem opn_1f {ru ba : Nat → Nat → Nat} {V : Nat → Nat} {b i : Nat} (h : ¬ (ru i 0 = b ∧ hldN ru ba V i = 1)) : opn ru ba V b (i + 1) = opn ru ba V b i := by rw [opn, if_neg h]
theorem gtV_0s {ba : Nat → Nat → Nat} {O V : Nat → Nat} {i : Nat} (h : ba i 3 = 0) : up1 (gtV ba O V i) i (gtV ba O V i i - O i) = gtV ba O V (i + 1) := by rw [gtV, if_pos h]
theorem gtV_1s {ba : Nat → Nat → Nat} {O V : Nat → Nat} {i : Nat} (h : ba i 3 ≠ 0) (h2 : ba i 3 ≠ i + 1) : up1 (up1 (gtV ba O V i) i (gtV ba O V i i - O i)) (ba i 3 - 1) (up1 (gtV ba O V i) i (gtV ba O V i i - O i) (ba i 3 - 1) + O i) = gtV ba O V (i + 1) := by
  rw [gtV, if_neg h, up1_n (f := gtV ba O V i) (by omega)]
theorem gtR_0 {σ : Sg} (I : InvB σ) {O : Nat → Nat} : ∀ {n : Nat}, n ≤ σ 0 0 0 → gtR (σ 1) O n = if n = 0 then 0 else O 0
  | 0, _ => rfl
  | 1, h => by
    have := (I.2.1 0 (by omega)).2.1.1 rfl
    rw [gtR, if_pos this, gtR, if_neg (by omega), Nat.zero_add]
  | n + 2, h => by
    have := (I.2.1 (n + 1) (by omega)).2.1.2.1 (by omega)
    rw [gtR, if_neg (by omega), gtR_0 I (by omega), if_neg (by omega), if_neg (by omega)]
theorem fst_zero {n : Nat} {q : Nat → Nat} (h : ∀ b, n ≤ b → q b = 0) : fst n (fun _ => 0) q = fun _ => 0 := by
  funext b
  unfold fst
  split
  · rfl
  · exact h b (by omega)
