/-! INVARIANTS -/
def sumT (f : Nat → Nat) : Nat → Nat
  | 0 => 0
  | n + 1 => sumT f n + f n
/-- the built net, its rules and houses -/
def InvB (σ : Sg) : Prop :=
  (σ 0 0 0 ≤ 6 ∧ σ 0 1 0 ≤ 12 ∧ σ 0 2 0 ≤ 10 ∧ σ 12 0 0 ≤ 60 ∧ σ 12 2 0 ≤ 9 ∧ ∀ j, j < σ 12 2 0 → σ 11 0 j < 128) ∧
  (∀ b, b < σ 0 0 0 → ((1 ≤ σ 1 b 0 ∧ σ 1 b 0 ≤ 50) ∧ (1 ≤ σ 1 b 1 ∧ σ 1 b 1 ≤ 40) ∧ σ 1 b 2 ≤ 20) ∧ ((b = 0 → σ 1 b 3 = 0) ∧ (0 < b → 1 ≤ σ 1 b 3) ∧ σ 1 b 3 ≤ b) ∧ (σ 1 b 4 ≤ 10 ∧ σ 1 b 5 ≤ 500) ∧ Stt (σ 2 b) (σ 1 b 6) ∧ (∀ h, σ 5 b h ≤ 500) ∧ ∀ h, σ 7 b h ≤ 240000) ∧
  (∀ j, j < σ 0 1 0 → σ 8 j 0 < σ 0 0 0 ∧ σ 8 j 1 < σ 0 0 0 ∧ σ 8 j 2 ≤ 1 ∧ σ 8 j 3 ≤ 40 ∧ σ 8 j 4 ≤ 10) ∧
  (∀ k, k < σ 0 2 0 → (σ 9 k 0 < σ 0 0 0 ∧ σ 9 k 1 < σ 1 (σ 9 k 0) 6 ∧ (1 ≤ σ 9 k 2 ∧ σ 9 k 2 ≤ 100) ∧ σ 9 k 3 ≤ 5000 ∧ σ 9 k 4 ≤ σ 9 k 3) ∧ ∀ h, σ 10 k h ≤ 1)
/-- the water of the third index w: after an hour -/
def InvW (σ : Sg) (w T : Nat) : Prop := ∀ b, (b < σ 0 0 0 → σ 3 b w ≤ 2000 ∧ σ 4 b w ≤ 4000 * T) ∧ (σ 0 0 0 ≤ b → σ 3 b w = 0 ∧ σ 4 b w = 0)
/-- the lists -/
def InvL (σ : Sg) : Prop := ∀ l, l < 3 → σ 0 l 0 ≤ σ 34 l 0 ∧ σ 34 l 0 ≤ 100
/-- the dry marks -/
def InvD (σ : Sg) : Prop := ∀ b c, b < σ 0 0 0 → c < σ 1 b 6 → σ 30 b c = dryF (σ 2 b) (σ 1 b 6) c
theorem dryF_le {hs : Nat → Nat} {n c : Nat} (q : Stt hs n) (hc : c < n) : dryF hs n c ≤ 248 := by
  have h1 := ahd_le hs (hs c) c
  have h2 := upto_le hs (hs c) n
  have h3 := q.2.2 c hc
  have h4 : n * hs c ≤ 8 * 30 := Nat.mul_le_mul q.2.1 h3
  have := q.2.1
  unfold dryF
  omega
