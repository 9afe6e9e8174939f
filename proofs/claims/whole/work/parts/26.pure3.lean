/-! PURE 3: water, houses -/
/-- water through the gate of i: to the river, or to the basin x - 1 -/
def gate (σ : Sg) (w i x : Nat) : Sg :=
  if x = 0 then su (su σ 3 i w (σ 3 i w - σ 27 i w)) 6 0 w (σ 6 0 w + σ 27 i w)
  else su (su σ 3 i w (σ 3 i w - σ 27 i w)) 3 (x - 1) w (σ 3 (x - 1) w + σ 27 i w)
/-- the street takes what is beyond, or gives back -/
def stl (σ : Sg) (w i cap : Nat) : Sg :=
  if cap ≤ σ 3 i w ∧ σ 3 i w ≠ cap then su (su σ 4 i w (σ 4 i w + (σ 3 i w - cap))) 3 i w cap
  else su (su σ 4 i w (σ 4 i w - min (σ 4 i w) (cap - σ 3 i w))) 3 i w (σ 3 i w + min (σ 4 i w) (cap - σ 3 i w))
def hld (σ : Sg) (w : Nat) : Nat → Nat
  | 0 => 0
  | n + 1 => hld σ w n + (σ 3 n w + σ 4 n w)
/-- the water of w is none -/
def zer (σ : Sg) (w : Nat) : Sg := su (sc (sc σ 3 w (fil 6 0 (fun j => σ 3 j w))) 4 w (fil 6 0 (fun j => σ 4 j w))) 6 0 w 0
/-- the worth of an hour for a house -/
def wor (σ : Sg) (k h : Nat) : Nat := σ 9 k 2 * dpt (σ 2 (σ 9 k 0)) (σ 1 (σ 9 k 0) 6) (σ 9 k 1) (σ 7 (σ 9 k 0) h)
/-- what an hour is worth that isn't claimed -/
def wou (σ : Sg) (k h : Nat) : Nat := if σ 10 k h = 0 then wor σ k h else 0
/-- the greatest of the first n hours, and its hour -/
def wgr (σ : Sg) (k : Nat) : Nat → Nat
  | 0 => 0
  | n + 1 => if wgr σ k n < wou σ k (n + 1) then wou σ k (n + 1) else wgr σ k n
def wsh (σ : Sg) (k : Nat) : Nat → Nat
  | 0 => 0
  | n + 1 => if wgr σ k n < wou σ k (n + 1) then n + 1 else wsh σ k n
theorem wsh_le (σ : Sg) (k : Nat) : ∀ n, wsh σ k n ≤ n
  | 0 => Nat.le_refl 0
  | n + 1 => by have := wsh_le σ k n; rw [wsh]; split <;> omega
theorem InvB.house {σ : Sg} (I : InvB σ) {k : Nat} (hk : k < σ 0 2 0) : σ 9 k 0 < σ 0 0 0 ∧ Stt (σ 2 (σ 9 k 0)) (σ 1 (σ 9 k 0) 6) ∧ σ 9 k 1 < σ 1 (σ 9 k 0) 6 ∧ (∀ h, σ 7 (σ 9 k 0) h ≤ 240000) ∧ 1 ≤ σ 9 k 2 ∧ σ 9 k 2 ≤ 100 := by
  obtain ⟨⟨a1, a2, a3, a4, a5⟩, -⟩ := I.2.2.2 k hk
  obtain ⟨-, -, -, b4, -, b6⟩ := I.2.1 _ a1
  exact ⟨a1, b4, a2, b6, a3⟩
theorem wor_le {σ : Sg} (I : InvB σ) {k : Nat} (hk : k < σ 0 2 0) (h : Nat) : wor σ k h ≤ 30000000 := by
  obtain ⟨a1, a2, a3, a4, a5, a6⟩ := I.house hk
  have h1 := dpt_le (c := σ 9 k 1) (v := σ 7 (σ 9 k 0) h) a2
  have h2 := a4 h
  have h3 : wor σ k h ≤ 100 * 240031 := Nat.mul_le_mul a6 (by omega)
  omega
theorem wou_le {σ : Sg} (I : InvB σ) {k : Nat} (hk : k < σ 0 2 0) (h : Nat) : wou σ k h ≤ 30000000 := by
  have := wor_le I hk h
  unfold wou
  split <;> omega
theorem wgr_le {σ : Sg} (I : InvB σ) {k : Nat} (hk : k < σ 0 2 0) : ∀ n, wgr σ k n ≤ 30000000
  | 0 => Nat.zero_le _
  | n + 1 => by have := wgr_le I hk n; have := wou_le I hk (n + 1); rw [wgr]; split <;> omega
/-- a house is paid for an hour -/
def pmt (σ : Sg) (k h : Nat) : Nat := min (wor σ k h) (σ 9 k 3 - σ 9 k 4)
def payC (σ : Sg) (k h : Nat) : Sg := su (su (su σ 10 k h 1) 32 k 0 (σ 32 k 0 + 1)) 9 k 4 (σ 9 k 4 + pmt σ k h)
