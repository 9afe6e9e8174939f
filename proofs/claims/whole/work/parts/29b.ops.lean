/-! PURE 6: the calls: codes, answers, what changes; invariants -/
def cB (σ : Sg) (x : Int32) : Nat := if in0 x (σ 0 0 0) then 0 else 1
def cC (σ : Sg) (x y : Int32) : Nat := if in0 x (σ 0 0 0) ∧ in0 y (σ 1 (jN x) 6) then 0 else 1
def cK (σ : Sg) (x : Int32) : Nat := if in0 x (σ 0 2 0) then 0 else 1
def cR (σ : Sg) (x : Int32) : Nat := if in0 x (σ 0 1 0) then 0 else 1
def cL (σ : Sg) (x : Int32) : Nat := if in0 x (σ 12 2 0) then 0 else 1
def cBx (σ : Sg) (m : Nat) (x y : Int32) : Nat := if in0 x (σ 0 0 0) then (if inR y 0 m then 0 else 2) else 1
def cCh (σ : Sg) (x y h : Int32) : Nat := if in0 x (σ 0 0 0) ∧ in0 y (σ 1 (jN x) 6) then (if inR h 1 (σ 12 0 0) then 0 else 2) else 1
def cKh (σ : Sg) (x h : Int32) : Nat := if in0 x (σ 0 2 0) then (if inR h 1 (σ 12 0 0) then 0 else 2) else 1
def cAC (σ : Sg) (x h : Int32) : Nat := if in0 x (σ 0 0 0) then (if inR h 0 30 then (if σ 1 (jN x) 6 < 8 ∧ σ 12 0 0 = 0 then 0 else 3) else 2) else 1
/-- below is right for a new basin -/
abbrev blw (σ : Sg) (b : Int32) : Prop := if σ 0 0 0 = 0 then b = bw 0 else in0 b (σ 0 0 0)
def cAB (σ : Sg) (a d w b h : Int32) : Nat := if blw σ b then (if (inR a 1 50 ∧ inR d 1 40 ∧ inR w 0 20) ∧ inR h 0 30 then (if σ 0 0 0 < 6 ∧ σ 12 0 0 = 0 then 0 else 3) else 2) else 1
def cAR (σ : Sg) (x y l p : Int32) : Nat := if in0 x (σ 0 0 0) ∧ in0 y (σ 0 0 0) then (if inR l 0 40 ∧ inR p 0 10 then (if σ 0 1 0 < 12 then 0 else 3) else 2) else 1
def cAH (σ : Sg) (x y r c : Int32) : Nat := if in0 x (σ 0 0 0) ∧ in0 y (σ 1 (jN x) 6) then (if inR r 1 100 ∧ inR c 0 5000 then (if σ 0 2 0 < 10 then 0 else 3) else 2) else 1
def cP (σ : Sg) (x : Int32) : Nat := if inR x 1 24 then (if σ 0 0 0 ≠ 0 ∧ σ 12 0 0 + jN x ≤ 60 then 0 else 2) else 1
def dpC (σ : Sg) (b c v : Nat) : Nat := dpt (σ 2 b) (σ 1 b 6) c v
def cCl (σ : Sg) (x h : Int32) : Nat := if in0 x (σ 0 2 0) then (if inR h 1 (σ 12 0 0) then (if 0 < dpC σ (σ 9 (jN x) 0) (σ 9 (jN x) 1) (σ 7 (σ 9 (jN x) 0) (jN h)) then (if σ 10 (jN x) (jN h) = 0 then 0 else 4) else 3) else 2) else 1
def cCW (σ : Sg) (x : Int32) : Nat := if in0 x (σ 0 2 0) then (if wsh σ (jN x) (σ 12 0 0) ≠ 0 then 0 else 2) else 1
/-- hours among the first n at whose end the cell was wet -/
def whr (σ : Sg) (b c : Nat) : Nat → Nat
  | 0 => 0
  | n + 1 => whr σ b c n + if 0 < dpC σ b c (σ 7 b (n + 1)) then 1 else 0
theorem whr_le (σ : Sg) (b c : Nat) : ∀ n, whr σ b c n ≤ n
  | 0 => Nat.le_refl 0
  | n + 1 => by have := whr_le σ b c n; rw [whr]; split <;> omega
/-- wet cells of the first n hours -/
def fld (σ : Sg) : Nat → Nat
  | 0 => 0
  | n + 1 => fld σ n + wsm (σ 2) (σ 1) (fun b => σ 7 b (n + 1)) (σ 0 0 0)
/-- claimed hours of a house -/
def clm (σ : Sg) (k : Nat) : Nat := sumT (fun h => σ 10 k (h + 1)) 60
def clT (σ : Sg) : Nat := sumT (fun k => clm σ k) (σ 0 2 0)
def pdT (σ : Sg) : Nat := sumT (fun k => σ 9 k 4) (σ 0 2 0)
/-- the best opening of the first n + 1, and its flooded cells -/
def bsp (σ : Sg) (b : Nat) : Nat → Nat × Nat
  | 0 => (0, trW σ (b + 1) 0 (σ 12 0 0))
  | n + 1 => if trW σ (b + 1) (n + 1) (σ 12 0 0) < (bsp σ b n).2 then (n + 1, trW σ (b + 1) (n + 1) (σ 12 0 0)) else bsp σ b n
/-- n hours pass -/
def hrs (σ : Sg) : Nat → Sg
  | 0 => σ
  | n + 1 => hour (hrs σ n)
-- invariants of what class and model share
def InvZ (σ : Sg) : Prop := (∀ b, σ 0 0 0 ≤ b → (σ 1 b 4 = 0 ∧ σ 1 b 5 = 0) ∧ (∀ h, σ 5 b h = 0 ∧ σ 7 b h = 0) ∧ ∀ c, σ 2 b c = 0) ∧ ∀ k, σ 0 2 0 ≤ k → σ 9 k 4 = 0 ∧ ∀ h, σ 10 k h = 0
def InvV (σ : Sg) : Prop := (∀ b, σ 3 b 0 ≤ 2000 ∧ σ 4 b 0 ≤ 4000 * σ 12 0 0) ∧ ∀ b, σ 0 0 0 ≤ b → σ 3 b 0 = 0 ∧ σ 4 b 0 = 0
def IR (σ : Sg) : Prop := InvB σ ∧ InvV σ ∧ InvZ σ
/-- the class alone -/
def ICo (σ : Sg) : Prop := InvL σ ∧ InvD σ ∧ (∀ b, 6 ≤ b → σ 3 b 1 = 0 ∧ σ 4 b 1 = 0) ∧ σ 31 0 0 = fld σ (σ 12 0 0) ∧ (∀ k, k < σ 0 2 0 → σ 32 k 0 = clm σ k) ∧ σ 37 0 0 ≤ 1
/-- the model alone -/
def IMo (σ : Sg) : Prop := σ 71 0 0 = clT σ ∧ σ 73 0 0 = 0 ∧ ∀ b, σ 0 0 0 ≤ b → σ 3 b 2 = 0 ∧ σ 4 b 2 = 0
theorem sumT_le {f : Nat → Nat} {m : Nat} : ∀ {n : Nat}, (∀ k, k < n → f k ≤ m) → sumT f n ≤ m * n
  | 0, _ => Nat.zero_le _
  | n + 1, h => by
    have h1 := sumT_le (f := f) (m := m) (n := n) (fun k hk => h k (by omega))
    have h2 := h n (by omega)
    rw [sumT, Nat.mul_succ]
    omega
theorem sumT_congr {f g : Nat → Nat} : ∀ {n : Nat}, (∀ k, k < n → f k = g k) → sumT f n = sumT g n
  | 0, _ => rfl
  | n + 1, h => by rw [sumT, sumT, sumT_congr (fun k hk => h k (by omega)), h n (by omega)]
theorem sumT_up {f g : Nat → Nat} {j d : Nat} : ∀ {n : Nat}, j < n → (∀ k, k < n → k ≠ j → g k = f k) → g j = f j + d → sumT g n = sumT f n + d
  | 0, h, _, _ => absurd h (Nat.not_lt_zero _)
  | n + 1, h, h1, h2 => by
    rw [sumT, sumT]
    rcases Nat.lt_or_ge j n with q | q
    · rw [sumT_up q (fun k hk hk2 => h1 k (by omega) hk2) h2, h1 n (by omega) (by omega)]
      omega
    · have e : j = n := by omega
      subst e
      rw [sumT_congr (f := g) (g := f) (fun k hk => h1 k (by omega) (by omega)), h2]
      omega
theorem clm_le {σ : Sg} (I : InvB σ) {k : Nat} (hk : k < σ 0 2 0) : clm σ k ≤ 60 := by
  have := sumT_le (f := fun h => σ 10 k (h + 1)) (m := 1) (n := 60) (fun h _ => (I.2.2.2 k hk).2 (h + 1))
  unfold clm
  omega
theorem clT_le {σ : Sg} (I : InvB σ) : clT σ ≤ 600 := by
  have h1 := sumT_le (f := fun k => clm σ k) (m := 60) (n := σ 0 2 0) (fun k hk => clm_le I hk)
  have h2 := I.1.2.2.1
  unfold clT
  omega
theorem pdT_le {σ : Sg} (I : InvB σ) {n : Nat} (hn : n ≤ σ 0 2 0) : sumT (fun k => σ 9 k 4) n ≤ 50000 := by
  have h1 := sumT_le (f := fun k => σ 9 k 4) (m := 5000) (n := n) (fun k hk => by obtain ⟨⟨-, -, -, a, b⟩, -⟩ := I.2.2.2 k (by omega); show σ 9 k 4 ≤ 5000; omega)
  have h2 := I.1.2.2.1
  omega
/-- numbers of a long -/
def nJ (a : Nat) : Int64 := Int64.ofNat a
theorem nJ_add (a b : Nat) : nJ a + nJ b = nJ (a + b) := (Int64.ofNat_add a b).symm
theorem nJ_i2l {a : Nat} (h : a < 2 ^ 31) : (nI a).toInt64 = nJ a := by
  apply Int64.toInt_inj.mp
  rw [Int32.toInt_toInt64, nI_toInt h]
  unfold nJ
  rw [Int64.toInt_ofNat_of_lt (by omega)]
theorem nJ_inj {a b : Nat} (ha : a < 2 ^ 63) (hb : b < 2 ^ 63) : nJ a = nJ b ↔ a = b := by
  refine ⟨fun h => ?_, fun h => h ▸ rfl⟩
  have e := congrArg Int64.toInt h
  unfold nJ at e
  rw [Int64.toInt_ofNat_of_lt ha, Int64.toInt_ofNat_of_lt hb] at e
  omega
/-- names that stay -/
def adK (ad ad' : Nm) : Prop := ad' 0 0 = ad 0 0 ∧ ad' 20 0 = ad 20 0 ∧ ad' 19 0 = ad 19 0 ∧ ad' 19 1 = ad 19 1
theorem adK.rf {ad : Nm} : adK ad ad := ⟨rfl, rfl, rfl, rfl⟩
theorem adK.tr {a b c : Nm} (h : adK a b) (h' : adK b c) : adK a c := ⟨h'.1.trans h.1, h'.2.1.trans h.2.1, h'.2.2.1.trans h.2.2.1, h'.2.2.2.trans h.2.2.2⟩
/-- a call of the class: its code is 0, it answers v, the shared numbers become F -/
def okC (z : Zx) (ad : Nm) (τ : Sg) (o : Int64 × UInt64) (cd : Nat) (v : Value) (F : Sg) : OkT := fun v' ad' μ' => cd = 0 ∧ v' = some v ∧ adK ad ad' ∧ ∃ σ', μ' = Wz z ad' σ' τ o ∧ agr σ' F ∧ ICo σ'
theorem okC_rd {z : Zx} {ad : Nm} {σ τ : Sg} {o : Int64 × UInt64} {cd : Nat} {v v' : Value} (C : ICo σ) (h : cd = 0) (hv : v' = v) : okC z ad τ o cd v σ (some v') ad (Wz z ad σ τ o) := ⟨h, by rw [hv], adK.rf, σ, rfl, agr.rf, C⟩
-- what changes
def fHand (σ : Sg) (x y : Int32) : Sg := su σ 1 (jN x) 4 (jN y)
def fRain (σ : Sg) (x y : Int32) : Sg := su σ 1 (jN x) 5 (jN y)
/-- the class's numbers after a write that its own invariants don't see -/
theorem ICo.cg {σ σ' : Sg} (C : ICo σ) (h0 : σ' 0 = σ 0) (h1 : ∀ b c, c ≠ 4 → c ≠ 5 → σ' 1 b c = σ 1 b c) (h2 : σ' 2 = σ 2) (h7 : σ' 7 = σ 7) (h12 : σ' 12 0 0 = σ 12 0 0) (h10 : σ' 10 = σ 10) (h3 : ∀ b, σ' 3 b 1 = σ 3 b 1) (h4 : ∀ b, σ' 4 b 1 = σ 4 b 1) (h30 : σ' 30 = σ 30) (h31 : σ' 31 = σ 31) (h32 : σ' 32 = σ 32) (h34 : σ' 34 = σ 34) (h37 : σ' 37 = σ 37) : ICo σ' := by
  obtain ⟨c1, c2, c3, c4, c5, c6⟩ := C
  have hw : ∀ (S : Nat → Nat) n, wsm (σ' 2) (σ' 1) S n = wsm (σ 2) (σ 1) S n := by
    intro S n
    induction n with
    | zero => rfl
    | succ n ih => rw [wsm, wsm, ih, h2, h1 n 6 (by decide) (by decide)]
  have hf : ∀ n, fld σ' n = fld σ n := by
    intro n
    induction n with
    | zero => rfl
    | succ n ih => rw [fld, fld, ih, hw, h7, h0]
  refine ⟨?_, ?_, ?_, ?_, ?_, ?_⟩
  · unfold InvL; rw [h0, h34]; exact c1
  · intro b c hb hc
    rw [h0] at hb
    rw [h1 b 6 (by decide) (by decide)] at hc
    rw [h30, h2, h1 b 6 (by decide) (by decide)]
    exact c2 b c hb hc
  · intro b hb; rw [h3, h4]; exact c3 b hb
  · rw [h31, h12, hf]; exact c4
  · intro k hk; rw [h0] at hk; rw [h32]; unfold clm; rw [h10]; exact c5 k hk
  · rw [h37]; exact c6
