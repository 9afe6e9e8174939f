/-! PURE 6: the calls: codes, answers, what changes; invariants -/
def cB (σ : Sg) (x : Int32) : Nat := if in0 x (σ 0 0 0) then 0 else 1
def cC (σ : Sg) (x y : Int32) : Nat := if in0 x (σ 0 0 0) ∧ in0 y (σ 1 (jN x) 6) then 0 else 1
def cK (σ : Sg) (x : Int32) : Nat := if in0 x (σ 0 2 0) then 0 else 1
def cR (σ : Sg) (x : Int32) : Nat := if in0 x (σ 0 1 0) then 0 else 1
def cL (σ : Sg) (x : Int32) : Nat := if in0 x (σ 12 2 0) then 0 else 1
def cBx (σ : Sg) (m : Nat) (x y : Int32) : Nat := if in0 x (σ 0 0 0) then (if inR y 0 m then 0 else 2) else 1
def cCh (σ : Sg) (x y h : Int32) : Nat := if in0 x (σ 0 0 0) ∧ in0 y (σ 1 (jN x) 6) then (if inR h 1 (σ 12 0 0) then 0 else 2) else 1
def cKh (σ : Sg) (x h : Int32) : Nat := if in0 x (σ 0 2 0) then (if inR h 1 (σ 12 0 0) then 0 else 2) else 1
def cAC (σ : Sg) (x h : Int32) : Nat := if in0 x (σ 0 0 0) then (if inR h 0 30 then (if σ 1 (jN x) 6 < 8 ∧ σ 12 0 0 = 0 then 0 else 3) else 2) else 1
/-- below is right for a new basin -/
abbrev blw (σ : Sg) (b : Int32) : Prop := if σ 0 0 0 = 0 then b = bw 0 else in0 b (σ 0 0 0)
def cAB (σ : Sg) (a d w b h : Int32) : Nat := if blw σ b then (if (inR a 1 50 ∧ inR d 1 40 ∧ inR w 0 20) ∧ inR h 0 30 then (if σ 0 0 0 < 6 ∧ σ 12 0 0 = 0 then 0 else 3) else 2) else 1
def cAR (σ : Sg) (x y l p : Int32) : Nat := if in0 x (σ 0 0 0) ∧ in0 y (σ 0 0 0) then (if inR l 0 40 ∧ inR p 0 10 then (if σ 0 1 0 < 12 then 0 else 3) else 2) else 1
def cAH (σ : Sg) (x y r c : Int32) : Nat := if in0 x (σ 0 0 0) ∧ in0 y (σ 1 (jN x) 6) then (if inR r 1 100 ∧ inR c 0 5000 then (if σ 0 2 0 < 10 then 0 else 3) else 2) else 1
def cP (σ : Sg) (x : Int32) : Nat := if inR x 1 24 then (if σ 0 0 0 ≠ 0 ∧ σ 12 0 0 + jN x ≤ 60 then 0 else 2) else 1
def dpC (σ : Sg) (b c v : Nat) : Nat := dpt (σ 2 b) (σ 1 b 6) c v
def cCl (σ : Sg) (x h : Int32) : Nat := if in0 x (σ 0 2 0) then (if inR h 1 (σ 12 0 0) then (if 0 < dpC σ (σ 9 (jN x) 0) (σ 9 (jN x) 1) (σ 7 (σ 9 (jN x) 0) (jN h)) then (if σ 10 (jN x) (jN h) = 0 then 0 else 4) else 3) else 2) else 1
def cCW (σ : Sg) (x : Int32) : Nat := if in0 x (σ 0 2 0) then (if wsh σ (jN x) (σ 12 0 0) ≠ 0 then 0 else 2) else 1
/-- hours among the first n at whose end the cell was wet -/
def whr (σ : Sg) (b c : Nat) : Nat → Nat
  | 0 => 0
  | n + 1 => whr σ b c n + if 0 < dpC σ b c (σ 7 b (n + 1)) then 1 else 0
theorem whr_le (σ : Sg) (b c : Nat) : ∀ n, whr σ b c n ≤ n
  | 0 => Nat.le_refl 0
  | n + 1 => by have := whr_le σ b c n; rw [whr]; split <;> omega
/-- wet cells of the first n hours -/
def fld (σ : Sg) : Nat → Nat
  | 0 => 0
  | n + 1 => fld σ n + wsm (σ 2) (σ 1) (fun b => σ 7 b (n + 1)) (σ 0 0 0)
/-- claimed hours of a house -/
def clm (σ : Sg) (k : Nat) : Nat := sumT (fun h => σ 10 k (h + 1)) 60
def clT (σ : Sg) : Nat := sumT (fun k => clm σ k) (σ 0 2 0)
def pdT (σ : Sg) : Nat := sumT (fun k => σ 9 k 4) (σ 0 2 0)
/-- the best opening of the first n + 1, and its flooded cells -/
def bsp (σ : Sg) (b : Nat) : Nat → Nat × Nat
  | 0 => (0, trW σ (b + 1) 0 (σ 12 0 0))
  | n + 1 => if trW σ (b + 1) (n + 1) (σ 12 0 0) < (bsp σ b n).2 then (n + 1, trW σ (b + 1) (n + 1) (σ 12 0 0)) else bsp σ b n
/-- n hours pass -/
def hrs (σ : Sg) : Nat → Sg
  | 0 => σ
  | n + 1 => hour (hrs σ n)
-- invariants of what class and model share
def InvZ (σ : Sg) : Prop := (∀ b, σ 0 0 0 ≤ b → (σ 1 b 4 = 0 ∧ σ 1 b 5 = 0) ∧ (∀ h, σ 5 b h = 0 ∧ σ 7 b h = 0) ∧ ∀ c, σ 2 b c = 0) ∧ ∀ k, σ 0 2 0 ≤ k → σ 9 k 4 = 0 ∧ ∀ h, σ 10 k h = 0
def InvV (σ : Sg) : Prop := (∀ b, σ 3 b 0 ≤ 2000 ∧ σ 4 b 0 ≤ 4000 * σ 12 0 0) ∧ ∀ b, σ 0 0 0 ≤ b → σ 3 b 0 = 0 ∧ σ 4 b 0 = 0
def IR (σ : Sg) : Prop := InvB σ ∧ InvV σ ∧ InvZ σ
/-- the class alone -/
def ICo (σ : Sg) : Prop := InvL σ ∧ InvD σ ∧ (∀ b, 6 ≤ b → σ 3 b 1 = 0 ∧ σ 4 b 1 = 0) ∧ σ 31 0 0 = fld σ (σ 12 0 0) ∧ (∀ k, k < σ 0 2 0 → σ 32 k 0 = clm σ k) ∧ σ 37 0 0 ≤ 1
/-- the model alone -/
def IMo (σ : Sg) : Prop := σ 71 0 0 = clT σ ∧ (σ 73 0 0 = 0 ∧ σ 74 0 0 ≤ 10) ∧ ∀ b, σ 0 0 0 ≤ b → σ 3 b 2 = 0 ∧ σ 4 b 2 = 0
theorem sumT_le {f : Nat → Nat} {m : Nat} : ∀ {n : Nat}, (∀ k, k < n → f k ≤ m) → sumT f n ≤ m * n
  | 0, _ => Nat.zero_le _
  | n + 1, h => by
    have h1 := sumT_le (f := f) (m := m) (n := n) (fun k hk => h k (by omega))
    have h2 := h n (by omega)
    rw [sumT, Nat.mul_succ]
    omega
theorem sumT_congr {f g : Nat → Nat} : ∀ {n : Nat}, (∀ k, k < n → f k = g k) → sumT f n = sumT g n
  | 0, _ => rfl
  | n + 1, h => by rw [sumT, sumT, sumT_congr (fun k hk => h k (by omega)), h n (by omega)]
theorem sumT_up {f g : Nat → Nat} {j d : Nat} : ∀ {n : Nat}, j < n → (∀ k, k < n → k ≠ j → g k = f k) → g j = f j + d → sumT g n = sumT f n + d
  | 0, h, _, _ => absurd h (Nat.not_lt_zero _)
  | n + 1, h, h1, h2 => by
    rw [sumT, sumT]
    rcases Nat.lt_or_ge j n with q | q
    · rw [sumT_up q (fun k hk hk2 => h1 k (by omega) hk2) h2, h1 n (by omega) (by omega)]
      omega
    · have e : j = n := by omega
      subst e
      rw [sumT_congr (f := g) (g := f) (fun k hk => h1 k (by omega) (by omega)), h2]
      omega
theorem clm_le {σ : Sg} (I : InvB σ) {k : Nat} (hk : k < σ 0 2 0) : clm σ k ≤ 60 := by
  have := sumT_le (f := fun h => σ 10 k (h + 1)) (m := 1) (n := 60) (fun h _ => (I.2.2.2 k hk).2 (h + 1))
  unfold clm
  omega
theorem clT_le {σ : Sg} (I : InvB σ) : clT σ ≤ 600 := by
  have h1 := sumT_le (f := fun k => clm σ k) (m := 60) (n := σ 0 2 0) (fun k hk => clm_le I hk)
  have h2 := I.1.2.2.1
  unfold clT
  omega
theorem pdT_le {σ : Sg} (I : InvB σ) {n : Nat} (hn : n ≤ σ 0 2 0) : sumT (fun k => σ 9 k 4) n ≤ 50000 := by
  have h1 := sumT_le (f := fun k => σ 9 k 4) (m := 5000) (n := n) (fun k hk => by obtain ⟨⟨-, -, -, a, b⟩, -⟩ := I.2.2.2 k (by omega); show σ 9 k 4 ≤ 5000; omega)
  have h2 := I.1.2.2.1
  omega
/-- numbers of a long -/
def nJ (a : Nat) : Int64 := Int64.ofNat a
theorem nJ_add (a b : Nat) : nJ a + nJ b = nJ (a + b) := (Int64.ofNat_add a b).symm
theorem nJ_i2l {a : Nat} (h : a < 2 ^ 31) : (nI a).toInt64 = nJ a := by
  apply Int64.toInt_inj.mp
  rw [Int32.toInt_toInt64, nI_toInt h]
  unfold nJ
  rw [Int64.toInt_ofNat_of_lt (by omega)]
theorem nJ_inj {a b : Nat} (ha : a < 2 ^ 63) (hb : b < 2 ^ 63) : nJ a = nJ b ↔ a = b := by
  refine ⟨fun h => ?_, fun h => h ▸ rfl⟩
  have e := congrArg Int64.toInt h
  unfold nJ at e
  rw [Int64.toInt_ofNat_of_lt ha, Int64.toInt_ofNat_of_lt hb] at e
  omega
/-- names that stay -/
def adK (ad ad' : Nm) : Prop := ad' 0 0 = ad 0 0 ∧ ad' 20 0 = ad 20 0 ∧ ad' 19 0 = ad 19 0 ∧ ad' 19 1 = ad 19 1
theorem adK.rf {ad : Nm} : adK ad ad := ⟨rfl, rfl, rfl, rfl⟩
theorem adK.tr {a b c : Nm} (h : adK a b) (h' : adK b c) : adK a c := ⟨h'.1.trans h.1, h'.2.1.trans h.2.1, h'.2.2.1.trans h.2.2.1, h'.2.2.2.trans h.2.2.2⟩
/-- a call of the class: its code is 0, it answers v, the shared numbers become F -/
def okC (z : Zx) (ad : Nm) (τ : Sg) (o : Int64 × UInt64) (cd : Nat) (v : Value) (F : Sg) : OkT := fun v' ad' μ' => cd = 0 ∧ v' = some v ∧ adK ad ad' ∧ ∃ σ', μ' = Wz z ad' σ' τ o ∧ agr σ' F ∧ ICo σ'
theorem okC_rd {z : Zx} {ad : Nm} {σ τ : Sg} {o : Int64 × UInt64} {cd : Nat} {v v' : Value} (C : ICo σ) (h : cd = 0) (hv : v' = v) : okC z ad τ o cd v σ (some v') ad (Wz z ad σ τ o) := ⟨h, by rw [hv], adK.rf, σ, rfl, agr.rf, C⟩
-- what changes
def fHand (σ : Sg) (x y : Int32) : Sg := su σ 1 (jN x) 4 (jN y)
def fRain (σ : Sg) (x y : Int32) : Sg := su σ 1 (jN x) 5 (jN y)
theorem wsm_cg {hei ba ba' : Nat → Nat → Nat} {S : Nat → Nat} (h : ∀ b, ba' b 6 = ba b 6) : ∀ n, wsm hei ba' S n = wsm hei ba S n
  | 0 => rfl
  | n + 1 => by rw [wsm, wsm, wsm_cg h n, h n]
theorem fld_cg {σ σ' : Sg} (h0 : σ' 0 0 0 = σ 0 0 0) (h1 : ∀ b, σ' 1 b 6 = σ 1 b 6) (h2 : σ' 2 = σ 2) (h7 : σ' 7 = σ 7) : ∀ n, fld σ' n = fld σ n
  | 0 => rfl
  | n + 1 => by rw [fld, fld, fld_cg h0 h1 h2 h7 n, h2, h7, h0, wsm_cg h1]
/-- the class's numbers after a write that its own invariants don't see -/
theorem ICo.cg {σ σ' : Sg} (C : ICo σ) (h0 : σ' 0 = σ 0) (h1 : ∀ b c, c ≠ 4 → c ≠ 5 → σ' 1 b c = σ 1 b c) (h2 : σ' 2 = σ 2) (h7 : σ' 7 = σ 7) (h12 : σ' 12 0 0 = σ 12 0 0) (h10 : σ' 10 = σ 10) (h3 : ∀ b, σ' 3 b 1 = σ 3 b 1) (h4 : ∀ b, σ' 4 b 1 = σ 4 b 1) (h30 : σ' 30 = σ 30) (h31 : σ' 31 = σ 31) (h32 : σ' 32 = σ 32) (h34 : σ' 34 = σ 34) (h37 : σ' 37 = σ 37) : ICo σ' := by
  obtain ⟨c1, c2, c3, c4, c5, c6⟩ := C
  have hf := fld_cg (σ := σ) (σ' := σ') (by rw [h0]) (fun b => h1 b 6 (by decide) (by decide)) h2 h7
  refine ⟨?_, ?_, ?_, ?_, ?_, ?_⟩
  · unfold InvL; rw [h0, h34]; exact c1
  · intro b c hb hc
    rw [h0] at hb
    rw [h1 b 6 (by decide) (by decide)] at hc
    rw [h30, h2, h1 b 6 (by decide) (by decide)]
    exact c2 b c hb hc
  · intro b hb; rw [h3, h4]; exact c3 b hb
  · rw [h31, h12, hf]; exact c4
  · intro k hk; rw [h0] at hk; rw [h32]; unfold clm; rw [h10]; exact c5 k hk
  · rw [h37]; exact c6
theorem pI_cg {c d : Prop} [Decidable c] [Decidable d] (h : c ↔ d) : pI c = pI d := by
  by_cases q : c
  · rw [pI, pI, if_pos q, if_pos (h.mp q)]
  · rw [pI, pI, if_neg q, if_neg (fun z => q (h.mpr z))]
theorem wetB {σ : Sg} (I : InvB σ) (D : InvD σ) {b c v : Nat} (hb : b < σ 0 0 0) (hc : c < σ 1 b 6) : 0 < dpC σ b c v ↔ σ 30 b c < v := by
  rw [D b c hb hc]
  exact wet_iff (I.2.1 b hb).2.2.2.1 hc
theorem wetH {σ : Sg} (I : InvB σ) (D : InvD σ) {k v : Nat} (hk : k < σ 0 2 0) : 0 < dpC σ (σ 9 k 0) (σ 9 k 1) v ↔ σ 30 (σ 9 k 0) (σ 9 k 1) < v := by
  obtain ⟨a1, a2, a3, -⟩ := I.house hk
  exact wetB I D a1 a3
theorem whr_t {σ : Sg} {b c n : Nat} (h : 0 < dpC σ b c (σ 7 b (n + 1))) : whr σ b c (n + 1) = whr σ b c n + 1 := by rw [whr, if_pos h]
theorem whr_f {σ : Sg} {b c n : Nat} (h : ¬ 0 < dpC σ b c (σ 7 b (n + 1))) : whr σ b c (n + 1) = whr σ b c n := by rw [whr, if_neg h]; rfl
/-- a house is paid: what class and model share -/
def fPay (σ : Sg) (k h : Nat) : Sg := su (su σ 10 k h 1) 9 k 4 (σ 9 k 4 + pmt σ k h)
theorem clm_pay {σ σ' : Sg} {k h : Nat} (h1 : 1 ≤ h) (h2 : h ≤ 60) (hz : σ 10 k h = 0) (he : ∀ t, σ' 10 k t = if t = h then 1 else σ 10 k t) : clm σ' k = clm σ k + 1 := by
  unfold clm
  refine sumT_up (j := h - 1) (by omega) (fun t _ ht => ?_) ?_
  · rw [he, if_neg (by omega)]
  · rw [he, if_pos (by omega), show h - 1 + 1 = h by omega, hz]
theorem clm_oth {σ σ' : Sg} {k : Nat} (he : ∀ t, σ' 10 k t = σ 10 k t) : clm σ' k = clm σ k := by
  unfold clm
  exact sumT_congr fun t _ => he (t + 1)
theorem ICo.pay {σ : Sg} (C : ICo σ) {k h : Nat} (h1 : 1 ≤ h) (h2 : h ≤ 60) (hz : σ 10 k h = 0) : ICo (payC σ k h) := by
  obtain ⟨c1, c2, c3, c4, c5, c6⟩ := C
  refine ⟨c1, c2, c3, c4.trans (fld_cg (σ := σ) (σ' := payC σ k h) rfl (fun _ => rfl) rfl rfl _).symm, fun m hm => ?_, c6⟩
  have e10 : ∀ m t, payC σ k h 10 m t = if m = k ∧ t = h then 1 else σ 10 m t := by
    intro m t
    unfold payC
    rw [su_n (by omega), su_n (by omega)]
    by_cases q : m = k ∧ t = h
    · rw [q.1, q.2, su_s, if_pos ⟨rfl, rfl⟩]
    · rw [su_n (by omega), if_neg q]
  by_cases q : m = k
  · subst q
    rw [clm_pay h1 h2 hz (fun t => by rw [e10]; by_cases e : t = h <;> simp [e]), ← c5 m hm]
    unfold payC
    rw [su_n (by omega), su_s]
  · rw [clm_oth (σ := σ) (fun t => by rw [e10, if_neg (fun z => q z.1)]), ← c5 m hm]
    unfold payC
    rw [su_n (by omega), su_n (by omega), su_n (by omega)]
theorem pay_agr {σ : Sg} {k h : Nat} : agr (payC σ k h) (fPay σ k h) := (agr.sx agr.rf (by decide)).put
theorem wsh_un {σ : Sg} {k : Nat} : ∀ n, wsh σ k n ≠ 0 → 0 < wou σ k (wsh σ k n) ∧ 1 ≤ wsh σ k n
  | 0, h => absurd rfl h
  | n + 1, h => by
    rw [wsh] at h ⊢
    by_cases q : wgr σ k n < wou σ k (n + 1)
    · rw [if_pos q]; exact ⟨by omega, by omega⟩
    · rw [if_neg q] at h ⊢; exact wsh_un n h
theorem wsh_0 {σ : Sg} {k n : Nat} (h : wsh σ k n ≠ 0) : σ 10 k (wsh σ k n) = 0 := by
  have h1 := (wsh_un n h).1
  unfold wou at h1
  by_cases q : σ 10 k (wsh σ k n) = 0
  · exact q
  · rw [if_neg q] at h1; omega
/-- a cell: what class and model share -/
def fCell (σ : Sg) (x y : Int32) : Sg := su (su σ 1 (jN x) 6 (σ 1 (jN x) 6 + 1)) 2 (jN x) (σ 1 (jN x) 6) (jN y)
theorem agr.cell {σ : Sg} {b h : Nat} : agr (acell σ b h) (su (su σ 1 b 6 (σ 1 b 6 + 1)) 2 b (σ 1 b 6) h) := by
  intro f i j hf hj
  unfold acell
  rw [sp_f (by omega), su_sp1 (f := 2)]
  have e : su σ 1 b 6 (σ 1 b 6 + 1) 2 b = σ 2 b := by funext c; exact su_n (by omega)
  rw [e]
theorem ICo.cell {σ : Sg} (C : ICo σ) {b h : Nat} (hc : σ 12 0 0 = 0) : ICo (acell σ b h) := by
  obtain ⟨c1, c2, c3, c4, c5, c6⟩ := C
  refine ⟨c1, ?_, c3, ?_, c5, c6⟩
  · intro b' c hb hcl
    have e6 : acell σ b h 1 b 6 = σ 1 b 6 + 1 := by unfold acell; rw [sp_f (by decide), sp_f (by decide), su_s]
    have e2 : acell σ b h 2 b = up1 (σ 2 b) (σ 1 b 6) h := by unfold acell; rw [sp_f (by decide), sp_s]
    have e30 : acell σ b h 30 b = drs (dryF (up1 (σ 2 b) (σ 1 b 6) h) (σ 1 b 6 + 1)) (σ 1 b 6 + 1) (σ 30 b) := by unfold acell; rw [sp_s]
    by_cases q : b' = b
    · subst q
      rw [e6] at hcl
      rw [e30, e2, e6]
      exact if_pos hcl
    · have g6 : acell σ b h 1 b' 6 = σ 1 b' 6 := by unfold acell; rw [sp_f (by decide), sp_f (by decide), su_n (by omega)]
      have g2 : acell σ b h 2 b' = σ 2 b' := by unfold acell; rw [sp_f (by decide), sp_n (by omega)]; funext c; exact su_n (by omega)
      have g30 : acell σ b h 30 b' = σ 30 b' := by unfold acell; rw [sp_n (by omega), sp_f (by decide)]; funext c; exact su_n (by omega)
      rw [g6] at hcl
      rw [g30, g2, g6]
      exact c2 b' c hb hcl
  · show σ 31 0 0 = fld (acell σ b h) (σ 12 0 0)
    rw [c4, hc]; rfl
/-- trial rows and poured rows are the class's own -/
theorem agr.tri {σ : Sg} {V S O : Nat → Nat} {r : Nat} : agr (sw σ 1 V S r O) σ := by
  intro f i j hf hj
  unfold sw
  rw [if_neg (fun q => by have := hj (by omega); omega), if_neg (fun q => by have := hj (by omega); omega), if_neg (fun q => by have := hj (by omega); omega), if_neg (fun q => by omega)]
theorem ICo.tri {σ : Sg} (C : ICo σ) {V S O : Nat → Nat} {r : Nat} (hz : ∀ b, 6 ≤ b → V b = 0 ∧ S b = 0) : ICo (sw σ 1 V S r O) := by
  obtain ⟨c1, c2, c3, c4, c5, c6⟩ := C
  exact ⟨c1, c2, fun b hb => by rw [sw_3, sw_4]; exact hz b hb, c4.trans (fld_cg (σ := σ) (σ' := sw σ 1 V S r O) rfl (fun _ => rfl) rfl rfl _).symm, c5, c6⟩
theorem agr.prd {σ : Sg} {b : Nat} {p : Nat → Nat} : agr (sp σ 35 b p) σ := by
  intro f i j hf hj
  exact if_neg (fun q => by omega)
theorem ICo.prd {σ : Sg} (C : ICo σ) {b : Nat} {p : Nat → Nat} : ICo (sp σ 35 b p) := by
  obtain ⟨c1, c2, c3, c4, c5, c6⟩ := C
  exact ⟨c1, c2, c3, c4.trans (fld_cg (σ := σ) (σ' := sp σ 35 b p) rfl (fun _ => rfl) rfl rfl _).symm, c5, c6⟩
theorem trP_cg {σ σ' : Sg} {fx fo : Nat} (h0 : σ' 0 = σ 0) (h1 : σ' 1 = σ 1) (h5 : σ' 5 = σ 5) (h8 : σ' 8 = σ 8) : ∀ n, trP σ' fx fo n = trP σ fx fo n
  | 0 => rfl
  | n + 1 => by
    have e1 : mvV σ' fx fo (n + 1) = mvV σ fx fo (n + 1) := by unfold mvV mvG mvO mvR; rw [h0, h1, h5, h8]
    have e2 : mvS σ' fx fo (n + 1) = mvS σ fx fo (n + 1) := by unfold mvS mvG mvO mvR; rw [h0, h1, h5, h8]
    rw [trP, trP, trP_cg h0 h1 h5 h8 n, e1, e2]
theorem trW_cg {σ σ' : Sg} {fx fo : Nat} (h0 : σ' 0 = σ 0) (h1 : σ' 1 = σ 1) (h2 : σ' 2 = σ 2) (h5 : σ' 5 = σ 5) (h8 : σ' 8 = σ 8) : ∀ n, trW σ' fx fo n = trW σ fx fo n
  | 0 => rfl
  | n + 1 => by rw [trW, trW, trW_cg h0 h1 h2 h5 h8 n, trP_cg h0 h1 h5 h8, h0, h1, h2]
theorem trW_tri {σ : Sg} {V S O : Nat → Nat} {r fx fo : Nat} (n : Nat) : trW (sw σ 1 V S r O) fx fo n = trW σ fx fo n := trW_cg (σ := σ) (σ' := sw σ 1 V S r O) rfl rfl rfl rfl rfl n
def cM (σ : Sg) : Nat := if clT σ ≠ 0 then 0 else 1
theorem bsp_le {σ : Sg} (I : InvB σ) (b : Nat) : ∀ n, (bsp σ b n).1 ≤ n ∧ (bsp σ b n).2 ≤ 2880
  | 0 => ⟨Nat.le_refl 0, by have := trW_le (fx := b + 1) (fo := 0) I (σ 12 0 0); have := I.1.2.2.2.1; show trW σ (b + 1) 0 (σ 12 0 0) ≤ _; omega⟩
  | n + 1 => by
    have ih := bsp_le I b n
    have := trW_le (fx := b + 1) (fo := n + 1) I (σ 12 0 0)
    have := I.1.2.2.2.1
    rw [bsp]
    split
    · exact ⟨Nat.le_refl _, by show trW σ (b + 1) (n + 1) (σ 12 0 0) ≤ _; omega⟩
    · exact ⟨by omega, ih.2⟩
