/-! THE LINE: a character put at its end, a number, a rule -/
def lput (σ : Sg) (c : Nat) : Sg := su (su σ 11 0 (σ 12 2 0) c) 12 2 0 (σ 12 2 0 + 1)
def lnum (σ : Sg) (v : Nat) : Sg := lput (if 10 ≤ v then lput σ (48 + v / 10) else σ) (48 + v % 10)
def isF (b : Nat) : Nat := if b = 0 then 60 else 62
/-- what is no part of the line -/
def kL (σ σ' : Sg) : Prop := ∀ f i j, ¬ (f = 11 ∨ (f = 12 ∧ i = 2)) → σ' f i j = σ f i j
theorem kL.rf {σ : Sg} : kL σ σ := fun _ _ _ _ => rfl
theorem kL.tr {a b c : Sg} (h : kL a b) (h' : kL b c) : kL a c := fun f i j q => (h' f i j q).trans (h f i j q)
theorem kL.put {σ : Sg} {c : Nat} : kL σ (lput σ c) := fun f i j q => (su_n (by omega)).trans (su_n (by omega))
theorem kL.num {σ : Sg} {v : Nat} : kL σ (lnum σ v) := by
  unfold lnum
  split
  · exact kL.put.tr kL.put
  · exact kL.put
theorem kL.len {σ : Sg} {v : Nat} : kL σ (su σ 12 2 0 v) := fun f i j q => su_n (by omega)
theorem lput_len {σ : Sg} {c : Nat} : lput σ c 12 2 0 = σ 12 2 0 + 1 := rfl
theorem lnum_len {σ : Sg} {v : Nat} : lnum σ v 12 2 0 = σ 12 2 0 + (if 10 ≤ v then 2 else 1) := by
  unfold lnum
  split <;> rfl
/-- at most n characters, all of them plain -/
def LnO (σ : Sg) (n : Nat) : Prop := σ 12 2 0 ≤ n ∧ ∀ j, j < σ 12 2 0 → σ 11 0 j < 128
theorem LnO.put {σ : Sg} {n c : Nat} (h : LnO σ n) (hc : c < 128) : LnO (lput σ c) (n + 1) := by
  refine ⟨by rw [lput_len]; have := h.1; omega, fun j hj => ?_⟩
  rw [lput_len] at hj
  unfold lput
  rw [su_n (by omega)]
  by_cases e : j = σ 12 2 0
  · rw [e, su_s]; exact hc
  · rw [su_n (by omega)]; exact h.2 j (by omega)
theorem LnO.num {σ : Sg} {n v : Nat} (h : LnO σ n) (hv : v ≤ 99) : LnO (lnum σ v) (n + (if 10 ≤ v then 2 else 1)) := by
  unfold lnum
  split
  · exact (h.put (by omega)).put (by omega)
  · exact h.put (by omega)
theorem LnO.le {σ : Sg} {n m : Nat} (h : LnO σ n) (q : n ≤ m) : LnO σ m := ⟨Nat.le_trans h.1 q, h.2⟩
theorem agr_lput0 {σ σ' : Sg} (h : agr σ σ') {c : Nat} : agr (lput σ c) (lput σ' c) := by
  unfold lput
  rw [h 12 2 0 (by decide) (fun q => by omega)]
  exact h.put.put
theorem agr.lput {σ σ' : Sg} (h : agr σ σ') {c : Nat} : agr (lput σ c) (lput σ' c) := agr_lput0 h
theorem agr_lnum0 {σ σ' : Sg} (h : agr σ σ') {v : Nat} : agr (lnum σ v) (lnum σ' v) := by
  unfold lnum
  split
  · exact h.lput.lput
  · exact h.lput
theorem agr.lnum {σ σ' : Sg} (h : agr σ σ') {v : Nat} : agr (lnum σ v) (lnum σ' v) := agr_lnum0 h
/-- the rule with these numbers is written -/
def wrl (σ : Sg) (a b c d e : Nat) : Sg := lnum (lput (lnum (lput (lnum (lput (lnum (su σ 12 2 0 0) a) 58) b) (isF c)) d) 61) e
theorem agr.wrl {σ σ' : Sg} (h : agr σ σ') {a b c d e : Nat} : agr (wrl σ a b c d e) (wrl σ' a b c d e) := h.put.lnum.lput.lnum.lput.lnum.lput.lnum
theorem kL.wrl {σ : Sg} {a b c d e : Nat} : kL σ (wrl σ a b c d e) := ((((((kL.len.tr kL.num).tr kL.put).tr kL.num).tr kL.put).tr kL.num).tr kL.put).tr kL.num
theorem isF_le {c : Nat} : isF c < 128 := by unfold isF; split <;> omega
theorem LnO.wrl {σ : Sg} {a b c d e : Nat} (ha : a ≤ 9) (hb : b ≤ 9) (hd : d ≤ 99) (he : e ≤ 99) : LnO (wrl σ a b c d e) 9 := by
  have h0 : LnO (su σ 12 2 0 0) 0 := ⟨Nat.le_refl _, fun j hj => absurd hj (Nat.not_lt_zero j)⟩
  have h1 := (((((((h0.num (v := a) (by omega)).put (c := 58) (by decide)).num (v := b) (by omega)).put (c := isF c) isF_le).num (v := d) hd).put (c := 61) (by decide)).num (v := e) he)
  exact h1.le (by rw [if_neg (by omega), if_neg (by omega)]; split <;> split <;> omega)
theorem kL.fn {σ σ' : Sg} (h : kL σ σ') {f : Nat} (h1 : f ≠ 11) (h2 : f ≠ 12) : σ' f = σ f := by funext i j; exact h f i j (by omega)
theorem IR.ln {σ σ' : Sg} (Q : IR σ) (h : kL σ σ') (hL : LnO σ' 9) : IR σ' := by
  have e12 : ∀ j, σ' 12 0 j = σ 12 0 j := fun j => h 12 0 j (by omega)
  obtain ⟨⟨⟨i1, i2, i3, i4, i5⟩, iB⟩, iV, iZ⟩ := Q
  unfold IR InvB InvV InvZ at *
  simp only [h.fn (f := 0) (by decide) (by decide), h.fn (f := 1) (by decide) (by decide), h.fn (f := 2) (by decide) (by decide), h.fn (f := 3) (by decide) (by decide), h.fn (f := 4) (by decide) (by decide), h.fn (f := 5) (by decide) (by decide), h.fn (f := 7) (by decide) (by decide), h.fn (f := 8) (by decide) (by decide), h.fn (f := 9) (by decide) (by decide), h.fn (f := 10) (by decide) (by decide), e12]
  exact ⟨⟨⟨i1, i2, i3, i4, hL⟩, iB⟩, iV, iZ⟩
theorem IMo.ln {σ σ' : Sg} (M : IMo σ) (h : kL σ σ') : IMo σ' := by
  unfold IMo clT clm at *
  simp only [h.fn (f := 0) (by decide) (by decide), h.fn (f := 3) (by decide) (by decide), h.fn (f := 4) (by decide) (by decide), h.fn (f := 10) (by decide) (by decide), h.fn (f := 71) (by decide) (by decide), h.fn (f := 73) (by decide) (by decide), h.fn (f := 74) (by decide) (by decide)]
  exact M
theorem i2cN {n : Nat} (h : n < 65536) : ((nI n).toUInt32 % 65536).toInt32 = nI n := by
  have e := pk_char (nI n)
  rw [pk_tn (by omega), Nat.mod_eq_of_lt h] at e
  exact e
theorem wrl_len {τ : Sg} {n a b c d e : Nat} : wrl (su τ 72 0 0 n) a b c d e 12 2 0 = wrl τ a b c d e 12 2 0 := (agr.wrl (σ := su τ 72 0 0 n) (σ' := τ) (agr.rf.sx (by decide))) 12 2 0 (by decide) (fun q => by omega)
theorem crN {n : Nat} (h : n < 65536) : narrow .char (.int (nI n)) = .int (nI n) := congrArg Value.int (by rw [← vp_nar_char]; exact cn h)
-- a rule, a house
def fRule (σ : Sg) (x y : Int32) (fr : Nat) (l p : Int32) : Sg := su (su (su (su (su (su σ 8 (σ 0 1 0) 0 (jN x)) 8 (σ 0 1 0) 1 (jN y)) 8 (σ 0 1 0) 2 fr) 8 (σ 0 1 0) 3 (jN l)) 8 (σ 0 1 0) 4 (jN p)) 0 1 0 (σ 0 1 0 + 1)
def fHouse (σ : Sg) (x y r c : Int32) : Sg := su (su (su (su (su σ 9 (σ 0 2 0) 0 (jN x)) 9 (σ 0 2 0) 1 (jN y)) 9 (σ 0 2 0) 2 (jN r)) 9 (σ 0 2 0) 3 (jN c)) 0 2 0 (σ 0 2 0 + 1)
theorem clm_0 {σ : Sg} {k : Nat} (h : ∀ t, σ 10 k t = 0) : clm σ k = 0 := by
  have := sumT_le (f := fun t => σ 10 k (t + 1)) (m := 0) (n := 60) (fun t _ => by rw [h]; exact Nat.le_refl 0)
  unfold clm
  omega
theorem clT_1 {σ σ' : Sg} (h : ∀ t, σ 10 (σ 0 2 0) t = 0) (h10 : σ' 10 = σ 10) (h0 : σ' 0 2 0 = σ 0 2 0 + 1) : clT σ' = clT σ := by
  unfold clT
  rw [h0, sumT, sumT_congr (g := fun k => clm σ k) (fun k _ => by unfold clm; rw [h10]), show clm σ' (σ 0 2 0) = 0 from clm_0 (fun t => by rw [h10]; exact h t)]
  rfl
