/-! THE LINE OF THE CLASS: numbers of StringBuilder -/
def dg (v : Nat) : Nat := if v ≤ 9 then 1 else 2
/-- the digits of v, written from e backwards -/
def gch (σ : Sg) (e v : Nat) : Sg := if v ≤ 9 then su σ 11 0 (e - 1) (48 + v % 10) else su (su σ 11 0 (e - 1) (48 + v % 10)) 11 0 (e - 1 - 1) (48 + v / 10)
theorem su_cm {σ : Sg} {f i j v f' i' j' v' : Nat} (h : ¬ (f = f' ∧ i = i' ∧ j = j')) : su (su σ f i j v) f' i' j' v' = su (su σ f' i' j' v') f i j v := by
  funext a b c
  by_cases q : a = f' ∧ b = i' ∧ c = j'
  · obtain ⟨rfl, rfl, rfl⟩ := q
    rw [su_s, su_n (fun q => h ⟨q.1.symm, q.2.1.symm, q.2.2.symm⟩), su_s]
  · rw [su_n q]
    by_cases q' : a = f ∧ b = i ∧ c = j
    · obtain ⟨rfl, rfl, rfl⟩ := q'
      rw [su_s, su_s]
    · rw [su_n q', su_n q', su_n q]
theorem su_id {σ : Sg} {f i j : Nat} : su σ f i j (σ f i j) = σ := by
  funext a b c
  by_cases q : a = f ∧ b = i ∧ c = j
  · obtain ⟨rfl, rfl, rfl⟩ := q
    rw [su_s]
  · rw [su_n q]
theorem lput_c {σ : Sg} {c : Nat} : su (su σ 12 2 0 (σ 12 2 0 + 1)) 11 0 (σ 12 2 0) c = lput σ c := su_cm (by omega)
theorem lnum_c {σ : Sg} {v : Nat} : su (gch σ (σ 12 2 0 + dg v) v) 12 2 0 (σ 12 2 0 + dg v) = lnum σ v := by
  unfold gch lnum dg
  by_cases h : v ≤ 9
  · rw [if_pos h, if_pos h, if_neg (by omega)]
    rfl
  · rw [if_neg h, if_neg h, if_pos (by omega)]
    show _ = su (su (lput σ (48 + v / 10)) 11 0 (lput σ (48 + v / 10) 12 2 0) (48 + v % 10)) 12 2 0 (lput σ (48 + v / 10) 12 2 0 + 1)
    rw [lput_len]
    unfold lput
    rw [show σ 12 2 0 + 2 - 1 = σ 12 2 0 + 1 by omega, show σ 12 2 0 + 1 - 1 = σ 12 2 0 by omega]
    rw [su_cm (σ := σ) (f := 11) (f' := 11) (by omega)]
    rw [su_cm (σ := su σ 11 0 (σ 12 2 0) (48 + v / 10)) (f := 12) (f' := 11) (by omega), su_su]
theorem sub_le0 {n m : Nat} (hn : n < 2 ^ 30) (hm : m < 2 ^ 30) : nI n - nI m ≤ 0 ↔ n ≤ m := by
  have e : (nI n - nI m).toInt = (n : Int) - m := pk_sub_toInt hn hm
  rw [Int32.le_iff_toInt_le, e, Int32.toInt_zero]
  omega
theorem ng100 : ∀ v, v < 100 → (-100 : Int32) < -(nI v) := by decide +kernel
theorem ng100' : ∀ v, v < 100 → ¬ -(nI v) ≤ nI 10 * (-10 : Int32) := by decide +kernel
theorem ng10 : ∀ v, v < 100 → (-(nI v) ≤ (-10 : Int32) ↔ 9 < v) := by decide +kernel
theorem ng9 : ∀ v, v < 100 → ((-9 : Int32) ≤ -(nI v) ↔ v ≤ 9) := by decide +kernel
theorem ngng : ∀ v, v < 100 → -(-(nI v)) = nI v := by decide +kernel
theorem ic_m {e : Nat} (h : 1 ≤ e) : nI e + Int32.ofInt (-1) = nI (e - 1) := by
  have := pk_sub (a := e) (b := 1) h
  rw [← this]
  rw [Int32.sub_eq_add_neg]
  rfl
theorem and255 : ∀ v, v < 128 → nI v &&& nI 255 = nI v := by decide +kernel
theorem dgO_n {v : Nat} : dgO v = nI (48 + v % 10) := rfl
theorem dgT_n {v : Nat} : dgT v = nI (48 + v / 10) := rfl
theorem dg_le (v : Nat) : dg v ≤ 2 := by unfold dg; split <;> omega
theorem dg_ge (v : Nat) : 1 ≤ dg v := by unfold dg; split <;> omega
theorem dg_1 {v : Nat} (h : v ≤ 9) : dg v = 1 := if_pos h
theorem kL.wr1 {σ : Sg} {v : Nat} : kL σ (su σ 12 2 0 v) := kL.len
theorem kL.wr2 {σ : Sg} {v f : Nat} : ∀ a b c, a = 8 → (su (su σ 37 0 0 f) 12 2 0 v) a b c = σ a b c := fun a b c h => (su_n (by omega)).trans (su_n (by omega))
theorem lput_n {σ : Sg} {c a b d : Nat} (h : a ≠ 11) (h' : a ≠ 12) : lput σ c a b d = σ a b d := (su_n (by omega)).trans (su_n (by omega))
theorem lnum_n {σ : Sg} {v a b d : Nat} (h : a ≠ 11) (h' : a ≠ 12) : lnum σ v a b d = σ a b d := by
  unfold lnum
  split
  · exact (lput_n h h').trans (lput_n h h')
  · exact lput_n h h'
theorem lnum_l {σ : Sg} {v : Nat} : lnum σ v 12 2 0 = σ 12 2 0 + dg v := by
  rw [lnum_len]
  unfold dg
  by_cases h : v ≤ 9
  · rw [if_pos h, if_neg (by omega)]
  · rw [if_neg h, if_pos (by omega)]
theorem isF_0 : isF 0 = 60 := rfl
theorem isF_1 {b : Nat} (h : ¬ b = 0) : isF b = 62 := if_neg h
/-- the class's own numbers after a line is written -/
theorem ICo.ln {σ σ' : Sg} (C : ICo σ) (h : kL (su σ 37 0 0 (σ' 37 0 0)) σ') (hf : σ' 37 0 0 ≤ 1) : ICo σ' := by
  have hh : ∀ f, f ≠ 11 → f ≠ 12 → f ≠ 37 → σ' f = σ f := fun f a b c => (h.fn a b).trans (by funext i j; exact su_n (by omega))
  obtain ⟨c1, c2, c3, c4, c5, c6⟩ := C
  have e12 : σ' 12 0 0 = σ 12 0 0 := (h 12 0 0 (by omega)).trans (su_n (by omega))
  refine ⟨?_, ?_, ?_, ?_, ?_, hf⟩
  · unfold InvL at *; rw [hh 0 (by decide) (by decide) (by decide), hh 34 (by decide) (by decide) (by decide)]; exact c1
  · unfold InvD at *; rw [hh 0 (by decide) (by decide) (by decide), hh 1 (by decide) (by decide) (by decide), hh 2 (by decide) (by decide) (by decide), hh 30 (by decide) (by decide) (by decide)]; exact c2
  · rw [hh 3 (by decide) (by decide) (by decide), hh 4 (by decide) (by decide) (by decide)]; exact c3
  · rw [hh 31 (by decide) (by decide) (by decide), e12, c4]
    exact (fld_cg (by rw [hh 0 (by decide) (by decide) (by decide)]) (fun b => by rw [hh 1 (by decide) (by decide) (by decide)]) (hh 2 (by decide) (by decide) (by decide)) (hh 7 (by decide) (by decide) (by decide)) _).symm
  · intro k hk
    rw [hh 0 (by decide) (by decide) (by decide)] at hk
    rw [hh 32 (by decide) (by decide) (by decide)]
    unfold clm
    rw [hh 10 (by decide) (by decide) (by decide)]
    exact c5 k hk
