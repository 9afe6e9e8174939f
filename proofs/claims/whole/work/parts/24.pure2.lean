/-! PURE 2: pouring, adding a cell -/
/-- what is poured: v units over n cells -/
def prd (hs : Nat → Nat) (n : Nat) (p : Nat → Nat) (v : Nat) : Nat → Nat := fun c => if c < n then dpt hs n c v else if c < 8 then 0 else p c
theorem prd_0 {hs : Nat → Nat} {n : Nat} {p : Nat → Nat} (q : Stt hs n) : prd hs n p 0 = fil 8 0 p := by
  funext c
  have h8 := q.2.1
  unfold prd fil
  by_cases g : c < n
  · rw [if_pos g, if_pos (by omega), dpt_0 q g]
  · rw [if_neg g]
theorem argm_congr {f g : Nat → Nat} : ∀ {k : Nat}, (∀ j, j < k → f j = g j) → argm f k = argm g k
  | 0, _ => rfl
  | k + 1, h => by
    have ih := argm_congr (fun j hj => h j (Nat.lt_succ_of_lt hj))
    have e1 := h k (Nat.lt_succ_self k)
    rw [argm, argm, ih]
    rcases Nat.eq_zero_or_pos k with g0 | g0
    · subst g0
      rw [show argm g 0 = 0 from rfl, h 0 (by omega)]
    · have := argm_lt g k
      rw [e1, h (argm g k) (by omega)]
theorem prd_1 {hs : Nat → Nat} {n v : Nat} {p : Nat → Nat} (q : Stt hs n) : up1 (prd hs n p v) (argm (fun j => hs j + prd hs n p v j) n) (prd hs n p v (argm (fun j => hs j + prd hs n p v j) n) + 1) = prd hs n p (v + 1) := by
  have em : argm (fun j => hs j + prd hs n p v j) n = argm (fun j => hs j + dpt hs n j v) n := argm_congr (fun j hj => by show hs j + prd hs n p v j = _; unfold prd; rw [if_pos hj])
  rw [em]
  have hm := argm_lt (fun j => hs j + dpt hs n j v) n
  have hn := q.1
  generalize hmm : argm (fun j => hs j + dpt hs n j v) n = m at hm ⊢
  funext c
  unfold up1 prd
  by_cases g : c < n
  · have := dpt_step (v := v) q g
    rw [hmm] at this
    by_cases e : c = m
    · rw [if_pos e, if_pos (by omega), if_pos g]
      rw [if_pos e] at this
      rw [this, e]
    · rw [if_neg e, if_pos g, if_pos g, this, if_neg e]; rfl
  · rw [if_neg (by omega), if_neg g, if_neg g]
theorem prd_le {hs : Nat → Nat} {n v : Nat} {p : Nat → Nat} (q : Stt hs n) (c : Nat) (hc : c < 8) : prd hs n p v c ≤ v + 31 := by
  unfold prd
  have := dpt_le (c := c) (v := v) q
  split
  · exact this
  · omega
/-- the marks of the first m cells set -/
def drs (d : Nat → Nat) (m : Nat) (p : Nat → Nat) : Nat → Nat := fun j => if j < m then d j else p j
theorem drs_0 {d p : Nat → Nat} : drs d 0 p = p := by funext j; exact if_neg (Nat.not_lt_zero j)
theorem drs_1 {d p : Nat → Nat} {m : Nat} : up1 (drs d m p) m (d m) = drs d (m + 1) p := by
  funext j
  unfold up1 drs
  by_cases e : j = m
  · rw [if_pos e, if_pos (by omega), e]
  · rw [if_neg e]
    by_cases g : j < m
    · rw [if_pos g, if_pos (by omega)]
    · rw [if_neg g, if_neg (by omega)]
/-- a cell added to the street b -/
def acell (σ : Sg) (b h : Nat) : Sg :=
  sp (sp (su σ 1 b 6 (σ 1 b 6 + 1)) 2 b (up1 (σ 2 b) (σ 1 b 6) h)) 30 b (drs (dryF (up1 (σ 2 b) (σ 1 b 6) h) (σ 1 b 6 + 1)) (σ 1 b 6 + 1) (σ 30 b))
theorem Stt.add {hs : Nat → Nat} {n h : Nat} (q : Stt hs n) (hn : n < 8) (hh : h ≤ 30) : Stt (up1 hs n h) (n + 1) := by
  refine ⟨by omega, by omega, fun c hc => ?_⟩
  unfold up1
  have := q.2.2 c
  split <;> omega
theorem msubN {a b : Nat} (ha : a < 2 ^ 30) (hb : b < 2 ^ 30) : (if nI a - nI b < nI 0 then nI 0 else nI a - nI b) = nI (a - b) := by
  have e := pk_sub_toInt ha hb
  by_cases h : a < b
  · rw [if_pos (by rw [Int32.lt_iff_toInt_lt, e, nI_toInt (by decide)]; omega), show a - b = 0 by omega]
  · rw [if_neg (by rw [Int32.lt_iff_toInt_lt, e, nI_toInt (by decide)]; omega), pk_sub (by omega)]
