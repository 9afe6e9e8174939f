/-! PURE: what the methods compute, in numbers -/
theorem pI_t {c : Prop} [Decidable c] (h : c) : nI 1 = pI c := (if_pos h).symm
theorem pI_f {c : Prop} [Decidable c] (h : ¬ c) : nI 0 = pI c := (if_neg h).symm
theorem mminN {a b : Nat} (ha : a < 2 ^ 31) (hb : b < 2 ^ 31) : (if nI b < nI a then nI b else nI a) = nI (min a b) := by
  by_cases h : b < a
  · rw [if_pos (nI_lt h ha), Nat.min_eq_right (by omega)]
  · rw [if_neg (nI_nlt (by omega) hb), Nat.min_eq_left (by omega)]
theorem mmaxN {a b : Nat} (ha : a < 2 ^ 31) (hb : b < 2 ^ 31) : (if nI a < nI b then nI b else nI a) = nI (max a b) := by
  by_cases h : a < b
  · rw [if_pos (nI_lt h hb), Nat.max_eq_right (by omega)]
  · rw [if_neg (nI_nlt (by omega) ha), Nat.max_eq_left (by omega)]
/-- cells among the first c that are not above h -/
def ahd (hs : Nat → Nat) (h : Nat) : Nat → Nat
  | 0 => 0
  | c + 1 => ahd hs h c + if hs c ≤ h then 1 else 0
theorem ahd_le (hs : Nat → Nat) (h : Nat) : ∀ c, ahd hs h c ≤ c
  | 0 => Nat.le_refl 0
  | c + 1 => by have := ahd_le hs h c; show _ + _ ≤ _; split <;> omega
theorem ahd_t {hs : Nat → Nat} {h c : Nat} (q : hs c ≤ h) : ahd hs h (c + 1) = ahd hs h c + 1 := by rw [ahd, if_pos q]
theorem ahd_f {hs : Nat → Nat} {h c : Nat} (q : ¬ hs c ≤ h) : ahd hs h (c + 1) = ahd hs h c := by rw [ahd, if_neg q]; rfl
/-- cells that are wet, of the first c, with v on the street, by the dry marks -/
def wetc (dr : Nat → Nat) (v : Nat) : Nat → Nat
  | 0 => 0
  | c + 1 => wetc dr v c + if dr c < v then 1 else 0
theorem wetc_le (dr : Nat → Nat) (v : Nat) : ∀ c, wetc dr v c ≤ c
  | 0 => Nat.le_refl 0
  | c + 1 => by have := wetc_le dr v c; show _ + _ ≤ _; split <;> omega
theorem wetc_t {dr : Nat → Nat} {v c : Nat} (q : dr c < v) : wetc dr v (c + 1) = wetc dr v c + 1 := by rw [wetc, if_pos q]
theorem wetc_f {dr : Nat → Nat} {v c : Nat} (q : ¬ dr c < v) : wetc dr v (c + 1) = wetc dr v c := by rw [wetc, if_neg q]; rfl
-- worlds of numbers with a row changed
theorem up2_up2 {μ : Ce} {k i : Nat} {e e' : va_E} : up2 (up2 μ k i e) k i e' = up2 μ k i e' := by
  funext k' i'
  by_cases c : k' = k ∧ i' = i
  · simp [up2, c]
  · simp [up2, c]
theorem up2_self {μ : Ce} {k i : Nat} {e : va_E} (h : μ k i = some e) : up2 μ k i e = μ := by
  funext k' i'
  by_cases c : k' = k ∧ i' = i
  · rw [c.1, c.2, up2_s, h]
  · rw [up2_n c]
/-- the row (f, i) is p -/
def sp (σ : Sg) (f i : Nat) (p : Nat → Nat) : Sg := fun f' i' j' => if f' = f ∧ i' = i then p j' else σ f' i' j'
theorem sp_s {σ : Sg} {f i : Nat} {p : Nat → Nat} : sp σ f i p f i = p := by funext j; exact if_pos ⟨rfl, rfl⟩
theorem sp_f {σ : Sg} {f i f' i' : Nat} {p : Nat → Nat} (h : f' ≠ f) : sp σ f i p f' i' = σ f' i' := by funext j; exact if_neg (fun q => h q.1)
theorem sp_n {σ : Sg} {f i f' i' : Nat} {p : Nat → Nat} (h : ¬ (f' = f ∧ i' = i)) : sp σ f i p f' i' = σ f' i' := by funext j; exact if_neg h
/-- a function with one value changed -/
def up1 (f : Nat → Nat) (k v : Nat) : Nat → Nat := fun j => if j = k then v else f j
theorem up1_s {f : Nat → Nat} {k v : Nat} : up1 f k v k = v := if_pos rfl
theorem up1_n {f : Nat → Nat} {k v j : Nat} (h : j ≠ k) : up1 f k v j = f j := if_neg h
theorem su_sp {σ : Sg} {f i j v : Nat} {p : Nat → Nat} : su (sp σ f i p) f i j v = sp σ f i (up1 p j v) := by
  funext f' i' j'
  by_cases c : f' = f ∧ i' = i
  · obtain ⟨rfl, rfl⟩ := c
    by_cases e : j' = j <;> simp [su, sp, up1, e]
  · rw [su, if_neg (fun q => c ⟨q.1, q.2.1⟩), sp, sp, if_neg c, if_neg c]
theorem su_sp1 {σ : Sg} {f i j v : Nat} : su σ f i j v = sp σ f i (up1 (σ f i) j v) := by
  funext f' i' j'
  by_cases c : f' = f ∧ i' = i
  · obtain ⟨rfl, rfl⟩ := c
    by_cases e : j' = j <;> simp [su, sp, up1, e]
  · rw [su, if_neg (fun q => c ⟨q.1, q.2.1⟩), sp, if_neg c]
theorem su_sp2 {σ : Sg} {f i f' i' j' v : Nat} {p : Nat → Nat} (h : f' ≠ f) : su (sp σ f i p) f' i' j' v = sp (su σ f' i' j' v) f i p := by
  funext a b c
  unfold su sp
  by_cases e : a = f
  · subst e
    simp [Ne.symm h]
  · simp [e]
theorem sp_id {σ : Sg} {f i : Nat} : sp σ f i (σ f i) = σ := by
  funext f' i' j'
  by_cases c : f' = f ∧ i' = i
  · rw [sp, if_pos c, c.1, c.2]
  · rw [sp, if_neg c]
/-- a row filled up to n -/
def fil (n v : Nat) (f : Nat → Nat) : Nat → Nat := fun j => if j < n then v else f j
theorem w_16 {z : Zx} {ad : Nm} {σ τ : Sg} {o : Int64 × UInt64} {b : Nat} {p : Nat → Nat} (h : b < σ 0 0 0) : up2 (Wz z ad σ τ o) 16 b (aI z 8 (fun j => nI (p j))) = Wz z ad (sp σ 35 b p) τ o := by
  funext k' i'
  by_cases c : k' = 16 ∧ i' = b
  · obtain ⟨rfl, rfl⟩ := c
    rw [up2_s]
    simp [Wz, sp, h]
  · rw [up2_n c]
    simp only [Wz]
    split <;> (try rfl) <;> simp_all [sp]
theorem fil_1 {x v : Nat} {g : Nat → Nat} : upd (fun j => nI (fil x v g j)) x (nI v) = fun j => nI (fil (x + 1) v g j) := by
  funext j
  unfold upd fil
  by_cases e : j = x
  · rw [if_pos e, if_pos (by omega)]
  · rw [if_neg e]
    show nI (if j < x then v else g j) = _
    by_cases q : j < x
    · rw [if_pos q, if_pos (by omega)]
    · rw [if_neg q, if_neg (by omega)]
theorem bw_nI {x : Nat} (h : 0 < x) : bw x = nI (x - 1) := by
  unfold bw
  rw [show (1 : Int32) = nI 1 from rfl, pk_sub (by omega)]
theorem bw_eq {x : Nat} (h : x < 2 ^ 31) : bw x = (-1) ↔ x = 0 := by
  rcases Nat.eq_zero_or_pos x with g | g
  · subst g; exact ⟨fun _ => rfl, fun _ => by decide⟩
  · rw [bw_nI g]
    refine ⟨fun q => ?_, fun q => by omega⟩
    have e := congrArg Int32.toInt q
    rw [nI_toInt (by omega)] at e
    have : (-1 : Int32).toInt = -1 := by decide
    omega
theorem rge {a b : Nat} (ha : a < 2 ^ 30) (hb : b < 2 ^ 30) : 0 ≤ nI a - nI b ↔ b ≤ a := by
  rw [Int32.le_iff_toInt_le, pk_sub_toInt ha hb, show (0 : Int32).toInt = 0 from rfl]
  omega
theorem rsub {s a b : Nat} (h : a ≤ b) : nI s - (nI a - nI b) = nI (s + (b - a)) := by
  have e : nI b = nI a + nI (b - a) := by rw [nI_add]; congr 1; omega
  rw [e, ← nI_add]
  generalize nI s = x
  generalize nI a = y
  generalize nI (b - a) = w
  rw [show y - (y + w) = -w by rw [← Int32.sub_sub, Int32.sub_self, Int32.zero_sub], Int32.sub_neg]
/-- a column changed -/
def sc (σ : Sg) (f w : Nat) (p : Nat → Nat) : Sg := fun f' i' j' => if f' = f ∧ j' = w then p i' else σ f' i' j'
theorem sc_s {σ : Sg} {f w i : Nat} {p : Nat → Nat} : sc σ f w p f i w = p i := if_pos ⟨rfl, rfl⟩
theorem sc_f {σ : Sg} {f w f' : Nat} {p : Nat → Nat} (h : f' ≠ f) : sc σ f w p f' = σ f' := by funext i j; exact if_neg (fun q => h q.1)
theorem su_sc {σ : Sg} {f i w v : Nat} {p : Nat → Nat} : su (sc σ f w p) f i w v = sc σ f w (up1 p i v) := by
  funext f' i' j'
  by_cases c : f' = f ∧ j' = w
  · obtain ⟨rfl, rfl⟩ := c
    by_cases e : i' = i <;> simp [su, sc, up1, e]
  · rw [su, if_neg (fun q => c ⟨q.1, q.2.2⟩), sc, sc, if_neg c, if_neg c]
theorem w_4 {z : Zx} {ad : Nm} {σ τ : Sg} {o : Int64 × UInt64} {w : Nat} {p : Nat → Nat} (h : w < 2) : up2 (Wz z ad σ τ o) 4 w (aI z 6 (fun j => nI (p j))) = Wz z ad (sc σ 3 w p) τ o := by
  funext k' i'
  by_cases c : k' = 4 ∧ i' = w
  · obtain ⟨rfl, rfl⟩ := c
    rw [up2_s]
    simp [Wz, sc, h]
  · rw [up2_n c]
    simp only [Wz]
    split <;> (try rfl) <;> simp_all [sc]
theorem w_5 {z : Zx} {ad : Nm} {σ τ : Sg} {o : Int64 × UInt64} {w : Nat} {p : Nat → Nat} (h : w < 2) : up2 (Wz z ad σ τ o) 5 w (aI z 6 (fun j => nI (p j))) = Wz z ad (sc σ 4 w p) τ o := by
  funext k' i'
  by_cases c : k' = 5 ∧ i' = w
  · obtain ⟨rfl, rfl⟩ := c
    rw [up2_s]
    simp [Wz, sc, h]
  · rw [up2_n c]
    simp only [Wz]
    split <;> (try rfl) <;> simp_all [sc]
theorem fb_charN {n : Nat} (h : n < 65536) : (nI n).toUInt32.toUInt16.toUInt32.toInt32 = nI n := by
  have e := pk_char (nI n)
  rw [pk_tn (by omega), Nat.mod_eq_of_lt h] at e
  have e2 : (nI n).toUInt32.toUInt16.toUInt32 = (nI n).toUInt32 % 65536 := by
    apply UInt32.toNat_inj.mp
    simp
  rw [e2, e]
theorem zn {f : Nat} (h : f ≤ 1) : vp_nar .boolean (nI f) = nI f := by
  rcases (show f = 0 ∨ f = 1 by omega) with rfl | rfl <;> decide
theorem cn {f : Nat} (h : f < 65536) : vp_nar .char (nI f) = nI f := by rw [vp_nar_char]; exact fb_charN h
