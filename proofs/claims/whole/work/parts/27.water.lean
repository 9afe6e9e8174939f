/-! PURE 4: an hour's water -/
def hlds (ru ba : Nat → Nat → Nat) (V : Nat → Nat) (j : Nat) : Prop := ru j 2 = 1 ↔ ru j 3 ≤ V (ru j 1) / ba (ru j 1) 0
theorem hlds_dec (ru ba : Nat → Nat → Nat) (V : Nat → Nat) (j : Nat) : hlds ru ba V j ∨ ¬ hlds ru ba V j := Classical.em _
/-- a rule holds, as a number -/
def hldN (ru ba : Nat → Nat → Nat) (V : Nat → Nat) (j : Nat) : Nat := if (ru j 2 = 1 ↔ ru j 3 ≤ V (ru j 1) / ba (ru j 1) 0) then 1 else 0
/-- the opening of the gate of b by the first n rules -/
def opn (ru ba : Nat → Nat → Nat) (V : Nat → Nat) (b : Nat) : Nat → Nat
  | 0 => ba b 4
  | n + 1 => if ru n 0 = b ∧ hldN ru ba V n = 1 then ru n 4 else opn ru ba V b n
/-- with a fixed one: fx is that basin + 1 -/
def opF (ru ba : Nat → Nat → Nat) (V : Nat → Nat) (nr fx fo b : Nat) : Nat := if b + 1 = fx then fo else opn ru ba V b nr
def lvg (ru ba : Nat → Nat → Nat) (V : Nat → Nat) (nr fx fo b : Nat) : Nat := min (opF ru ba V nr fx fo b * ba b 2) (V b)
/-- a function changed on the first n -/
def fst (n : Nat) (p q : Nat → Nat) : Nat → Nat := fun b => if b < n then p b else q b
theorem fst_0 {p q : Nat → Nat} : fst 0 p q = q := by funext b; exact if_neg (Nat.not_lt_zero b)
theorem fst_1 {p q : Nat → Nat} {n : Nat} : up1 (fst n p q) n (p n) = fst (n + 1) p q := by
  funext b
  unfold up1 fst
  by_cases e : b = n
  · rw [if_pos e, if_pos (by omega), e]
  · rw [if_neg e]
    by_cases g : b < n
    · rw [if_pos g, if_pos (by omega)]
    · rw [if_neg g, if_neg (by omega)]
theorem fst_lt {p q : Nat → Nat} {n b : Nat} (h : b < n) : fst n p q b = p b := if_pos h
theorem fst_ge {p q : Nat → Nat} {n b : Nat} (h : ¬ b < n) : fst n p q b = q b := if_neg h
/-- volumes when n gates have run, O what leaves -/
def gtV (ba : Nat → Nat → Nat) (O V : Nat → Nat) : Nat → Nat → Nat
  | 0 => V
  | n + 1 => if ba n 3 = 0 then up1 (gtV ba O V n) n (gtV ba O V n n - O n)
    else up1 (up1 (gtV ba O V n) n (gtV ba O V n n - O n)) (ba n 3 - 1) (gtV ba O V n (ba n 3 - 1) + O n)
/-- what went into the river -/
def gtR (ba : Nat → Nat → Nat) (O : Nat → Nat) : Nat → Nat
  | 0 => 0
  | n + 1 => if ba n 3 = 0 then gtR ba O n + O n else gtR ba O n
theorem gtV_hi {ba : Nat → Nat → Nat} {O V : Nat → Nat} : ∀ {n b : Nat}, (∀ m, m < n → ba m 3 ≤ m) → n ≤ b → gtV ba O V n b = V b
  | 0, _, _, _ => rfl
  | n + 1, b, h, hb => by
    have ih := gtV_hi (ba := ba) (O := O) (V := V) (n := n) (b := b) (fun m hm => h m (by omega)) (by omega)
    have := h n (by omega)
    rw [gtV]
    split
    · rw [up1_n (by omega), ih]
    · rw [up1_n (by omega), up1_n (by omega), ih]
theorem gtV_le {ba : Nat → Nat → Nat} {O V : Nat → Nat} {M : Nat} (hM : ∀ b, O b ≤ M) : ∀ (n b : Nat), gtV ba O V n b ≤ V b + M * n
  | 0, _ => by rw [gtV]; omega
  | n + 1, b => by
    have ih := gtV_le (ba := ba) (V := V) hM n
    have h1 := ih b
    have h2 := ih n
    have h3 := ih (ba n 3 - 1)
    have h4 := hM n
    have e : M * (n + 1) = M * n + M := Nat.mul_succ M n
    rw [gtV]
    split
    · by_cases g : b = n
      · rw [g, up1_s]; omega
      · rw [up1_n g]; omega
    · by_cases g : b = ba n 3 - 1
      · rw [g, up1_s]; omega
      · rw [up1_n g]
        by_cases g2 : b = n
        · rw [g2, up1_s]; omega
        · rw [up1_n g2]; omega
def stV (cap v s : Nat) : Nat := if cap < v then cap else v + min s (cap - v)
def stS (cap v s : Nat) : Nat := if cap < v then s + (v - cap) else s - min s (cap - v)
/-- an hour: from volumes V and streets S -/
def mvR (σ : Sg) (h : Nat) (V : Nat → Nat) : Nat → Nat := fst (σ 0 0 0) (fun b => V b + σ 5 b h) V
def mvO (σ : Sg) (fx fo h : Nat) (V : Nat → Nat) : Nat → Nat := lvg (σ 8) (σ 1) (mvR σ h V) (σ 0 1 0) fx fo
def mvG (σ : Sg) (fx fo h : Nat) (V : Nat → Nat) : Nat → Nat := gtV (σ 1) (mvO σ fx fo h V) (mvR σ h V) (σ 0 0 0)
def mvV (σ : Sg) (fx fo h : Nat) (V S : Nat → Nat) : Nat → Nat := fst (σ 0 0 0) (fun b => stV (σ 1 b 0 * σ 1 b 1) (mvG σ fx fo h V b) (S b)) (mvG σ fx fo h V)
def mvS (σ : Sg) (fx fo h : Nat) (V S : Nat → Nat) : Nat → Nat := fst (σ 0 0 0) (fun b => stS (σ 1 b 0 * σ 1 b 1) (mvG σ fx fo h V b) (S b)) S
/-- cells that are wet, of the first c -/
def wn (hs : Nat → Nat) (n v : Nat) : Nat → Nat
  | 0 => 0
  | c + 1 => wn hs n v c + if 0 < dpt hs n c v then 1 else 0
theorem wn_le (hs : Nat → Nat) (n v : Nat) : ∀ c, wn hs n v c ≤ c
  | 0 => Nat.le_refl 0
  | c + 1 => by have := wn_le hs n v c; rw [wn]; split <;> omega
theorem wetc_wn {hs dr : Nat → Nat} {n v : Nat} (q : Stt hs n) (hd : ∀ c, c < n → dr c = dryF hs n c) : ∀ c, c ≤ n → wetc dr v c = wn hs n v c
  | 0, _ => rfl
  | c + 1, hc => by
    rw [wetc, wn, wetc_wn q hd c (by omega), hd c (by omega)]
    have := wet_iff (v := v) q (c := c) (by omega)
    by_cases g : dryF hs n c < v
    · rw [if_pos g, if_pos (this.mpr g)]
    · rw [if_neg g, if_neg (fun z => g (this.mp z))]
/-- wet cells of the first n streets with S on them -/
def wsm (hei ba : Nat → Nat → Nat) (S : Nat → Nat) : Nat → Nat
  | 0 => 0
  | n + 1 => wsm hei ba S n + wn (hei n) (ba n 6) (S n) (ba n 6)
theorem wsm_le {hei ba : Nat → Nat → Nat} {S : Nat → Nat} : ∀ {n : Nat}, (∀ b, b < n → ba b 6 ≤ 8) → wsm hei ba S n ≤ 8 * n
  | 0, _ => Nat.le_refl 0
  | n + 1, h => by
    have h1 := wsm_le (hei := hei) (S := S) (n := n) (fun b hb => h b (by omega))
    have h2 := wn_le (hei n) (ba n 6) (S n) (ba n 6)
    have h3 := h n (by omega)
    rw [wsm]
    omega
/-- the water column of w -/
def sw (σ : Sg) (w : Nat) (V S : Nat → Nat) (r : Nat) (O : Nat → Nat) : Sg := fun f i j =>
  if f = 3 ∧ j = w then V i else if f = 4 ∧ j = w then S i else if f = 6 ∧ (i = 0 ∧ j = w) then r else if f = 27 ∧ j = w then O i else σ f i j
section ZSW
variable {σ : Sg} {w i v r x : Nat} {V S O : Nat → Nat}
theorem sw_3 : sw σ w V S r O 3 i w = V i := if_pos ⟨rfl, rfl⟩
theorem sw_4 : sw σ w V S r O 4 i w = S i := by simp [sw]
theorem sw_6 : sw σ w V S r O 6 0 w = r := by simp [sw]
theorem sw_27 : sw σ w V S r O 27 i w = O i := by simp [sw]
theorem sw_id : sw σ w (fun i => σ 3 i w) (fun i => σ 4 i w) (σ 6 0 w) (fun i => σ 27 i w) = σ := by
  funext f i j
  unfold sw
  by_cases h1 : f = 3 ∧ j = w
  · rw [if_pos h1, h1.1, h1.2]
  · rw [if_neg h1]
    by_cases h2 : f = 4 ∧ j = w
    · rw [if_pos h2, h2.1, h2.2]
    · rw [if_neg h2]
      by_cases h3 : f = 6 ∧ (i = 0 ∧ j = w)
      · rw [if_pos h3, h3.1, h3.2.1, h3.2.2]
      · rw [if_neg h3]
        by_cases h4 : f = 27 ∧ j = w
        · rw [if_pos h4, h4.1, h4.2]
        · rw [if_neg h4]
theorem su_sw3 : su (sw σ w V S r O) 3 i w v = sw σ w (up1 V i v) S r O := by
  funext f a b
  by_cases h1 : f = 3 ∧ b = w
  · obtain ⟨rfl, rfl⟩ := h1
    by_cases e : a = i <;> simp [su, sw, up1, e]
  · rw [su, if_neg (fun q => h1 ⟨q.1, q.2.2⟩), sw, sw, if_neg h1, if_neg h1]
theorem su_sw4 : su (sw σ w V S r O) 4 i w v = sw σ w V (up1 S i v) r O := by
  funext f a b
  by_cases h1 : f = 4 ∧ b = w
  · obtain ⟨rfl, rfl⟩ := h1
    by_cases e : a = i <;> simp [su, sw, up1, e]
  · rw [su, if_neg (fun q => h1 ⟨q.1, q.2.2⟩)]
    unfold sw
    by_cases h2 : f = 3 ∧ b = w
    · rw [if_pos h2, if_pos h2]
    · rw [if_neg h2, if_neg h2, if_neg h1, if_neg h1]
theorem su_sw6 : su (sw σ w V S r O) 6 0 w v = sw σ w V S v O := by
  funext f a b
  by_cases h1 : f = 6 ∧ (a = 0 ∧ b = w)
  · obtain ⟨rfl, rfl, rfl⟩ := h1
    simp [su, sw]
  · rw [su, if_neg h1]
    unfold sw
    rw [if_neg h1, if_neg h1]
theorem su_sw27 : su (sw σ w V S r O) 27 i w v = sw σ w V S r (up1 O i v) := by
  funext f a b
  by_cases h1 : f = 27 ∧ b = w
  · obtain ⟨rfl, rfl⟩ := h1
    by_cases e : a = i <;> simp [su, sw, up1, e]
  · rw [su, if_neg (fun q => h1 ⟨q.1, q.2.2⟩)]
    unfold sw
    rw [if_neg h1, if_neg h1]
theorem gate_sw : gate (sw σ w V S r O) w i x = if x = 0 then sw σ w (up1 V i (V i - O i)) S (r + O i) O else if x - 1 = i then gate (sw σ w V S r O) w i x else sw σ w (up1 (up1 V i (V i - O i)) (x - 1) (V (x - 1) + O i)) S r O := by
  by_cases h : x = 0
  · rw [if_pos h, gate, if_pos h, sw_3, sw_27, sw_6, su_sw3, su_sw6]
  · rw [if_neg h]
    by_cases h2 : x - 1 = i
    · rw [if_pos h2]
    · rw [if_neg h2, gate, if_neg h, sw_3, sw_27, sw_3, su_sw3, su_sw3]
theorem stl_sw {cap : Nat} : stl (sw σ w V S r O) w i cap = sw σ w (up1 V i (stV cap (V i) (S i))) (up1 S i (stS cap (V i) (S i))) r O := by
  unfold stl stV stS
  rw [sw_3, sw_4]
  by_cases h : cap < V i
  · rw [if_pos (by omega), if_pos h, if_pos h, su_sw4, su_sw3]
  · rw [if_neg (by omega), if_neg h, if_neg h, su_sw4, su_sw3]
theorem InvB.sw (I : InvB σ) : InvB (sw σ w V S r O) := I
theorem InvL.sw (L : InvL σ) : InvL (sw σ w V S r O) := L
end ZSW
