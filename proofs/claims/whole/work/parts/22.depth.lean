/-! DEPTHS: the height of the water, the depth in a cell, by levels, by search and by pouring -/
/-- the water that a street's first n cells hold up to the height h -/
def upto (hs : Nat → Nat) (h : Nat) : Nat → Nat
  | 0 => 0
  | n + 1 => upto hs h n + (h - hs n)
theorem upto_0 (hs : Nat → Nat) : ∀ n, upto hs 0 n = 0
  | 0 => rfl
  | n + 1 => by rw [upto, upto_0 hs n]; omega
theorem upto_h1 (hs : Nat → Nat) (h : Nat) : ∀ n, upto hs (h + 1) n = upto hs h n + ahd hs h n
  | 0 => rfl
  | n + 1 => by
    rw [upto, upto, ahd, upto_h1 hs h n]
    by_cases q : hs n ≤ h
    · rw [if_pos q]; omega
    · rw [if_neg q]; omega
theorem upto_mono (hs : Nat → Nat) (n : Nat) {h h' : Nat} (q : h ≤ h') : upto hs h n ≤ upto hs h' n := by
  induction n with
  | zero => exact Nat.le_refl 0
  | succ n ih => rw [upto, upto]; omega
theorem upto_ge (hs : Nat → Nat) (h : Nat) : ∀ n, 0 < n → h - hs 0 ≤ upto hs h n
  | 0, q => absurd q (Nat.lt_irrefl 0)
  | 1, _ => by rw [upto, upto]; omega
  | n + 2, _ => by have := upto_ge hs h (n + 1) (by omega); rw [upto]; omega
theorem ahd_all {hs : Nat → Nat} {h : Nat} : ∀ {n : Nat}, (∀ c, c < n → hs c ≤ h) → ahd hs h n = n
  | 0, _ => rfl
  | n + 1, q => by rw [ahd_t (q n (by omega)), ahd_all (fun c hc => q c (by omega))]
theorem upto_le (hs : Nat → Nat) (h : Nat) : ∀ n, upto hs h n ≤ n * h
  | 0 => Nat.zero_le _
  | n + 1 => by have := upto_le hs h n; rw [upto, Nat.succ_mul]; omega
/-- the greatest height, at most k, up to which v fills the street -/
def lvlF (hs : Nat → Nat) (n v : Nat) : Nat → Nat
  | 0 => 0
  | k + 1 => if upto hs (k + 1) n ≤ v then k + 1 else lvlF hs n v k
theorem lvlF_le (hs : Nat → Nat) (n v : Nat) : ∀ k, upto hs (lvlF hs n v k) n ≤ v
  | 0 => by rw [lvlF, upto_0]; exact Nat.zero_le _
  | k + 1 => by
    rw [lvlF]
    by_cases q : upto hs (k + 1) n ≤ v
    · rw [if_pos q]; exact q
    · rw [if_neg q]; exact lvlF_le hs n v k
theorem lvlF_max (hs : Nat → Nat) (n v : Nat) : ∀ k h, h ≤ k → upto hs h n ≤ v → h ≤ lvlF hs n v k
  | 0, h, q, _ => by omega
  | k + 1, h, q, hv => by
    rw [lvlF]
    by_cases q1 : upto hs (k + 1) n ≤ v
    · rw [if_pos q1]; exact q
    · rw [if_neg q1]
      rcases Nat.lt_or_ge h (k + 1) with q2 | q2
      · exact lvlF_max hs n v k h (by omega) hv
      · exact absurd (by rw [show k + 1 = h by omega]; exact hv) q1
def lvl (hs : Nat → Nat) (n v : Nat) : Nat := lvlF hs n v (v + 31)
/-- a street: at least one cell, heights to 30 -/
def Stt (hs : Nat → Nat) (n : Nat) : Prop := 0 < n ∧ n ≤ 8 ∧ ∀ c, c < n → hs c ≤ 30
theorem lvl_le (hs : Nat → Nat) (n v : Nat) : upto hs (lvl hs n v) n ≤ v := lvlF_le hs n v _
theorem lvl_lt {hs : Nat → Nat} {n v : Nat} (q : Stt hs n) : v < upto hs (lvl hs n v + 1) n := by
  rcases Nat.lt_or_ge v (upto hs (lvl hs n v + 1) n) with h | h
  · exact h
  · rcases Nat.lt_or_ge (v + 31) (lvl hs n v + 1) with g | g
    · have h1 := upto_ge hs (v + 31) n q.1
      have h2 := q.2.2 0 q.1
      have h3 := upto_mono hs n (show v + 31 ≤ lvl hs n v + 1 by omega)
      omega
    · have := lvlF_max hs n v (v + 31) (lvl hs n v + 1) g h
      unfold lvl at this
      omega
theorem lvl_bd {hs : Nat → Nat} {n v : Nat} (q : Stt hs n) : lvl hs n v ≤ v + 30 := by
  have h1 := upto_ge hs (lvl hs n v) n q.1
  have h2 := lvl_le hs n v
  have h3 := q.2.2 0 q.1
  omega
theorem lvl_eq {hs : Nat → Nat} {n v h : Nat} (q : Stt hs n) (h1 : upto hs h n ≤ v) (h2 : v < upto hs (h + 1) n) : lvl hs n v = h := by
  rcases Nat.lt_trichotomy (lvl hs n v) h with g | g | g
  · have := upto_mono hs n (show lvl hs n v + 1 ≤ h by omega)
    have := lvl_lt (v := v) q
    omega
  · exact g
  · have := upto_mono hs n (show h + 1 ≤ lvl hs n v by omega)
    have := lvl_le hs n v
    omega
/-- the depth in cell c with v on the street -/
def dpt (hs : Nat → Nat) (n c v : Nat) : Nat :=
  if lvl hs n v < hs c then 0 else lvl hs n v - hs c + if ahd hs (lvl hs n v) c < v - upto hs (lvl hs n v) n then 1 else 0
theorem dpt_le {hs : Nat → Nat} {n c v : Nat} (q : Stt hs n) : dpt hs n c v ≤ v + 31 := by
  have := lvl_bd (v := v) q
  unfold dpt
  split
  · omega
  · split <;> omega
-- by levels, as a loop to 30 and a division does it
theorem upto_30 {hs : Nat → Nat} {n : Nat} (q : Stt hs n) (k : Nat) : upto hs (30 + k) n = upto hs 30 n + k * n := by
  induction k with
  | zero => rw [Nat.zero_mul]; rfl
  | succ k ih =>
    rw [← Nat.add_assoc, upto_h1, ih, ahd_all (fun c hc => by have := q.2.2 c hc; omega), Nat.succ_mul]
    omega
theorem lvl_loop {hs : Nat → Nat} {n v s L : Nat} (q : Stt hs n) (h1 : upto hs s n + L = v) (h2 : s = 30 ∨ L < ahd hs s n) : 0 < ahd hs s n ∧ lvl hs n v = s + L / ahd hs s n ∧ v - upto hs (lvl hs n v) n = L % ahd hs s n := by
  rcases h2 with rfl | h2
  · have e := ahd_all q.2.2
    rw [e]
    have hq := q.1
    have hd := Nat.div_add_mod L n
    have hm := Nat.mod_lt L hq
    have hc := Nat.mul_comm n (L / n)
    have e1 := upto_30 q (L / n)
    have e2 := upto_30 q (L / n + 1)
    rw [Nat.succ_mul] at e2
    have e3 : lvl hs n v = 30 + L / n := lvl_eq q (by omega) (by rw [Nat.add_assoc]; omega)
    refine ⟨hq, e3, ?_⟩
    rw [e3]
    omega
  · have e3 : lvl hs n v = s := lvl_eq q (by omega) (by rw [upto_h1]; omega)
    refine ⟨by omega, ?_, ?_⟩
    · rw [e3, Nat.div_eq_of_lt h2]; rfl
    · rw [e3, Nat.mod_eq_of_lt h2]; omega
-- wet by the dry marks
def dryF (hs : Nat → Nat) (n c : Nat) : Nat := ahd hs (hs c) c + upto hs (hs c) n
theorem ahd_mono {hs : Nat → Nat} {h : Nat} {a b : Nat} (q : a ≤ b) : ahd hs h a ≤ ahd hs h b := by
  induction b with
  | zero => rw [show a = 0 by omega]; exact Nat.le_refl _
  | succ b ih =>
    rcases Nat.lt_or_ge a (b + 1) with g | g
    · have := ih (by omega)
      rw [ahd]; omega
    · rw [show a = b + 1 by omega]; exact Nat.le_refl _
theorem ahd_lt {hs : Nat → Nat} {h : Nat} {a b : Nat} (q : a < b) (ha : hs a ≤ h) : ahd hs h a < ahd hs h b := by
  have h1 := ahd_mono (hs := hs) (h := h) (show a + 1 ≤ b by omega)
  rw [ahd_t ha] at h1
  omega
theorem wet_iff {hs : Nat → Nat} {n c v : Nat} (q : Stt hs n) (hc : c < n) : 0 < dpt hs n c v ↔ dryF hs n c < v := by
  have h1 := lvl_le hs n v
  have h2 := lvl_lt (v := v) q
  unfold dpt dryF
  rcases Nat.lt_trichotomy (lvl hs n v) (hs c) with g | g | g
  · rw [if_pos g]
    have := upto_mono hs n (show lvl hs n v + 1 ≤ hs c by omega)
    omega
  · rw [if_neg (by omega), g]
    rw [g] at h1
    by_cases g2 : ahd hs (hs c) c < v - upto hs (hs c) n
    · rw [if_pos g2]; omega
    · rw [if_neg g2]; omega
  · rw [if_neg (by omega)]
    have e1 := upto_mono hs n (show hs c + 1 ≤ lvl hs n v by omega)
    rw [upto_h1] at e1
    have e2 := ahd_lt (hs := hs) (h := hs c) hc (Nat.le_refl _)
    refine ⟨fun _ => by omega, fun _ => by omega⟩
-- by pouring
/-- the first cell at which f is least, of the first k -/
def argm (f : Nat → Nat) : Nat → Nat
  | 0 => 0
  | k + 1 => if f k < f (argm f k) then k else argm f k
theorem argm_1 (f : Nat → Nat) : argm f 1 = 0 := by show (if f 0 < f 0 then 0 else 0) = 0; split <;> rfl
theorem argm_lt (f : Nat → Nat) : ∀ k, argm f k ≤ k - 1
  | 0 => Nat.le_refl 0
  | k + 1 => by have := argm_lt f k; rw [argm]; split <;> omega
theorem argm_t {f : Nat → Nat} {k : Nat} (h : f k < f (argm f k)) : argm f (k + 1) = k := by rw [argm, if_pos h]
theorem argm_f {f : Nat → Nat} {k : Nat} (h : ¬ f k < f (argm f k)) : argm f (k + 1) = argm f k := by rw [argm, if_neg h]
theorem argm_eq {f : Nat → Nat} {m : Nat} : ∀ {k : Nat}, m < k → (∀ j, j < k → f m ≤ f j) → (∀ j, j < m → f m < f j) → argm f k = m
  | 0, h, _, _ => absurd h (Nat.not_lt_zero m)
  | k + 1, h, h1, h2 => by
    rcases Nat.lt_or_ge m k with g | g
    · rw [argm_f, argm_eq g (fun j hj => h1 j (by omega)) h2]
      rw [argm_eq g (fun j hj => h1 j (by omega)) h2]
      have := h1 k (by omega)
      omega
    · have e : m = k := by omega
      subst e
      rcases Nat.eq_zero_or_pos m with g0 | g0
      · subst g0
        rw [argm]
        split <;> rfl
      · refine argm_t (h2 _ ?_)
        have := argm_lt f m
        omega
theorem ahd_kth {hs : Nat → Nat} {h L : Nat} : ∀ {n : Nat}, L < ahd hs h n → ∃ m, m < n ∧ hs m ≤ h ∧ ahd hs h m = L
  | 0, q => absurd q (Nat.not_lt_zero L)
  | n + 1, q => by
    rcases Nat.lt_or_ge L (ahd hs h n) with g | g
    · obtain ⟨m, h1, h2, h3⟩ := ahd_kth g
      exact ⟨m, by omega, h2, h3⟩
    · by_cases c : hs n ≤ h
      · rw [ahd_t c] at q
        exact ⟨n, by omega, c, by omega⟩
      · rw [ahd_f c] at q
        omega
theorem dpt_0 {hs : Nat → Nat} {n c : Nat} (q : Stt hs n) (hc : c < n) : dpt hs n c 0 = 0 := by
  have h := (wet_iff (v := 0) q hc).mp
  omega
theorem dpt_sum {hs : Nat → Nat} {n j v : Nat} : hs j + dpt hs n j v = if lvl hs n v < hs j then hs j else lvl hs n v + if ahd hs (lvl hs n v) j < v - upto hs (lvl hs n v) n then 1 else 0 := by
  unfold dpt
  by_cases g : lvl hs n v < hs j
  · rw [if_pos g, if_pos g]; omega
  · rw [if_neg g, if_neg g]; omega
theorem dpt_step {hs : Nat → Nat} {n c v : Nat} (q : Stt hs n) (hc : c < n) : dpt hs n c (v + 1) = dpt hs n c v + if c = argm (fun j => hs j + dpt hs n j v) n then 1 else 0 := by
  obtain ⟨h, eh⟩ : ∃ h, h = lvl hs n v := ⟨_, rfl⟩
  have h1 := lvl_le hs n v
  have h2 := lvl_lt (v := v) q
  rw [← eh] at h1 h2
  rw [upto_h1] at h2
  obtain ⟨L, eL⟩ : ∃ L, L = v - upto hs h n := ⟨_, rfl⟩
  obtain ⟨m, m1, m2, m3⟩ := ahd_kth (show L < ahd hs h n by omega)
  have em : argm (fun j => hs j + dpt hs n j v) n = m := by
    refine argm_eq m1 (fun j hj => ?_) (fun j hj => ?_)
    · show hs m + dpt hs n m v ≤ hs j + dpt hs n j v
      rw [dpt_sum, dpt_sum, ← eh, ← eL, if_neg (by omega), if_neg (by omega)]
      split <;> omega
    · show hs m + dpt hs n m v < hs j + dpt hs n j v
      rw [dpt_sum, dpt_sum, ← eh, ← eL, if_neg (by omega), if_neg (by omega)]
      by_cases g : h < hs j
      · rw [if_pos g]; omega
      · have := ahd_lt (hs := hs) (h := h) hj (by omega)
        rw [if_neg g, if_pos (by omega)]; omega
  rw [em]
  have same : ∀ j, hs j ≤ h → (ahd hs h j = L ↔ j = m) := by
    intro j hj
    rcases Nat.lt_trichotomy j m with g | g | g
    · have := ahd_lt (hs := hs) (h := h) g hj
      omega
    · subst g; exact ⟨fun _ => rfl, fun _ => m3⟩
    · have := ahd_lt (hs := hs) (h := h) g m2
      omega
  by_cases g : L + 1 < ahd hs h n
  · have e : lvl hs n (v + 1) = h := lvl_eq q (by omega) (by rw [upto_h1]; omega)
    unfold dpt
    rw [e, ← eh, ← eL, show v + 1 - upto hs h n = L + 1 by omega]
    by_cases g2 : h < hs c
    · rw [if_pos g2, if_pos g2, if_neg]
      intro e2
      subst e2
      omega
    · rw [if_neg g2, if_neg g2]
      have s1 := same c (by omega)
      by_cases g3 : c = m
      · have := s1.mpr g3
        rw [if_pos g3, if_pos (by omega), if_neg (by omega)]
      · rw [if_neg g3]
        by_cases g4 : ahd hs h c < L
        · rw [if_pos g4, if_pos (by omega)]
          try omega
        · have : ahd hs h c ≠ L := fun z => g3 (s1.mp z)
          rw [if_neg g4, if_neg (by omega)]
          try omega
  · have eN : L + 1 = ahd hs h n := by omega
    have e1 : upto hs (h + 1) n = v + 1 := by rw [upto_h1]; omega
    have hpos : 0 < ahd hs (h + 1) n := by
      have := ahd_lt (hs := hs) (h := h + 1) m1 (by omega)
      omega
    have e : lvl hs n (v + 1) = h + 1 := lvl_eq q (by omega) (by rw [upto_h1]; omega)
    unfold dpt
    rw [e, ← eh, ← eL, e1]
    by_cases g2 : h < hs c
    · rw [if_pos g2, if_neg (show ¬ c = m from fun z => by subst z; omega)]
      by_cases g5 : h + 1 < hs c
      · rw [if_pos g5]
      · rw [if_neg g5, if_neg (by omega)]; omega
    · have l1 := ahd_lt (hs := hs) (h := h) hc (by omega)
      rw [if_neg g2, if_neg (by omega), if_neg (by omega)]
      have s1 := same c (by omega)
      by_cases g3 : c = m
      · have := s1.mpr g3
        rw [if_pos g3, if_neg (by omega)]
        omega
      · have : ahd hs h c ≠ L := fun z => g3 (s1.mp z)
        rw [if_neg g3, if_pos (by omega)]
        omega
