/-! THE MODEL'S HOUR -/
def mra (τ : Sg) (n : Nat) : Sg := fun f i j => if f = 3 ∧ (i < n ∧ j = 0) then τ 3 i 0 + τ 1 i 5 else ra τ n f i j
theorem mra_0 {τ : Sg} : mra τ 0 = τ := by
  funext f i j
  unfold mra
  rw [if_neg (fun q => Nat.not_lt_zero _ q.2.1), ra_0]
theorem mra_1 {τ : Sg} {n : Nat} : su (su (su (mra τ n) 3 n 0 (τ 3 n 0 + τ 1 n 5)) 12 1 0 (τ 12 1 0 + sumT (fun b => τ 1 b 5) n + τ 1 n 5)) 5 n (τ 12 0 0 + 1) (τ 1 n 5) = mra τ (n + 1) := by
  funext f i j
  by_cases h3 : f = 3
  · subst h3
    rw [su_n (by omega), su_n (by omega)]
    unfold mra
    by_cases e : i = n ∧ j = 0
    · rw [e.1, e.2, su_s, if_pos ⟨rfl, Nat.lt_succ_self n, rfl⟩]
    · rw [su_n (by omega)]
      show (if 3 = 3 ∧ (i < n ∧ j = 0) then τ 3 i 0 + τ 1 i 5 else ra τ n 3 i j) = _
      by_cases q : i < n ∧ j = 0
      · rw [if_pos ⟨rfl, q⟩, if_pos ⟨rfl, by omega, q.2⟩]
      · rw [if_neg (fun z => q z.2), if_neg (fun z => by omega)]; rfl
  · have e1 : ∀ m a b, mra τ m f a b = ra τ m f a b := fun m a b => if_neg (fun q => h3 q.1)
    rw [e1 (n + 1), ← ra_1]
    by_cases e5 : f = 5 ∧ i = n ∧ j = τ 12 0 0 + 1
    · rw [e5.1, e5.2.1, e5.2.2, su_s, su_n (by omega), su_s]
    · rw [su_n e5]
      by_cases e12 : f = 12 ∧ i = 1 ∧ j = 0
      · rw [e12.1, e12.2.1, e12.2.2, su_s, su_s]
      · rw [su_n e12, su_n e12, su_n (by omega), su_n e5, e1]
theorem mra_V {τ : Sg} : (fun i => mra τ (τ 0 0 0) 3 i 0) = mvR (ra τ (τ 0 0 0)) (τ 12 0 0 + 1) (fun i => τ 3 i 0) := by
  funext i
  show mra τ (τ 0 0 0) 3 i 0 = fst (τ 0 0 0) (fun b => τ 3 b 0 + ra τ (τ 0 0 0) 5 b (τ 12 0 0 + 1)) (fun i => τ 3 i 0) i
  by_cases h : i < τ 0 0 0
  · rw [fst_lt h]
    have e1 : mra τ (τ 0 0 0) 3 i 0 = τ 3 i 0 + τ 1 i 5 := if_pos ⟨rfl, h, rfl⟩
    have e2 : ra τ (τ 0 0 0) 5 i (τ 12 0 0 + 1) = τ 1 i 5 := if_pos ⟨rfl, h, rfl⟩
    rw [e1, e2]
  · rw [fst_ge h]
    exact if_neg (fun q => h q.2.1)
theorem mvO_fo {σ : Sg} {fo h : Nat} {V : Nat → Nat} : mvO σ 0 fo h V = mvO σ 0 0 h V := by
  funext b
  unfold mvO lvg opF
  rw [if_neg (by omega), if_neg (by omega)]
theorem mvV_fo {σ : Sg} {fo h : Nat} {V S : Nat → Nat} : mvV σ 0 fo h V S = mvV σ 0 0 h V S := by unfold mvV mvG; rw [mvO_fo]
theorem mvS_fo {σ : Sg} {fo h : Nat} {V S : Nat → Nat} : mvS σ 0 fo h V S = mvS σ 0 0 h V S := by unfold mvS mvG; rw [mvO_fo]
def mhO (τ : Sg) : Nat → Nat := mvO (ra τ (τ 0 0 0)) 0 0 (τ 12 0 0 + 1) (fun i => τ 3 i 0)
def mhF (τ : Sg) : Sg := msw (mra τ (τ 0 0 0)) 0 (mvV (ra τ (τ 0 0 0)) 0 0 (τ 12 0 0 + 1) (fun i => τ 3 i 0) (fun i => τ 4 i 0)) (mvS (ra τ (τ 0 0 0)) 0 0 (τ 12 0 0 + 1) (fun i => τ 3 i 0) (fun i => τ 4 i 0)) (fst (τ 0 0 0) (mhO τ) (fun i => τ 70 i 0))
def mhour (τ : Sg) : Sg := su (vo (su (mhF τ) 6 0 0 (τ 6 0 0 + mhO τ 0)) (τ 0 0 0)) 12 0 0 (τ 12 0 0 + 1)
theorem agr_ra0 {σ σ' : Sg} (h : agr σ σ') {n : Nat} : agr (ra σ n) (ra σ' n) := by
  intro f i j hf hj
  unfold ra
  rw [h 12 0 0 (by decide) (fun q => by omega), h 12 1 0 (by decide) (fun q => by omega), h.fn (f := 1) (by decide) (by decide) (by decide) (by decide), h f i j hf hj]
theorem agr.ra {σ σ' : Sg} (h : agr σ σ') {n : Nat} : agr (ra σ n) (ra σ' n) := agr_ra0 h
theorem agr_vo0 {σ σ' : Sg} (h : agr σ σ') {n : Nat} : agr (vo σ n) (vo σ' n) := by
  intro f i j hf hj
  unfold vo
  rw [h 12 0 0 (by decide) (fun q => by omega), h 4 i 0 (by decide) (fun _ => rfl), h f i j hf hj]
theorem agr.vo {σ σ' : Sg} (h : agr σ σ') {n : Nat} : agr (vo σ n) (vo σ' n) := agr_vo0 h
theorem agr_mv0 {σ σ' : Sg} (h : agr σ σ') {fx fo t : Nat} : agr (mv σ 0 fx fo t) (mv σ' 0 fx fo t) := by
  have e0 := h.fn (f := 0) (by decide) (by decide) (by decide) (by decide)
  have e1 := h.fn (f := 1) (by decide) (by decide) (by decide) (by decide)
  have e5 := h.fn (f := 5) (by decide) (by decide) (by decide) (by decide)
  have e8 := h.fn (f := 8) (by decide) (by decide) (by decide) (by decide)
  have e3 : (fun i => σ 3 i 0) = fun i => σ' 3 i 0 := funext fun i => h 3 i 0 (by decide) (fun _ => rfl)
  have e4 : (fun i => σ 4 i 0) = fun i => σ' 4 i 0 := funext fun i => h 4 i 0 (by decide) (fun _ => rfl)
  have eO : ∀ V, mvO σ fx fo t V = mvO σ' fx fo t V := fun V => by unfold mvO mvR; rw [e0, e1, e5, e8]
  have eV : ∀ V S, mvV σ fx fo t V S = mvV σ' fx fo t V S := fun V S => by unfold mvV mvG mvO mvR; rw [e0, e1, e5, e8]
  have eS : ∀ V S, mvS σ fx fo t V S = mvS σ' fx fo t V S := fun V S => by unfold mvS mvG mvO mvR; rw [e0, e1, e5, e8]
  intro f i j hf hj
  unfold mv
  rw [e3, e4, eV, eS, eO, e0, e1, h 6 0 0 (by decide) (fun _ => rfl)]
  unfold sw
  by_cases c1 : f = 3 ∧ j = 0
  · rw [if_pos c1, if_pos c1]
  · rw [if_neg c1, if_neg c1]
    by_cases c2 : f = 4 ∧ j = 0
    · rw [if_pos c2, if_pos c2]
    · rw [if_neg c2, if_neg c2]
      by_cases c3 : f = 6 ∧ (i = 0 ∧ j = 0)
      · rw [if_pos c3, if_pos c3]
      · rw [if_neg c3, if_neg c3, if_neg (fun q => by omega), if_neg (fun q => by omega)]
        exact h f i j hf hj
theorem agr.mv {σ σ' : Sg} (h : agr σ σ') {fx fo t : Nat} : agr (mv σ 0 fx fo t) (mv σ' 0 fx fo t) := agr_mv0 h
theorem agr.hr {σ σ' : Sg} (h : agr σ σ') : agr (hour σ) (hour σ') := by
  have e0 := h 0 0 0 (by decide) (fun q => by omega)
  have e12 := h 12 0 0 (by decide) (fun q => by omega)
  have h1 : agr (hourW σ) (hourW σ') := by
    unfold hourW
    rw [e0, e12]
    exact h.ra.mv.vo
  unfold hour
  rw [e12]
  exact ((h1.sx (by decide)).tr (agr.rf.sx (by decide)).sy).put
theorem agr_mhour {τ : Sg} (I : InvB τ) (hb : 0 < τ 0 0 0) : agr (mhour τ) (hour τ) := by
  have hG := gtR_0 (σ := τ) I (O := mhO τ) (Nat.le_refl (τ 0 0 0))
  rw [if_neg (by omega)] at hG
  unfold mhour hour
  refine agr.put (agr.tr ?_ (agr.sx agr.rf (by decide)).sy)
  unfold hourW
  refine agr.vo ?_
  intro f i j hf hj
  unfold mv sw
  by_cases c3 : f = 6 ∧ (i = 0 ∧ j = 0)
  · obtain ⟨rfl, rfl, rfl⟩ := c3
    rw [su_s, if_neg (by omega), if_neg (by omega), if_pos ⟨rfl, rfl, rfl⟩]
    show τ 6 0 0 + mhO τ 0 = τ 6 0 0 + gtR (τ 1) (mhO τ) (τ 0 0 0)
    rw [hG]
  · rw [su_n (by omega)]
    unfold mhF msw
    by_cases c1 : f = 3 ∧ j = 0
    · rw [if_pos c1, if_pos c1]; rfl
    · rw [if_neg c1, if_neg c1]
      by_cases c2 : f = 4 ∧ j = 0
      · rw [if_pos c2, if_pos c2]; rfl
      · rw [if_neg c2, if_neg c2, if_neg (by omega), if_neg c3, if_neg (by omega)]
        exact if_neg (fun q => c1 ⟨q.1, q.2.2⟩)
theorem IMo.mhr {τ : Sg} (M : IMo τ) : IMo (mhour τ) := by
  obtain ⟨m1, m2, m3⟩ := M
  refine ⟨m1, m2, fun b hb => ⟨?_, (m3 b hb).2⟩⟩
  exact (show mra τ (τ 0 0 0) 3 b 2 = 0 from (if_neg (fun q => by omega)).trans (m3 b hb).1)
theorem hrs_nb {σ : Sg} : ∀ n, hrs σ n 0 0 0 = σ 0 0 0
  | 0 => rfl
  | n + 1 => by show hrs σ n 0 0 0 = _; exact hrs_nb n
