/-! BACK TO ONE WORLD: a rule is gone; what is added keeps the invariants -/
def adR (ad : Nm) (r : Nat) : Nm := fun k i => if k = 10 ∧ r ≤ i then ad 10 (i + 1) else ad k i
def sRm (σ : Sg) (r : Nat) : Sg := su (rms (su σ 0 1 0 (σ 0 1 0 - 1)) r (σ 0 1 0 - 1)) 33 1 0 (σ 33 1 0 + 1)
theorem sRm_01 {σ : Sg} {r : Nat} : sRm σ r 0 1 0 = σ 0 1 0 - 1 := by unfold sRm; rw [su_n (by omega)]; unfold rms; rw [if_neg (by omega), su_s]
section ZBX
variable {g : Gx} {z : Zx} {nL n k pc : Nat} {ad : Nm} {σ τ : Sg} {o : Int64 × UInt64} {lv : Lv} {st : List Value}
theorem rmF {ad : Nm} {r c : Nat} (hr : r < c) : va_up (va_cpy (lsF ad 10 c) (lsF ad 10 c) (r + 1) r (c - 1 - r)) (c - 1) none = fun j => if j < c - 1 then some (adR ad r 10 j) else none := by
  funext j
  unfold va_up va_cpy lsF adR
  by_cases e : j = c - 1
  · rw [if_pos e, if_neg (by omega)]
  · rw [if_neg e]
    by_cases h1 : r ≤ j ∧ j < r + (c - 1 - r)
    · rw [if_pos h1, if_pos (by omega), if_pos (by omega), if_pos ⟨rfl, h1.1⟩]
      rw [show r + 1 + (j - r) = j + 1 by omega]
    · rw [if_neg h1]
      by_cases h2 : j < c
      · rw [if_pos h2, if_pos (by omega), if_neg (by omega)]
      · rw [if_neg h2, if_neg (by omega)]
theorem sRm_n {σ : Sg} {r f i j : Nat} (h : f ≠ 8) (h0 : ¬ (f = 0 ∧ i = 1 ∧ j = 0)) (h33 : ¬ (f = 33 ∧ i = 1 ∧ j = 0)) : sRm σ r f i j = σ f i j := by
  unfold sRm
  rw [su_n h33]
  unfold rms
  rw [if_neg (fun q => h q.1), su_n h0]
theorem r_rem {r q0 : Nat} (L : InvL σ) (hr : r < σ 0 1 0) (hq : q0 = ad 2 1) (kk : WW g z nL n k (adR ad r) (Wz z (adR ad r) (sRm σ r) τ o) pc lv st) : WW g z nL n k ad (up2 (up2 (Wz z ad σ τ o) 2 1 (aO z (σ 34 1 0) (va_up (va_cpy (lsF ad 10 (σ 0 1 0)) (lsF ad 10 (σ 0 1 0)) (r + 1) r (σ 0 1 0 - 1 - r)) (σ 0 1 0 - 1) none))) 1 1 (.inr (4, [.int (nI (σ 33 1 0 + 1)), .ref q0, .int (nI (σ 0 1 0 - 1))]))) pc lv st := by
  subst hq
  have hL := L 1 (by decide)
  have e34 : sRm σ r 34 1 0 = σ 34 1 0 := sRm_n (by decide) (by omega) (by omega)
  have e0 : sRm σ r 0 1 0 = σ 0 1 0 - 1 := by unfold sRm; rw [su_n (by omega)]; unfold rms; rw [if_neg (by omega), su_s]
  have e33 : sRm σ r 33 1 0 = σ 33 1 0 + 1 := su_s
  refine r_ren (fun k i => if k = 10 ∧ r ≤ i then (10, i + 1) else (k, i)) (fun k i x hx => ?_) (fun k i k' i' _ _ hp => ?_) kk
  · by_cases c1 : k = 1 ∧ i = 1
    · obtain ⟨rfl, rfl⟩ := c1
      rw [W_1 (by decide), e33, e34, e0, if_neg (by omega)] at hx
      rw [if_neg (by omega)]
      exact ⟨up2_s.trans hx, rfl⟩
    by_cases c2 : k = 2 ∧ i = 1
    · obtain ⟨rfl, rfl⟩ := c2
      rw [W_2 ⟨by decide, by rw [e34]; omega⟩, e34, e0] at hx
      rw [if_neg (by omega)]
      refine ⟨(up2_n (by omega)).trans (up2_s.trans ?_), rfl⟩
      rw [rmF hr]
      exact hx
    by_cases c3 : k = 10
    · subst c3
      have hi : i < σ 0 1 0 - 1 := by
        by_cases h : i < σ 0 1 0 - 1
        · exact h
        · rw [show Wz z (adR ad r) (sRm σ r) τ o 10 i = none from if_neg (by rw [e0]; exact h)] at hx
          cases hx
      rw [W_10 (by rw [e0]; exact hi)] at hx
      by_cases h : r ≤ i
      · rw [if_pos ⟨rfl, h⟩]
        have e8 : ∀ j, j < 5 → sRm σ r 8 i j = σ 8 (i + 1) j := by
          intro j hj
          unfold sRm
          rw [su_n (by omega)]
          unfold rms
          rw [if_pos ⟨rfl, h, hi, hj⟩, su_n (by omega)]
        rw [e8 0 (by decide), e8 1 (by decide), e8 2 (by decide), e8 3 (by decide), e8 4 (by decide)] at hx
        refine ⟨(up2_n (by show ¬ ((10 : Nat) = 1 ∧ _); omega)).trans ((up2_n (by show ¬ ((10 : Nat) = 2 ∧ _); omega)).trans ((W_10 (by show i + 1 < _; omega)).trans hx)), ?_⟩
        unfold adR
        rw [if_pos ⟨rfl, h⟩]
      · rw [if_neg (fun q => h q.2)]
        have e8 : ∀ j, sRm σ r 8 i j = σ 8 i j := by
          intro j
          unfold sRm
          rw [su_n (by omega)]
          unfold rms
          rw [if_neg (by omega), su_n (by omega)]
        rw [e8, e8, e8, e8, e8] at hx
        refine ⟨(up2_n (by omega)).trans ((up2_n (by omega)).trans ((W_10 (by show i < _; omega)).trans hx)), ?_⟩
        unfold adR
        rw [if_neg (fun q => h q.2)]
    rw [if_neg (fun q => c3 q.1)]
    refine ⟨(up2_n c1).trans ((up2_n c2).trans (Eq.trans ?_ hx)), (if_neg (fun q => c3 q.1)).symm⟩
    show Wz z ad σ τ o k i = Wz z (adR ad r) (sRm σ r) τ o k i
    match k with
    | 0 => rfl
    | 1 => exact wz_1 (sRm_n (by decide) (by omega) (by omega)) (sRm_n (by decide) (by omega) (by omega)) (sRm_n (by decide) (by omega) (by omega)) (if_neg (by omega))
    | 2 => exact wz_2 (sRm_n (by decide) (by omega) (by omega)) (sRm_n (by decide) (by omega) (by omega)) (fun h3 j hj => if_neg (by omega))
    | 3 => rfl
    | 4 => rfl
    | 5 => rfl
    | 6 => rfl
    | 7 => rfl
    | 8 => rfl
    | 9 => rfl
    | 10 => exact absurd rfl c3
    | 11 => rfl
    | 12 => rfl
    | 13 => rfl
    | 14 => rfl
    | 15 => rfl
    | 16 => rfl
    | 17 => rfl
    | 18 => rfl
    | 19 => rfl
    | 20 => rfl
    | 21 => rfl
    | n + 22 => rfl
  · by_cases c : k = 10 ∧ r ≤ i <;> by_cases c' : k' = 10 ∧ r ≤ i'
    · rw [if_pos c, if_pos c'] at hp
      have := congrArg Prod.snd hp
      exact ⟨c.1.trans c'.1.symm, by simpa using this⟩
    · rw [if_pos c, if_neg c'] at hp
      have h1 := congrArg Prod.fst hp
      have h2 := congrArg Prod.snd hp
      simp only at h1 h2
      omega
    · rw [if_neg c, if_pos c'] at hp
      have h1 := congrArg Prod.fst hp
      have h2 := congrArg Prod.snd hp
      simp only at h1 h2
      omega
    · rw [if_neg c, if_neg c'] at hp
      exact ⟨congrArg Prod.fst hp, congrArg Prod.snd hp⟩
end ZBX
-- the lists' elements, data
section ZEL
variable {z : Zx} {ad : Nm} {σ τ : Sg} {o : Int64 × UInt64}
theorem hD_W {li : Nat} (L : InvL σ) (h : li < 3) : HD z ad (Wz z ad σ τ o) li (σ 34 li 0) (σ 0 li 0) (lsF ad (9 + li) (σ 0 li 0)) (if σ 34 li 0 = 0 then z.2.2 0 else ad 2 li) := by
  have hL := L li h
  by_cases c : σ 34 li 0 = 0
  · exact Or.inl ⟨if_pos c, c, by omega, if_neg (fun q => q.2 c)⟩
  · exact Or.inr ⟨if_neg c, c, W_2 ⟨h, c⟩⟩
theorem HD.mu {μ : Ce} {li n c D K I : Nat} {f : Nat → Option Nat} {e : va_E} (h : HD z ad μ li n c f D) (hK : K ≠ 2) : HD z ad (up2 μ K I e) li n c f D := by
  rcases h with ⟨a1, a2, a3, a4⟩ | ⟨a1, a2, a3⟩
  · exact Or.inl ⟨a1, a2, a3, (up2_n (fun q => hK q.1.symm)).trans a4⟩
  · exact Or.inr ⟨a1, a2, (up2_n (fun q => hK q.1.symm)).trans a3⟩
theorem HD.nm {μ : Ce} {li n c D K I q : Nat} {f : Nat → Option Nat} (h : HD z ad μ li n c f D) (hK : K ≠ 2) : HD z (nmu ad K I q) μ li n c f D := by
  rcases h with ⟨a1, a2, a3, a4⟩ | ⟨a1, a2, a3⟩
  · exact Or.inl ⟨a1, a2, a3, a4⟩
  · exact Or.inr ⟨a1.trans (nmu_n (fun q => hK q.1.symm)).symm, a2, a3⟩
/-- the elements of the list li are objects (9 + li, j) of class ci -/
def ElK (ci kE c : Nat) (ad : Nm) (μ : Ce) (f : Nat → Option Nat) : Prop := ∀ i q, f i = some q → i < c ∧ (∃ fs, μ kE i = some (.inr (ci, fs))) ∧ ad kE i = q
theorem ElK.mu {ci kE c K I : Nat} {μ : Ce} {f : Nat → Option Nat} {e : va_E} (h : ElK ci kE c ad μ f) (hK : ¬ (K = kE ∧ I < c)) : ElK ci kE c ad (up2 μ K I e) f := by
  intro i q hq
  obtain ⟨a, ⟨fs, b⟩, d⟩ := h i q hq
  exact ⟨a, ⟨fs, (up2_n (by rintro ⟨rfl, rfl⟩; exact hK ⟨rfl, a⟩)).trans b⟩, d⟩
theorem ElK.nm {ci kE c K I x : Nat} {μ : Ce} {f : Nat → Option Nat} (h : ElK ci kE c ad μ f) (hK : ¬ (K = kE ∧ I < c)) : ElK ci kE c (nmu ad K I x) μ f := by
  intro i q hq
  obtain ⟨a, b, d⟩ := h i q hq
  exact ⟨a, b, (nmu_n (by rintro ⟨rfl, rfl⟩; exact hK ⟨rfl, a⟩)).trans d⟩
theorem ElK.els {ci kE c : Nat} {μ : Ce} {f : Nat → Option Nat} (h : ElK ci kE c ad μ f) : Els ci ad μ f := by
  intro i q hq
  obtain ⟨-, ⟨fs, b⟩, d⟩ := h i q hq
  exact ⟨kE, i, fs, b, d⟩
theorem el_9 : ElK 5 9 (σ 0 0 0) ad (Wz z ad σ τ o) (lsF ad 9 (σ 0 0 0)) := fun i q hq => by
  obtain ⟨a, b⟩ := el_f hq
  exact ⟨a, ⟨_, W_9 a⟩, b⟩
theorem el_10 : ElK 7 10 (σ 0 1 0) ad (Wz z ad σ τ o) (lsF ad 10 (σ 0 1 0)) := fun i q hq => by
  obtain ⟨a, b⟩ := el_f hq
  exact ⟨a, ⟨_, W_10 a⟩, b⟩
theorem el_11 : ElK 6 11 (σ 0 2 0) ad (Wz z ad σ τ o) (lsF ad 11 (σ 0 2 0)) := fun i q hq => by
  obtain ⟨a, b⟩ := el_f hq
  exact ⟨a, ⟨_, W_11 a⟩, b⟩
end ZEL
/-- add, whatever room there is -/
theorem k_add_U {z : Zx} {l : Launch} {ad : Nm} {μ : Ce} (hl : l.stackTraces = false) {li m c n D ci kv iv e0 cv : Nat} {f : Nat → Option Nat} {r : vw_C} {vs : List Value} (h1 : μ 1 li = some (.inr (4, [.int (nI m), .ref D, .int (nI c)]))) (hD : HD z ad μ li n c f D) (hcn : c ≤ n) (hn : n ≤ 100) (hc2 : c ≤ 20) (h90 : μ 90 0 = none) (h4 : 4 ≠ ci) (hr : vwCl[ci]? = some r) (hca : (r.1, "java/lang/Object") ∈ caZ) (hel : Els ci ad μ f) (hf : ∀ j, c ≤ j → f j = none) (hk1 : kv ≠ 1) (hk2 : kv ≠ 2) (hv : μ kv iv = some (.inr (cv, vs))) (ha0 : ad kv iv = e0) (hcv : ∀ r : vw_C, vwCl[cv]? = some r → (r.1, "java/lang/Object") ∈ caZ) :
    Ko z l yJx4a65c_add_9ea2d cJx4a65c_add_9ea2d 2 (some .boolean) 5 1 30 [.ref (ad 1 li), .ref e0] ad μ (fun v' ad' μ' => ∃ q : Nat, v' = some (.int (nI 1)) ∧ ad' = nmu ad 2 li q ∧ μ' = up2 (up2 μ 2 li (aO z (cap' c n) (va_up f c (some e0)))) 1 li (.inr (4, [.int (nI (m + 1)), .ref q, .int (nI (c + 1))]))) exNo := by
  rcases hD with ⟨rfl, rfl, rfl, h2⟩ | ⟨rfl, h0, h2⟩
  · have e : f = fun _ => none := by funext j; exact hf j (Nat.zero_le _)
    subst e
    exact k_Jx4a65c_add_9ea2d_E hl h1 h2 hk1 hk2 hv ha0 hcv
  · by_cases q : c < n
    · unfold cap'
      rw [if_pos q]
      exact k_Jx4a65c_add_9ea2d_R hl h1 h2 q hn hk1 hk2 hv ha0 hcv
    · have e : n = c := by omega
      subst e
      unfold cap'
      rw [if_neg q]
      exact k_Jx4a65c_add_9ea2d_F hl h1 h2 (by omega) hc2 h90 h4 hr hca hel hf hk1 hk2 hv ha0 hcv
