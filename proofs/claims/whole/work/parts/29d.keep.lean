/-! PURE 8: what keeps the invariants -/
theorem mv_hi {σ : Sg} (I : InvB σ) {h : Nat} (hz : ∀ b, σ 0 0 0 ≤ b → σ 3 b 0 = 0 ∧ σ 4 b 0 = 0) {b : Nat} (hb : σ 0 0 0 ≤ b) : mv σ 0 0 0 h 3 b 0 = 0 ∧ mv σ 0 0 0 h 4 b 0 = 0 := by
  have h1 := mvV_lo (fx := 0) (fo := 0) (h := h) (V := fun i => σ 3 i 0) (S := fun i => σ 4 i 0) I (Nat.le_refl _) hz b hb
  exact ⟨sw_3.trans h1.1, sw_4.trans h1.2⟩
theorem IR.hr {σ : Sg} (Q : IR σ) (hc : σ 12 0 0 < 60) : IR (hour σ) := by
  obtain ⟨I, ⟨V1, V2⟩, Z1, Z2⟩ := Q
  have I1 := I.rain (Nat.le_refl (σ 0 0 0))
  refine ⟨I.hr (fun b => (V1 b).1) (fun b => (V1 b).2) hc, ⟨fun b => ⟨?_, ?_⟩, fun b hb => ?_⟩, fun b hb => ?_, Z2⟩
  · exact (show mv (ra σ (σ 0 0 0)) 0 0 0 (σ 12 0 0 + 1) 3 b 0 ≤ 2000 from by
      rw [mv, sw_3]; exact mvV_le I1 (Nat.zero_le 10) (fun b => (V1 b).1) b)
  · exact (show mv (ra σ (σ 0 0 0)) 0 0 0 (σ 12 0 0 + 1) 4 b 0 ≤ 4000 * (σ 12 0 0 + 1) from by
      rw [mv, sw_4]
      have := mvS_le (fx := 0) (fo := 0) (h := σ 12 0 0 + 1) (V := fun i => σ 3 i 0) (S := fun i => σ 4 i 0) I1 (Nat.zero_le 10) (fun b => (V1 b).1) b
      have h2 := (V1 b).2
      exact Nat.le_trans this (by show σ 4 b 0 + 4000 ≤ _; omega))
  · exact mv_hi (σ := ra σ (σ 0 0 0)) I1 V2 hb
  · obtain ⟨z1, z2, z3⟩ := Z1 b hb
    refine ⟨z1, fun h => ⟨?_, ?_⟩, z3⟩
    · have : ra σ (σ 0 0 0) 5 b h = σ 5 b h := by
        unfold ra
        have hb' : ¬ b < σ 0 0 0 := Nat.not_lt.mpr hb
        rw [if_neg (fun q => hb' q.2.1), if_neg (by omega)]
      exact this.trans (z2 h).1
    · have hb' : ¬ b < σ 0 0 0 := Nat.not_lt.mpr hb
      have : vo (mv (ra σ (σ 0 0 0)) 0 0 0 (σ 12 0 0 + 1)) (σ 0 0 0) 7 b h = mv (ra σ (σ 0 0 0)) 0 0 0 (σ 12 0 0 + 1) 7 b h := if_neg (fun q => hb' q.2.1)
      exact this.trans (z2 h).2
theorem wsm_cgS {hei ba : Nat → Nat → Nat} {S S' : Nat → Nat} : ∀ {n : Nat}, (∀ b, b < n → S' b = S b) → wsm hei ba S' n = wsm hei ba S n
  | 0, _ => rfl
  | n + 1, h => by rw [wsm, wsm, wsm_cgS (fun b hb => h b (by omega)), h n (by omega)]
theorem fld_cg2 {σ σ' : Sg} (h0 : σ' 0 0 0 = σ 0 0 0) (h1 : ∀ b, σ' 1 b 6 = σ 1 b 6) (h2 : σ' 2 = σ 2) : ∀ n, (∀ b h, b < σ 0 0 0 → h ≤ n → σ' 7 b h = σ 7 b h) → fld σ' n = fld σ n
  | 0, _ => rfl
  | n + 1, h7 => by rw [fld, fld, fld_cg2 h0 h1 h2 n (fun b h hb hh => h7 b h hb (by omega)), h2, h0, wsm_cg h1, wsm_cgS (fun b hb => h7 b (n + 1) hb (Nat.le_refl _))]
theorem ICo.hr {σ : Sg} (C : ICo σ) : ICo (hour σ) := by
  obtain ⟨c1, c2, c3, c4, c5, c6⟩ := C
  refine ⟨c1, c2, c3, ?_, c5, c6⟩
  have e7 : ∀ b h, b < σ 0 0 0 → hour σ 7 b h = if h = σ 12 0 0 + 1 then hourW σ 4 b 0 else σ 7 b h := by
    intro b h hb
    show vo (mv (ra σ (σ 0 0 0)) 0 0 0 (σ 12 0 0 + 1)) (σ 0 0 0) 7 b h = _
    by_cases e : h = σ 12 0 0 + 1
    · rw [if_pos e]
      exact if_pos ⟨rfl, hb, e⟩
    · rw [if_neg e]
      exact if_neg (fun q => e q.2.2)
  have e1 : fld (hour σ) (σ 12 0 0) = fld σ (σ 12 0 0) := fld_cg2 (σ := σ) (σ' := hour σ) rfl (fun _ => rfl) rfl _ (fun b h hb hh => by rw [e7 b h hb, if_neg (by omega)])
  have e2 : wsm (hour σ 2) (hour σ 1) (fun b => hour σ 7 b (σ 12 0 0 + 1)) (σ 0 0 0) = wsm (σ 2) (σ 1) (fun b => hourW σ 4 b 0) (σ 0 0 0) := wsm_cgS (fun b hb => by rw [e7 b _ hb, if_pos rfl])
  show σ 31 0 0 + wsm (σ 2) (σ 1) (fun b => hourW σ 4 b 0) (σ 0 0 0) = fld (hour σ) (σ 12 0 0) + wsm (hour σ 2) (hour σ 1) (fun b => hour σ 7 b (σ 12 0 0 + 1)) (σ 0 0 0)
  rw [e1, e2, c4]
theorem hrs_clock {σ : Sg} : ∀ n, hrs σ n 12 0 0 = σ 12 0 0 + n
  | 0 => rfl
  | n + 1 => by show hrs σ n 12 0 0 + 1 = _; rw [hrs_clock n]; rfl
theorem IR.hrs {σ : Sg} (Q : IR σ) : ∀ n, σ 12 0 0 + n ≤ 60 → IR (hrs σ n)
  | 0, _ => Q
  | n + 1, h => (IR.hrs Q n (by omega)).hr (by rw [hrs_clock]; omega)
theorem ICo.hrs {σ : Sg} (C : ICo σ) : ∀ n, ICo (hrs σ n)
  | 0 => C
  | n + 1 => (ICo.hrs C n).hr
theorem IR.agr {σ σ' : Sg} (Q : IR σ) (h : agr σ' σ) : IR σ' := by
  have e : ∀ f, f < 20 → f ≠ 3 → f ≠ 4 → f ≠ 6 → σ' f = σ f := fun f h1 h2 h3 h4 => by funext i j; exact h f i j h1 (fun q => by omega)
  have e3 : ∀ b, σ' 3 b 0 = σ 3 b 0 := fun b => h 3 b 0 (by decide) (fun _ => rfl)
  have e4 : ∀ b, σ' 4 b 0 = σ 4 b 0 := fun b => h 4 b 0 (by decide) (fun _ => rfl)
  unfold IR InvB InvV InvZ at *
  simp only [e3, e4, e 0 (by decide) (by decide) (by decide) (by decide), e 1 (by decide) (by decide) (by decide) (by decide), e 2 (by decide) (by decide) (by decide) (by decide), e 5 (by decide) (by decide) (by decide) (by decide), e 7 (by decide) (by decide) (by decide) (by decide), e 8 (by decide) (by decide) (by decide) (by decide), e 9 (by decide) (by decide) (by decide) (by decide), e 10 (by decide) (by decide) (by decide) (by decide), e 12 (by decide) (by decide) (by decide) (by decide), e 11 (by decide) (by decide) (by decide) (by decide)]
  exact Q
theorem acell_6 {σ : Sg} {b h : Nat} : acell σ b h 1 b 6 = σ 1 b 6 + 1 := by unfold acell; rw [sp_f (by decide), sp_f (by decide), su_s]
