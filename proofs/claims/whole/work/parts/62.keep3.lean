/-! WHAT IS ADDED: shared numbers, the class's own numbers -/
theorem agr_sL {σ σ' : Sg} {li : Nat} (h : agr (su σ 0 li 0 (σ 0 li 0 + 1)) σ') : agr (sL σ li) σ' := by
  unfold sL
  exact (h.sx (by decide)).sx (by decide)
theorem InvL.sL {σ : Sg} (L : InvL σ) {li : Nat} (hl : li < 3) (hc : σ 0 li 0 ≤ 20) : InvL (sL σ li) := by
  intro l h
  have hL := L l h
  by_cases e : l = li
  · subst e
    rw [sL_0, sL_34]
    exact ⟨cap_lt _ _, capn_le hL.2 hc⟩
  · rw [sL_n (by omega), sL_n (by omega)]
    exact hL
theorem InvL.cg {σ σ' : Sg} (L : InvL σ) (h0 : ∀ i, σ' 0 i 0 = σ 0 i 0) (h34 : ∀ i, σ' 34 i 0 = σ 34 i 0) : InvL σ' := by
  intro l h
  rw [h0, h34]
  exact L l h
theorem ICo.rule {σ : Sg} (C : ICo σ) (hn : σ 0 1 0 < 12) {a b c d e : Nat} : ICo (sRu σ a b c d e) := by
  obtain ⟨c1, c2, c3, c4, c5, c6⟩ := C
  have hL : InvL (sRu σ a b c d e) := InvL.sL (InvL.cg c1 (fun _ => rfl) (fun _ => rfl)) (by decide) (by show σ 0 1 0 ≤ 20; omega)
  refine ⟨hL, c2, c3, c4.trans (fld_cg (σ := σ) (σ' := sRu σ a b c d e) rfl (fun _ => rfl) rfl rfl _).symm, c5, c6⟩
theorem agr_rule {σ : Sg} {a b c d e : Nat} : agr (sRu σ a b c d e) (su (su (su (su (su (su σ 8 (σ 0 1 0) 0 a) 8 (σ 0 1 0) 1 b) 8 (σ 0 1 0) 2 c) 8 (σ 0 1 0) 3 d) 8 (σ 0 1 0) 4 e) 0 1 0 (σ 0 1 0 + 1)) := agr_sL agr.rf
theorem agr_house {σ : Sg} {a b c d : Nat} : agr (sHo σ a b c d) (su (su (su (su (su σ 9 (σ 0 2 0) 0 a) 9 (σ 0 2 0) 1 b) 9 (σ 0 2 0) 2 c) 9 (σ 0 2 0) 3 d) 0 2 0 (σ 0 2 0 + 1)) := by
  refine agr_sL ?_
  exact ((agr.rf (σ := su (su (su (su σ 9 (σ 0 2 0) 0 a) 9 (σ 0 2 0) 1 b) 9 (σ 0 2 0) 2 c) 9 (σ 0 2 0) 3 d)).sx (by decide)).put
theorem sHo_32 {σ : Sg} {a b c d k : Nat} : sHo σ a b c d 32 k 0 = if k = σ 0 2 0 then 0 else σ 32 k 0 := by
  unfold sHo
  rw [sL_f (by decide) (by decide) (by decide)]
  by_cases h : k = σ 0 2 0
  · rw [if_pos h, h, su_s]
  · rw [if_neg h, su_n (by omega), su_n (by omega), su_n (by omega), su_n (by omega), su_n (by omega)]
theorem ICo.house {σ : Sg} (C : ICo σ) (hn : σ 0 2 0 < 10) (hz : ∀ h, σ 10 (σ 0 2 0) h = 0) {a b c d : Nat} : ICo (sHo σ a b c d) := by
  obtain ⟨c1, c2, c3, c4, c5, c6⟩ := C
  have hL : InvL (sHo σ a b c d) := InvL.sL (InvL.cg c1 (fun _ => rfl) (fun _ => rfl)) (by decide) (by show σ 0 2 0 ≤ 20; omega)
  refine ⟨hL, c2, c3, c4.trans (fld_cg (σ := σ) (σ' := sHo σ a b c d) rfl (fun _ => rfl) rfl rfl _).symm, ?_, c6⟩
  intro k hk
  have hk' : k < σ 0 2 0 + 1 := hk
  rw [sHo_32]
  have e : clm (sHo σ a b c d) k = clm σ k := rfl
  rw [e]
  by_cases h : k = σ 0 2 0
  · rw [if_pos h, h, clm_0 hz]
  · rw [if_neg h]; exact c5 k (by omega)
theorem agr.spx {σ σ' : Sg} (h : agr σ σ') {f b : Nat} {p : Nat → Nat} (hf : 20 ≤ f) : agr (sp σ f b p) σ' := by
  intro f' i j a c
  unfold sp
  rw [if_neg (fun q => by omega)]
  exact h f' i j a c
theorem agr_basin {σ : Sg} {a d w b h : Nat} : agr (sBa σ a d w b h) (su (su (su (su (su (su (su σ 1 (σ 0 0 0) 0 a) 1 (σ 0 0 0) 1 d) 1 (σ 0 0 0) 2 w) 1 (σ 0 0 0) 3 b) 2 (σ 0 0 0) 0 h) 1 (σ 0 0 0) 6 1) 0 0 0 (σ 0 0 0 + 1)) := by
  refine agr_sL ?_
  exact (((agr.rf (σ := su (su (su (su (su (su σ 1 (σ 0 0 0) 0 a) 1 (σ 0 0 0) 1 d) 1 (σ 0 0 0) 2 w) 1 (σ 0 0 0) 3 b) 2 (σ 0 0 0) 0 h) 1 (σ 0 0 0) 6 1)).spx (by decide)).spx (by decide)).put
theorem ICo.basin {σ : Sg} (C : ICo σ) (hn : σ 0 0 0 < 6) (h12 : σ 12 0 0 = 0) {a d w b h : Nat} : ICo (sBa σ a d w b h) := by
  obtain ⟨c1, c2, c3, c4, c5, c6⟩ := C
  have hL : InvL (sBa σ a d w b h) := InvL.sL (InvL.cg c1 (fun _ => rfl) (fun _ => rfl)) (by decide) (by show σ 0 0 0 ≤ 20; omega)
  refine ⟨hL, ?_, c3, ?_, c5, c6⟩
  · intro b' c hb hc
    have hb' : b' < σ 0 0 0 + 1 := hb
    unfold sBa at hc ⊢
    rw [sL_f (f := 1) (by decide) (by decide) (by decide), sp_rw (f' := 1) (by decide), sp_rw (f' := 1) (by decide)] at hc
    rw [sL_f (f := 30) (by decide) (by decide) (by decide), sL_f (f := 1) (by decide) (by decide) (by decide), sL_f (f := 2) (by decide) (by decide) (by decide), sp_rw (f' := 30) (by decide), sp_rw (f' := 1) (by decide), sp_rw (f' := 1) (by decide), sp_rw (f' := 2) (by decide), sp_rw (f' := 2) (by decide)]
    by_cases e : b' = σ 0 0 0
    · subst e
      rw [su_s] at hc
      rw [sp_s, su_s]
      have hc0 : c = 0 := by omega
      subst hc0
      show 0 = dryF _ 1 0
      unfold dryF
      simp [ahd, upto]
    · rw [su_n (by omega)] at hc
      rw [sp_n (by omega), su_n (by omega)]
      have e2 : (su (su (su (su (su (su σ 1 (σ 0 0 0) 0 a) 1 (σ 0 0 0) 1 d) 1 (σ 0 0 0) 2 w) 1 (σ 0 0 0) 3 b) 2 (σ 0 0 0) 0 h) 1 (σ 0 0 0) 6 1) 2 b' = σ 2 b' := by
        funext x
        simp [su, e]
      have e6 : (su (su (su (su (su σ 1 (σ 0 0 0) 0 a) 1 (σ 0 0 0) 1 d) 1 (σ 0 0 0) 2 w) 1 (σ 0 0 0) 3 b) 2 (σ 0 0 0) 0 h) 1 b' 6 = σ 1 b' 6 := by simp [su, e]
      rw [e6] at hc
      have e7 : (su (su (su (su (su (su σ 1 (σ 0 0 0) 0 a) 1 (σ 0 0 0) 1 d) 1 (σ 0 0 0) 2 w) 1 (σ 0 0 0) 3 b) 2 (σ 0 0 0) 0 h) 1 (σ 0 0 0) 6 1) 1 b' 6 = σ 1 b' 6 := (su_n (by omega)).trans e6
      rw [e2, e7]
      exact c2 b' c (by omega) hc
  · show σ 31 0 0 = fld (sBa σ a d w b h) (σ 12 0 0)
    rw [c4, h12]
    rfl
theorem agr_rem {σ : Sg} {r : Nat} : agr (sRm σ r) (rms (su σ 0 1 0 (σ 0 1 0 - 1)) r (σ 0 1 0 - 1)) := by
  unfold sRm
  exact agr.rf.sx (by decide)
theorem ICo.rem {σ : Sg} (C : ICo σ) {r : Nat} : ICo (sRm σ r) := by
  obtain ⟨c1, c2, c3, c4, c5, c6⟩ := C
  have e : ∀ f i j, f ≠ 8 → f ≠ 0 → f ≠ 33 → sRm σ r f i j = σ f i j := fun f i j h1 h2 h3 => sRm_n h1 (by omega) (by omega)
  have e00 : ∀ i, i ≠ 1 → sRm σ r 0 i 0 = σ 0 i 0 := fun i hi => sRm_n (by decide) (by omega) (by omega)
  have ef : ∀ f, f ≠ 8 → f ≠ 0 → f ≠ 33 → sRm σ r f = σ f := fun f h1 h2 h3 => by funext i j; exact e f i j h1 h2 h3
  refine ⟨?_, ?_, ?_, ?_, ?_, ?_⟩
  · intro l h
    have hL := c1 l h
    rw [e 34 l 0 (by decide) (by decide) (by decide)]
    by_cases q : l = 1
    · subst q
      have e0 : sRm σ r 0 1 0 = σ 0 1 0 - 1 := by unfold sRm; rw [su_n (by omega)]; unfold rms; rw [if_neg (by omega), su_s]
      rw [e0]
      omega
    · rw [e00 l q]
      exact hL
  · unfold InvD at *
    rw [e00 0 (by decide), ef 1 (by decide) (by decide) (by decide), ef 2 (by decide) (by decide) (by decide), ef 30 (by decide) (by decide) (by decide)]
    exact c2
  · rw [ef 3 (by decide) (by decide) (by decide), ef 4 (by decide) (by decide) (by decide)]
    exact c3
  · rw [ef 31 (by decide) (by decide) (by decide), ef 12 (by decide) (by decide) (by decide), c4]
    have hf : ∀ n, fld (sRm σ r) n = fld σ n := by
      intro n
      induction n with
      | zero => rfl
      | succ n ih => rw [fld, fld, ih, ef 1 (by decide) (by decide) (by decide), ef 2 (by decide) (by decide) (by decide), ef 7 (by decide) (by decide) (by decide), e00 0 (by decide)]
    exact (hf _).symm
  · intro k hk
    rw [e00 2 (by decide)] at hk
    rw [ef 32 (by decide) (by decide) (by decide)]
    unfold clm
    rw [ef 10 (by decide) (by decide) (by decide)]
    exact c5 k hk
  · rw [ef 37 (by decide) (by decide) (by decide)]
    exact c6
