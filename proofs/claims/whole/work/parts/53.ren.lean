/-! RENAMING: cells get other names; what isn't named any more is forgotten -/
theorem Hv.ren {z : Zx} {ad ad' : Nm} {μ μ' : Ce} {H : Heap} (h : Hv z ad μ H) (φ : Nat → Nat → Nat × Nat) (h1 : ∀ k i e, μ' k i = some e → μ (φ k i).1 (φ k i).2 = some e ∧ ad (φ k i).1 (φ k i).2 = ad' k i) (h2 : ∀ k i k' i', μ' k i ≠ none → μ' k' i' ≠ none → φ k i = φ k' i' → k = k' ∧ i = i') : Hv z ad' μ' H := by
  refine h.re (fun k i e he => ⟨(φ k i).1, (φ k i).2, h1 k i e he⟩) (fun k i k' i' hk hk' e => ?_)
  obtain ⟨x, hx⟩ := Option.ne_none_iff_exists'.mp hk
  obtain ⟨y, hy⟩ := Option.ne_none_iff_exists'.mp hk'
  obtain ⟨a1, a2⟩ := h1 k i x hx
  obtain ⟨b1, b2⟩ := h1 k' i' y hy
  obtain ⟨e1, e2⟩ := h.2 _ _ _ _ (by rw [a1]; exact fun q => by cases q) (by rw [b1]; exact fun q => by cases q) (a2.trans (e.trans b2.symm))
  exact h2 k i k' i' hk hk' (Prod.ext e1 e2)
section ZRN
variable {g : Gx} {z : Zx} {nL n k pc : Nat} {ad ad' : Nm} {μ μ' : Ce} {lv : Lv} {st : List Value}
theorem r_ren (φ : Nat → Nat → Nat × Nat) (h1 : ∀ k i e, μ' k i = some e → μ (φ k i).1 (φ k i).2 = some e ∧ ad (φ k i).1 (φ k i).2 = ad' k i) (h2 : ∀ k i k' i', μ' k i ≠ none → μ' k' i' ≠ none → φ k i = φ k' i' → k = k' ∧ i = i') (kk : WW g z nL n k ad' μ' pc lv st) : WW g z nL n k ad μ pc lv st := fun H locs ls M S L => kk H locs ls (M.ren φ h1 h2) S L
end ZRN
