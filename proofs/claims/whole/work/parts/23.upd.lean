/-! WRITES (by mkupd.py): a cell written is the world of numbers with one number changed -/
section ZU
variable {z : Zx} {ad : Nm} {σ τ : Sg} {o : Int64 × UInt64}
theorem u_0_6 {v : Nat} : up2 (Wz z ad σ τ o) 0 0 (.inr (10, [.ref (ad 1 0), .ref (ad 1 1), .ref (ad 1 2), .ref (ad 3 0), .ref (ad 3 1), .ref (ad 7 0), .int (nI v), .int (nI (σ 12 1 0)), .int (nI (σ 31 0 0))])) = Wz z ad (su σ 12 0 0 v) τ o := by
  funext k' i'
  by_cases c : k' = 0 ∧ i' = 0
  · obtain ⟨rfl, rfl⟩ := c
    rw [up2_s]
    simp [Wz, su]
  · rw [up2_n c]
    simp only [Wz]
    split <;> (try rfl) <;> first | (simp_all [su]; done) | (split <;> (try rfl) <;> simp_all [su])
theorem u_0_7 {v : Nat} : up2 (Wz z ad σ τ o) 0 0 (.inr (10, [.ref (ad 1 0), .ref (ad 1 1), .ref (ad 1 2), .ref (ad 3 0), .ref (ad 3 1), .ref (ad 7 0), .int (nI (σ 12 0 0)), .int (nI v), .int (nI (σ 31 0 0))])) = Wz z ad (su σ 12 1 0 v) τ o := by
  funext k' i'
  by_cases c : k' = 0 ∧ i' = 0
  · obtain ⟨rfl, rfl⟩ := c
    rw [up2_s]
    simp [Wz, su]
  · rw [up2_n c]
    simp only [Wz]
    split <;> (try rfl) <;> first | (simp_all [su]; done) | (split <;> (try rfl) <;> simp_all [su])
theorem u_0_8 {v : Nat} : up2 (Wz z ad σ τ o) 0 0 (.inr (10, [.ref (ad 1 0), .ref (ad 1 1), .ref (ad 1 2), .ref (ad 3 0), .ref (ad 3 1), .ref (ad 7 0), .int (nI (σ 12 0 0)), .int (nI (σ 12 1 0)), .int (nI v)])) = Wz z ad (su σ 31 0 0 v) τ o := by
  funext k' i'
  by_cases c : k' = 0 ∧ i' = 0
  · obtain ⟨rfl, rfl⟩ := c
    rw [up2_s]
    simp [Wz, su]
  · rw [up2_n c]
    simp only [Wz]
    split <;> (try rfl) <;> first | (simp_all [su]; done) | (split <;> (try rfl) <;> simp_all [su])
theorem u_1_0 {i : Nat} {v : Nat} (h : i < 3) : up2 (Wz z ad σ τ o) 1 i (.inr (4, [.int (nI v), .ref (if σ 34 i 0 = 0 then z.2.2 0 else ad 2 i), .int (nI (σ 0 i 0))])) = Wz z ad (su σ 33 i 0 v) τ o := by
  funext k' i'
  by_cases c : k' = 1 ∧ i' = i
  · obtain ⟨rfl, rfl⟩ := c
    rw [up2_s]
    simp [Wz, su, h]
  · rw [up2_n c]
    simp only [Wz]
    split <;> (try rfl) <;> first | (simp_all [su]; done) | (split <;> (try rfl) <;> simp_all [su])
theorem u_3_3 {i : Nat} {v : Nat} (h : i < 2) : up2 (Wz z ad σ τ o) 3 i (.inr (9, [.ref (ad 4 i), .ref (ad 5 i), .ref (ad 6 i), .int (nI v)])) = Wz z ad (su σ 6 0 i v) τ o := by
  funext k' i'
  by_cases c : k' = 3 ∧ i' = i
  · obtain ⟨rfl, rfl⟩ := c
    rw [up2_s]
    simp [Wz, su, h]
  · rw [up2_n c]
    simp only [Wz]
    split <;> (try rfl) <;> first | (simp_all [su]; done) | (split <;> (try rfl) <;> simp_all [su])
theorem u_7_2 {v : Nat} : up2 (Wz z ad σ τ o) 7 0 (.inr (1, [.ref (ad 8 0), .int (0), .int (nI v), .int (nI (σ 12 2 0))])) = Wz z ad (su σ 37 0 0 v) τ o := by
  funext k' i'
  by_cases c : k' = 7 ∧ i' = 0
  · obtain ⟨rfl, rfl⟩ := c
    rw [up2_s]
    simp [Wz, su]
  · rw [up2_n c]
    simp only [Wz]
    split <;> (try rfl) <;> first | (simp_all [su]; done) | (split <;> (try rfl) <;> simp_all [su])
theorem u_7_3 {v : Nat} : up2 (Wz z ad σ τ o) 7 0 (.inr (1, [.ref (ad 8 0), .int (0), .int (nI (σ 37 0 0)), .int (nI v)])) = Wz z ad (su σ 12 2 0 v) τ o := by
  funext k' i'
  by_cases c : k' = 7 ∧ i' = 0
  · obtain ⟨rfl, rfl⟩ := c
    rw [up2_s]
    simp [Wz, su]
  · rw [up2_n c]
    simp only [Wz]
    split <;> (try rfl) <;> first | (simp_all [su]; done) | (split <;> (try rfl) <;> simp_all [su])
theorem u_9_6 {i : Nat} {v : Nat} (h : i < σ 0 0 0) : up2 (Wz z ad σ τ o) 9 i (.inr (5, [.int (nI (σ 1 i 0)), .int (nI (σ 1 i 1)), .int (nI (σ 1 i 2)), .int (bw (σ 1 i 3)), .ref (ad 12 i), .ref (ad 13 i), .int (nI v), .int (nI (σ 1 i 5))])) = Wz z ad (su σ 1 i 4 v) τ o := by
  funext k' i'
  by_cases c : k' = 9 ∧ i' = i
  · obtain ⟨rfl, rfl⟩ := c
    rw [up2_s]
    simp [Wz, su, h]
  · rw [up2_n c]
    simp only [Wz]
    split <;> (try rfl) <;> first | (simp_all [su]; done) | (split <;> (try rfl) <;> simp_all [su])
theorem u_9_7 {i : Nat} {v : Nat} (h : i < σ 0 0 0) : up2 (Wz z ad σ τ o) 9 i (.inr (5, [.int (nI (σ 1 i 0)), .int (nI (σ 1 i 1)), .int (nI (σ 1 i 2)), .int (bw (σ 1 i 3)), .ref (ad 12 i), .ref (ad 13 i), .int (nI (σ 1 i 4)), .int (nI v)])) = Wz z ad (su σ 1 i 5 v) τ o := by
  funext k' i'
  by_cases c : k' = 9 ∧ i' = i
  · obtain ⟨rfl, rfl⟩ := c
    rw [up2_s]
    simp [Wz, su, h]
  · rw [up2_n c]
    simp only [Wz]
    split <;> (try rfl) <;> first | (simp_all [su]; done) | (split <;> (try rfl) <;> simp_all [su])
theorem u_11_5 {i : Nat} {v : Nat} (h : i < σ 0 2 0) : up2 (Wz z ad σ τ o) 11 i (.inr (6, [.ref (ad 12 (σ 9 i 0)), .int (nI (σ 9 i 1)), .int (nI (σ 9 i 2)), .int (nI (σ 9 i 3)), .ref (ad 18 i), .int (nI v), .int (nI (σ 9 i 4))])) = Wz z ad (su σ 32 i 0 v) τ o := by
  funext k' i'
  by_cases c : k' = 11 ∧ i' = i
  · obtain ⟨rfl, rfl⟩ := c
    rw [up2_s]
    simp [Wz, su, h]
  · rw [up2_n c]
    simp only [Wz]
    split <;> (try rfl) <;> first | (simp_all [su]; done) | (split <;> (try rfl) <;> simp_all [su])
theorem u_11_6 {i : Nat} {v : Nat} (h : i < σ 0 2 0) : up2 (Wz z ad σ τ o) 11 i (.inr (6, [.ref (ad 12 (σ 9 i 0)), .int (nI (σ 9 i 1)), .int (nI (σ 9 i 2)), .int (nI (σ 9 i 3)), .ref (ad 18 i), .int (nI (σ 32 i 0)), .int (nI v)])) = Wz z ad (su σ 9 i 4 v) τ o := by
  funext k' i'
  by_cases c : k' = 11 ∧ i' = i
  · obtain ⟨rfl, rfl⟩ := c
    rw [up2_s]
    simp [Wz, su, h]
  · rw [up2_n c]
    simp only [Wz]
    split <;> (try rfl) <;> first | (simp_all [su]; done) | (split <;> (try rfl) <;> simp_all [su])
theorem u_12_4 {i : Nat} {v : Nat} (h : i < σ 0 0 0) : up2 (Wz z ad σ τ o) 12 i (.inr (8, [.ref (ad 14 i), .ref (ad 15 i), .ref (ad 16 i), .ref (ad 17 i), .int (nI v)])) = Wz z ad (su σ 1 i 6 v) τ o := by
  funext k' i'
  by_cases c : k' = 12 ∧ i' = i
  · obtain ⟨rfl, rfl⟩ := c
    rw [up2_s]
    simp [Wz, su, h]
  · rw [up2_n c]
    simp only [Wz]
    split <;> (try rfl) <;> first | (simp_all [su]; done) | (split <;> (try rfl) <;> simp_all [su])
theorem u_4 {i : Nat} {j v : Nat} (h : i < 2) : up2 (Wz z ad σ τ o) 4 i (aI z 6 (upd (fun j => nI (σ 3 j i)) j (nI v))) = Wz z ad (su σ 3 j i v) τ o := by
  funext k' i'
  by_cases c : k' = 4 ∧ i' = i
  · obtain ⟨rfl, rfl⟩ := c
    rw [up2_s]
    simp only [Wz, su, Nat.reduceEqDiff, false_and, and_false, if_false, reduceIte, h]
    refine congrArg some (congrArg Sum.inl (Prod.ext rfl (Prod.ext rfl (congrArg Sum.inl (funext fun q => ?_)))))
    by_cases e : q = j
    · subst e; simp [upd]
    · simp [upd, e]
  · rw [up2_n c]
    simp only [Wz]
    split <;> (try rfl) <;> first | (simp_all [su]; done) | (split <;> (try rfl) <;> simp_all [su])
theorem u_5 {i : Nat} {j v : Nat} (h : i < 2) : up2 (Wz z ad σ τ o) 5 i (aI z 6 (upd (fun j => nI (σ 4 j i)) j (nI v))) = Wz z ad (su σ 4 j i v) τ o := by
  funext k' i'
  by_cases c : k' = 5 ∧ i' = i
  · obtain ⟨rfl, rfl⟩ := c
    rw [up2_s]
    simp only [Wz, su, Nat.reduceEqDiff, false_and, and_false, if_false, reduceIte, h]
    refine congrArg some (congrArg Sum.inl (Prod.ext rfl (Prod.ext rfl (congrArg Sum.inl (funext fun q => ?_)))))
    by_cases e : q = j
    · subst e; simp [upd]
    · simp [upd, e]
  · rw [up2_n c]
    simp only [Wz]
    split <;> (try rfl) <;> first | (simp_all [su]; done) | (split <;> (try rfl) <;> simp_all [su])
theorem u_6 {i : Nat} {j v : Nat} (h : i < 2) : up2 (Wz z ad σ τ o) 6 i (aI z 6 (upd (fun j => nI (σ 27 j i)) j (nI v))) = Wz z ad (su σ 27 j i v) τ o := by
  funext k' i'
  by_cases c : k' = 6 ∧ i' = i
  · obtain ⟨rfl, rfl⟩ := c
    rw [up2_s]
    simp only [Wz, su, Nat.reduceEqDiff, false_and, and_false, if_false, reduceIte, h]
    refine congrArg some (congrArg Sum.inl (Prod.ext rfl (Prod.ext rfl (congrArg Sum.inl (funext fun q => ?_)))))
    by_cases e : q = j
    · subst e; simp [upd]
    · simp [upd, e]
  · rw [up2_n c]
    simp only [Wz]
    split <;> (try rfl) <;> first | (simp_all [su]; done) | (split <;> (try rfl) <;> simp_all [su])
theorem u_8 {j v : Nat} : up2 (Wz z ad σ τ o) 8 0 (aB z 16 (upd (fun j => nI (σ 11 0 j)) j (nI v))) = Wz z ad (su σ 11 0 j v) τ o := by
  funext k' i'
  by_cases c : k' = 8 ∧ i' = 0
  · obtain ⟨rfl, rfl⟩ := c
    rw [up2_s]
    simp only [Wz, su, Nat.reduceEqDiff, false_and, and_false, if_false, reduceIte]
    refine congrArg some (congrArg Sum.inl (Prod.ext rfl (Prod.ext rfl (congrArg Sum.inl (funext fun q => ?_)))))
    by_cases e : q = j
    · subst e; simp [upd]
    · simp [upd, e]
  · rw [up2_n c]
    simp only [Wz]
    split <;> (try rfl) <;> first | (simp_all [su]; done) | (split <;> (try rfl) <;> simp_all [su])
theorem u_13 {i : Nat} {j v : Nat} (h : i < σ 0 0 0) : up2 (Wz z ad σ τ o) 13 i (aI z 61 (upd (fun j => nI (σ 5 i j)) j (nI v))) = Wz z ad (su σ 5 i j v) τ o := by
  funext k' i'
  by_cases c : k' = 13 ∧ i' = i
  · obtain ⟨rfl, rfl⟩ := c
    rw [up2_s]
    simp only [Wz, su, Nat.reduceEqDiff, false_and, and_false, if_false, reduceIte, h]
    refine congrArg some (congrArg Sum.inl (Prod.ext rfl (Prod.ext rfl (congrArg Sum.inl (funext fun q => ?_)))))
    by_cases e : q = j
    · subst e; simp [upd]
    · simp [upd, e]
  · rw [up2_n c]
    simp only [Wz]
    split <;> (try rfl) <;> first | (simp_all [su]; done) | (split <;> (try rfl) <;> simp_all [su])
theorem u_14 {i : Nat} {j v : Nat} (h : i < σ 0 0 0) : up2 (Wz z ad σ τ o) 14 i (aI z 8 (upd (fun j => nI (σ 2 i j)) j (nI v))) = Wz z ad (su σ 2 i j v) τ o := by
  funext k' i'
  by_cases c : k' = 14 ∧ i' = i
  · obtain ⟨rfl, rfl⟩ := c
    rw [up2_s]
    simp only [Wz, su, Nat.reduceEqDiff, false_and, and_false, if_false, reduceIte, h]
    refine congrArg some (congrArg Sum.inl (Prod.ext rfl (Prod.ext rfl (congrArg Sum.inl (funext fun q => ?_)))))
    by_cases e : q = j
    · subst e; simp [upd]
    · simp [upd, e]
  · rw [up2_n c]
    simp only [Wz]
    split <;> (try rfl) <;> first | (simp_all [su]; done) | (split <;> (try rfl) <;> simp_all [su])
theorem u_15 {i : Nat} {j v : Nat} (h : i < σ 0 0 0) : up2 (Wz z ad σ τ o) 15 i (aI z 8 (upd (fun j => nI (σ 30 i j)) j (nI v))) = Wz z ad (su σ 30 i j v) τ o := by
  funext k' i'
  by_cases c : k' = 15 ∧ i' = i
  · obtain ⟨rfl, rfl⟩ := c
    rw [up2_s]
    simp only [Wz, su, Nat.reduceEqDiff, false_and, and_false, if_false, reduceIte, h]
    refine congrArg some (congrArg Sum.inl (Prod.ext rfl (Prod.ext rfl (congrArg Sum.inl (funext fun q => ?_)))))
    by_cases e : q = j
    · subst e; simp [upd]
    · simp [upd, e]
  · rw [up2_n c]
    simp only [Wz]
    split <;> (try rfl) <;> first | (simp_all [su]; done) | (split <;> (try rfl) <;> simp_all [su])
theorem u_16 {i : Nat} {j v : Nat} (h : i < σ 0 0 0) : up2 (Wz z ad σ τ o) 16 i (aI z 8 (upd (fun j => nI (σ 35 i j)) j (nI v))) = Wz z ad (su σ 35 i j v) τ o := by
  funext k' i'
  by_cases c : k' = 16 ∧ i' = i
  · obtain ⟨rfl, rfl⟩ := c
    rw [up2_s]
    simp only [Wz, su, Nat.reduceEqDiff, false_and, and_false, if_false, reduceIte, h]
    refine congrArg some (congrArg Sum.inl (Prod.ext rfl (Prod.ext rfl (congrArg Sum.inl (funext fun q => ?_)))))
    by_cases e : q = j
    · subst e; simp [upd]
    · simp [upd, e]
  · rw [up2_n c]
    simp only [Wz]
    split <;> (try rfl) <;> first | (simp_all [su]; done) | (split <;> (try rfl) <;> simp_all [su])
theorem u_17 {i : Nat} {j v : Nat} (h : i < σ 0 0 0) : up2 (Wz z ad σ τ o) 17 i (aI z 61 (upd (fun j => nI (σ 7 i j)) j (nI v))) = Wz z ad (su σ 7 i j v) τ o := by
  funext k' i'
  by_cases c : k' = 17 ∧ i' = i
  · obtain ⟨rfl, rfl⟩ := c
    rw [up2_s]
    simp only [Wz, su, Nat.reduceEqDiff, false_and, and_false, if_false, reduceIte, h]
    refine congrArg some (congrArg Sum.inl (Prod.ext rfl (Prod.ext rfl (congrArg Sum.inl (funext fun q => ?_)))))
    by_cases e : q = j
    · subst e; simp [upd]
    · simp [upd, e]
  · rw [up2_n c]
    simp only [Wz]
    split <;> (try rfl) <;> first | (simp_all [su]; done) | (split <;> (try rfl) <;> simp_all [su])
theorem u_18 {i : Nat} {j v : Nat} (h : i < σ 0 2 0) : up2 (Wz z ad σ τ o) 18 i (aZ z 61 (upd (fun j => nI (σ 10 i j)) j (nI v))) = Wz z ad (su σ 10 i j v) τ o := by
  funext k' i'
  by_cases c : k' = 18 ∧ i' = i
  · obtain ⟨rfl, rfl⟩ := c
    rw [up2_s]
    simp only [Wz, su, Nat.reduceEqDiff, false_and, and_false, if_false, reduceIte, h]
    refine congrArg some (congrArg Sum.inl (Prod.ext rfl (Prod.ext rfl (congrArg Sum.inl (funext fun q => ?_)))))
    by_cases e : q = j
    · subst e; simp [upd]
    · simp [upd, e]
  · rw [up2_n c]
    simp only [Wz]
    split <;> (try rfl) <;> first | (simp_all [su]; done) | (split <;> (try rfl) <;> simp_all [su])
theorem u_20_14 {v : Nat} : up2 (Wz z ad σ τ o) 20 0 (.inr (11, [.int (nI (τ 0 0 0)), .ref (ad 21 1), .ref (ad 21 2), .ref (ad 21 3), .ref (ad 21 4), .ref (ad 21 5), .ref (ad 21 6), .ref (ad 21 7), .ref (ad 21 8), .ref (ad 21 9), .ref (ad 21 10), .ref (ad 21 11), .ref (ad 21 12), .ref (ad 21 13), .int (nI v), .ref (ad 21 15), .ref (ad 21 16), .ref (ad 21 17), .ref (ad 21 18), .ref (ad 21 19), .int (nI (τ 12 0 0)), .int (nI (τ 12 1 0)), .int (nI (τ 6 0 0)), .ref (ad 21 23), .ref (ad 21 24), .int (nI (τ 0 2 0)), .ref (ad 21 26), .ref (ad 21 27), .ref (ad 21 28), .ref (ad 21 29), .ref (ad 21 30), .ref (ad 21 31), .int (nI (τ 71 0 0)), .int (bw (τ 73 0 0)), .int (nI (τ 74 0 0)), .ref (ad 21 35), .int (nI (τ 12 2 0)), .int (nI (τ 72 0 0))])) = Wz z ad σ (su τ 0 1 0 v) o := by
  funext k' i'
  by_cases c : k' = 20 ∧ i' = 0
  · obtain ⟨rfl, rfl⟩ := c
    rw [up2_s]
    simp [Wz, su]
  · rw [up2_n c]
    simp only [Wz]
    split <;> (try rfl) <;> first | (simp_all [su]; done) | (split <;> (try rfl) <;> simp_all [su])
theorem u_20_20 {v : Nat} : up2 (Wz z ad σ τ o) 20 0 (.inr (11, [.int (nI (τ 0 0 0)), .ref (ad 21 1), .ref (ad 21 2), .ref (ad 21 3), .ref (ad 21 4), .ref (ad 21 5), .ref (ad 21 6), .ref (ad 21 7), .ref (ad 21 8), .ref (ad 21 9), .ref (ad 21 10), .ref (ad 21 11), .ref (ad 21 12), .ref (ad 21 13), .int (nI (τ 0 1 0)), .ref (ad 21 15), .ref (ad 21 16), .ref (ad 21 17), .ref (ad 21 18), .ref (ad 21 19), .int (nI v), .int (nI (τ 12 1 0)), .int (nI (τ 6 0 0)), .ref (ad 21 23), .ref (ad 21 24), .int (nI (τ 0 2 0)), .ref (ad 21 26), .ref (ad 21 27), .ref (ad 21 28), .ref (ad 21 29), .ref (ad 21 30), .ref (ad 21 31), .int (nI (τ 71 0 0)), .int (bw (τ 73 0 0)), .int (nI (τ 74 0 0)), .ref (ad 21 35), .int (nI (τ 12 2 0)), .int (nI (τ 72 0 0))])) = Wz z ad σ (su τ 12 0 0 v) o := by
  funext k' i'
  by_cases c : k' = 20 ∧ i' = 0
  · obtain ⟨rfl, rfl⟩ := c
    rw [up2_s]
    simp [Wz, su]
  · rw [up2_n c]
    simp only [Wz]
    split <;> (try rfl) <;> first | (simp_all [su]; done) | (split <;> (try rfl) <;> simp_all [su])
theorem u_20_21 {v : Nat} : up2 (Wz z ad σ τ o) 20 0 (.inr (11, [.int (nI (τ 0 0 0)), .ref (ad 21 1), .ref (ad 21 2), .ref (ad 21 3), .ref (ad 21 4), .ref (ad 21 5), .ref (ad 21 6), .ref (ad 21 7), .ref (ad 21 8), .ref (ad 21 9), .ref (ad 21 10), .ref (ad 21 11), .ref (ad 21 12), .ref (ad 21 13), .int (nI (τ 0 1 0)), .ref (ad 21 15), .ref (ad 21 16), .ref (ad 21 17), .ref (ad 21 18), .ref (ad 21 19), .int (nI (τ 12 0 0)), .int (nI v), .int (nI (τ 6 0 0)), .ref (ad 21 23), .ref (ad 21 24), .int (nI (τ 0 2 0)), .ref (ad 21 26), .ref (ad 21 27), .ref (ad 21 28), .ref (ad 21 29), .ref (ad 21 30), .ref (ad 21 31), .int (nI (τ 71 0 0)), .int (bw (τ 73 0 0)), .int (nI (τ 74 0 0)), .ref (ad 21 35), .int (nI (τ 12 2 0)), .int (nI (τ 72 0 0))])) = Wz z ad σ (su τ 12 1 0 v) o := by
  funext k' i'
  by_cases c : k' = 20 ∧ i' = 0
  · obtain ⟨rfl, rfl⟩ := c
    rw [up2_s]
    simp [Wz, su]
  · rw [up2_n c]
    simp only [Wz]
    split <;> (try rfl) <;> first | (simp_all [su]; done) | (split <;> (try rfl) <;> simp_all [su])
theorem u_20_22 {v : Nat} : up2 (Wz z ad σ τ o) 20 0 (.inr (11, [.int (nI (τ 0 0 0)), .ref (ad 21 1), .ref (ad 21 2), .ref (ad 21 3), .ref (ad 21 4), .ref (ad 21 5), .ref (ad 21 6), .ref (ad 21 7), .ref (ad 21 8), .ref (ad 21 9), .ref (ad 21 10), .ref (ad 21 11), .ref (ad 21 12), .ref (ad 21 13), .int (nI (τ 0 1 0)), .ref (ad 21 15), .ref (ad 21 16), .ref (ad 21 17), .ref (ad 21 18), .ref (ad 21 19), .int (nI (τ 12 0 0)), .int (nI (τ 12 1 0)), .int (nI v), .ref (ad 21 23), .ref (ad 21 24), .int (nI (τ 0 2 0)), .ref (ad 21 26), .ref (ad 21 27), .ref (ad 21 28), .ref (ad 21 29), .ref (ad 21 30), .ref (ad 21 31), .int (nI (τ 71 0 0)), .int (bw (τ 73 0 0)), .int (nI (τ 74 0 0)), .ref (ad 21 35), .int (nI (τ 12 2 0)), .int (nI (τ 72 0 0))])) = Wz z ad σ (su τ 6 0 0 v) o := by
  funext k' i'
  by_cases c : k' = 20 ∧ i' = 0
  · obtain ⟨rfl, rfl⟩ := c
    rw [up2_s]
    simp [Wz, su]
  · rw [up2_n c]
    simp only [Wz]
    split <;> (try rfl) <;> first | (simp_all [su]; done) | (split <;> (try rfl) <;> simp_all [su])
theorem u_20_25 {v : Nat} : up2 (Wz z ad σ τ o) 20 0 (.inr (11, [.int (nI (τ 0 0 0)), .ref (ad 21 1), .ref (ad 21 2), .ref (ad 21 3), .ref (ad 21 4), .ref (ad 21 5), .ref (ad 21 6), .ref (ad 21 7), .ref (ad 21 8), .ref (ad 21 9), .ref (ad 21 10), .ref (ad 21 11), .ref (ad 21 12), .ref (ad 21 13), .int (nI (τ 0 1 0)), .ref (ad 21 15), .ref (ad 21 16), .ref (ad 21 17), .ref (ad 21 18), .ref (ad 21 19), .int (nI (τ 12 0 0)), .int (nI (τ 12 1 0)), .int (nI (τ 6 0 0)), .ref (ad 21 23), .ref (ad 21 24), .int (nI v), .ref (ad 21 26), .ref (ad 21 27), .ref (ad 21 28), .ref (ad 21 29), .ref (ad 21 30), .ref (ad 21 31), .int (nI (τ 71 0 0)), .int (bw (τ 73 0 0)), .int (nI (τ 74 0 0)), .ref (ad 21 35), .int (nI (τ 12 2 0)), .int (nI (τ 72 0 0))])) = Wz z ad σ (su τ 0 2 0 v) o := by
  funext k' i'
  by_cases c : k' = 20 ∧ i' = 0
  · obtain ⟨rfl, rfl⟩ := c
    rw [up2_s]
    simp [Wz, su]
  · rw [up2_n c]
    simp only [Wz]
    split <;> (try rfl) <;> first | (simp_all [su]; done) | (split <;> (try rfl) <;> simp_all [su])
theorem u_20_32 {v : Nat} : up2 (Wz z ad σ τ o) 20 0 (.inr (11, [.int (nI (τ 0 0 0)), .ref (ad 21 1), .ref (ad 21 2), .ref (ad 21 3), .ref (ad 21 4), .ref (ad 21 5), .ref (ad 21 6), .ref (ad 21 7), .ref (ad 21 8), .ref (ad 21 9), .ref (ad 21 10), .ref (ad 21 11), .ref (ad 21 12), .ref (ad 21 13), .int (nI (τ 0 1 0)), .ref (ad 21 15), .ref (ad 21 16), .ref (ad 21 17), .ref (ad 21 18), .ref (ad 21 19), .int (nI (τ 12 0 0)), .int (nI (τ 12 1 0)), .int (nI (τ 6 0 0)), .ref (ad 21 23), .ref (ad 21 24), .int (nI (τ 0 2 0)), .ref (ad 21 26), .ref (ad 21 27), .ref (ad 21 28), .ref (ad 21 29), .ref (ad 21 30), .ref (ad 21 31), .int (nI v), .int (bw (τ 73 0 0)), .int (nI (τ 74 0 0)), .ref (ad 21 35), .int (nI (τ 12 2 0)), .int (nI (τ 72 0 0))])) = Wz z ad σ (su τ 71 0 0 v) o := by
  funext k' i'
  by_cases c : k' = 20 ∧ i' = 0
  · obtain ⟨rfl, rfl⟩ := c
    rw [up2_s]
    simp [Wz, su]
  · rw [up2_n c]
    simp only [Wz]
    split <;> (try rfl) <;> first | (simp_all [su]; done) | (split <;> (try rfl) <;> simp_all [su])
theorem u_20_34 {v : Nat} : up2 (Wz z ad σ τ o) 20 0 (.inr (11, [.int (nI (τ 0 0 0)), .ref (ad 21 1), .ref (ad 21 2), .ref (ad 21 3), .ref (ad 21 4), .ref (ad 21 5), .ref (ad 21 6), .ref (ad 21 7), .ref (ad 21 8), .ref (ad 21 9), .ref (ad 21 10), .ref (ad 21 11), .ref (ad 21 12), .ref (ad 21 13), .int (nI (τ 0 1 0)), .ref (ad 21 15), .ref (ad 21 16), .ref (ad 21 17), .ref (ad 21 18), .ref (ad 21 19), .int (nI (τ 12 0 0)), .int (nI (τ 12 1 0)), .int (nI (τ 6 0 0)), .ref (ad 21 23), .ref (ad 21 24), .int (nI (τ 0 2 0)), .ref (ad 21 26), .ref (ad 21 27), .ref (ad 21 28), .ref (ad 21 29), .ref (ad 21 30), .ref (ad 21 31), .int (nI (τ 71 0 0)), .int (bw (τ 73 0 0)), .int (nI v), .ref (ad 21 35), .int (nI (τ 12 2 0)), .int (nI (τ 72 0 0))])) = Wz z ad σ (su τ 74 0 0 v) o := by
  funext k' i'
  by_cases c : k' = 20 ∧ i' = 0
  · obtain ⟨rfl, rfl⟩ := c
    rw [up2_s]
    simp [Wz, su]
  · rw [up2_n c]
    simp only [Wz]
    split <;> (try rfl) <;> first | (simp_all [su]; done) | (split <;> (try rfl) <;> simp_all [su])
theorem u_20_36 {v : Nat} : up2 (Wz z ad σ τ o) 20 0 (.inr (11, [.int (nI (τ 0 0 0)), .ref (ad 21 1), .ref (ad 21 2), .ref (ad 21 3), .ref (ad 21 4), .ref (ad 21 5), .ref (ad 21 6), .ref (ad 21 7), .ref (ad 21 8), .ref (ad 21 9), .ref (ad 21 10), .ref (ad 21 11), .ref (ad 21 12), .ref (ad 21 13), .int (nI (τ 0 1 0)), .ref (ad 21 15), .ref (ad 21 16), .ref (ad 21 17), .ref (ad 21 18), .ref (ad 21 19), .int (nI (τ 12 0 0)), .int (nI (τ 12 1 0)), .int (nI (τ 6 0 0)), .ref (ad 21 23), .ref (ad 21 24), .int (nI (τ 0 2 0)), .ref (ad 21 26), .ref (ad 21 27), .ref (ad 21 28), .ref (ad 21 29), .ref (ad 21 30), .ref (ad 21 31), .int (nI (τ 71 0 0)), .int (bw (τ 73 0 0)), .int (nI (τ 74 0 0)), .ref (ad 21 35), .int (nI v), .int (nI (τ 72 0 0))])) = Wz z ad σ (su τ 12 2 0 v) o := by
  funext k' i'
  by_cases c : k' = 20 ∧ i' = 0
  · obtain ⟨rfl, rfl⟩ := c
    rw [up2_s]
    simp [Wz, su]
  · rw [up2_n c]
    simp only [Wz]
    split <;> (try rfl) <;> first | (simp_all [su]; done) | (split <;> (try rfl) <;> simp_all [su])
theorem u_20_37 {v : Nat} : up2 (Wz z ad σ τ o) 20 0 (.inr (11, [.int (nI (τ 0 0 0)), .ref (ad 21 1), .ref (ad 21 2), .ref (ad 21 3), .ref (ad 21 4), .ref (ad 21 5), .ref (ad 21 6), .ref (ad 21 7), .ref (ad 21 8), .ref (ad 21 9), .ref (ad 21 10), .ref (ad 21 11), .ref (ad 21 12), .ref (ad 21 13), .int (nI (τ 0 1 0)), .ref (ad 21 15), .ref (ad 21 16), .ref (ad 21 17), .ref (ad 21 18), .ref (ad 21 19), .int (nI (τ 12 0 0)), .int (nI (τ 12 1 0)), .int (nI (τ 6 0 0)), .ref (ad 21 23), .ref (ad 21 24), .int (nI (τ 0 2 0)), .ref (ad 21 26), .ref (ad 21 27), .ref (ad 21 28), .ref (ad 21 29), .ref (ad 21 30), .ref (ad 21 31), .int (nI (τ 71 0 0)), .int (bw (τ 73 0 0)), .int (nI (τ 74 0 0)), .ref (ad 21 35), .int (nI (τ 12 2 0)), .int (nI v)])) = Wz z ad σ (su τ 72 0 0 v) o := by
  funext k' i'
  by_cases c : k' = 20 ∧ i' = 0
  · obtain ⟨rfl, rfl⟩ := c
    rw [up2_s]
    simp [Wz, su]
  · rw [up2_n c]
    simp only [Wz]
    split <;> (try rfl) <;> first | (simp_all [su]; done) | (split <;> (try rfl) <;> simp_all [su])
theorem u_20_33 {v : Nat} : up2 (Wz z ad σ τ o) 20 0 (.inr (11, [.int (nI (τ 0 0 0)), .ref (ad 21 1), .ref (ad 21 2), .ref (ad 21 3), .ref (ad 21 4), .ref (ad 21 5), .ref (ad 21 6), .ref (ad 21 7), .ref (ad 21 8), .ref (ad 21 9), .ref (ad 21 10), .ref (ad 21 11), .ref (ad 21 12), .ref (ad 21 13), .int (nI (τ 0 1 0)), .ref (ad 21 15), .ref (ad 21 16), .ref (ad 21 17), .ref (ad 21 18), .ref (ad 21 19), .int (nI (τ 12 0 0)), .int (nI (τ 12 1 0)), .int (nI (τ 6 0 0)), .ref (ad 21 23), .ref (ad 21 24), .int (nI (τ 0 2 0)), .ref (ad 21 26), .ref (ad 21 27), .ref (ad 21 28), .ref (ad 21 29), .ref (ad 21 30), .ref (ad 21 31), .int (nI (τ 71 0 0)), .int (bw v), .int (nI (τ 74 0 0)), .ref (ad 21 35), .int (nI (τ 12 2 0)), .int (nI (τ 72 0 0))])) = Wz z ad σ (su τ 73 0 0 v) o := by
  funext k' i'
  by_cases c : k' = 20 ∧ i' = 0
  · obtain ⟨rfl, rfl⟩ := c
    rw [up2_s]
    simp [Wz, su]
  · rw [up2_n c]
    simp only [Wz]
    split <;> (try rfl) <;> first | (simp_all [su]; done) | (split <;> (try rfl) <;> simp_all [su])
theorem u_21_1 {j v : Nat} : up2 (Wz z ad σ τ o) 21 1 (aI z 6 (upd (fun j => nI (τ 1 j 0)) j (nI v))) = Wz z ad σ (su τ 1 j 0 v) o := by
  funext k' i'
  by_cases c : k' = 21 ∧ i' = 1
  · obtain ⟨rfl, rfl⟩ := c
    rw [up2_s]
    simp only [Wz, su, Nat.reduceEqDiff, false_and, and_false, if_false, reduceIte]
    refine congrArg some (congrArg Sum.inl (Prod.ext rfl (Prod.ext rfl (congrArg Sum.inl (funext fun q => ?_)))))
    by_cases e : q = j
    · subst e; simp [upd]
    · simp [upd, e]
  · rw [up2_n c]
    simp only [Wz]
    split <;> (try rfl) <;> first | (simp_all [su]; done) | (split <;> (try rfl) <;> simp_all [su])
theorem u_21_2 {j v : Nat} : up2 (Wz z ad σ τ o) 21 2 (aI z 6 (upd (fun j => nI (τ 1 j 1)) j (nI v))) = Wz z ad σ (su τ 1 j 1 v) o := by
  funext k' i'
  by_cases c : k' = 21 ∧ i' = 2
  · obtain ⟨rfl, rfl⟩ := c
    rw [up2_s]
    simp only [Wz, su, Nat.reduceEqDiff, false_and, and_false, if_false, reduceIte]
    refine congrArg some (congrArg Sum.inl (Prod.ext rfl (Prod.ext rfl (congrArg Sum.inl (funext fun q => ?_)))))
    by_cases e : q = j
    · subst e; simp [upd]
    · simp [upd, e]
  · rw [up2_n c]
    simp only [Wz]
    split <;> (try rfl) <;> first | (simp_all [su]; done) | (split <;> (try rfl) <;> simp_all [su])
theorem u_21_3 {j v : Nat} : up2 (Wz z ad σ τ o) 21 3 (aI z 6 (upd (fun j => nI (τ 1 j 2)) j (nI v))) = Wz z ad σ (su τ 1 j 2 v) o := by
  funext k' i'
  by_cases c : k' = 21 ∧ i' = 3
  · obtain ⟨rfl, rfl⟩ := c
    rw [up2_s]
    simp only [Wz, su, Nat.reduceEqDiff, false_and, and_false, if_false, reduceIte]
    refine congrArg some (congrArg Sum.inl (Prod.ext rfl (Prod.ext rfl (congrArg Sum.inl (funext fun q => ?_)))))
    by_cases e : q = j
    · subst e; simp [upd]
    · simp [upd, e]
  · rw [up2_n c]
    simp only [Wz]
    split <;> (try rfl) <;> first | (simp_all [su]; done) | (split <;> (try rfl) <;> simp_all [su])
theorem u_21_5 {j v : Nat} : up2 (Wz z ad σ τ o) 21 5 (aI z 6 (upd (fun j => nI (τ 1 j 4)) j (nI v))) = Wz z ad σ (su τ 1 j 4 v) o := by
  funext k' i'
  by_cases c : k' = 21 ∧ i' = 5
  · obtain ⟨rfl, rfl⟩ := c
    rw [up2_s]
    simp only [Wz, su, Nat.reduceEqDiff, false_and, and_false, if_false, reduceIte]
    refine congrArg some (congrArg Sum.inl (Prod.ext rfl (Prod.ext rfl (congrArg Sum.inl (funext fun q => ?_)))))
    by_cases e : q = j
    · subst e; simp [upd]
    · simp [upd, e]
  · rw [up2_n c]
    simp only [Wz]
    split <;> (try rfl) <;> first | (simp_all [su]; done) | (split <;> (try rfl) <;> simp_all [su])
theorem u_21_6 {j v : Nat} : up2 (Wz z ad σ τ o) 21 6 (aI z 6 (upd (fun j => nI (τ 1 j 5)) j (nI v))) = Wz z ad σ (su τ 1 j 5 v) o := by
  funext k' i'
  by_cases c : k' = 21 ∧ i' = 6
  · obtain ⟨rfl, rfl⟩ := c
    rw [up2_s]
    simp only [Wz, su, Nat.reduceEqDiff, false_and, and_false, if_false, reduceIte]
    refine congrArg some (congrArg Sum.inl (Prod.ext rfl (Prod.ext rfl (congrArg Sum.inl (funext fun q => ?_)))))
    by_cases e : q = j
    · subst e; simp [upd]
    · simp [upd, e]
  · rw [up2_n c]
    simp only [Wz]
    split <;> (try rfl) <;> first | (simp_all [su]; done) | (split <;> (try rfl) <;> simp_all [su])
theorem u_21_7 {j v : Nat} : up2 (Wz z ad σ τ o) 21 7 (aI z 6 (upd (fun j => nI (τ 1 j 6)) j (nI v))) = Wz z ad σ (su τ 1 j 6 v) o := by
  funext k' i'
  by_cases c : k' = 21 ∧ i' = 7
  · obtain ⟨rfl, rfl⟩ := c
    rw [up2_s]
    simp only [Wz, su, Nat.reduceEqDiff, false_and, and_false, if_false, reduceIte]
    refine congrArg some (congrArg Sum.inl (Prod.ext rfl (Prod.ext rfl (congrArg Sum.inl (funext fun q => ?_)))))
    by_cases e : q = j
    · subst e; simp [upd]
    · simp [upd, e]
  · rw [up2_n c]
    simp only [Wz]
    split <;> (try rfl) <;> first | (simp_all [su]; done) | (split <;> (try rfl) <;> simp_all [su])
theorem u_21_9 {j v : Nat} : up2 (Wz z ad σ τ o) 21 9 (aI z 6 (upd (fun j => nI (τ 3 j 0)) j (nI v))) = Wz z ad σ (su τ 3 j 0 v) o := by
  funext k' i'
  by_cases c : k' = 21 ∧ i' = 9
  · obtain ⟨rfl, rfl⟩ := c
    rw [up2_s]
    simp only [Wz, su, Nat.reduceEqDiff, false_and, and_false, if_false, reduceIte]
    refine congrArg some (congrArg Sum.inl (Prod.ext rfl (Prod.ext rfl (congrArg Sum.inl (funext fun q => ?_)))))
    by_cases e : q = j
    · subst e; simp [upd]
    · simp [upd, e]
  · rw [up2_n c]
    simp only [Wz]
    split <;> (try rfl) <;> first | (simp_all [su]; done) | (split <;> (try rfl) <;> simp_all [su])
theorem u_21_10 {j v : Nat} : up2 (Wz z ad σ τ o) 21 10 (aI z 6 (upd (fun j => nI (τ 4 j 0)) j (nI v))) = Wz z ad σ (su τ 4 j 0 v) o := by
  funext k' i'
  by_cases c : k' = 21 ∧ i' = 10
  · obtain ⟨rfl, rfl⟩ := c
    rw [up2_s]
    simp only [Wz, su, Nat.reduceEqDiff, false_and, and_false, if_false, reduceIte]
    refine congrArg some (congrArg Sum.inl (Prod.ext rfl (Prod.ext rfl (congrArg Sum.inl (funext fun q => ?_)))))
    by_cases e : q = j
    · subst e; simp [upd]
    · simp [upd, e]
  · rw [up2_n c]
    simp only [Wz]
    split <;> (try rfl) <;> first | (simp_all [su]; done) | (split <;> (try rfl) <;> simp_all [su])
theorem u_21_11 {j v : Nat} : up2 (Wz z ad σ τ o) 21 11 (aI z 6 (upd (fun j => nI (τ 3 j 2)) j (nI v))) = Wz z ad σ (su τ 3 j 2 v) o := by
  funext k' i'
  by_cases c : k' = 21 ∧ i' = 11
  · obtain ⟨rfl, rfl⟩ := c
    rw [up2_s]
    simp only [Wz, su, Nat.reduceEqDiff, false_and, and_false, if_false, reduceIte]
    refine congrArg some (congrArg Sum.inl (Prod.ext rfl (Prod.ext rfl (congrArg Sum.inl (funext fun q => ?_)))))
    by_cases e : q = j
    · subst e; simp [upd]
    · simp [upd, e]
  · rw [up2_n c]
    simp only [Wz]
    split <;> (try rfl) <;> first | (simp_all [su]; done) | (split <;> (try rfl) <;> simp_all [su])
theorem u_21_12 {j v : Nat} : up2 (Wz z ad σ τ o) 21 12 (aI z 6 (upd (fun j => nI (τ 4 j 2)) j (nI v))) = Wz z ad σ (su τ 4 j 2 v) o := by
  funext k' i'
  by_cases c : k' = 21 ∧ i' = 12
  · obtain ⟨rfl, rfl⟩ := c
    rw [up2_s]
    simp only [Wz, su, Nat.reduceEqDiff, false_and, and_false, if_false, reduceIte]
    refine congrArg some (congrArg Sum.inl (Prod.ext rfl (Prod.ext rfl (congrArg Sum.inl (funext fun q => ?_)))))
    by_cases e : q = j
    · subst e; simp [upd]
    · simp [upd, e]
  · rw [up2_n c]
    simp only [Wz]
    split <;> (try rfl) <;> first | (simp_all [su]; done) | (split <;> (try rfl) <;> simp_all [su])
theorem u_21_13 {j v : Nat} : up2 (Wz z ad σ τ o) 21 13 (aI z 6 (upd (fun j => nI (τ 70 j 0)) j (nI v))) = Wz z ad σ (su τ 70 j 0 v) o := by
  funext k' i'
  by_cases c : k' = 21 ∧ i' = 13
  · obtain ⟨rfl, rfl⟩ := c
    rw [up2_s]
    simp only [Wz, su, Nat.reduceEqDiff, false_and, and_false, if_false, reduceIte]
    refine congrArg some (congrArg Sum.inl (Prod.ext rfl (Prod.ext rfl (congrArg Sum.inl (funext fun q => ?_)))))
    by_cases e : q = j
    · subst e; simp [upd]
    · simp [upd, e]
  · rw [up2_n c]
    simp only [Wz]
    split <;> (try rfl) <;> first | (simp_all [su]; done) | (split <;> (try rfl) <;> simp_all [su])
theorem u_21_15 {j v : Nat} : up2 (Wz z ad σ τ o) 21 15 (aI z 12 (upd (fun j => nI (τ 8 j 0)) j (nI v))) = Wz z ad σ (su τ 8 j 0 v) o := by
  funext k' i'
  by_cases c : k' = 21 ∧ i' = 15
  · obtain ⟨rfl, rfl⟩ := c
    rw [up2_s]
    simp only [Wz, su, Nat.reduceEqDiff, false_and, and_false, if_false, reduceIte]
    refine congrArg some (congrArg Sum.inl (Prod.ext rfl (Prod.ext rfl (congrArg Sum.inl (funext fun q => ?_)))))
    by_cases e : q = j
    · subst e; simp [upd]
    · simp [upd, e]
  · rw [up2_n c]
    simp only [Wz]
    split <;> (try rfl) <;> first | (simp_all [su]; done) | (split <;> (try rfl) <;> simp_all [su])
theorem u_21_16 {j v : Nat} : up2 (Wz z ad σ τ o) 21 16 (aI z 12 (upd (fun j => nI (τ 8 j 1)) j (nI v))) = Wz z ad σ (su τ 8 j 1 v) o := by
  funext k' i'
  by_cases c : k' = 21 ∧ i' = 16
  · obtain ⟨rfl, rfl⟩ := c
    rw [up2_s]
    simp only [Wz, su, Nat.reduceEqDiff, false_and, and_false, if_false, reduceIte]
    refine congrArg some (congrArg Sum.inl (Prod.ext rfl (Prod.ext rfl (congrArg Sum.inl (funext fun q => ?_)))))
    by_cases e : q = j
    · subst e; simp [upd]
    · simp [upd, e]
  · rw [up2_n c]
    simp only [Wz]
    split <;> (try rfl) <;> first | (simp_all [su]; done) | (split <;> (try rfl) <;> simp_all [su])
theorem u_21_17 {j v : Nat} : up2 (Wz z ad σ τ o) 21 17 (aZ z 12 (upd (fun j => nI (τ 8 j 2)) j (nI v))) = Wz z ad σ (su τ 8 j 2 v) o := by
  funext k' i'
  by_cases c : k' = 21 ∧ i' = 17
  · obtain ⟨rfl, rfl⟩ := c
    rw [up2_s]
    simp only [Wz, su, Nat.reduceEqDiff, false_and, and_false, if_false, reduceIte]
    refine congrArg some (congrArg Sum.inl (Prod.ext rfl (Prod.ext rfl (congrArg Sum.inl (funext fun q => ?_)))))
    by_cases e : q = j
    · subst e; simp [upd]
    · simp [upd, e]
  · rw [up2_n c]
    simp only [Wz]
    split <;> (try rfl) <;> first | (simp_all [su]; done) | (split <;> (try rfl) <;> simp_all [su])
theorem u_21_18 {j v : Nat} : up2 (Wz z ad σ τ o) 21 18 (aI z 12 (upd (fun j => nI (τ 8 j 3)) j (nI v))) = Wz z ad σ (su τ 8 j 3 v) o := by
  funext k' i'
  by_cases c : k' = 21 ∧ i' = 18
  · obtain ⟨rfl, rfl⟩ := c
    rw [up2_s]
    simp only [Wz, su, Nat.reduceEqDiff, false_and, and_false, if_false, reduceIte]
    refine congrArg some (congrArg Sum.inl (Prod.ext rfl (Prod.ext rfl (congrArg Sum.inl (funext fun q => ?_)))))
    by_cases e : q = j
    · subst e; simp [upd]
    · simp [upd, e]
  · rw [up2_n c]
    simp only [Wz]
    split <;> (try rfl) <;> first | (simp_all [su]; done) | (split <;> (try rfl) <;> simp_all [su])
theorem u_21_19 {j v : Nat} : up2 (Wz z ad σ τ o) 21 19 (aI z 12 (upd (fun j => nI (τ 8 j 4)) j (nI v))) = Wz z ad σ (su τ 8 j 4 v) o := by
  funext k' i'
  by_cases c : k' = 21 ∧ i' = 19
  · obtain ⟨rfl, rfl⟩ := c
    rw [up2_s]
    simp only [Wz, su, Nat.reduceEqDiff, false_and, and_false, if_false, reduceIte]
    refine congrArg some (congrArg Sum.inl (Prod.ext rfl (Prod.ext rfl (congrArg Sum.inl (funext fun q => ?_)))))
    by_cases e : q = j
    · subst e; simp [upd]
    · simp [upd, e]
  · rw [up2_n c]
    simp only [Wz]
    split <;> (try rfl) <;> first | (simp_all [su]; done) | (split <;> (try rfl) <;> simp_all [su])
theorem u_21_26 {j v : Nat} : up2 (Wz z ad σ τ o) 21 26 (aI z 10 (upd (fun j => nI (τ 9 j 0)) j (nI v))) = Wz z ad σ (su τ 9 j 0 v) o := by
  funext k' i'
  by_cases c : k' = 21 ∧ i' = 26
  · obtain ⟨rfl, rfl⟩ := c
    rw [up2_s]
    simp only [Wz, su, Nat.reduceEqDiff, false_and, and_false, if_false, reduceIte]
    refine congrArg some (congrArg Sum.inl (Prod.ext rfl (Prod.ext rfl (congrArg Sum.inl (funext fun q => ?_)))))
    by_cases e : q = j
    · subst e; simp [upd]
    · simp [upd, e]
  · rw [up2_n c]
    simp only [Wz]
    split <;> (try rfl) <;> first | (simp_all [su]; done) | (split <;> (try rfl) <;> simp_all [su])
theorem u_21_27 {j v : Nat} : up2 (Wz z ad σ τ o) 21 27 (aI z 10 (upd (fun j => nI (τ 9 j 1)) j (nI v))) = Wz z ad σ (su τ 9 j 1 v) o := by
  funext k' i'
  by_cases c : k' = 21 ∧ i' = 27
  · obtain ⟨rfl, rfl⟩ := c
    rw [up2_s]
    simp only [Wz, su, Nat.reduceEqDiff, false_and, and_false, if_false, reduceIte]
    refine congrArg some (congrArg Sum.inl (Prod.ext rfl (Prod.ext rfl (congrArg Sum.inl (funext fun q => ?_)))))
    by_cases e : q = j
    · subst e; simp [upd]
    · simp [upd, e]
  · rw [up2_n c]
    simp only [Wz]
    split <;> (try rfl) <;> first | (simp_all [su]; done) | (split <;> (try rfl) <;> simp_all [su])
theorem u_21_28 {j v : Nat} : up2 (Wz z ad σ τ o) 21 28 (aI z 10 (upd (fun j => nI (τ 9 j 2)) j (nI v))) = Wz z ad σ (su τ 9 j 2 v) o := by
  funext k' i'
  by_cases c : k' = 21 ∧ i' = 28
  · obtain ⟨rfl, rfl⟩ := c
    rw [up2_s]
    simp only [Wz, su, Nat.reduceEqDiff, false_and, and_false, if_false, reduceIte]
    refine congrArg some (congrArg Sum.inl (Prod.ext rfl (Prod.ext rfl (congrArg Sum.inl (funext fun q => ?_)))))
    by_cases e : q = j
    · subst e; simp [upd]
    · simp [upd, e]
  · rw [up2_n c]
    simp only [Wz]
    split <;> (try rfl) <;> first | (simp_all [su]; done) | (split <;> (try rfl) <;> simp_all [su])
theorem u_21_29 {j v : Nat} : up2 (Wz z ad σ τ o) 21 29 (aI z 10 (upd (fun j => nI (τ 9 j 3)) j (nI v))) = Wz z ad σ (su τ 9 j 3 v) o := by
  funext k' i'
  by_cases c : k' = 21 ∧ i' = 29
  · obtain ⟨rfl, rfl⟩ := c
    rw [up2_s]
    simp only [Wz, su, Nat.reduceEqDiff, false_and, and_false, if_false, reduceIte]
    refine congrArg some (congrArg Sum.inl (Prod.ext rfl (Prod.ext rfl (congrArg Sum.inl (funext fun q => ?_)))))
    by_cases e : q = j
    · subst e; simp [upd]
    · simp [upd, e]
  · rw [up2_n c]
    simp only [Wz]
    split <;> (try rfl) <;> first | (simp_all [su]; done) | (split <;> (try rfl) <;> simp_all [su])
theorem u_21_30 {j v : Nat} : up2 (Wz z ad σ τ o) 21 30 (aI z 10 (upd (fun j => nI (τ 9 j 4)) j (nI v))) = Wz z ad σ (su τ 9 j 4 v) o := by
  funext k' i'
  by_cases c : k' = 21 ∧ i' = 30
  · obtain ⟨rfl, rfl⟩ := c
    rw [up2_s]
    simp only [Wz, su, Nat.reduceEqDiff, false_and, and_false, if_false, reduceIte]
    refine congrArg some (congrArg Sum.inl (Prod.ext rfl (Prod.ext rfl (congrArg Sum.inl (funext fun q => ?_)))))
    by_cases e : q = j
    · subst e; simp [upd]
    · simp [upd, e]
  · rw [up2_n c]
    simp only [Wz]
    split <;> (try rfl) <;> first | (simp_all [su]; done) | (split <;> (try rfl) <;> simp_all [su])
theorem u_21_35 {j v : Nat} : up2 (Wz z ad σ τ o) 21 35 (aC z 20 (upd (fun j => nI (τ 11 0 j)) j (nI v))) = Wz z ad σ (su τ 11 0 j v) o := by
  funext k' i'
  by_cases c : k' = 21 ∧ i' = 35
  · obtain ⟨rfl, rfl⟩ := c
    rw [up2_s]
    simp only [Wz, su, Nat.reduceEqDiff, false_and, and_false, if_false, reduceIte]
    refine congrArg some (congrArg Sum.inl (Prod.ext rfl (Prod.ext rfl (congrArg Sum.inl (funext fun q => ?_)))))
    by_cases e : q = j
    · subst e; simp [upd]
    · simp [upd, e]
  · rw [up2_n c]
    simp only [Wz]
    split <;> (try rfl) <;> first | (simp_all [su]; done) | (split <;> (try rfl) <;> simp_all [su])
theorem u_21_8 {a b v : Nat} (h : b < 8) : up2 (Wz z ad σ τ o) 21 8 (aI z 48 (upd (fun j => nI (τ 2 (j / 8) (j % 8))) (8 * a + b) (nI v))) = Wz z ad σ (su τ 2 a b v) o := by
  funext k' i'
  by_cases c : k' = 21 ∧ i' = 8
  · obtain ⟨rfl, rfl⟩ := c
    rw [up2_s]
    simp only [Wz]
    refine congrArg some (congrArg Sum.inl (Prod.ext rfl (Prod.ext rfl (congrArg Sum.inl (funext fun q => ?_)))))
    by_cases e : q = 8 * a + b
    · rw [su, if_pos (by omega)]; simp [upd, e]
    · rw [su, if_neg (by omega)]; simp [upd, e]
  · rw [up2_n c]
    simp only [Wz]
    split <;> (try rfl) <;> first | (simp_all [su]; done) | (split <;> (try rfl) <;> simp_all [su])
theorem u_21_23 {a b v : Nat} (h : a < 6) : up2 (Wz z ad σ τ o) 21 23 (aI z 360 (upd (fun j => nI (τ 5 (j % 6) (j / 6 + 1))) (6 * b + a) (nI v))) = Wz z ad σ (su τ 5 a (b + 1) v) o := by
  funext k' i'
  by_cases c : k' = 21 ∧ i' = 23
  · obtain ⟨rfl, rfl⟩ := c
    rw [up2_s]
    simp only [Wz]
    refine congrArg some (congrArg Sum.inl (Prod.ext rfl (Prod.ext rfl (congrArg Sum.inl (funext fun q => ?_)))))
    by_cases e : q = 6 * b + a
    · rw [su, if_pos (by omega)]; simp [upd, e]
    · rw [su, if_neg (by omega)]; simp [upd, e]
  · rw [up2_n c]
    simp only [Wz]
    split <;> (try rfl) <;> first | (simp_all [su]; done) | (split <;> (try rfl) <;> simp_all [su])
theorem u_21_24 {a b v : Nat} (h : a < 6) : up2 (Wz z ad σ τ o) 21 24 (aI z 360 (upd (fun j => nI (τ 7 (j % 6) (j / 6 + 1))) (6 * b + a) (nI v))) = Wz z ad σ (su τ 7 a (b + 1) v) o := by
  funext k' i'
  by_cases c : k' = 21 ∧ i' = 24
  · obtain ⟨rfl, rfl⟩ := c
    rw [up2_s]
    simp only [Wz]
    refine congrArg some (congrArg Sum.inl (Prod.ext rfl (Prod.ext rfl (congrArg Sum.inl (funext fun q => ?_)))))
    by_cases e : q = 6 * b + a
    · rw [su, if_pos (by omega)]; simp [upd, e]
    · rw [su, if_neg (by omega)]; simp [upd, e]
  · rw [up2_n c]
    simp only [Wz]
    split <;> (try rfl) <;> first | (simp_all [su]; done) | (split <;> (try rfl) <;> simp_all [su])
theorem u_21_31 {a b v : Nat} (h : 0 < b ∧ b ≤ 60) : up2 (Wz z ad σ τ o) 21 31 (aZ z 600 (upd (fun j => nI (τ 10 (j / 60) (j % 60 + 1))) (60 * a + b - 1) (nI v))) = Wz z ad σ (su τ 10 a b v) o := by
  funext k' i'
  by_cases c : k' = 21 ∧ i' = 31
  · obtain ⟨rfl, rfl⟩ := c
    rw [up2_s]
    simp only [Wz]
    refine congrArg some (congrArg Sum.inl (Prod.ext rfl (Prod.ext rfl (congrArg Sum.inl (funext fun q => ?_)))))
    by_cases e : q = 60 * a + b - 1
    · rw [su, if_pos (by omega)]; simp [upd, e]
    · rw [su, if_neg (by omega)]; simp [upd, e]
  · rw [up2_n c]
    simp only [Wz]
    split <;> (try rfl) <;> first | (simp_all [su]; done) | (split <;> (try rfl) <;> simp_all [su])
end ZU
