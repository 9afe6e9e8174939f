/-! THE STATE: numbers by field, index, index; the world's cells out of them.
f = 0: 0 basins, 1 rules, 2 houses; 12: 0 clock, 1 rain so far, 2 length of the line; 1: basin i: 0 area 1 depth 2 width 3 below + 1 4 hand 5 rain 6 cells; 2: heights; 3: volume; 4: street; 5: rain in hour; 6: river; 7: street at the end of hour; 8: rule j: 0 basin 1 observed 2 isFrom 3 level 4 opening; 9: house k: 0 basin 1 cell 2 rate 3 cover 4 paid; 10: claimed; 11: line.
3 j 1, 4 j 1, 6 0 1: the class's trial; 3 j 2, 4 j 2: the model's. 20 to 59: the class alone (27 leaving; 30 dry up to; 31 wet so far; 32 claims of a house; 33 modCount; 34 places of a list; 35 poured; 37 maybeLatin1). From 60: the model alone (70 outs; 71 claims; 72 code; 73 fixed basin + 1; 74 fixed opening). -/
abbrev Sg : Type := Nat → Nat → Nat → Nat
def su (σ : Sg) (f i j v : Nat) : Sg := fun f' i' j' => if f' = f ∧ i' = i ∧ j' = j then v else σ f' i' j'
theorem su_s {σ : Sg} {f i j v : Nat} : su σ f i j v f i j = v := if_pos ⟨rfl, rfl, rfl⟩
theorem su_n {σ : Sg} {f i j v f' i' j' : Nat} (h : ¬ (f' = f ∧ i' = i ∧ j' = j)) : su σ f i j v f' i' j' = σ f' i' j' := if_neg h
/-- below as it is stored: NONE is -1 -/
def bw (b : Nat) : Int32 := nI b - 1
def Wz (z : Zx) (ad : Nm) (σ τ : Sg) (o : Int64 × UInt64) : Ce := fun k i => match k with
  | 0 => if i = 0 then some (.inr (10, [.ref (ad 1 0), .ref (ad 1 1), .ref (ad 1 2), .ref (ad 3 0), .ref (ad 3 1), .ref (ad 7 0), .int (nI (σ 12 0 0)), .int (nI (σ 12 1 0)), .int (nI (σ 31 0 0))])) else none
  | 1 => if i < 3 then some (.inr (4, [.int (nI (σ 33 i 0)), .ref (if σ 34 i 0 = 0 then z.2.2 0 else ad 2 i), .int (nI (σ 0 i 0))])) else none
  | 2 => if i < 3 ∧ σ 34 i 0 ≠ 0 then some (aO z (σ 34 i 0) (fun j => if j < σ 0 i 0 then some (ad (9 + i) j) else none)) else none
  | 3 => if i < 2 then some (.inr (9, [.ref (ad 4 i), .ref (ad 5 i), .ref (ad 6 i), .int (nI (σ 6 0 i))])) else none
  | 4 => if i < 2 then some (aI z 6 (fun j => nI (σ 3 j i))) else none
  | 5 => if i < 2 then some (aI z 6 (fun j => nI (σ 4 j i))) else none
  | 6 => if i < 2 then some (aI z 6 (fun j => nI (σ 27 j i))) else none
  | 7 => if i = 0 then some (.inr (1, [.ref (ad 8 0), .int 0, .int (nI (σ 37 0 0)), .int (nI (σ 12 2 0))])) else none
  | 8 => if i = 0 then some (aB z 16 (fun j => nI (σ 11 0 j))) else none
  | 9 => if i < σ 0 0 0 then some (.inr (5, [.int (nI (σ 1 i 0)), .int (nI (σ 1 i 1)), .int (nI (σ 1 i 2)), .int (bw (σ 1 i 3)), .ref (ad 12 i), .ref (ad 13 i), .int (nI (σ 1 i 4)), .int (nI (σ 1 i 5))])) else none
  | 10 => if i < σ 0 1 0 then some (.inr (7, [.int (nI (σ 8 i 0)), .int (nI (σ 8 i 1)), .int (nI (σ 8 i 2)), .int (nI (σ 8 i 3)), .int (nI (σ 8 i 4))])) else none
  | 11 => if i < σ 0 2 0 then some (.inr (6, [.ref (ad 12 (σ 9 i 0)), .int (nI (σ 9 i 1)), .int (nI (σ 9 i 2)), .int (nI (σ 9 i 3)), .ref (ad 18 i), .int (nI (σ 32 i 0)), .int (nI (σ 9 i 4))])) else none
  | 12 => if i < σ 0 0 0 then some (.inr (8, [.ref (ad 14 i), .ref (ad 15 i), .ref (ad 16 i), .ref (ad 17 i), .int (nI (σ 1 i 6))])) else none
  | 13 => if i < σ 0 0 0 then some (aI z 61 (fun h => nI (σ 5 i h))) else none
  | 14 => if i < σ 0 0 0 then some (aI z 8 (fun c => nI (σ 2 i c))) else none
  | 15 => if i < σ 0 0 0 then some (aI z 8 (fun c => nI (σ 30 i c))) else none
  | 16 => if i < σ 0 0 0 then some (aI z 8 (fun c => nI (σ 35 i c))) else none
  | 17 => if i < σ 0 0 0 then some (aI z 61 (fun h => nI (σ 7 i h))) else none
  | 18 => if i < σ 0 2 0 then some (aZ z 61 (fun h => nI (σ 10 i h))) else none
  | 19 => match i with
    | 0 => some (aJ z 1 (fun _ => o.1))
    | 1 => some (aD z 1 (fun _ => o.2))
    | _ => none
  | 20 => if i = 0 then some (.inr (11, [.int (nI (τ 0 0 0)), .ref (ad 21 1), .ref (ad 21 2), .ref (ad 21 3), .ref (ad 21 4), .ref (ad 21 5), .ref (ad 21 6), .ref (ad 21 7), .ref (ad 21 8), .ref (ad 21 9), .ref (ad 21 10), .ref (ad 21 11), .ref (ad 21 12), .ref (ad 21 13), .int (nI (τ 0 1 0)), .ref (ad 21 15), .ref (ad 21 16), .ref (ad 21 17), .ref (ad 21 18), .ref (ad 21 19), .int (nI (τ 12 0 0)), .int (nI (τ 12 1 0)), .int (nI (τ 6 0 0)), .ref (ad 21 23), .ref (ad 21 24), .int (nI (τ 0 2 0)), .ref (ad 21 26), .ref (ad 21 27), .ref (ad 21 28), .ref (ad 21 29), .ref (ad 21 30), .ref (ad 21 31), .int (nI (τ 71 0 0)), .int (bw (τ 73 0 0)), .int (nI (τ 74 0 0)), .ref (ad 21 35), .int (nI (τ 12 2 0)), .int (nI (τ 72 0 0))])) else none
  | 21 => match i with
    | 1 => some (aI z 6 (fun j => nI (τ 1 j 0)))
    | 2 => some (aI z 6 (fun j => nI (τ 1 j 1)))
    | 3 => some (aI z 6 (fun j => nI (τ 1 j 2)))
    | 4 => some (aI z 6 (fun j => if j < τ 0 0 0 then bw (τ 1 j 3) else 0))
    | 5 => some (aI z 6 (fun j => nI (τ 1 j 4)))
    | 6 => some (aI z 6 (fun j => nI (τ 1 j 5)))
    | 7 => some (aI z 6 (fun j => nI (τ 1 j 6)))
    | 8 => some (aI z 48 (fun j => nI (τ 2 (j / 8) (j % 8))))
    | 9 => some (aI z 6 (fun j => nI (τ 3 j 0)))
    | 10 => some (aI z 6 (fun j => nI (τ 4 j 0)))
    | 11 => some (aI z 6 (fun j => nI (τ 3 j 2)))
    | 12 => some (aI z 6 (fun j => nI (τ 4 j 2)))
    | 13 => some (aI z 6 (fun j => nI (τ 70 j 0)))
    | 15 => some (aI z 12 (fun j => nI (τ 8 j 0)))
    | 16 => some (aI z 12 (fun j => nI (τ 8 j 1)))
    | 17 => some (aZ z 12 (fun j => nI (τ 8 j 2)))
    | 18 => some (aI z 12 (fun j => nI (τ 8 j 3)))
    | 19 => some (aI z 12 (fun j => nI (τ 8 j 4)))
    | 23 => some (aI z 360 (fun j => nI (τ 5 (j % 6) (j / 6 + 1))))
    | 24 => some (aI z 360 (fun j => nI (τ 7 (j % 6) (j / 6 + 1))))
    | 26 => some (aI z 10 (fun j => nI (τ 9 j 0)))
    | 27 => some (aI z 10 (fun j => nI (τ 9 j 1)))
    | 28 => some (aI z 10 (fun j => nI (τ 9 j 2)))
    | 29 => some (aI z 10 (fun j => nI (τ 9 j 3)))
    | 30 => some (aI z 10 (fun j => nI (τ 9 j 4)))
    | 31 => some (aZ z 600 (fun j => nI (τ 10 (j / 60) (j % 60 + 1))))
    | 35 => some (aC z 20 (fun j => nI (τ 11 0 j)))
    | _ => none
  | _ => none
section ZW
variable {z : Zx} {ad : Nm} {σ τ : Sg} {o : Int64 × UInt64} {i : Nat}
theorem W_9 (h : i < σ 0 0 0) : Wz z ad σ τ o 9 i = some (.inr (5, [.int (nI (σ 1 i 0)), .int (nI (σ 1 i 1)), .int (nI (σ 1 i 2)), .int (bw (σ 1 i 3)), .ref (ad 12 i), .ref (ad 13 i), .int (nI (σ 1 i 4)), .int (nI (σ 1 i 5))])) := if_pos h
theorem W_1 (h : i < 3) : Wz z ad σ τ o 1 i = some (.inr (4, [.int (nI (σ 33 i 0)), .ref (if σ 34 i 0 = 0 then z.2.2 0 else ad 2 i), .int (nI (σ 0 i 0))])) := if_pos h
theorem W_2 (h : i < 3 ∧ σ 34 i 0 ≠ 0) : Wz z ad σ τ o 2 i = some (aO z (σ 34 i 0) (fun j => if j < σ 0 i 0 then some (ad (9 + i) j) else none)) := if_pos h
theorem W_3 (h : i < 2) : Wz z ad σ τ o 3 i = some (.inr (9, [.ref (ad 4 i), .ref (ad 5 i), .ref (ad 6 i), .int (nI (σ 6 0 i))])) := if_pos h
theorem W_4 (h : i < 2) : Wz z ad σ τ o 4 i = some (aI z 6 (fun j => nI (σ 3 j i))) := if_pos h
theorem W_5 (h : i < 2) : Wz z ad σ τ o 5 i = some (aI z 6 (fun j => nI (σ 4 j i))) := if_pos h
theorem W_6 (h : i < 2) : Wz z ad σ τ o 6 i = some (aI z 6 (fun j => nI (σ 27 j i))) := if_pos h
theorem W_10 (h : i < σ 0 1 0) : Wz z ad σ τ o 10 i = some (.inr (7, [.int (nI (σ 8 i 0)), .int (nI (σ 8 i 1)), .int (nI (σ 8 i 2)), .int (nI (σ 8 i 3)), .int (nI (σ 8 i 4))])) := if_pos h
theorem W_11 (h : i < σ 0 2 0) : Wz z ad σ τ o 11 i = some (.inr (6, [.ref (ad 12 (σ 9 i 0)), .int (nI (σ 9 i 1)), .int (nI (σ 9 i 2)), .int (nI (σ 9 i 3)), .ref (ad 18 i), .int (nI (σ 32 i 0)), .int (nI (σ 9 i 4))])) := if_pos h
theorem W_12 (h : i < σ 0 0 0) : Wz z ad σ τ o 12 i = some (.inr (8, [.ref (ad 14 i), .ref (ad 15 i), .ref (ad 16 i), .ref (ad 17 i), .int (nI (σ 1 i 6))])) := if_pos h
theorem W_13 (h : i < σ 0 0 0) : Wz z ad σ τ o 13 i = some (aI z 61 (fun h => nI (σ 5 i h))) := if_pos h
theorem W_14 (h : i < σ 0 0 0) : Wz z ad σ τ o 14 i = some (aI z 8 (fun c => nI (σ 2 i c))) := if_pos h
theorem W_15 (h : i < σ 0 0 0) : Wz z ad σ τ o 15 i = some (aI z 8 (fun c => nI (σ 30 i c))) := if_pos h
theorem W_16 (h : i < σ 0 0 0) : Wz z ad σ τ o 16 i = some (aI z 8 (fun c => nI (σ 35 i c))) := if_pos h
theorem W_17 (h : i < σ 0 0 0) : Wz z ad σ τ o 17 i = some (aI z 61 (fun h => nI (σ 7 i h))) := if_pos h
theorem W_18 (h : i < σ 0 2 0) : Wz z ad σ τ o 18 i = some (aZ z 61 (fun h => nI (σ 10 i h))) := if_pos h
end ZW
/-- a property as a number -/
def pI (c : Prop) [Decidable c] : Int32 := if c then 1 else 0
theorem pI_eq0 {c : Prop} [Decidable c] : pI c = 0 ↔ ¬ c := by
  unfold pI
  by_cases h : c
  · rw [if_pos h]; exact ⟨fun q => absurd q (by decide), fun q => absurd h q⟩
  · rw [if_neg h]; exact ⟨fun _ => h, fun _ => rfl⟩
theorem pI_nar {c : Prop} [Decidable c] : narrow .boolean (.int (pI c)) = .int (pI c) := by
  unfold pI
  by_cases h : c
  · rw [if_pos h]; rfl
  · rw [if_neg h]; rfl
-- numbers
theorem n0_eq {a : Nat} (h : a < 2 ^ 31) : nI a = 0 ↔ a = 0 := by rw [show (0 : Int32) = nI 0 from rfl]; exact nI_eq h (by decide)
theorem n0_lt {a : Nat} (h : a < 2 ^ 31) : nI a < 0 ↔ False := ⟨fun q => nI_pos h q, fun q => q.elim⟩
theorem n0_le {a : Nat} (h : a < 2 ^ 31) : nI a ≤ 0 ↔ a = 0 := by rw [show (0 : Int32) = nI 0 from rfl, nI_leI h (by decide)]; omega
theorem n0_ge {a : Nat} (h : a < 2 ^ 31) : 0 ≤ nI a ↔ True := ⟨fun _ => trivial, fun _ => nI_pos' h⟩
theorem n0_gt {a : Nat} (h : a < 2 ^ 31) : 0 < nI a ↔ 0 < a := by rw [show (0 : Int32) = nI 0 from rfl, nI_ltI (by decide) h]
theorem ic_1 (a : Nat) : nI a + Int32.ofInt 1 = nI (a + 1) := nI_1 a
theorem nI_z {b : Nat} (hb : b < 2 ^ 31) (h : 0 < b) : ¬ nI b = 0 := fun q => by rw [n0_eq hb] at q; omega
/-- the same world, the answer r -/
def okV (v : Option Value) (ad : Nm) (μ : Ce) : OkT := fun v' ad' μ' => v' = v ∧ ad = ad' ∧ μ = μ'
def exIO : String → Prop := fun E => E = "java/lang/IndexOutOfBoundsException"
def exIA : String → Prop := fun E => E = "java/lang/IllegalArgumentException"
def exIS : String → Prop := fun E => E = "java/lang/IllegalStateException"
