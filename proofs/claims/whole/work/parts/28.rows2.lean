/-! MORE ROWS: casts to the object's own class, ranges of arguments, codes -/
section ZR2
variable {g : Gx} {z : Zx} {cc : ByteArray} {nL : Nat} {y0 : MethodName} {ret : Option FieldType} {tb : List ExceptionTableEntry} {lev mc ms : Nat} {ad0 ad : Nm} {μ0 μ : Ce} {ok : OkT} {ex : String → Prop} {n k pc : Nat} {lv lv' : Lv} {st : List Value}
theorem r_castS (K : Kn g z cc nL y0 ret tb lev mc ms ad0 μ0 ok ex) {a ki ii ci index : Nat} {fs : List Value} {nm : String} (hl : Cond.classLink y0.cls index nm ∈ WALL) (hci : (vwCl[ci]?).map (·.1) = some nm) (hμ : μ ki ii = some (.inr (ci, fs))) (ha : ad ki ii = a) (hdg : decode cc pc = .ok (.checkcast index, 3)) (kk : WW g z nL n k ad μ (pc + 3) lv (.ref a :: st)) : WW g z nL n k ad μ pc lv (.ref a :: st) := by
  intro H locs ls M S L
  subst ha
  obtain ⟨r, hr, -⟩ := (M.1 ki ii _ hμ).1
  rw [hr] at hci
  have e : r.1 = nm := Option.some.inj hci
  subst e
  exact va_castS K.1.1 K.1.2.1 K.1.2.2.2.1 (kW K hl) ((kK K).1 ci r hr).2 (va_recv (kK K) (M.one hμ) hr (q0 := 0) rfl) hdg (kk H locs ls M S L)
end ZR2
theorem bw_eq0 {x : Nat} (h : x < 2 ^ 31) : bw x = bw 0 ↔ x = 0 := by
  rw [show bw 0 = (-1 : Int32) by decide]
  exact bw_eq h
theorem bw_toInt {x : Nat} (h : x < 2 ^ 31) : (bw x).toInt = (x : Int) - 1 := by
  rcases Nat.eq_zero_or_pos x with g | g
  · subst g; decide
  · rw [bw_nI g, nI_toInt (by omega)]; omega
theorem bw_inj {x y : Nat} (hx : x < 2 ^ 31) (hy : y < 2 ^ 31) : bw x = bw y ↔ x = y := by
  refine ⟨fun q => ?_, fun q => q ▸ rfl⟩
  have := congrArg Int32.toInt q
  rw [bw_toInt hx, bw_toInt hy] at this
  omega
theorem bw_eqN {i x : Nat} (hi : i < 2 ^ 31 - 1) (hx : x < 2 ^ 31) : nI i = bw x ↔ i + 1 = x := by
  rw [show nI i = bw (i + 1) by rw [bw_nI (by omega)]; rfl]
  exact bw_inj (by omega) hx
theorem bw_lt0 {x : Nat} (h : x < 2 ^ 31) : bw x < 0 ↔ x = 0 := by
  rw [Int32.lt_iff_toInt_lt, bw_toInt h, show (0 : Int32).toInt = 0 from rfl]
  omega
theorem bw_dec {x : Nat} : nI (x - 1) + Int32.ofInt (-1) = bw (x - 1) := by
  unfold bw
  rw [Int32.sub_eq_add_neg, show Int32.ofInt (-1) = -1 by decide]
-- arguments in range
abbrev in0 (x : Int32) (n : Nat) : Prop := nI 0 ≤ x ∧ x ≤ nI n - nI 1
abbrev inR (x : Int32) (a b : Nat) : Prop := nI a ≤ x ∧ x ≤ nI b
/-- the number of an Int32 -/
def jN (x : Int32) : Nat := x.toInt.toNat
theorem jN_n {b : Nat} (h : b < 2 ^ 31) : jN (nI b) = b := by unfold jN; rw [nI_toInt h]; rfl
theorem jN_id {x : Int32} (h : nI 0 ≤ x) : x = nI (jN x) := by
  have e : (0 : Int) ≤ x.toInt := by have := Int32.le_iff_toInt_le.mp h; rwa [show (nI 0).toInt = 0 from rfl] at this
  have hl : x.toInt < 2 ^ 31 := Int32.toInt_lt x
  apply Int32.toInt_inj.mp
  unfold jN
  rw [nI_toInt (by omega)]
  omega
theorem in0_iff {x : Int32} {n : Nat} (hn : n < 2 ^ 30) : in0 x n ↔ ∃ b, b < n ∧ x = nI b := by
  have e : (nI n - nI 1).toInt = (n : Int) - 1 := by rw [pk_sub_toInt hn (by decide)]; rfl
  refine ⟨fun q => ⟨jN x, ?_, jN_id q.1⟩, ?_⟩
  · have h1 := Int32.le_iff_toInt_le.mp q.2
    have h2 := Int32.le_iff_toInt_le.mp q.1
    rw [e] at h1
    rw [show (nI 0).toInt = 0 from rfl] at h2
    unfold jN
    omega
  · rintro ⟨b, hb, rfl⟩
    refine ⟨(nI_leI (by omega) (by omega)).mpr (Nat.zero_le _), Int32.le_iff_toInt_le.mpr ?_⟩
    rw [e, nI_toInt (by omega)]
    omega
theorem inR_iff {x : Int32} {a b : Nat} (ha : a < 2 ^ 31) (hb : b < 2 ^ 31) : inR x a b ↔ ∃ v, (a ≤ v ∧ v ≤ b) ∧ x = nI v := by
  refine ⟨fun q => ?_, ?_⟩
  · have h1 := Int32.le_iff_toInt_le.mp q.1
    have h2 := Int32.le_iff_toInt_le.mp q.2
    rw [nI_toInt ha] at h1
    rw [nI_toInt hb] at h2
    have h0 : nI 0 ≤ x := Int32.le_iff_toInt_le.mpr (by rw [show (nI 0).toInt = 0 from rfl]; omega)
    refine ⟨jN x, ⟨?_, ?_⟩, jN_id h0⟩ <;> unfold jN <;> omega
  · rintro ⟨v, ⟨h1, h2⟩, rfl⟩
    exact ⟨(nI_leI ha (by omega)).mpr h1, (nI_leI (by omega) hb).mpr h2⟩
/-- an exception thrown says the code: l its classes in the code's order -/
def exT (cd : Nat) (l : List String) : String → Prop := fun E => ∃ c, cd = c + 1 ∧ l[c]? = some E
theorem exT_of {cd c : Nat} {l : List String} {E : String} (h : cd = c + 1) (hl : l[c]? = some E) : exT cd l E := ⟨c, h, hl⟩
/-- numbers of the document: what class and model share -/
def agr (σ σ' : Sg) : Prop := ∀ f i j, f < 20 → (f = 3 ∨ f = 4 ∨ f = 6 → j = 0) → σ f i j = σ' f i j
theorem agr.rf {σ : Sg} : agr σ σ := fun _ _ _ _ _ => rfl
theorem agr.tr {σ σ' σ'' : Sg} (h : agr σ σ') (h' : agr σ' σ'') : agr σ σ'' := fun f i j a b => (h f i j a b).trans (h' f i j a b)
theorem agr.sy {σ σ' : Sg} (h : agr σ σ') : agr σ' σ := fun f i j a b => (h f i j a b).symm
theorem agr.put {σ σ' : Sg} (h : agr σ σ') {f i j v : Nat} : agr (su σ f i j v) (su σ' f i j v) := by
  intro f' i' j' a b
  unfold su
  split
  · rfl
  · exact h _ _ _ a b
theorem agr.sx {σ σ' : Sg} (h : agr σ σ') {f i j v : Nat} (hf : 20 ≤ f) : agr (su σ f i j v) σ' := by
  intro f' i' j' a b
  rw [su_n (fun q => by omega)]
  exact h _ _ _ a b
theorem agr.sy1 {σ σ' : Sg} (h : agr σ σ') {f i j v : Nat} (hf : f = 3 ∨ f = 4 ∨ f = 6) (hj : j ≠ 0) : agr (su σ f i j v) σ' := by
  intro f' i' j' a b
  rw [su_n (fun q => hj (by rw [← q.2.2]; exact b (by rw [q.1]; exact hf)))]
  exact h _ _ _ a b
theorem nrZ {f : Nat} (h : f ≤ 1) : narrow .boolean (.int (nI f)) = .int (nI f) := by
  rcases (show f = 0 ∨ f = 1 by omega) with rfl | rfl <;> rfl
