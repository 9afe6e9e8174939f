/-! FOR THE LAW: exceptions caught, the places where answers are kept, one world of two -/
theorem arrV_cg {c : ClassId} {n : Nat} {f g : Nat → Value} (h : ∀ j, j < n → f j = g j) : arrV c n f = arrV c n g := by
  have e : (arrV c n f).slots = (arrV c n g).slots := Array.ext_getElem? fun j => by
    by_cases q : j < n
    · rw [arrV_read _ _ q, arrV_read _ _ q, h j q]
    · rw [Array.getElem?_eq_none (by rw [arrV_size]; omega), Array.getElem?_eq_none (by rw [arrV_size]; omega)]
  exact congrArg (fun s => ({ arrV c n f with slots := s } : Cell)) e
theorem Hv.cgA {z : Zx} {ad : Nm} {μ : Ce} {H : Heap} {k i : Nat} {c : ClassId} {x x' : vp_A} (h : Hv z ad (up2 μ k i (.inl (c, x))) H) (e : vp_cell c x = vp_cell c x') : Hv z ad (up2 μ k i (.inl (c, x'))) H := by
  have cv : ∀ a b, up2 μ k i (.inl (c, x')) a b ≠ none → up2 μ k i (.inl (c, x)) a b ≠ none := by
    intro a b hh
    by_cases q : a = k ∧ b = i
    · rw [q.1, q.2, up2_s]; exact fun z => by cases z
    · rw [up2_n q] at hh ⊢; exact hh
  refine ⟨fun k' i' y hy => ?_, fun a b a' b' h1 h2 => h.2 a b a' b' (cv a b h1) (cv a' b' h2)⟩
  by_cases q : k' = k ∧ i' = i
  · obtain ⟨rfl, rfl⟩ := q
    rw [up2_s] at hy
    cases hy
    obtain ⟨h1, h2⟩ := h.1 _ _ _ up2_s
    refine ⟨?_, h2⟩
    show H[ad k' i']? = some (vp_cell c x')
    rw [← e]
    exact h1
  · rw [up2_n q] at hy
    exact h.1 k' i' y (by rw [up2_n q]; exact hy)
section ZL1
variable {g : Gx} {z : Zx} {cc : ByteArray} {nL : Nat} {y0 : MethodName} {ret : Option FieldType} {tb : List ExceptionTableEntry} {lev mc ms : Nat} {ad0 ad : Nm} {μ0 μ : Ce} {ok : OkT} {ex : String → Prop} {n k pc : Nat} {lv : Lv} {st : List Value} {σ τ : Sg} {o : Int64 × UInt64}
theorem r_catch (K : Kn g z cc nL y0 ret tb lev mc ms ad0 μ0 ok ex) {E : String} (pre : List ExceptionTableEntry) (x : ExceptionTableEntry) (suf : List ExceptionTableEntry) (hsp : tb = pre ++ x :: suf) (hpass : ∀ t ∈ pre, t.catchType ≠ 0 ∧ ∃ nm, Cond.classLink y0.cls t.catchType nm ∈ WALL ∧ (E, nm) ∈ ncsZ) (hx : covers x pc = true) (h0 : x.catchType ≠ 0) (hl : Cond.classLink y0.cls x.catchType E ∈ WALL) (hca : (E, E) ∈ caZ) (kk : ∀ q : Nat, WW g z nL n k ad μ x.handlerPc lv [.ref q]) : WX g z nL n k ad μ pc lv st E := by
  intro H locs ls q ce M S L hce hv hcl
  exact vx_catch (own := y0.cls) (name := E) K.1.2.2.2.1 pre x suf (by rw [K.2.2.2.2.2.2.1]; exact hsp) (fun t ht => Or.inr ⟨(hpass t ht).1, by obtain ⟨nm, h1, h2⟩ := (hpass t ht).2; exact ⟨nm, kW K h1, (kE K).2.2.1.2.1 _ h2⟩⟩) hx h0 (kW K hl) (va_Nw.use rfl ((kE K).2.2.1.2.2.1 _ hca)) hce hv hcl (kk q H locs ls M S L)
theorem u_19_0 {v : Int64} : up2 (Wz z ad σ τ o) 19 0 (aJ z 1 (fun _ => v)) = Wz z ad σ τ (v, o.2) := by
  funext k i
  by_cases c : k = 19 ∧ i = 0
  · rw [c.1, c.2, up2_s]; rfl
  · rw [up2_n c]
    match k, i with
    | 0, _ => rfl
    | 1, _ => rfl
    | 2, _ => rfl
    | 3, _ => rfl
    | 4, _ => rfl
    | 5, _ => rfl
    | 6, _ => rfl
    | 7, _ => rfl
    | 8, _ => rfl
    | 9, _ => rfl
    | 10, _ => rfl
    | 11, _ => rfl
    | 12, _ => rfl
    | 13, _ => rfl
    | 14, _ => rfl
    | 15, _ => rfl
    | 16, _ => rfl
    | 17, _ => rfl
    | 18, _ => rfl
    | 19, 0 => exact absurd ⟨rfl, rfl⟩ c
    | 19, 1 => rfl
    | 19, n + 2 => rfl
    | 20, _ => rfl
    | 21, _ => rfl
    | n + 22, _ => rfl
theorem u_19_1 {v : UInt64} : up2 (Wz z ad σ τ o) 19 1 (aD z 1 (fun _ => v)) = Wz z ad σ τ (o.1, v) := by
  funext k i
  by_cases c : k = 19 ∧ i = 1
  · rw [c.1, c.2, up2_s]; rfl
  · rw [up2_n c]
    match k, i with
    | 0, _ => rfl
    | 1, _ => rfl
    | 2, _ => rfl
    | 3, _ => rfl
    | 4, _ => rfl
    | 5, _ => rfl
    | 6, _ => rfl
    | 7, _ => rfl
    | 8, _ => rfl
    | 9, _ => rfl
    | 10, _ => rfl
    | 11, _ => rfl
    | 12, _ => rfl
    | 13, _ => rfl
    | 14, _ => rfl
    | 15, _ => rfl
    | 16, _ => rfl
    | 17, _ => rfl
    | 18, _ => rfl
    | 19, 0 => rfl
    | 19, 1 => exact absurd ⟨rfl, rfl⟩ c
    | 19, n + 2 => rfl
    | 20, _ => rfl
    | 21, _ => rfl
    | n + 22, _ => rfl
theorem r_outJ (K : Kn g z cc nL y0 ret tb lev mc ms ad0 μ0 ok ex) {a : Nat} {v : Int64} {i : Int32} (ha : ad 19 0 = a) (hi : i = nI 0) (hdg : decode cc pc = .ok (.lastore, 1)) (kk : WW g z nL n k ad (Wz z ad σ τ (v, o.2)) (pc + 1) lv st) : WW g z nL n k ad (Wz z ad σ τ o) pc lv (.long v :: .int i :: .ref a :: st) := by
  refine r_last (j := 0) K (show Wz z ad σ τ o 19 0 = some (aJ z 1 (fun _ => o.1)) from rfl) ha hi (by decide) (by decide) rfl hdg ?_
  intro H locs ls M S L
  refine kk H locs ls ?_ S L
  rw [← u_19_0]
  refine Hv.cgA M ?_
  rw [vp_cell_l, vp_cell_l]
  exact arrV_cg (fun j hj => by rw [show j = 0 by omega]; simp [vp_updL])
theorem r_outD (K : Kn g z cc nL y0 ret tb lev mc ms ad0 μ0 ok ex) {a : Nat} {v : UInt64} {i : Int32} (ha : ad 19 1 = a) (hi : i = nI 0) (hdg : decode cc pc = .ok (.dastore, 1)) (kk : WW g z nL n k ad (Wz z ad σ τ (o.1, v)) (pc + 1) lv st) : WW g z nL n k ad (Wz z ad σ τ o) pc lv (.double v :: .int i :: .ref a :: st) := by
  refine r_dast (j := 0) K (show Wz z ad σ τ o 19 1 = some (aD z 1 (fun _ => o.2)) from rfl) ha hi (by decide) (by decide) rfl hdg ?_
  intro H locs ls M S L
  refine kk H locs ls ?_ S L
  rw [← u_19_1]
  refine Hv.cgA M ?_
  rw [vp_cell_d, vp_cell_d]
  exact arrV_cg (fun j hj => by rw [show j = 0 by omega]; simp [vf_upd])
end ZL1
/-- what a call's frame answers: its code; the place where its answer is kept; the shared numbers -/
def okL (z : Zx) (ad : Nm) (σ τ : Sg) (cd : Nat) (v : Int64) (F : Sg) : OkT := fun v' ad' μ' => v' = some (.int (nI cd)) ∧ adK ad ad' ∧ ∃ σ' o', μ' = Wz z ad' σ' τ o' ∧ agr σ' (if cd = 0 then F else σ) ∧ ICo σ' ∧ (cd = 0 → o'.1 = v)
def okLD (z : Zx) (ad : Nm) (σ τ : Sg) (cd : Nat) (v : UInt64) (F : Sg) : OkT := fun v' ad' μ' => v' = some (.int (nI cd)) ∧ adK ad ad' ∧ ∃ σ' o', μ' = Wz z ad' σ' τ o' ∧ agr σ' (if cd = 0 then F else σ) ∧ ICo σ' ∧ (cd = 0 → o'.2 = v)
theorem okL_0 {z : Zx} {ad ad' : Nm} {σ τ σ' F : Sg} {cd : Nat} {v : Int64} {o2 : UInt64} (h : cd = 0) (hK : adK ad ad') (hA : agr σ' F) (hC : ICo σ') : okL z ad σ τ cd v F (some (.int (nI 0))) ad' (Wz z ad' σ' τ (v, o2)) := ⟨by rw [h], hK, σ', _, rfl, by rw [if_pos h]; exact hA, hC, fun _ => rfl⟩
theorem okL_x {z : Zx} {ad : Nm} {σ τ F : Sg} {cd c : Nat} {v : Int64} {o : Int64 × UInt64} (h : cd = c + 1) (hC : ICo σ) : okL z ad σ τ cd v F (some (.int (nI (c + 1)))) ad (Wz z ad σ τ o) := ⟨by rw [h], adK.rf, σ, o, rfl, by rw [if_neg (by omega)]; exact agr.rf, hC, fun q => by omega⟩
theorem okLD_0 {z : Zx} {ad ad' : Nm} {σ τ σ' F : Sg} {cd : Nat} {v : UInt64} {o1 : Int64} (h : cd = 0) (hK : adK ad ad') (hA : agr σ' F) (hC : ICo σ') : okLD z ad σ τ cd v F (some (.int (nI 0))) ad' (Wz z ad' σ' τ (o1, v)) := ⟨by rw [h], hK, σ', _, rfl, by rw [if_pos h]; exact hA, hC, fun _ => rfl⟩
theorem okLD_x {z : Zx} {ad : Nm} {σ τ F : Sg} {cd c : Nat} {v : UInt64} {o : Int64 × UInt64} (h : cd = c + 1) (hC : ICo σ) : okLD z ad σ τ cd v F (some (.int (nI (c + 1)))) ad (Wz z ad σ τ o) := ⟨by rw [h], adK.rf, σ, o, rfl, by rw [if_neg (by omega)]; exact agr.rf, hC, fun q => by omega⟩
theorem pI_ne {c : Prop} [Decidable c] (h : ¬ pI c = 0) : pI c = 1 := by
  unfold pI at *
  by_cases q : c
  · rw [if_pos q]
  · rw [if_neg q] at h; exact absurd rfl h
