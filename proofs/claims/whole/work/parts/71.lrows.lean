/-! ROWS OF THE LAW: frames with handlers called, the script read, answers compared -/
/-- the script of L ints at b -/
def Scr (z : Zx) (g : Gx) (b L : Nat) (xs : Nat → Int32) : Prop := va_X b L xs (gs g) (gs g).heap ∧ b < (gs g).heap.size ∧ ¬ zA z b
section ZLR
variable {g : Gx} {z : Zx} {cc : ByteArray} {nL : Nat} {y0 : MethodName} {ret : Option FieldType} {tb : List ExceptionTableEntry} {lev mc ms : Nat} {ad0 ad : Nm} {μ0 μ : Ce} {ok : OkT} {ex : String → Prop} {n k pc : Nat} {lv : Lv} {st st0 : List Value} {σ τ : Sg} {o : Int64 × UInt64}
variable {y : MethodName} {b' : ByteArray} {nL' : Nat} {ret' : Option FieldType} {hh : List (Nat × Nat × Nat × Nat)} {lev' mc' ms' : Nat} {ok' : OkT} {As : List Value} {index : Nat}
theorem r_callSH (K : Kn g z cc nL y0 ret tb lev mc ms ad0 μ0 ok ex) (hM : KoH z (gl g) y b' nL' ret' hh lev' mc' ms' As ad μ ok' exNo) (c1 : Cond.methodLink y0.cls index y ∈ WALL) (c2 : Cond.initialized y.cls ∈ WALL) (c3 : Cond.codeWith y b' nL' ret' hh ∈ WALL) (c4 : Cond.static y ∈ WALL) (c5 : y.cls ≠ "java/lang/invoke/MethodHandle" ∧ y.cls ≠ "java/lang/invoke/VarHandle" ∧ (parseMethodDescriptor y.desc).map (fun d => d.parameters.length) = some As.length) (hlev : lev' < lev) (hnl : nL' ≤ 41) (hst : st0 = As.reverse ++ st) (hcat : (st.map fun v => v.category).sum ≤ 8) (hn : n + mc' ≤ mc) (hk : k + ms' ≤ ms) (hdg : decode cc pc = .ok (.invokestatic index, 3))
    (kk : ∀ v ad' μ', ok' v ad' μ' → WW g z nL (n + mc') (k + ms') ad' μ' (pc + 3) lv (v.toList ++ st)) : WW g z nL n k ad μ pc lv st0 := by
  intro H locs ls M S L
  have cw : vx_CSW (gR g) (gs g) (ga g) y0.cls index y b' nL' ret' hh (Cond.codeWith y b' nL' ret' hh :: WALL) (rmK lev' mc' ms') mc' ms' As.length := by
    refine vx_cwSW As.length (Ts := WALL) (ws' := WALL) K.1.2.2.2.2 ?_ rfl rfl rfl c5 (by rw [kR K]; exact ⟨by show 12 + lev' + 1 ≤ 12 + lev; omega, by show 8 + (nL' + 11) + (200 + 60 * lev') ≤ 200 + 60 * lev; omega⟩)
    refine gi_wall ?_
    intro w hw
    unfold va_wsS at hw
    rcases List.mem_append.mp hw with hw | hw
    · simp only [List.mem_cons, List.not_mem_nil, or_false] at hw
      rcases hw with rfl | rfl | rfl
      · exact c1
      · exact c4
      · exact c2
    · exact gi_cons c3 w hw
  exact kBack S L (vx_runSX (hh := hh) (Ts := WALL) (As := As) (rest := st) K.1 hM cw (kPreS K M S) rfl rfl L.1 hst (lv_room hcat) hdg (by rw [kR K]; exact ⟨hn, hk⟩)) (fun _ h => h.elim) kk
theorem r_sld (K : Kn g z cc nL y0 ret tb lev mc ms ad0 μ0 ok ex) {b L j : Nat} {xs : Nat → Int32} {x : Int32} (X : Scr z g b L xs) (hx : x = nI j) (hj : j < L) (hL : L < 2 ^ 31) (hdg : decode cc pc = .ok (.iaload, 1)) (kk : WW g z nL n k ad μ (pc + 1) lv (.int (xs j) :: st)) : WW g z nL n k ad μ pc lv (.int x :: .ref b :: st) := by
  intro H locs ls M S L'
  subst hx
  refine va_sld K.1.1 K.1.2.1 X.1 X.2.1 X.2.2 S (vp_in_nI hj hL) hdg ?_
  rw [nI_clamp (by omega)]
  exact kk H locs ls M S L'
theorem r_slen (K : Kn g z cc nL y0 ret tb lev mc ms ad0 μ0 ok ex) {b L : Nat} {xs : Nat → Int32} (X : Scr z g b L xs) (hdg : decode cc pc = .ok (.arraylength, 1)) (kk : WW g z nL n k ad μ (pc + 1) lv (.int (nI L) :: st)) : WW g z nL n k ad μ pc lv (.ref b :: st) :=
  fun H locs ls M S L' => va_slen K.1.1 K.1.2.1 X.1 X.2.1 X.2.2 S hdg (kk H locs ls M S L')
/-- two equal longs -/
theorem r_lcmpE (K : Kn g z cc nL y0 ret tb lev mc ms ad0 μ0 ok ex) {x y : Int64} (h : x = y) (hdg : decode cc pc = .ok (.lcmp, 1)) (kk : WW g z nL n k ad μ (pc + 1) lv (.int (nI 0) :: st)) : WW g z nL n k ad μ pc lv (.long y :: .long x :: st) := by
  subst h
  refine r_lcmp K hdg ?_
  rw [show lg_cmp x x = nI 0 by unfold lg_cmp; simp; rfl]
  exact kk
theorem r_dcmpE (K : Kn g z cc nL y0 ret tb lev mc ms ad0 μ0 ok ex) {x y : UInt64} {op : CmpOp} (h : x = y) (hn : FP.dcmp y y = some .eq) (hdg : decode cc pc = .ok (.dcmp op, 1)) (kk : WW g z nL n k ad μ (pc + 1) lv (.int (nI 0) :: st)) : WW g z nL n k ad μ pc lv (.double y :: .double x :: st) := by
  subst h
  refine r_dcmp K hdg ?_
  rw [hn]
  exact kk
end ZLR
theorem mean_cmp {p c : Nat} (hc : 1 ≤ c) : FP.dcmp (FP.ddiv (FP.l2d (nJ p)) (FP.i2d (nI c))) (FP.ddiv (FP.l2d (nJ p)) (FP.i2d (nI c))) = some .eq ∨ ¬ c ≤ 600 := by
  by_cases hc2 : c ≤ 600
  · refine Or.inl ?_
    have e : (nI c : Int32) ≠ 0 := fun q => by rw [n0_eq (by omega)] at q; omega
    have h1 := Jvm.FP.Core.i2d_ne_zero e
    have h2 := Jvm.FP.Core.ddiv_out (a := FP.l2d (nJ p)) (b := FP.i2d (nI c)) ?_ (Jvm.FP.Core.i2d_fin _) ?_
    · refine Jvm.FP.Core.dcmp_self (fun q => ?_)
      have h3 := h2
      unfold FP.Core.isNaN at h3
      have q' : FP.Core.decode FP.Core.b64 (FP.ddiv (FP.l2d (nJ p)) (FP.i2d (nI c))).toNat = FP.Core.Datum.nan := q
      exact absurd q' (of_decide_eq_false h3)
    · exact (Jvm.FP.Core.l2d_fin _).notNaN
    · exact fun q => h1 ((Jvm.FP.Core.zero_bits2 _).mp q)
  · exact Or.inr hc2
theorem ite_sg {c : Prop} [Decidable c] {σ : Sg} : (if c then σ else σ) = σ := by split <;> rfl
/-- the head: is there a call left? -/
theorem head_le {L i : Nat} (hL : L ≤ 4000) (hi : i ≤ 4000) : nI L - nI 6 < nI i ↔ L < i + 6 := by
  have e : (nI L - nI 6).toInt = (L : Int) - 6 := pk_sub_toInt (by omega) (by decide)
  rw [Int32.lt_iff_toInt_lt, e, nI_toInt (by omega)]
  omega
/-- six bits -/
theorem and63' (x : Int32) : 0 ≤ (x &&& nI 63).toInt ∧ (x &&& nI 63).toInt < 64 := by
  have e : (x &&& nI 63).toBitVec = x.toBitVec &&& 63#32 := by rw [Int32.toBitVec_and]; rfl
  have h1 : (x &&& nI 63).toBitVec.toNat < 64 := by
    rw [e, BitVec.toNat_and]
    exact Nat.lt_of_le_of_lt Nat.and_le_right (by decide)
  have h2 : (x &&& nI 63).toInt = ((x &&& nI 63).toBitVec.toNat : Int) := by
    rw [Int32.toInt, BitVec.toInt_eq_toNat_of_lt (by omega)]
  omega
theorem and63 (x : Int32) : ∃ m, m < 64 ∧ x &&& nI 63 = nI m := by
  refine ⟨(x &&& nI 63).toInt.toNat, ?_, ?_⟩
  · have h := and63' x
    omega
  · apply Int32.toInt_inj.mp
    have h := and63' x
    rw [nI_toInt (by omega)]
    omega
