/-! ROWS 3: copies of arrays, classes of arrays, static tables, inherited and super calls -/
section ZR3
variable {g : Gx} {z : Zx} {cc : ByteArray} {nL : Nat} {y0 : MethodName} {ret : Option FieldType} {tb : List ExceptionTableEntry} {lev mc ms : Nat} {ad0 ad : Nm} {μ0 μ : Ce} {ok : OkT} {ex : String → Prop} {n k pc : Nat} {lv lv' : Lv} {st st0 : List Value}
variable {y : MethodName} {b' : ByteArray} {nL' : Nat} {ret' : Option FieldType} {lev' mc' ms' : Nat} {ok' : OkT} {ex' : String → Prop} {As : List Value} {index : Nat}
/-- System.arraycopy of references, all of one class -/
theorem r_copyq (K : Kn g z cc nL y0 ret tb lev mc ms ad0 μ0 ok ex) {a0 a1 ki ii kj ij n0 n1 ci sp dp w : Nat} {f h : Nat → Option Nat} {r : vw_C} {x1 x2 x3 : Int32} (hl : Cond.methodLink y0.cls index arraycopyName ∈ WALL) (hnat : Cond.native arraycopyName ∈ WALL) (hst' : Cond.static arraycopyName ∈ WALL) (hini : Cond.initialized "java/lang/System" ∈ WALL) (hμ0 : μ ki ii = some (aO z n0 f)) (ha0 : ad ki ii = a0) (hμ1 : μ kj ij = some (aO z n1 h)) (ha1 : ad kj ij = a1) (hx1 : x1 = nI sp) (hx2 : x2 = nI dp) (hx3 : x3 = nI w) (hb0 : sp + w ≤ n0) (hb1 : dp + w ≤ n1) (hn0 : n0 < 2 ^ 31) (hn1 : n1 < 2 ^ 31) (hr : vwCl[ci]? = some r) (hca : (r.1, "java/lang/Object") ∈ caZ) (hel : ∀ i, i < w → ∀ q, f (sp + i) = some q → ∃ k' i' fs, μ k' i' = some (.inr (ci, fs)) ∧ ad k' i' = q) (hst : (st.map fun v => v.category).sum ≤ 8) (hdg : decode cc pc = .ok (.invokestatic index, 3))
    (kk : WW g z nL n k ad (up2 μ kj ij (aO z n1 (va_cpy f h sp dp w))) (pc + 3) lv st) : WW g z nL n k ad μ pc lv (.int x3 :: .int x2 :: .ref a1 :: .int x1 :: .ref a0 :: st) := by
  intro H locs ls M S L
  subst ha0; subst ha1; subst hx1; subst hx2; subst hx3
  obtain ⟨ws, hP, hD, hcov, -⟩ := M.list
  obtain ⟨q0, hq0⟩ := hcov ki ii _ hμ0
  obtain ⟨q1, hq1⟩ := hcov kj ij _ hμ1
  have e1 : (nI sp).toNatClampNeg = sp := nI_clamp (by omega)
  have e2 : (nI dp).toNatClampNeg = dp := nI_clamp (by omega)
  have e3 : (nI w).toNatClampNeg = w := nI_clamp (by omega)
  refine va_copyq (C := r.1) (E0 := "java/lang/Object") (E1 := "java/lang/Object") K.1.1 K.1.2.1 (K.1.2.2.1.trans L.1.symm) K.1.2.2.2.1 (kW K hl) (kW K hnat) (kW K hst') (kW K hini) (kK K) hP hD S q0 q1 6 6 hq0 hq1 rfl rfl (nI_pos (by omega)) (nI_pos (by omega)) (nI_pos (by omega)) (by rw [e1, e3]; exact hb0) (by rw [e2, e3]; exact hb1) (fun i hi q hq => ?_) (fun comp c0 h1 h2 => ?_) (by rw [kR K]; show 1 ≤ 12 + lev; omega) (by rw [kR K]; show _ + (_ + 11) ≤ 200 + 60 * lev; have hw : nativeFrameWords "java/lang/System" "arraycopy" 5 ≤ 60 := (by decide +kernel); omega) hdg (fun H1 locs1 hP1 _ hS1 => ?_)
  · rw [e3] at hi
    rw [e1] at hq
    obtain ⟨k', i', fs, g1, rfl⟩ := hel i hi q hq
    exact va_recv (kK K) (M.one g1) hr (q0 := 0) rfl
  · obtain ⟨c1, t1, f1, f2, f3⟩ := Cond.castable_spec (va_Nw.use (A := ga g) rfl ((kE K).2.2.1.2.2.1 _ hca))
    cases h1.symm.trans f2
    cases h2.symm.trans f1
    exact f3
  · rw [e1, e2, e3] at hP1
    exact kk H1 locs1 ls (M.back hcov hμ1 hq1 hP1) hS1 L
/-- the class of an array of objects -/
theorem r_getC (K : Kn g z cc nL y0 ret tb lev mc ms ad0 μ0 ok ex) {a ki ii len : Nat} {f : Nat → Option Nat} (hl : Cond.methodLink y0.cls index ⟨"java/lang/Object", "getClass", "()Ljava/lang/Class;"⟩ ∈ WALL) (hse : Cond.selects "[Ljava/lang/Object;" ⟨"java/lang/Object", "getClass", "()Ljava/lang/Class;"⟩ ⟨"java/lang/Object", "getClass", "()Ljava/lang/Class;"⟩ ∈ WALL) (hin : Cond.instanceMethod ⟨"java/lang/Object", "getClass", "()Ljava/lang/Class;"⟩ ∈ WALL) (hnat : Cond.native ⟨"java/lang/Object", "getClass", "()Ljava/lang/Class;"⟩ ∈ WALL) (hμ : μ ki ii = some (aO z len f)) (ha : ad ki ii = a) (hst : (st.map fun v => v.category).sum ≤ 8) (hdg : decode cc pc = .ok (.invokevirtual index, 3)) (kk : WW g z nL n k ad μ (pc + 3) lv (.ref (z.2.2 3) :: st)) : WW g z nL n k ad μ pc lv (.ref a :: st) := by
  intro H locs ls M S L
  subst ha
  have hc : ∃ cell : Cell, H[ad ki ii]? = some cell ∧ cell.vm.isStatics = false ∧ (gs g).vm.findClass "[Ljava/lang/Object;" = some cell.cls := by
    have h1 := (M.1 ki ii _ hμ).1
    obtain ⟨-, h2⟩ := (kK K).2 6 _ rfl
    exact ⟨_, h1, rfl, va_nmO h2 rfl⟩
  exact va_getC K.1.1 K.1.2.1 (K.1.2.2.1.trans L.1.symm) K.1.2.2.2.1 (kW K hl) (kE K).2.2.2.2.2.2.2.2.1.2.1.use (kW K hse) (kW K hin) (kW K hnat) (kE K).2.2.2.2.2.2.2.2.1.1 hc (by rw [kR K]; show 1 ≤ 12 + lev; omega) (by rw [kR K]; show _ + 14 ≤ 200 + 60 * lev; omega) hdg (kk H locs ls M S L)
theorem r_ldcM (K : Kn g z cc nL y0 ret tb lev mc ms ad0 μ0 ok ex) (hl : Cond.classLink y0.cls index "[Ljava/lang/Object;" ∈ WALL) (hdg : decode cc pc = .ok (.ldc index, 2)) (kk : WW g z nL n k ad μ (pc + 2) lv (.ref (z.2.2 3) :: st)) : WW g z nL n k ad μ pc lv st :=
  fun H locs ls M S L => va_ldcM K.1.1 K.1.2.1 K.1.2.2.2.1 (kW K hl) (kE K).2.2.2.2.2.2.2.2.1.1 hdg (kk H locs ls M S L)
/-- the length of the empty static array -/
theorem r_alenT (K : Kn g z cc nL y0 ret tb lev mc ms ad0 μ0 ok ex) (hdg : decode cc pc = .ok (.arraylength, 1)) (kk : WW g z nL n k ad μ (pc + 1) lv (.int (nI 0) :: st)) : WW g z nL n k ad μ pc lv (.ref (z.2.2 0) :: st) :=
  fun H locs ls M S L => va_tlen K.1.1 K.1.2.1 (kE K).2.2.2.1.2 S rfl hdg (kk H locs ls M S L)
/-- a byte of the two tables of digits -/
theorem r_tbO (K : Kn g z cc nL y0 ret tb lev mc ms ad0 μ0 ok ex) {j : Nat} {x v : Int32} (hx : x = nI j) (hj : j < 100) (hv : dgO j = v) (hdg : decode cc pc = .ok (.baload, 1)) (kk : WW g z nL n k ad μ (pc + 1) lv (.int v :: st)) : WW g z nL n k ad μ pc lv (.int x :: .ref (z.2.2 1) :: st) := by
  intro H locs ls M S L
  subst hx; subst hv
  exact va_tb K.1.1 K.1.2.1 (kE K).2.2.2.2.1.2 S (vp_in_nI hj (by decide)) (by rw [nI_clamp (by omega)]) hdg (kk H locs ls M S L)
theorem r_tbT (K : Kn g z cc nL y0 ret tb lev mc ms ad0 μ0 ok ex) {j : Nat} {x v : Int32} (hx : x = nI j) (hj : j < 100) (hv : dgT j = v) (hdg : decode cc pc = .ok (.baload, 1)) (kk : WW g z nL n k ad μ (pc + 1) lv (.int v :: st)) : WW g z nL n k ad μ pc lv (.int x :: .ref (z.2.2 2) :: st) := by
  intro H locs ls M S L
  subst hx; subst hv
  exact va_tb K.1.1 K.1.2.1 (kE K).2.2.2.2.2.1.2 S (vp_in_nI hj (by decide)) (by rw [nI_clamp (by omega)]) hdg (kk H locs ls M S L)
/-- a static of which nobody asks what it refers to -/
theorem r_getsq (K : Kn g z cc nL y0 ret tb lev mc ms ad0 μ0 ok ex) {C nme d : String} (hZ : va_Zq C nme d (zA z) (gs g) (gs g).heap) (hl : Cond.fieldLink y0.cls index C nme d ∈ WALL) (hdg : decode cc pc = .ok (.getstatic index, 3)) (kk0 : WW g z nL n k ad μ (pc + 3) lv (.null :: st)) (kk : ∀ t : Nat, WW g z nL n k ad μ (pc + 3) lv (.ref t :: st)) : WW g z nL n k ad μ pc lv st := by
  rcases hZ with h | ⟨t, h⟩
  · exact r_gets K (ref := C) h hl hdg kk0
  · exact r_gets K (ref := C) h hl hdg (kk t)
/-- invokevirtual on an object of a class below the method's -/
theorem r_callVC (K : Kn g z cc nL y0 ret tb lev mc ms ad0 μ0 ok ex) {a ki ii ci : Nat} {C0 : String} {fs : List Value} (hM : Ko z (gl g) y b' nL' ret' lev' mc' ms' (.ref a :: As) ad μ ok' exNo) (C : CwZ y0.cls index y b' nL' ret' As.length) (hi : Cond.instanceMethod y ∈ WALL) (hse : Cond.selects C0 y y ∈ WALL) (hlev : lev' < lev) (hnl : nL' ≤ 41) (hμ : μ ki ii = some (.inr (ci, fs))) (ha : ad ki ii = a) (hci : (vwCl[ci]?).map (·.1) = some C0) (hst : st0 = As.reverse ++ .ref a :: st) (hcat : (st.map fun v => v.category).sum ≤ 8) (hn : n + mc' ≤ mc) (hk : k + ms' ≤ ms) (hdg : decode cc pc = .ok (.invokevirtual index, 3))
    (kk : ∀ v ad' μ', ok' v ad' μ' → WW g z nL (n + mc') (k + ms') ad' μ' (pc + 3) lv (v.toList ++ st)) : WW g z nL n k ad μ pc lv st0 := by
  intro H locs ls M S L
  subst ha
  obtain ⟨r, hr, -⟩ := (M.1 ki ii _ hμ).1
  have hrc : r.1 = C0 := by
    have : vwCl[ci]? = some r := hr
    rw [this] at hci
    exact Option.some.inj hci
  have hrecv := va_recv (kK K) (M.one hμ) hr (q0 := 0) rfl
  rw [hrc] at hrecv
  exact kBack S L (vx_runV (Ts := WALL) (As := As) (C := C0) (rest := st) K.1 hM ⟨kCB K C hlev hnl, kW K hi, kW K hse⟩ ⟨koBlind, hrecv, (kPreS K M S).2⟩ rfl rfl L.1 hst (lv_room hcat) hdg (by rw [kR K]; exact ⟨hn, hk⟩)) (fun _ h => h.elim) kk
/-- super.m(..) -/
theorem r_callSU (K : Kn g z cc nL y0 ret tb lev mc ms ad0 μ0 ok ex) {a ki ii ci nargs : Nat} {fs : List Value} (hM : Ko z (gl g) y b' nL' ret' lev' mc' ms' (.ref a :: As) ad μ ok' exNo) (C : CwZ y0.cls index y b' nL' ret' nargs) (hna : As.length = nargs) (hsa : Cond.sameMethod y.cls y.cls y.name y.desc ∈ WALL) (hsu : Cond.superclass y0.cls y.cls ∈ WALL) (hi : Cond.instanceMethod y ∈ WALL) (hno : y.name ≠ "<init>") (hlev : lev' < lev) (hnl : nL' ≤ 41) (hμ : μ ki ii = some (.inr (ci, fs))) (ha : ad ki ii = a) (hst : st0 = As.reverse ++ .ref a :: st) (hcat : (st.map fun v => v.category).sum ≤ 8) (hn : n + mc' ≤ mc) (hk : k + ms' ≤ ms) (hdg : decode cc pc = .ok (.invokespecial index, 3))
    (kk : ∀ v ad' μ', ok' v ad' μ' → WW g z nL (n + mc') (k + ms') ad' μ' (pc + 3) lv (v.toList ++ st)) : WW g z nL n k ad μ pc lv st0 := by
  intro H locs ls M S L
  subst ha
  obtain ⟨r, hr, -⟩ := (M.1 ki ii _ hμ).1
  have hrecv := va_recv (kK K) (M.one hμ) hr (q0 := 0) rfl
  have hB := kCB K C hlev hnl (mc' := mc') (ms' := ms')
  have cw : va_CS (gR g) (gs g) (ga g) y0.cls index y b' nL' ret' (Cond.code y b' nL' ret' :: WALL) (rmK lev' mc' ms') mc' ms' nargs := by
    refine va_cwSU nargs (Ts := WALL) (ws' := WALL) K.1.2.2.2.2 ?_ rfl rfl rfl ⟨hno, C.2.2.2.2.2⟩ (by rw [kR K]; exact ⟨by show 12 + lev' + 1 ≤ 12 + lev; omega, by show 8 + (nL' + 11) + (200 + 60 * lev') ≤ 200 + 60 * lev; omega⟩)
    refine gi_wall ?_
    intro w hw
    unfold va_wsSU at hw
    rcases List.mem_append.mp hw with hw | hw
    · simp only [List.mem_cons, List.not_mem_nil, or_false] at hw
      rcases hw with rfl | rfl | rfl | rfl | rfl
      · exact C.1
      · exact hsa
      · exact hsu
      · exact hi
      · exact C.2.1
    · exact gi_cons C.2.2.1 w hw
  exact kBack S L (vx_runSU (Ts := WALL) (As := As) (rest := st) ((kK K).1 ci r hr).2 K.1 hM cw ⟨koBlind, hrecv, (kPreS K M S).2⟩ rfl hna L.1 hst (lv_room hcat) hdg (by rw [kR K]; exact ⟨hn, hk⟩)) (fun _ h => h.elim) kk
end ZR3
-- worlds of a few cells more
theorem up2_ov {μ μ' : Ce} {k i : Nat} {e : va_E} (h : ∀ a b, ¬ (a = k ∧ b = i) → μ a b = μ' a b) : up2 μ k i e = up2 μ' k i e := by
  funext a b
  by_cases q : a = k ∧ b = i
  · rw [q.1, q.2, up2_s, up2_s]
  · rw [up2_n q, up2_n q, h a b q]
theorem up2_up {μ : Ce} {k i : Nat} {e e' : va_E} : up2 (up2 μ k i e) k i e' = up2 μ k i e' := up2_ov (fun a b q => up2_n q)
theorem up2_cm {μ : Ce} {k i k' i' : Nat} {e e' : va_E} (h : ¬ (k = k' ∧ i = i')) : up2 (up2 μ k i e) k' i' e' = up2 (up2 μ k' i' e') k i e := by
  funext a b
  by_cases q : a = k' ∧ b = i'
  · rw [q.1, q.2, up2_s, up2_n (fun q => h ⟨q.1.symm, q.2.symm⟩), up2_s]
  · rw [up2_n q]
    by_cases q' : a = k ∧ b = i
    · rw [q'.1, q'.2, up2_s, up2_s]
    · rw [up2_n q', up2_n q', up2_n q]
