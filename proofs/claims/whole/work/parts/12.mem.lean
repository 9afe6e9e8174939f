/-! ROWS of memory, calls, ends, throws -/
def FdZ (own : String) (index ci fk : Nat) (ft : FieldType) (fin : Bool) : Prop := ∃ (C : String) (T : u_T) (N : Nat) (ty : Nat → FieldType) (ref : String), vwCl[ci]? = some (C, T, N) ∧ fk < N ∧ (∀ w ∈ u_ws C T N, w ∈ WALL) ∧ Cond.fieldLink own index ref (T fk).2.1 (T fk).2.2.1 ∈ WALL ∧ (ref = (T fk).1 ∨ Cond.sameField ref (T fk).1 (T fk).2.1 (T fk).2.2.1 ∈ WALL) ∧ (∀ k, k < N → parseFieldDescriptor (T k).2.2.1 = some (ty k)) ∧ (∀ a, a < N → ∀ b, b < N → a ≠ b → (T a).2.1 ≠ (T b).2.1) ∧ ty fk = ft ∧ (T fk).2.2.2 = fin
theorem cA_eq {s : State} {c1 c2 : ClassId} {ty : FieldType} (h1 : va_RA s c1 ty) (h2 : va_RA s c2 ty) : c1 = c2 := by
  cases ty with
  | object C =>
    obtain ⟨-, -, -, -, -, a1⟩ := h1
    obtain ⟨-, -, -, -, -, a2⟩ := h2
    exact Option.some.inj (a1.symm.trans a2)
  | _ => exact Option.some.inj (h1.symm.trans h2)
theorem Hv.kept {z : Zx} {ad : Nm} {μ : Ce} {H H1 : Heap} (h : Hv z ad μ H) (hq : ∀ q : Nat, q < H.size → H1[q]? = H[q]?) : Hv z ad μ H1 := ⟨fun k i e he => ⟨(h.1 k i e he).1.kept (hq _ (h.lt he)), (h.1 k i e he).2⟩, h.2⟩
theorem koBlind {z : Zx} {as : List Value} {ad : Nm} {μ : Ce} : FrameBlind (va_Pc as (fun U => Ev z U ∧ Hv z ad μ U.heap)) := fun _ _ _ _ q => ⟨q.1, q.2.1.calling, q.2.2⟩
section ZM
variable {g : Gx} {z : Zx} {cc : ByteArray} {nL : Nat} {y0 : MethodName} {ret : Option FieldType} {tb : List ExceptionTableEntry} {lev mc ms : Nat} {ad0 ad : Nm} {μ0 μ : Ce} {ok : OkT} {ex : String → Prop} {n k pc : Nat} {lv lv' : Lv} {st : List Value}
theorem kE (K : Kn g z cc nL y0 ret tb lev mc ms ad0 μ0 ok ex) : Ev z (gs g) := K.2.1
theorem kK (K : Kn g z cc nL y0 ret tb lev mc ms ad0 μ0 ok ex) : va_K z.1.1 vwCl (tysZ z) (gs g) := K.2.1.1
theorem kR (K : Kn g z cc nL y0 ret tb lev mc ms ad0 μ0 ok ex) : gR g = rmK lev mc ms := K.2.2.2.2.2.1
theorem kQ (K : Kn g z cc nL y0 ret tb lev mc ms ad0 μ0 ok ex) : gQ g = vx_MQ (gb g) (okQ z ok) (exQ z ex ad0 μ0) (ga g) (gs g) mc ms (zA z) := K.2.2.2.2.2.2.2
theorem kA (K : Kn g z cc nL y0 ret tb lev mc ms ad0 μ0 ok ex) : ∀ q, (gs g).heap.size ≤ q → zA z q := fun q h => Nat.le_trans K.2.1.2.2.2.2.2.2.2.2.2 h
theorem kW (K : Kn g z cc nL y0 ret tb lev mc ms ad0 μ0 ok ex) {w : Cond} (h : w ∈ WALL) : w.before (ga g) (gs g) = true := K.1.2.2.2.2 w h
theorem kw' {w : Cond} (hw : ∀ w ∈ WALL, w.before (ga g) (gs g) = true) (C : String) (T : u_T) (N : Nat) (h : ∀ w ∈ u_ws C T N, w ∈ WALL) (hh : w ∈ u_ws C T N) : w.before (ga g) (gs g) = true := hw w (h w hh)
/-- a field read -/
theorem r_get (K : Kn g z cc nL y0 ret tb lev mc ms ad0 μ0 ok ex) {a ki ii ci fk index : Nat} {fs : List Value} {ft : FieldType} {fin : Bool} {v : Value} (F : FdZ y0.cls index ci fk ft fin) (hμ : μ ki ii = some (.inr (ci, fs))) (ha : ad ki ii = a) (hv : fs[fk]? = some v) (hdg : decode cc pc = .ok (.getfield index, 3))
    (kk : WW g z nL n k ad μ (pc + 3) lv (v :: st)) : WW g z nL n k ad μ pc lv (.ref a :: st) := by
  intro H locs ls M S L
  subst ha
  obtain ⟨C, T, N, ty, ref, f1, f2, f3, f4, f5, -⟩ := F
  refine va_get (cc := cc) K.1.1 K.1.2.1 (own := y0.cls) (ref := ref) (C := C) (T := T) (N := N) (ci := ci) (index := index) (Ts := WALL) K.1.2.2.2.2 f3 K.1.2.2.2.1 (kK K) (M.one hμ) 0 rfl f1 fk f2 (kW K f4) ?_ hv hdg (kk H locs ls M S L)
  rcases f5 with rfl | h
  · exact fun _ q => q
  · exact u_same (kW K h)
/-- a field written -/
theorem r_put (K : Kn g z cc nL y0 ret tb lev mc ms ad0 μ0 ok ex) {a ki ii ci fk index : Nat} {fs fs' : List Value} {ft : FieldType} {v : Value} (F : FdZ y0.cls index ci fk ft false) (hμ : μ ki ii = some (.inr (ci, fs))) (ha : ad ki ii = a) (hn : narrow ft v = v) (hfit : fits ft v = true) (hl : fk < fs.length) (hfs : fs.set fk v = fs') (hdg : decode cc pc = .ok (.putfield index, 3))
    (kk : WW g z nL n k ad (up2 μ ki ii (.inr (ci, fs'))) (pc + 3) lv st) : WW g z nL n k ad μ pc lv (v :: .ref a :: st) := by
  intro H locs ls M S L
  subst ha; subst hfs
  obtain ⟨C, T, N, ty, ref, f1, f2, f3, f4, f5, f6, f7, f8, f9⟩ := F
  obtain ⟨ws, hP, hD, hcov, -⟩ := M.list
  obtain ⟨q0, hq0⟩ := hcov ki ii _ hμ
  refine va_put (cc := cc) K.1.1 K.1.2.1 (own := y0.cls) (ref := ref) (C := C) (T := T) (N := N) (ci := ci) (index := index) (Ts := WALL) K.1.2.2.2.2 f3 ty f6 f7 K.1.2.2.2.1 (kK K) hP hD S q0 hq0 f1 fk f2 (kW K f4) ?_ f9 (by rw [f6 fk f2, f8]) hn hfit hl hdg (fun H1 locs1 hP1 _ hS1 => kk H1 locs1 ls (M.back hcov hμ hq0 hP1) hS1 L)
  rcases f5 with rfl | h
  · exact fun _ q => q
  · exact u_same (kW K h)
/-- a final field written, in a constructor -/
theorem r_putF (K : Kn g z cc nL y0 ret tb lev mc ms ad0 μ0 ok ex) {a ki ii ci fk index : Nat} {fs fs' : List Value} {ft : FieldType} {v : Value} (F : FdZ y0.cls index ci fk ft true) (hin : y0.name = "<init>") (hown : ∀ C T N, vwCl[ci]? = some (C, T, N) → (T fk).1 = y0.cls) (hμ : μ ki ii = some (.inr (ci, fs))) (ha : ad ki ii = a) (hn : narrow ft v = v) (hfit : fits ft v = true) (hl : fk < fs.length) (hfs : fs.set fk v = fs') (hdg : decode cc pc = .ok (.putfield index, 3))
    (kk : WW g z nL n k ad (up2 μ ki ii (.inr (ci, fs'))) (pc + 3) lv st) : WW g z nL n k ad μ pc lv (v :: .ref a :: st) := by
  intro H locs ls M S L
  subst ha; subst hfs
  obtain ⟨C, T, N, ty, ref, f1, f2, f3, f4, f5, f6, f7, f8, f9⟩ := F
  obtain ⟨ws, hP, hD, hcov, -⟩ := M.list
  obtain ⟨q0, hq0⟩ := hcov ki ii _ hμ
  refine va_putF (cc := cc) K.1.1 K.1.2.1 (own := y0.cls) (ref := ref) (C := C) (T := T) (N := N) (ci := ci) (index := index) (Ts := WALL) K.1.2.2.2.2 f3 ty f6 f7 K.1.2.2.2.1 (kK K) hP hD S q0 hq0 f1 fk f2 (kW K f4) ?_ f9 (K.2.2.2.2.1.2.trans hin) (hown C T N f1) (by rw [f6 fk f2, f8]) hn hfit hl hdg (fun H1 locs1 hP1 _ hS1 => kk H1 locs1 ls (M.back hcov hμ hq0 hP1) hS1 L)
  rcases f5 with rfl | h
  · exact fun _ q => q
  · exact u_same (kW K h)
theorem r_iald (K : Kn g z cc nL y0 ret tb lev mc ms ad0 μ0 ok ex) {a ki ii len j : Nat} {f : Nat → Int32} {x : Int32} {v : Int32} (hμ : μ ki ii = some (aI z len f)) (ha : ad ki ii = a) (hx : x = nI j) (hj : j < len) (hlen : len < 2 ^ 31) (hv : f j = v) (hdg : decode cc pc = .ok (.iaload, 1)) (kk : WW g z nL n k ad μ (pc + 1) lv (.int v :: st)) : WW g z nL n k ad μ pc lv (.int x :: .ref a :: st) := by
  intro H locs ls M S L
  subst ha; subst hv; subst hx
  refine va_iald K.1.1 K.1.2.1 (kK K) (M.one hμ) 0 0 rfl rfl (vp_in_nI hj hlen) hdg ?_
  rw [nI_clamp (by omega)]
  exact kk H locs ls M S L
theorem r_zald (K : Kn g z cc nL y0 ret tb lev mc ms ad0 μ0 ok ex) {a ki ii len j : Nat} {f : Nat → Int32} {x : Int32} {v : Int32} (hμ : μ ki ii = some (aZ z len f)) (ha : ad ki ii = a) (hx : x = nI j) (hj : j < len) (hlen : len < 2 ^ 31) (hv : f j = v) (hdg : decode cc pc = .ok (.baload, 1)) (kk : WW g z nL n k ad μ (pc + 1) lv (.int v :: st)) : WW g z nL n k ad μ pc lv (.int x :: .ref a :: st) := by
  intro H locs ls M S L
  subst ha; subst hv; subst hx
  refine va_zald K.1.1 K.1.2.1 (kK K) (M.one hμ) 0 1 rfl rfl (vp_in_nI hj hlen) hdg ?_
  rw [nI_clamp (by omega)]
  exact kk H locs ls M S L
theorem r_bald (K : Kn g z cc nL y0 ret tb lev mc ms ad0 μ0 ok ex) {a ki ii len j : Nat} {f : Nat → Int32} {x : Int32} {v : Int32} (hμ : μ ki ii = some (aB z len f)) (ha : ad ki ii = a) (hx : x = nI j) (hj : j < len) (hlen : len < 2 ^ 31) (hv : f j = v) (hdg : decode cc pc = .ok (.baload, 1)) (kk : WW g z nL n k ad μ (pc + 1) lv (.int v :: st)) : WW g z nL n k ad μ pc lv (.int x :: .ref a :: st) := by
  intro H locs ls M S L
  subst ha; subst hv; subst hx
  refine va_bald K.1.1 K.1.2.1 (kK K) (M.one hμ) 0 2 rfl rfl (vp_in_nI hj hlen) hdg ?_
  rw [nI_clamp (by omega)]
  exact kk H locs ls M S L
theorem r_cald (K : Kn g z cc nL y0 ret tb lev mc ms ad0 μ0 ok ex) {a ki ii len j : Nat} {f : Nat → Int32} {x : Int32} {v : Int32} (hμ : μ ki ii = some (aC z len f)) (ha : ad ki ii = a) (hx : x = nI j) (hj : j < len) (hlen : len < 2 ^ 31) (hv : f j = v) (hdg : decode cc pc = .ok (.caload, 1)) (kk : WW g z nL n k ad μ (pc + 1) lv (.int v :: st)) : WW g z nL n k ad μ pc lv (.int x :: .ref a :: st) := by
  intro H locs ls M S L
  subst ha; subst hv; subst hx
  refine va_cald K.1.1 K.1.2.1 (kK K) (M.one hμ) 0 5 rfl rfl (vp_in_nI hj hlen) hdg ?_
  rw [nI_clamp (by omega)]
  exact kk H locs ls M S L
theorem r_lald (K : Kn g z cc nL y0 ret tb lev mc ms ad0 μ0 ok ex) {a ki ii len j : Nat} {f : Nat → Int64} {x : Int32} {v : Int64} (hμ : μ ki ii = some (aJ z len f)) (ha : ad ki ii = a) (hx : x = nI j) (hj : j < len) (hlen : len < 2 ^ 31) (hv : f j = v) (hdg : decode cc pc = .ok (.laload, 1)) (kk : WW g z nL n k ad μ (pc + 1) lv (.long v :: st)) : WW g z nL n k ad μ pc lv (.int x :: .ref a :: st) := by
  intro H locs ls M S L
  subst ha; subst hv; subst hx
  refine va_lald K.1.1 K.1.2.1 (kK K) (M.one hμ) 0 3 rfl rfl (vp_in_nI hj hlen) hdg ?_
  rw [nI_clamp (by omega)]
  exact kk H locs ls M S L
theorem r_dald (K : Kn g z cc nL y0 ret tb lev mc ms ad0 μ0 ok ex) {a ki ii len j : Nat} {f : Nat → UInt64} {x : Int32} {v : UInt64} (hμ : μ ki ii = some (aD z len f)) (ha : ad ki ii = a) (hx : x = nI j) (hj : j < len) (hlen : len < 2 ^ 31) (hv : f j = v) (hdg : decode cc pc = .ok (.daload, 1)) (kk : WW g z nL n k ad μ (pc + 1) lv (.double v :: st)) : WW g z nL n k ad μ pc lv (.int x :: .ref a :: st) := by
  intro H locs ls M S L
  subst ha; subst hv; subst hx
  refine va_dald K.1.1 K.1.2.1 (kK K) (M.one hμ) 0 4 rfl rfl (vp_in_nI hj hlen) hdg ?_
  rw [nI_clamp (by omega)]
  exact kk H locs ls M S L
theorem r_iast (K : Kn g z cc nL y0 ret tb lev mc ms ad0 μ0 ok ex) {a ki ii len j : Nat} {f f' : Nat → Int32} {i : Int32} {x : Int32} (hμ : μ ki ii = some (aI z len f)) (ha : ad ki ii = a) (hx : i = nI j) (hj : j < len) (hlen : len < 2 ^ 31) (hf : upd f j x = f') (hdg : decode cc pc = .ok (.iastore, 1)) (kk : WW g z nL n k ad (up2 μ ki ii (aI z len f')) (pc + 1) lv st) : WW g z nL n k ad μ pc lv (.int x :: .int i :: .ref a :: st) := by
  intro H locs ls M S L
  subst ha; subst hf; subst hx
  obtain ⟨ws, hP, hD, hcov, -⟩ := M.list
  obtain ⟨q0, hq0⟩ := hcov ki ii _ hμ
  refine va_iast K.1.1 K.1.2.1 (kK K) hP hD S q0 0 hq0 rfl (vp_in_nI hj hlen) hdg (fun H1 locs1 hP1 _ hS1 => ?_)
  rw [nI_clamp (by omega)] at hP1
  exact kk H1 locs1 ls (M.back hcov hμ hq0 hP1) hS1 L
theorem r_zast (K : Kn g z cc nL y0 ret tb lev mc ms ad0 μ0 ok ex) {a ki ii len j : Nat} {f f' : Nat → Int32} {i : Int32} {x : Int32} (hμ : μ ki ii = some (aZ z len f)) (ha : ad ki ii = a) (hx : i = nI j) (hj : j < len) (hlen : len < 2 ^ 31) (hf : upd f j (vp_nar .boolean x) = f') (hdg : decode cc pc = .ok (.bastore, 1)) (kk : WW g z nL n k ad (up2 μ ki ii (aZ z len f')) (pc + 1) lv st) : WW g z nL n k ad μ pc lv (.int x :: .int i :: .ref a :: st) := by
  intro H locs ls M S L
  subst ha; subst hf; subst hx
  obtain ⟨ws, hP, hD, hcov, -⟩ := M.list
  obtain ⟨q0, hq0⟩ := hcov ki ii _ hμ
  refine va_zast K.1.1 K.1.2.1 (kK K) hP hD S q0 1 hq0 rfl (vp_in_nI hj hlen) hdg (fun H1 locs1 hP1 _ hS1 => ?_)
  rw [nI_clamp (by omega)] at hP1
  exact kk H1 locs1 ls (M.back hcov hμ hq0 hP1) hS1 L
theorem r_bast (K : Kn g z cc nL y0 ret tb lev mc ms ad0 μ0 ok ex) {a ki ii len j : Nat} {f f' : Nat → Int32} {i : Int32} {x : Int32} (hμ : μ ki ii = some (aB z len f)) (ha : ad ki ii = a) (hx : i = nI j) (hj : j < len) (hlen : len < 2 ^ 31) (hf : upd f j (vp_nar .byte x) = f') (hdg : decode cc pc = .ok (.bastore, 1)) (kk : WW g z nL n k ad (up2 μ ki ii (aB z len f')) (pc + 1) lv st) : WW g z nL n k ad μ pc lv (.int x :: .int i :: .ref a :: st) := by
  intro H locs ls M S L
  subst ha; subst hf; subst hx
  obtain ⟨ws, hP, hD, hcov, -⟩ := M.list
  obtain ⟨q0, hq0⟩ := hcov ki ii _ hμ
  refine va_bast K.1.1 K.1.2.1 (kK K) hP hD S q0 2 hq0 rfl (vp_in_nI hj hlen) hdg (fun H1 locs1 hP1 _ hS1 => ?_)
  rw [nI_clamp (by omega)] at hP1
  exact kk H1 locs1 ls (M.back hcov hμ hq0 hP1) hS1 L
theorem r_cast (K : Kn g z cc nL y0 ret tb lev mc ms ad0 μ0 ok ex) {a ki ii len j : Nat} {f f' : Nat → Int32} {i : Int32} {x : Int32} (hμ : μ ki ii = some (aC z len f)) (ha : ad ki ii = a) (hx : i = nI j) (hj : j < len) (hlen : len < 2 ^ 31) (hf : upd f j (vp_nar .char x) = f') (hdg : decode cc pc = .ok (.castore, 1)) (kk : WW g z nL n k ad (up2 μ ki ii (aC z len f')) (pc + 1) lv st) : WW g z nL n k ad μ pc lv (.int x :: .int i :: .ref a :: st) := by
  intro H locs ls M S L
  subst ha; subst hf; subst hx
  obtain ⟨ws, hP, hD, hcov, -⟩ := M.list
  obtain ⟨q0, hq0⟩ := hcov ki ii _ hμ
  refine va_cast K.1.1 K.1.2.1 (kK K) hP hD S q0 5 hq0 rfl (vp_in_nI hj hlen) hdg (fun H1 locs1 hP1 _ hS1 => ?_)
  rw [nI_clamp (by omega)] at hP1
  exact kk H1 locs1 ls (M.back hcov hμ hq0 hP1) hS1 L
theorem r_last (K : Kn g z cc nL y0 ret tb lev mc ms ad0 μ0 ok ex) {a ki ii len j : Nat} {f f' : Nat → Int64} {i : Int32} {x : Int64} (hμ : μ ki ii = some (aJ z len f)) (ha : ad ki ii = a) (hx : i = nI j) (hj : j < len) (hlen : len < 2 ^ 31) (hf : vp_updL f j x = f') (hdg : decode cc pc = .ok (.lastore, 1)) (kk : WW g z nL n k ad (up2 μ ki ii (aJ z len f')) (pc + 1) lv st) : WW g z nL n k ad μ pc lv (.long x :: .int i :: .ref a :: st) := by
  intro H locs ls M S L
  subst ha; subst hf; subst hx
  obtain ⟨ws, hP, hD, hcov, -⟩ := M.list
  obtain ⟨q0, hq0⟩ := hcov ki ii _ hμ
  refine va_last K.1.1 K.1.2.1 (kK K) hP hD S q0 3 hq0 rfl (vp_in_nI hj hlen) hdg (fun H1 locs1 hP1 _ hS1 => ?_)
  rw [nI_clamp (by omega)] at hP1
  exact kk H1 locs1 ls (M.back hcov hμ hq0 hP1) hS1 L
theorem r_dast (K : Kn g z cc nL y0 ret tb lev mc ms ad0 μ0 ok ex) {a ki ii len j : Nat} {f f' : Nat → UInt64} {i : Int32} {x : UInt64} (hμ : μ ki ii = some (aD z len f)) (ha : ad ki ii = a) (hx : i = nI j) (hj : j < len) (hlen : len < 2 ^ 31) (hf : vf_upd f j x = f') (hdg : decode cc pc = .ok (.dastore, 1)) (kk : WW g z nL n k ad (up2 μ ki ii (aD z len f')) (pc + 1) lv st) : WW g z nL n k ad μ pc lv (.double x :: .int i :: .ref a :: st) := by
  intro H locs ls M S L
  subst ha; subst hf; subst hx
  obtain ⟨ws, hP, hD, hcov, -⟩ := M.list
  obtain ⟨q0, hq0⟩ := hcov ki ii _ hμ
  refine va_dast K.1.1 K.1.2.1 (kK K) hP hD S q0 4 hq0 rfl (vp_in_nI hj hlen) hdg (fun H1 locs1 hP1 _ hS1 => ?_)
  rw [nI_clamp (by omega)] at hP1
  exact kk H1 locs1 ls (M.back hcov hμ hq0 hP1) hS1 L
theorem r_aald (K : Kn g z cc nL y0 ret tb lev mc ms ad0 μ0 ok ex) {a ki ii len j q : Nat} {f : Nat → Option Nat} {x : Int32} (hμ : μ ki ii = some (aO z len f)) (ha : ad ki ii = a) (hx : x = nI j) (hj : j < len) (hlen : len < 2 ^ 31) (hv : f j = some q) (hdg : decode cc pc = .ok (.aaload, 1)) (kk : WW g z nL n k ad μ (pc + 1) lv (.ref q :: st)) : WW g z nL n k ad μ pc lv (.int x :: .ref a :: st) := by
  intro H locs ls M S L
  subst ha; subst hx
  refine va_aldq K.1.1 K.1.2.1 (kK K) (M.one hμ) 0 6 rfl rfl (vp_in_nI hj hlen) hdg ?_
  rw [nI_clamp (by omega), hv]
  exact kk H locs ls M S L
theorem r_aast (K : Kn g z cc nL y0 ret tb lev mc ms ad0 μ0 ok ex) {a ki ii kv iv ci len j q : Nat} {f f' : Nat → Option Nat} {vs : List Value} {i : Int32} (hμ : μ ki ii = some (aO z len f)) (ha : ad ki ii = a) (hx : i = nI j) (hj : j < len) (hlen : len < 2 ^ 31) (hμv : μ kv iv = some (.inr (ci, vs))) (hav : ad kv iv = q) (hca : ∀ r : vw_C, vwCl[ci]? = some r → (r.1, "java/lang/Object") ∈ caZ) (hf : va_up f j (some q) = f') (hdg : decode cc pc = .ok (.aastore, 1)) (kk : WW g z nL n k ad (up2 μ ki ii (aO z len f')) (pc + 1) lv st) : WW g z nL n k ad μ pc lv (.ref q :: .int i :: .ref a :: st) := by
  intro H locs ls M S L
  subst ha; subst hf; subst hx; subst hav
  obtain ⟨ws, hP, hD, hcov, -⟩ := M.list
  obtain ⟨q0, hq0⟩ := hcov ki ii _ hμ
  obtain ⟨q1, hq1⟩ := hcov kv iv _ hμv
  obtain ⟨r, hr, -⟩ := (M.1 kv iv _ hμv).1
  refine va_astqO (E := "java/lang/Object") (ci := ci) K.1.1 K.1.2.1 (kK K) hP hD S q0 6 q1 hq0 rfl ((kE K).2.2.1.2.2.1 _ (hca r hr)) hq1 hr (vp_in_nI hj hlen) hdg (fun H1 locs1 hP1 _ hS1 => ?_)
  rw [nI_clamp (by omega)] at hP1
  exact kk H1 locs1 ls (M.back hcov hμ hq0 hP1) hS1 L
theorem r_aastN (K : Kn g z cc nL y0 ret tb lev mc ms ad0 μ0 ok ex) {a ki ii len j : Nat} {f f' : Nat → Option Nat} {i : Int32} (hμ : μ ki ii = some (aO z len f)) (ha : ad ki ii = a) (hx : i = nI j) (hj : j < len) (hlen : len < 2 ^ 31) (hf : va_up f j none = f') (hdg : decode cc pc = .ok (.aastore, 1)) (kk : WW g z nL n k ad (up2 μ ki ii (aO z len f')) (pc + 1) lv st) : WW g z nL n k ad μ pc lv (.null :: .int i :: .ref a :: st) := by
  intro H locs ls M S L
  subst ha; subst hf; subst hx
  obtain ⟨ws, hP, hD, hcov, -⟩ := M.list
  obtain ⟨q0, hq0⟩ := hcov ki ii _ hμ
  refine va_astqN K.1.1 K.1.2.1 (kK K) hP hD S q0 6 hq0 rfl (vp_in_nI hj hlen) hdg (fun H1 locs1 hP1 _ hS1 => ?_)
  rw [nI_clamp (by omega)] at hP1
  exact kk H1 locs1 ls (M.back hcov hμ hq0 hP1) hS1 L
theorem r_alenI (K : Kn g z cc nL y0 ret tb lev mc ms ad0 μ0 ok ex) {a ki ii len : Nat} {f : Nat → Int32} (hμ : μ ki ii = some (aI z len f)) (ha : ad ki ii = a) (hdg : decode cc pc = .ok (.arraylength, 1)) (kk : WW g z nL n k ad μ (pc + 1) lv (.int (nI len) :: st)) : WW g z nL n k ad μ pc lv (.ref a :: st) := by
  intro H locs ls M S L
  subst ha
  exact va_alen K.1.1 K.1.2.1 (kK K) (M.one hμ) 0 0 rfl rfl rfl hdg (kk H locs ls M S L)
theorem r_alenB (K : Kn g z cc nL y0 ret tb lev mc ms ad0 μ0 ok ex) {a ki ii len : Nat} {f : Nat → Int32} (hμ : μ ki ii = some (aB z len f)) (ha : ad ki ii = a) (hdg : decode cc pc = .ok (.arraylength, 1)) (kk : WW g z nL n k ad μ (pc + 1) lv (.int (nI len) :: st)) : WW g z nL n k ad μ pc lv (.ref a :: st) := by
  intro H locs ls M S L
  subst ha
  exact va_alen K.1.1 K.1.2.1 (kK K) (M.one hμ) 0 2 rfl rfl rfl hdg (kk H locs ls M S L)
theorem r_alenO (K : Kn g z cc nL y0 ret tb lev mc ms ad0 μ0 ok ex) {a ki ii len : Nat} {f : Nat → Option Nat} (hμ : μ ki ii = some (aO z len f)) (ha : ad ki ii = a) (hdg : decode cc pc = .ok (.arraylength, 1)) (kk : WW g z nL n k ad μ (pc + 1) lv (.int (nI len) :: st)) : WW g z nL n k ad μ pc lv (.ref a :: st) := by
  intro H locs ls M S L
  subst ha
  exact va_alen K.1.1 K.1.2.1 (kK K) (M.one hμ) 0 6 rfl rfl rfl hdg (kk H locs ls M S L)
theorem r_newaI (K : Kn g z cc nL y0 ret tb lev mc ms ad0 μ0 ok ex) {x : Int32} {len : Nat} (ki ii : Nat) (hμ : μ ki ii = none) (hw : Cond.arrayClass .int ∈ WALL) (hx : x = nI len) (hlen : len ≤ 65536) (hc : n + 1 ≤ mc) (hs : k + len ≤ ms) (hdg : decode cc pc = .ok (.newarray .int, 2)) (kk : ∀ q : Nat, WW g z nL (n + 1) (k + len) (nmu ad ki ii q) (up2 μ ki ii (aI z len (fun _ => 0))) (pc + 2) lv (.ref q :: st)) : WW g z nL n k ad μ pc lv (.int x :: st) := by
  intro H locs ls M S L
  subst hx
  obtain ⟨ws, hP, hD, hcov, -⟩ := M.list
  refine va_newa (atype := .int) (ty := .int) (a0 := (len, .inl (fun _ => 0))) K.1.1 K.1.2.1 (kW K hw) rfl (kK K) hP hD S (kA K) (fun cA => rfl) (nI_pos (by omega)) (nI_clamp (by omega)) (by simp only [componentBytes]; omega) (by rw [kR K]; exact hc) (by rw [kR K]; exact hs) hdg (fun q cA H1 hK1 hP1 hD1 hS1 => ?_)
  have e1 : cA = z.1.2 0 := cA_eq (hK1.2 7 (cA, .int) rfl).2 (hK1.2 0 (z.1.2 0, .int) rfl).2
  subst e1
  exact kk q H1 locs ls (M.push hcov hμ hP1 hD1) hS1 L
theorem r_newaZ (K : Kn g z cc nL y0 ret tb lev mc ms ad0 μ0 ok ex) {x : Int32} {len : Nat} (ki ii : Nat) (hμ : μ ki ii = none) (hw : Cond.arrayClass .boolean ∈ WALL) (hx : x = nI len) (hlen : len ≤ 65536) (hc : n + 1 ≤ mc) (hs : k + len ≤ ms) (hdg : decode cc pc = .ok (.newarray .boolean, 2)) (kk : ∀ q : Nat, WW g z nL (n + 1) (k + len) (nmu ad ki ii q) (up2 μ ki ii (aZ z len (fun _ => 0))) (pc + 2) lv (.ref q :: st)) : WW g z nL n k ad μ pc lv (.int x :: st) := by
  intro H locs ls M S L
  subst hx
  obtain ⟨ws, hP, hD, hcov, -⟩ := M.list
  refine va_newa (atype := .boolean) (ty := .boolean) (a0 := (len, .inl (fun _ => 0))) K.1.1 K.1.2.1 (kW K hw) rfl (kK K) hP hD S (kA K) (fun cA => rfl) (nI_pos (by omega)) (nI_clamp (by omega)) (by simp only [componentBytes]; omega) (by rw [kR K]; exact hc) (by rw [kR K]; exact hs) hdg (fun q cA H1 hK1 hP1 hD1 hS1 => ?_)
  have e1 : cA = z.1.2 1 := cA_eq (hK1.2 7 (cA, .boolean) rfl).2 (hK1.2 1 (z.1.2 1, .boolean) rfl).2
  subst e1
  exact kk q H1 locs ls (M.push hcov hμ hP1 hD1) hS1 L
theorem r_newaB (K : Kn g z cc nL y0 ret tb lev mc ms ad0 μ0 ok ex) {x : Int32} {len : Nat} (ki ii : Nat) (hμ : μ ki ii = none) (hw : Cond.arrayClass .byte ∈ WALL) (hx : x = nI len) (hlen : len ≤ 65536) (hc : n + 1 ≤ mc) (hs : k + len ≤ ms) (hdg : decode cc pc = .ok (.newarray .byte, 2)) (kk : ∀ q : Nat, WW g z nL (n + 1) (k + len) (nmu ad ki ii q) (up2 μ ki ii (aB z len (fun _ => 0))) (pc + 2) lv (.ref q :: st)) : WW g z nL n k ad μ pc lv (.int x :: st) := by
  intro H locs ls M S L
  subst hx
  obtain ⟨ws, hP, hD, hcov, -⟩ := M.list
  refine va_newa (atype := .byte) (ty := .byte) (a0 := (len, .inl (fun _ => 0))) K.1.1 K.1.2.1 (kW K hw) rfl (kK K) hP hD S (kA K) (fun cA => rfl) (nI_pos (by omega)) (nI_clamp (by omega)) (by simp only [componentBytes]; omega) (by rw [kR K]; exact hc) (by rw [kR K]; exact hs) hdg (fun q cA H1 hK1 hP1 hD1 hS1 => ?_)
  have e1 : cA = z.1.2 2 := cA_eq (hK1.2 7 (cA, .byte) rfl).2 (hK1.2 2 (z.1.2 2, .byte) rfl).2
  subst e1
  exact kk q H1 locs ls (M.push hcov hμ hP1 hD1) hS1 L
theorem r_newaJ (K : Kn g z cc nL y0 ret tb lev mc ms ad0 μ0 ok ex) {x : Int32} {len : Nat} (ki ii : Nat) (hμ : μ ki ii = none) (hw : Cond.arrayClass .long ∈ WALL) (hx : x = nI len) (hlen : len ≤ 65536) (hc : n + 1 ≤ mc) (hs : k + len ≤ ms) (hdg : decode cc pc = .ok (.newarray .long, 2)) (kk : ∀ q : Nat, WW g z nL (n + 1) (k + len) (nmu ad ki ii q) (up2 μ ki ii (aJ z len (fun _ => 0))) (pc + 2) lv (.ref q :: st)) : WW g z nL n k ad μ pc lv (.int x :: st) := by
  intro H locs ls M S L
  subst hx
  obtain ⟨ws, hP, hD, hcov, -⟩ := M.list
  refine va_newa (atype := .long) (ty := .long) (a0 := (len, .inr (.inl (fun _ => 0)))) K.1.1 K.1.2.1 (kW K hw) rfl (kK K) hP hD S (kA K) (fun cA => rfl) (nI_pos (by omega)) (nI_clamp (by omega)) (by simp only [componentBytes]; omega) (by rw [kR K]; exact hc) (by rw [kR K]; exact hs) hdg (fun q cA H1 hK1 hP1 hD1 hS1 => ?_)
  have e1 : cA = z.1.2 3 := cA_eq (hK1.2 7 (cA, .long) rfl).2 (hK1.2 3 (z.1.2 3, .long) rfl).2
  subst e1
  exact kk q H1 locs ls (M.push hcov hμ hP1 hD1) hS1 L
theorem r_newaD (K : Kn g z cc nL y0 ret tb lev mc ms ad0 μ0 ok ex) {x : Int32} {len : Nat} (ki ii : Nat) (hμ : μ ki ii = none) (hw : Cond.arrayClass .double ∈ WALL) (hx : x = nI len) (hlen : len ≤ 65536) (hc : n + 1 ≤ mc) (hs : k + len ≤ ms) (hdg : decode cc pc = .ok (.newarray .double, 2)) (kk : ∀ q : Nat, WW g z nL (n + 1) (k + len) (nmu ad ki ii q) (up2 μ ki ii (aD z len (fun _ => 0))) (pc + 2) lv (.ref q :: st)) : WW g z nL n k ad μ pc lv (.int x :: st) := by
  intro H locs ls M S L
  subst hx
  obtain ⟨ws, hP, hD, hcov, -⟩ := M.list
  refine va_newa (atype := .double) (ty := .double) (a0 := (len, .inr (.inr (.inr (.inl (fun _ => 0)))))) K.1.1 K.1.2.1 (kW K hw) rfl (kK K) hP hD S (kA K) (fun cA => rfl) (nI_pos (by omega)) (nI_clamp (by omega)) (by simp only [componentBytes]; omega) (by rw [kR K]; exact hc) (by rw [kR K]; exact hs) hdg (fun q cA H1 hK1 hP1 hD1 hS1 => ?_)
  have e1 : cA = z.1.2 4 := cA_eq (hK1.2 7 (cA, .double) rfl).2 (hK1.2 4 (z.1.2 4, .double) rfl).2
  subst e1
  exact kk q H1 locs ls (M.push hcov hμ hP1 hD1) hS1 L
theorem r_newaC (K : Kn g z cc nL y0 ret tb lev mc ms ad0 μ0 ok ex) {x : Int32} {len : Nat} (ki ii : Nat) (hμ : μ ki ii = none) (hw : Cond.arrayClass .char ∈ WALL) (hx : x = nI len) (hlen : len ≤ 65536) (hc : n + 1 ≤ mc) (hs : k + len ≤ ms) (hdg : decode cc pc = .ok (.newarray .char, 2)) (kk : ∀ q : Nat, WW g z nL (n + 1) (k + len) (nmu ad ki ii q) (up2 μ ki ii (aC z len (fun _ => 0))) (pc + 2) lv (.ref q :: st)) : WW g z nL n k ad μ pc lv (.int x :: st) := by
  intro H locs ls M S L
  subst hx
  obtain ⟨ws, hP, hD, hcov, -⟩ := M.list
  refine va_newa (atype := .char) (ty := .char) (a0 := (len, .inl (fun _ => 0))) K.1.1 K.1.2.1 (kW K hw) rfl (kK K) hP hD S (kA K) (fun cA => rfl) (nI_pos (by omega)) (nI_clamp (by omega)) (by simp only [componentBytes]; omega) (by rw [kR K]; exact hc) (by rw [kR K]; exact hs) hdg (fun q cA H1 hK1 hP1 hD1 hS1 => ?_)
  have e1 : cA = z.1.2 5 := cA_eq (hK1.2 7 (cA, .char) rfl).2 (hK1.2 5 (z.1.2 5, .char) rfl).2
  subst e1
  exact kk q H1 locs ls (M.push hcov hμ hP1 hD1) hS1 L
theorem r_newq (K : Kn g z cc nL y0 ret tb lev mc ms ad0 μ0 ok ex) {x : Int32} {len index : Nat} (ki ii : Nat) (hμ : μ ki ii = none) (hl : Cond.classLink y0.cls index "java/lang/Object" ∈ WALL) (hx : x = nI len) (hlen : len ≤ 65536) (hc : n + 1 ≤ mc) (hs : k + len ≤ ms) (hdg : decode cc pc = .ok (.anewarray index, 3)) (kk : ∀ q : Nat, WW g z nL (n + 1) (k + len) (nmu ad ki ii q) (up2 μ ki ii (aO z len (fun _ => none))) (pc + 3) lv (.ref q :: st)) : WW g z nL n k ad μ pc lv (.int x :: st) := by
  intro H locs ls M S L
  subst hx
  obtain ⟨ws, hP, hD, hcov, -⟩ := M.list
  refine va_newq (C := "java/lang/Object") K.1.1 K.1.2.1 K.1.2.2.2.1 (kW K hl) (kE K).2.2.2.2.2.2.2.2.1.2.2 (kK K) hP hD S (kA K) (nI_pos (by omega)) (nI_clamp (by omega)) (by omega) (by rw [kR K]; exact hc) (by rw [kR K]; exact hs) hdg (fun q cA H1 hK1 hP1 hD1 hS1 => ?_)
  have e1 : cA = z.1.2 6 := cA_eq (hK1.2 7 (cA, .object "java/lang/Object") rfl).2 (hK1.2 6 (z.1.2 6, .object "java/lang/Object") rfl).2
  subst e1
  exact kk q H1 locs ls (M.push hcov hμ hP1 hD1) hS1 L
/-- what 'new' needs of a class -/
def NwZ (own : String) (index ci N : Nat) (fs : List Value) : Prop := ∃ (C : String) (T : u_T) (ty : Nat → FieldType), vwCl[ci]? = some (C, T, N) ∧ (∀ w ∈ u_ws C T N, w ∈ WALL) ∧ (∀ k, k < N → parseFieldDescriptor (T k).2.2.1 = some (ty k)) ∧ (∀ j, j < N → defaultValue (ty j) = vp_V fs j) ∧ Cond.classLink own index C ∈ WALL ∧ Cond.instantiable C N ∈ WALL ∧ Cond.initialized C ∈ WALL
theorem r_new (K : Kn g z cc nL y0 ret tb lev mc ms ad0 μ0 ok ex) {index ci N : Nat} {fs : List Value} (ki ii : Nat) (F : NwZ y0.cls index ci N fs) (hμ : μ ki ii = none) (hc : n + 1 ≤ mc) (hs : k + N ≤ ms) (hdg : decode cc pc = .ok (.new index, 3)) (kk : ∀ q : Nat, WW g z nL (n + 1) (k + N) (nmu ad ki ii q) (up2 μ ki ii (.inr (ci, fs))) (pc + 3) lv (.ref q :: st)) : WW g z nL n k ad μ pc lv st := by
  intro H locs ls M S L
  obtain ⟨C, T, ty, f1, f2, f3, f4, f5, f6, f7⟩ := F
  obtain ⟨ws, hP, hD, hcov, -⟩ := M.list
  exact va_new (c0 := gc g) (cc := cc) K.1.1 K.1.2.1 (own := y0.cls) (C := C) (T := T) (N := N) (ci := ci) (index := index) (Ts := WALL) K.1.2.2.2.2 f2 ty f3 K.1.2.2.2.1 (kW K f5) (kW K f6) (kW K f7) (kK K) hP hD S (kA K) f1 f4 (by rw [kR K]; exact hc) (by rw [kR K]; exact hs) hdg (fun q H1 hP1 hD1 hS1 => kk q H1 locs ls (M.push hcov hμ hP1 hD1) hS1 L)
theorem r_castY (K : Kn g z cc nL y0 ret tb lev mc ms ad0 μ0 ok ex) {a ki ii ci index : Nat} {fs : List Value} {nm : String} (hl : Cond.classLink y0.cls index nm ∈ WALL) (hca : ∀ r : vw_C, vwCl[ci]? = some r → (r.1, nm) ∈ caZ) (hμ : μ ki ii = some (.inr (ci, fs))) (ha : ad ki ii = a) (hdg : decode cc pc = .ok (.checkcast index, 3)) (kk : WW g z nL n k ad μ (pc + 3) lv (.ref a :: st)) : WW g z nL n k ad μ pc lv (.ref a :: st) := by
  intro H locs ls M S L
  subst ha
  obtain ⟨r, hr, -⟩ := (M.1 ki ii _ hμ).1
  exact va_castY K.1.1 K.1.2.1 K.1.2.2.2.1 (kW K hl) ((kE K).2.2.1.2.2.1 _ (hca r hr)) (va_recv (kK K) (M.one hμ) hr (q0 := 0) rfl) hdg (kk H locs ls M S L)
theorem r_gets (K : Kn g z cc nL y0 ret tb lev mc ms ad0 μ0 ok ex) {C nme d ref : String} {v : Value} {index : Nat} (hZ : va_Z C nme d v (zA z) (gs g) (gs g).heap) (hl : Cond.fieldLink y0.cls index C nme d ∈ WALL) (hdg : decode cc pc = .ok (.getstatic index, 3)) (kk : WW g z nL n k ad μ (pc + 3) lv (v :: st)) : WW g z nL n k ad μ pc lv st := fun H locs ls M S L => va_gets K.1.1 K.1.2.1 hZ S K.1.2.2.2.1 (kW K hl) (fun _ q => q) hdg (kk H locs ls M S L)
theorem r_objInit (K : Kn g z cc nL y0 ret tb lev mc ms ad0 μ0 ok ex) {a idx : Nat} (hl : Cond.methodLink y0.cls idx Lib.objectInit ∈ WALL) (h2 : Cond.instanceMethod Lib.objectInit ∈ WALL) (h3 : Cond.code Lib.objectInit ⟨#[0xb1]⟩ 1 none ∈ WALL) (hst : (st.map fun v => v.category).sum ≤ 8) (hdg : decode cc pc = .ok (.invokespecial idx, 3)) (kk : WW g z nL n k ad μ (pc + 3) lv st) : WW g z nL n k ad μ pc lv (.ref a :: st) := fun H locs ls M S L => W.objInit K.1.1 K.1.2.1 K.1.2.2.2.1 (kW K hl) (kW K h2) (kW K h3) rfl (by rw [K.1.2.2.1]; exact L.1) rfl hdg (by rw [kR K]; show 1 ≤ 12 + lev; omega) (by rw [kR K]; show 2 * 0 + _ + 12 ≤ 200 + 60 * lev; omega) (kk H locs ls M S L)
theorem r_mmin (K : Kn g z cc nL y0 ret tb lev mc ms ad0 μ0 ok ex) {x y v : Int32} {index : Nat} (hl : Cond.methodLink y0.cls index Lib.Math.min.name ∈ WALL) (h2 : Cond.static Lib.Math.min.name ∈ WALL) (h3 : Cond.initialized "java/lang/Math" ∈ WALL) (h4 : Cond.code Lib.Math.min.name Lib.Math.min.code 2 (some .int) ∈ WALL) (hst : (st.map fun v => v.category).sum ≤ 8) (hv : (if y < x then y else x) = v) (hn : n ≤ mc) (hk : k ≤ ms) (hdg : decode cc pc = .ok (.invokestatic index, 3)) (kk : WW g z nL n k ad μ (pc + 3) lv (.int v :: st)) : WW g z nL n k ad μ pc lv (.int y :: .int x :: st) := by
  intro H locs ls M S L
  subst hv
  exact va_mmin K.1.1 K.1.2.1 (K.1.2.2.1.trans L.1.symm) K.1.2.2.2.1 (kW K hl) (kW K h2) (kW K h3) (kW K h4) (by rw [kR K]; show 1 ≤ 12 + lev; omega) (by rw [kR K]; show _ + 13 ≤ 200 + 60 * lev; omega) (by rw [kR K]; exact hn) (by rw [kR K]; exact hk) hdg (kk H locs ls M S L)
theorem r_mmax (K : Kn g z cc nL y0 ret tb lev mc ms ad0 μ0 ok ex) {x y v : Int32} {index : Nat} (hl : Cond.methodLink y0.cls index Lib.Math.max.name ∈ WALL) (h2 : Cond.static Lib.Math.max.name ∈ WALL) (h3 : Cond.initialized "java/lang/Math" ∈ WALL) (h4 : Cond.code Lib.Math.max.name Lib.Math.max.code 2 (some .int) ∈ WALL) (hst : (st.map fun v => v.category).sum ≤ 8) (hv : (if x < y then y else x) = v) (hn : n ≤ mc) (hk : k ≤ ms) (hdg : decode cc pc = .ok (.invokestatic index, 3)) (kk : WW g z nL n k ad μ (pc + 3) lv (.int v :: st)) : WW g z nL n k ad μ pc lv (.int y :: .int x :: st) := by
  intro H locs ls M S L
  subst hv
  exact va_mmax K.1.1 K.1.2.1 (K.1.2.2.1.trans L.1.symm) K.1.2.2.2.1 (kW K hl) (kW K h2) (kW K h3) (kW K h4) (by rw [kR K]; show 1 ≤ 12 + lev; omega) (by rw [kR K]; show _ + 13 ≤ 200 + 60 * lev; omega) (by rw [kR K]; exact hn) (by rw [kR K]; exact hk) hdg (kk H locs ls M S L)
end ZM
