/-! CALLS, ENDS, THROWS -/
/-- words and facts of a call of y (not static) -/
def CwZ (own : String) (index : Nat) (y : MethodName) (b : ByteArray) (nL : Nat) (ret : Option FieldType) (nargs : Nat) : Prop :=
  Cond.methodLink own index y ∈ WALL ∧ Cond.initialized y.cls ∈ WALL ∧ Cond.code y b nL ret ∈ WALL ∧ (y.cls ≠ "java/lang/invoke/MethodHandle" ∧ y.cls ≠ "java/lang/invoke/VarHandle" ∧ (parseMethodDescriptor y.desc).map (fun d => d.parameters.length) = some nargs)
section ZC
variable {g : Gx} {z : Zx} {cc : ByteArray} {nL : Nat} {y0 : MethodName} {ret : Option FieldType} {tb : List ExceptionTableEntry} {lev mc ms : Nat} {ad0 ad : Nm} {μ0 μ : Ce} {ok : OkT} {ex : String → Prop} {n k pc : Nat} {lv lv' : Lv} {st st0 : List Value}
variable {y : MethodName} {b' : ByteArray} {nL' : Nat} {ret' : Option FieldType} {lev' mc' ms' : Nat} {ok' : OkT} {ex' : String → Prop} {As : List Value} {index : Nat}
theorem kCB (K : Kn g z cc nL y0 ret tb lev mc ms ad0 μ0 ok ex) {nargs : Nat} (C : CwZ y0.cls index y b' nL' ret' nargs) (hlev : lev' < lev) (hnl : nL' ≤ 41) : CallB (gR g) (gs g) (ga g) y0.cls index y b' nL' ret' (Cond.code y b' nL' ret' :: WALL) (rmK lev' mc' ms') mc' ms' nargs := by
  refine callB_of nargs (Ts := WALL) (ws' := WALL) K.1.2.2.2.2 (gi_wall (gi_cons C.2.2.1)) rfl rfl rfl (kW K C.2.1) (kW K C.1) C.2.2.2 ?_
  rw [kR K]
  exact ⟨by show 12 + lev' + 1 ≤ 12 + lev; omega, by show 8 + (nL' + 11) + (200 + 60 * lev') ≤ 200 + 60 * lev; omega⟩
/-- what comes back from a callee's run -/
theorem kBack {H : Heap} {locs : List Loc} {ls : Array Slot} {a : Array Value} {a0 : Nm} {m0 : Ce} (S : va_S (zA z) (gs g).heap H locs) (L : lv_has ls nL lv)
    (hr : vx_Run (gp g) (gl g) (ge g) (gR g) (gs g) (gm g) (ga g) (gb g) (gt g) (gc g) H locs n k mc' ms' (F0 (gm g) pc ls st0) st (okQ z ok' a) (exQ z ex' a0 m0) (zA z))
    (kx : ∀ E, ex' E → WX g z nL (n + mc') (k + ms') a0 m0 pc lv st E)
    (kk : ∀ v ad' μ', ok' v ad' μ' → WW g z nL (n + mc') (k + ms') ad' μ' (pc + 3) lv (v.toList ++ st)) :
    W (gp g) (gl g) (ge g) (gR g) (gs g) (gm g) (ga g) (gb g) (gt g) (gc g) H locs n k (gQ g) (F0 (gm g) pc ls st0) := by
  intro T hT X
  rcases hr T hT X with ⟨v, st₀, t, T', Lc, h0, X', hL, e1, e2, ⟨v', ad', μ', hv, hok, hM, hF⟩, stp⟩ | ⟨q, st₀, t, T', Lc, E, ce, h0, X', hL, e1, e2, ⟨hx, hM, hF⟩, hce, hcv, hcl, stp⟩
  · cases hv
    obtain ⟨k1, k2, k3⟩ := vx_keep h0 e1 S (fun _ _ h => h) (fun _ h => h) hL hF
    obtain ⟨t2, a1, b1⟩ := kk v ad' μ' hok T'.heap (locs ++ Lc) ls (by rw [e1]; exact hM) k3 L T' rfl X'
    exact ⟨t2, stp t2 a1, b1⟩
  · obtain ⟨k1, k2, k3⟩ := vx_keep h0 e1 S (fun _ _ h => h) (fun _ h => h) hL hF
    obtain ⟨t2, a1, b1⟩ := kx E hx T'.heap (locs ++ Lc) ls q ce (by rw [e1]; exact hM) k3 L (by rw [e1]; exact hce) hcv hcl T' rfl X'
    exact ⟨t2, stp.trans a1, b1⟩
/-- an exception leaves -/
theorem wx_out (K : Kn g z cc nL y0 ret [] lev mc ms ad0 μ0 ok ex) {E : String} (hE : ex E) (hn : n ≤ mc) (hk : k ≤ ms) : WX g z nL n k ad0 μ0 pc lv st E := by
  intro H locs ls q ce M S L hce hv hcl
  rw [kQ K]
  exact vx_out (fun x hx => by rw [K.2.2.2.2.2.2.1] at hx; exact absurd hx List.not_mem_nil) K.2.2.2.1 hce hv hcl (fun t ht _ => ⟨hE, by rw [ht]; exact M, S.F ht⟩) S.2.2 hn hk
theorem kPreS (K : Kn g z cc nL y0 ret tb lev mc ms ad0 μ0 ok ex) {H : Heap} {locs : List Loc} {as : List Value} (M : Hv z ad μ H) (S : va_S (zA z) (gs g).heap H locs) : PreS (gs g) H (va_Pc as (fun U => Ev z U ∧ Hv z ad μ U.heap)) as :=
  ⟨koBlind, fun U hU hW => ⟨rfl, (kE K).at S hU hW, by rw [hU]; exact M⟩⟩
/-- invokevirtual: the callee returns, or throws what kx takes on -/
theorem r_callVh (K : Kn g z cc nL y0 ret tb lev mc ms ad0 μ0 ok ex) {a ki ii ci : Nat} {fs : List Value} (hM : Ko z (gl g) y b' nL' ret' lev' mc' ms' (.ref a :: As) ad μ ok' ex') (C : CwZ y0.cls index y b' nL' ret' As.length) (hi : Cond.instanceMethod y ∈ WALL) (hse : Cond.selects y.cls y y ∈ WALL) (hlev : lev' < lev) (hnl : nL' ≤ 41) (hμ : μ ki ii = some (.inr (ci, fs))) (ha : ad ki ii = a) (hci : (vwCl[ci]?).map (·.1) = some y.cls) (hst : st0 = As.reverse ++ .ref a :: st) (hcat : (st.map fun v => v.category).sum ≤ 8) (hn : n + mc' ≤ mc) (hk : k + ms' ≤ ms) (hdg : decode cc pc = .ok (.invokevirtual index, 3))
    (kx : ∀ E, ex' E → WX g z nL (n + mc') (k + ms') ad μ pc lv st E)
    (kk : ∀ v ad' μ', ok' v ad' μ' → WW g z nL (n + mc') (k + ms') ad' μ' (pc + 3) lv (v.toList ++ st)) : WW g z nL n k ad μ pc lv st0 := by
  intro H locs ls M S L
  subst ha
  obtain ⟨r, hr, -⟩ := (M.1 ki ii _ hμ).1
  have hrc : r.1 = y.cls := by
    have : vwCl[ci]? = some r := hr
    rw [this] at hci
    exact Option.some.inj hci
  have hrecv := va_recv (kK K) (M.one hμ) hr (q0 := 0) rfl
  rw [hrc] at hrecv
  exact kBack S L (vx_runV (Ts := WALL) (As := As) (C := y.cls) (rest := st) K.1 hM ⟨kCB K C hlev hnl, kW K hi, kW K hse⟩ ⟨koBlind, hrecv, (kPreS K M S).2⟩ rfl rfl L.1 hst (lv_room hcat) hdg (by rw [kR K]; exact ⟨hn, hk⟩)) kx kk
theorem r_callV (K : Kn g z cc nL y0 ret tb lev mc ms ad0 μ0 ok ex) {a ki ii ci : Nat} {fs : List Value} (hM : Ko z (gl g) y b' nL' ret' lev' mc' ms' (.ref a :: As) ad μ ok' exNo) (C : CwZ y0.cls index y b' nL' ret' As.length) (hi : Cond.instanceMethod y ∈ WALL) (hse : Cond.selects y.cls y y ∈ WALL) (hlev : lev' < lev) (hnl : nL' ≤ 41) (hμ : μ ki ii = some (.inr (ci, fs))) (ha : ad ki ii = a) (hci : (vwCl[ci]?).map (·.1) = some y.cls) (hst : st0 = As.reverse ++ .ref a :: st) (hcat : (st.map fun v => v.category).sum ≤ 8) (hn : n + mc' ≤ mc) (hk : k + ms' ≤ ms) (hdg : decode cc pc = .ok (.invokevirtual index, 3))
    (kk : ∀ v ad' μ', ok' v ad' μ' → WW g z nL (n + mc') (k + ms') ad' μ' (pc + 3) lv (v.toList ++ st)) : WW g z nL n k ad μ pc lv st0 :=
  r_callVh K hM C hi hse hlev hnl hμ ha hci hst hcat hn hk hdg (fun _ h => h.elim) kk
theorem r_callVx (K : Kn g z cc nL y0 ret [] lev mc ms ad0 μ0 ok ex) {a ki ii ci : Nat} {fs : List Value} (hM : Ko z (gl g) y b' nL' ret' lev' mc' ms' (.ref a :: As) ad0 μ0 ok' ex') (hx : ∀ E, ex' E → ex E) (C : CwZ y0.cls index y b' nL' ret' As.length) (hi : Cond.instanceMethod y ∈ WALL) (hse : Cond.selects y.cls y y ∈ WALL) (hlev : lev' < lev) (hnl : nL' ≤ 41) (hμ : μ0 ki ii = some (.inr (ci, fs))) (ha : ad0 ki ii = a) (hci : (vwCl[ci]?).map (·.1) = some y.cls) (hst : st0 = As.reverse ++ .ref a :: st) (hcat : (st.map fun v => v.category).sum ≤ 8) (hn : n + mc' ≤ mc) (hk : k + ms' ≤ ms) (hdg : decode cc pc = .ok (.invokevirtual index, 3))
    (kk : ∀ v ad' μ', ok' v ad' μ' → WW g z nL (n + mc') (k + ms') ad' μ' (pc + 3) lv (v.toList ++ st)) : WW g z nL n k ad0 μ0 pc lv st0 :=
  r_callVh K hM C hi hse hlev hnl hμ ha hci hst hcat hn hk hdg (fun _ h => wx_out K (hx _ h) hn hk) kk
/-- invokestatic -/
theorem r_callSh (K : Kn g z cc nL y0 ret tb lev mc ms ad0 μ0 ok ex) (hM : Ko z (gl g) y b' nL' ret' lev' mc' ms' As ad μ ok' ex') (C : CwZ y0.cls index y b' nL' ret' As.length) (hsm : Cond.static y ∈ WALL) (hlev : lev' < lev) (hnl : nL' ≤ 41) (hst : st0 = As.reverse ++ st) (hcat : (st.map fun v => v.category).sum ≤ 8) (hn : n + mc' ≤ mc) (hk : k + ms' ≤ ms) (hdg : decode cc pc = .ok (.invokestatic index, 3))
    (kx : ∀ E, ex' E → WX g z nL (n + mc') (k + ms') ad μ pc lv st E)
    (kk : ∀ v ad' μ', ok' v ad' μ' → WW g z nL (n + mc') (k + ms') ad' μ' (pc + 3) lv (v.toList ++ st)) : WW g z nL n k ad μ pc lv st0 := by
  intro H locs ls M S L
  exact kBack S L (vx_runS (Ts := WALL) (As := As) (rest := st) K.1 hM ⟨kCB K C hlev hnl, kW K hsm⟩ (kPreS K M S) rfl rfl L.1 hst (lv_room hcat) hdg (by rw [kR K]; exact ⟨hn, hk⟩)) kx kk
theorem r_callS (K : Kn g z cc nL y0 ret tb lev mc ms ad0 μ0 ok ex) (hM : Ko z (gl g) y b' nL' ret' lev' mc' ms' As ad μ ok' exNo) (C : CwZ y0.cls index y b' nL' ret' As.length) (hsm : Cond.static y ∈ WALL) (hlev : lev' < lev) (hnl : nL' ≤ 41) (hst : st0 = As.reverse ++ st) (hcat : (st.map fun v => v.category).sum ≤ 8) (hn : n + mc' ≤ mc) (hk : k + ms' ≤ ms) (hdg : decode cc pc = .ok (.invokestatic index, 3))
    (kk : ∀ v ad' μ', ok' v ad' μ' → WW g z nL (n + mc') (k + ms') ad' μ' (pc + 3) lv (v.toList ++ st)) : WW g z nL n k ad μ pc lv st0 :=
  r_callSh K hM C hsm hlev hnl hst hcat hn hk hdg (fun _ h => h.elim) kk
theorem r_callSx (K : Kn g z cc nL y0 ret [] lev mc ms ad0 μ0 ok ex) (hM : Ko z (gl g) y b' nL' ret' lev' mc' ms' As ad0 μ0 ok' ex') (hx : ∀ E, ex' E → ex E) (C : CwZ y0.cls index y b' nL' ret' As.length) (hsm : Cond.static y ∈ WALL) (hlev : lev' < lev) (hnl : nL' ≤ 41) (hst : st0 = As.reverse ++ st) (hcat : (st.map fun v => v.category).sum ≤ 8) (hn : n + mc' ≤ mc) (hk : k + ms' ≤ ms) (hdg : decode cc pc = .ok (.invokestatic index, 3))
    (kk : ∀ v ad' μ', ok' v ad' μ' → WW g z nL (n + mc') (k + ms') ad' μ' (pc + 3) lv (v.toList ++ st)) : WW g z nL n k ad0 μ0 pc lv st0 :=
  r_callSh K hM C hsm hlev hnl hst hcat hn hk hdg (fun _ h => wx_out K (hx _ h) hn hk) kk
/-- invokespecial of a constructor -/
theorem r_callI (K : Kn g z cc nL y0 ret tb lev mc ms ad0 μ0 ok ex) {a : Nat} (hM : Ko z (gl g) y b' nL' none lev' mc' ms' (.ref a :: As) ad μ ok' exNo) (C : CwZ y0.cls index y b' nL' none As.length) (hi : Cond.instanceMethod y ∈ WALL) (hy : y.name = "<init>") (hlev : lev' < lev) (hnl : nL' ≤ 41) (hst : st0 = As.reverse ++ .ref a :: st) (hcat : (st.map fun v => v.category).sum ≤ 8) (hn : n + mc' ≤ mc) (hk : k + ms' ≤ ms) (hdg : decode cc pc = .ok (.invokespecial index, 3))
    (kk : ∀ v ad' μ', ok' v ad' μ' → WW g z nL (n + mc') (k + ms') ad' μ' (pc + 3) lv (v.toList ++ st)) : WW g z nL n k ad μ pc lv st0 := by
  intro H locs ls M S L
  exact kBack S L (vx_runI (Ts := WALL) (As := As) (rest := st) K.1 hM ⟨kCB K C hlev hnl, hy, kW K hi⟩ (kPreS K M S) rfl rfl L.1 hst (lv_room hcat) hdg (by rw [kR K]; exact ⟨hn, hk⟩)) (fun _ h => h.elim) kk
-- ends
theorem r_iret (K : Kn g z cc nL y0 (some .int) tb lev mc ms ad0 μ0 ok ex) {v : Int32} (hn : n ≤ mc) (hk : k ≤ ms) (h : ok (some (.int v)) ad μ) (hdg : decode cc pc = .ok (.ireturn, 1)) : WW g z nL n k ad μ pc lv [.int v] := by
  intro H locs ls M S L
  rw [kQ K]
  exact vx_ret (W.widen hn hk (W.iret K.1.1 K.1.2.1 K.2.2.2.2.1.1 (fun t ht _ => ⟨_, ad, μ, rfl, h, by rw [ht]; exact M, S.F ht⟩) S.2.2 hdg K.2.2.2.1))
theorem r_zret (K : Kn g z cc nL y0 (some .boolean) tb lev mc ms ad0 μ0 ok ex) {v : Int32} (hv : narrow .boolean (.int v) = .int v) (hn : n ≤ mc) (hk : k ≤ ms) (h : ok (some (.int v)) ad μ) (hdg : decode cc pc = .ok (.ireturn, 1)) : WW g z nL n k ad μ pc lv [.int v] := by
  intro H locs ls M S L
  rw [kQ K]
  exact vx_ret (W.widen hn hk (W.zret K.1.1 K.1.2.1 K.2.2.2.2.1.1 hv (fun t ht _ => ⟨_, ad, μ, rfl, h, by rw [ht]; exact M, S.F ht⟩) S.2.2 hdg K.2.2.2.1))
theorem r_cret (K : Kn g z cc nL y0 (some .char) tb lev mc ms ad0 μ0 ok ex) {v : Int32} (hv : narrow .char (.int v) = .int v) (hn : n ≤ mc) (hk : k ≤ ms) (h : ok (some (.int v)) ad μ) (hdg : decode cc pc = .ok (.ireturn, 1)) : WW g z nL n k ad μ pc lv [.int v] := by
  intro H locs ls M S L
  rw [kQ K]
  exact vx_ret (W.widen hn hk (W.zret K.1.1 K.1.2.1 K.2.2.2.2.1.1 hv (fun t ht _ => ⟨_, ad, μ, rfl, h, by rw [ht]; exact M, S.F ht⟩) S.2.2 hdg K.2.2.2.1))
theorem r_vret (K : Kn g z cc nL y0 none tb lev mc ms ad0 μ0 ok ex) (hn : n ≤ mc) (hk : k ≤ ms) (h : ok none ad μ) (hdg : decode cc pc = .ok (.return_, 1)) : WW g z nL n k ad μ pc lv [] := by
  intro H locs ls M S L
  rw [kQ K]
  exact vx_ret (W.widen hn hk (W.vret K.1.1 K.1.2.1 K.2.2.2.2.1.1 (fun t ht _ => ⟨_, ad, μ, rfl, h, by rw [ht]; exact M, S.F ht⟩) S.2.2 hdg K.2.2.2.1))
theorem r_lret (K : Kn g z cc nL y0 (some .long) tb lev mc ms ad0 μ0 ok ex) {v : Int64} (hn : n ≤ mc) (hk : k ≤ ms) (h : ok (some (.long v)) ad μ) (hdg : decode cc pc = .ok (.lreturn, 1)) : WW g z nL n k ad μ pc lv [.long v] := by
  intro H locs ls M S L
  rw [kQ K]
  exact vx_ret (W.widen hn hk (W.lret K.1.1 K.1.2.1 K.2.2.2.2.1.1 (fun t ht _ => ⟨_, ad, μ, rfl, h, by rw [ht]; exact M, S.F ht⟩) S.2.2 hdg K.2.2.2.1))
theorem r_dret (K : Kn g z cc nL y0 (some .double) tb lev mc ms ad0 μ0 ok ex) {v : UInt64} (hn : n ≤ mc) (hk : k ≤ ms) (h : ok (some (.double v)) ad μ) (hdg : decode cc pc = .ok (.dreturn, 1)) : WW g z nL n k ad μ pc lv [.double v] := by
  intro H locs ls M S L
  rw [kQ K]
  exact vx_ret (W.widen hn hk (W.dret K.1.1 K.1.2.1 K.2.2.2.2.1.1 (fun t ht _ => ⟨_, ad, μ, rfl, h, by rw [ht]; exact M, S.F ht⟩) S.2.2 hdg K.2.2.2.1))
theorem r_aret {rt : FieldType} (K : Kn g z cc nL y0 (some rt) tb lev mc ms ad0 μ0 ok ex) (hrt : (∃ nm, rt = .object nm) ∨ ∃ t, rt = .array t) {v : Value} (hv : v = .null ∨ ∃ a, v = .ref a) (hn : n ≤ mc) (hk : k ≤ ms) (h : ok (some v) ad μ) (hdg : decode cc pc = .ok (.areturn, 1)) : WW g z nL n k ad μ pc lv [v] := by
  intro H locs ls M S L
  rw [kQ K]
  exact vx_ret (W.widen hn hk (W.aret K.1.1 K.1.2.1 K.2.2.2.2.1.1 hrt hv (fun t ht _ => ⟨_, ad, μ, rfl, h, by rw [ht]; exact M, S.F ht⟩) S.2.2 hdg K.2.2.2.1))
theorem otX {w : Cond} (h : w ∈ WALL ++ xtZ) : vx_ot w = true := by
  show (w.onTables || goodWord w) = true
  rcases List.mem_append.mp h with h | h
  · rw [(List.mem_filter.mp h).2, Bool.or_true]
  · rcases List.mem_append.mp h with h | h
    · obtain ⟨q, -, rfl⟩ := List.mem_map.mp h; rfl
    · obtain ⟨q, -, rfl⟩ := List.mem_map.mp h; rfl
theorem kWX (K : Kn g z cc nL y0 ret tb lev mc ms ad0 μ0 ok ex) {w : Cond} (h : w ∈ WALL ++ xtZ) : w.before (ga g) (gs g) = true := by
  rcases List.mem_append.mp h with h | h
  · exact kW K h
  · rcases List.mem_append.mp h with h | h
    · obtain ⟨q, hq, rfl⟩ := List.mem_map.mp h
      exact va_Nw.use rfl ((kE K).2.2.1.2.2.1 q hq)
    · obtain ⟨q, hq, rfl⟩ := List.mem_map.mp h
      exact va_Nw.use rfl ((kE K).2.2.1.2.2.2 q hq)
/-- throw new E("text"), text by a short index -/
theorem r_throwS (K : Kn g z cc nL y0 ret [] lev mc ms ad0 μ0 ok ex) {ik is ic : Nat} {cls text : String} {names : List String} (hy : y0.cls = RX5) (hcls : Bundle.fit cls = true) (hnames : ∀ q ∈ names, Bundle.fit q = true) (hlen : names.length ≤ 5) (hk1 : Cond.classLink y0.cls ik cls ∈ WALL) (hk2 : Cond.initialized cls ∈ WALL) (hat : ∀ w ∈ vx_atS y0.cls ic cls names, w ∈ WALL ++ xtZ) (hs : (is, text) ∈ strsZ)
    (d0 : decode cc pc = .ok (.new ik, 3)) (d3 : decode cc (pc + 3) = .ok (.dup, 1)) (d4 : decode cc (pc + 4) = .ok (.ldc is, 2)) (d6 : decode cc (pc + 6) = .ok (.invokespecial ic, 3)) (d9 : decode cc (pc + 9) = .ok (.athrow, 1)) (hx : ex cls) (hst : (st.map fun v => v.category).sum ≤ 8) (hn : n + 1 ≤ mc) (hk : k + 6 ≤ ms) : WW g z nL n k ad0 μ0 pc lv st := by
  intro H locs ls M S L
  rw [kQ K]
  obtain ⟨sa, hsa⟩ := (kE K).2.2.1.1 _ hs
  refine vx_throwS (A := zA z) (own := y0.cls) (text := text) (names := names) (sa := sa) K.1.1 K.1.2.1 K.2.2.1 K.1.2.2.2.1 hcls hnames (kW K hk1) (kW K hk2) (by rw [hy]; exact hsa) (fun w hw => kWX K (hat w hw)) ?_ (kE K).2.1.1 (kE K).2.1.2 S (L.1.trans K.1.2.2.1.symm) d0 d3 d4 d6 d9 (fun x hx9 => by rw [K.2.2.2.2.2.2.1] at hx9; exact absurd hx9 List.not_mem_nil) (by rw [kR K]; show names.length + 3 < 12 + lev; omega) (by rw [kR K]; show _ + (13 * (names.length + 1) + 43) ≤ 200 + 60 * lev; omega) (by rw [kR K]; exact hn) (by rw [kR K]; exact hk) K.2.2.2.1 (fun t _ h1 h2 => ⟨hx, M.kept h2, Nat.le_trans S.1 h1, fun q h3 h4 => (h2 q (Nat.lt_of_lt_of_le h3 S.1)).trans (S.2.1 q h3 h4)⟩) S.2.2 hn hk
  intro w hw
  have hw2 : w ∈ WALL ++ xtZ := by
    rcases List.mem_cons.mp hw with rfl | hw
    · exact List.mem_append_left _ hk1
    · rcases List.mem_cons.mp hw with rfl | hw
      · exact List.mem_append_left _ hk2
      · exact hat w hw
  exact otX hw2
theorem r_throwSW (K : Kn g z cc nL y0 ret [] lev mc ms ad0 μ0 ok ex) {ik is ic : Nat} {cls text : String} {names : List String} (hy : y0.cls = RX5) (hcls : Bundle.fit cls = true) (hnames : ∀ q ∈ names, Bundle.fit q = true) (hlen : names.length ≤ 5) (hk1 : Cond.classLink y0.cls ik cls ∈ WALL) (hk2 : Cond.initialized cls ∈ WALL) (hat : ∀ w ∈ vx_atS y0.cls ic cls names, w ∈ WALL ++ xtZ) (hs : (is, text) ∈ strsZ)
    (d0 : decode cc pc = .ok (.new ik, 3)) (d3 : decode cc (pc + 3) = .ok (.dup, 1)) (d4 : decode cc (pc + 4) = .ok (.ldc_w is, 3)) (d7 : decode cc (pc + 7) = .ok (.invokespecial ic, 3)) (d10 : decode cc (pc + 10) = .ok (.athrow, 1)) (hx : ex cls) (hst : (st.map fun v => v.category).sum ≤ 8) (hn : n + 1 ≤ mc) (hk : k + 6 ≤ ms) : WW g z nL n k ad0 μ0 pc lv st := by
  intro H locs ls M S L
  rw [kQ K]
  obtain ⟨sa, hsa⟩ := (kE K).2.2.1.1 _ hs
  refine vx_throwSW (A := zA z) (own := y0.cls) (text := text) (names := names) (sa := sa) K.1.1 K.1.2.1 K.2.2.1 K.1.2.2.2.1 hcls hnames (kW K hk1) (kW K hk2) (by rw [hy]; exact hsa) (fun w hw => kWX K (hat w hw)) ?_ (kE K).2.1.1 (kE K).2.1.2 S (L.1.trans K.1.2.2.1.symm) d0 d3 d4 d7 d10 (fun x hx9 => by rw [K.2.2.2.2.2.2.1] at hx9; exact absurd hx9 List.not_mem_nil) (by rw [kR K]; show names.length + 3 < 12 + lev; omega) (by rw [kR K]; show _ + (13 * (names.length + 1) + 43) ≤ 200 + 60 * lev; omega) (by rw [kR K]; exact hn) (by rw [kR K]; exact hk) K.2.2.2.1 (fun t _ h1 h2 => ⟨hx, M.kept h2, Nat.le_trans S.1 h1, fun q h3 h4 => (h2 q (Nat.lt_of_lt_of_le h3 S.1)).trans (S.2.1 q h3 h4)⟩) S.2.2 hn hk
  intro w hw
  have hw2 : w ∈ WALL ++ xtZ := by
    rcases List.mem_cons.mp hw with rfl | hw
    · exact List.mem_append_left _ hk1
    · rcases List.mem_cons.mp hw with rfl | hw
      · exact List.mem_append_left _ hk2
      · exact hat w hw
  exact otX hw2
end ZC
