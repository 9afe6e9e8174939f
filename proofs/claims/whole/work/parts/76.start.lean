/-! THE CLAIM OUT OF ONE WALK OF THE LAW'S BODY. Your part is whole_start (and what it stands on); all else here is the same for every law, but numbers. -/
def R_law : String := "StormBasinLaw"
def lw_P (b : Addr) (xs : List Int32) (args : Array Value) (s : State) : Prop := args = #[.ref b] ∧ s.IntsAt b xs ∧ xs.length ≤ 3072 ∧ (Jvm.Cond.and given_1 narrow_1).before args s = true
/-- what a walk over the start with the record d0 says of its end, said of the start itself -/
theorem lw_closed {s t : State} {o : Outcome} {d0 : Drawn} {L : List Loc} {k n : Nat} (hd0 : s.drawn.sameBut d0 lw_cs) (hv : ∃ v, o = .returned v) (hW : (s.setDrawn d0).WarmedH t.vm) (hs : (s.setDrawn d0).sameButNew ({ t with vm := s.vm } : State) L k n) : State.butDraws s t lw_cs (fun t1 => Framed s o t1 L k n) := by
  have h2 : t.drawn = d0 := congrArg State.drawn hs.1
  refine ⟨⟨hv, hW, State.sameButNew.setDrawn hs s.drawn⟩, ?_, by decide⟩
  rw [h2]
  exact hd0
def lw_Q (_ : Array Value) (s : State) (o : Outcome) (t : State) : Prop := o = .returned (some (.int 1)) ∧ State.butDraws s t lw_cs (fun t1 => Framed s o t1 [] 603072 7219305)
def lw_Z (below : List Frame) (a : Array Value) (s : State) : State → Prop := fun t => ∃ o, t.status = .running ∧ Ended t below o ∧ lw_Q a s o t
/-- the law's own end, with 1 on the stack, nothing written that was there before, its room as the claim has it; d0: the record of draws at this point (at the entry s.drawn: begin with 'refine W.base ?_' and 'have hd0 := Drawn.sameBut.refl s.drawn lw_cs') -/
theorem lw_ret {p : Program} {l : Launch} {e : Env} {s : State} {m : MethodId} {below : List Frame} {meth : Method} {c : Code} {b : Nat} {d0 : Drawn} (hd0 : s.drawn.sameBut d0 lw_cs) (hx : p.tables.exec = Jvm.exec) (hb : c.code = code) (hr : meth.sig.returnType = ret) (hlocks : meth.locks = false) {pc : Nat} {H : Heap} {ls : Array Slot} (hdg : decode code pc = .ok (.ireturn, 1)) : W p l e room_1 (s.setDrawn d0) m #[Value.ref b] below meth c H [] 603072 7219305 (lw_Z below #[Value.ref b] s) (F0 m pc ls [.int 1]) := by
  intro T hT X
  obtain ⟨fs, hret, hrun, hended, hW, hframe⟩ := X.leave (v := some (.int 1)) (hlocks := hlocks) (fun h => by rw [hr] at h; cases h)
  have hmeth' : T.vm.method? m = some meth := X.method'
  refine ⟨T.setFrames fs, ?_, .returned (some (.int 1)), hrun, hended, rfl, lw_closed hd0 ⟨_, rfl⟩ hW hframe⟩
  jvm_step X.here [X.here.top, hx, hb, hdg, hmeth', hr, ret, narrow_b1]
  (try refine ⟨rfl, ?_⟩); (try refine ⟨rfl, ?_⟩)
  first | (intro acts; rw [hret _ acts rfl rfl rfl]) | rw [hret _ _ rfl rfl rfl]
  exact Steps.refl _
/-- what holds at the law's entry: the machine, the code, the tables' words (any of lw_tbl by 'hts w (by decide +kernel)'), the script of L ints xs at the cell b, what the Statement gives of the start (any of its parts by flat_of_before) -/
def lw_At (p : Program) (s : State) (m : MethodId) (meth : Method) (c : Code) (b L : Nat) (xs : Nat → Int32) : Prop :=
  p.tables.exec = Jvm.exec ∧ c.code = code ∧ meth.sig.returnType = ret ∧ c.maxLocals = 9 ∧ s.vm.findClass R_law = some m.cls ∧ (∀ w ∈ lw_tbl, w.before #[Value.ref b] s = true) ∧ va_X b L xs s s.heap ∧ b < s.heap.size ∧ meth.locks = false ∧ meth.name = "law" ∧ (Jvm.Cond.and given_1 narrow_1).before #[Value.ref b] s = true
theorem room_le {s : State} {pl : Platform} {R R' : Room} (h : s.hasRoom pl R = true) (h1 : R'.frames ≤ R.frames) (h2 : R'.cells ≤ R.cells) (h3 : R'.slots ≤ R.slots) (h4 : R'.locals ≤ R.locals) : s.hasRoom pl R' = true := by
  unfold State.hasRoom at *
  simp only [Bool.and_eq_true, decide_eq_true_eq] at h ⊢
  obtain ⟨⟨⟨⟨a1, a2, a3, a4, a5, a6⟩, a7⟩, a8⟩, a9⟩ := h
  exact ⟨⟨⟨⟨by omega, by omega, by omega, by omega, by omega, a6⟩, by omega⟩, by omega⟩, a9⟩
section ZST
variable {p : Program} {l : Launch} {e : Env} {R R' : Room} {s : State} {m : MethodId} {args : Array Value} {below : List Frame} {meth : Method} {c : Code} {H : Heap} {locs : List Loc} {cells slots : Nat} {Q Q' : State → Prop} {g : JFrame}
theorem W_room (h1 : R'.frames ≤ R.frames) (h2 : R'.cells ≤ R.cells) (h3 : R'.slots ≤ R.slots) (h4 : R'.locals ≤ R.locals) (k : W p l e R' s m args below meth c H locs cells slots Q g) : W p l e R s m args below meth c H locs cells slots Q g :=
  fun T hT X => k T hT { X with room := room_le X.room h1 h2 h3 h4 }
theorem W_imp (h : ∀ t, Q t → Q' t) (k : W p l e R s m args below meth c H locs cells slots Q g) : W p l e R s m args below meth c H locs cells slots Q' g := fun T hT X => by
  obtain ⟨t, a, b⟩ := k T hT X
  exact ⟨t, a, h t b⟩
end ZST
def okEnd : OkT := fun v _ _ => v = some (.int (nI 1))
theorem lw_end {below : List Frame} {s t : State} {b : Nat} {z : Zx} {ad0 : Nm} {μ0 : Ce} (hz : z.2.1 = s.heap.size) (h : vx_MQ below (okQ z okEnd) (exQ z exNo ad0 μ0) #[Value.ref b] s 603072 7219305 (zA z) t) : lw_Z below #[Value.ref b] s t := by
  obtain ⟨o, h1, h2, h3⟩ := h
  rcases h3 with ⟨⟨v, ad, μ, rfl, hok, hM, hF⟩, Lc, ⟨-, hW, hs⟩, hL⟩ | ⟨q, rfl, E, ce, Lc, hx, -⟩
  · have hok' : v = some (.int (nI 1)) := hok
    subst hok'
    refine ⟨_, h1, h2, rfl, lw_closed (d0 := s.drawn) (Drawn.sameBut.refl s.drawn lw_cs) ⟨_, rfl⟩ hW (hs.weaken (fun y hy hlt => ?_) (Nat.le_refl _) (Nat.le_refl _))⟩
    have := hL y hy
    have h9 : z.2.1 ≤ y.base := this
    rw [hz] at h9
    exact absurd hlt (Nat.not_lt.mpr h9)
  · exact hx.1.elim
theorem arr_id {args : Array Value} {s : State} {ty : FieldType} (h : (Cond.arrayClass ty).before args s = true) : ∃ cA : ClassId, ArrOfT s cA ty ∧ s.vm.findClass ("[" ++ ty.toString) = some cA := by
  obtain ⟨cA, kA, comp, h1, h2, h3⟩ := Cond.arrayClass_spec h
  exact ⟨cA, fun n z => ⟨fun k h => (by cases h), kA, h2, comp, h3⟩, h1⟩
theorem arr_ob {args : Array Value} {s : State} {C : String} (h : (Cond.arrayOver (.object C)).before args s = true) : ∃ cA : ClassId, ArrOfT s cA (.object C) ∧ va_RA s cA (.object C) := by
  obtain ⟨comp, cA, kA, h1, h2, h3, h4, h5⟩ := Cond.arrayOver_spec h
  exact ⟨cA, fun n z => ⟨fun k h => (by cases h), kA, h3, comp, h4⟩, kA, comp, h3, h4, h1, h5⟩
theorem gv_DigitOnes : ((flatC (Jvm.Cond.and given_1 narrow_1)).drop 18).take 100 = (List.range 100).map (fun j => Cond.eq (Term.elem (Term.static "java/lang/Integer" "DigitOnes" "[B") (Term.int (Int32.ofNat j))) (Term.int (dgO j))) := by decide +kernel
theorem gm_DigitOnes {j : Nat} (hj : j < 100) : Cond.eq (Term.elem (Term.static "java/lang/Integer" "DigitOnes" "[B") (Term.int (Int32.ofNat j))) (Term.int (dgO j)) ∈ flatC (Jvm.Cond.and given_1 narrow_1) := by
  refine List.mem_of_mem_drop (i := 18) (List.mem_of_mem_take (i := 100) ?_)
  rw [gv_DigitOnes]
  exact List.mem_map.mpr ⟨j, List.mem_range.mpr hj, rfl⟩
theorem gv_DigitTens : ((flatC (Jvm.Cond.and given_1 narrow_1)).drop 121).take 100 = (List.range 100).map (fun j => Cond.eq (Term.elem (Term.static "java/lang/Integer" "DigitTens" "[B") (Term.int (Int32.ofNat j))) (Term.int (dgT j))) := by decide +kernel
theorem gm_DigitTens {j : Nat} (hj : j < 100) : Cond.eq (Term.elem (Term.static "java/lang/Integer" "DigitTens" "[B") (Term.int (Int32.ofNat j))) (Term.int (dgT j)) ∈ flatC (Jvm.Cond.and given_1 narrow_1) := by
  refine List.mem_of_mem_drop (i := 121) (List.mem_of_mem_take (i := 100) ?_)
  rw [gv_DigitTens]
  exact List.mem_map.mpr ⟨j, List.mem_range.mpr hj, rfl⟩
set_option maxRecDepth 100000 in
set_option maxHeartbeats 8000000 in
theorem ev_start {s : State} {b : Nat} (hts : ∀ w ∈ lw_tbl, w.before #[Value.ref b] s = true) (hgv : (Jvm.Cond.and given_1 narrow_1).before #[Value.ref b] s = true) : ∃ z : Zx, z.2.1 = s.heap.size ∧ Ev z s := by
  have hs := flat_of_before _ hgv
  have hA : ∀ a : Nat, a < s.heap.size → ¬ s.heap.size ≤ a := fun a h => Nat.not_le.mpr h
  obtain ⟨c0, i0, k0⟩ := u_known (C := RJ0) (T := TJ0) (N := 4) (n := 4) (ws := WALL) (fun w hw => hts w (wl_in hw)) us_J0 (hts (.instantiable "java/lang/String" 4) (wl_in wd_403))
  obtain ⟨c1, i1, k1⟩ := u_known (C := RJ4) (T := TJ4) (N := 4) (n := 4) (ws := WALL) (fun w hw => hts w (wl_in hw)) us_J4 (hts (.instantiable "java/lang/StringBuilder" 4) (wl_in wd_141))
  obtain ⟨c2, i2, k2⟩ := u_known (C := RJx00060) (T := TJx00060) (N := 6) (n := 6) (ws := WALL) (fun w hw => hts w (wl_in hw)) us_Jx00060 (hts (.instantiable "java/lang/ArrayIndexOutOfBoundsException" 6) (wl_in wd_329))
  obtain ⟨c3, i3, k3⟩ := u_known (C := RJx7c733) (T := TJx7c733) (N := 6) (n := 6) (ws := WALL) (fun w hw => hts w (wl_in hw)) us_Jx7c733 (hts (.instantiable "java/lang/StringIndexOutOfBoundsException" 6) (wl_in wd_1025))
  obtain ⟨c4, i4, k4⟩ := u_known (C := RJx4a65c) (T := TJx4a65c) (N := 3) (n := 3) (ws := WALL) (fun w hw => hts w (wl_in hw)) us_Jx4a65c (hts (.instantiable "java/util/ArrayList" 3) (wl_in wd_91))
  obtain ⟨c5, i5, k5⟩ := u_known (C := RX0) (T := TX0) (N := 8) (n := 8) (ws := WALL) (fun w hw => hts w (wl_in hw)) us_X0 (hts (.instantiable "StormBasin$Basin" 8) (wl_in wd_471))
  obtain ⟨c6, i6, k6⟩ := u_known (C := RX1) (T := TX1) (N := 7) (n := 7) (ws := WALL) (fun w hw => hts w (wl_in hw)) us_X1 (hts (.instantiable "StormBasin$House" 7) (wl_in wd_838))
  obtain ⟨c7, i7, k7⟩ := u_known (C := RX2) (T := TX2) (N := 5) (n := 5) (ws := WALL) (fun w hw => hts w (wl_in hw)) us_X2 (hts (.instantiable "StormBasin$Rule" 5) (wl_in wd_658))
  obtain ⟨c8, i8, k8⟩ := u_known (C := RX3) (T := TX3) (N := 5) (n := 5) (ws := WALL) (fun w hw => hts w (wl_in hw)) us_X3 (hts (.instantiable "StormBasin$Street" 5) (wl_in wd_477))
  obtain ⟨c9, i9, k9⟩ := u_known (C := RX4) (T := TX4) (N := 4) (n := 4) (ws := WALL) (fun w hw => hts w (wl_in hw)) us_X4 (hts (.instantiable "StormBasin$Water" 4) (wl_in wd_117))
  obtain ⟨c10, i10, k10⟩ := u_known (C := RX5) (T := TX5) (N := 9) (n := 9) (ws := WALL) (fun w hw => hts w (wl_in hw)) us_X5 (hts (.instantiable "StormBasin" 9) (wl_in wd_83))
  obtain ⟨c11, i11, k11⟩ := u_known (C := RX6) (T := TX6) (N := 38) (n := 38) (ws := WALL) (fun w hw => hts w (wl_in hw)) us_X6 (hts (.instantiable "StormBasinModel" 38) (wl_in wd_1300))
  obtain ⟨dC, dI, hKc⟩ : ∃ (dC : Nat → ClassId) (dI : Nat → Nat → Nat), ∀ (k : Nat) (q : vw_C), vwCl[k]? = some q → u_Kn s q.1 q.2.1 q.2.2 (dC k) (dI k) := by
    refine ⟨fun k => match k with | 0 => c0 | 1 => c1 | 2 => c2 | 3 => c3 | 4 => c4 | 5 => c5 | 6 => c6 | 7 => c7 | 8 => c8 | 9 => c9 | 10 => c10 | _ => c11, fun k => match k with | 0 => i0 | 1 => i1 | 2 => i2 | 3 => i3 | 4 => i4 | 5 => i5 | 6 => i6 | 7 => i7 | 8 => i8 | 9 => i9 | 10 => i10 | _ => i11, ?_⟩
    intro k q hq
    match k, hq with
    | 0, hq => cases hq; exact k0
    | 1, hq => cases hq; exact k1
    | 2, hq => cases hq; exact k2
    | 3, hq => cases hq; exact k3
    | 4, hq => cases hq; exact k4
    | 5, hq => cases hq; exact k5
    | 6, hq => cases hq; exact k6
    | 7, hq => cases hq; exact k7
    | 8, hq => cases hq; exact k8
    | 9, hq => cases hq; exact k9
    | 10, hq => cases hq; exact k10
    | 11, hq => cases hq; exact k11
    | k + 12, hq => exact absurd hq (by simp [vwCl])
  obtain ⟨a0, ha0, hb0⟩ := arr_id (hts (.arrayClass .int) (wl_in wd_139))
  obtain ⟨a1, ha1, hb1⟩ := arr_id (hts (.arrayClass .boolean) (wl_in wd_868))
  obtain ⟨a2, ha2, hb2⟩ := arr_id (hts (.arrayClass .byte) (wl_in wd_172))
  obtain ⟨a3, ha3, hb3⟩ := arr_id (hts (.arrayClass .long) (wl_in wd_1695))
  obtain ⟨a4, ha4, hb4⟩ := arr_id (hts (.arrayClass .double) (wl_in wd_1696))
  obtain ⟨a5, ha5, hb5⟩ := arr_id (hts (.arrayClass .char) (wl_in wd_1420))
  obtain ⟨a6, ha6, hb6⟩ := arr_ob (C := "java/lang/Object") (hts _ (in_t3 (List.mem_of_getElem? (i := 59) (by decide +kernel))))
  obtain ⟨t0, e0, f0⟩ := va_Tof (tm := Term.static "java/util/ArrayList" "DEFAULTCAPACITY_EMPTY_ELEMENTDATA" "[Ljava/lang/Object;") (ty := .object "java/lang/Object") (N := 0) (f := fun _ => .null) (A := fun q => s.heap.size ≤ q) (by decide) (hs _ (List.mem_of_getElem? (i := 5) (by decide +kernel))) (Cond.eq_int (b := Term.int 0) (hs _ (List.mem_of_getElem? (i := 7) (by decide +kernel))) rfl) (fun j hj => absurd hj (Nat.not_lt_zero j)) hA
  have z0 := va_Zof (A := fun q => s.heap.size ≤ q) (hts _ (in_t1 (List.mem_of_getElem? (i := 56) (by decide +kernel)))) (hts _ (in_t1 (List.mem_of_getElem? (i := 4) (by decide +kernel)))) e0 hA
  obtain ⟨t1, e1, f1⟩ := va_Tof (tm := Term.static "java/lang/Integer" "DigitOnes" "[B") (ty := .byte) (N := 100) (f := fun j => .int (dgO j)) (A := fun q => s.heap.size ≤ q) (by decide) (hs _ (List.mem_of_getElem? (i := 16) (by decide +kernel))) (Cond.eq_int (b := Term.int 100) (hs _ (List.mem_of_getElem? (i := 17) (by decide +kernel))) rfl) (fun j hj => Cond.eq_int (hs _ (gm_DigitOnes hj)) rfl) hA
  have z1 := va_Zof (A := fun q => s.heap.size ≤ q) (hts _ (in_t5 (List.mem_of_getElem? (i := 144) (by decide +kernel)))) (hts _ (in_t1 (List.mem_of_getElem? (i := 34) (by decide +kernel)))) e1 hA
  obtain ⟨t2, e2, f2⟩ := va_Tof (tm := Term.static "java/lang/Integer" "DigitTens" "[B") (ty := .byte) (N := 100) (f := fun j => .int (dgT j)) (A := fun q => s.heap.size ≤ q) (by decide) (hs _ (List.mem_of_getElem? (i := 119) (by decide +kernel))) (Cond.eq_int (b := Term.int 100) (hs _ (List.mem_of_getElem? (i := 120) (by decide +kernel))) rfl) (fun j hj => Cond.eq_int (hs _ (gm_DigitTens hj)) rfl) hA
  have z2 := va_Zof (A := fun q => s.heap.size ≤ q) (hts _ (in_t5 (List.mem_of_getElem? (i := 146) (by decide +kernel)))) (hts _ (in_t1 (List.mem_of_getElem? (i := 34) (by decide +kernel)))) e2 hA
  have zC := va_Zof (C := "java/lang/String") (n := "COMPACT_STRINGS") (d := "Z") (A := fun q => s.heap.size ≤ q) (v := .int 1) (hts _ (in_t1 (List.mem_of_getElem? (i := 103) (by decide +kernel)))) (hts _ (in_t1 (List.mem_of_getElem? (i := 8) (by decide +kernel)))) (Cond.eq_int (a := Term.static "java/lang/String" "COMPACT_STRINGS" "Z") (b := Term.int 1) (hs _ (List.mem_of_getElem? (i := 8) (by decide +kernel))) rfl) hA
  have zS := va_Zqof (C := "jdk/internal/util/Preconditions") (n := "SIOOBE_FORMATTER") (d := "Ljava/util/function/BiFunction;") (A := fun q => s.heap.size ≤ q) (hts _ (in_t5 (List.mem_of_getElem? (i := 74) (by decide +kernel)))) (hts _ (in_t1 (List.mem_of_getElem? (i := 25) (by decide +kernel)))) (hs _ (List.mem_of_getElem? (i := 11) (by decide +kernel))) hA
  have zU := vx_Zqof (C := Bundle.tN) (n := "UNASSIGNED_STACK") (d := Bundle.steD) (A := fun q => s.heap.size ≤ q) (hts _ (in_t2 (List.mem_of_getElem? (i := 59) (by decide +kernel)))) (hts _ (in_t1 (List.mem_of_getElem? (i := 11) (by decide +kernel)))) (hs _ (List.mem_of_getElem? (i := 9) (by decide +kernel))) hA
  have zN := vx_Zqof (C := Bundle.tN) (n := "SUPPRESSED_SENTINEL") (d := Bundle.listD) (A := fun q => s.heap.size ≤ q) (hts _ (in_t2 (List.mem_of_getElem? (i := 61) (by decide +kernel)))) (hts _ (in_t1 (List.mem_of_getElem? (i := 11) (by decide +kernel)))) (hs _ (List.mem_of_getElem? (i := 10) (by decide +kernel))) hA
  obtain ⟨mi, hmi⟩ := va_Mi.of (C := "[Ljava/lang/Object;") (hs _ (List.mem_of_getElem? (i := 321) (by decide +kernel)))
  have hstr : ∀ q ∈ strsZ, ∃ a, vk_R RX5 q.1 q.2 a s := by
    refine List.forall_mem_cons.mpr ⟨?_, List.forall_mem_cons.mpr ⟨?_, List.forall_mem_cons.mpr ⟨?_, List.forall_mem_cons.mpr ⟨?_, List.forall_mem_cons.mpr ⟨?_, List.forall_mem_cons.mpr ⟨?_, List.forall_mem_cons.mpr ⟨?_, List.forall_mem_cons.mpr ⟨?_, List.forall_mem_cons.mpr ⟨?_, List.forall_mem_cons.mpr ⟨?_, List.forall_mem_cons.mpr ⟨?_, List.forall_mem_cons.mpr ⟨?_, List.forall_mem_cons.mpr ⟨?_, List.forall_mem_cons.mpr ⟨?_, List.forall_mem_cons.mpr ⟨?_, List.forall_mem_cons.mpr ⟨?_, List.forall_mem_cons.mpr ⟨?_, List.forall_mem_cons.mpr ⟨?_, List.forall_mem_cons.mpr ⟨?_, List.forall_mem_cons.mpr ⟨?_, List.forall_mem_cons.mpr ⟨?_, List.forall_mem_cons.mpr ⟨?_, List.forall_mem_cons.mpr ⟨?_, List.forall_mem_cons.mpr ⟨?_, List.forall_mem_cons.mpr ⟨?_, fun _ h => absurd h List.not_mem_nil⟩⟩⟩⟩⟩⟩⟩⟩⟩⟩⟩⟩⟩⟩⟩⟩⟩⟩⟩⟩⟩⟩⟩⟩⟩
    · obtain ⟨a, _, _, _, h, _⟩ := Cond.exactly_spec (t := Term.string "StormBasin" 49) (cls := "java/lang/String") (hs _ (List.mem_of_getElem? (i := 322) (by decide +kernel))); exact ⟨a, vk_R.of (hts _ (in_t2 (List.mem_of_getElem? (i := 139) (by decide +kernel)))) h⟩
    · obtain ⟨a, _, _, _, h, _⟩ := Cond.exactly_spec (t := Term.string "StormBasin" 56) (cls := "java/lang/String") (hs _ (List.mem_of_getElem? (i := 345) (by decide +kernel))); exact ⟨a, vk_R.of (hts _ (in_t2 (List.mem_of_getElem? (i := 152) (by decide +kernel)))) h⟩
    · obtain ⟨a, _, _, _, h, _⟩ := Cond.exactly_spec (t := Term.string "StormBasin" 300) (cls := "java/lang/String") (hs _ (List.mem_of_getElem? (i := 382) (by decide +kernel))); exact ⟨a, vk_R.of (hts _ (in_t2 (List.mem_of_getElem? (i := 162) (by decide +kernel)))) h⟩
    · obtain ⟨a, _, _, _, h, _⟩ := Cond.exactly_spec (t := Term.string "StormBasin" 65) (cls := "java/lang/String") (hs _ (List.mem_of_getElem? (i := 405) (by decide +kernel))); exact ⟨a, vk_R.of (hts _ (in_t2 (List.mem_of_getElem? (i := 172) (by decide +kernel)))) h⟩
    · obtain ⟨a, _, _, _, h, _⟩ := Cond.exactly_spec (t := Term.string "StormBasin" 304) (cls := "java/lang/String") (hs _ (List.mem_of_getElem? (i := 423) (by decide +kernel))); exact ⟨a, vk_R.of (hts _ (in_t2 (List.mem_of_getElem? (i := 183) (by decide +kernel)))) h⟩
    · obtain ⟨a, _, _, _, h, _⟩ := Cond.exactly_spec (t := Term.string "StormBasin" 308) (cls := "java/lang/String") (hs _ (List.mem_of_getElem? (i := 445) (by decide +kernel))); exact ⟨a, vk_R.of (hts _ (in_t3 (List.mem_of_getElem? (i := 82) (by decide +kernel)))) h⟩
    · obtain ⟨a, _, _, _, h, _⟩ := Cond.exactly_spec (t := Term.string "StormBasin" 94) (cls := "java/lang/String") (hs _ (List.mem_of_getElem? (i := 462) (by decide +kernel))); exact ⟨a, vk_R.of (hts _ (in_t3 (List.mem_of_getElem? (i := 83) (by decide +kernel)))) h⟩
    · obtain ⟨a, _, _, _, h, _⟩ := Cond.exactly_spec (t := Term.string "StormBasin" 302) (cls := "java/lang/String") (hs _ (List.mem_of_getElem? (i := 494) (by decide +kernel))); exact ⟨a, vk_R.of (hts _ (in_t3 (List.mem_of_getElem? (i := 121) (by decide +kernel)))) h⟩
    · obtain ⟨a, _, _, _, h, _⟩ := Cond.exactly_spec (t := Term.string "StormBasin" 111) (cls := "java/lang/String") (hs _ (List.mem_of_getElem? (i := 518) (by decide +kernel))); exact ⟨a, vk_R.of (hts _ (in_t3 (List.mem_of_getElem? (i := 129) (by decide +kernel)))) h⟩
    · obtain ⟨a, _, _, _, h, _⟩ := Cond.exactly_spec (t := Term.string "StormBasin" 113) (cls := "java/lang/String") (hs _ (List.mem_of_getElem? (i := 540) (by decide +kernel))); exact ⟨a, vk_R.of (hts _ (in_t3 (List.mem_of_getElem? (i := 130) (by decide +kernel)))) h⟩
    · obtain ⟨a, _, _, _, h, _⟩ := Cond.exactly_spec (t := Term.string "StormBasin" 310) (cls := "java/lang/String") (hs _ (List.mem_of_getElem? (i := 557) (by decide +kernel))); exact ⟨a, vk_R.of (hts _ (in_t3 (List.mem_of_getElem? (i := 168) (by decide +kernel)))) h⟩
    · obtain ⟨a, _, _, _, h, _⟩ := Cond.exactly_spec (t := Term.string "StormBasin" 138) (cls := "java/lang/String") (hs _ (List.mem_of_getElem? (i := 573) (by decide +kernel))); exact ⟨a, vk_R.of (hts _ (in_t3 (List.mem_of_getElem? (i := 199) (by decide +kernel)))) h⟩
    · obtain ⟨a, _, _, _, h, _⟩ := Cond.exactly_spec (t := Term.string "StormBasin" 143) (cls := "java/lang/String") (hs _ (List.mem_of_getElem? (i := 594) (by decide +kernel))); exact ⟨a, vk_R.of (hts _ (in_t3 (List.mem_of_getElem? (i := 207) (by decide +kernel)))) h⟩
    · obtain ⟨a, _, _, _, h, _⟩ := Cond.exactly_spec (t := Term.string "StormBasin" 149) (cls := "java/lang/String") (hs _ (List.mem_of_getElem? (i := 616) (by decide +kernel))); exact ⟨a, vk_R.of (hts _ (in_t3 (List.mem_of_getElem? (i := 212) (by decide +kernel)))) h⟩
    · obtain ⟨a, _, _, _, h, _⟩ := Cond.exactly_spec (t := Term.string "StormBasin" 154) (cls := "java/lang/String") (hs _ (List.mem_of_getElem? (i := 628) (by decide +kernel))); exact ⟨a, vk_R.of (hts _ (in_t3 (List.mem_of_getElem? (i := 213) (by decide +kernel)))) h⟩
    · obtain ⟨a, _, _, _, h, _⟩ := Cond.exactly_spec (t := Term.string "StormBasin" 312) (cls := "java/lang/String") (hs _ (List.mem_of_getElem? (i := 658) (by decide +kernel))); exact ⟨a, vk_R.of (hts _ (in_t4 (List.mem_of_getElem? (i := 10) (by decide +kernel)))) h⟩
    · obtain ⟨a, _, _, _, h, _⟩ := Cond.exactly_spec (t := Term.string "StormBasin" 306) (cls := "java/lang/String") (hs _ (List.mem_of_getElem? (i := 674) (by decide +kernel))); exact ⟨a, vk_R.of (hts _ (in_t4 (List.mem_of_getElem? (i := 46) (by decide +kernel)))) h⟩
    · obtain ⟨a, _, _, _, h, _⟩ := Cond.exactly_spec (t := Term.string "StormBasin" 206) (cls := "java/lang/String") (hs _ (List.mem_of_getElem? (i := 695) (by decide +kernel))); exact ⟨a, vk_R.of (hts _ (in_t4 (List.mem_of_getElem? (i := 69) (by decide +kernel)))) h⟩
    · obtain ⟨a, _, _, _, h, _⟩ := Cond.exactly_spec (t := Term.string "StormBasin" 208) (cls := "java/lang/String") (hs _ (List.mem_of_getElem? (i := 725) (by decide +kernel))); exact ⟨a, vk_R.of (hts _ (in_t4 (List.mem_of_getElem? (i := 70) (by decide +kernel)))) h⟩
    · obtain ⟨a, _, _, _, h, _⟩ := Cond.exactly_spec (t := Term.string "StormBasin" 314) (cls := "java/lang/String") (hs _ (List.mem_of_getElem? (i := 743) (by decide +kernel))); exact ⟨a, vk_R.of (hts _ (in_t4 (List.mem_of_getElem? (i := 113) (by decide +kernel)))) h⟩
    · obtain ⟨a, _, _, _, h, _⟩ := Cond.exactly_spec (t := Term.string "StormBasin" 228) (cls := "java/lang/String") (hs _ (List.mem_of_getElem? (i := 760) (by decide +kernel))); exact ⟨a, vk_R.of (hts _ (in_t4 (List.mem_of_getElem? (i := 148) (by decide +kernel)))) h⟩
    · obtain ⟨a, _, _, _, h, _⟩ := Cond.exactly_spec (t := Term.string "StormBasin" 235) (cls := "java/lang/String") (hs _ (List.mem_of_getElem? (i := 795) (by decide +kernel))); exact ⟨a, vk_R.of (hts _ (in_t4 (List.mem_of_getElem? (i := 155) (by decide +kernel)))) h⟩
    · obtain ⟨a, _, _, _, h, _⟩ := Cond.exactly_spec (t := Term.string "StormBasin" 245) (cls := "java/lang/String") (hs _ (List.mem_of_getElem? (i := 825) (by decide +kernel))); exact ⟨a, vk_R.of (hts _ (in_t4 (List.mem_of_getElem? (i := 183) (by decide +kernel)))) h⟩
    · obtain ⟨a, _, _, _, h, _⟩ := Cond.exactly_spec (t := Term.string "StormBasin" 256) (cls := "java/lang/String") (hs _ (List.mem_of_getElem? (i := 845) (by decide +kernel))); exact ⟨a, vk_R.of (hts _ (in_t4 (List.mem_of_getElem? (i := 226) (by decide +kernel)))) h⟩
    · obtain ⟨a, _, _, _, h, _⟩ := Cond.exactly_spec (t := Term.string "StormBasin" 294) (cls := "java/lang/String") (hs _ (List.mem_of_getElem? (i := 961) (by decide +kernel))); exact ⟨a, vk_R.of (hts _ (in_t6 (List.mem_of_getElem? (i := 41) (by decide +kernel)))) h⟩
  have hnc : ∀ q ∈ ncsZ, va_Nc q.1 q.2 s := by
    refine List.forall_mem_cons.mpr ⟨?_, List.forall_mem_cons.mpr ⟨?_, List.forall_mem_cons.mpr ⟨?_, List.forall_mem_cons.mpr ⟨?_, List.forall_mem_cons.mpr ⟨?_, List.forall_mem_cons.mpr ⟨?_, List.forall_mem_cons.mpr ⟨?_, fun _ h => absurd h List.not_mem_nil⟩⟩⟩⟩⟩⟩⟩
    · exact va_Nc.of (hs _ (List.mem_of_getElem? (i := 226) (by decide +kernel)))
    · exact va_Nc.of (hs _ (List.mem_of_getElem? (i := 227) (by decide +kernel)))
    · exact va_Nc.of (hs _ (List.mem_of_getElem? (i := 243) (by decide +kernel)))
    · exact va_Nc.of (hs _ (List.mem_of_getElem? (i := 232) (by decide +kernel)))
    · exact va_Nc.of (hs _ (List.mem_of_getElem? (i := 248) (by decide +kernel)))
    · exact va_Nc.of (hs _ (List.mem_of_getElem? (i := 278) (by decide +kernel)))
    · exact va_Nc.of (hs _ (List.mem_of_getElem? (i := 233) (by decide +kernel)))
  have hca : ∀ q ∈ caZ, va_Nw (.castable q.1 q.2) s := by
    refine List.forall_mem_cons.mpr ⟨?_, List.forall_mem_cons.mpr ⟨?_, List.forall_mem_cons.mpr ⟨?_, List.forall_mem_cons.mpr ⟨?_, List.forall_mem_cons.mpr ⟨?_, List.forall_mem_cons.mpr ⟨?_, List.forall_mem_cons.mpr ⟨?_, List.forall_mem_cons.mpr ⟨?_, List.forall_mem_cons.mpr ⟨?_, List.forall_mem_cons.mpr ⟨?_, List.forall_mem_cons.mpr ⟨?_, List.forall_mem_cons.mpr ⟨?_, List.forall_mem_cons.mpr ⟨?_, List.forall_mem_cons.mpr ⟨?_, List.forall_mem_cons.mpr ⟨?_, List.forall_mem_cons.mpr ⟨?_, List.forall_mem_cons.mpr ⟨?_, List.forall_mem_cons.mpr ⟨?_, List.forall_mem_cons.mpr ⟨?_, List.forall_mem_cons.mpr ⟨?_, List.forall_mem_cons.mpr ⟨?_, List.forall_mem_cons.mpr ⟨?_, List.forall_mem_cons.mpr ⟨?_, List.forall_mem_cons.mpr ⟨?_, List.forall_mem_cons.mpr ⟨?_, List.forall_mem_cons.mpr ⟨?_, List.forall_mem_cons.mpr ⟨?_, List.forall_mem_cons.mpr ⟨?_, List.forall_mem_cons.mpr ⟨?_, List.forall_mem_cons.mpr ⟨?_, List.forall_mem_cons.mpr ⟨?_, List.forall_mem_cons.mpr ⟨?_, List.forall_mem_cons.mpr ⟨?_, List.forall_mem_cons.mpr ⟨?_, List.forall_mem_cons.mpr ⟨?_, List.forall_mem_cons.mpr ⟨?_, fun _ h => absurd h List.not_mem_nil⟩⟩⟩⟩⟩⟩⟩⟩⟩⟩⟩⟩⟩⟩⟩⟩⟩⟩⟩⟩⟩⟩⟩⟩⟩⟩⟩⟩⟩⟩⟩⟩⟩⟩⟩⟩
    · exact va_Nw.of rfl (hts _ (in_t2 (List.mem_of_getElem? (i := 97) (by decide +kernel))))
    · exact va_Nw.of rfl (hts _ (in_t2 (List.mem_of_getElem? (i := 132) (by decide +kernel))))
    · exact va_Nw.of rfl (hts _ (in_t2 (List.mem_of_getElem? (i := 145) (by decide +kernel))))
    · exact va_Nw.of rfl (hts _ (in_t2 (List.mem_of_getElem? (i := 165) (by decide +kernel))))
    · exact va_Nw.of rfl (hts _ (in_t4 (List.mem_of_getElem? (i := 141) (by decide +kernel))))
    · exact va_Nw.of rfl (hts _ (in_t4 (List.mem_of_getElem? (i := 176) (by decide +kernel))))
    · exact va_Nw.of rfl (hts _ (in_t4 (List.mem_of_getElem? (i := 219) (by decide +kernel))))
    · exact va_Nw.of rfl (hts _ (in_t5 (List.mem_of_getElem? (i := 54) (by decide +kernel))))
    · exact va_Nw.of rfl (hts _ (in_t7 (List.mem_of_getElem? (i := 223) (by decide +kernel))))
    · exact va_Nw.of rfl (hts _ (in_t7 (List.mem_of_getElem? (i := 224) (by decide +kernel))))
    · exact va_Nw.of rfl (hts _ (in_t7 (List.mem_of_getElem? (i := 225) (by decide +kernel))))
    · exact va_Nw.of rfl (hts _ (in_t7 (List.mem_of_getElem? (i := 226) (by decide +kernel))))
    · exact va_Nw.of rfl (hts _ (in_t7 (List.mem_of_getElem? (i := 227) (by decide +kernel))))
    · exact va_Nw.of rfl (hts _ (in_t7 (List.mem_of_getElem? (i := 228) (by decide +kernel))))
    · exact va_Nw.of rfl (hts _ (in_t7 (List.mem_of_getElem? (i := 229) (by decide +kernel))))
    · exact va_Nw.of rfl (hts _ (in_t7 (List.mem_of_getElem? (i := 230) (by decide +kernel))))
    · exact va_Nw.of rfl (hts _ (in_t7 (List.mem_of_getElem? (i := 231) (by decide +kernel))))
    · exact va_Nw.of rfl (hts _ (in_t7 (List.mem_of_getElem? (i := 232) (by decide +kernel))))
    · exact va_Nw.of rfl (hts _ (in_t7 (List.mem_of_getElem? (i := 233) (by decide +kernel))))
    · exact va_Nw.of rfl (hts _ (in_t7 (List.mem_of_getElem? (i := 234) (by decide +kernel))))
    · exact va_Nw.of rfl (hts _ (in_t7 (List.mem_of_getElem? (i := 235) (by decide +kernel))))
    · exact va_Nw.of rfl (hts _ (in_t7 (List.mem_of_getElem? (i := 236) (by decide +kernel))))
    · exact va_Nw.of rfl (hts _ (in_t7 (List.mem_of_getElem? (i := 237) (by decide +kernel))))
    · exact va_Nw.of rfl (hts _ (in_t7 (List.mem_of_getElem? (i := 238) (by decide +kernel))))
    · exact va_Nw.of rfl (hts _ (in_t7 (List.mem_of_getElem? (i := 239) (by decide +kernel))))
    · exact va_Nw.of rfl (hts _ (in_t8 (List.mem_of_getElem? (i := 0) (by decide +kernel))))
    · exact va_Nw.of rfl (hts _ (in_t8 (List.mem_of_getElem? (i := 1) (by decide +kernel))))
    · exact va_Nw.of rfl (hts _ (in_t8 (List.mem_of_getElem? (i := 2) (by decide +kernel))))
    · exact va_Nw.of rfl (hts _ (in_t8 (List.mem_of_getElem? (i := 3) (by decide +kernel))))
    · exact va_Nw.of rfl (hts _ (in_t8 (List.mem_of_getElem? (i := 7) (by decide +kernel))))
    · exact va_Nw.of rfl (hts _ (in_t8 (List.mem_of_getElem? (i := 8) (by decide +kernel))))
    · exact va_Nw.of rfl (hts _ (in_t8 (List.mem_of_getElem? (i := 9) (by decide +kernel))))
    · exact va_Nw.of rfl (hts _ (in_t8 (List.mem_of_getElem? (i := 10) (by decide +kernel))))
    · exact va_Nw.of rfl (hts _ (in_t8 (List.mem_of_getElem? (i := 11) (by decide +kernel))))
    · exact va_Nw.of rfl (hts _ (in_t8 (List.mem_of_getElem? (i := 12) (by decide +kernel))))
    · exact va_Nw.of rfl (hts _ (in_t8 (List.mem_of_getElem? (i := 13) (by decide +kernel))))
  have hdc : ∀ x ∈ dcZ, va_Nw (.declares x) s := by
    refine List.forall_mem_cons.mpr ⟨?_, List.forall_mem_cons.mpr ⟨?_, List.forall_mem_cons.mpr ⟨?_, List.forall_mem_cons.mpr ⟨?_, List.forall_mem_cons.mpr ⟨?_, List.forall_mem_cons.mpr ⟨?_, List.forall_mem_cons.mpr ⟨?_, List.forall_mem_cons.mpr ⟨?_, List.forall_mem_cons.mpr ⟨?_, fun _ h => absurd h List.not_mem_nil⟩⟩⟩⟩⟩⟩⟩⟩⟩
    · exact va_Nw.of rfl (hts _ (in_t2 (List.mem_of_getElem? (i := 98) (by decide +kernel))))
    · exact va_Nw.of rfl (hts _ (in_t2 (List.mem_of_getElem? (i := 99) (by decide +kernel))))
    · exact va_Nw.of rfl (hts _ (in_t2 (List.mem_of_getElem? (i := 100) (by decide +kernel))))
    · exact va_Nw.of rfl (hts _ (in_t2 (List.mem_of_getElem? (i := 101) (by decide +kernel))))
    · exact va_Nw.of rfl (hts _ (in_t2 (List.mem_of_getElem? (i := 102) (by decide +kernel))))
    · exact va_Nw.of rfl (hts _ (in_t2 (List.mem_of_getElem? (i := 103) (by decide +kernel))))
    · exact va_Nw.of rfl (hts _ (in_t2 (List.mem_of_getElem? (i := 104) (by decide +kernel))))
    · exact va_Nw.of rfl (hts _ (in_t2 (List.mem_of_getElem? (i := 105) (by decide +kernel))))
    · exact va_Nw.of rfl (hts _ (in_t8 (List.mem_of_getElem? (i := 6) (by decide +kernel))))
  refine ⟨(((dC, dI), fun k => match k with | 0 => a0 | 1 => a1 | 2 => a2 | 3 => a3 | 4 => a4 | 5 => a5 | _ => a6), s.heap.size, fun k => match k with | 0 => t0 | 1 => t1 | 2 => t2 | _ => mi), rfl, ⟨hKc, ?_⟩, ⟨zU, zN⟩, ⟨hstr, hnc, hca, hdc⟩, ⟨z0, f0⟩, ⟨z1, f1⟩, ⟨z2, f2⟩, zC, zS, ⟨hmi, va_Dc.of (hts _ (in_t8 (List.mem_of_getElem? (i := 6) (by decide +kernel)))), va_AO.of (A := #[Value.ref b]) (hts _ (in_t3 (List.mem_of_getElem? (i := 59) (by decide +kernel))))⟩, Nat.le_refl _⟩
  intro k q hq
  match k, hq with
  | 0, hq => cases hq; exact ⟨ha0, hb0⟩
  | 1, hq => cases hq; exact ⟨ha1, hb1⟩
  | 2, hq => cases hq; exact ⟨ha2, hb2⟩
  | 3, hq => cases hq; exact ⟨ha3, hb3⟩
  | 4, hq => cases hq; exact ⟨ha4, hb4⟩
  | 5, hq => cases hq; exact ⟨ha5, hb5⟩
  | 6, hq => cases hq; exact ⟨ha6, hb6⟩
  | k + 7, hq => exact absurd hq (by simp [tysZ])
