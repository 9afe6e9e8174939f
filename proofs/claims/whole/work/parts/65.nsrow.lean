/-! THE ROW of such a throw -/
section ZNS
variable {g : Gx} {z : Zx} {cc : ByteArray} {nL : Nat} {y0 : MethodName} {ret : Option FieldType} {tb : List ExceptionTableEntry} {lev mc ms : Nat} {ad0 ad : Nm} {μ0 μ : Ce} {ok : OkT} {ex : String → Prop} {n k pc : Nat} {lv lv' : Lv} {st st0 : List Value}
variable {y : MethodName} {b' : ByteArray} {nL' : Nat} {ret' : Option FieldType} {lev' mc' ms' : Nat} {ok' : OkT} {ex' : String → Prop} {As : List Value} {index : Nat}
/-- throw new E("text"), text by a short index -/
theorem r_throwNS (K : Kn g z cc nL y0 ret [] lev mc ms ad0 μ0 ok ex) {ik is ic : Nat} {cls text : String} {names : List String} (hy : y0.cls = RX5) (hcls : Bundle.fit cls = true) (hnames : ∀ q ∈ names, Bundle.fit q = true) (hlen : names.length ≤ 5) (hk1 : Cond.classLink y0.cls ik cls ∈ WALL) (hk2 : Cond.initialized cls ∈ WALL) (hat : ∀ w ∈ ns_atS y0.cls ic cls names, w ∈ WALL ++ xtZ) (hs : (is, text) ∈ strsZ)
    (d0 : decode cc pc = .ok (.new ik, 3)) (d3 : decode cc (pc + 3) = .ok (.dup, 1)) (d4 : decode cc (pc + 4) = .ok (.ldc is, 2)) (d6 : decode cc (pc + 6) = .ok (.invokespecial ic, 3)) (d9 : decode cc (pc + 9) = .ok (.athrow, 1)) (hx : ex cls) (hst : (st.map fun v => v.category).sum ≤ 8) (hn : n + 1 ≤ mc) (hk : k + 6 ≤ ms) : WW g z nL n k ad0 μ0 pc lv st := by
  intro H locs ls M S L
  rw [kQ K]
  obtain ⟨sa, hsa⟩ := (kE K).2.2.1.1 _ hs
  refine ns_throw (A := zA z) (own := y0.cls) (text := text) (names := names) (sa := sa) K.1.1 K.1.2.1 K.2.2.1 K.1.2.2.2.1 hcls hnames (kW K hk1) (kW K hk2) (by rw [hy]; exact hsa) (fun w hw => kWX K (hat w hw)) ?_ (kE K).2.1.1 (kE K).2.1.2 S (L.1.trans K.1.2.2.1.symm) d0 d3 d4 d6 d9 (fun x hx9 => by rw [K.2.2.2.2.2.2.1] at hx9; exact absurd hx9 List.not_mem_nil) (by rw [kR K]; show names.length + 3 < 12 + lev; omega) (by rw [kR K]; show _ + (13 * (names.length + 1) + 43) ≤ 200 + 60 * lev; omega) (by rw [kR K]; exact hn) (by rw [kR K]; exact hk) K.2.2.2.1 (fun t _ h1 h2 => ⟨hx, M.kept h2, Nat.le_trans S.1 h1, fun q h3 h4 => (h2 q (Nat.lt_of_lt_of_le h3 S.1)).trans (S.2.1 q h3 h4)⟩) S.2.2 hn hk
  intro w hw
  have hw2 : w ∈ WALL ++ xtZ := by
    rcases List.mem_cons.mp hw with rfl | hw
    · exact List.mem_append_left _ hk1
    · rcases List.mem_cons.mp hw with rfl | hw
      · exact List.mem_append_left _ hk2
      · exact hat w hw
  exact otX hw2
end ZNS
