/-! THE BASE: words, what holds at every method's entry, the world by names, the walk's judgement, contracts. -/
-- words: all that the tables say and that stays true
def WALL : List Cond := lw_tbl.filter goodWord
theorem wl {w : Cond} (n : Nat) (h : lw_tbl[n]? = some w) (g : goodWord w = true) : w ∈ WALL := List.mem_filter.mpr ⟨List.mem_of_getElem? h, g⟩
theorem wl_in {w : Cond} (h : w ∈ WALL) : w ∈ lw_tbl := (List.mem_filter.mp h).1
theorem wl_good {w : Cond} (h : w ∈ WALL) : (w.onTables && w.keeps) = true ∨ ∃ ty, w = .arrayClass ty := good_of_word (List.mem_filter.mp h).2
theorem gi_wall {ws : List Cond} (h : ∀ w ∈ ws, w ∈ WALL) : GoodIn WALL ws := fun w hw => ⟨h w hw, wl_good (h w hw)⟩
theorem gi_cons {w : Cond} (h : w ∈ WALL) : ∀ v ∈ w :: WALL, v ∈ WALL := fun v hv => (List.mem_cons.mp hv).elim (fun e => e ▸ h) id
-- the world's parameters: class numbers and slots; array classes; the first address that is ours; what statics refer to
abbrev Zx : Type := (va_G × (Nat → ClassId)) × Nat × (Nat → Nat)
abbrev Nm : Type := Nat → Nat → Nat
abbrev Ce : Type := Nat → Nat → Option va_E
def zA (z : Zx) : Nat → Prop := fun q => z.2.1 ≤ q
abbrev tysZ (z : Zx) : List (ClassId × FieldType) := [(z.1.2 0, .int), (z.1.2 1, .boolean), (z.1.2 2, .byte), (z.1.2 3, .long), (z.1.2 4, .double), (z.1.2 5, .char), (z.1.2 6, .object "java/lang/Object")]
abbrev aI (z : Zx) (n : Nat) (f : Nat → Int32) : va_E := .inl (z.1.2 0, n, .inl f)
abbrev aZ (z : Zx) (n : Nat) (f : Nat → Int32) : va_E := .inl (z.1.2 1, n, .inl f)
abbrev aB (z : Zx) (n : Nat) (f : Nat → Int32) : va_E := .inl (z.1.2 2, n, .inl f)
abbrev aJ (z : Zx) (n : Nat) (f : Nat → Int64) : va_E := .inl (z.1.2 3, n, .inr (.inl f))
abbrev aD (z : Zx) (n : Nat) (f : Nat → UInt64) : va_E := .inl (z.1.2 4, n, .inr (.inr (.inr (.inl f))))
abbrev aC (z : Zx) (n : Nat) (f : Nat → Int32) : va_E := .inl (z.1.2 5, n, .inl f)
abbrev aO (z : Zx) (n : Nat) (f : Nat → Option Nat) : va_E := .inl (z.1.2 6, n, .inr (.inr (.inr (.inr f))))
-- String constants of the class; pairs of exceptions that no handler mistakes
def strsZ : List (Nat × String) := [(49, "no such basin below"), (56, "area, depth or width out of range"), (300, "height out of range"), (65, "no more basins"), (304, "an hour has passed"), (308, "no such basin"), (94, "no more cells in this street"), (302, "opening out of range"), (111, "level out of range"), (113, "no more rules"), (310, "no such rule"), (138, "rain out of range"), (143, "hours out of range"), (149, "no basin"), (154, "the clock would go too far"), (312, "no such cell"), (306, "hour out of range"), (206, "rate or cover out of range"), (208, "no more houses"), (314, "no such house"), (228, "not wet at the end of this hour"), (235, "this hour has been claimed"), (245, "no hour to claim"), (256, "no claims"), (294, "no such character")]
def ncsZ : List (String × String) := [("java/lang/IllegalArgumentException", "java/lang/IndexOutOfBoundsException"), ("java/lang/IllegalStateException", "java/lang/IndexOutOfBoundsException"), ("java/lang/IllegalStateException", "java/lang/IllegalArgumentException"), ("java/lang/UnsupportedOperationException", "java/lang/IndexOutOfBoundsException"), ("java/lang/UnsupportedOperationException", "java/lang/IllegalArgumentException"), ("java/lang/IllegalStateException", "java/lang/UnsupportedOperationException"), ("java/util/NoSuchElementException", "java/lang/IndexOutOfBoundsException")]
-- a digit's byte, of Integer's two tables
def dgO (j : Nat) : Int32 := nI (48 + j % 10)
def dgT (j : Nat) : Int32 := nI (48 + j / 10)
-- castable and declared words (they stay true, but are no words of a contract): by mkbase.py out of the tables
def caZ : List (String × String) := [("java/lang/ArrayIndexOutOfBoundsException", "java/lang/ArrayIndexOutOfBoundsException"), ("java/lang/IndexOutOfBoundsException", "java/lang/IndexOutOfBoundsException"), ("java/lang/IllegalArgumentException", "java/lang/IllegalArgumentException"), ("java/lang/IllegalStateException", "java/lang/IllegalStateException"), ("java/lang/UnsupportedOperationException", "java/lang/UnsupportedOperationException"), ("java/util/NoSuchElementException", "java/util/NoSuchElementException"), ("java/lang/ArithmeticException", "java/lang/ArithmeticException"), ("[B", "java/lang/Cloneable"), ("java/lang/ArrayIndexOutOfBoundsException", "java/lang/IndexOutOfBoundsException"), ("java/lang/StringIndexOutOfBoundsException", "java/lang/IndexOutOfBoundsException"), ("StormBasin", "java/lang/Object"), ("java/util/ArrayList", "java/lang/Object"), ("StormBasin$Water", "java/lang/Object"), ("java/lang/StringBuilder", "java/lang/Object"), ("StormBasinModel", "java/lang/Object"), ("java/lang/ArrayIndexOutOfBoundsException", "java/lang/Object"), ("java/lang/IndexOutOfBoundsException", "java/lang/Object"), ("java/lang/IllegalArgumentException", "java/lang/Object"), ("java/lang/IllegalStateException", "java/lang/Object"), ("StormBasin$Basin", "java/lang/Object"), ("StormBasin$Street", "java/lang/Object"), ("StormBasin$Rule", "java/lang/Object"), ("StormBasin$House", "java/lang/Object"), ("java/lang/UnsupportedOperationException", "java/lang/Object"), ("java/util/NoSuchElementException", "java/lang/Object"), ("java/lang/ArithmeticException", "java/lang/Object"), ("java/lang/StringIndexOutOfBoundsException", "java/lang/Object"), ("java/lang/String", "java/lang/Object"), ("java/lang/Throwable", "java/lang/Object"), ("[I", "java/lang/Object"), ("[B", "java/lang/Object"), ("[Ljava/lang/Object;", "java/lang/Object"), ("[Z", "java/lang/Object"), ("[C", "java/lang/Object"), ("[J", "java/lang/Object"), ("[D", "java/lang/Object")]
def dcZ : List MethodName := [⟨"java/lang/IndexOutOfBoundsException", "<init>", "()V"⟩, ⟨"java/lang/IndexOutOfBoundsException", "<init>", "(Ljava/lang/String;)V"⟩, ⟨"java/lang/RuntimeException", "<init>", "()V"⟩, ⟨"java/lang/RuntimeException", "<init>", "(Ljava/lang/String;)V"⟩, ⟨"java/lang/Exception", "<init>", "()V"⟩, ⟨"java/lang/Exception", "<init>", "(Ljava/lang/String;)V"⟩, ⟨"java/lang/Throwable", "<init>", "()V"⟩, ⟨"java/lang/Throwable", "<init>", "(Ljava/lang/String;)V"⟩, ⟨"java/lang/Object", "getClass", "()Ljava/lang/Class;"⟩]
def xtZ : List Cond := caZ.map (fun q => Cond.castable q.1 q.2) ++ dcZ.map (fun x => Cond.declares x)
/-- what holds at the entry of every method -/
def Ev (z : Zx) (U : State) : Prop :=
  va_K z.1.1 vwCl (tysZ z) U ∧
  (vx_Zq Bundle.tN "UNASSIGNED_STACK" Bundle.steD (zA z) U U.heap ∧ vx_Zq Bundle.tN "SUPPRESSED_SENTINEL" Bundle.listD (zA z) U U.heap) ∧
  ((∀ q ∈ strsZ, ∃ a, vk_R RX5 q.1 q.2 a U) ∧ (∀ q ∈ ncsZ, va_Nc q.1 q.2 U) ∧ (∀ q ∈ caZ, va_Nw (.castable q.1 q.2) U) ∧ (∀ x ∈ dcZ, va_Nw (.declares x) U)) ∧
  (va_Z "java/util/ArrayList" "DEFAULTCAPACITY_EMPTY_ELEMENTDATA" "[Ljava/lang/Object;" (.ref (z.2.2 0)) (zA z) U U.heap ∧ va_T (.object "java/lang/Object") (z.2.2 0) 0 (fun _ => .null) (zA z) U U.heap) ∧
  (va_Z "java/lang/Integer" "DigitOnes" "[B" (.ref (z.2.2 1)) (zA z) U U.heap ∧ va_T .byte (z.2.2 1) 100 (fun j => .int (dgO j)) (zA z) U U.heap) ∧
  (va_Z "java/lang/Integer" "DigitTens" "[B" (.ref (z.2.2 2)) (zA z) U U.heap ∧ va_T .byte (z.2.2 2) 100 (fun j => .int (dgT j)) (zA z) U U.heap) ∧
  va_Z "java/lang/String" "COMPACT_STRINGS" "Z" (.int 1) (zA z) U U.heap ∧
  va_Zq "jdk/internal/util/Preconditions" "SIOOBE_FORMATTER" "Ljava/util/function/BiFunction;" (zA z) U U.heap ∧
  (va_Mi "[Ljava/lang/Object;" (z.2.2 3) U ∧ va_Dc U ∧ va_AO "java/lang/Object" U) ∧
  z.2.1 ≤ U.heap.size
theorem Ev.at {z : Zx} {s U : State} {H : Heap} {locs : List Loc} (h : Ev z s) (hS : va_S (zA z) s.heap H locs) (hH : U.heap = H) (hW : s.WarmedH U.vm) : Ev z U := by
  obtain ⟨h1, ⟨h2, h3⟩, ⟨h4, h4', hca, hdc⟩, ⟨h5, h6⟩, ⟨h7, h8⟩, ⟨h9, h10⟩, h11, h12, ⟨h13, h14, h16⟩, h15⟩ := h
  have hk : ∀ a : Nat, a < s.heap.size → ¬ zA z a → U.heap[a]? = s.heap[a]? := by rw [hH]; exact hS.2.1
  have hvm := hW.alike
  exact ⟨va_K.moved hvm h1, ⟨vx_Zq.moved hvm (h2.kept hk), vx_Zq.moved hvm (h3.kept hk)⟩, ⟨fun q hq => (h4 q hq).imp fun a ha => vk_R.warm hW ha, fun q hq => va_Nc.moved hvm (h4' q hq), fun q hq => va_Nw.warmC hW (hca q hq), fun x hx => va_Nw.warmD hW (hdc x hx)⟩,
    ⟨va_Z.moved hvm (h5.kept hk), va_T.moved hvm (h6.kept hk)⟩, ⟨va_Z.moved hvm (h7.kept hk), va_T.moved hvm (h8.kept hk)⟩, ⟨va_Z.moved hvm (h9.kept hk), va_T.moved hvm (h10.kept hk)⟩,
    va_Z.moved hvm (h11.kept hk), va_Zq.moved hvm (h12.kept hk), ⟨va_Mi.moved hvm h13, va_Dc.moved hvm h14, va_AO.moved hvm h16⟩, Nat.le_trans h15 (by rw [hH]; exact hS.1)⟩
theorem Ev.calling {z : Zx} {U : State} {g : JFrame} {mk : MethodId} {a : Array Value} (h : Ev z U) : Ev z (U.calling g mk a) :=
  h.at (H := U.heap) (locs := []) va_S.rf rfl (State.WarmedH.refl U)
-- the world: cells by name
def up2 (μ : Ce) (k i : Nat) (e : va_E) : Ce := fun k' i' => if k' = k ∧ i' = i then some e else μ k' i'
def nmu (ad : Nm) (k i q : Nat) : Nm := fun k' i' => if k' = k ∧ i' = i then q else ad k' i'
theorem up2_s {μ : Ce} {k i : Nat} {e : va_E} : up2 μ k i e k i = some e := if_pos ⟨rfl, rfl⟩
theorem up2_n {μ : Ce} {k i k' i' : Nat} {e : va_E} (h : ¬ (k' = k ∧ i' = i)) : up2 μ k i e k' i' = μ k' i' := if_neg h
theorem nmu_s {ad : Nm} {k i q : Nat} : nmu ad k i q k i = q := if_pos ⟨rfl, rfl⟩
theorem nmu_n {ad : Nm} {k i k' i' q : Nat} (h : ¬ (k' = k ∧ i' = i)) : nmu ad k i q k' i' = ad k' i' := if_neg h
def Hv (z : Zx) (ad : Nm) (μ : Ce) (H : Heap) : Prop :=
  (∀ k i e, μ k i = some e → va_at z.1.1 vwCl (ad k i, e) H ∧ z.2.1 ≤ ad k i) ∧ (∀ k i k' i', μ k i ≠ none → μ k' i' ≠ none → ad k i = ad k' i' → k = k' ∧ i = i')
theorem Hv.one {z : Zx} {ad : Nm} {μ : Ce} {H : Heap} (h : Hv z ad μ H) {k i : Nat} {e : va_E} (hk : μ k i = some e) : va_P z.1.1 vwCl [(ad k i, e)] H := by
  intro n q hq
  match n, hq with
  | 0, hq => cases hq; exact (h.1 k i e hk).1
  | n + 1, hq => simp at hq
theorem Hv.two {z : Zx} {ad : Nm} {μ : Ce} {H : Heap} (h : Hv z ad μ H) {k i k2 i2 : Nat} {e e2 : va_E} (hk : μ k i = some e) (hk2 : μ k2 i2 = some e2) : va_P z.1.1 vwCl [(ad k i, e), (ad k2 i2, e2)] H := by
  intro n q hq
  match n, hq with
  | 0, hq => cases hq; exact (h.1 k i e hk).1
  | 1, hq => cases hq; exact (h.1 k2 i2 e2 hk2).1
  | n + 2, hq => simp at hq
theorem Hv.set {z : Zx} {ad : Nm} {μ : Ce} {H H1 : Heap} (h : Hv z ad μ H) {k i : Nat} {e e' : va_E} (hk : μ k i = some e) (h1 : va_at z.1.1 vwCl (ad k i, e') H1) (oq : ∀ q : Nat, q ≠ ad k i → H1[q]? = H[q]?) : Hv z ad (up2 μ k i e') H1 := by
  have hn : ∀ k' i', up2 μ k i e' k' i' ≠ none → μ k' i' ≠ none := by
    intro k' i' hh
    by_cases c : k' = k ∧ i' = i
    · rw [c.1, c.2, hk]; exact fun q => by cases q
    · rwa [up2_n c] at hh
  refine ⟨fun k' i' x hx => ?_, fun a b c d ha hc => h.2 a b c d (hn a b ha) (hn c d hc)⟩
  by_cases c : k' = k ∧ i' = i
  · obtain ⟨rfl, rfl⟩ := c
    rw [up2_s] at hx
    cases hx
    exact ⟨h1, (h.1 _ _ _ hk).2⟩
  · rw [up2_n c] at hx
    refine ⟨(h.1 k' i' x hx).1.kept (oq _ fun e1 => c (h.2 k' i' k i (by rw [hx]; exact fun q => by cases q) (by rw [hk]; exact fun q => by cases q) e1)), (h.1 k' i' x hx).2⟩
theorem Hv.lt {z : Zx} {ad : Nm} {μ : Ce} {H : Heap} (h : Hv z ad μ H) {k i : Nat} {e : va_E} (hk : μ k i = some e) : ad k i < H.size := (h.1 k i e hk).1.lt
theorem Hv.new {z : Zx} {ad : Nm} {μ : Ce} {H H1 : Heap} (h : Hv z ad μ H) {k i q : Nat} {e : va_E} (hk : μ k i = none) (hq : H.size ≤ q) (hz : z.2.1 ≤ q) (h1 : va_at z.1.1 vwCl (q, e) H1) (oq : ∀ a : Nat, a < H.size → H1[a]? = H[a]?) : Hv z (nmu ad k i q) (up2 μ k i e) H1 := by
  refine ⟨fun k' i' x hx => ?_, fun a b c d ha hc hac => ?_⟩
  · by_cases c : k' = k ∧ i' = i
    · obtain ⟨rfl, rfl⟩ := c
      rw [up2_s] at hx
      cases hx
      rw [nmu_s]
      exact ⟨h1, hz⟩
    · rw [up2_n c] at hx
      rw [nmu_n c]
      exact ⟨(h.1 k' i' x hx).1.kept (oq _ (h.lt hx)), (h.1 k' i' x hx).2⟩
  · by_cases c1 : a = k ∧ b = i <;> by_cases c2 : c = k ∧ d = i
    · exact ⟨c1.1.trans c2.1.symm, c1.2.trans c2.2.symm⟩
    · obtain ⟨rfl, rfl⟩ := c1
      rw [nmu_s, nmu_n c2] at hac
      rw [up2_n c2] at hc
      obtain ⟨x, hx⟩ := Option.ne_none_iff_exists'.mp hc
      have := h.lt hx
      omega
    · obtain ⟨rfl, rfl⟩ := c2
      rw [nmu_s, nmu_n c1] at hac
      rw [up2_n c1] at ha
      obtain ⟨x, hx⟩ := Option.ne_none_iff_exists'.mp ha
      have := h.lt hx
      omega
    · rw [nmu_n c1, nmu_n c2] at hac
      rw [up2_n c1] at ha
      rw [up2_n c2] at hc
      exact h.2 a b c d ha hc hac
/-- fewer or other names for the same cells -/
theorem Hv.re {z : Zx} {ad ad' : Nm} {μ μ' : Ce} {H : Heap} (h : Hv z ad μ H) (hh : ∀ k i e, μ' k i = some e → ∃ k' i', μ k' i' = some e ∧ ad k' i' = ad' k i) (hi : ∀ k i k' i', μ' k i ≠ none → μ' k' i' ≠ none → ad' k i = ad' k' i' → k = k' ∧ i = i') : Hv z ad' μ' H := by
  refine ⟨fun k i e he => ?_, hi⟩
  obtain ⟨k', i', h1, h2⟩ := hh k i e he
  rw [← h2]
  exact h.1 k' i' e h1
theorem Hv.eqm {z : Zx} {ad : Nm} {μ μ' : Ce} {H : Heap} (h : Hv z ad μ H) (e : μ = μ') : Hv z ad μ' H := e ▸ h
/-- the named cells as one list (each address once) -/
theorem Hv.list {z : Zx} {ad : Nm} {μ : Ce} {H : Heap} (h : Hv z ad μ H) : ∃ ws : va_W, va_P z.1.1 vwCl ws H ∧ va_D (zA z) ws ∧ (∀ k i e, μ k i = some e → ∃ n : Nat, ws[n]? = some (ad k i, e)) ∧ ∀ q ∈ ws, ∃ k i, μ k i = some q.2 ∧ ad k i = q.1 := by
  have hF : ∀ q : Nat, ∃ x : Option (Nat × va_E), (∀ y, x = some y → y.1 = q ∧ ∃ k i, μ k i = some y.2 ∧ ad k i = q) ∧ (x = none → ∀ k i e, μ k i = some e → ad k i ≠ q) := by
    intro q
    rcases Classical.em (∃ k i e, μ k i = some e ∧ ad k i = q) with ⟨k, i, e, h1, h2⟩ | hn
    · exact ⟨some (q, e), (fun y hy => by cases hy; exact ⟨rfl, k, i, h1, h2⟩), fun hx => by cases hx⟩
    · exact ⟨none, (fun y hy => by cases hy), fun _ k i e h1 h2 => hn ⟨k, i, e, h1, h2⟩⟩
  obtain ⟨F, hF⟩ := Classical.axiomOfChoice hF
  have hm : ∀ y, y ∈ (List.range H.size).filterMap F → F y.1 = some y ∧ ∃ k i, μ k i = some y.2 ∧ ad k i = y.1 := by
    intro y hy
    obtain ⟨q, -, hq⟩ := List.mem_filterMap.mp hy
    obtain ⟨e1, k, i, h1, h2⟩ := (hF q).1 y hq
    subst e1
    exact ⟨hq, k, i, h1, h2⟩
  have hnd : ∀ (l : List Nat), l.Nodup → ((l.filterMap F).map Prod.fst).Nodup := by
    intro l
    induction l with
    | nil => intro _; exact List.nodup_nil
    | cons a t ih =>
      intro hl
      obtain ⟨h1, h2⟩ := List.nodup_cons.mp hl
      cases ha : F a with
      | none => rw [List.filterMap_cons_none ha]; exact ih h2
      | some y =>
        rw [List.filterMap_cons_some ha, List.map_cons]
        refine List.nodup_cons.mpr ⟨fun hy => ?_, ih h2⟩
        obtain ⟨w, hw, e1⟩ := List.mem_map.mp hy
        obtain ⟨b, hb, hwb⟩ := List.mem_filterMap.mp hw
        have e2 := ((hF b).1 w hwb).1
        have e3 := ((hF a).1 y ha).1
        exact h1 (by rw [← e3, ← e1, e2]; exact hb)
  refine ⟨(List.range H.size).filterMap F, fun n q hq => ?_, ⟨fun i j p q hp hq hpq => ?_, fun n q hq => ?_⟩, fun k i e he => ?_, fun q hq => (hm q hq).2⟩
  · obtain ⟨-, k, i, h1, h2⟩ := hm q (List.mem_of_getElem? hq)
    have := (h.1 k i _ h1).1
    rw [h2] at this
    exact this
  · have hN := hnd (List.range H.size) List.nodup_range
    have g1 : (((List.range H.size).filterMap F).map Prod.fst)[i]? = some p.1 := by rw [List.getElem?_map, hp]; rfl
    have g2 : (((List.range H.size).filterMap F).map Prod.fst)[j]? = some p.1 := by rw [List.getElem?_map, hq, hpq]; rfl
    have l1 := (List.getElem?_eq_some_iff.mp g1).1
    exact (List.getElem?_inj l1 hN).mp (g1.trans g2.symm)
  · obtain ⟨-, k, i, h1, h2⟩ := hm q (List.mem_of_getElem? hq)
    have := (h.1 k i _ h1).2
    rw [h2] at this
    exact this
  · have hlt := h.lt he
    cases hx : F (ad k i) with
    | none => exact absurd rfl ((hF (ad k i)).2 hx k i e he)
    | some y =>
      obtain ⟨e1, k', i', h1, h2⟩ := (hF (ad k i)).1 y hx
      obtain ⟨rfl, rfl⟩ := h.2 k' i' k i (by rw [h1]; exact fun q => by cases q) (by rw [he]; exact fun q => by cases q) h2
      rw [he] at h1
      have e2 : y = (ad k' i', e) := Prod.ext e1 (Option.some.inj h1).symm
      subst e2
      exact List.getElem?_of_mem (List.mem_filterMap.mpr ⟨ad k' i', List.mem_range.mpr hlt, hx⟩)
theorem Hv.back {z : Zx} {ad : Nm} {μ : Ce} {H H1 : Heap} {ws : va_W} {n k i : Nat} {e e' : va_E} (h : Hv z ad μ H) (hc : ∀ k i e, μ k i = some e → ∃ n : Nat, ws[n]? = some (ad k i, e)) (hk : μ k i = some e) (hn : ws[n]? = some (ad k i, e)) (hP : va_P z.1.1 vwCl (ws.set n (ad k i, e')) H1) : Hv z ad (up2 μ k i e') H1 := by
  have hl := (List.getElem?_eq_some_iff.mp hn).1
  have hz : ∀ k' i', up2 μ k i e' k' i' ≠ none → μ k' i' ≠ none := by
    intro k' i' hh
    by_cases c : k' = k ∧ i' = i
    · rw [c.1, c.2, hk]; exact fun q => by cases q
    · rwa [up2_n c] at hh
  refine ⟨fun k' i' x hx => ?_, fun a b c d ha hc' => h.2 a b c d (hz a b ha) (hz c d hc')⟩
  by_cases c : k' = k ∧ i' = i
  · obtain ⟨rfl, rfl⟩ := c
    rw [up2_s] at hx
    cases hx
    exact ⟨hP n _ (List.getElem?_set_self hl), (h.1 _ _ _ hk).2⟩
  · rw [up2_n c] at hx
    obtain ⟨j, hj⟩ := hc k' i' x hx
    have hjn : n ≠ j := by
      intro e1
      subst e1
      rw [hn] at hj
      exact c (h.2 k' i' k i (by rw [hx]; exact fun q => by cases q) (by rw [hk]; exact fun q => by cases q) (congrArg Prod.fst (Option.some.inj hj)).symm)
    exact ⟨hP j _ (by rw [List.getElem?_set_ne hjn]; exact hj), (h.1 k' i' x hx).2⟩
theorem Hv.push {z : Zx} {ad : Nm} {μ : Ce} {H H1 : Heap} {ws : va_W} {k i q : Nat} {e : va_E} (h : Hv z ad μ H) (hc : ∀ k i e, μ k i = some e → ∃ n : Nat, ws[n]? = some (ad k i, e)) (hk : μ k i = none) (hP : va_P z.1.1 vwCl (ws ++ [(q, e)]) H1) (hD : va_D (zA z) (ws ++ [(q, e)])) : Hv z (nmu ad k i q) (up2 μ k i e) H1 := by
  have hlast : (ws ++ [(q, e)])[ws.length]? = some (q, e) := by simp
  have hne : ∀ k' i' x, μ k' i' = some x → ad k' i' ≠ q := by
    intro k' i' x hx e1
    obtain ⟨j, hj⟩ := hc k' i' x hx
    have hl := (List.getElem?_eq_some_iff.mp hj).1
    have hj' : (ws ++ [(q, e)])[j]? = some (ad k' i', x) := by rw [List.getElem?_append_left hl]; exact hj
    have := hD.1 j ws.length _ _ hj' hlast e1
    omega
  refine ⟨fun k' i' x hx => ?_, fun a b c d ha hc' hac => ?_⟩
  · by_cases c : k' = k ∧ i' = i
    · obtain ⟨rfl, rfl⟩ := c
      rw [up2_s] at hx
      cases hx
      rw [nmu_s]
      exact ⟨hP _ _ hlast, hD.2 _ _ hlast⟩
    · rw [up2_n c] at hx
      rw [nmu_n c]
      obtain ⟨j, hj⟩ := hc k' i' x hx
      have hl := (List.getElem?_eq_some_iff.mp hj).1
      exact ⟨hP j _ (by rw [List.getElem?_append_left hl]; exact hj), (h.1 k' i' x hx).2⟩
  · by_cases c1 : a = k ∧ b = i <;> by_cases c2 : c = k ∧ d = i
    · exact ⟨c1.1.trans c2.1.symm, c1.2.trans c2.2.symm⟩
    · obtain ⟨rfl, rfl⟩ := c1
      rw [nmu_s, nmu_n c2] at hac
      rw [up2_n c2] at hc'
      obtain ⟨x, hx⟩ := Option.ne_none_iff_exists'.mp hc'
      exact absurd hac.symm (hne _ _ x hx)
    · obtain ⟨rfl, rfl⟩ := c2
      rw [nmu_s, nmu_n c1] at hac
      rw [up2_n c1] at ha
      obtain ⟨x, hx⟩ := Option.ne_none_iff_exists'.mp ha
      exact absurd hac (hne _ _ x hx)
    · rw [nmu_n c1, nmu_n c2] at hac
      rw [up2_n c1] at ha
      rw [up2_n c2] at hc'
      exact h.2 a b c d ha hc' hac
-- the walk's fixed things
abbrev Gx : Type := (Program × Launch × Env × Room × State) × (MethodId × Array Value × List Frame × Method × Code) × (State → Prop)
abbrev gp (g : Gx) : Program := g.1.1
abbrev gl (g : Gx) : Launch := g.1.2.1
abbrev ge (g : Gx) : Env := g.1.2.2.1
abbrev gR (g : Gx) : Room := g.1.2.2.2.1
abbrev gs (g : Gx) : State := g.1.2.2.2.2
abbrev gm (g : Gx) : MethodId := g.2.1.1
abbrev ga (g : Gx) : Array Value := g.2.1.2.1
abbrev gb (g : Gx) : List Frame := g.2.1.2.2.1
abbrev gt (g : Gx) : Method := g.2.1.2.2.2.1
abbrev gc (g : Gx) : Code := g.2.1.2.2.2.2
abbrev gQ (g : Gx) : State → Prop := g.2.2
abbrev Lv : Type := List (Nat × Value)
/-- from this point (place pc, locals lv, stack st, world μ at ad, n cells and k slots made) the walk comes to its end -/
def WW (g : Gx) (z : Zx) (nL n k : Nat) (ad : Nm) (μ : Ce) (pc : Nat) (lv : Lv) (st : List Value) : Prop :=
  ∀ (H : Heap) (locs : List Loc) (ls : Array Slot), Hv z ad μ H → va_S (zA z) (gs g).heap H locs → lv_has ls nL lv →
    W (gp g) (gl g) (ge g) (gR g) (gs g) (gm g) (ga g) (gb g) (gt g) (gc g) H locs n k (gQ g) (F0 (gm g) pc ls st)
/-- q is thrown at this point, an E -/
def WX (g : Gx) (z : Zx) (nL n k : Nat) (ad : Nm) (μ : Ce) (pc : Nat) (lv : Lv) (st : List Value) (E : String) : Prop :=
  ∀ (H : Heap) (locs : List Loc) (ls : Array Slot) (q : Addr) (ce : Cell), Hv z ad μ H → va_S (zA z) (gs g).heap H locs → lv_has ls nL lv → H[q]? = some ce → ce.vm = .none → (gs g).vm.findClass E = some ce.cls →
    vx_W (gp g) (gl g) (ge g) (gR g) (gs g) (gm g) (ga g) (gb g) (gt g) (gc g) H locs n k (gQ g) (F0 (gm g) pc ls st) q
-- contracts
abbrev OkT : Type := Option Value → Nm → Ce → Prop
def okQ (z : Zx) (ok : OkT) : Array Value → State → Outcome → State → Prop := fun _ st o t => ∃ (v : Option Value) (ad : Nm) (μ : Ce), o = .returned v ∧ ok v ad μ ∧ Hv z ad μ t.heap ∧ va_F (zA z) st t
def exQ (z : Zx) (ex : String → Prop) (ad : Nm) (μ : Ce) : String → State → State → Prop := fun E st t => ex E ∧ Hv z ad μ t.heap ∧ va_F (zA z) st t
def exNo : String → Prop := fun _ => False
abbrev rmK (lev mc ms : Nat) : Room := { frames := 12 + lev, cells := mc, slots := ms, locals := 200 + 60 * lev }
/-- method y: from any state with the world μ at ad and these arguments it returns as ok says, or throws an exception that ex names and the world is unchanged -/
def Ko (z : Zx) (l : Launch) (y : MethodName) (b : ByteArray) (nL : Nat) (ret : Option FieldType) (lev mc ms : Nat) (args : List Value) (ad : Nm) (μ : Ce) (ok : OkT) (ex : String → Prop) : Prop :=
  vx_Met l y (Cond.code y b nL ret :: WALL) (rmK lev mc ms) (va_Pc args (fun U => Ev z U ∧ Hv z ad μ U.heap)) (okQ z ok) (exQ z ex ad μ) mc ms (zA z)
/-- what a walk knows all along -/
def Kn (g : Gx) (z : Zx) (cc : ByteArray) (nL : Nat) (y : MethodName) (ret : Option FieldType) (tb : List ExceptionTableEntry) (lev mc ms : Nat) (ad0 : Nm) (μ0 : Ce) (ok : OkT) (ex : String → Prop) : Prop :=
  CallFix (gp g) (gm g) (gc g) cc nL (gs g) (ga g) WALL y.cls ∧ Ev z (gs g) ∧ (gl g).stackTraces = false ∧ (gt g).locks = false ∧ ((gt g).sig.returnType = ret ∧ (gt g).name = y.name) ∧ gR g = rmK lev mc ms ∧
  (gc g).exceptionTable.toList = tb ∧ gQ g = vx_MQ (gb g) (okQ z ok) (exQ z ex ad0 μ0) (ga g) (gs g) mc ms (zA z)
theorem ko_of {z : Zx} {l : Launch} {y : MethodName} {b : ByteArray} {nL : Nat} {ret : Option FieldType} {lev mc ms : Nat} {args : List Value} {ad : Nm} {μ : Ce} {ok : OkT} {ex : String → Prop} (hl : l.stackTraces = false) (hy : plainName y.cls = true) (hn : (lg_sl args).length ≤ nL)
    (body : ∀ g : Gx, gl g = l → Kn g z b nL y ret [] lev mc ms ad μ ok ex → WW g z nL 0 0 ad μ 0 (lv_args 0 args) []) : Ko z l y b nL ret lev mc ms args ad μ ok ex := by
  refine vx_ofW (cc := b) (maxL := nL) (ret := ret) hy rfl ?_
  intro p e s m args' below meth c s₁ B hml ht hv
  obtain ⟨rfl, hE, hM⟩ := hv
  have hts := atoms_spec (ws := Cond.code y b nL ret :: WALL) B.pre
  have K := body ((p, l, e, rmK lev mc ms, s), (m, args.toArray, below, meth, c), vx_MQ below (okQ z ok) (exQ z ex ad μ) args.toArray s mc ms (zA z)) rfl
    ⟨⟨B.exec, B.bytes, hml, findClass_of_methodNamed B.named, fun w hw => hts w (List.mem_cons_of_mem _ hw)⟩, hE, hl, B.notSynchronized, ⟨B.returns, (name_of_methodNamed B.named B.method).1⟩, rfl, List.eq_nil_iff_forall_not_mem.mpr ht, rfl⟩
  have hls := lv_entry args (n := nL) hn
  rw [lg_entry_eq]
  exact K s.heap [] _ hM va_S.rf hls
/-- the same for a method with a table of handlers -/
def KoH (z : Zx) (l : Launch) (y : MethodName) (b : ByteArray) (nL : Nat) (ret : Option FieldType) (hh : List (Nat × Nat × Nat × Nat)) (lev mc ms : Nat) (args : List Value) (ad : Nm) (μ : Ce) (ok : OkT) (ex : String → Prop) : Prop :=
  vx_Met l y (Cond.codeWith y b nL ret hh :: WALL) (rmK lev mc ms) (va_Pc args (fun U => Ev z U ∧ Hv z ad μ U.heap)) (okQ z ok) (exQ z ex ad μ) mc ms (zA z)
theorem koH_of {z : Zx} {l : Launch} {y : MethodName} {b : ByteArray} {nL : Nat} {ret : Option FieldType} {hh : List (Nat × Nat × Nat × Nat)} {lev mc ms : Nat} {args : List Value} {ad : Nm} {μ : Ce} {ok : OkT} {ex : String → Prop} (hl : l.stackTraces = false) (hy : plainName y.cls = true) (hn : (lg_sl args).length ≤ nL)
    (body : ∀ g : Gx, gl g = l → Kn g z b nL y ret (tableOf hh) lev mc ms ad μ ok ex → WW g z nL 0 0 ad μ 0 (lv_args 0 args) []) : KoH z l y b nL ret hh lev mc ms args ad μ ok ex := by
  refine vx_ofWH (cc := b) (maxL := nL) (ret := ret) (hh := hh) hy rfl ?_
  intro p e s m args' below meth c s₁ B hml hv
  obtain ⟨rfl, hE, hM⟩ := hv
  have hts := atoms_spec (ws := Cond.codeWith y b nL ret hh :: WALL) B.pre
  have ht := vx_table (x := y) B (hts _ List.mem_cons_self)
  have K := body ((p, l, e, rmK lev mc ms, s), (m, args.toArray, below, meth, c), vx_MQ below (okQ z ok) (exQ z ex ad μ) args.toArray s mc ms (zA z)) rfl
    ⟨⟨B.exec, B.bytes, hml, findClass_of_methodNamed B.named, fun w hw => hts w (List.mem_cons_of_mem _ hw)⟩, hE, hl, B.notSynchronized, ⟨B.returns, (name_of_methodNamed B.named B.method).1⟩, rfl, ht, rfl⟩
  have hls := lv_entry args (n := nL) hn
  rw [lg_entry_eq]
  exact K s.heap [] _ hM va_S.rf hls
