/-! THE GO LAYER. The world: all cells that were made since the law began, by number (cell k lies at G.1.size + k). S: their kinds; I, R, L: their ints, references (cell numbers), longs. -/
abbrev gm : Type := MethodName × ByteArray × Nat × Option FieldType
abbrev gS : Type := List (Nat × Nat)
abbrev gI : Type := Nat → Nat → Int32
abbrev gR : Type := Nat → Nat → Option Nat
abbrev gL : Type := Nat → Nat → Int64
/-- the ground: heap at the start, class numbers and slots, array classes, addresses of things outside, the script -/
abbrev gG : Type := Heap × va_G × (Nat → ClassId) × (Nat → Nat) × Nat × (Nat → Int32)
abbrev gQ : Type := Option Value → gS → gI → gR → gL → Prop
/-- the words that a method may count on -/
def g_t : List Cond := lw_tbl.filter goodWord
theorem g_in {w : Cond} (i : Nat) (h : lw_tbl[i]? = some w) (hg : goodWord w = true) : w ∈ g_t := List.mem_filter.mpr ⟨List.mem_of_getElem? h, hg⟩
/-- a value: cell numbers become addresses; 'float n' stands for the thing outside with number n -/
def cv (G : gG) : Value → Value
  | .ref k => .ref (G.1.size + k)
  | .float n => .ref (G.2.2.2.1 n.toNat)
  | .int x => .int x
  | .long x => .long x
  | .double x => .double x
  | .null => .null
  | .retAddr x => .retAddr x
theorem cv_cat (G : gG) (v : Value) : (cv G v).category = v.category := by cases v <;> rfl
theorem cv_cats (G : gG) (st : List Value) : ((st.map (cv G)).map fun v => v.category).sum = (st.map fun v => v.category).sum := by
  induction st with
  | nil => rfl
  | cons v t ih => simp only [List.map_cons, List.sum_cons, ih, cv_cat]
abbrev g_cl : List vw_C := [(RX0, TX0, 4), (RX1, TX1, 15), (RX2, TX2, 8), (RX3, TX3, 15), (RX4, TX4, 6), (RX5, TX5, 12), (RX6, TX6, 10), (RX7, TX7, 48)]
def g_ty : Nat → Nat → FieldType
  | 0 => tyX0 | 1 => tyX1 | 2 => tyX2 | 3 => tyX3 | 4 => tyX4 | 5 => tyX5 | 6 => tyX6 | _ => tyX7
/-- whether a field is a reference -/
def g_rt : FieldType → Bool
  | .object _ => true
  | .array _ => true
  | _ => false
def g_nf : Nat → Nat
  | 0 => 4 | 1 => 15 | 2 => 8 | 3 => 15 | 4 => 6 | 5 => 12 | 6 => 10 | 7 => 48 | _ => 0
theorem g_cls {ci : Nat} {r : vw_C} (h : g_cl[ci]? = some r) : (∀ w ∈ u_ws r.1 r.2.1 r.2.2, w ∈ lw_tbl) ∧ (∀ a, a < r.2.2 → ∀ b, b < r.2.2 → a ≠ b → (r.2.1 a).2.1 ≠ (r.2.1 b).2.1) ∧ (∀ k, k < r.2.2 → parseFieldDescriptor (r.2.1 k).2.2.1 = some (g_ty ci k)) ∧ r.2.2 = g_nf ci := by
  match ci, h with
  | 0, h => cases h; exact ⟨inX0, nmX0, tyX0_ok, rfl⟩
  | 1, h => cases h; exact ⟨inX1, nmX1, tyX1_ok, rfl⟩
  | 2, h => cases h; exact ⟨inX2, nmX2, tyX2_ok, rfl⟩
  | 3, h => cases h; exact ⟨inX3, nmX3, tyX3_ok, rfl⟩
  | 4, h => cases h; exact ⟨inX4, nmX4, tyX4_ok, rfl⟩
  | 5, h => cases h; exact ⟨inX5, nmX5, tyX5_ok, rfl⟩
  | 6, h => cases h; exact ⟨inX6, nmX6, tyX6_ok, rfl⟩
  | 7, h => cases h; exact ⟨inX7, nmX7, tyX7_ok, rfl⟩
  | k + 8, h => simp [g_cl] at h
theorem g_uws {C : String} {T : u_T} {N : Nat} (h : ∀ w ∈ u_ws C T N, w ∈ lw_tbl) : ∀ w ∈ u_ws C T N, w ∈ g_t := fun w hw => List.mem_filter.mpr ⟨h w hw, by
  obtain ⟨k, -, rfl⟩ := List.mem_map.mp hw
  unfold u_lay
  split <;> rfl⟩
/-- an object's field -/
def g_f (G : gG) (I : gI) (R : gR) (k ci j : Nat) : Value := if g_rt (g_ty ci j) = true then va_rf ((R k j).map (G.1.size + ·)) else .int (I k j)
/-- a cell of a kind: (0, class), (1, n) int[n], (2, n) byte[n], (3, n) long[n], (4, n) Scene[n], (5, n) Law[n] -/
def g_e (G : gG) (I : gI) (R : gR) (L : gL) (k : Nat) (x : Nat × Nat) : va_E := match x.1 with
  | 0 => .inr (x.2, (List.range (g_nf x.2)).map (g_f G I R k x.2))
  | 1 => .inl (G.2.2.1 0, x.2, .inl (I k))
  | 2 => .inl (G.2.2.1 1, x.2, .inl (I k))
  | 3 => .inl (G.2.2.1 2, x.2, .inr (.inl (L k)))
  | c + 4 => .inl (G.2.2.1 (c + 3), x.2, .inr (.inr (.inr (.inr (fun j => (R k j).map (G.1.size + ·))))))
def g_W (G : gG) (S : gS) (I : gI) (R : gR) (L : gL) : va_W := S.mapIdx (fun k x => (G.1.size + k, g_e G I R L k x))
def g_A (G : gG) : Nat → Prop := fun q => G.1.size ≤ q
theorem g_W_at {G : gG} {S : gS} {I : gI} {R : gR} {L : gL} {k : Nat} {x : Nat × Nat} (h : S[k]? = some x) : (g_W G S I R L)[k]? = some (G.1.size + k, g_e G I R L k x) := by
  simp [g_W, List.getElem?_mapIdx, h]
theorem g_W_of {G : gG} {S : gS} {I : gI} {R : gR} {L : gL} {k : Nat} {q : Nat × va_E} (h : (g_W G S I R L)[k]? = some q) : ∃ x, S[k]? = some x ∧ q = (G.1.size + k, g_e G I R L k x) := by
  simp only [g_W, List.getElem?_mapIdx] at h
  cases hx : S[k]? with
  | none => rw [hx] at h; cases h
  | some x => rw [hx] at h; exact ⟨x, rfl, (Option.some.inj h).symm⟩
theorem g_D {G : gG} {S : gS} {I : gI} {R : gR} {L : gL} : va_D (g_A G) (g_W G S I R L) := by
  refine ⟨fun i j p q hi hj h => ?_, fun k q h => ?_⟩
  · obtain ⟨x, -, rfl⟩ := g_W_of hi
    obtain ⟨y, -, rfl⟩ := g_W_of hj
    have h : G.1.size + i = G.1.size + j := h
    omega
  · obtain ⟨x, -, rfl⟩ := g_W_of h
    exact Nat.le_add_right _ _
/-- one cell set anew -/
theorem g_W_set {G : gG} {S : gS} {I I' : gI} {R R' : gR} {L L' : gL} {k : Nat} {x : Nat × Nat} (h : S[k]? = some x) (hI : ∀ c, c ≠ k → I' c = I c) (hR : ∀ c, c ≠ k → R' c = R c) (hL : ∀ c, c ≠ k → L' c = L c) : (g_W G S I R L).set k (G.1.size + k, g_e G I' R' L' k x) = g_W G S I' R' L' := by
  apply List.ext_getElem?
  intro j
  have hl : k < (g_W G S I R L).length := (List.getElem?_eq_some_iff.mp (g_W_at (G := G) (I := I) (R := R) (L := L) h)).1
  by_cases hj : j = k
  · subst hj
    rw [List.getElem?_set_self hl, g_W_at h]
  · rw [List.getElem?_set_ne (Ne.symm hj)]
    simp only [g_W, List.getElem?_mapIdx]
    cases S[j]? with
    | none => rfl
    | some y =>
      have e : g_e G I R L j y = g_e G I' R' L' j y := by
        obtain ⟨y1, y2⟩ := y
        unfold g_e
        have ef : g_f G I R j = g_f G I' R' j := by
          funext ci z
          simp only [g_f, hI j hj, hR j hj]
        match y1 with
        | 0 => simp only [ef]
        | 1 => simp only [hI j hj]
        | 2 => simp only [hI j hj]
        | 3 => simp only [hL j hj]
        | c + 4 => simp only [hR j hj]
      simp [e]
def g_tys (G : gG) : List (ClassId × FieldType) := [(G.2.2.1 0, .int), (G.2.2.1 1, .byte), (G.2.2.1 2, .long), (G.2.2.1 3, .object "SpoonScales$Scene"), (G.2.2.1 4, .object "SpoonScales$Law")]
def g_no : List Int32 := [255, 15, 3968]
def g_ch : List Int32 := [1, 0, 0, 0, 0, 0, 0, 1, 1, 0, 0, 0, 0, 0, 1, 2, 1, 0, 0, 0, 0, 1, 3, 3, 1, 0, 0, 0, 1, 4, 6, 4, 1, 0, 0, 1, 5, 10, 10, 5, 1, 0, 1, 6, 15, 20, 15, 6, 1]
def g_sn : List Nat := [129, 11]
def g_sb : List (List Int32) := [[101, 97, 116, 115, 32, 104, 111, 108, 100, 115, 32, 103, 117, 105, 108, 116, 121, 32, 115, 105, 116, 32, 115, 112, 111, 111, 110, 32, 106, 117, 100, 103, 101, 32, 102, 108, 105, 101, 115, 32, 97, 116, 32, 111, 102, 32, 111, 114, 32, 97, 110, 100, 32, 110, 111, 116, 32, 101, 97, 116, 101, 114, 32, 104, 117, 110, 103, 101, 114, 32, 115, 116, 111, 109, 97, 99, 104, 115, 32, 101, 97, 116, 101, 110, 32, 107, 105, 110, 100, 32, 108, 101, 102, 116, 32, 115, 112, 111, 111, 110, 115, 32, 115, 105, 100, 101, 32, 116, 105, 108, 116, 32, 104, 111, 110, 101, 121, 32, 115, 97, 108, 116, 32, 100, 101, 110, 116, 115, 32], [60, 62, 61, 35, 43, 45, 42, 47, 40, 41, 59]]
def g_s1 : String := "eats holds guilty sit spoon judge flies at of or and not eater hunger stomachs eaten kind left spoons side tilt honey salt dents "
def g_s2 : String := "<>=#+-*/();"
/-- the things outside: 0 the script, 1 NAMES_OF, 2 CHOOSE, 3 and 4 the two texts, 5 and 6 their bytes, 7 a thing that is only handed on (it may be null) -/
def g_X (G : gG) (U : State) : Prop :=
  va_X (G.2.2.2.1 0) G.2.2.2.2.1 G.2.2.2.2.2 U G.1 ∧ G.2.2.2.1 0 < G.1.size ∧
  va_Z "SpoonScales" "NAMES_OF" "[I" (.ref (G.2.2.2.1 1)) (g_A G) U G.1 ∧ va_T .int (G.2.2.2.1 1) 3 (fun j => .int (g_no.getD j 0)) (g_A G) U G.1 ∧
  va_Z "SpoonScales" "CHOOSE" "[I" (.ref (G.2.2.2.1 2)) (g_A G) U G.1 ∧ va_T .int (G.2.2.2.1 2) 49 (fun j => .int (g_ch.getD j 0)) (g_A G) U G.1 ∧
  vk_R "SpoonScales$Reader" 75 g_s1 (G.2.2.2.1 3) U ∧ vk_R "SpoonScales$Reader" 90 g_s2 (G.2.2.2.1 4) U ∧
  vk_S 2 g_sn g_sb (fun i => G.2.2.2.1 (i + 3)) (fun i => G.2.2.2.1 (i + 5)) (g_A G) U G.1 ∧
  va_Z "java/lang/String" "COMPACT_STRINGS" "Z" (.int 1) (g_A G) U G.1 ∧
  va_Nw (.fieldLinkNest "SpoonScales$Reader" 166 "SpoonScales" "NAMES_OF" "[I" "SpoonScales") U ∧
  va_AO "SpoonScales$Scene" U ∧ va_AO "SpoonScales$Law" U ∧
  (va_Z "jdk/internal/util/Preconditions" "SIOOBE_FORMATTER" "Ljava/util/function/BiFunction;" .null (g_A G) U G.1 ∨ va_Z "jdk/internal/util/Preconditions" "SIOOBE_FORMATTER" "Ljava/util/function/BiFunction;" (.ref (G.2.2.2.1 7)) (g_A G) U G.1)
def g_K (G : gG) (U : State) : Prop := va_K G.2.1 g_cl (g_tys G) U ∧ g_X G U
theorem g_K.warm {G : gG} {s U : State} (hW : s.WarmedH U.vm) (h : g_K G s) : g_K G U := by
  obtain ⟨hK, h1, h2, h3, h4, h5, h6, h7, h8, h9, h10, h11, h12, h13, h14⟩ := h
  have hv : s.vm.Alike U.vm := hW.alike
  exact ⟨va_K.moved hv hK, va_X.moved hv h1, h2, va_Z.moved hv h3, va_T.moved hv h4, va_Z.moved hv h5, va_T.moved hv h6, vk_R.warm hW h7, vk_R.warm hW h8, vk_S.moved hv h9, va_Z.moved hv h10, va_Nw.warmF hW h11, va_AO.moved hv h12, va_AO.moved hv h13, h14.imp (va_Z.moved hv) (va_Z.moved hv)⟩
theorem g_K.same {G : gG} {s U : State} (hv : U.vm = s.vm) (h : g_K G s) : g_K G U := by
  obtain ⟨hK, h1, h2, h3, h4, h5, h6, h7, h8, h9, h10, h11, h12, h13, h14⟩ := h
  have hA : s.vm.Alike U.vm := by rw [hv]; exact Vm.Alike.refl _
  exact ⟨va_K.moved hA hK, va_X.moved hA h1, h2, va_Z.moved hA h3, va_T.moved hA h4, va_Z.moved hA h5, va_T.moved hA h6, vk_R.same hv h7, vk_R.same hv h8, vk_S.moved hA h9, va_Z.moved hA h10, va_Nw.same rfl hv.symm h11, va_AO.moved hA h12, va_AO.moved hA h13, h14.imp (va_Z.moved hA) (va_Z.moved hA)⟩
/-- locals -/
def g_L (G : gG) (lsA : Array Slot) (n : Nat) (ls : List (Option Value)) : Prop := lsA.size = n ∧ lv_wf lsA ∧ ∀ (k : Nat) (v : Value), ls[k]? = some (some v) → lsA[k]? = some (.val (cv G v))
def g_C (μ : gm) (G : gG) (p : Program) (s : State) (m : MethodId) (args : Array Value) (meth : Method) (c : Code) : Prop :=
  p.tables.exec = Jvm.exec ∧ c.code = μ.2.1 ∧ c.maxLocals = μ.2.2.1 ∧ meth.sig.returnType = μ.2.2.2 ∧ meth.locks = false ∧ s.vm.findClass μ.1.cls = some m.cls ∧ (∀ w ∈ g_t, w.before args s = true) ∧ meth.name = μ.1.name ∧ g_K G s ∧ va_S (g_A G) G.1 s.heap []
def g_q (G : gG) (Q : gQ) (mc : Nat) : Array Value → State → Outcome → State → Prop := fun _ s o t => ∃ (r : Option Value) (S : gS) (I : gI) (R : gR) (L : gL), o = .returned (r.map (cv G)) ∧ Q r S I R L ∧ va_P G.2.1 g_cl (g_W G S I R L) t.heap ∧ va_S (g_A G) G.1 t.heap [] ∧ s.heap.size + mc = G.1.size + S.length
def g_Z (μ : gm) (d rc rs : Nat) (ls : List (Option Value)) (S : gS) (I : gI) (R : gR) (L : gL) (G : gG) (p : Program) (RM : Room) (s : State) (m : MethodId) (args : Array Value) (meth : Method) (c : Code) (H : Heap) (locs : List Loc) (cells slots mc ms : Nat) (lsA : Array Slot) : Prop :=
  g_C μ G p s m args meth c ∧ (d ≤ RM.frames ∧ 64 * d ≤ RM.locals ∧ mc ≤ RM.cells ∧ ms ≤ RM.slots) ∧ (cells + rc = mc ∧ slots + rs ≤ ms ∧ s.heap.size + cells = G.1.size + S.length) ∧ va_P G.2.1 g_cl (g_W G S I R L) H ∧ va_S (g_A G) G.1 H locs ∧ g_L G lsA μ.2.2.1 ls
/-- from here, in this world, the method comes to its end with Q; d frames are left below it, rc cells and rs slots may be made yet -/
def Go (G : gG) (μ : gm) (d rc rs pc : Nat) (ls : List (Option Value)) (st : List Value) (S : gS) (I : gI) (R : gR) (L : gL) (Q : gQ) : Prop :=
  ∀ (l : Launch) (p : Program) (e : Env) (RM : Room) (s : State) (m : MethodId) (args : Array Value) (below : List Frame) (meth : Method) (c : Code) (H : Heap) (locs : List Loc) (cells slots mc ms : Nat) (lsA : Array Slot),
    g_Z μ d rc rs ls S I R L G p RM s m args meth c H locs cells slots mc ms lsA →
    W p l e RM s m args below meth c H locs cells slots (MQ below (g_q G Q mc) args s mc ms (g_A G)) (F0 m pc lsA (st.map (cv G)))
def g_w (μ : gm) : List Cond := Cond.code μ.1 μ.2.1 μ.2.2.1 μ.2.2.2 :: g_t
def g_P (G : gG) (as : List Value) (S : gS) (I : gI) (R : gR) (L : gL) : Array Value → State → Prop := fun v U => v = (as.map (cv G)).toArray ∧ U.heap.size = G.1.size + S.length ∧ va_P G.2.1 g_cl (g_W G S I R L) U.heap ∧ va_S (g_A G) G.1 U.heap [] ∧ g_K G U
/-- a method's contract: called in this world it comes back with Q -/
def Mt (G : gG) (μ : gm) (d rc rs : Nat) (as : List Value) (S : gS) (I : gI) (R : gR) (L : gL) (Q : gQ) : Prop :=
  ∀ (l : Launch), Met l μ.1 (g_w μ) { frames := d, cells := rc, slots := rs, locals := 64 * d } (g_P G as S I R L) (g_q G Q rc) rc rs (g_A G)
/-- the locals at the entry -/
def g_i : List Value → List (Option Value)
  | [] => []
  | v :: r => match v with
    | .long x => some (.long x) :: none :: g_i r
    | .double x => some (.double x) :: none :: g_i r
    | v => some v :: g_i r
def g_n (as : List Value) (n : Nat) : List (Option Value) := g_i as ++ List.replicate (n - (g_i as).length) none
theorem g_i_len (G : gG) (as : List Value) : (lg_sl (as.map (cv G))).length = (g_i as).length := by
  induction as with
  | nil => rfl
  | cons v t ih =>
    have e : lg_sl ((v :: t).map (cv G)) = (if (cv G v).category = 2 then [.val (cv G v), .second] else [.val (cv G v)]) ++ lg_sl (t.map (cv G)) := by simp [lg_sl]
    rw [e, List.length_append, ih]
    cases v <;> simp [g_i, cv, Value.category] <;> omega
theorem g_i_at (G : gG) (as : List Value) : ∀ (k : Nat) (v : Value), (g_i as)[k]? = some (some v) → (lg_sl (as.map (cv G)))[k]? = some (.val (cv G v)) := by
  induction as with
  | nil => intro k v h; simp [g_i] at h
  | cons a t ih =>
    intro k v h
    have e : lg_sl ((a :: t).map (cv G)) = (if (cv G a).category = 2 then [.val (cv G a), .second] else [.val (cv G a)]) ++ lg_sl (t.map (cv G)) := by simp [lg_sl]
    rw [e]
    cases a <;> simp only [g_i, cv, Value.category] at h ⊢ <;>
      (rcases k with _ | k
       · first | (simp at h; subst h; simp [cv]) | (simp at h)
       · first
         | (rcases k with _ | k
            · simp at h
            · simp at h; simpa [cv] using ih k v h)
         | (simp at h; simpa [cv] using ih k v h))
theorem go_start {G : gG} {μ : gm} {d rc rs : Nat} {as : List Value} {S : gS} {I : gI} {R : gR} {L : gL} {Q : gQ} {ls : List (Option Value)} (hp : plainName μ.1.cls = true) (hl : (g_i as).length ≤ μ.2.2.1) (he : g_n as μ.2.2.1 = ls) (k : Go G μ d rc rs 0 ls [] S I R L Q) : Mt G μ d rc rs as S I R L Q := by
  subst he
  intro l
  refine Met.ofW (cc := μ.2.1) (maxL := μ.2.2.1) (ret := μ.2.2.2) (ws' := g_t) hp rfl ?_
  intro p e s m args below meth c s₁ B hml hv
  obtain ⟨rfl, hsz, hP, hS, hK⟩ := hv
  have hts := atoms_spec (ws := g_w μ) B.pre
  have hn := lv_entry (as.map (cv G)) (n := μ.2.2.1) (by rw [g_i_len]; exact hl)
  rw [lg_entry_eq]
  refine k l p e _ s m _ below meth c s.heap [] 0 0 rc rs _ ⟨⟨B.exec, B.bytes, hml, B.returns, B.notSynchronized, findClass_of_methodNamed B.named, fun w hw => hts w (List.mem_cons_of_mem _ hw), (name_of_methodNamed B.named B.method).1, hK, hS⟩, ⟨Nat.le_refl _, Nat.le_refl _, Nat.le_refl _, Nat.le_refl _⟩, ⟨Nat.zero_add _, by omega, hsz⟩, hP, hS, hn.1, hn.2.1, fun i v hi => ?_⟩
  have hi2 : i < (g_i as).length := by
    rcases Nat.lt_or_ge i (g_i as).length with h | h
    · exact h
    · rw [g_n, List.getElem?_append_right h, List.getElem?_replicate] at hi
      split at hi <;> simp at hi
  rw [g_n, List.getElem?_append_left hi2] at hi
  have h3 := g_i_at G as i v hi
  rw [List.getElem?_toArray, List.getElem?_append_left (by rw [g_i_len]; exact hi2)]
  exact h3
