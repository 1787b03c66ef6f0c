/-! the GO rows that make cells, call methods, and read what lies outside -/
section GN
variable {G : gG} {μ : gm} {d rc rs pc : Nat} {ls : List (Option Value)} {st : List Value} {S : gS} {I : gI} {R : gR} {L : gL} {Q : gQ}
theorem g_W_app {G : gG} (x : Nat × Nat) : g_W G (S ++ [x]) I R L = g_W G S I R L ++ [(G.1.size + S.length, g_e G I R L S.length x)] := by
  simp [g_W, List.mapIdx_concat]
theorem g_P_app {G : gG} {H H1 : Heap} {x : Nat × Nat} (hP : va_P G.2.1 g_cl (g_W G S I R L) H) (hz : H.size = G.1.size + S.length) (ho : ∀ q, q < H.size → H1[q]? = H[q]?) (hn : va_at G.2.1 g_cl (G.1.size + S.length, g_e G I R L S.length x) H1) : va_P G.2.1 g_cl (g_W G (S ++ [x]) I R L) H1 := by
  rw [g_W_app]
  refine va_P.app (hP.kept (fun k q h => ho q.1 ((hP k q h).lt))) (fun k q h => ?_)
  have hk : k < 1 := (List.getElem?_eq_some_iff.mp h).1
  rw [show k = 0 by omega] at h
  cases h
  exact hn
theorem g_S_app {G : gG} {H H1 : Heap} {locs : List Loc} (hS : va_S (g_A G) G.1 H locs) (z : H.size ≤ H1.size) (ho : ∀ q, q < H.size → H1[q]? = H[q]?) : va_S (g_A G) G.1 H1 locs :=
  ⟨Nat.le_trans hS.1 z, fun q h1 h2 => (ho q (Nat.lt_of_lt_of_le h1 hS.1)).trans (hS.2.1 q h1 h2), hS.2.2⟩
theorem go_new {ci idx N : Nat} {C : String} (hd : decode μ.2.1 pc = .ok (.new idx, 3)) (hc : ∃ T, g_cl[ci]? = some (C, T, N)) (hw1 : Cond.classLink μ.1.cls idx C ∈ g_t) (hw2 : Cond.instantiable C N ∈ g_t) (hw3 : Cond.initialized C ∈ g_t) (hI : ∀ j, I S.length j = 0) (hR : ∀ j, R S.length j = none)
    (hdef : ∀ j, j < N → defaultValue (g_ty ci j) = if g_rt (g_ty ci j) = true then .null else .int 0)
    (kk : Go G μ d rc rs (pc + 3) ls (.ref S.length :: st) (S ++ [(0, ci)]) I R L Q) : Go G μ d (rc + 1) (rs + N) pc ls st S I R L Q := by
  intro l p e RM s m args below meth c H locs cells slots mc ms lsA Z
  obtain ⟨hC, hRM, ⟨h1, h2, h3⟩, hP, hS, hL⟩ := Z
  obtain ⟨T, hr⟩ := hc
  obtain ⟨c1, c2, c3, c4⟩ := g_cls hr
  have hKn := hC.2.2.2.2.2.2.2.2.1.1.1 ci _ hr
  refine g_size h3 hP hS fun hz => ?_
  refine W.newcK hC.1 hC.2.1 hC.2.2.2.2.2.1 (hC.2.2.2.2.2.2.1 _ hw1) (hC.2.2.2.2.2.2.1 _ hw2) (hC.2.2.2.2.2.2.1 _ hw3) rfl hd (by omega) (by omega) hKn.2.1 hz fun H1 kC hkC e1 z1 o1 => ?_
  have hO := u_born (g_ty ci) hC.2.2.2.2.2.2.1 (g_uws c1) hKn hkC e1 c3
  refine kk l p e RM s m args below meth c H1 locs (cells + 1) (slots + N) mc ms lsA ⟨hC, hRM, ⟨by omega, by omega, by simp; omega⟩, g_P_app hP hz (fun q hq => o1 q (by omega)) ⟨_, hr, hO.to (fun k hk => ?_)⟩, g_S_app hS (by omega) (fun q hq => o1 q (by omega)), hL⟩
  have hk2 : k < g_nf ci := by have h : N = g_nf ci := c4; have hk : k < N := hk; omega
  show _ = vp_V ((List.range (g_nf ci)).map (g_f G I R S.length ci)) k
  rw [hdef k hk]
  simp [vp_V, hk2, g_f, hI, hR, va_rf]
theorem g_arrK {G : gG} {s : State} (hK : va_K G.2.1 g_cl (g_tys G) s) {k : Nat} {ty : FieldType} (hk : (g_tys G)[k]? = some (G.2.2.1 k, ty)) (hp : ∀ C, ty ≠ .object C) : s.vm.findClass ("[" ++ ty.toString) = some (G.2.2.1 k) := by
  have h := (hK.2 k _ hk).2
  cases ty <;> first | exact h | exact absurd rfl (hp _)
theorem go_newI {n : Int32} {N : Nat} (hd : decode μ.2.1 pc = .ok (.newarray .int, 2)) (hw : Cond.arrayClass .int ∈ g_t) (hn : ¬ n < 0) (hN : n.toNatClampNeg = N) (hb : N * 4 ≤ 536870912) (hI : ∀ j, I S.length j = 0) (kk : Go G μ d rc rs (pc + 2) ls (.ref S.length :: st) (S ++ [(1, N)]) I R L Q) : Go G μ d (rc + 1) (rs + N) pc ls (.int n :: st) S I R L Q := by
  intro l p e RM s m args below meth c H locs cells slots mc ms lsA Z
  obtain ⟨hC, hRM, ⟨h1, h2, h3⟩, hP, hS, hL⟩ := Z
  refine g_size h3 hP hS fun hz => ?_
  refine va_newaK (atype := .int) hC.1 hC.2.1 (hC.2.2.2.2.2.2.1 _ hw) rfl hd rfl hn hN hb (by omega) (by omega) hz fun H1 cA e1 z1 o1 hA hf => ?_
  have ec : cA = G.2.2.1 0 := Option.some.inj (hf.symm.trans (g_arrK hC.2.2.2.2.2.2.2.2.1.1 (k := 0) rfl (fun _ h => by cases h)))
  subst ec
  refine kk l p e RM s m args below meth c H1 locs (cells + 1) (slots + N) mc ms lsA ⟨hC, hRM, ⟨by omega, by omega, by simp; omega⟩, g_P_app hP hz (fun q hq => o1 q (by omega)) ?_, g_S_app hS (by omega) (fun q hq => o1 q (by omega)), hL⟩
  show H1[G.1.size + S.length]? = some (vp_cell _ _)
  rw [e1, vp_cell_i]
  congr 2
  funext j
  rw [hI j]
  rfl
theorem go_newB {n : Int32} {N : Nat} (hd : decode μ.2.1 pc = .ok (.newarray .byte, 2)) (hw : Cond.arrayClass .byte ∈ g_t) (hn : ¬ n < 0) (hN : n.toNatClampNeg = N) (hb : N * 1 ≤ 536870912) (hI : ∀ j, I S.length j = 0) (kk : Go G μ d rc rs (pc + 2) ls (.ref S.length :: st) (S ++ [(2, N)]) I R L Q) : Go G μ d (rc + 1) (rs + N) pc ls (.int n :: st) S I R L Q := by
  intro l p e RM s m args below meth c H locs cells slots mc ms lsA Z
  obtain ⟨hC, hRM, ⟨h1, h2, h3⟩, hP, hS, hL⟩ := Z
  refine g_size h3 hP hS fun hz => ?_
  refine va_newaK (atype := .byte) hC.1 hC.2.1 (hC.2.2.2.2.2.2.1 _ hw) rfl hd rfl hn hN hb (by omega) (by omega) hz fun H1 cA e1 z1 o1 hA hf => ?_
  have ec : cA = G.2.2.1 1 := Option.some.inj (hf.symm.trans (g_arrK hC.2.2.2.2.2.2.2.2.1.1 (k := 1) rfl (fun _ h => by cases h)))
  subst ec
  refine kk l p e RM s m args below meth c H1 locs (cells + 1) (slots + N) mc ms lsA ⟨hC, hRM, ⟨by omega, by omega, by simp; omega⟩, g_P_app hP hz (fun q hq => o1 q (by omega)) ?_, g_S_app hS (by omega) (fun q hq => o1 q (by omega)), hL⟩
  show H1[G.1.size + S.length]? = some (vp_cell _ _)
  rw [e1, vp_cell_i]
  congr 2
  funext j
  rw [hI j]
  rfl
theorem go_newL {n : Int32} {N : Nat} (hd : decode μ.2.1 pc = .ok (.newarray .long, 2)) (hw : Cond.arrayClass .long ∈ g_t) (hn : ¬ n < 0) (hN : n.toNatClampNeg = N) (hb : N * 8 ≤ 536870912) (hI : ∀ j, L S.length j = 0) (kk : Go G μ d rc rs (pc + 2) ls (.ref S.length :: st) (S ++ [(3, N)]) I R L Q) : Go G μ d (rc + 1) (rs + N) pc ls (.int n :: st) S I R L Q := by
  intro l p e RM s m args below meth c H locs cells slots mc ms lsA Z
  obtain ⟨hC, hRM, ⟨h1, h2, h3⟩, hP, hS, hL⟩ := Z
  refine g_size h3 hP hS fun hz => ?_
  refine va_newaK (atype := .long) hC.1 hC.2.1 (hC.2.2.2.2.2.2.1 _ hw) rfl hd rfl hn hN hb (by omega) (by omega) hz fun H1 cA e1 z1 o1 hA hf => ?_
  have ec : cA = G.2.2.1 2 := Option.some.inj (hf.symm.trans (g_arrK hC.2.2.2.2.2.2.2.2.1.1 (k := 2) rfl (fun _ h => by cases h)))
  subst ec
  refine kk l p e RM s m args below meth c H1 locs (cells + 1) (slots + N) mc ms lsA ⟨hC, hRM, ⟨by omega, by omega, by simp; omega⟩, g_P_app hP hz (fun q hq => o1 q (by omega)) ?_, g_S_app hS (by omega) (fun q hq => o1 q (by omega)), hL⟩
  show H1[G.1.size + S.length]? = some (vp_cell _ _)
  rw [e1, vp_cell_l]
  congr 2
  funext j
  rw [hI j]
  rfl
theorem go_newA {κ idx : Nat} {C : String} {n : Int32} {N : Nat} (hd : decode μ.2.1 pc = .ok (.anewarray idx, 3)) (hw : Cond.classLink μ.1.cls idx C ∈ g_t) (ht : ∀ G : gG, (g_tys G)[κ + 3]? = some (G.2.2.1 (κ + 3), .object C)) (hO : ∀ (G : gG) (U : State), g_X G U → va_AO C U) (hn : ¬ n < 0) (hN : n.toNatClampNeg = N) (hb : N * 4 ≤ 536870912) (hR : ∀ j, R S.length j = none) (kk : Go G μ d rc rs (pc + 3) ls (.ref S.length :: st) (S ++ [(κ + 4, N)]) I R L Q) : Go G μ d (rc + 1) (rs + N) pc ls (.int n :: st) S I R L Q := by
  intro l p e RM s m args below meth c H locs cells slots mc ms lsA Z
  obtain ⟨hC, hRM, ⟨h1, h2, h3⟩, hP, hS, hL⟩ := Z
  subst hN
  refine g_size h3 hP hS fun hz => ?_
  refine W.anew hC.1 hC.2.1 hC.2.2.2.2.2.1 (hC.2.2.2.2.2.2.1 _ hw) (va_AO.use (hO G s hC.2.2.2.2.2.2.2.2.1.2)) rfl hd rfl hn hb (by omega) (by omega) fun cA kA comp f1 f2 f3 f4 => ?_
  obtain ⟨kA', comp', -, -, -, g4⟩ := (hC.2.2.2.2.2.2.2.2.1.1.2 _ _ (ht G)).2
  have ec : cA = G.2.2.1 (κ + 3) := Option.some.inj (f1.symm.trans g4)
  subst ec
  have ho : ∀ q : Nat, q < H.size → (H.push ({ cls := G.2.2.1 (κ + 3), slots := Array.replicate n.toNatClampNeg .null, vm := .none } : Cell))[q]? = H[q]? := fun q hq => by rw [Array.getElem?_push, if_neg (Nat.ne_of_lt hq)]
  have k2 := kk l p e RM s m args below meth c (H.push ({ cls := G.2.2.1 (κ + 3), slots := Array.replicate n.toNatClampNeg .null, vm := .none } : Cell)) locs (cells + 1) (slots + n.toNatClampNeg) mc ms lsA ⟨hC, hRM, ⟨by omega, by omega, by simp; omega⟩, g_P_app hP hz ho ?_, g_S_app hS (by simp) ho, hL⟩
  · refine W.eq ?_ k2
    simp only [hz]
    rfl
  · show (H.push _)[G.1.size + S.length]? = some (vp_cell _ _)
    rw [← hz, Array.getElem?_push_size, arrV_new, vp_cell_q]
    congr 2
    funext j
    simp [hR j, va_rf]
/-! calls -/
def g_Y (ν : gm) (n : Nat) : Prop := Cond.code ν.1 ν.2.1 ν.2.2.1 ν.2.2.2 ∈ g_t ∧ Cond.initialized ν.1.cls ∈ g_t ∧ (ν.1.cls ≠ "java/lang/invoke/MethodHandle" ∧ ν.1.cls ≠ "java/lang/invoke/VarHandle") ∧ (parseMethodDescriptor ν.1.desc).map (fun d => d.parameters.length) = some n ∧ ν.2.2.1 ≤ 45
def g_YV (ν : gm) (n : Nat) : Prop := g_Y ν n ∧ Cond.instanceMethod ν.1 ∈ g_t ∧ Cond.selects ν.1.cls ν.1 ν.1 ∈ g_t
def g_YS (ν : gm) (n : Nat) : Prop := g_Y ν n ∧ Cond.static ν.1 ∈ g_t
def g_YI (ν : gm) (n : Nat) : Prop := g_Y ν n ∧ Cond.instanceMethod ν.1 ∈ g_t ∧ ν.1.name = "<init>" ∧ ν.2.2.2 = none
theorem g_callB {G : gG} {ν : gm} {n dd rc2 rs2 idx : Nat} {p : Program} {RM : Room} {s : State} {m : MethodId} {args : Array Value} {meth : Method} {c : Code} (hC : g_C μ G p s m args meth c) (hRM : d ≤ RM.frames ∧ 64 * d ≤ RM.locals) (hY : g_Y ν n) (hl : Cond.methodLink μ.1.cls idx ν.1 ∈ g_t) (hdd : dd + 1 ≤ d) : CallB RM s args μ.1.cls idx ν.1 ν.2.1 ν.2.2.1 ν.2.2.2 (g_w ν) { frames := dd, cells := rc2, slots := rs2, locals := 64 * dd } rc2 rs2 n := by
  obtain ⟨y1, y2, y3, y4, y5⟩ := hY
  have hts := hC.2.2.2.2.2.2.1
  refine callB_of n hts (fun w hw => ?_) rfl rfl rfl (hts _ y2) (hts _ hl) ⟨y3.1, y3.2, y4⟩ ⟨by show dd + 1 ≤ _; omega, by show 8 + (ν.2.2.1 + 11) + 64 * dd ≤ _; omega⟩
  rcases List.mem_cons.mp hw with rfl | h
  · exact ⟨y1, Or.inl rfl⟩
  · exact ⟨h, good_of_word (List.mem_filter.mp h).2⟩
theorem g_blind {G : gG} {as : List Value} : FrameBlind (g_P G as S I R L) := fun a U g mk q => ⟨q.1, q.2.1, q.2.2.1, q.2.2.2.1, g_K.same (s := U) rfl q.2.2.2.2⟩
theorem g_run {G : gG} {p : Program} {l : Launch} {e : Env} {RM : Room} {s : State} {m : MethodId} {args : Array Value} {below : List Frame} {meth : Method} {c : Code} {H : Heap} {locs : List Loc} {cells slots mc ms rc2 rs2 : Nat} {lsA : Array Slot} {st0 : List Value} {a : Array Value}
    (Z : g_Z μ d (rc + rc2) (rs + rs2) ls S I R L G p RM s m args meth c H locs cells slots mc ms lsA) (hz : H.size = G.1.size + S.length)
    (hr : va_Run p l e RM s m args below meth c H locs cells slots rc2 rs2 (F0 m pc lsA st0) (st.map (cv G)) (g_q G (fun r S' I' R' L' => Go G μ d rc rs (pc + 3) ls (r.toList ++ st) S' I' R' L' Q) rc2 a) (g_A G)) :
    W p l e RM s m args below meth c H locs cells slots (MQ below (g_q G Q mc) args s mc ms (g_A G)) (F0 m pc lsA st0) := by
  intro T hT X
  obtain ⟨v, st₀, t, T', Lc, h0, X', hL, e1, e2, ⟨r, S', I', R', L', hv, hgo, hP', hS', hlen⟩, stp⟩ := hr T hT X
  cases hv
  obtain ⟨hC, hRM, ⟨h1, h2, h3⟩, hP, hS, hLs⟩ := Z
  rw [← e1] at hP' hS'
  rw [h0, hz] at hlen
  have k := hgo l p e RM s m args below meth c T'.heap (locs ++ Lc) (cells + rc2) (slots + rs2) mc ms lsA ⟨hC, hRM, ⟨by omega, by omega, by omega⟩, hP', ⟨hS'.1, hS'.2.1, fun q hq => by
    rcases List.mem_append.mp hq with h | h
    · exact hS.2.2 q h
    · exact hL q h⟩, hLs⟩
  obtain ⟨t2, a1, b1⟩ := k T' rfl X'
  refine ⟨t2, stp t2 ?_, b1⟩
  cases r with
  | none => exact a1
  | some z => exact a1
theorem go_callV {ν : gm} {n a ci idx dd rc2 rs2 : Nat} (as : List Value) (hd : decode μ.2.1 pc = .ok (.invokevirtual idx, 3)) (hY : g_YV ν n) (hl : Cond.methodLink μ.1.cls idx ν.1 ∈ g_t) (hs : S[a]? = some (0, ci)) (hc : ∃ r, g_cl[ci]? = some r ∧ r.1 = ν.1.cls) (hn : as.length = n) (hst : (st.map fun v => v.category).sum ≤ 8) (hdd : dd + 1 ≤ d) {st0 : List Value} (he : as.reverse ++ .ref a :: st = st0)
    (hM : Mt G ν dd rc2 rs2 (.ref a :: as) S I R L (fun r S' I' R' L' => Go G μ d rc rs (pc + 3) ls (r.toList ++ st) S' I' R' L' Q)) : Go G μ d (rc + rc2) (rs + rs2) pc ls st0 S I R L Q := by
  subst he
  intro l p e RM s m args below meth c H locs cells slots mc ms lsA Z
  have hC := Z.1
  refine g_size Z.2.2.1.2.2 Z.2.2.2.1 Z.2.2.2.2.1 fun hz => ?_
  obtain ⟨r, hr, hcn⟩ := hc
  have hts := hC.2.2.2.2.2.2.1
  have hcm : (as.map (cv G)).reverse ++ (.ref (G.1.size + a) :: st.map (cv G)) = (as.reverse ++ .ref a :: st).map (cv G) := by simp [cv]
  rw [← hcm]
  have hrecv := va_recv hC.2.2.2.2.2.2.2.2.1.1 Z.2.2.2.1 hr (g_W_at hs)
  rw [hcn] at hrecv
  refine g_run Z hz (va_runV (nL := μ.2.2.1) (C := ν.1.cls) (b := G.1.size + a) (n := n) (rest := st.map (cv G)) ⟨hC.1, hC.2.1, hC.2.2.1, hC.2.2.2.2.2.1, hts⟩ (hM l) ⟨g_callB hC ⟨Z.2.1.1, Z.2.1.2.1⟩ hY.1 hl hdd, hts _ hY.2.1, hts _ hY.2.2⟩ ⟨g_blind, hrecv, fun U hU hW => ⟨rfl, by rw [hU]; exact hz, by rw [hU]; exact Z.2.2.2.1, by rw [hU]; exact ⟨Z.2.2.2.2.1.1, Z.2.2.2.2.1.2.1, fun _ h => by cases h⟩, g_K.warm hW hC.2.2.2.2.2.2.2.2.1⟩⟩ rfl (by simpa using hn) Z.2.2.2.2.2.1 rfl (lv_room (by rw [cv_cats]; exact hst)) hd ⟨by have := Z.2.2.1.1; have := Z.2.1.2.2.1; omega, by have := Z.2.2.1.2.1; have := Z.2.1.2.2.2; omega⟩)
theorem go_callS {ν : gm} {n idx dd rc2 rs2 : Nat} (as : List Value) (hd : decode μ.2.1 pc = .ok (.invokestatic idx, 3)) (hY : g_YS ν n) (hl : Cond.methodLink μ.1.cls idx ν.1 ∈ g_t) (hn : as.length = n) (hst : (st.map fun v => v.category).sum ≤ 8) (hdd : dd + 1 ≤ d) {st0 : List Value} (he : as.reverse ++ st = st0)
    (hM : Mt G ν dd rc2 rs2 as S I R L (fun r S' I' R' L' => Go G μ d rc rs (pc + 3) ls (r.toList ++ st) S' I' R' L' Q)) : Go G μ d (rc + rc2) (rs + rs2) pc ls st0 S I R L Q := by
  subst he
  intro l p e RM s m args below meth c H locs cells slots mc ms lsA Z
  have hC := Z.1
  refine g_size Z.2.2.1.2.2 Z.2.2.2.1 Z.2.2.2.2.1 fun hz => ?_
  have hts := hC.2.2.2.2.2.2.1
  have hcm : (as.map (cv G)).reverse ++ st.map (cv G) = (as.reverse ++ st).map (cv G) := by simp
  rw [← hcm]
  refine g_run Z hz (va_runS (nL := μ.2.2.1) (n := n) (rest := st.map (cv G)) ⟨hC.1, hC.2.1, hC.2.2.1, hC.2.2.2.2.2.1, hts⟩ (hM l) ⟨g_callB hC ⟨Z.2.1.1, Z.2.1.2.1⟩ hY.1 hl hdd, hts _ hY.2⟩ ⟨g_blind, fun U hU hW => ⟨rfl, by rw [hU]; exact hz, by rw [hU]; exact Z.2.2.2.1, by rw [hU]; exact ⟨Z.2.2.2.2.1.1, Z.2.2.2.2.1.2.1, fun _ h => by cases h⟩, g_K.warm hW hC.2.2.2.2.2.2.2.2.1⟩⟩ rfl (by simpa using hn) Z.2.2.2.2.2.1 rfl (lv_room (by rw [cv_cats]; exact hst)) hd ⟨by have := Z.2.2.1.1; have := Z.2.1.2.2.1; omega, by have := Z.2.2.1.2.1; have := Z.2.1.2.2.2; omega⟩)
theorem go_callI {ν : gm} {n a idx dd rc2 rs2 : Nat} (as : List Value) (hd : decode μ.2.1 pc = .ok (.invokespecial idx, 3)) (hY : g_YI ν n) (hl : Cond.methodLink μ.1.cls idx ν.1 ∈ g_t) (hn : as.length = n) (hst : (st.map fun v => v.category).sum ≤ 8) (hdd : dd + 1 ≤ d) {st0 : List Value} (he : as.reverse ++ .ref a :: st = st0)
    (hM : Mt G ν dd rc2 rs2 (.ref a :: as) S I R L (fun r S' I' R' L' => Go G μ d rc rs (pc + 3) ls (r.toList ++ st) S' I' R' L' Q)) : Go G μ d (rc + rc2) (rs + rs2) pc ls st0 S I R L Q := by
  subst he
  intro l p e RM s m args below meth c H locs cells slots mc ms lsA Z
  have hC := Z.1
  refine g_size Z.2.2.1.2.2 Z.2.2.2.1 Z.2.2.2.2.1 fun hz => ?_
  have hts := hC.2.2.2.2.2.2.1
  have hcm : (as.map (cv G)).reverse ++ (.ref (G.1.size + a) :: st.map (cv G)) = (as.reverse ++ .ref a :: st).map (cv G) := by simp [cv]
  rw [← hcm]
  have hB := g_callB (rc2 := rc2) (rs2 := rs2) hC ⟨Z.2.1.1, Z.2.1.2.1⟩ hY.1 hl hdd
  rw [hY.2.2.2] at hB
  refine g_run Z hz (va_runI (nL := μ.2.2.1) (b := G.1.size + a) (n := n) (rest := st.map (cv G)) ⟨hC.1, hC.2.1, hC.2.2.1, hC.2.2.2.2.2.1, hts⟩ (hM l) ⟨hB, hY.2.2.1, hts _ hY.2.1⟩ ⟨g_blind, fun U hU hW => ⟨rfl, by rw [hU]; exact hz, by rw [hU]; exact Z.2.2.2.1, by rw [hU]; exact ⟨Z.2.2.2.2.1.1, Z.2.2.2.2.1.2.1, fun _ h => by cases h⟩, g_K.warm hW hC.2.2.2.2.2.2.2.2.1⟩⟩ rfl (by simpa using hn) Z.2.2.2.2.2.1 rfl (lv_room (by rw [cv_cats]; exact hst)) hd ⟨by have := Z.2.2.1.1; have := Z.2.1.2.2.1; omega, by have := Z.2.2.1.2.1; have := Z.2.1.2.2.2; omega⟩)
theorem go_objInit {a idx : Nat} (hd : decode μ.2.1 pc = .ok (.invokespecial idx, 3)) (hl : Cond.methodLink μ.1.cls idx Lib.objectInit ∈ g_t) (h2 : Cond.instanceMethod Lib.objectInit ∈ g_t) (h3 : Cond.code Lib.objectInit ⟨#[0xb1]⟩ 1 none ∈ g_t) (hst : (st.map fun v => v.category).sum ≤ 8) (hdd : 1 ≤ d) (kk : Go G μ d rc rs (pc + 3) ls st S I R L Q) : Go G μ d rc rs pc ls (.ref a :: st) S I R L Q := by
  intro l p e RM s m args below meth c H locs cells slots mc ms lsA Z
  have hts := Z.1.2.2.2.2.2.2.1
  exact W.objInit (rest := st.map (cv G)) Z.1.1 Z.1.2.1 Z.1.2.2.2.2.2.1 (hts _ hl) (hts _ h2) (hts _ h3) rfl (Z.2.2.2.2.2.1.trans Z.1.2.2.1.symm) rfl hd (Nat.le_trans hdd Z.2.1.1) (by show 2 * 0 + _ + 12 ≤ _; rw [cv_cats]; have := Z.2.1.2.1; omega) (kk l p e RM s m args below meth c H locs cells slots mc ms lsA Z)
theorem go_mmax {x y : Int32} {idx : Nat} (hd : decode μ.2.1 pc = .ok (.invokestatic idx, 3)) (hl : Cond.methodLink μ.1.cls idx Lib.Math.max.name ∈ g_t) (h1 : Cond.static Lib.Math.max.name ∈ g_t) (h2 : Cond.initialized "java/lang/Math" ∈ g_t) (h3 : Cond.code Lib.Math.max.name Lib.Math.max.code 2 (some .int) ∈ g_t) (hst : (st.map fun v => v.category).sum ≤ 8) (hdd : 1 ≤ d) (kk : Go G μ d rc rs (pc + 3) ls (.int (if x < y then y else x) :: st) S I R L Q) : Go G μ d rc rs pc ls (.int y :: .int x :: st) S I R L Q := by
  intro l p e RM s m args below meth c H locs cells slots mc ms lsA Z
  have hts := Z.1.2.2.2.2.2.2.1
  exact va_mmax Z.1.1 Z.1.2.1 (Z.1.2.2.1.trans Z.2.2.2.2.2.1.symm) Z.1.2.2.2.2.2.1 (hts _ hl) (hts _ h1) (hts _ h2) (hts _ h3) (Nat.le_trans hdd Z.2.1.1) (by rw [cv_cats]; have := Z.2.1.2.1; omega) (by have := Z.2.2.1.1; have := Z.2.1.2.2.1; omega) (by have := Z.2.2.1.2.1; have := Z.2.1.2.2.2; omega) hd (kk l p e RM s m args below meth c H locs cells slots mc ms lsA Z)
theorem go_mmin {x y : Int32} {idx : Nat} (hd : decode μ.2.1 pc = .ok (.invokestatic idx, 3)) (hl : Cond.methodLink μ.1.cls idx Lib.Math.min.name ∈ g_t) (h1 : Cond.static Lib.Math.min.name ∈ g_t) (h2 : Cond.initialized "java/lang/Math" ∈ g_t) (h3 : Cond.code Lib.Math.min.name Lib.Math.min.code 2 (some .int) ∈ g_t) (hst : (st.map fun v => v.category).sum ≤ 8) (hdd : 1 ≤ d) (kk : Go G μ d rc rs (pc + 3) ls (.int (if y < x then y else x) :: st) S I R L Q) : Go G μ d rc rs pc ls (.int y :: .int x :: st) S I R L Q := by
  intro l p e RM s m args below meth c H locs cells slots mc ms lsA Z
  have hts := Z.1.2.2.2.2.2.2.1
  exact va_mmin Z.1.1 Z.1.2.1 (Z.1.2.2.1.trans Z.2.2.2.2.2.1.symm) Z.1.2.2.2.2.2.1 (hts _ hl) (hts _ h1) (hts _ h2) (hts _ h3) (Nat.le_trans hdd Z.2.1.1) (by rw [cv_cats]; have := Z.2.1.2.1; omega) (by have := Z.2.2.1.1; have := Z.2.1.2.2.1; omega) (by have := Z.2.2.1.2.1; have := Z.2.1.2.2.2; omega) hd (kk l p e RM s m args below meth c H locs cells slots mc ms lsA Z)
theorem go_mabs {x : Int32} {idx : Nat} (hd : decode μ.2.1 pc = .ok (.invokestatic idx, 3)) (hl : Cond.methodLink μ.1.cls idx Lib.Math.abs.name ∈ g_t) (h1 : Cond.static Lib.Math.abs.name ∈ g_t) (h2 : Cond.initialized "java/lang/Math" ∈ g_t) (h3 : Cond.code Lib.Math.abs.name Lib.Math.abs.code 1 (some .int) ∈ g_t) (hst : (st.map fun v => v.category).sum ≤ 8) (hdd : 1 ≤ d) (kk : Go G μ d rc rs (pc + 3) ls (.int (if 0 ≤ x then x else 0 - x) :: st) S I R L Q) : Go G μ d rc rs pc ls (.int x :: st) S I R L Q := by
  intro l p e RM s m args below meth c H locs cells slots mc ms lsA Z
  have hts := Z.1.2.2.2.2.2.2.1
  exact va_mabs Z.1.1 Z.1.2.1 (Z.1.2.2.1.trans Z.2.2.2.2.2.1.symm) Z.1.2.2.2.2.2.1 (hts _ hl) (hts _ h1) (hts _ h2) (hts _ h3) (Nat.le_trans hdd Z.2.1.1) (by rw [cv_cats]; have := Z.2.1.2.1; omega) (by have := Z.2.2.1.1; have := Z.2.1.2.2.1; omega) (by have := Z.2.2.1.2.1; have := Z.2.1.2.2.2; omega) hd (kk l p e RM s m args below meth c H locs cells slots mc ms lsA Z)
/-- a row of ints behind another's -/
def cpy (I : gI) (a c sp dp n : Nat) : gI := fun q => if q = c then va_cpy (I a) (I c) sp dp n else I q
theorem cpy_at (I : gI) (a c sp dp n k : Nat) : cpy I a c sp dp n c k = if dp ≤ k ∧ k < dp + n then I a (sp + (k - dp)) else I c k := by simp [cpy, va_cpy]
theorem cpy_off {I : gI} {a c sp dp n q : Nat} (h : q ≠ c) : cpy I a c sp dp n q = I q := by simp [cpy, h]
theorem go_copy {a c0 n0 n1 idx : Nat} {sp dp n : Int32} (hd : decode μ.2.1 pc = .ok (.invokestatic idx, 3)) (hl : Cond.methodLink μ.1.cls idx arraycopyName ∈ g_t) (h1 : Cond.native arraycopyName ∈ g_t) (h2 : Cond.static arraycopyName ∈ g_t) (h3 : Cond.initialized "java/lang/System" ∈ g_t) (hs0 : S[a]? = some (1, n0)) (hs1 : S[c0]? = some (1, n1)) (b1 : ¬ sp < 0) (b2 : ¬ dp < 0) (b3 : ¬ n < 0) (b4 : sp.toNatClampNeg + n.toNatClampNeg ≤ n0) (b5 : dp.toNatClampNeg + n.toNatClampNeg ≤ n1) (hst : (st.map fun v => v.category).sum ≤ 8) (hdd : nativeFrameWords "java/lang/System" "arraycopy" 5 + 19 ≤ 64 * d)
    (kk : Go G μ d rc rs (pc + 3) ls st S (cpy I a c0 sp.toNatClampNeg dp.toNatClampNeg n.toNatClampNeg) R L Q) : Go G μ d rc rs pc ls (.int n :: .int dp :: .ref c0 :: .int sp :: .ref a :: st) S I R L Q := by
  intro l p e RM s m args below meth c H locs cells slots mc ms lsA Z
  have hts := Z.1.2.2.2.2.2.2.1
  refine va_copyi (H0 := G.1) (A := g_A G) (rest := st.map (cv G)) Z.1.1 Z.1.2.1 (Z.1.2.2.1.trans Z.2.2.2.2.2.1.symm) Z.1.2.2.2.2.2.1 (hts _ hl) (hts _ h1) (hts _ h2) (hts _ h3) Z.1.2.2.2.2.2.2.2.2.1.1 Z.2.2.2.1 g_D Z.2.2.2.2.1 a c0 0 0 (g_W_at hs0) (g_W_at hs1) rfl rfl rfl b1 b2 b3 b4 b5 (fun _ _ => rfl) (by have := Z.2.1.1; omega) (by rw [cv_cats]; have := Z.2.1.2.1; omega) hd (fun H1 locs1 hP1 hD1 hS1 => ?_)
  have e0 : va_cpy (I a) (I c0) sp.toNatClampNeg dp.toNatClampNeg n.toNatClampNeg = cpy I a c0 sp.toNatClampNeg dp.toNatClampNeg n.toNatClampNeg c0 := by simp [cpy]
  have hP1 : va_P G.2.1 g_cl ((g_W G S I R L).set c0 (G.1.size + c0, .inl (G.2.2.1 0, n1, .inl (va_cpy (I a) (I c0) sp.toNatClampNeg dp.toNatClampNeg n.toNatClampNeg)))) H1 := hP1
  rw [e0] at hP1
  have e2 : (g_W G S I R L).set c0 (G.1.size + c0, .inl (G.2.2.1 0, n1, .inl (cpy I a c0 sp.toNatClampNeg dp.toNatClampNeg n.toNatClampNeg c0))) = g_W G S (cpy I a c0 sp.toNatClampNeg dp.toNatClampNeg n.toNatClampNeg) R L := g_W_set (I := I) (R := R) (R' := R) (L := L) (L' := L) hs1 (fun z hz => cpy_off hz) (fun _ _ => rfl) (fun _ _ => rfl)
  rw [e2] at hP1
  exact kk l p e RM s m args below meth c H1 locs1 cells slots mc ms lsA ⟨Z.1, Z.2.1, Z.2.2.1, hP1, hS1, Z.2.2.2.2.2⟩
/-! what lies outside -/
theorem g_S2 {G : gG} {H H2 : Heap} {locs : List Loc} (h0 : va_S (g_A G) G.1 H []) (hS : va_S (g_A G) G.1 H2 locs) (hz : H.size ≤ H2.size) : va_S (g_A G) H H2 locs :=
  ⟨hz, fun q h1 h2 => by
    have hq : q < G.1.size := Nat.not_le.mp h2
    rw [hS.2.1 q hq h2, h0.2.1 q hq h2], hS.2.2⟩
theorem g_Sz {G : gG} {p : Program} {RM : Room} {s : State} {m : MethodId} {args : Array Value} {meth : Method} {c : Code} {H : Heap} {locs : List Loc} {cells slots mc ms : Nat} {lsA : Array Slot} (Z : g_Z μ d rc rs ls S I R L G p RM s m args meth c H locs cells slots mc ms lsA) (hz : H.size = G.1.size + S.length) : va_S (g_A G) s.heap H locs :=
  g_S2 Z.1.2.2.2.2.2.2.2.2.2 Z.2.2.2.2.1 (by have := Z.2.2.1.2.2; omega)
/-- NAMES_OF, out of the reader -/
theorem go_names (hm : μ.1.cls = "SpoonScales$Reader") (hd : decode μ.2.1 pc = .ok (.getstatic 166, 3)) (kk : Go G μ d rc rs (pc + 3) ls (.float 1 :: st) S I R L Q) : Go G μ d rc rs pc ls st S I R L Q := by
  intro l p e RM s m args below meth c H locs cells slots mc ms lsA Z
  refine g_size Z.2.2.1.2.2 Z.2.2.2.1 Z.2.2.2.2.1 fun hz => ?_
  have hx := Z.1.2.2.2.2.2.2.2.2.1.2
  have hk := Z.1.2.2.2.2.2.2.2.2.2.2.1
  exact va_getsN (own := "SpoonScales$Reader") Z.1.1 Z.1.2.1 (hx.2.2.1.kept hk) (g_Sz Z hz) (by have := Z.1.2.2.2.2.2.1; rw [hm] at this; exact this) (va_Nw.use rfl hx.2.2.2.2.2.2.2.2.2.2.1) (fun _ h => h) hd (kk l p e RM s m args below meth c H locs cells slots mc ms lsA Z)
theorem go_choose {idx : Nat} (hd : decode μ.2.1 pc = .ok (.getstatic idx, 3)) (hl : Cond.fieldLink μ.1.cls idx "SpoonScales" "CHOOSE" "[I" ∈ g_t) (kk : Go G μ d rc rs (pc + 3) ls (.float 2 :: st) S I R L Q) : Go G μ d rc rs pc ls st S I R L Q := by
  intro l p e RM s m args below meth c H locs cells slots mc ms lsA Z
  refine g_size Z.2.2.1.2.2 Z.2.2.2.1 Z.2.2.2.2.1 fun hz => ?_
  have hx := Z.1.2.2.2.2.2.2.2.2.1.2
  have hk := Z.1.2.2.2.2.2.2.2.2.2.2.1
  exact va_gets Z.1.1 Z.1.2.1 (hx.2.2.2.2.1.kept hk) (g_Sz Z hz) Z.1.2.2.2.2.2.1 (Z.1.2.2.2.2.2.2.1 _ hl) (fun _ h => h) hd (kk l p e RM s m args below meth c H locs cells slots mc ms lsA Z)
theorem go_names_ld {i : Int32} (hd : decode μ.2.1 pc = .ok (.iaload, 1)) (hin : vp_in i 3) (kk : Go G μ d rc rs (pc + 1) ls (.int (g_no.getD i.toNatClampNeg 0) :: st) S I R L Q) : Go G μ d rc rs pc ls (.int i :: .float 1 :: st) S I R L Q := by
  intro l p e RM s m args below meth c H locs cells slots mc ms lsA Z
  refine g_size Z.2.2.1.2.2 Z.2.2.2.1 Z.2.2.2.2.1 fun hz => ?_
  have hx := Z.1.2.2.2.2.2.2.2.2.1.2
  have hk := Z.1.2.2.2.2.2.2.2.2.2.2.1
  exact va_ti Z.1.1 Z.1.2.1 (hx.2.2.2.1.kept hk) (g_Sz Z hz) hin rfl hd (kk l p e RM s m args below meth c H locs cells slots mc ms lsA Z)
theorem go_choose_ld {i : Int32} (hd : decode μ.2.1 pc = .ok (.iaload, 1)) (hin : vp_in i 49) (kk : Go G μ d rc rs (pc + 1) ls (.int (g_ch.getD i.toNatClampNeg 0) :: st) S I R L Q) : Go G μ d rc rs pc ls (.int i :: .float 2 :: st) S I R L Q := by
  intro l p e RM s m args below meth c H locs cells slots mc ms lsA Z
  refine g_size Z.2.2.1.2.2 Z.2.2.2.1 Z.2.2.2.2.1 fun hz => ?_
  have hx := Z.1.2.2.2.2.2.2.2.2.1.2
  have hk := Z.1.2.2.2.2.2.2.2.2.2.2.1
  exact va_ti Z.1.1 Z.1.2.1 (hx.2.2.2.2.2.1.kept hk) (g_Sz Z hz) hin rfl hd (kk l p e RM s m args below meth c H locs cells slots mc ms lsA Z)
end GN
