/-! the GO rows of instructions that touch cells -/
def up (I : gI) (c i : Nat) (x : Int32) : gI := fun a j => if a = c ∧ j = i then x else I a j
def upR (R : gR) (c i : Nat) (x : Option Nat) : gR := fun a j => if a = c ∧ j = i then x else R a j
def upL (L : gL) (c i : Nat) (x : Int64) : gL := fun a j => if a = c ∧ j = i then x else L a j
theorem up_eq (I : gI) (c i : Nat) (x : Int32) : up I c i x c i = x := by simp [up]
theorem up_ne {I : gI} {c i a j : Nat} {x : Int32} (h : ¬ (a = c ∧ j = i)) : up I c i x a j = I a j := by simp [up, h]
theorem up_nc {I : gI} {c i a j : Nat} {x : Int32} (h : a ≠ c) : up I c i x a j = I a j := by simp [up, h]
theorem up_ni {I : gI} {c i a j : Nat} {x : Int32} (h : j ≠ i) : up I c i x a j = I a j := by simp [up, h]
theorem up_row (I : gI) (c i : Nat) (x : Int32) : up I c i x c = upd (I c) i x := by funext j; simp [up, upd]
theorem up_off {I : gI} {c i : Nat} {x : Int32} (a : Nat) (h : a ≠ c) : up I c i x a = I a := by funext j; simp [up, h]
theorem upR_eq (I : gR) (c i : Nat) (x : Option Nat) : upR I c i x c i = x := by simp [upR]
theorem upR_nc {I : gR} {c i a j : Nat} {x : Option Nat} (h : a ≠ c) : upR I c i x a j = I a j := by simp [upR, h]
theorem upR_ni {I : gR} {c i a j : Nat} {x : Option Nat} (h : j ≠ i) : upR I c i x a j = I a j := by simp [upR, h]
theorem upR_off {I : gR} {c i : Nat} {x : Option Nat} (a : Nat) (h : a ≠ c) : upR I c i x a = I a := by funext j; simp [upR, h]
theorem upL_off {I : gL} {c i : Nat} {x : Int64} (a : Nat) (h : a ≠ c) : upL I c i x a = I a := by funext j; simp [upL, h]
theorem upL_row (I : gL) (c i : Nat) (x : Int64) : upL I c i x c = vp_updL (I c) i x := by funext j; simp [upL, vp_updL]
def g_F (own : String) (idx ci k : Nat) (ty : FieldType) (fin : Bool) : Prop := ∃ r : vw_C, g_cl[ci]? = some r ∧ k < r.2.2 ∧ Cond.fieldLink own idx (r.2.1 k).1 (r.2.1 k).2.1 (r.2.1 k).2.2.1 ∈ g_t ∧ g_ty ci k = ty ∧ (r.2.1 k).2.2.2 = fin
theorem g_fs_at {G : gG} {I : gI} {R : gR} {a ci k : Nat} (hk : k < g_nf ci) : ((List.range (g_nf ci)).map (g_f G I R a ci))[k]? = some (g_f G I R a ci k) := by
  rw [List.getElem?_map, List.getElem?_range hk]; rfl
theorem g_fs_set {G : gG} {I I' : gI} {R R' : gR} {a ci k : Nat} {v : Value} (hv : g_f G I' R' a ci k = v) (ho : ∀ j, j ≠ k → g_f G I' R' a ci j = g_f G I R a ci j) : ((List.range (g_nf ci)).map (g_f G I R a ci)).set k v = (List.range (g_nf ci)).map (g_f G I' R' a ci) := by
  apply List.ext_getElem?
  intro j
  by_cases hj : j = k
  · subst hj
    by_cases hl : j < g_nf ci
    · rw [List.getElem?_set_self (by simpa using hl), g_fs_at hl, hv]
    · rw [List.getElem?_eq_none (by simpa using hl), List.getElem?_eq_none (by simpa using hl)]
  · rw [List.getElem?_set_ne (Ne.symm hj)]
    by_cases hl : j < g_nf ci
    · rw [g_fs_at hl, g_fs_at hl, ho j hj]
    · rw [List.getElem?_eq_none (by simpa using hl), List.getElem?_eq_none (by simpa using hl)]
section GC
variable {G : gG} {μ : gm} {d rc rs pc : Nat} {ls : List (Option Value)} {st : List Value} {S : gS} {I : gI} {R : gR} {L : gL} {Q : gQ}
/-- how large the heap is -/
theorem g_size {p : Program} {l : Launch} {e : Env} {RM : Room} {s : State} {m : MethodId} {args : Array Value} {below : List Frame} {meth : Method} {c : Code} {H : Heap} {locs : List Loc} {cells slots : Nat} {QQ : State → Prop} {g : JFrame} {G : gG} (h3 : s.heap.size + cells = G.1.size + S.length) (hP : va_P G.2.1 g_cl (g_W G S I R L) H) (hS : va_S (g_A G) G.1 H locs) (k : H.size = G.1.size + S.length → W p l e RM s m args below meth c H locs cells slots QQ g) : W p l e RM s m args below meth c H locs cells slots QQ g := by
  intro T hT X
  refine k ?_ T hT X
  have h1 := X.heapSize
  rw [hT] at h1
  rcases Nat.eq_zero_or_pos S.length with h0 | h0
  · have := hS.1
    omega
  · obtain ⟨x, hx⟩ : ∃ x, S[S.length - 1]? = some x := ⟨_, List.getElem?_eq_getElem (by omega)⟩
    have h2 := (hP _ _ (g_W_at hx)).lt
    simp only at h2
    omega
theorem go_getI {a ci k idx : Nat} {ty : FieldType} {fin : Bool} (hd : decode μ.2.1 pc = .ok (.getfield idx, 3)) (hf : g_F μ.1.cls idx ci k ty fin) (hty : g_rt ty = false) (hs : S[a]? = some (0, ci)) (kk : Go G μ d rc rs (pc + 3) ls (.int (I a k) :: st) S I R L Q) : Go G μ d rc rs pc ls (.ref a :: st) S I R L Q := by
  intro l p e RM s m args below meth c H locs cells slots mc ms lsA Z
  obtain ⟨r, hr, hk, hw, hg, -⟩ := hf
  obtain ⟨c1, -, -, c4⟩ := g_cls hr
  have hv : g_f G I R a ci k = .int (I a k) := by simp [g_f, hg, hty]
  exact va_get Z.1.1 Z.1.2.1 Z.1.2.2.2.2.2.2.1 (g_uws c1) Z.1.2.2.2.2.2.1 Z.1.2.2.2.2.2.2.2.2.1.1 Z.2.2.2.1 a (g_W_at hs) hr k hk (Z.1.2.2.2.2.2.2.1 _ hw) (fun _ h => h) ((g_fs_at (c4 ▸ hk)).trans (congrArg some hv)) hd (kk l p e RM s m args below meth c H locs cells slots mc ms lsA Z)
theorem go_getR {a ci k idx v : Nat} {ty : FieldType} {fin : Bool} (hd : decode μ.2.1 pc = .ok (.getfield idx, 3)) (hf : g_F μ.1.cls idx ci k ty fin) (hty : g_rt ty = true) (hs : S[a]? = some (0, ci)) (hr2 : R a k = some v) (kk : Go G μ d rc rs (pc + 3) ls (.ref v :: st) S I R L Q) : Go G μ d rc rs pc ls (.ref a :: st) S I R L Q := by
  intro l p e RM s m args below meth c H locs cells slots mc ms lsA Z
  obtain ⟨r, hr, hk, hw, hg, -⟩ := hf
  obtain ⟨c1, -, -, c4⟩ := g_cls hr
  have hv : g_f G I R a ci k = .ref (G.1.size + v) := by simp [g_f, hg, hty, hr2, va_rf]
  exact va_get Z.1.1 Z.1.2.1 Z.1.2.2.2.2.2.2.1 (g_uws c1) Z.1.2.2.2.2.2.1 Z.1.2.2.2.2.2.2.2.2.1.1 Z.2.2.2.1 a (g_W_at hs) hr k hk (Z.1.2.2.2.2.2.2.1 _ hw) (fun _ h => h) ((g_fs_at (c4 ▸ hk)).trans (congrArg some hv)) hd (kk l p e RM s m args below meth c H locs cells slots mc ms lsA Z)
theorem go_putI {a ci k idx : Nat} {x : Int32} {ty : FieldType} (hd : decode μ.2.1 pc = .ok (.putfield idx, 3)) (hf : g_F μ.1.cls idx ci k ty false) (hty : g_rt ty = false) (hn : narrow ty (.int x) = .int x) (hfit : fits ty (.int x) = true) (hs : S[a]? = some (0, ci)) (kk : Go G μ d rc rs (pc + 3) ls st S (up I a k x) R L Q) : Go G μ d rc rs pc ls (.int x :: .ref a :: st) S I R L Q := by
  intro l p e RM s m args below meth c H locs cells slots mc ms lsA Z
  obtain ⟨r, hr, hk, hw, hg, hfin⟩ := hf
  obtain ⟨c1, c2, c3, c4⟩ := g_cls hr
  refine va_put (H0 := G.1) (A := g_A G) Z.1.1 Z.1.2.1 Z.1.2.2.2.2.2.2.1 (g_uws c1) (g_ty ci) c3 c2 Z.1.2.2.2.2.2.1 Z.1.2.2.2.2.2.2.2.2.1.1 Z.2.2.2.1 g_D Z.2.2.2.2.1 a (g_W_at hs) hr k hk (Z.1.2.2.2.2.2.2.1 _ hw) (fun _ h => h) hfin (ty := ty) (by rw [← hg]; exact c3 k hk) hn hfit (by simpa using c4 ▸ hk) hd (fun H1 locs1 hP1 hD1 hS1 => ?_)
  have e1 : ((List.range (g_nf ci)).map (g_f G I R a ci)).set k (.int x) = (List.range (g_nf ci)).map (g_f G (up I a k x) R a ci) := g_fs_set (by simp [g_f, hg, hty, up_eq]) (fun j hj => by simp [g_f, up_ni hj])
  have hP1 : va_P G.2.1 g_cl ((g_W G S I R L).set a (G.1.size + a, .inr (ci, ((List.range (g_nf ci)).map (g_f G I R a ci)).set k (.int x)))) H1 := hP1
  rw [e1] at hP1
  have e2 : (g_W G S I R L).set a (G.1.size + a, .inr (ci, (List.range (g_nf ci)).map (g_f G (up I a k x) R a ci))) = g_W G S (up I a k x) R L := g_W_set (I := I) (I' := up I a k x) (R := R) (R' := R) (L := L) (L' := L) hs (fun z hz => up_off z hz) (fun _ _ => rfl) (fun _ _ => rfl)
  rw [e2] at hP1
  exact kk l p e RM s m args below meth c H1 locs1 cells slots mc ms lsA ⟨Z.1, Z.2.1, Z.2.2.1, hP1, hS1, Z.2.2.2.2.2⟩
theorem g_R_set {G : gG} {a ci k v : Nat} {ty : FieldType} (hs : S[a]? = some (0, ci)) (hg : g_ty ci k = ty) (hty : g_rt ty = true) : (g_W G S I R L).set a (G.1.size + a, .inr (ci, ((List.range (g_nf ci)).map (g_f G I R a ci)).set k (.ref (G.1.size + v)))) = g_W G S I (upR R a k (some v)) L := by
  have e1 : ((List.range (g_nf ci)).map (g_f G I R a ci)).set k (.ref (G.1.size + v)) = (List.range (g_nf ci)).map (g_f G I (upR R a k (some v)) a ci) := g_fs_set (by simp [g_f, hg, hty, upR_eq, va_rf]) (fun j hj => by simp [g_f, upR_ni hj])
  rw [e1]
  exact g_W_set (I := I) (I' := I) (R := R) (R' := upR R a k (some v)) (L := L) (L' := L) hs (fun _ _ => rfl) (fun z hz => upR_off z hz) (fun _ _ => rfl)
theorem go_putR {a ci k idx v : Nat} {ty : FieldType} (hd : decode μ.2.1 pc = .ok (.putfield idx, 3)) (hf : g_F μ.1.cls idx ci k ty false) (hty : g_rt ty = true) (hn : ∀ z, narrow ty (.ref z) = .ref z ∧ fits ty (.ref z) = true) (hs : S[a]? = some (0, ci)) (kk : Go G μ d rc rs (pc + 3) ls st S I (upR R a k (some v)) L Q) : Go G μ d rc rs pc ls (.ref v :: .ref a :: st) S I R L Q := by
  intro l p e RM s m args below meth c H locs cells slots mc ms lsA Z
  obtain ⟨r, hr, hk, hw, hg, hfin⟩ := hf
  obtain ⟨c1, c2, c3, c4⟩ := g_cls hr
  refine va_put (H0 := G.1) (A := g_A G) Z.1.1 Z.1.2.1 Z.1.2.2.2.2.2.2.1 (g_uws c1) (g_ty ci) c3 c2 Z.1.2.2.2.2.2.1 Z.1.2.2.2.2.2.2.2.2.1.1 Z.2.2.2.1 g_D Z.2.2.2.2.1 a (g_W_at hs) hr k hk (Z.1.2.2.2.2.2.2.1 _ hw) (fun _ h => h) hfin (ty := ty) (by rw [← hg]; exact c3 k hk) (hn _).1 (hn _).2 (by simpa using c4 ▸ hk) hd (fun H1 locs1 hP1 hD1 hS1 => ?_)
  have hP1 : va_P G.2.1 g_cl ((g_W G S I R L).set a (G.1.size + a, .inr (ci, ((List.range (g_nf ci)).map (g_f G I R a ci)).set k (.ref (G.1.size + v))))) H1 := hP1
  rw [g_R_set hs hg hty] at hP1
  exact kk l p e RM s m args below meth c H1 locs1 cells slots mc ms lsA ⟨Z.1, Z.2.1, Z.2.2.1, hP1, hS1, Z.2.2.2.2.2⟩
/-- a final field of an object that is being made -/
theorem go_putF {a ci k idx v : Nat} {ty : FieldType} (hd : decode μ.2.1 pc = .ok (.putfield idx, 3)) (hf : g_F μ.1.cls idx ci k ty true) (hty : g_rt ty = true) (hn : ∀ z, narrow ty (.ref z) = .ref z ∧ fits ty (.ref z) = true) (hi : μ.1.name = "<init>") (ho : ∀ r, g_cl[ci]? = some r → (r.2.1 k).1 = μ.1.cls) (hs : S[a]? = some (0, ci)) (kk : Go G μ d rc rs (pc + 3) ls st S I (upR R a k (some v)) L Q) : Go G μ d rc rs pc ls (.ref v :: .ref a :: st) S I R L Q := by
  intro l p e RM s m args below meth c H locs cells slots mc ms lsA Z
  obtain ⟨r, hr, hk, hw, hg, hfin⟩ := hf
  obtain ⟨c1, c2, c3, c4⟩ := g_cls hr
  refine va_putF (H0 := G.1) (A := g_A G) Z.1.1 Z.1.2.1 Z.1.2.2.2.2.2.2.1 (g_uws c1) (g_ty ci) c3 c2 Z.1.2.2.2.2.2.1 Z.1.2.2.2.2.2.2.2.2.1.1 Z.2.2.2.1 g_D Z.2.2.2.2.1 a (g_W_at hs) hr k hk (Z.1.2.2.2.2.2.2.1 _ hw) (fun _ h => h) hfin (Z.1.2.2.2.2.2.2.2.1.trans hi) (ho r hr) (ty := ty) (by rw [← hg]; exact c3 k hk) (hn _).1 (hn _).2 (by simpa using c4 ▸ hk) hd (fun H1 locs1 hP1 hD1 hS1 => ?_)
  have hP1 : va_P G.2.1 g_cl ((g_W G S I R L).set a (G.1.size + a, .inr (ci, ((List.range (g_nf ci)).map (g_f G I R a ci)).set k (.ref (G.1.size + v))))) H1 := hP1
  rw [g_R_set hs hg hty] at hP1
  exact kk l p e RM s m args below meth c H1 locs1 cells slots mc ms lsA ⟨Z.1, Z.2.1, Z.2.2.1, hP1, hS1, Z.2.2.2.2.2⟩
/-! arrays -/
theorem go_iald {a n : Nat} {i : Int32} (hd : decode μ.2.1 pc = .ok (.iaload, 1)) (hs : S[a]? = some (1, n)) (hin : vp_in i n) (kk : Go G μ d rc rs (pc + 1) ls (.int (I a i.toNatClampNeg) :: st) S I R L Q) : Go G μ d rc rs pc ls (.int i :: .ref a :: st) S I R L Q := by
  intro l p e RM s m args below meth c H locs cells slots mc ms lsA Z
  exact va_iald Z.1.1 Z.1.2.1 Z.1.2.2.2.2.2.2.2.2.1.1 Z.2.2.2.1 a 0 (g_W_at hs) rfl hin hd (kk l p e RM s m args below meth c H locs cells slots mc ms lsA Z)
theorem go_bald {a n : Nat} {i : Int32} (hd : decode μ.2.1 pc = .ok (.baload, 1)) (hs : S[a]? = some (2, n)) (hin : vp_in i n) (kk : Go G μ d rc rs (pc + 1) ls (.int (I a i.toNatClampNeg) :: st) S I R L Q) : Go G μ d rc rs pc ls (.int i :: .ref a :: st) S I R L Q := by
  intro l p e RM s m args below meth c H locs cells slots mc ms lsA Z
  exact va_bald Z.1.1 Z.1.2.1 Z.1.2.2.2.2.2.2.2.2.1.1 Z.2.2.2.1 a 1 (g_W_at hs) rfl hin hd (kk l p e RM s m args below meth c H locs cells slots mc ms lsA Z)
theorem go_lald {a n : Nat} {i : Int32} (hd : decode μ.2.1 pc = .ok (.laload, 1)) (hs : S[a]? = some (3, n)) (hin : vp_in i n) (kk : Go G μ d rc rs (pc + 1) ls (.long (L a i.toNatClampNeg) :: st) S I R L Q) : Go G μ d rc rs pc ls (.int i :: .ref a :: st) S I R L Q := by
  intro l p e RM s m args below meth c H locs cells slots mc ms lsA Z
  exact va_lald Z.1.1 Z.1.2.1 Z.1.2.2.2.2.2.2.2.2.1.1 Z.2.2.2.1 a 2 (g_W_at hs) rfl hin hd (kk l p e RM s m args below meth c H locs cells slots mc ms lsA Z)
theorem go_aald4 {a n v : Nat} {i : Int32} (hd : decode μ.2.1 pc = .ok (.aaload, 1)) (hs : S[a]? = some (4, n)) (hin : vp_in i n) (hv : R a i.toNatClampNeg = some v) (kk : Go G μ d rc rs (pc + 1) ls (.ref v :: st) S I R L Q) : Go G μ d rc rs pc ls (.int i :: .ref a :: st) S I R L Q := by
  intro l p e RM s m args below meth c H locs cells slots mc ms lsA Z
  have h := kk l p e RM s m args below meth c H locs cells slots mc ms lsA Z
  refine va_aldq Z.1.1 Z.1.2.1 Z.1.2.2.2.2.2.2.2.2.1.1 Z.2.2.2.1 a 3 (g_W_at hs) rfl hin hd ?_
  simp only [hv]
  exact h
theorem go_aald5 {a n v : Nat} {i : Int32} (hd : decode μ.2.1 pc = .ok (.aaload, 1)) (hs : S[a]? = some (5, n)) (hin : vp_in i n) (hv : R a i.toNatClampNeg = some v) (kk : Go G μ d rc rs (pc + 1) ls (.ref v :: st) S I R L Q) : Go G μ d rc rs pc ls (.int i :: .ref a :: st) S I R L Q := by
  intro l p e RM s m args below meth c H locs cells slots mc ms lsA Z
  have h := kk l p e RM s m args below meth c H locs cells slots mc ms lsA Z
  refine va_aldq Z.1.1 Z.1.2.1 Z.1.2.2.2.2.2.2.2.2.1.1 Z.2.2.2.1 a 4 (g_W_at hs) rfl hin hd ?_
  simp only [hv]
  exact h
theorem go_iast {a n : Nat} {i x : Int32} (hd : decode μ.2.1 pc = .ok (.iastore, 1)) (hs : S[a]? = some (1, n)) (hin : vp_in i n) (kk : Go G μ d rc rs (pc + 1) ls st S (up I a i.toNatClampNeg x) R L Q) : Go G μ d rc rs pc ls (.int x :: .int i :: .ref a :: st) S I R L Q := by
  intro l p e RM s m args below meth c H locs cells slots mc ms lsA Z
  refine va_iast (H0 := G.1) (A := g_A G) Z.1.1 Z.1.2.1 Z.1.2.2.2.2.2.2.2.2.1.1 Z.2.2.2.1 g_D Z.2.2.2.2.1 a 0 (g_W_at hs) rfl hin hd (fun H1 locs1 hP1 hD1 hS1 => ?_)
  have hP1 : va_P G.2.1 g_cl ((g_W G S I R L).set a (G.1.size + a, .inl (G.2.2.1 0, n, .inl (upd (I a) i.toNatClampNeg x)))) H1 := hP1
  rw [← up_row] at hP1
  have e2 : (g_W G S I R L).set a (G.1.size + a, .inl (G.2.2.1 0, n, .inl (up I a i.toNatClampNeg x a))) = g_W G S (up I a i.toNatClampNeg x) R L := g_W_set (I := I) (I' := up I a i.toNatClampNeg x) (R := R) (R' := R) (L := L) (L' := L) hs (fun z hz => up_off z hz) (fun _ _ => rfl) (fun _ _ => rfl)
  rw [e2] at hP1
  exact kk l p e RM s m args below meth c H1 locs1 cells slots mc ms lsA ⟨Z.1, Z.2.1, Z.2.2.1, hP1, hS1, Z.2.2.2.2.2⟩
theorem go_bast {a n : Nat} {i x : Int32} (hd : decode μ.2.1 pc = .ok (.bastore, 1)) (hs : S[a]? = some (2, n)) (hin : vp_in i n) (kk : Go G μ d rc rs (pc + 1) ls st S (up I a i.toNatClampNeg x.toInt8.toInt32) R L Q) : Go G μ d rc rs pc ls (.int x :: .int i :: .ref a :: st) S I R L Q := by
  intro l p e RM s m args below meth c H locs cells slots mc ms lsA Z
  refine va_bast (H0 := G.1) (A := g_A G) Z.1.1 Z.1.2.1 Z.1.2.2.2.2.2.2.2.2.1.1 Z.2.2.2.1 g_D Z.2.2.2.2.1 a 1 (g_W_at hs) rfl hin hd (fun H1 locs1 hP1 hD1 hS1 => ?_)
  have hP1 : va_P G.2.1 g_cl ((g_W G S I R L).set a (G.1.size + a, .inl (G.2.2.1 1, n, .inl (upd (I a) i.toNatClampNeg (vp_nar .byte x))))) H1 := hP1
  rw [vp_nar_byte, ← up_row] at hP1
  have e2 : (g_W G S I R L).set a (G.1.size + a, .inl (G.2.2.1 1, n, .inl (up I a i.toNatClampNeg x.toInt8.toInt32 a))) = g_W G S (up I a i.toNatClampNeg x.toInt8.toInt32) R L := g_W_set (I := I) (I' := up I a i.toNatClampNeg x.toInt8.toInt32) (R := R) (R' := R) (L := L) (L' := L) hs (fun z hz => up_off z hz) (fun _ _ => rfl) (fun _ _ => rfl)
  rw [e2] at hP1
  exact kk l p e RM s m args below meth c H1 locs1 cells slots mc ms lsA ⟨Z.1, Z.2.1, Z.2.2.1, hP1, hS1, Z.2.2.2.2.2⟩
theorem go_last {a n : Nat} {i : Int32} {x : Int64} (hd : decode μ.2.1 pc = .ok (.lastore, 1)) (hs : S[a]? = some (3, n)) (hin : vp_in i n) (kk : Go G μ d rc rs (pc + 1) ls st S I R (upL L a i.toNatClampNeg x) Q) : Go G μ d rc rs pc ls (.long x :: .int i :: .ref a :: st) S I R L Q := by
  intro l p e RM s m args below meth c H locs cells slots mc ms lsA Z
  refine va_last (H0 := G.1) (A := g_A G) Z.1.1 Z.1.2.1 Z.1.2.2.2.2.2.2.2.2.1.1 Z.2.2.2.1 g_D Z.2.2.2.2.1 a 2 (g_W_at hs) rfl hin hd (fun H1 locs1 hP1 hD1 hS1 => ?_)
  have hP1 : va_P G.2.1 g_cl ((g_W G S I R L).set a (G.1.size + a, .inl (G.2.2.1 2, n, .inr (.inl (vp_updL (L a) i.toNatClampNeg x))))) H1 := hP1
  rw [← upL_row] at hP1
  have e2 : (g_W G S I R L).set a (G.1.size + a, .inl (G.2.2.1 2, n, .inr (.inl (upL L a i.toNatClampNeg x a)))) = g_W G S I R (upL L a i.toNatClampNeg x) := g_W_set (I := I) (I' := I) (R := R) (R' := R) (L := L) (L' := upL L a i.toNatClampNeg x) hs (fun _ _ => rfl) (fun _ _ => rfl) (fun z hz => upL_off z hz)
  rw [e2] at hP1
  exact kk l p e RM s m args below meth c H1 locs1 cells slots mc ms lsA ⟨Z.1, Z.2.1, Z.2.2.1, hP1, hS1, Z.2.2.2.2.2⟩
theorem go_aast {κ t a n v ci : Nat} {i : Int32} {C : String} (hd : decode μ.2.1 pc = .ok (.aastore, 1)) (hs : S[a]? = some (κ + 4, n)) (ht : ∀ G : gG, (g_tys G)[κ + 3]? = some (G.2.2.1 (κ + 3), .object C)) (hv : S[v]? = some (0, ci)) (hC : ∃ r, g_cl[ci]? = some r ∧ r.1 = C) (hin : vp_in i n) (kk : Go G μ d rc rs (pc + 1) ls st S I (upR R a i.toNatClampNeg (some v)) L Q) : Go G μ d rc rs pc ls (.ref v :: .int i :: .ref a :: st) S I R L Q := by
  intro l p e RM s m args below meth c H locs cells slots mc ms lsA Z
  obtain ⟨r, hr, rfl⟩ := hC
  refine va_astq (H0 := G.1) (A := g_A G) Z.1.1 Z.1.2.1 Z.1.2.2.2.2.2.2.2.2.1.1 Z.2.2.2.1 g_D Z.2.2.2.2.1 a (κ + 3) v ci (r := r) (g_W_at hs) (ht G) (g_W_at hv) hr hin hd (fun H1 locs1 hP1 hD1 hS1 => ?_)
  have e1 : va_up (fun j => (R a j).map (G.1.size + ·)) i.toNatClampNeg (some (G.1.size + v)) = fun j => (upR R a i.toNatClampNeg (some v) a j).map (G.1.size + ·) := by
    funext j
    by_cases hj : j = i.toNatClampNeg
    · subst hj
      simp [va_up, upR_eq]
    · simp [va_up, hj, upR_ni hj]
  have hP1 : va_P G.2.1 g_cl ((g_W G S I R L).set a (G.1.size + a, .inl (G.2.2.1 (κ + 3), n, .inr (.inr (.inr (.inr (va_up (fun j => (R a j).map (G.1.size + ·)) i.toNatClampNeg (some (G.1.size + v))))))))) H1 := hP1
  rw [e1] at hP1
  have e2 : (g_W G S I R L).set a (G.1.size + a, .inl (G.2.2.1 (κ + 3), n, .inr (.inr (.inr (.inr (fun j => (upR R a i.toNatClampNeg (some v) a j).map (G.1.size + ·))))))) = g_W G S I (upR R a i.toNatClampNeg (some v)) L := g_W_set (x := (κ + 4, n)) (I := I) (I' := I) (R := R) (R' := upR R a i.toNatClampNeg (some v)) (L := L) (L' := L) hs (fun _ _ => rfl) (fun z hz => upR_off z hz) (fun _ _ => rfl)
  rw [e2] at hP1
  exact kk l p e RM s m args below meth c H1 locs1 cells slots mc ms lsA ⟨Z.1, Z.2.1, Z.2.2.1, hP1, hS1, Z.2.2.2.2.2⟩
theorem go_alen {a n : Nat} (κ : Nat) {v : Int32} (hd : decode μ.2.1 pc = .ok (.arraylength, 1)) (hs : S[a]? = some (κ + 1, n)) (hκ : κ < 5) (hv : Int32.ofNat n = v) (kk : Go G μ d rc rs (pc + 1) ls (.int v :: st) S I R L Q) : Go G μ d rc rs pc ls (.ref a :: st) S I R L Q := by
  intro l p e RM s m args below meth c H locs cells slots mc ms lsA Z
  have h := kk l p e RM s m args below meth c H locs cells slots mc ms lsA Z
  match κ, hs, hκ with
  | 0, hs, _ => exact va_alen Z.1.1 Z.1.2.1 Z.1.2.2.2.2.2.2.2.2.1.1 Z.2.2.2.1 a 0 (g_W_at hs) rfl hv hd h
  | 1, hs, _ => exact va_alen Z.1.1 Z.1.2.1 Z.1.2.2.2.2.2.2.2.2.1.1 Z.2.2.2.1 a 1 (g_W_at hs) rfl hv hd h
  | 2, hs, _ => exact va_alen Z.1.1 Z.1.2.1 Z.1.2.2.2.2.2.2.2.2.1.1 Z.2.2.2.1 a 2 (g_W_at hs) rfl hv hd h
  | 3, hs, _ => exact va_alen Z.1.1 Z.1.2.1 Z.1.2.2.2.2.2.2.2.2.1.1 Z.2.2.2.1 a 3 (g_W_at hs) rfl hv hd h
  | 4, hs, _ => exact va_alen Z.1.1 Z.1.2.1 Z.1.2.2.2.2.2.2.2.2.1.1 Z.2.2.2.1 a 4 (g_W_at hs) rfl hv hd h
  | k + 5, hs, h5 => exact absurd h5 (by omega)
end GC
