theorem e_X3_readClause {G : gG} {I : gI} {R : gR} {L : gL} {Q : gQ} {k : Int32} (hR : g_Fx R) (h : ∀ v2_1 : Int32, v2_1 = (I 306 3) → (v2_1 < 0 → ∀ I_2 : gI, I_2 = failI I (1 : Int32) → Q none SH I_2 R L) ∧ (¬ v2_1 < 0 → (v2_1 ≤ 6 → (2 < v2_1 → Go G mX3_readClause 12 0 0 47 [some (.ref 306), some (.int k), some (.int v2_1)] [] SH I R L Q) ∧ (¬ 2 < v2_1 → ∃ y_3, R 306 6 = some y_3 ∧ g_La y_3 ∧ (vp_in v2_1 3 ∧ ((¬ (¬ I (y_3 + 2) v2_1.toNatClampNeg = -1) → Go G mX3_readClause 12 0 0 47 [some (.ref 306), some (.int k), some (.int v2_1)] [] SH I R L Q) ∧ (¬ I (y_3 + 2) v2_1.toNatClampNeg = -1 → ∀ I_5 : gI, I_5 = failI I (4 : Int32) → Q none SH I_5 R L))))) ∧ (¬ v2_1 ≤ 6 → ∀ I_8 : gI, I_8 = failI I (1 : Int32) → Q none SH I_8 R L))) : Mt G mX3_readClause 12 0 0 [.ref 306, .int k] SH I R L Q := by
  refine go_start rfl (Nat.le_of_ble_eq_true rfl) rfl ?_
  refine go_aload_n dX3_readClause_0 rfl ?_
  refine go_getI dX3_readClause_1 fX3_49 rfl rfl ?_
  refine go_istore_n dX3_readClause_4 (Nat.le_of_ble_eq_true rfl) rfl ?_
  have h := h _ rfl
  refine go_iload_n dX3_readClause_5 rfl ?_
  refine go_if_lt 15 dX3_readClause_6 (by decide) (fun c => ?_) (fun c => ?_)
  · have h := h.1 c
    refine go_aload_n dX3_readClause_15 rfl ?_
    refine go_iconst (v := 1) dX3_readClause_16 (by decide) ?_
    refine go_callV0 (μ := mX3_readClause) [.int _] dX3_readClause_17 YX3_fail lX3_96 rfl ⟨_, rfl, rfl⟩ rfl (Nat.le_of_ble_eq_true rfl) (Nat.le_of_ble_eq_true rfl) rfl (k_X3_fail hR ?_)
    have h := h _ rfl
    refine go_goto 105 dX3_readClause_20 (by decide) ?_
    exact go_vret dX3_readClause_105 rfl rfl h
  · have h := h.2 c
    refine go_iload_n dX3_readClause_9 rfl ?_
    refine go_bipush (v := 6) dX3_readClause_10 (by decide) ?_
    refine go_icmp_le 23 dX3_readClause_12 (by decide) (fun c => ?_) (fun c => ?_)
    · have h := h.1 c
      refine go_iload_n dX3_readClause_23 rfl ?_
      refine go_iconst (v := 2) dX3_readClause_24 (by decide) ?_
      refine go_icmp_gt 47 dX3_readClause_25 (by decide) (fun c => ?_) (fun c => ?_)
      · have h := h.1 c
        exact h
      · have h := h.2 c
        refine go_aload_n dX3_readClause_28 rfl ?_
        obtain ⟨y_3, hry_3, hy_3, h⟩ := h
        refine go_getR dX3_readClause_29 fX3_37 rfl rfl hry_3 ?_
        refine go_iload_n dX3_readClause_32 rfl ?_
        obtain ⟨hp_4, h⟩ := h
        refine go_callV0 (μ := mX3_readClause) [.int _] dX3_readClause_33 YX2_has lX3_99 (La_s0 hy_3) ⟨_, rfl, rfl⟩ rfl (Nat.le_of_ble_eq_true rfl) (Nat.le_of_ble_eq_true rfl) rfl (k_X2_has hR hy_3 hp_4 ?_)
        refine go_if_eq 47 dX3_readClause_36 (by decide) (fun c => ?_) (fun c => ?_)
        · have h := h.1 (b0.mp c)
          exact h
        · have h := h.2 (b1.mp c)
          refine go_aload_n dX3_readClause_39 rfl ?_
          refine go_iconst (v := 4) dX3_readClause_40 (by decide) ?_
          refine go_callV0 (μ := mX3_readClause) [.int _] dX3_readClause_41 YX3_fail lX3_96 rfl ⟨_, rfl, rfl⟩ rfl (Nat.le_of_ble_eq_true rfl) (Nat.le_of_ble_eq_true rfl) rfl (k_X3_fail hR ?_)
          have h := h _ rfl
          refine go_goto 105 dX3_readClause_44 (by decide) ?_
          exact go_vret dX3_readClause_105 rfl rfl h
    · have h := h.2 c
      refine go_aload_n dX3_readClause_15 rfl ?_
      refine go_iconst (v := 1) dX3_readClause_16 (by decide) ?_
      refine go_callV0 (μ := mX3_readClause) [.int _] dX3_readClause_17 YX3_fail lX3_96 rfl ⟨_, rfl, rfl⟩ rfl (Nat.le_of_ble_eq_true rfl) (Nat.le_of_ble_eq_true rfl) rfl (k_X3_fail hR ?_)
      have h := h _ rfl
      refine go_goto 105 dX3_readClause_20 (by decide) ?_
      exact go_vret dX3_readClause_105 rfl rfl h
theorem b_X3_readClause_47 {G : gG} {I : gI} {R : gR} {L : gL} {Q : gQ} {v1 v2 : Int32} (hR : g_Fx R) (h : (v1 < 24 → ∃ y_11, R 306 6 = some y_11 ∧ g_La y_11 ∧ (vp_in v1 24 ∧ (∀ I_12 : gI, I_12 = up I (y_11 + 4) v1.toNatClampNeg v2 → ∃ y_13, R 306 6 = some y_13 ∧ g_La y_13 ∧ (∀ I_14 : gI, I_14 = up I_12 y_13 7 (v1 + 1) → Mt G mX3_advance 9 0 0 [.ref 306] SH I_14 R L (fun r S' I' R' L' => Go G mX3_readClause 12 0 0 86 [some (.ref 306), some (.int v1), some (.int v2)] (r.toList ++ []) S' I' R' L' Q))))) ∧ (¬ v1 < 24 → ∀ I_15 : gI, I_15 = failI I (6 : Int32) → Q none SH I_15 R L)) : Go G mX3_readClause 12 0 0 47 [some (.ref 306), some (.int v1), some (.int v2)] [] SH I R L Q := by
  refine go_iload_n dX3_readClause_47 rfl ?_
  refine go_bipush (v := 24) dX3_readClause_48 (by decide) ?_
  refine go_icmp_lt 62 dX3_readClause_50 (by decide) (fun c => ?_) (fun c => ?_)
  · have h := h.1 c
    refine go_aload_n dX3_readClause_62 rfl ?_
    obtain ⟨y_11, hry_11, hy_11, h⟩ := h
    refine go_getR dX3_readClause_63 fX3_37 rfl rfl hry_11 ?_
    refine go_getR dX3_readClause_66 fX3_102 rfl (La_s0 hy_11) (hR _ _ _ (La_r0_4 hy_11)) ?_
    refine go_iload_n dX3_readClause_69 rfl ?_
    refine go_iload_n dX3_readClause_70 rfl ?_
    obtain ⟨hi, h⟩ := h
    refine go_iast dX3_readClause_71 (La_s4 hy_11) hi ?_
    have h := h _ rfl
    refine go_aload_n dX3_readClause_72 rfl ?_
    obtain ⟨y_13, hry_13, hy_13, h⟩ := h
    refine go_getR dX3_readClause_73 fX3_37 rfl rfl hry_13 ?_
    refine go_iload_n dX3_readClause_76 rfl ?_
    refine go_iconst (v := 1) dX3_readClause_77 (by decide) ?_
    refine go_iadd dX3_readClause_78 ?_
    refine go_putI dX3_readClause_79 fX3_105 rfl rfl rfl (La_s0 hy_13) ?_
    have h := h _ rfl
    refine go_aload_n dX3_readClause_82 rfl ?_
    refine go_callV0 (μ := mX3_readClause) [] dX3_readClause_83 YX3_advance lX3_46 rfl ⟨_, rfl, rfl⟩ rfl (Nat.le_of_ble_eq_true rfl) (Nat.le_of_ble_eq_true rfl) rfl h
  · have h := h.2 c
    refine go_aload_n dX3_readClause_53 rfl ?_
    refine go_bipush (v := 6) dX3_readClause_54 (by decide) ?_
    refine go_callV0 (μ := mX3_readClause) [.int _] dX3_readClause_56 YX3_fail lX3_96 rfl ⟨_, rfl, rfl⟩ rfl (Nat.le_of_ble_eq_true rfl) (Nat.le_of_ble_eq_true rfl) rfl (k_X3_fail hR ?_)
    have h := h _ rfl
    refine go_goto 105 dX3_readClause_59 (by decide) ?_
    exact go_vret dX3_readClause_105 rfl rfl h
theorem b_X3_readClause_86 {G : gG} {I : gI} {R : gR} {L : gL} {Q : gQ} {v1 v2 : Int32} (hR : g_Fx R) (h : (2 < v2 → Mt G mX3_readDeed 11 0 0 [.ref 306, .int v2, .int v1] SH I R L (fun r S' I' R' L' => Go G mX3_readClause 12 0 0 105 [none, none, none] (r.toList ++ []) S' I' R' L' Q)) ∧ (¬ 2 < v2 → Mt G mX3_readLaw 10 0 0 [.ref 306, .int v2] SH I R L (fun r S' I' R' L' => Go G mX3_readClause 12 0 0 96 [none, none, none] (r.toList ++ []) S' I' R' L' Q))) : Go G mX3_readClause 12 0 0 86 [some (.ref 306), some (.int v1), some (.int v2)] [] SH I R L Q := by
  refine go_iload_n dX3_readClause_86 rfl ?_
  refine go_iconst (v := 2) dX3_readClause_87 (by decide) ?_
  refine go_icmp_gt 99 dX3_readClause_88 (by decide) (fun c => ?_) (fun c => ?_)
  · have h := h.1 c
    refine go_aload_n dX3_readClause_99 rfl ?_
    refine go_iload_n dX3_readClause_100 rfl ?_
    refine go_iload_n dX3_readClause_101 rfl ?_
    refine go_drop 0 ?_
    refine go_drop 1 ?_
    refine go_drop 2 ?_
    refine go_callV0 (μ := mX3_readClause) [.int _, .int _] dX3_readClause_102 YX3_readDeed lX3_111 rfl ⟨_, rfl, rfl⟩ rfl (Nat.le_of_ble_eq_true rfl) (Nat.le_of_ble_eq_true rfl) rfl h
  · have h := h.2 c
    refine go_aload_n dX3_readClause_91 rfl ?_
    refine go_iload_n dX3_readClause_92 rfl ?_
    refine go_drop 0 ?_
    refine go_drop 1 ?_
    refine go_drop 2 ?_
    refine go_callV0 (μ := mX3_readClause) [.int _] dX3_readClause_93 YX3_readLaw lX3_108 rfl ⟨_, rfl, rfl⟩ rfl (Nat.le_of_ble_eq_true rfl) (Nat.le_of_ble_eq_true rfl) rfl h
theorem b_X3_readClause_105 {G : gG} {I : gI} {R : gR} {L : gL} {Q : gQ} (hR : g_Fx R) (h : Q none SH I R L) : Go G mX3_readClause 12 0 0 105 [none, none, none] [] SH I R L Q := by
  exact go_vret dX3_readClause_105 rfl rfl h
theorem b_X3_readClause_96 {G : gG} {I : gI} {R : gR} {L : gL} {Q : gQ} (hR : g_Fx R) (h : Go G mX3_readClause 12 0 0 105 [none, none, none] [] SH I R L Q) : Go G mX3_readClause 12 0 0 96 [none, none, none] [] SH I R L Q := by
  refine go_goto 105 dX3_readClause_96 (by decide) ?_
  exact h
/-! clauses: (verb, one, two, code) -/
abbrev cls : Type := Nat × Int32 × Int32 × List Nat
def catN (cl : List cls) : List Nat := cl.flatMap (fun c => c.2.2.2)
theorem catN_snoc (cl : List cls) (c : cls) : catN (cl ++ [c]) = catN cl ++ c.2.2.2 := by simp [catN]
def tldN (w : Nat) (cl : List cls) : Prop := ∃ c ∈ cl, c.1 = w
/-- the class's law holds these clauses -/
def rpL (I : gI) (y : Nat) (cl : List cls) : Prop := I y 7 = nI cl.length ∧ I y 1 = nI (catN cl).length ∧ lsN (I (y + 1)) (catN cl) ∧
  (∀ k c, cl[k]? = some c → I (y + 4) k = nI c.1 ∧ c.1 ≤ 6 ∧ (3 ≤ c.1 → I (y + 5) k = c.2.1) ∧ (c.1 = 3 ∨ c.1 = 4 → I (y + 6) k = c.2.2.1)) ∧
  ∀ w, w < 3 → (I (y + 2) w = -1 ∧ ¬ tldN w cl) ∨ ∃ i c, cl[i]? = some c ∧ c.1 = w ∧ I (y + 2) w = nI (catN (cl.take i)).length ∧ I (y + 3) w = nI (catN (cl.take (i + 1))).length
theorem catN_take (cl : List cls) (i : Nat) : (catN (cl.take i)).length ≤ (catN cl).length := by
  have : catN cl = catN (cl.take i) ++ catN (cl.drop i) := by
    rw [catN, catN, catN, ← List.flatMap_append, List.take_append_drop]
  rw [this, List.length_append]
  omega
theorem nI_m1 {x : Nat} (h : x < 2 ^ 31) : ¬ nI x = -1 := fun e => by
  have h1 := nI_pos h
  rw [e] at h1
  exact h1 (by decide)
theorem rpL_told {I : gI} {y w : Nat} {cl : List cls} (h : rpL I y cl) (hw : w < 3) (hc : (catN cl).length < 2 ^ 31) : I (y + 2) w = -1 ↔ ¬ tldN w cl := by
  rcases h.2.2.2.2 w hw with ⟨a, b⟩ | ⟨i, c, e1, e2, e3, e4⟩
  · exact ⟨fun _ => b, fun _ => a⟩
  · have := catN_take cl i
    refine ⟨fun q => absurd (e3.symm.trans q) (nI_m1 (by omega)), fun q => absurd ⟨c, List.mem_of_getElem? e1, e2⟩ q⟩
theorem snoc_at {cl : List cls} {c d : cls} {k : Nat} (h : (cl ++ [c])[k]? = some d) : (k < cl.length ∧ cl[k]? = some d) ∨ (k = cl.length ∧ d = c) := by
  rcases Nat.lt_or_ge k cl.length with q | q
  · rw [List.getElem?_append_left q] at h; exact Or.inl ⟨q, h⟩
  · rw [List.getElem?_append_right q] at h
    have : k - cl.length < 1 := (List.getElem?_eq_some_iff.mp h).1
    have e : k = cl.length := by omega
    rw [e, Nat.sub_self] at h
    cases h
    exact Or.inr ⟨e, rfl⟩
theorem rpL_snoc {I I' : gI} {y : Nat} {cl : List cls} {c : cls} (h : rpL I y cl) (h7 : I' y 7 = nI (cl.length + 1)) (h1 : I' y 1 = nI (catN cl ++ c.2.2.2).length) (hs : lsN (I' (y + 1)) (catN cl ++ c.2.2.2))
    (h4 : ∀ k, k < cl.length → I' (y + 4) k = I (y + 4) k ∧ I' (y + 5) k = I (y + 5) k ∧ I' (y + 6) k = I (y + 6) k) (hk : I' (y + 4) cl.length = nI c.1 ∧ c.1 ≤ 6 ∧ (3 ≤ c.1 → I' (y + 5) cl.length = c.2.1) ∧ (c.1 = 3 ∨ c.1 = 4 → I' (y + 6) cl.length = c.2.2.1))
    (hw : ∀ w, w < 3 → w ≠ c.1 → I' (y + 2) w = I (y + 2) w ∧ I' (y + 3) w = I (y + 3) w) (hc : c.1 < 3 → I' (y + 2) c.1 = nI (catN cl).length ∧ I' (y + 3) c.1 = nI (catN cl ++ c.2.2.2).length) : rpL I' y (cl ++ [c]) := by
  obtain ⟨g7, g1, gs, g4, gw⟩ := h
  refine ⟨by rw [h7]; simp, by rw [catN_snoc]; exact h1, by rw [catN_snoc]; exact hs, fun k d hd => ?_, fun w hw3 => ?_⟩
  · rcases snoc_at hd with ⟨q1, q2⟩ | ⟨q1, q2⟩
    · obtain ⟨a, b, e⟩ := h4 k q1
      rw [a, b, e]
      exact g4 k d q2
    · subst q1; subst q2; exact hk
  · by_cases e : w = c.1
    · subst e
      right
      refine ⟨cl.length, c, by simp, rfl, ?_, ?_⟩
      · rw [(hc hw3).1]; simp
      · rw [(hc hw3).2, List.take_of_length_le (by simp), catN_snoc]
    · obtain ⟨a, b⟩ := hw w hw3 e
      rcases gw w hw3 with ⟨q1, q2⟩ | ⟨i, d, q1, q2, q3, q4⟩
      · left
        refine ⟨a.trans q1, fun ⟨x, hx, ex⟩ => ?_⟩
        rcases List.mem_append.mp hx with z | z
        · exact q2 ⟨x, z, ex⟩
        · simp at z; subst z; exact e ex.symm
      · right
        have hi : i < cl.length := (List.getElem?_eq_some_iff.mp q1).1
        refine ⟨i, d, by rw [List.getElem?_append_left hi]; exact q1, q2, ?_, ?_⟩
        · rw [a, q3, List.take_append_of_le_length (by omega)]
        · rw [b, q4, List.take_append_of_le_length (by omega)]
def CF (tk : Nat) (cl : List cls) (k : Nat) : Prop := (6 < tk ∧ k = 1) ∨ (tk ≤ 2 ∧ tldN tk cl ∧ k = 4) ∨ (tk ≤ 6 ∧ ¬ (tk ≤ 2 ∧ tldN tk cl) ∧ 24 ≤ cl.length ∧ k = 6)
/-- one clause -/
def CW (T : Nat → Nat) (n pl tk _v a : Nat) (cl : List cls) (σ' : rds) (cl' : List cls) : Prop :=
  (∃ k, CF tk cl k ∧ σ' = .inl (k, pl)) ∨
  (tk ≤ 2 ∧ ¬ tldN tk cl ∧ cl.length < 24 ∧ ∃ pl1 tk1 v1 a1 m, Lx T n a pl1 tk1 v1 a1 ∧ ((∃ f, RLw T n tk m pl1 tk1 v1 a1 s0L (.inl f) ∧ σ' = .inl f) ∨ ∃ pl' tk' v' a' code, RLw T n tk m pl1 tk1 v1 a1 s0L (.inr (pl', tk', v', a', code)) ∧ σ' = .inr (pl', tk', v', a') ∧ cl' = cl ++ [(tk, 0, 0, code)])) ∨
  (3 ≤ tk ∧ tk ≤ 6 ∧ cl.length < 24 ∧ ∃ pl1 tk1 v1 a1 z w, Lx T n a pl1 tk1 v1 a1 ∧ DR T n tk (.inr (pl1, tk1, v1, a1)) σ' z w ∧ cl' = cl ++ [(tk, z, w, [])])
def frY (I I' : gI) (y : Nat) : Prop := (∀ c, c ≠ 306 → c ≠ 308 → ¬ (y ≤ c ∧ c ≤ y + 6) → I' c = I c) ∧ I' 306 1 = I 306 1
theorem frY.refl (I : gI) (y : Nat) : frY I I y := ⟨fun _ _ _ _ => rfl, rfl⟩
theorem frY.trans {I J K : gI} {y : Nat} (h : frY I J y) (g : frY J K y) : frY I K y := ⟨fun c a b d => (g.1 c a b d).trans (h.1 c a b d), g.2.trans h.2⟩
/-- a deed's places: ever further on -/
theorem NU_pl {T : Nat → Nat} {n lo hi pl tk v a pl' tk' v' a' : Nat} {σ : rds} {z : Int32} (h : NU T n lo hi σ (.inr (pl', tk', v', a')) z) (hs : ∀ q, σ = .inr q → pl ≤ q.1 ∧ ∃ p, Lx T n p q.1 q.2.1 q.2.2.1 q.2.2.2) : pl ≤ pl' ∧ ∃ p, Lx T n p pl' tk' v' a' := by
  rcases h with ⟨f, -, e⟩ | ⟨pl1, tk1, v1, a1, e, ⟨-, q⟩ | ⟨-, -, q⟩ | ⟨h1, -, -, -, pl2, tk2, v2, a2, hL, q⟩⟩
  · cases e
  · cases q
  · cases q
  · cases q
    obtain ⟨b1, p, b2⟩ := hs _ e
    have b1 : pl ≤ pl1 := b1
    have b2 : Lx T n p pl1 tk1 v1 a1 := b2
    have := Lx_adv b2
    have := Lx_adv hL
    exact ⟨by omega, _, hL⟩
theorem EX_pl {T : Nat → Nat} {n due pl pl' tk' v' a' : Nat} {σ : rds} (h : EX T n due σ (.inr (pl', tk', v', a'))) (hs : ∀ q, σ = .inr q → pl ≤ q.1 ∧ ∃ p, Lx T n p q.1 q.2.1 q.2.2.1 q.2.2.2) : pl ≤ pl' ∧ ∃ p, Lx T n p pl' tk' v' a' := by
  rcases h with ⟨f, -, e⟩ | ⟨pl1, tk1, v1, a1, e, ⟨-, q⟩ | ⟨h1, pl2, tk2, v2, a2, hL, q⟩⟩
  · cases e
  · cases q
  · cases q
    obtain ⟨b1, p, b2⟩ := hs _ e
    have b1 : pl ≤ pl1 := b1
    have b2 : Lx T n p pl1 tk1 v1 a1 := b2
    have := Lx_adv b2
    have := Lx_adv hL
    exact ⟨by omega, _, hL⟩
theorem DR_pl {T : Nat → Nat} {n vb pl tk v a p pl' tk' v' a' : Nat} {z w : Int32} (h : DR T n vb (.inr (pl, tk, v, a)) (.inr (pl', tk', v', a')) z w) (hL : Lx T n p pl tk v a) : pl ≤ pl' := by
  have s0 : ∀ q, (.inr (pl, tk, v, a) : rds) = .inr q → pl ≤ q.1 ∧ ∃ p, Lx T n p q.1 q.2.1 q.2.2.1 q.2.2.2 := fun q e => by cases e; exact ⟨Nat.le_refl _, p, hL⟩
  have nu : ∀ {lo hi : Nat} {σ σ' : rds} {z : Int32}, NU T n lo hi σ σ' z → (∀ q, σ = .inr q → pl ≤ q.1 ∧ ∃ p, Lx T n p q.1 q.2.1 q.2.2.1 q.2.2.2) → ∀ q, σ' = .inr q → pl ≤ q.1 ∧ ∃ p, Lx T n p q.1 q.2.1 q.2.2.1 q.2.2.2 := fun h hs q e => by subst e; exact NU_pl (tk := 0) (v := 0) (a := 0) h hs
  have ex : ∀ {due : Nat} {σ σ' : rds}, EX T n due σ σ' → (∀ q, σ = .inr q → pl ≤ q.1 ∧ ∃ p, Lx T n p q.1 q.2.1 q.2.2.1 q.2.2.2) → ∀ q, σ' = .inr q → pl ≤ q.1 ∧ ∃ p, Lx T n p q.1 q.2.1 q.2.2.1 q.2.2.2 := fun h hs q e => by subst e; exact EX_pl h hs
  rcases h with ⟨-, σ1, σ2, σ3, a1, a2, a3, a4⟩ | ⟨-, σ1, σ2, σ3, a1, a2, a3, a4⟩ | ⟨-, σ1, a1, a2⟩ | ⟨-, σ1, a1, a2⟩
  · exact (ex a4 (nu a3 (ex a2 (nu a1 s0))) _ rfl).1
  · exact (ex a4 (nu a3 (ex a2 (nu a1 s0))) _ rfl).1
  · exact (ex a2 (nu a1 s0) _ rfl).1
  · exact (ex a2 (nu a1 s0) _ rfl).1
theorem k_X3_readClause {G : gG} {I : gI} {R : gR} {L : gL} {Q : gQ} {T : Nat → Nat} {n y pl tk v a : Nat} {cl : List cls} (hR : g_Fx R) (hr : R 306 6 = some y) (hy : g_La y) (hT : tpT I T n) (h7 : I 306 7 = 0) (h8 : I 306 8 = -1) (hlx : lxR I n pl tk v a) (hLx : ∃ p, Lx T n p pl tk v a) (h38 : tk ≠ 38) (hc : rpL I y cl) (hcl : cl.length ≤ 24) (hpl : (catN cl).length ≤ pl)
    (hq : ∀ I' σ' cl', CW T n pl tk v a cl σ' cl' → rdS I' T n σ' → (∀ q, σ' = .inr q → rpL I' y cl' ∧ (catN cl').length ≤ q.1 ∧ cl'.length = cl.length + 1) → frY I I' y → Q none SH I' R L) : Mt G mX3_readClause 12 0 0 [.ref 306, .int (nI cl.length)] SH I R L Q := by
  have hr2 := La_rng hy
  have hn := hT.1
  obtain ⟨p, hp⟩ := hLx
  obtain ⟨x1, x2, x3, x4, x5, x6, x7, x8⟩ := Lx_adv hp
  have xa := x5 h38
  obtain ⟨l1, l2, l3, l4, l5⟩ := hlx
  have flt : ∀ k, CF tk cl k → k ≠ 0 → k ≤ 6 → Q none SH (failI I (nI k)) R L := fun k hk k0 k6 => by
    have ff := rdS_f (T := T) (n := n) (k := k) h7 l4 x4 k0 k6
    exact hq _ _ cl (Or.inl ⟨k, hk, rfl⟩) ff.1 (fun q e => by cases e) ⟨fun c a _ _ => ff.2.1 c a, ff.2.2⟩
  have b47 : tk ≤ 6 → ¬ (tk ≤ 2 ∧ tldN tk cl) → Go G mX3_readClause 12 0 0 47 [some (.ref 306), some (.int (nI cl.length)), some (.int (nI tk))] [] SH I R L Q := by
    intro t6 nt
    refine b_X3_readClause_47 hR ?_
    rw [show (nI cl.length < 24) = (nI cl.length < nI 24) from rfl, nltI (by omega) (by decide), nI_clamp (by omega)]
    refine ⟨fun c => ⟨y, hr, hy, vp_in_nI c (by decide), ?_⟩, fun c => ?_⟩
    · rintro _ rfl
      refine ⟨y, hr, hy, ?_⟩
      rintro _ rfl
      rw [nI_1]
      have t1 : tpT (up (up I (y + 4) cl.length (nI tk)) y 7 (nI (cl.length + 1))) T n := tpT_up (tpT_up hT (by omega)) (by omega)
      refine k_X3_advance (p := a) hR t1 (by rw [up_nc (by omega), up_nc (by omega)]; exact l1) (by rw [up_nc (by omega), up_nc (by omega)]; exact l2) (by omega) (fun pl1 tk1 v1 a1 x hL hx => b_X3_readClause_86 hR ?_)
      have y1 := Lx_adv hL
      -- the memory behind the verb
      generalize hJ : avI (up (up I (y + 4) cl.length (nI tk)) y 7 (nI (cl.length + 1))) pl1 tk1 x a1 = J
      have jo : ∀ c j, c ≠ 306 → J c j = up (up I (y + 4) cl.length (nI tk)) y 7 (nI (cl.length + 1)) c j := fun c j q => by rw [← hJ]; exact av_o (Or.inl q)
      have jx : lxR J n pl1 tk1 v1 a1 := by rw [← hJ]; exact lxR_av (by rw [up_nc (by omega), up_nc (by omega)]; exact l1) hx
      have j7 : J 306 7 = 0 := by rw [← hJ, av_o (by omega), up_nc (by omega), up_nc (by omega)]; exact h7
      have j8 : J 306 8 = -1 := by rw [← hJ, av_o (by omega), up_nc (by omega), up_nc (by omega)]; exact h8
      have jT : tpT J T n := by rw [← hJ]; exact tpT_av t1
      have j1 : J y 1 = nI (catN cl).length := by rw [jo _ _ (by omega), up_ni (by decide), up_nc (by omega)]; exact hc.2.1
      have js : lsN (J (y + 1)) (catN cl) := lsN_of (fun k _ => by rw [jo _ _ (by omega), up_nc (by omega), up_nc (by omega)]) hc.2.2.1
      have jY : frY I J y := ⟨fun c q1 q2 q3 => by funext j; rw [jo c j q1, up_nc (by omega), up_nc (by omega)], by rw [← hJ, av_o (by omega), up_nc (by omega), up_nc (by omega)]⟩
      have j47 : J y 7 = nI (cl.length + 1) := by rw [jo _ _ (by omega), up_eq]
      have j4 : J (y + 4) cl.length = nI tk := by rw [jo _ _ (by omega), up_nc (by omega), up_eq]
      have jk : ∀ c j, c ≠ 306 → c ≠ y → ¬ (c = y + 4 ∧ j = cl.length) → J c j = I c j := fun c j q1 q2 q3 => by rw [jo c j q1, up_nc (by omega), up_ne q3]
      rw [show ((2 : Int32) < nI tk) = (nI 2 < nI tk) from rfl, nltI (by decide) (by omega)]
      refine ⟨fun c2 => ?_, fun c2 => ?_⟩
      · refine k_X3_readDeed (σ := .inr (pl1, tk1, v1, a1)) hR hr hy jT (Or.inr ⟨_, _, _, _, rfl, j7, j8, jx, _, hL⟩) (by omega) t6 c (fun I' σ' z w hD hS hF hz hw => b_X3_readClause_105 hR ?_)
        have nf : ∀ c j, c ≠ 306 → ¬ (c = y + 5 ∧ j = cl.length) → ¬ (c = y + 6 ∧ j = cl.length) → c ≠ y → ¬ (c = y + 4 ∧ j = cl.length) → I' c j = I c j := fun c j q1 q2 q3 q4 q5 => by rw [hF.1 c j q1 q2 q3, jk c j q1 q4 q5]
        refine hq I' σ' (cl ++ [(tk, z, w, [])]) (Or.inr (Or.inr ⟨by omega, t6, c, pl1, tk1, v1, a1, z, w, hL, hD, rfl⟩)) hS (fun q e => ⟨?_, ?_, by simp⟩) ?_
        · refine rpL_snoc hc ?_ ?_ ?_ (fun k hk => ⟨?_, ?_, ?_⟩) ⟨?_, t6, fun _ => hz, fun q => hw (by rcases q with q | q <;> simp only at q <;> omega)⟩ (fun w hw3 _ => ⟨?_, ?_⟩) (fun q => by simp only at q; omega)
          · rw [hF.1 _ _ (by omega) (by omega) (by omega)]; exact j47
          · rw [hF.1 _ _ (by omega) (by omega) (by omega), List.append_nil]; exact j1
          · rw [List.append_nil]; exact lsN_of (fun k _ => by rw [hF.1 _ _ (by omega) (by omega) (by omega)]) js
          · exact nf _ _ (by omega) (by omega) (by omega) (by omega) (by omega)
          · exact nf _ _ (by omega) (by omega) (by omega) (by omega) (by omega)
          · exact nf _ _ (by omega) (by omega) (by omega) (by omega) (by omega)
          · rw [hF.1 _ _ (by omega) (by omega) (by omega)]; exact j4
          · exact nf _ _ (by omega) (by omega) (by omega) (by omega) (by omega)
          · exact nf _ _ (by omega) (by omega) (by omega) (by omega) (by omega)
        · obtain ⟨pl', tk', v', a'⟩ := q
          subst e
          have := DR_pl hD hL
          rw [catN_snoc]
          simp only [List.append_nil]
          omega
        · exact jY.trans ⟨fun c q1 q2 q3 => by funext j; exact hF.1 c j q1 (by omega) (by omega), hF.2⟩
      · refine k_X3_readLaw (pre := catN cl) hR hr hy jT jx ⟨_, hL⟩ (by omega) j7 j1 js (by omega) (fun I' hO => b_X3_readClause_96 hR (b_X3_readClause_105 hR ?_))
        obtain ⟨hF, hO⟩ := hO
        have hYY : frY I I' y := jY.trans ⟨fun c q1 q2 q3 => by funext j; exact hF.1 c j q1 q2 (by omega) (by omega) (by omega) (by omega), hF.2⟩
        have ntl : ¬ tldN tk cl := fun q => nt ⟨by omega, q⟩
        rcases hO with ⟨m, k, p', hm, k0, k6, hp', e7, e8⟩ | ⟨m, pl', tk', v', a', code, hm, hx', hL', e7, e8', e1, es, e2, e3, hlen⟩
        · exact hq I' (.inl (k, p')) cl (Or.inr (Or.inl ⟨by omega, ntl, c, pl1, tk1, v1, a1, m, hL, Or.inl ⟨_, hm, rfl⟩⟩)) (Or.inl ⟨k, p', rfl, k0, k6, hp', e7, e8⟩) (fun q e => by cases e) hYY
        · refine hq I' (.inr (pl', tk', v', a')) (cl ++ [(tk, 0, 0, code)]) (Or.inr (Or.inl ⟨by omega, ntl, c, pl1, tk1, v1, a1, m, hL, Or.inr ⟨pl', tk', v', a', code, hm, rfl, rfl⟩⟩)) (Or.inr ⟨pl', tk', v', a', rfl, e7, e8'.trans j8, hx', hL'⟩) (fun q e => ?_) hYY
          cases e
          have nf : ∀ c j, c ≠ 306 → c ≠ 308 → c ≠ y → c ≠ y + 1 → ¬ (c = y + 2 ∧ j = tk) → ¬ (c = y + 3 ∧ j = tk) → ¬ (c = y + 4 ∧ j = cl.length) → I' c j = I c j := fun c j q1 q2 q3 q4 q5 q6 q7 => by rw [hF.1 c j q1 q2 (by omega) q4 q5 q6, jk c j q1 q3 q7]
          refine ⟨rpL_snoc hc ?_ e1 es (fun k hk => ⟨?_, ?_, ?_⟩) ⟨?_, t6, fun q => by simp only at q; omega, fun q => by simp only at q; omega⟩ (fun w hw3 hne => ⟨?_, ?_⟩) (fun _ => ⟨e2, e3⟩), ?_, by simp⟩
          · rw [hF.1 y 7 (by omega) (by omega) (by omega) (by omega) (by omega) (by omega)]; exact j47
          · exact nf _ _ (by omega) (by omega) (by omega) (by omega) (by omega) (by omega) (by omega)
          · exact nf _ _ (by omega) (by omega) (by omega) (by omega) (by omega) (by omega) (by omega)
          · exact nf _ _ (by omega) (by omega) (by omega) (by omega) (by omega) (by omega) (by omega)
          · rw [hF.1 (y + 4) cl.length (by omega) (by omega) (by omega) (by omega) (by omega) (by omega)]; exact j4
          · simp only at hne; exact nf _ _ (by omega) (by omega) (by omega) (by omega) (by omega) (by omega) (by omega)
          · simp only at hne; exact nf _ _ (by omega) (by omega) (by omega) (by omega) (by omega) (by omega) (by omega)
          · rw [catN_snoc]; simp only; omega
    · rintro _ rfl
      exact flt 6 (Or.inr (Or.inr ⟨t6, nt, by omega, rfl⟩)) (by decide) (by decide)
  refine e_X3_readClause hR ?_
  rw [l3]
  rintro _ rfl
  rw [show (nI tk ≤ 6) = (nI tk ≤ nI 6) from rfl, nleI (by omega) (by decide), show ((2 : Int32) < nI tk) = (nI 2 < nI tk) from rfl, nltI (by decide) (by omega), nI_clamp (by omega)]
  refine ⟨fun c => absurd c (nI_pos (by omega)), fun _ => ⟨fun c => ⟨fun c2 => b47 c (fun q => by omega), fun c2 => ⟨y, hr, hy, vp_in_nI (by omega) (by decide), ?_⟩⟩, fun c => ?_⟩⟩
  · rw [rpL_told hc (by omega) (by omega)]
    refine ⟨fun c3 => b47 c (fun q => c3 (fun z => z q.2)), fun c3 => ?_⟩
    rintro _ rfl
    exact flt 4 (Or.inr (Or.inl ⟨by omega, Classical.not_not.mp c3, rfl⟩)) (by decide) (by decide)
  · rintro _ rfl
    exact flt 1 (Or.inl ⟨by omega, rfl⟩) (by decide) (by decide)
