def loP (c : Nat → Nat) (I : gI) (a b : Int32) : Prop := ∃ m j, m ≤ 6 ∧ a = nI m ∧ j < fa m ∧ b = nI j ∧ ∀ i, i < m → I 335 i = nI (c i)
def loQ (c : Nat → Nat) (I : gI) (a b : Int32) (I1 : gI) : Prop := (∀ x, x ≠ 336 → I1 x = I x) ∧ ∀ i, i < a.toNatClampNeg → I1 336 i = nI ((nthF a.toNatClampNeg c b.toNatClampNeg).getD i 0)
theorem fa_le : ∀ n, n ≤ 6 → fa n ≤ 720 := by decide
theorem k_X7_laysOrder2 {G : gG} {I : gI} {R : gR} {L : gL} {Q : gQ} {a b : Int32} {c : Nat → Nat} (hR : g_Fx R) (p0 : loP c I a b) (hq : ∀ I1 : gI, loQ c I a b I1 → Q none SH I1 R L) : Mt G mX7_laysOrder 5 0 0 [.ref 310, .int a, .int b] SH I R L Q := by
  obtain ⟨m, j, hm, ea, hj, eb, hc⟩ := p0
  have := fa_le m hm
  refine k_X7_laysOrder hR hm ea hj eb hc (fun I1 h => hq I1 ⟨h.1, ?_⟩)
  rw [ea, eb, nI_clamp (by omega), nI_clamp (by omega)]
  exact h.2
def sz (v : Int32) : Int32 := if v < 0 then -v else v
theorem k_X7_size2 {G : gG} {I : gI} {R : gR} {L : gL} {Q : gQ} {v : Int32} (hR : g_Fx R) (hq : Q (some (.int (sz v))) SH I R L) : Mt G mX7_size 1 0 0 [.int v] SH I R L Q := k_X7_size hR hq
theorem sz_ti {v : Int32} (h1 : -100000 ≤ v.toInt) (h2 : v.toInt ≤ 100000) : (sz v).toInt = v.toInt.natAbs := by
  have z0 : (0 : Int32).toInt = 0 := rfl
  unfold sz
  by_cases c : v < 0
  · rw [if_pos c]; rw [ti_lt, z0] at c
    rw [ti_neg] <;> omega
  · rw [if_neg c]; rw [ti_lt, z0] at c; omega
theorem nthF_mem : ∀ {m : Nat} {P : Nat → Prop} {c : Nat → Nat} {j : Nat}, sq P c m → j < fa m → ∀ e ∈ nthF m c j, P e
  | 0, _, _, _, _, _ => fun e he => by simp [nthF] at he
  | m + 1, P, c, j, h, hj => fun e he => by
    have hq : j / fa m < m + 1 := Nat.div_lt_of_lt_mul (by rw [Nat.mul_comm]; exact hj)
    simp only [nthF] at he
    rcases List.mem_cons.mp he with g | g
    · rw [g]; exact h.2.1 _ hq
    · exact (nthF_mem (sq_rm h (q := j / fa m) (by omega)) (Nat.mod_lt _ (fa_pos m)) e g).1
theorem foS_len {T : List Nat → Int} {f : Nat → List Nat} {m M : Nat} (hf : ∀ j, (f j).length = m) (hT : ∀ j, j < M → (T (f j)).natAbs < 9999) : ∀ n, n + 1 ≤ M → (foS T f (n + 1) (-9999, [])).2.length = m
  | 0, h => by
    show (up1 T (-9999, []) (f 0)).2.length = m
    unfold up1
    rw [if_pos (show (T (f 0)).natAbs < ((-9999 : Int), ([] : List Nat)).1.natAbs from hT 0 (by omega))]
    exact hf 0
  | n + 1, h => by
    have ih := foS_len hf hT n (by omega)
    show (up1 T (foS T f (n + 1) (-9999, [])) (f (n + 1))).2.length = m
    unfold up1
    split
    · exact hf _
    · exact ih
/-- the plain form's scratch alone -/
def mo2 (I K : gI) : Prop := (∀ a, a < 321 → a ≠ 310 → K a = I a) ∧ ∀ j, j ≠ 41 → K 310 j = I 310 j
theorem mo2_rfl (I : gI) : mo2 I I := ⟨fun _ _ _ => rfl, fun _ _ => rfl⟩
theorem mo2_tr {I J K : gI} (h : mo2 I J) (g : mo2 J K) : mo2 I K := ⟨fun a h1 h2 => (g.1 a h1 h2).trans (h.1 a h1 h2), fun j hj => (g.2 j hj).trans (h.2 j hj)⟩
theorem mo2_of {I K : gI} (h : mo I K) : mo2 I K := ⟨fun a h1 h2 => h.1 a (by omega) (by omega) (by omega) h2, h.2⟩
theorem mo2_off {I K : gI} {c : Nat} (hc : 321 ≤ c) (h : ∀ a, a ≠ c → K a = I a) : mo2 I K := ⟨fun a h1 _ => h a (by omega), fun j _ => by rw [h 310 (by omega)]⟩
theorem mo2_th {I K : gI} (h : mo2 I K) : thM K = thM I ∧ (okN I → okN K) := (thM_congr (h.1 _ (by decide) (by decide)) (h.1 _ (by decide) (by decide)) (h.1 _ (by decide) (by decide)) (h.1 _ (by decide) (by decide)) (h.1 _ (by decide) (by decide)) (h.1 _ (by decide) (by decide))).2
theorem mo2_Rel {I K : gI} {R : gR} (r : Rel I R) (h : mo2 I K) : Rel K R := Rel_scr r (fun a _ a2 => h.1 a (by omega) (by omega)) (by rw [h.1 1 (by decide) (by decide)]) (by rw [h.1 1 (by decide) (by decide)]) (h.2 3 (by decide)) (h.2 4 (by decide)) (h.2 5 (by decide))
theorem mo2_dy {I K : gI} (h : mo2 I K) : eqD (dyM (layI K)) (dyF (I 311)) := by
  have := lay_dy K
  rw [h.1 311 (by decide) (by decide)] at this
  exact this
theorem rwB_iff {g : Nat → Int32} {s : Nat} : ∀ n e, rwB g s n e = true ↔ ∀ i, e ≤ i → i < e + n → ¬ (s.testBit i = true ∧ g i = 2)
  | 0, e => ⟨fun _ i h1 h2 => by omega, fun _ => rfl⟩
  | n + 1, e => by
    have e0 : rwB g s (n + 1) e = if s.testBit e = true ∧ g e = 2 then false else rwB g s n (e + 1) := rfl
    rw [e0]
    by_cases c : s.testBit e = true ∧ g e = 2
    · rw [if_pos c]
      exact ⟨fun h => absurd h (by decide), fun h => absurd c (h e (Nat.le_refl _) (by omega))⟩
    · rw [if_neg c, rwB_iff n (e + 1)]
      refine ⟨fun h i h1 h2 => ?_, fun h i h1 h2 => h i (by omega) (by omega)⟩
      by_cases hi : i = e
      · rw [hi]; exact c
      · exact h i (by omega) (by omega)
theorem e_X7_called {G : gG} {I : gI} {R : gR} {L : gL} {Q : gQ} {cc : Nat → Nat} {a b c : Int32} (hR : g_Fx R) (h : (¬ ((1 : Int32) ≤ a ∧ a ≤ ((1 <<< ((I 311 0) &&& 31)) - 1)) → Q (some (.int (-9999))) SH I R L) ∧ ((1 : Int32) ≤ a ∧ a ≤ ((1 <<< ((I 311 0) &&& 31)) - 1) → (¬ (b = 0 ∨ b = 1) → Q (some (.int (-9999))) SH I R L) ∧ (b = 0 ∨ b = 1 → ((-1) ≤ c → Go G mX7_called 30 0 0 40 [some (.ref 310), some (.int a), some (.int b), some (.int c), some (.int 0), some (.int 0), none, none, none, none] [] SH I R L Q) ∧ (¬ (-1) ≤ c → Q (some (.int (-9999))) SH I R L)))) : Mt G mX7_called 30 0 0 [.ref 310, .int a, .int b, .int c] SH I R L Q := by
  refine go_start rfl (Nat.le_of_ble_eq_true rfl) rfl ?_
  refine go_iload_n dX7_called_0 rfl ?_
  refine go_iconst (v := 1) dX7_called_1 (by decide) ?_
  refine go_iconst (v := 1) dX7_called_2 (by decide) ?_
  refine go_aload_n dX7_called_3 rfl ?_
  refine go_getR dX7_called_4 fX7_7 rfl rfl (hR 310 0 311 rfl) ?_
  refine go_iconst (v := 0) dX7_called_7 (by decide) ?_
  refine go_ialdK dX7_called_8 rfl (vp_in_nI (n := 0) (by decide) (by decide)) (k := 0) (by decide) ?_
  refine go_ishl dX7_called_9 ?_
  refine go_iconst (v := 1) dX7_called_10 (by decide) ?_
  refine go_isub dX7_called_11 ?_
  refine go_callS0 (μ := mX7_called) [.int _, .int _, .int _] dX7_called_12 YX7_in lX7_110 rfl (Nat.le_of_ble_eq_true rfl) (Nat.le_of_ble_eq_true rfl) rfl (k_X7_in hR ?_)
  refine go_if_eq 30 dX7_called_15 (by decide) (fun c => ?_) (fun c => ?_)
  · have h := h.1 (b0.mp c)
    refine go_sipush (v := -9999) dX7_called_30 (by decide) ?_
    exact go_iret dX7_called_33 rfl rfl h
  · have h := h.2 (b1.mp c)
    refine go_iload_n dX7_called_18 rfl ?_
    refine go_callS0 (μ := mX7_called) [.int _] dX7_called_19 YX7_isOne lX7_114 rfl (Nat.le_of_ble_eq_true rfl) (Nat.le_of_ble_eq_true rfl) rfl (k_X7_isOne hR ?_)
    refine go_if_eq 30 dX7_called_22 (by decide) (fun c => ?_) (fun c => ?_)
    · have h := h.1 (b0.mp c)
      refine go_sipush (v := -9999) dX7_called_30 (by decide) ?_
      exact go_iret dX7_called_33 rfl rfl h
    · have h := h.2 (b1.mp c)
      refine go_iload_n dX7_called_25 rfl ?_
      refine go_iconst (v := -1) dX7_called_26 (by decide) ?_
      refine go_icmp_ge 34 dX7_called_27 (by decide) (fun c => ?_) (fun c => ?_)
      · have h := h.1 c
        refine go_iconst (v := 0) dX7_called_34 (by decide) ?_
        refine go_istore dX7_called_35 (Nat.le_of_ble_eq_true rfl) rfl ?_
        refine go_iconst (v := 0) dX7_called_37 (by decide) ?_
        refine go_istore dX7_called_38 (Nat.le_of_ble_eq_true rfl) rfl ?_
        exact h
      · have h := h.2 c
        refine go_sipush (v := -9999) dX7_called_30 (by decide) ?_
        exact go_iret dX7_called_33 rfl rfl h
theorem b_X7_called_40 {G : gG} {I : gI} {R : gR} {L : gL} {Q : gQ} {cc : Nat → Nat} {v1 v2 v3 v4 v5 : Int32} (hR : g_Fx R) (h : ((I 311 0) ≤ v5 → (v3 < v4 → Go G mX7_called 30 0 0 123 [some (.ref 310), none, some (.int v2), some (.int v3), some (.int v4), some (.int 0), some (.int 0), some (.int 0), none, none] [] SH I R L Q) ∧ (¬ v3 < v4 → Q (some (.int (-9999))) SH I R L)) ∧ (¬ (I 311 0) ≤ v5 → (¬ ((v1 >>> (v5 &&& 31)) &&& 1) = 1 → ∀ v5_5 : Int32, v5_5 = v5 + 1 → Go G mX7_called 30 0 0 40 [some (.ref 310), some (.int v1), some (.int v2), some (.int v3), some (.int v4), some (.int v5_5), none, none, none, none] [] SH I R L Q) ∧ (((v1 >>> (v5 &&& 31)) &&& 1) = 1 → (v4 = 6 → Q (some (.int (-9999))) SH I R L) ∧ (¬ v4 = 6 → vp_in (114 + v5) 11120 ∧ ((¬ (I 311 (114 + v5).toNatClampNeg) = 2 → vp_in v4 6 ∧ (∀ I_6 : gI, I_6 = up I 335 v4.toNatClampNeg v5 → ∀ v4_7 : Int32, v4_7 = v4 + 1 → ∀ v5_8 : Int32, v5_8 = v5 + 1 → Go G mX7_called 30 0 0 40 [some (.ref 310), some (.int v1), some (.int v2), some (.int v3), some (.int v4_7), some (.int v5_8), none, none, none, none] [] SH I_6 R L Q)) ∧ ((I 311 (114 + v5).toNatClampNeg) = 2 → Q (some (.int (-9999))) SH I R L)))))) : Go G mX7_called 30 0 0 40 [some (.ref 310), some (.int v1), some (.int v2), some (.int v3), some (.int v4), some (.int v5), none, none, none, none] [] SH I R L Q := by
  refine go_iload dX7_called_40 rfl ?_
  refine go_aload_n dX7_called_42 rfl ?_
  refine go_getR dX7_called_43 fX7_7 rfl rfl (hR 310 0 311 rfl) ?_
  refine go_iconst (v := 0) dX7_called_46 (by decide) ?_
  refine go_ialdK dX7_called_47 rfl (vp_in_nI (n := 0) (by decide) (by decide)) (k := 0) (by decide) ?_
  refine go_icmp_ge 104 dX7_called_48 (by decide) (fun c => ?_) (fun c => ?_)
  · have h := h.1 c
    refine go_iload_n dX7_called_104 rfl ?_
    refine go_iload dX7_called_105 rfl ?_
    refine go_icmp_lt 114 dX7_called_107 (by decide) (fun c => ?_) (fun c => ?_)
    · have h := h.1 c
      refine go_iconst (v := 0) dX7_called_114 (by decide) ?_
      refine go_istore dX7_called_115 (Nat.le_of_ble_eq_true rfl) rfl ?_
      refine go_iconst (v := 0) dX7_called_117 (by decide) ?_
      refine go_istore dX7_called_118 (Nat.le_of_ble_eq_true rfl) rfl ?_
      refine go_iconst (v := 0) dX7_called_120 (by decide) ?_
      refine go_istore dX7_called_121 (Nat.le_of_ble_eq_true rfl) rfl ?_
      refine go_drop 1 ?_
      exact h
    · have h := h.2 c
      refine go_sipush (v := -9999) dX7_called_110 (by decide) ?_
      exact go_iret dX7_called_113 rfl rfl h
  · have h := h.2 c
    refine go_iload_n dX7_called_51 rfl ?_
    refine go_iload dX7_called_52 rfl ?_
    refine go_ishr dX7_called_54 ?_
    refine go_iconst (v := 1) dX7_called_55 (by decide) ?_
    refine go_iand dX7_called_56 ?_
    refine go_iconst (v := 1) dX7_called_57 (by decide) ?_
    refine go_icmp_ne 98 dX7_called_58 (by decide) (fun c => ?_) (fun c => ?_)
    · have h := h.1 c
      refine go_iinc dX7_called_98 rfl (Nat.le_of_ble_eq_true rfl) rfl ?_
      have h := h _ rfl
      refine go_goto 40 dX7_called_101 (by decide) ?_
      exact h
    · have h := h.2 c
      refine go_iload dX7_called_61 rfl ?_
      refine go_bipush (v := 6) dX7_called_63 (by decide) ?_
      refine go_icmp_eq 82 dX7_called_65 (by decide) (fun c => ?_) (fun c => ?_)
      · have h := h.1 c
        refine go_sipush (v := -9999) dX7_called_82 (by decide) ?_
        exact go_iret dX7_called_85 rfl rfl h
      · have h := h.2 c
        refine go_aload_n dX7_called_68 rfl ?_
        refine go_getR dX7_called_69 fX7_7 rfl rfl (hR 310 0 311 rfl) ?_
        refine go_bipush (v := 114) dX7_called_72 (by decide) ?_
        refine go_iload dX7_called_74 rfl ?_
        refine go_iadd dX7_called_76 ?_
        obtain ⟨hi, h⟩ := h
        refine go_iald dX7_called_77 rfl hi ?_
        refine go_iconst (v := 2) dX7_called_78 (by decide) ?_
        refine go_icmp_ne 86 dX7_called_79 (by decide) (fun c => ?_) (fun c => ?_)
        · have h := h.1 c
          refine go_aload_n dX7_called_86 rfl ?_
          refine go_getR dX7_called_87 fX7_91 rfl rfl (hR 310 42 335 rfl) ?_
          refine go_iload dX7_called_90 rfl ?_
          refine go_iload dX7_called_92 rfl ?_
          obtain ⟨hi, h⟩ := h
          refine go_iast dX7_called_94 rfl hi ?_
          have h := h _ rfl
          refine go_iinc dX7_called_95 rfl (Nat.le_of_ble_eq_true rfl) rfl ?_
          have h := h _ rfl
          refine go_iinc dX7_called_98 rfl (Nat.le_of_ble_eq_true rfl) rfl ?_
          have h := h _ rfl
          refine go_goto 40 dX7_called_101 (by decide) ?_
          exact h
        · have h := h.2 c
          refine go_sipush (v := -9999) dX7_called_82 (by decide) ?_
          exact go_iret dX7_called_85 rfl rfl h
theorem b_X7_called_123 {G : gG} {I : gI} {R : gR} {L : gL} {Q : gQ} {cc : Nat → Nat} {v2 v3 v4 v5 v6 v7 : Int32} (hR : g_Fx R) (h : (0 ≤ v4.toInt ∧ v4.toInt ≤ 6) ∧ (((nI (fa v4.toNatClampNeg)) ≤ v7 → (¬ v3 = (-1) → vp_in v3 6 ∧ (Q (some (.int (I 337 v3.toNatClampNeg))) SH I R L)) ∧ (v3 = (-1) → Q (some (.int v6)) SH I R L)) ∧ (¬ (nI (fa v4.toNatClampNeg)) ≤ v7 → loP cc I v4 v7 ∧ (∀ I_16 : gI, loQ cc I v4 v7 I_16 → ∀ I_17 : gI, I_17 = layI I_16 → Go G mX7_called 30 0 0 148 [some (.ref 310), none, some (.int v2), some (.int v3), some (.int v4), some (.int v5), some (.int v6), some (.int v7), some (.int 0), none] [] SH I_17 R L Q)))) : Go G mX7_called 30 0 0 123 [some (.ref 310), none, some (.int v2), some (.int v3), some (.int v4), some (.int v5), some (.int v6), some (.int v7), none, none] [] SH I R L Q := by
  refine go_iload dX7_called_123 rfl ?_
  refine go_iload dX7_called_125 rfl ?_
  obtain ⟨hp_13, h⟩ := h
  refine go_callS0 (μ := mX7_called) [.int _] dX7_called_127 YX7_rows lX7_370 rfl (Nat.le_of_ble_eq_true rfl) (Nat.le_of_ble_eq_true rfl) rfl (k_X7_rows hR hp_13 ?_)
  refine go_icmp_ge 242 dX7_called_130 (by decide) (fun c => ?_) (fun c => ?_)
  · have h := h.1 c
    refine go_iload_n dX7_called_242 rfl ?_
    refine go_iconst (v := -1) dX7_called_243 (by decide) ?_
    refine go_icmp_ne 252 dX7_called_244 (by decide) (fun c => ?_) (fun c => ?_)
    · have h := h.1 c
      refine go_aload_n dX7_called_252 rfl ?_
      refine go_getR dX7_called_253 fX7_97 rfl rfl (hR 310 44 337 rfl) ?_
      refine go_iload_n dX7_called_256 rfl ?_
      obtain ⟨hi, h⟩ := h
      refine go_iald dX7_called_257 rfl hi ?_
      exact go_iret dX7_called_258 rfl rfl h
    · have h := h.2 c
      refine go_iload dX7_called_247 rfl ?_
      refine go_goto 258 dX7_called_249 (by decide) ?_
      exact go_iret dX7_called_258 rfl rfl h
  · have h := h.2 c
    refine go_aload_n dX7_called_133 rfl ?_
    refine go_iload dX7_called_134 rfl ?_
    refine go_iload dX7_called_136 rfl ?_
    obtain ⟨hp_15, h⟩ := h
    refine go_callV0 (μ := mX7_called) [.int _, .int _] dX7_called_138 YX7_laysOrder lX7_373 rfl ⟨_, rfl, rfl⟩ rfl (Nat.le_of_ble_eq_true rfl) (Nat.le_of_ble_eq_true rfl) rfl (k_X7_laysOrder2 hR hp_15 (fun I_16 hq => ?_))
    have h := h I_16 hq
    refine go_aload_n dX7_called_141 rfl ?_
    refine go_callV0 (μ := mX7_called) [] dX7_called_142 YX7_laysWorld lX7_349 rfl ⟨_, rfl, rfl⟩ rfl (Nat.le_of_ble_eq_true rfl) (Nat.le_of_ble_eq_true rfl) rfl (k_X7_laysWorld hR ?_)
    have h := h _ rfl
    refine go_iconst (v := 0) dX7_called_145 (by decide) ?_
    refine go_istore dX7_called_146 (Nat.le_of_ble_eq_true rfl) rfl ?_
    exact h
theorem b_X7_called_148 {G : gG} {I : gI} {R : gR} {L : gL} {Q : gQ} {cc : Nat → Nat} {v2 v3 v4 v5 v6 v7 v8 : Int32} (hR : g_Fx R) (h : (v4 ≤ v8 → ∀ v8_19 : Int32, v8_19 = I 333 0 + I 333 1 - I 333 2 - I 333 3 → (v5 = 0 → Go G mX7_called 30 0 0 209 [some (.ref 310), none, some (.int v2), some (.int v3), some (.int v4), some (.int 1), some (.int v8_19), some (.int v7), none, some (.int 0)] [] SH I R L Q) ∧ (¬ v5 = 0 → ((sz v6) ≤ (sz v8_19) → ∀ v7_20 : Int32, v7_20 = v7 + 1 → Go G mX7_called 30 0 0 123 [some (.ref 310), none, some (.int v2), some (.int v3), some (.int v4), some (.int v5), some (.int v6), some (.int v7_20), none, none] [] SH I R L Q) ∧ (¬ (sz v6) ≤ (sz v8_19) → Go G mX7_called 30 0 0 209 [some (.ref 310), none, some (.int v2), some (.int v3), some (.int v4), some (.int 1), some (.int v8_19), some (.int v7), none, some (.int 0)] [] SH I R L Q))) ∧ (¬ v4 ≤ v8 → vp_in v8 6 ∧ ((vp_in (I 336 v8.toNatClampNeg) 9) ∧ (vp_in v2 2 ∧ (okN I ∧ ((okD (dyM I)) ∧ (∀ r_27 : Int32, ∀ I_28 : gI, ∀ L_29 : gL, (r_27.toInt = spn (thM I) (dyM I) (I 336 v8.toNatClampNeg).toNatClampNeg v2.toInt ∧ dyM I_28 = eaD (dyM I) (I 336 v8.toNatClampNeg).toNatClampNeg v2.toInt (spn (thM I) (dyM I) (I 336 v8.toNatClampNeg).toNatClampNeg v2.toInt) ∧ (∀ a, a ≠ 331 → a ≠ 333 → a ≠ 334 → a ≠ 310 → I_28 a = I a) ∧ (∀ j, j ≠ 41 → I_28 310 j = I 310 j) ∧ ∀ a, a ≠ 332 → L_29 a = L a) → ∀ v8_30 : Int32, v8_30 = v8 + 1 → Go G mX7_called 30 0 0 148 [some (.ref 310), none, some (.int v2), some (.int v3), some (.int v4), some (.int v5), some (.int v6), some (.int v7), some (.int v8_30), none] [] SH I_28 R L_29 Q))))))) : Go G mX7_called 30 0 0 148 [some (.ref 310), none, some (.int v2), some (.int v3), some (.int v4), some (.int v5), some (.int v6), some (.int v7), some (.int v8), none] [] SH I R L Q := by
  refine go_iload dX7_called_148 rfl ?_
  refine go_iload dX7_called_150 rfl ?_
  refine go_icmp_ge 175 dX7_called_152 (by decide) (fun c => ?_) (fun c => ?_)
  · have h := h.1 c
    refine go_aload_n dX7_called_175 rfl ?_
    refine go_callV0 (μ := mX7_called) [] dX7_called_176 YX7_tilt lX7_340 rfl ⟨_, rfl, rfl⟩ rfl (Nat.le_of_ble_eq_true rfl) (Nat.le_of_ble_eq_true rfl) rfl (k_X7_tilt hR ?_)
    refine go_istore dX7_called_179 (Nat.le_of_ble_eq_true rfl) rfl ?_
    have h := h _ rfl
    refine go_iload dX7_called_181 rfl ?_
    refine go_if_eq 199 dX7_called_183 (by decide) (fun c => ?_) (fun c => ?_)
    · have h := h.1 c
      refine go_iconst (v := 1) dX7_called_199 (by decide) ?_
      refine go_istore dX7_called_200 (Nat.le_of_ble_eq_true rfl) rfl ?_
      refine go_iload dX7_called_202 rfl ?_
      refine go_istore dX7_called_204 (Nat.le_of_ble_eq_true rfl) rfl ?_
      refine go_iconst (v := 0) dX7_called_206 (by decide) ?_
      refine go_istore dX7_called_207 (Nat.le_of_ble_eq_true rfl) rfl ?_
      refine go_drop 8 ?_
      exact h
    · have h := h.2 c
      refine go_iload dX7_called_186 rfl ?_
      refine go_callS0 (μ := mX7_called) [.int _] dX7_called_188 YX7_size lX7_379 rfl (Nat.le_of_ble_eq_true rfl) (Nat.le_of_ble_eq_true rfl) rfl (k_X7_size2 hR ?_)
      refine go_iload dX7_called_191 rfl ?_
      refine go_callS0 (μ := mX7_called) [.int _] dX7_called_193 YX7_size lX7_379 rfl (Nat.le_of_ble_eq_true rfl) (Nat.le_of_ble_eq_true rfl) rfl (k_X7_size2 hR ?_)
      refine go_icmp_ge 236 dX7_called_196 (by decide) (fun c => ?_) (fun c => ?_)
      · have h := h.1 c
        refine go_iinc dX7_called_236 rfl (Nat.le_of_ble_eq_true rfl) rfl ?_
        have h := h _ rfl
        refine go_goto 123 dX7_called_239 (by decide) ?_
        refine go_drop 8 ?_
        exact h
      · have h := h.2 c
        refine go_iconst (v := 1) dX7_called_199 (by decide) ?_
        refine go_istore dX7_called_200 (Nat.le_of_ble_eq_true rfl) rfl ?_
        refine go_iload dX7_called_202 rfl ?_
        refine go_istore dX7_called_204 (Nat.le_of_ble_eq_true rfl) rfl ?_
        refine go_iconst (v := 0) dX7_called_206 (by decide) ?_
        refine go_istore dX7_called_207 (Nat.le_of_ble_eq_true rfl) rfl ?_
        refine go_drop 8 ?_
        exact h
  · have h := h.2 c
    refine go_aload_n dX7_called_155 rfl ?_
    refine go_aload_n dX7_called_156 rfl ?_
    refine go_getR dX7_called_157 fX7_94 rfl rfl (hR 310 43 336 rfl) ?_
    refine go_iload dX7_called_160 rfl ?_
    obtain ⟨hi, h⟩ := h
    refine go_iald dX7_called_162 rfl hi ?_
    refine go_iload_n dX7_called_163 rfl ?_
    obtain ⟨hp_23, h⟩ := h
    obtain ⟨hp_24, h⟩ := h
    obtain ⟨hp_25, h⟩ := h
    obtain ⟨hp_26, h⟩ := h
    refine go_callV0 (μ := mX7_called) [.int _, .int _] dX7_called_164 YX7_eats lX7_376 rfl ⟨_, rfl, rfl⟩ rfl (Nat.le_of_ble_eq_true rfl) (Nat.le_of_ble_eq_true rfl) rfl (k_X7_eats hR hp_23 hp_24 hp_25 hp_26 (fun r_27 I_28 L_29 hq => ?_))
    have h := h r_27 I_28 L_29 hq
    refine go_istore dX7_called_167 (Nat.le_of_ble_eq_true rfl) rfl ?_
    refine go_iinc dX7_called_169 rfl (Nat.le_of_ble_eq_true rfl) rfl ?_
    have h := h _ rfl
    refine go_goto 148 dX7_called_172 (by decide) ?_
    refine go_drop 9 ?_
    exact h
theorem b_X7_called_209 {G : gG} {I : gI} {R : gR} {L : gL} {Q : gQ} {cc : Nat → Nat} {v2 v3 v4 v5 v6 v7 v9 : Int32} (hR : g_Fx R) (h : (v4 ≤ v9 → ∀ v7_32 : Int32, v7_32 = v7 + 1 → Go G mX7_called 30 0 0 123 [some (.ref 310), none, some (.int v2), some (.int v3), some (.int v4), some (.int v5), some (.int v6), some (.int v7_32), none, none] [] SH I R L Q) ∧ (¬ v4 ≤ v9 → vp_in v9 6 ∧ (vp_in v9 6 ∧ (∀ I_33 : gI, I_33 = up I 337 v9.toNatClampNeg (I 336 v9.toNatClampNeg) → ∀ v9_34 : Int32, v9_34 = v9 + 1 → Go G mX7_called 30 0 0 209 [some (.ref 310), none, some (.int v2), some (.int v3), some (.int v4), some (.int v5), some (.int v6), some (.int v7), none, some (.int v9_34)] [] SH I_33 R L Q)))) : Go G mX7_called 30 0 0 209 [some (.ref 310), none, some (.int v2), some (.int v3), some (.int v4), some (.int v5), some (.int v6), some (.int v7), none, some (.int v9)] [] SH I R L Q := by
  refine go_iload dX7_called_209 rfl ?_
  refine go_iload dX7_called_211 rfl ?_
  refine go_icmp_ge 236 dX7_called_213 (by decide) (fun c => ?_) (fun c => ?_)
  · have h := h.1 c
    refine go_iinc dX7_called_236 rfl (Nat.le_of_ble_eq_true rfl) rfl ?_
    have h := h _ rfl
    refine go_goto 123 dX7_called_239 (by decide) ?_
    refine go_drop 9 ?_
    exact h
  · have h := h.2 c
    refine go_aload_n dX7_called_216 rfl ?_
    refine go_getR dX7_called_217 fX7_97 rfl rfl (hR 310 44 337 rfl) ?_
    refine go_iload dX7_called_220 rfl ?_
    refine go_aload_n dX7_called_222 rfl ?_
    refine go_getR dX7_called_223 fX7_94 rfl rfl (hR 310 43 336 rfl) ?_
    refine go_iload dX7_called_226 rfl ?_
    obtain ⟨hi, h⟩ := h
    refine go_iald dX7_called_228 rfl hi ?_
    obtain ⟨hi, h⟩ := h
    refine go_iast dX7_called_229 rfl hi ?_
    have h := h _ rfl
    refine go_iinc dX7_called_230 rfl (Nat.le_of_ble_eq_true rfl) rfl ?_
    have h := h _ rfl
    refine go_goto 209 dX7_called_233 (by decide) ?_
    exact h
theorem m_called {G : gG} {J : gI} {R : gR} {L : gL} {Q2 : gQ} {a b c : Int32} {N : Nat} {I : gI} (h : Rel J R) (hN : N ≤ 9) (e1 : J 311 0 = nI N) (oDn : okDn 0 (dyC I 4)) (oI : okI I) (hT : eqT (thC I) (thM J)) (hD : eqD (dyC I 4) (dyF (J 311)))
    (bad : ∀ K L1, mo2 J K → (¬ (1 ≤ a.toInt ∧ a.toInt < 2 ^ N) ∨ ¬ (b = 0 ∨ b = 1) ∨ ¬ ((bl a.toNatClampNeg).length ≤ 6 ∧ ∀ e, a.toNatClampNeg.testBit e = true → ¬ J 311 (114 + e) = 2) ∨ ¬ (-1 ≤ c.toInt ∧ c.toInt < (bl a.toNatClampNeg).length)) → Q2 (some (.int (-9999))) SH K R L1)
    (good : ∀ K L1 v, mo2 J K → (1 ≤ a.toInt ∧ a.toInt < 2 ^ N) → (b = 0 ∨ b = 1) → ((bl a.toNatClampNeg).length ≤ 6 ∧ ∀ e, a.toNatClampNeg.testBit e = true → ¬ J 311 (114 + e) = 2) → (-1 ≤ c.toInt ∧ c.toInt < (bl a.toNatClampNeg).length) → (c = -1 → v.toInt = (cbF I a.toNatClampNeg b.toInt).1) → (¬ c = -1 → v = nI ((cbF I a.toNatClampNeg b.toInt).2.getD c.toNatClampNeg 0)) → Q2 (some (.int v)) SH K R L1) :
    Mt G mX7_called 30 0 0 [.ref 310, .int a, .int b, .int c] SH J R L Q2 := by
  have hF := h.1.1
  have hp2 := pow_le9 hN
  have z1 : (1 : Int32).toInt = 1 := rfl
  have zm : (-1 : Int32).toInt = -1 := rfl
  have e2N : ((2 ^ N : Nat) : Int) = (2 : Int) ^ N := by simp
  have p1 : 1 ≤ 2 ^ N := Nat.one_le_two_pow
  have es : (1 : Int32) <<< (J 311 0 &&& 31) - 1 = nI (2 ^ N - 1) := by rw [e1, nI_shl1 N (by omega), show (1 : Int32) = nI 1 from rfl, nI_sub p1 (by omega)]
  have ra : ((1 : Int32) ≤ a ∧ a ≤ ((1 <<< ((J 311 0) &&& 31)) - 1)) ↔ (1 ≤ a.toInt ∧ a.toInt < 2 ^ N) := by
    rw [es, ti_le, ti_le, z1, nI_toInt (by omega)]; omega
  refine e_X7_called (cc := blc a.toNatClampNeg) hF ?_
  rw [ra]
  refine ⟨fun d1 => bad J L (mo2_rfl J) (Or.inl d1), fun d1 => ⟨fun d2 => bad J L (mo2_rfl J) (Or.inr (Or.inl d2)), fun d2 => ⟨fun d3 => ?_, fun d3 => bad J L (mo2_rfl J) (Or.inr (Or.inr (Or.inr (fun z => d3 (ti_le.mpr (by rw [zm]; exact z.1))))))⟩⟩⟩
  rw [ti_le, zm] at d3
  have ca := ci (x := a) (by omega)
  have ea : a = nI a.toNatClampNeg := nI_of_toInt (by omega)
  generalize hs : a.toNatClampNeg = s at *
  have hs5 : s < 512 := by omega
  have hsN : s < 2 ^ N := by omega
  obtain ⟨κ, hκ, eκ⟩ := bit01 d2
  have kt : b.toInt = κ := by rw [eκ, nI_toInt (by omega)]
  have hsq := bl_sq hs5
  have l9 : (bl s).length ≤ 9 := by unfold bl; exact Nat.le_trans (List.length_filter_le _ _) (by simp)
  have tl : ∀ e, s.testBit e = true → e < N := fun e he => by
    rcases Nat.lt_or_ge e N with g | g
    · exact g
    · rw [Nat.testBit_lt_two_pow (Nat.lt_of_lt_of_le hsN (Nat.pow_le_pow_right (n := 2) (by decide) g))] at he; cases he
  have lpos : 1 ≤ (bl s).length := by
    rcases Nat.eq_zero_or_pos (bl s).length with g | g
    · exfalso
      have : s = 0 := by
        apply Nat.eq_of_testBit_eq
        intro i
        rw [Nat.zero_testBit]
        cases hh : s.testBit i with
        | false => rfl
        | true => obtain ⟨k, hk, -⟩ := hsq.2.2 i hh; omega
      omega
    · exact g
  have oN' := (R_dn h).2.2.1
  rw [kt] at good
  unfold cbF at good
  generalize hTd : cbT I κ = T at good
  have hTd' : ∀ p, T p = tlt (rnC (thC I) κ p (dyC I 4)) := fun p => by rw [← hTd]; rfl
  have eb : ∀ e, e < N → ((a >>> (nI e &&& 31)) &&& 1 = 1 ↔ s.testBit e = true) := fun e he => by rw [ea]; exact tb_iff (by omega) (by omega)
  -- phase 2
  have ph2 : (bl s).length ≤ 6 → (∀ e, s.testBit e = true → ¬ J 311 (114 + e) = 2) → c.toInt < (bl s).length → ∀ K L1, mo2 J K → (∀ i, i < (bl s).length → K 335 i = nI (blc s i)) → Go G mX7_called 30 0 0 123 [some (.ref 310), none, some (.int b), some (.int c), some (.int (nI (bl s).length)), some (.int 0), some (.int 0), some (.int 0), none, none] [] SH K R L1 Q2 := by
    intro hl haw hcl K0 L0 k0 k35
    have fl := fa_le _ hl
    have fp := fa_pos (bl s).length
    generalize hm : (bl s).length = m at *
    generalize hf : nthF m (blc s) = f at good
    have hfl : ∀ j, (f j).length = m := fun j => by rw [← hf]; exact nthF_len _ _ _
    have hmem : ∀ j, j < fa m → ∀ e ∈ f j, e < 9 := fun j hj e he => by
      rw [← hf] at he
      have := tl e (nthF_mem hsq hj e he)
      omega
    have hTb : ∀ j, j < fa m → (T (f j)).natAbs ≤ 1998 := fun j hj => by
      have o := rnC_ok (κ := κ) oI.1 (by omega) (by omega) (f j) (n := 0) (hmem j hj) (by rw [hfl]; omega) oDn
      have := tlt_b (o.ok (by rw [hfl]; omega))
      rw [hTd']; omega
    have main : ∀ n j (K : gI) (L1 : gL) (v5 v6 : Int32), j + n = fa m → mo2 J K → (∀ i, i < m → K 335 i = nI (blc s i)) → (v5 = 0 ↔ j = 0) → (1 ≤ j → v6.toInt = (foS T f j (-9999, [])).1 ∧ ∀ i, i < m → K 337 i = nI ((foS T f j (-9999, [])).2.getD i 0)) → Go G mX7_called 30 0 0 123 [some (.ref 310), none, some (.int b), some (.int c), some (.int (nI m)), some (.int v5), some (.int v6), some (.int (nI j)), none, none] [] SH K R L1 Q2 := by
      intro n
      induction n with
      | zero =>
        intro j K L1 v5 v6 e kx k5 hv5 hv6
        have hj : j = fa m := by omega
        obtain ⟨g1, g2⟩ := hv6 (by omega)
        rw [hj] at g1 g2
        refine b_X7_called_123 (cc := blc s) hF ⟨by rw [nI_toInt (by omega)]; omega, fun _ => ⟨fun c1 => ?_, fun c1 => ?_⟩, fun c1 => absurd (by rw [nI_clamp (by omega), hj]; exact ti_le.mpr (Int.le_refl _)) c1⟩
        · have c0 : ¬ c.toInt = -1 := fun z => c1 (ti_eq.mpr z)
          have cc' := ci (x := c) (by omega)
          exact ⟨vp_in_iff.mpr ⟨by omega, by omega⟩, good K L1 _ kx ⟨by omega, by omega⟩ d2 ⟨by omega, haw⟩ ⟨d3, hcl⟩ (fun z => absurd z c1) (fun _ => g2 _ (by omega))⟩
        · exact good K L1 _ kx ⟨by omega, by omega⟩ d2 ⟨by omega, haw⟩ ⟨d3, hcl⟩ (fun _ => g1) (fun z => absurd c1 z)
      | succ n ih =>
        intro j K L1 v5 v6 e kx k5 hv5 hv6
        refine b_X7_called_123 (cc := blc s) hF ⟨by rw [nI_toInt (by omega)]; omega, fun c1 => absurd c1 (by rw [nI_clamp (by omega)]; exact nI_ge (by omega) (by omega)), fun _ => ⟨⟨m, j, by omega, rfl, by omega, rfl, k5⟩, ?_⟩⟩
        rintro K2 ⟨l1, l2⟩
        rw [nI_clamp (by omega), nI_clamp (by omega), hf] at l2
        rintro _ rfl
        have kx2 : mo2 J K2 := mo2_tr kx (mo2_off (by decide) l1)
        have kl : mo2 J (layI K2) := mo2_tr kx2 (mo2_of (mo_lay K2))
        have dl : eqD (dyC I 4) (dyM (layI K2)) := hD.trans (mo2_dy kx2).symm
        have l35 : ∀ i, i < m → layI K2 335 i = nI (blc s i) := fun i hi => by rw [layI_off (by decide) (by decide) (by decide), l1 335 (by decide)]; exact k5 i hi
        have l36 : ∀ i, i < m → layI K2 336 i = nI ((f j).getD i 0) := fun i hi => by rw [layI_off (by decide) (by decide) (by decide)]; exact l2 i hi
        have l37 : layI K2 337 = K 337 := by rw [layI_off (by decide) (by decide) (by decide), l1 337 (by decide)]
        have pj : ∀ i, i < m → (f j).getD i 0 < 9 := fun i hi => by
          have hi' : i < (f j).length := by rw [hfl]; exact hi
          rw [show (f j).getD i 0 = (f j)[i] from by simp [List.getD_eq_getElem?_getD, hi']]
          exact hmem j (by omega) _ (List.getElem_mem hi')
        -- one order eaten
        have eat : ∀ n2 i (X : gI) (L2 : gL), i + n2 = m → mo2 J X → X 335 = layI K2 335 → X 336 = layI K2 336 → X 337 = layI K2 337 → eqD (rnC (thC I) κ ((f j).take i) (dyC I 4)) (dyM X) → (∀ X' L', mo2 J X' → X' 335 = layI K2 335 → X' 336 = layI K2 336 → X' 337 = layI K2 337 → eqD (rnC (thC I) κ (f j) (dyC I 4)) (dyM X') → Go G mX7_called 30 0 0 148 [some (.ref 310), none, some (.int b), some (.int c), some (.int (nI m)), some (.int v5), some (.int v6), some (.int (nI j)), some (.int (nI m)), none] [] SH X' R L' Q2) → Go G mX7_called 30 0 0 148 [some (.ref 310), none, some (.int b), some (.int c), some (.int (nI m)), some (.int v5), some (.int v6), some (.int (nI j)), some (.int (nI i)), none] [] SH X R L2 Q2 := by
          intro n2
          induction n2 with
          | zero =>
            intro i X L2 e2 mx x5 x6 x7 xd nx
            rw [show i = m by omega]
            refine nx X L2 mx x5 x6 x7 ?_
            rw [show (f j).take i = f j from List.take_of_length_le (by rw [hfl]; omega)] at xd
            exact xd
          | succ n2 ih2 =>
            intro i X L2 e2 mx x5 x6 x7 xd nx
            obtain ⟨tM, nM⟩ := mo2_th mx
            have xi : X 336 i = nI ((f j).getD i 0) := by rw [x6]; exact l36 i (by omega)
            have p9 := pj i (by omega)
            have hi' : i < (f j).length := by rw [hfl]; omega
            have oTk : okDn i (rnC (thC I) κ ((f j).take i) (dyC I 4)) := by
              have := rnC_ok (κ := κ) oI.1 (by omega) (by omega) ((f j).take i) (n := 0) (fun e he => hmem j (by omega) e (List.mem_of_mem_take he)) (by rw [List.length_take]; omega) oDn
              rw [List.length_take, Nat.zero_add, Nat.min_eq_left (by omega)] at this
              exact this
            refine b_X7_called_148 (cc := blc s) hF ⟨fun c1 => absurd c1 (nI_ge (by omega) (by omega)), fun _ => ?_⟩
            rw [nI_clamp (by omega), xi, nI_clamp (by omega), tM, kt]
            have esp : spn (thM J) (dyM X) ((f j).getD i 0) κ = spn (thC I) (rnC (thC I) κ ((f j).take i) (dyC I 4)) ((f j).getD i 0) κ := (spn_eq hT xd oI.1 (oTk.ok (by omega)) p9 (by omega) (by omega)).symm
            rw [esp]
            refine ⟨vp_in_nI (by omega) (by decide), vp_in_nI p9 (by decide), by rw [eκ]; exact vp_in_nI hκ (by decide), nM oN', okD_eq xd (oTk.ok (by omega)), ?_⟩
            rintro r X2 L3 ⟨hr, hy, hx1, hx2, -⟩
            rintro _ rfl
            rw [nI_1]
            refine ih2 (i + 1) X2 L3 (by omega) (mo2_tr mx (mo2_of ⟨hx1, hx2⟩)) (by rw [hx1 335 (by decide) (by decide) (by decide) (by decide), x5]) (by rw [hx1 336 (by decide) (by decide) (by decide) (by decide), x6]) (by rw [hx1 337 (by decide) (by decide) (by decide) (by decide), x7]) ?_ nx
            have etk : (f j).take (i + 1) = (f j).take i ++ [(f j).getD i 0] := by
              rw [List.take_add_one]
              simp [List.getD_eq_getElem?_getD, hi']
            rw [etk, rnC_snoc, hy]
            exact eaD_eq xd p9
        refine eat m 0 (layI K2) L1 (by omega) kl rfl rfl rfl dl (fun X L' mx x5 x6 x7 xd => ?_)
        -- behind an order
        have oF : okD (dyM X) := by
          have o := rnC_ok (κ := κ) oI.1 (by omega) (by omega) (f j) (n := 0) (hmem j (by omega)) (by rw [hfl]; omega) oDn
          exact okD_eq xd (o.ok (by rw [hfl]; omega))
        have et : (X 333 0 + X 333 1 - X 333 2 - X 333 3).toInt = T (f j) := by
          have h0 : 0 ≤ (X 333 0).toInt ∧ (X 333 0).toInt ≤ 999 := oF.1 0 (by decide)
          have h1 : 0 ≤ (X 333 1).toInt ∧ (X 333 1).toInt ≤ 999 := oF.1 1 (by decide)
          have h2 : 0 ≤ (X 333 2).toInt ∧ (X 333 2).toInt ≤ 999 := oF.1 2 (by decide)
          have h3 : 0 ≤ (X 333 3).toInt ∧ (X 333 3).toInt ≤ 999 := oF.1 3 (by decide)
          have e1 : (X 333 0 + X 333 1).toInt = (X 333 0).toInt + (X 333 1).toInt := by rw [ti_add] <;> omega
          have e2 : (X 333 0 + X 333 1 - X 333 2).toInt = (X 333 0).toInt + (X 333 1).toInt - (X 333 2).toInt := by rw [ti_sub] <;> rw [e1] <;> omega
          have e3 : (X 333 0 + X 333 1 - X 333 2 - X 333 3).toInt = (X 333 0).toInt + (X 333 1).toInt - (X 333 2).toInt - (X 333 3).toInt := by rw [ti_sub] <;> rw [e2] <;> omega
          rw [e3, hTd', tlt_eq xd]; rfl
        have tb := hTb j (by omega)
        generalize hv : X 333 0 + X 333 1 - X 333 2 - X 333 3 = v at et
        have x35 : ∀ i, i < m → X 335 i = nI (blc s i) := fun i hi => by rw [x5]; exact l35 i hi
        -- it is the best
        have take : (T (f j)).natAbs < (foS T f j (-9999, [])).1.natAbs → Go G mX7_called 30 0 0 209 [some (.ref 310), none, some (.int b), some (.int c), some (.int (nI m)), some (.int 1), some (.int v), some (.int (nI j)), none, some (.int 0)] [] SH X R L' Q2 := fun hlt => by
          have es1 : foS T f (j + 1) (-9999, []) = (T (f j), f j) := by
            show up1 T (foS T f j (-9999, [])) (f j) = _
            unfold up1; rw [if_pos hlt]
          have cp : ∀ n3 i (Y : gI), i + n3 = m → mo2 J Y → Y 335 = X 335 → Y 336 = X 336 → (∀ x, x < i → Y 337 x = nI ((f j).getD x 0)) → Go G mX7_called 30 0 0 209 [some (.ref 310), none, some (.int b), some (.int c), some (.int (nI m)), some (.int 1), some (.int v), some (.int (nI j)), none, some (.int (nI i))] [] SH Y R L' Q2 := by
            intro n3
            induction n3 with
            | zero =>
              intro i Y e3 my y5 y6 y7
              refine b_X7_called_209 (cc := blc s) hF ⟨fun _ => ?_, fun c1 => absurd (by rw [show i = m by omega]; exact ti_le.mpr (Int.le_refl _)) c1⟩
              rintro _ rfl
              rw [nI_1]
              refine ih (j + 1) Y L' 1 v (by omega) my (fun x hx => by rw [y5]; exact x35 x hx) ⟨fun z => absurd z (by decide), fun z => by omega⟩ (fun _ => ?_)
              rw [es1]
              exact ⟨et, fun x hx => y7 x (by omega)⟩
            | succ n3 ih3 =>
              intro i Y e3 my y5 y6 y7
              refine b_X7_called_209 (cc := blc s) hF ⟨fun c1 => absurd c1 (nI_ge (by omega) (by omega)), fun _ => ⟨vp_in_nI (by omega) (by decide), vp_in_nI (by omega) (by decide), ?_⟩⟩
              rintro _ rfl _ rfl
              rw [nI_1, nI_clamp (by omega)]
              refine ih3 (i + 1) _ (by omega) (mo2_tr my (mo2_off (c := 337) (by decide) (fun x hx => up_off _ hx))) (by rw [up_off _ (by decide), y5]) (by rw [up_off _ (by decide), y6]) (fun x hx => ?_)
              by_cases hxi : x = i
              · rw [hxi, up_eq, y6, x6]; exact l36 i (by omega)
              · rw [up_ni hxi]; exact y7 x (by omega)
          exact cp m 0 X (by omega) mx rfl rfl (fun x hx => by omega)
        have leave : ¬ (T (f j)).natAbs < (foS T f j (-9999, [])).1.natAbs → 1 ≤ j → Go G mX7_called 30 0 0 123 [some (.ref 310), none, some (.int b), some (.int c), some (.int (nI m)), some (.int v5), some (.int v6), some (.int (nI (j + 1))), none, none] [] SH X R L' Q2 := fun hlt hj1 => by
          have es1 : foS T f (j + 1) (-9999, []) = foS T f j (-9999, []) := by
            show up1 T (foS T f j (-9999, [])) (f j) = _
            unfold up1; rw [if_neg hlt]
          refine ih (j + 1) X L' v5 v6 (by omega) mx x35 ⟨fun z => by have := hv5.mp z; omega, fun z => by omega⟩ (fun _ => ?_)
          rw [es1]
          obtain ⟨g1, g2⟩ := hv6 hj1
          exact ⟨g1, fun x hx => by rw [x7, l37]; exact g2 x hx⟩
        refine b_X7_called_148 (cc := blc s) hF ⟨fun _ => ?_, fun c1 => absurd (ti_le.mpr (Int.le_refl _)) c1⟩
        rintro _ rfl
        rw [hv]
        refine ⟨fun c5 => ?_, fun c5 => ?_⟩
        · have j0 := hv5.mp c5
          exact take (by rw [j0]; show (T (f 0)).natAbs < 9999; rw [j0] at tb; omega)
        · have j1 : 1 ≤ j := by
            rcases Nat.eq_zero_or_pos j with g | g
            · exact absurd (hv5.mpr g) c5
            · exact g
          obtain ⟨g1, g2⟩ := hv6 j1
          have bb := foS_b (T := T) (f := f) (st := (-9999, [])) (B := 9999) (by decide) j
          have cmp : sz v6 ≤ sz v ↔ ¬ (T (f j)).natAbs < (foS T f j (-9999, [])).1.natAbs := by
            rw [ti_le, sz_ti (by rw [g1]; omega) (by rw [g1]; omega), sz_ti (by rw [et]; omega) (by rw [et]; omega), g1, et]
            omega
          rw [cmp]
          refine ⟨fun c6 => ?_, fun c6 => take (Classical.not_not.mp c6)⟩
          rintro _ rfl
          rw [nI_1]; exact leave c6 j1
    exact main (fa m) 0 K0 L0 0 0 (by omega) k0 k35 ⟨fun _ => rfl, fun _ => rfl⟩ (fun z => by omega)
  -- phase 1
  have ph1 : ∀ k e w (K : gI), e + k = N → w ≤ (bl s).length → w ≤ 6 → (∀ i, i < w → blc s i < e) → (∀ i, w ≤ i → i < (bl s).length → e ≤ blc s i) → (∀ i, i < w → K 335 i = nI (blc s i)) → (∀ i, i < w → ¬ J 311 (114 + blc s i) = 2) → mo2 J K → Go G mX7_called 30 0 0 40 [some (.ref 310), some (.int a), some (.int b), some (.int c), some (.int (nI w)), some (.int (nI e)), none, none, none, none] [] SH K R L Q2 := by
    intro k
    induction k with
    | zero =>
      intro e w K ee hw hw6 h1 h2 k35 ka kx
      have k0 : K 311 0 = nI N := by rw [kx.1 311 (by decide) (by decide)]; exact e1
      have wl : w = (bl s).length := by
        rcases Nat.lt_or_ge w (bl s).length with g | g
        · have := h2 w (Nat.le_refl _) g
          have := tl _ (hsq.2.1 w g)
          omega
        · omega
      have haw : ∀ e, s.testBit e = true → ¬ J 311 (114 + e) = 2 := fun e he => by
        obtain ⟨i, hi, ei⟩ := hsq.2.2 e he
        rw [← ei]; exact ka i (by omega)
      refine b_X7_called_40 (cc := blc s) hF ⟨fun _ => ⟨fun c1 => ?_, fun c1 => ?_⟩, fun c1 => absurd (by rw [k0, show e = N by omega]; exact ti_le.mpr (Int.le_refl _)) c1⟩
      · rw [ti_lt, nI_toInt (by omega)] at c1
        subst wl
        exact ph2 hw6 haw c1 K L kx k35
      · rw [ti_lt, nI_toInt (by omega)] at c1
        exact bad K L kx (Or.inr (Or.inr (Or.inr (fun z => by have := z.2; omega))))
    | succ k ih =>
      intro e w K ee hw hw6 h1 h2 k35 ka kx
      have k0 : K 311 0 = nI N := by rw [kx.1 311 (by decide) (by decide)]; exact e1
      have e114 : 114 + nI e = nI (114 + e) := nI_add 114 e
      refine b_X7_called_40 (cc := blc s) hF ⟨fun c1 => absurd c1 (by rw [k0]; exact nI_ge (by omega) (by omega)), fun _ => ?_⟩
      rw [eb e (by omega), e114, nI_clamp (by omega), kx.1 311 (by decide) (by decide)]
      refine ⟨fun cb => ?_, fun cb => ?_⟩
      · rintro _ rfl
        rw [nI_1]
        refine ih (e + 1) w K (by omega) hw hw6 (fun i hi => by have := h1 i hi; omega) (fun i hi hi2 => ?_) k35 ka kx
        have := h2 i hi hi2
        have : blc s i ≠ e := fun z => cb (by rw [← z]; exact hsq.2.1 i hi2)
        omega
      · obtain ⟨w', hw', ew⟩ := hsq.2.2 e cb
        have eww : w' = w := by
          rcases Nat.lt_trichotomy w' w with g | g | g
          · have := h1 w' g; omega
          · exact g
          · have a1 := hsq.1 w w' g hw'
            have a2 := h2 w (Nat.le_refl _) (by omega)
            omega
        subst eww
        refine ⟨fun c6 => bad K L kx (Or.inr (Or.inr (Or.inl (fun z => ?_)))), fun c6 => ⟨vp_in_nI (by omega) (by decide), fun c7 => ?_, fun c7 => bad K L kx (Or.inr (Or.inr (Or.inl (fun z => z.2 e cb c7))))⟩⟩
        · rw [show (6 : Int32) = nI 6 from rfl, nI_eq (by omega) (by decide)] at c6
          have := z.1
          omega
        · have w6 : w' < 6 := by
            have : ¬ w' = 6 := fun z => c6 (by rw [z]; rfl)
            omega
          refine ⟨vp_in_nI w6 (by decide), ?_⟩
          rintro _ rfl _ rfl _ rfl
          rw [nI_1, nI_1, nI_clamp (by omega)]
          refine ih (e + 1) (w' + 1) _ (by omega) (by omega) (by omega) (fun i hi => ?_) (fun i hi hi2 => ?_) (fun i hi => ?_) (fun i hi => ?_) (mo2_tr kx (mo2_off (c := 335) (by decide) (fun x hx => up_off _ hx)))
          · rcases Nat.lt_or_ge i w' with g | g
            · have := h1 i g; omega
            · rw [show i = w' by omega, ew]; omega
          · have := hsq.1 w' i (by omega) hi2
            omega
          · by_cases hiw : i = w'
            · rw [hiw, up_eq, ew]
            · rw [up_ni hiw]; exact k35 i (by omega)
          · by_cases hiw : i = w'
            · rw [hiw, ew]; exact c7
            · exact ka i (by omega)
  exact ph1 N 0 0 J (by omega) (by omega) (by omega) (fun i hi => by omega) (fun i _ _ => Nat.zero_le _) (fun i hi => by omega) (fun i hi => by omega) (mo2_rfl J)
theorem p_called {G : gG} {I : gI} {R : gR} {L : gL} {Q : gQ} {a b c : Int32} (h : Rel I R) (hq : ∀ v I1 R1 L1, prom G mX7_called [.ref 310, .int a, .int b, .int c] (some (.int v)) I1 R1 L1 → Q (some (.int v)) SH I1 R1 L1) : Mt G mX6_called 30 0 0 [.ref 0, .int a, .int b, .int c] SH I R L Q := by
  have hF := h.1.1
  obtain ⟨N, hN, e1, e2⟩ := R_n h
  obtain ⟨oDn, oI, oN, hT, hD⟩ := R_dn h
  obtain ⟨co, sc, oh, ok⟩ := R_co h
  have hp2 := pow_le9 hN
  have zm : (-1 : Int32).toInt = -1 := rfl
  have e2N : ((2 ^ N : Nat) : Int) = (2 : Int) ^ N := by simp
  have cN : (I 3 6).toNatClampNeg = N := by rw [e2, nI_clamp (by omega)]
  have w6 : ∀ e, e < 9 → I 6 e = I 311 (114 + e) := fun e he => by have := sc.2.1 e he; rw [show row (I 311) 110 (4 + e) = I 311 (114 + e) from by unfold row; congr 1; omega] at this; exact this
  have ccI : ccB I a = true ↔ (1 ≤ a.toInt ∧ a.toInt < 2 ^ N) ∧ (bl a.toNatClampNeg).length ≤ 6 ∧ ∀ e, a.toNatClampNeg.testBit e = true → ¬ I 311 (114 + e) = 2 := by
    unfold ccB
    rw [cN]
    simp only [Bool.and_eq_true, decide_eq_true_iff, rwB_iff]
    constructor
    · rintro ⟨⟨⟨g1, g2⟩, g3⟩, g4⟩
      refine ⟨⟨g1, g2⟩, g3, fun e he z => ?_⟩
      have ca := ci (x := a) (by omega)
      have he9 : e < 9 := by
        rcases Nat.lt_or_ge e 9 with g | g
        · exact g
        · rw [Nat.testBit_lt_two_pow (Nat.lt_of_lt_of_le (show a.toNatClampNeg < 512 by omega) (show 512 ≤ 2 ^ e from Nat.pow_le_pow_right (n := 2) (j := e) (i := 9) (by decide) g))] at he; cases he
      exact g4 e (Nat.zero_le _) (by omega) ⟨he, by rw [w6 e he9]; exact z⟩
    · rintro ⟨⟨g1, g2⟩, g3, g4⟩
      exact ⟨⟨⟨g1, g2⟩, g3⟩, fun i _ hi z => g4 i z.1 (by rw [← w6 i (by omega)]; exact z.2)⟩
  have bcL : (1 ≤ a.toInt ∧ a.toInt < 2 ^ N) → bcI a = nI (bl a.toNatClampNeg).length ∧ (bl a.toNatClampNeg).length ≤ 9 := fun g => by
    have ca := ci (x := a) (by omega)
    have ea : a = nI a.toNatClampNeg := nI_of_toInt (by omega)
    refine ⟨?_, by unfold bl; exact Nat.le_trans (List.length_filter_le _ _) (by simp)⟩
    conv => lhs; rw [ea]
    rw [bc_sm _ (by omega), bl_len _ (by omega)]
  -- the plain form refuses
  have bad : (¬ (1 ≤ a.toInt ∧ a.toInt < 2 ^ N) ∨ ¬ (b = 0 ∨ b = 1) ∨ ¬ ((bl a.toNatClampNeg).length ≤ 6 ∧ ∀ e, a.toNatClampNeg.testBit e = true → ¬ I 311 (114 + e) = 2) ∨ ¬ (-1 ≤ c.toInt ∧ c.toInt < (bl a.toNatClampNeg).length)) → Q (some (.int (-9999))) SH I R L := fun w => hq _ _ _ _ (fun Q2 h2 => m_called (I := I) h hN e1 oDn oI hT hD (fun K L1 kx _ => h2 _ _ _ (mo2_Rel h kx)) (fun K L1 v kx g1 g2 g3 g4 _ _ => by
    exfalso
    rcases w with w | w | w | w
    · exact w g1
    · exact w g2
    · exact w g3
    · exact w g4))
  refine e_X6_called hF ⟨fun d => bad (Or.inr (Or.inl d)), fun d => ⟨⟨by rw [e2, nI_toInt (by omega)]; omega, by rw [e2, nI_toInt (by omega)]; omega⟩, fun d2 => bad ?_, fun d2 => ?_⟩⟩
  · rw [ccI] at d2
    by_cases g : (1 ≤ a.toInt ∧ a.toInt < 2 ^ N)
    · exact Or.inr (Or.inr (Or.inl (fun z => d2 ⟨g, z⟩)))
    · exact Or.inl g
  rw [ccI] at d2
  obtain ⟨da, dl, dw⟩ := d2
  obtain ⟨bc1, bc2⟩ := bcL da
  have ca := ci (x := a) (by omega)
  have ea : a = nI a.toNatClampNeg := nI_of_toInt (by omega)
  obtain ⟨κ, hκ, eκ⟩ := bit01 d
  refine ⟨fun d3 => bad (Or.inr (Or.inr (Or.inr (fun z => by rw [ti_lt, zm] at d3; have := z.1; omega)))), fun d3 => ⟨fun d4 => ?_, fun d4 => bad (Or.inr (Or.inr (Or.inr (fun z => d4 (ti_lt.mpr (by rw [bc1, nI_toInt (by omega)]; exact z.2))))))⟩⟩
  rw [ti_lt, zm] at d3
  rw [bc1, ti_lt, nI_toInt (by omega)] at d4
  refine ⟨⟨oI, oDn, N, a.toNatClampNeg, κ, e2, hN, ea, by omega, dl, eκ, hκ⟩, ?_⟩
  rintro J ⟨jx, j1, cs⟩
  have RJ : Rel J R := Rel_scr h (fun x x1 x2 => jx x x1 (by omega)) (j1 8 (by decide)) (j1 9 (by decide)) (by rw [jx 310 (by decide) (by decide)]) (by rw [jx 310 (by decide) (by decide)]) (by rw [jx 310 (by decide) (by decide)])
  have j11 : J 311 = I 311 := jx 311 (by decide) (by decide)
  have tM : thM J = thM I := (thM_congr j11 (jx _ (by decide) (by decide)) (jx _ (by decide) (by decide)) (jx _ (by decide) (by decide)) (jx _ (by decide) (by decide)) (jx _ (by decide) (by decide))).2.1
  -- what is found has as many as are called
  have hs5 : a.toNatClampNeg < 512 := by omega
  have hsq := bl_sq hs5
  have fl := fa_le _ dl
  have fp := fa_pos (bl a.toNatClampNeg).length
  have kt : b.toInt = κ := by rw [eκ, nI_toInt (by omega)]
  have stl : (cbF I a.toNatClampNeg b.toInt).2.length = (bl a.toNatClampNeg).length := by
    unfold cbF
    obtain ⟨n, hn⟩ : ∃ n, fa (bl a.toNatClampNeg).length = n + 1 := ⟨fa (bl a.toNatClampNeg).length - 1, by omega⟩
    rw [hn]
    refine foS_len (M := n + 1) (fun j => nthF_len _ _ _) (fun j hj => ?_) n (Nat.le_refl _)
    have hm : ∀ e ∈ nthF (bl a.toNatClampNeg).length (blc a.toNatClampNeg) j, e < 9 := fun e he => by
      have := nthF_mem hsq (by omega) e he
      rcases Nat.lt_or_ge e 9 with g | g
      · exact g
      · rw [Nat.testBit_lt_two_pow (Nat.lt_of_lt_of_le hs5 (show 512 ≤ 2 ^ e from Nat.pow_le_pow_right (n := 2) (j := e) (i := 9) (by decide) g))] at this; cases this
    have o := rnC_ok (κ := κ) oI.1 (by omega) (by omega) (nthF (bl a.toNatClampNeg).length (blc a.toNatClampNeg) j) (n := 0) hm (by rw [nthF_len]; omega) oDn
    have := tlt_b (o.ok (by rw [nthF_len]; omega))
    show (cbT I b.toInt _).natAbs < 9999
    unfold cbT
    rw [kt]; omega
  have fin : ∀ v : Int32, (c = -1 → v.toInt = (cbF I a.toNatClampNeg b.toInt).1) → (¬ c = -1 → v = nI ((cbF I a.toNatClampNeg b.toInt).2.getD c.toNatClampNeg 0)) → Q (some (.int v)) SH J R L := fun v v1 v2 => hq _ _ _ _ (fun Q2 h2 => m_called (I := I) RJ hN (by rw [j11]; exact e1) oDn oI (by rw [tM]; exact hT) (by rw [j11]; exact hD) (fun K L1 kx w => by
      exfalso
      rw [j11] at w
      rcases w with w | w | w | w
      · exact w da
      · exact w d
      · exact w ⟨dl, dw⟩
      · exact w ⟨by omega, d4⟩) (fun K L1 v' kx _ _ _ _ v3 v4 => by
        have : v' = v := by
          by_cases g : c = -1
          · exact ti_eq.mpr ((v3 g).trans (v1 g).symm)
          · exact (v4 g).trans (v2 g).symm
        rw [this]; exact h2 _ _ _ (mo2_Rel RJ kx)))
  refine ⟨fun d5 => ⟨fun d6 => absurd d6 (fun z => ?_), fun d6 => ?_⟩, fun d5 => fin _ (fun _ => cs.1) (fun z => absurd d5 z)⟩
  · have z6 : (6 : Int32).toInt = 6 := rfl
    rw [ti_le, z6] at z; omega
  · have c0 : ¬ c.toInt = -1 := fun z => d5 (ti_eq.mpr z)
    have cc' := ci (x := c) (by omega)
    exact ⟨vp_in_iff.mpr ⟨by omega, by omega⟩, fin _ (fun z => absurd z d5) (fun _ => cs.2 _ (by rw [stl]; omega))⟩
