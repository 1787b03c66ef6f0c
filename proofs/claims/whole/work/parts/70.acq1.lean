theorem e_X5_keepFound {G : gG} {I : gI} {R : gR} {L : gL} {Q : gQ} {u : Int32} (hR : g_Fx R) (h : ∀ I_1 : gI, I_1 = up I 1 8 (I 1 11) → ∀ I_2 : gI, I_2 = up I_1 1 9 u → ∀ I_3 : gI, I_3 = cpy I_2 170 173 0 0 4 → Q none SH I_3 R L) : Mt G mX5_keepFound 1 0 0 [.ref 1, .int u] SH I R L Q := by
  refine go_start rfl (Nat.le_of_ble_eq_true rfl) rfl ?_
  refine go_aload_n dX5_keepFound_0 rfl ?_
  refine go_aload_n dX5_keepFound_1 rfl ?_
  refine go_getI dX5_keepFound_2 fX5_105 rfl rfl ?_
  refine go_putI dX5_keepFound_5 fX5_43 rfl rfl rfl rfl ?_
  have h := h _ rfl
  refine go_aload_n dX5_keepFound_8 rfl ?_
  refine go_iload_n dX5_keepFound_9 rfl ?_
  refine go_putI dX5_keepFound_10 fX5_98 rfl rfl rfl rfl ?_
  have h := h _ rfl
  refine go_aload_n dX5_keepFound_13 rfl ?_
  refine go_getR dX5_keepFound_14 fX5_30 rfl rfl (hR 1 3 170 rfl) ?_
  refine go_iconst (v := 0) dX5_keepFound_17 (by decide) ?_
  refine go_aload_n dX5_keepFound_18 rfl ?_
  refine go_getR dX5_keepFound_19 fX5_40 rfl rfl (hR 1 7 173 rfl) ?_
  refine go_iconst (v := 0) dX5_keepFound_22 (by decide) ?_
  refine go_iconst (v := 4) dX5_keepFound_23 (by decide) ?_
  refine go_copyK dX5_keepFound_24 lX5_86 nn_copy ns_copy ni_J10 rfl rfl (sk := 0) (dk := 0) (nk := 4) (by decide) (by decide) (by decide) (by decide) (by decide) (by decide) (by decide) (by decide) (Nat.le_of_ble_eq_true rfl) (Nat.le_of_ble_eq_true rfl) ?_
  have h := h _ rfl
  exact go_vret dX5_keepFound_27 rfl rfl h
theorem e_X5_swaps {G : gG} {I : gI} {R : gR} {L : gL} {Q : gQ} {p c g : Int32} (hR : g_Fx R) (h : (p < 1 → Q (some (.int 0)) SH I R L) ∧ (¬ p < 1 → vp_in (p - 1) 6 ∧ ((c < (I 170 (p - 1).toNatClampNeg) → vp_in (p - 1) 6 ∧ (∀ v4_1 : Int32, v4_1 = (I 170 (p - 1).toNatClampNeg) → vp_in (p - 1) 6 ∧ (∀ v5_2 : Int32, v5_2 = (I 171 (p - 1).toNatClampNeg) → (vp_in (v4_1 >>> (1 &&& 31 : Int32)) 9) ∧ ((¬ I (166 + 2) (v4_1 >>> (1 &&& 31 : Int32)).toNatClampNeg = 2 → 0 < v5_2 → vp_in (2 * I (166 + 2) (v4_1 >>> (1 &&& 31 : Int32)).toNatClampNeg + (v4_1 &&& 1 : Int32)) 4) ∧ (∀ I_5 : gI, I_5 = givI I 166 (v4_1 >>> (1 &&& 31 : Int32)) (v4_1 &&& 1 : Int32) v5_2 → (vp_in (c >>> (1 &&& 31 : Int32)) 9) ∧ ((vp_in (c &&& 1 : Int32) 2) ∧ (okI I_5 ∧ ((okD (dyC I_5 166)) ∧ (∀ r_10 : Int32, ∀ I_11 : gI, (r_10.toInt = spn (thC I_5) (dyC I_5 166) (c >>> (1 &&& 31 : Int32)).toNatClampNeg (c &&& 1 : Int32).toInt ∧ ∀ a, a ≠ 164 → a ≠ 165 → I_11 a = I_5 a) → (¬ r_10 = g → Go G mX5_swaps 10 0 0 82 [some (.ref 1), none, some (.int c), some (.int g), some (.int v4_1), some (.int v5_2), none] [.int 0] SH I_11 R L Q) ∧ (r_10 = g → Go G mX5_swaps 10 0 0 82 [some (.ref 1), none, some (.int c), some (.int g), some (.int v4_1), some (.int v5_2), none] [.int 1] SH I_11 R L Q)))))))))) ∧ (¬ c < (I 170 (p - 1).toNatClampNeg) → Q (some (.int 0)) SH I R L)))) : Mt G mX5_swaps 10 0 0 [.ref 1, .int p, .int c, .int g] SH I R L Q := by
  refine go_start rfl (Nat.le_of_ble_eq_true rfl) rfl ?_
  refine go_iload_n dX5_swaps_0 rfl ?_
  refine go_iconst (v := 1) dX5_swaps_1 (by decide) ?_
  refine go_icmp_lt 17 dX5_swaps_2 (by decide) (fun c => ?_) (fun c => ?_)
  · have h := h.1 c
    refine go_iconst (v := 0) dX5_swaps_17 (by decide) ?_
    exact go_zret dX5_swaps_18 rfl rfl rfl h
  · have h := h.2 c
    refine go_aload_n dX5_swaps_5 rfl ?_
    refine go_getR dX5_swaps_6 fX5_30 rfl rfl (hR 1 3 170 rfl) ?_
    refine go_iload_n dX5_swaps_9 rfl ?_
    refine go_iconst (v := 1) dX5_swaps_10 (by decide) ?_
    refine go_isub dX5_swaps_11 ?_
    obtain ⟨hi, h⟩ := h
    refine go_iald dX5_swaps_12 rfl hi ?_
    refine go_iload_n dX5_swaps_13 rfl ?_
    refine go_icmp_gt 19 dX5_swaps_14 (by decide) (fun c => ?_) (fun c => ?_)
    · have h := h.1 c
      refine go_aload_n dX5_swaps_19 rfl ?_
      refine go_getR dX5_swaps_20 fX5_30 rfl rfl (hR 1 3 170 rfl) ?_
      refine go_iload_n dX5_swaps_23 rfl ?_
      refine go_iconst (v := 1) dX5_swaps_24 (by decide) ?_
      refine go_isub dX5_swaps_25 ?_
      obtain ⟨hi, h⟩ := h
      refine go_iald dX5_swaps_26 rfl hi ?_
      refine go_istore dX5_swaps_27 (Nat.le_of_ble_eq_true rfl) rfl ?_
      have h := h _ rfl
      refine go_aload_n dX5_swaps_29 rfl ?_
      refine go_getR dX5_swaps_30 fX5_34 rfl rfl (hR 1 4 171 rfl) ?_
      refine go_iload_n dX5_swaps_33 rfl ?_
      refine go_iconst (v := 1) dX5_swaps_34 (by decide) ?_
      refine go_isub dX5_swaps_35 ?_
      obtain ⟨hi, h⟩ := h
      refine go_iald dX5_swaps_36 rfl hi ?_
      refine go_istore dX5_swaps_37 (Nat.le_of_ble_eq_true rfl) rfl ?_
      have h := h _ rfl
      refine go_aload_n dX5_swaps_39 rfl ?_
      refine go_getR dX5_swaps_40 fX5_26 rfl rfl (hR 1 2 166 rfl) ?_
      refine go_iload dX5_swaps_43 rfl ?_
      refine go_iconst (v := 1) dX5_swaps_45 (by decide) ?_
      refine go_ishr dX5_swaps_46 ?_
      refine go_iload dX5_swaps_47 rfl ?_
      refine go_iconst (v := 1) dX5_swaps_49 (by decide) ?_
      refine go_iand dX5_swaps_50 ?_
      refine go_iload dX5_swaps_51 rfl ?_
      obtain ⟨hp_3, h⟩ := h
      obtain ⟨hp_4, h⟩ := h
      refine go_callV0 (μ := mX5_swaps) [.int _, .int _, .int _] dX5_swaps_53 YX4_giveBack lX5_92 rfl ⟨_, rfl, rfl⟩ rfl (Nat.le_of_ble_eq_true rfl) (Nat.le_of_ble_eq_true rfl) rfl (k_X4_giveBack hR Sc_166 hp_3 hp_4 ?_)
      have h := h _ rfl
      refine go_aload_n dX5_swaps_56 rfl ?_
      refine go_getR dX5_swaps_57 fX5_12 rfl rfl (hR 1 0 2 rfl) ?_
      refine go_aload_n dX5_swaps_60 rfl ?_
      refine go_getR dX5_swaps_61 fX5_26 rfl rfl (hR 1 2 166 rfl) ?_
      refine go_iload_n dX5_swaps_64 rfl ?_
      refine go_iconst (v := 1) dX5_swaps_65 (by decide) ?_
      refine go_ishr dX5_swaps_66 ?_
      refine go_iload_n dX5_swaps_67 rfl ?_
      refine go_iconst (v := 1) dX5_swaps_68 (by decide) ?_
      refine go_iand dX5_swaps_69 ?_
      obtain ⟨hp_6, h⟩ := h
      obtain ⟨hp_7, h⟩ := h
      obtain ⟨hp_8, h⟩ := h
      obtain ⟨hp_9, h⟩ := h
      refine go_callV0 (μ := mX5_swaps) [.ref 166, .int _, .int _] dX5_swaps_70 YX0_spoonful lX5_59 rfl ⟨_, rfl, rfl⟩ rfl (Nat.le_of_ble_eq_true rfl) (Nat.le_of_ble_eq_true rfl) rfl (k_X0_spoonful hR Sc_166 hp_6 hp_7 hp_8 hp_9 (fun r_10 I_11 hq => ?_))
      have h := h r_10 I_11 hq
      refine go_iload_n dX5_swaps_73 rfl ?_
      refine go_icmp_ne 81 dX5_swaps_74 (by decide) (fun c => ?_) (fun c => ?_)
      · have h := h.1 c
        refine go_iconst (v := 0) dX5_swaps_81 (by decide) ?_
        refine go_drop 1 ?_
        exact h
      · have h := h.2 c
        refine go_iconst (v := 1) dX5_swaps_77 (by decide) ?_
        refine go_goto 82 dX5_swaps_78 (by decide) ?_
        refine go_drop 1 ?_
        exact h
    · have h := h.2 c
      refine go_iconst (v := 0) dX5_swaps_17 (by decide) ?_
      exact go_zret dX5_swaps_18 rfl rfl rfl h
theorem b_X5_swaps_82 {G : gG} {I : gI} {R : gR} {L : gL} {Q : gQ} {v2 v3 v4 v5 s0 : Int32} (hR : g_Fx R) (h : (s0 = 0 → Go G mX5_swaps 10 0 0 148 [some (.ref 1), none, none, none, some (.int v4), some (.int v5), some (.int s0)] [] SH I R L Q) ∧ (¬ s0 = 0 → (vp_in (v2 >>> (1 &&& 31 : Int32)) 9) ∧ ((¬ I (166 + 2) (v2 >>> (1 &&& 31 : Int32)).toNatClampNeg = 2 → 0 < v3 → vp_in (2 * I (166 + 2) (v2 >>> (1 &&& 31 : Int32)).toNatClampNeg + (v2 &&& 1 : Int32)) 4) ∧ (∀ I_17 : gI, I_17 = eatI I 166 (v2 >>> (1 &&& 31 : Int32)) (v2 &&& 1 : Int32) v3 → (vp_in (v4 >>> (1 &&& 31 : Int32)) 9) ∧ ((vp_in (v4 &&& 1 : Int32) 2) ∧ (okI I_17 ∧ ((okD (dyC I_17 166)) ∧ (∀ r_22 : Int32, ∀ I_23 : gI, (r_22.toInt = spn (thC I_17) (dyC I_17 166) (v4 >>> (1 &&& 31 : Int32)).toNatClampNeg (v4 &&& 1 : Int32).toInt ∧ ∀ a, a ≠ 164 → a ≠ 165 → I_23 a = I_17 a) → (¬ r_22 = v5 → Go G mX5_swaps 10 0 0 132 [some (.ref 1), none, some (.int v2), some (.int v3), some (.int v4), some (.int v5), none] [.int 0] SH I_23 R L Q) ∧ (r_22 = v5 → Go G mX5_swaps 10 0 0 132 [some (.ref 1), none, some (.int v2), some (.int v3), some (.int v4), some (.int v5), none] [.int 1] SH I_23 R L Q))))))))) : Go G mX5_swaps 10 0 0 82 [some (.ref 1), none, some (.int v2), some (.int v3), some (.int v4), some (.int v5), none] [.int s0] SH I R L Q := by
  refine go_istore dX5_swaps_82 (Nat.le_of_ble_eq_true rfl) rfl ?_
  refine go_iload dX5_swaps_84 rfl ?_
  refine go_if_eq 148 dX5_swaps_86 (by decide) (fun c => ?_) (fun c => ?_)
  · have h := h.1 c
    refine go_drop 2 ?_
    refine go_drop 3 ?_
    exact h
  · have h := h.2 c
    refine go_aload_n dX5_swaps_89 rfl ?_
    refine go_getR dX5_swaps_90 fX5_26 rfl rfl (hR 1 2 166 rfl) ?_
    refine go_iload_n dX5_swaps_93 rfl ?_
    refine go_iconst (v := 1) dX5_swaps_94 (by decide) ?_
    refine go_ishr dX5_swaps_95 ?_
    refine go_iload_n dX5_swaps_96 rfl ?_
    refine go_iconst (v := 1) dX5_swaps_97 (by decide) ?_
    refine go_iand dX5_swaps_98 ?_
    refine go_iload_n dX5_swaps_99 rfl ?_
    obtain ⟨hp_15, h⟩ := h
    obtain ⟨hp_16, h⟩ := h
    refine go_callV0 (μ := mX5_swaps) [.int _, .int _, .int _] dX5_swaps_100 YX4_eat lX5_63 rfl ⟨_, rfl, rfl⟩ rfl (Nat.le_of_ble_eq_true rfl) (Nat.le_of_ble_eq_true rfl) rfl (k_X4_eat hR Sc_166 hp_15 hp_16 ?_)
    have h := h _ rfl
    refine go_aload_n dX5_swaps_103 rfl ?_
    refine go_getR dX5_swaps_104 fX5_12 rfl rfl (hR 1 0 2 rfl) ?_
    refine go_aload_n dX5_swaps_107 rfl ?_
    refine go_getR dX5_swaps_108 fX5_26 rfl rfl (hR 1 2 166 rfl) ?_
    refine go_iload dX5_swaps_111 rfl ?_
    refine go_iconst (v := 1) dX5_swaps_113 (by decide) ?_
    refine go_ishr dX5_swaps_114 ?_
    refine go_iload dX5_swaps_115 rfl ?_
    refine go_iconst (v := 1) dX5_swaps_117 (by decide) ?_
    refine go_iand dX5_swaps_118 ?_
    obtain ⟨hp_18, h⟩ := h
    obtain ⟨hp_19, h⟩ := h
    obtain ⟨hp_20, h⟩ := h
    obtain ⟨hp_21, h⟩ := h
    refine go_callV0 (μ := mX5_swaps) [.ref 166, .int _, .int _] dX5_swaps_119 YX0_spoonful lX5_59 rfl ⟨_, rfl, rfl⟩ rfl (Nat.le_of_ble_eq_true rfl) (Nat.le_of_ble_eq_true rfl) rfl (k_X0_spoonful hR Sc_166 hp_18 hp_19 hp_20 hp_21 (fun r_22 I_23 hq => ?_))
    have h := h r_22 I_23 hq
    refine go_iload dX5_swaps_122 rfl ?_
    refine go_icmp_ne 131 dX5_swaps_124 (by decide) (fun c => ?_) (fun c => ?_)
    · have h := h.1 c
      refine go_iconst (v := 0) dX5_swaps_131 (by decide) ?_
      refine go_drop 6 ?_
      exact h
    · have h := h.2 c
      refine go_iconst (v := 1) dX5_swaps_127 (by decide) ?_
      refine go_goto 132 dX5_swaps_128 (by decide) ?_
      refine go_drop 6 ?_
      exact h
theorem b_X5_swaps_148 {G : gG} {I : gI} {R : gR} {L : gL} {Q : gQ} {v4 v5 v6 : Int32} (hR : g_Fx R) (h : (vp_in (v4 >>> (1 &&& 31 : Int32)) 9) ∧ ((¬ I (166 + 2) (v4 >>> (1 &&& 31 : Int32)).toNatClampNeg = 2 → 0 < v5 → vp_in (2 * I (166 + 2) (v4 >>> (1 &&& 31 : Int32)).toNatClampNeg + (v4 &&& 1 : Int32)) 4) ∧ (∀ I_28 : gI, I_28 = eatI I 166 (v4 >>> (1 &&& 31 : Int32)) (v4 &&& 1 : Int32) v5 → (v6 = 0 ∨ v6 = 1) ∧ Q (some (.int v6)) SH I_28 R L))) : Go G mX5_swaps 10 0 0 148 [some (.ref 1), none, none, none, some (.int v4), some (.int v5), some (.int v6)] [] SH I R L Q := by
  refine go_aload_n dX5_swaps_148 rfl ?_
  refine go_getR dX5_swaps_149 fX5_26 rfl rfl (hR 1 2 166 rfl) ?_
  refine go_iload dX5_swaps_152 rfl ?_
  refine go_iconst (v := 1) dX5_swaps_154 (by decide) ?_
  refine go_ishr dX5_swaps_155 ?_
  refine go_iload dX5_swaps_156 rfl ?_
  refine go_iconst (v := 1) dX5_swaps_158 (by decide) ?_
  refine go_iand dX5_swaps_159 ?_
  refine go_iload dX5_swaps_160 rfl ?_
  obtain ⟨hp_26, h⟩ := h
  obtain ⟨hp_27, h⟩ := h
  refine go_callV0 (μ := mX5_swaps) [.int _, .int _, .int _] dX5_swaps_162 YX4_eat lX5_63 rfl ⟨_, rfl, rfl⟩ rfl (Nat.le_of_ble_eq_true rfl) (Nat.le_of_ble_eq_true rfl) rfl (k_X4_eat hR Sc_166 hp_26 hp_27 ?_)
  have h := h _ rfl
  refine go_iload dX5_swaps_165 rfl ?_
  exact go_zret dX5_swaps_167 rfl (nz_or h.1) rfl h.2
theorem b_X5_swaps_132 {G : gG} {I : gI} {R : gR} {L : gL} {Q : gQ} {v2 v3 v4 v5 s0 : Int32} (hR : g_Fx R) (h : (vp_in (v2 >>> (1 &&& 31 : Int32)) 9) ∧ ((¬ I (166 + 2) (v2 >>> (1 &&& 31 : Int32)).toNatClampNeg = 2 → 0 < v3 → vp_in (2 * I (166 + 2) (v2 >>> (1 &&& 31 : Int32)).toNatClampNeg + (v2 &&& 1 : Int32)) 4) ∧ (∀ I_31 : gI, I_31 = givI I 166 (v2 >>> (1 &&& 31 : Int32)) (v2 &&& 1 : Int32) v3 → Go G mX5_swaps 10 0 0 148 [some (.ref 1), none, none, none, some (.int v4), some (.int v5), some (.int s0)] [] SH I_31 R L Q))) : Go G mX5_swaps 10 0 0 132 [some (.ref 1), none, some (.int v2), some (.int v3), some (.int v4), some (.int v5), none] [.int s0] SH I R L Q := by
  refine go_istore dX5_swaps_132 (Nat.le_of_ble_eq_true rfl) rfl ?_
  refine go_aload_n dX5_swaps_134 rfl ?_
  refine go_getR dX5_swaps_135 fX5_26 rfl rfl (hR 1 2 166 rfl) ?_
  refine go_iload_n dX5_swaps_138 rfl ?_
  refine go_iconst (v := 1) dX5_swaps_139 (by decide) ?_
  refine go_ishr dX5_swaps_140 ?_
  refine go_iload_n dX5_swaps_141 rfl ?_
  refine go_iconst (v := 1) dX5_swaps_142 (by decide) ?_
  refine go_iand dX5_swaps_143 ?_
  refine go_iload_n dX5_swaps_144 rfl ?_
  obtain ⟨hp_29, h⟩ := h
  obtain ⟨hp_30, h⟩ := h
  refine go_callV0 (μ := mX5_swaps) [.int _, .int _, .int _] dX5_swaps_145 YX4_giveBack lX5_92 rfl ⟨_, rfl, rfl⟩ rfl (Nat.le_of_ble_eq_true rfl) (Nat.le_of_ble_eq_true rfl) rfl (k_X4_giveBack hR Sc_166 hp_29 hp_30 ?_)
  have h := h _ rfl
  refine go_drop 2 ?_
  refine go_drop 3 ?_
  exact h
def kfI (I : gI) (h : Int32) : gI := cpy (up (up I 1 8 (I 1 11)) 1 9 h) 170 173 0 0 4
theorem k_X5_keepFound {G : gG} {I : gI} {R : gR} {L : gL} {Q : gQ} {u : Int32} (hR : g_Fx R) (hq : Q none SH (kfI I u) R L) : Mt G mX5_keepFound 1 0 0 [.ref 1, .int u] SH I R L Q := by
  refine e_X5_keepFound hR ?_
  rintro _ rfl _ rfl _ rfl
  exact hq
def swP (X : gI) (ka : Nat) (I : gI) (p c g : Int32) : Prop := okI I ∧ ∃ n kc, p = nI n ∧ n ≤ 5 ∧ c = nI kc ∧ kc < 18 ∧ 0 < g.toInt ∧ (1 ≤ n → I 170 (n - 1) = nI ka ∧ ka < 18 ∧ (∀ x, 166 ≤ x → x ≤ 169 → I x = eatI X 166 (nI (ka / 2)) (nI (ka % 2)) (I 171 (n - 1)) x) ∧ okDn 5 (dyC X 166) ∧ (I 171 (n - 1)).toInt = spn (thC I) (dyC X 166) (ka / 2) ((ka % 2 : Nat) : Int) ∧ 0 < (I 171 (n - 1)).toInt)
def swQ (X : gI) (ka : Nat) (I : gI) (p c g r : Int32) (I1 : gI) : Prop := (∀ x, x ≠ 164 → x ≠ 165 → I1 x = I x) ∧ (r = 0 ∨ r = 1) ∧ (¬ r = 0 → ∃ n kc, p = nI n ∧ n ≤ 5 ∧ 1 ≤ n ∧ c = nI kc ∧ kc < ka ∧ spn (thC I) (dyC X 166) (kc / 2) ((kc % 2 : Nat) : Int) = g.toInt ∧ spn (thC I) (eaD (dyC X 166) (kc / 2) ((kc % 2 : Nat) : Int) g.toInt) (ka / 2) ((ka % 2 : Nat) : Int) = (I 171 (n - 1)).toInt)
/-- what is eaten hangs on the scene's own cells -/
theorem eatI_at {X Y : gI} {x : Nat} {e k g : Int32} (h : ∀ c, x ≤ c → c ≤ x + 3 → Y c = X c) : ∀ c, x ≤ c → c ≤ x + 3 → eatI Y x e k g c = eatI X x e k g c := by
  intro c c1 c2
  have h0 := h x (by omega) (by omega)
  have h1 := h (x + 1) (by omega) (by omega)
  have h2 := h (x + 2) (by omega) (by omega)
  have h3 := h (x + 3) (by omega) (by omega)
  unfold eatI
  rw [h2]
  split
  · exact h c c1 c2
  · split
    · exact h c c1 c2
    · simp only [up_nc (show x + 3 ≠ x + 1 by omega), up_nc (show x ≠ x + 1 by omega), up_nc (show x ≠ x + 3 by omega), h0, h1, h3]
      funext m
      simp only [up, h c c1 c2]
theorem dyC_at {X Y : gI} {x : Nat} (h : ∀ c, x ≤ c → c ≤ x + 3 → Y c = X c) : dyC Y x = dyC X x := by
  unfold dyC; rw [h x (by omega) (by omega), h (x + 1) (by omega) (by omega), h (x + 2) (by omega) (by omega), h (x + 3) (by omega) (by omega)]
theorem half_n {k : Nat} (hk : k < 18) : nI k >>> ((1 : Int32) &&& 31) = nI (k / 2) ∧ nI k &&& 1 = nI (k % 2) ∧ k / 2 < 9 ∧ k % 2 < 2 := ⟨nI_shr (e := 1) (by omega) (by decide), nI_and1 k, by omega, Nat.mod_lt _ (by decide)⟩
/-- nothing but the scene's own cells was touched by what is eaten or given back -/
theorem eatI_off {X : gI} {x : Nat} {e k g : Int32} {c : Nat} (h : c < x ∨ x + 3 < c) : eatI X x e k g c = X c := by
  unfold eatI
  split
  · rfl
  · split
    · rfl
    · simp only []
      rw [up_off _ (by omega), up_off _ (by omega), up_off _ (by omega)]
theorem givI_off {X : gI} {x : Nat} {e k g : Int32} {c : Nat} (h : c < x ∨ x + 3 < c) : givI X x e k g c = X c := by
  unfold givI
  split
  · rfl
  · split
    · rfl
    · simp only []
      rw [up_off _ (by omega), up_off _ (by omega), up_off _ (by omega)]
theorem eatI_w {X : gI} {x : Nat} {e k g : Int32} : eatI X x e k g (x + 2) = X (x + 2) := by
  unfold eatI
  split
  · rfl
  · split
    · rfl
    · simp only []
      rw [up_off _ (by omega), up_off _ (by omega), up_off _ (by omega)]
theorem th_at {I J : gI} (h : ∀ c, c < 164 → c ≠ 1 → J c = I c) : thC J = thC I ∧ (okI I → okI J) := th_congr (by rw [h 3 (by decide) (by decide)]) (h _ (by decide) (by decide)) (h _ (by decide) (by decide)) (fun a a1 a2 => h a a2 (by omega))
theorem k_X5_swaps {G : gG} {I : gI} {R : gR} {L : gL} {Q : gQ} {p c g : Int32} {X : gI} {ka : Nat} (hR : g_Fx R) (p0 : swP X ka I p c g) (hq : ∀ r : Int32, ∀ I1 : gI, swQ X ka I p c g r I1 → Q (some (.int r)) SH I1 R L) : Mt G mX5_swaps 10 0 0 [.ref 1, .int p, .int c, .int g] SH I R L Q := by
  obtain ⟨oI, n, kc, rfl, hn, rfl, hkc, hg, hp⟩ := p0
  have z1 : (1 : Int32).toInt = 1 := rfl
  have no : Q (some (.int 0)) SH I R L := hq 0 I ⟨fun _ _ _ => rfl, Or.inl rfl, fun z => absurd rfl z⟩
  refine e_X5_swaps hR ⟨fun _ => no, fun d => ?_⟩
  rw [ti_lt, z1, nI_toInt (by omega)] at d
  have hn1 : 1 ≤ n := by omega
  obtain ⟨q1, hka, q3, q4, q5, q6⟩ := hp hn1
  have em : nI n - 1 = nI (n - 1) := by rw [show (1 : Int32) = nI 1 from rfl]; exact nI_sub hn1 (by omega)
  have vn : vp_in (nI (n - 1)) 6 := vp_in_nI (by omega) (by decide)
  rw [em, nI_clamp (by omega), q1, nI_ltI (by omega) (by omega)]
  refine ⟨vn, fun d2 => ⟨vn, ?_⟩, fun _ => no⟩
  rintro _ rfl
  refine ⟨vn, ?_⟩
  rintro _ rfl
  generalize hga : I 171 (n - 1) = ga at *
  obtain ⟨a1, a2, a3, a4⟩ := half_n hka
  obtain ⟨c1, c2, c3, c4⟩ := half_n hkc
  have at' : (nI (ka % 2)).toInt = ((ka % 2 : Nat) : Int) := nI_toInt (by omega)
  have ct' : (nI (kc % 2)).toInt = ((kc % 2 : Nat) : Int) := nI_toInt (by omega)
  rw [a1, a2, c1, c2]
  have oD := q4.ok (by decide)
  obtain ⟨w1, w2, w3, w4, w5⟩ := eatI_dy (I := X) (x := 166) (j := ka / 2) (e := nI (ka / 2)) (k := nI (ka % 2)) (g := ga) (κ := ka % 2) (θ := thC I) Sc_166 a3 rfl a4 rfl oI.1 oD (by rw [at']; exact q5)
  have i2 : I (166 + 2) = X (166 + 2) := by rw [q3 _ (by decide) (by decide), eatI_w]
  refine ⟨w4, by rw [i2]; exact w5, ?_⟩
  rintro _ rfl
  obtain ⟨y0, y1, y2, y3, y4⟩ := giv_back (X := X) (J := I) (x := 166) (e := nI (ka / 2)) (k := nI (ka % 2)) (g := ga) (q3 _ (by decide) (by decide)) (q3 _ (by decide) (by decide)) (q3 _ (by decide) (by decide)) (q3 _ (by decide) (by decide))
  generalize hY : givI I 166 (nI (ka / 2)) (nI (ka % 2)) ga = Y at *
  have yX : ∀ x, 166 ≤ x → x ≤ 166 + 3 → Y x = X x := fun x x1 x2 => by
    rcases (show x = 166 ∨ x = 166 + 1 ∨ x = 166 + 2 ∨ x = 166 + 3 by omega) with rfl | rfl | rfl | rfl
    · exact y0
    · exact y1
    · exact y2
    · exact y3
  have yo : ∀ x, (x < 166 ∨ 169 < x) → Y x = I x := fun x hx => by rw [← hY]; exact givI_off (by omega)
  have tY := th_at (I := I) (J := Y) (fun x x1 _ => yo x (by omega))
  have dY : dyC Y 166 = dyC X 166 := dyC_at yX
  refine ⟨vp_in_nI c3 (by decide), vp_in_nI c4 (by decide), tY.2 oI, by rw [dY]; exact oD, ?_⟩
  rw [tY.1, dY, nI_clamp (by omega), ct']
  rintro r1 Z ⟨hr1, hz⟩
  -- behind: all is as it was
  have back : ∀ (W : gI), (∀ x, 166 ≤ x → x ≤ 166 + 3 → W x = X x) → (∀ x, x ≠ 164 → x ≠ 165 → (x < 166 ∨ 169 < x) → W x = I x) → ∀ (r : Int32), (r = 0 ∨ r = 1) → (¬ r = 0 → spn (thC I) (dyC X 166) (kc / 2) ((kc % 2 : Nat) : Int) = g.toInt ∧ spn (thC I) (eaD (dyC X 166) (kc / 2) ((kc % 2 : Nat) : Int) g.toInt) (ka / 2) ((ka % 2 : Nat) : Int) = ga.toInt) → Go G mX5_swaps 10 0 0 148 [some (.ref 1), none, none, none, some (.int (nI ka)), some (.int ga), some (.int r)] [] SH W R L Q := by
    intro W wX wo r hr hs
    refine b_X5_swaps_148 hR ?_
    rw [a1, a2]
    refine ⟨w4, by rw [wX (166 + 2) (by decide) (by decide)]; exact w5, ?_⟩
    rintro _ rfl
    refine ⟨hr, hq r _ ⟨fun x x1 x2 => ?_, hr, fun z => ⟨n, kc, rfl, hn, hn1, rfl, d2, (hs z).1, by rw [hga]; exact (hs z).2⟩⟩⟩
    by_cases cx : x < 166 ∨ 169 < x
    · rw [eatI_off (by omega), wo x x1 x2 cx]
    · rw [eatI_at (X := X) wX x (by omega) (by omega), ← q3 x (by omega) (by omega)]
  have zX : ∀ x, 166 ≤ x → x ≤ 166 + 3 → Z x = X x := fun x x1 x2 => by rw [hz x (by omega) (by omega), yX x x1 x2]
  have zo : ∀ x, x ≠ 164 → x ≠ 165 → (x < 166 ∨ 169 < x) → Z x = I x := fun x x1 x2 x3 => by rw [hz x x1 x2, yo x x3]
  refine ⟨fun d3 => ?_, fun d3 => ?_⟩
  · exact b_X5_swaps_82 hR ⟨fun _ => back Z zX zo 0 (Or.inl rfl) (fun z => absurd rfl z), fun z => absurd rfl z⟩
  · rw [d3] at hr1
    have tZ := th_at (I := I) (J := Z) (fun x x1 x2 => zo x (by omega) (by omega) (by omega))
    have dZ : dyC Z 166 = dyC X 166 := dyC_at zX
    obtain ⟨v1, v2, v3, v4, v5⟩ := eatI_dy (I := Z) (x := 166) (j := kc / 2) (e := nI (kc / 2)) (k := nI (kc % 2)) (g := g) (κ := kc % 2) (θ := thC I) Sc_166 c3 rfl c4 rfl oI.1 (by rw [dZ]; exact oD) (by rw [dZ, ct']; exact hr1)
    rw [dZ, ct'] at v1
    refine b_X5_swaps_82 hR ⟨fun z => absurd z (by decide), fun _ => ?_⟩
    rw [a1, a2, c1, c2]
    refine ⟨v4, v5, ?_⟩
    rintro _ rfl
    generalize hV : eatI Z 166 (nI (kc / 2)) (nI (kc % 2)) g = V at *
    have vo : ∀ x, (x < 166 ∨ 169 < x) → V x = Z x := fun x hx => by rw [← hV]; exact eatI_off (by omega)
    have tV := th_at (I := I) (J := V) (fun x x1 x2 => by rw [vo x (by omega), zo x (by omega) (by omega) (by omega)])
    have oV : okDn 6 (dyC V 166) := by
      rw [v1, hr1]
      exact eaD_ok oI.1 q4 (by decide) c3 (by omega) (by omega)
    refine ⟨vp_in_nI a3 (by decide), vp_in_nI a4 (by decide), tV.2 oI, oV.ok (by decide), ?_⟩
    rw [tV.1, v1, nI_clamp (by omega), at']
    rintro r2 U ⟨hr2, hu⟩
    have fin : ∀ r : Int32, (r = 0 ∨ r = 1) → (¬ r = 0 → r2 = ga) → Go G mX5_swaps 10 0 0 132 [some (.ref 1), none, some (.int (nI kc)), some (.int g), some (.int (nI ka)), some (.int ga), none] [.int r] SH U R L Q := by
      intro r hr hs
      refine b_X5_swaps_132 hR ?_
      rw [c1, c2]
      have u2 : U (166 + 2) = Z (166 + 2) := by rw [hu _ (by decide) (by decide), ← hV, eatI_w]
      refine ⟨v4, by rw [u2]; exact v5, ?_⟩
      rintro _ rfl
      have uV : ∀ x, 166 ≤ x → x ≤ 169 → U x = eatI Z 166 (nI (kc / 2)) (nI (kc % 2)) g x := fun x x1 x2 => by rw [hu x (by omega) (by omega), hV]
      obtain ⟨t0, t1, t2, t3, t4⟩ := giv_back (X := Z) (J := U) (x := 166) (e := nI (kc / 2)) (k := nI (kc % 2)) (g := g) (uV _ (by decide) (by decide)) (uV _ (by decide) (by decide)) (uV _ (by decide) (by decide)) (uV _ (by decide) (by decide))
      refine back _ (fun x x1 x2 => ?_) (fun x x1 x2 x3 => ?_) r hr (fun z => ⟨hr1.symm, by rw [← hr2, hs z]⟩)
      · rcases (show x = 166 ∨ x = 166 + 1 ∨ x = 166 + 2 ∨ x = 166 + 3 by omega) with rfl | rfl | rfl | rfl
        · rw [t0, zX _ (by decide) (by decide)]
        · rw [t1, zX _ (by decide) (by decide)]
        · rw [t2, zX _ (by decide) (by decide)]
        · rw [t3, zX _ (by decide) (by decide)]
      · rw [givI_off (by omega), hu x x1 x2, vo x x3, zo x x1 x2 x3]
    exact ⟨fun d4 => fin 0 (Or.inl rfl) (fun z => absurd rfl z), fun d4 => fin 1 (Or.inr rfl) (fun _ => d4)⟩
