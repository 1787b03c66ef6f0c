theorem e_X5_trySpoons {G : gG} {I : gI} {R : gR} {L : gL} {Q : gQ} {d : Nat} (hd : 12 ≤ d) {X : gI} {ka : Nat} {p u : Int32} (hR : g_Fx R) (h : (p < 4 → Go G mX5_trySpoons (d + 1) 0 0 8 [some (.ref 1), some (.int p), some (.int u), some (.int 0), none, none, none] [] SH I R L Q) ∧ (¬ p < 4 → Q none SH I R L)) : Mt G mX5_trySpoons (d + 1) 0 0 [.ref 1, .int p, .int u] SH I R L Q := by
  refine go_start rfl (Nat.le_of_ble_eq_true rfl) rfl ?_
  refine go_iload_n dX5_trySpoons_0 rfl ?_
  refine go_iconst (v := 4) dX5_trySpoons_1 (by decide) ?_
  refine go_icmp_lt 6 dX5_trySpoons_2 (by decide) (fun c => ?_) (fun c => ?_)
  · have h := h.1 c
    refine go_iconst (v := 0) dX5_trySpoons_6 (by decide) ?_
    refine go_istore_n dX5_trySpoons_7 (Nat.le_of_ble_eq_true rfl) rfl ?_
    exact h
  · have h := h.2 c
    exact go_vret dX5_trySpoons_5 rfl rfl h
theorem b_X5_trySpoons_8 {G : gG} {I : gI} {R : gR} {L : gL} {Q : gQ} {d : Nat} (hd : 12 ≤ d) {X : gI} {ka : Nat} {v1 v2 v3 : Int32} (hR : g_Fx R) (h : ((2 * (I 3 6)) ≤ v3 → Q none SH I R L) ∧ (¬ (2 * (I 3 6)) ≤ v3 → (vp_in (v3 >>> (1 &&& 31 : Int32)) 9) ∧ ((vp_in (v3 &&& 1 : Int32) 2) ∧ (okI I ∧ ((okD (dyC I 166)) ∧ (∀ r_6 : Int32, ∀ I_7 : gI, (r_6.toInt = spn (thC I) (dyC I 166) (v3 >>> (1 &&& 31 : Int32)).toNatClampNeg (v3 &&& 1 : Int32).toInt ∧ ∀ a, a ≠ 164 → a ≠ 165 → I_7 a = I a) → (¬ (v3 &&& 1) = 0 → Go G mX5_trySpoons (d + 1) 0 0 54 [some (.ref 1), some (.int v1), some (.int v2), some (.int v3), some (.int r_6), none, none] [.int v2] SH I_7 R L Q) ∧ ((v3 &&& 1) = 0 → Go G mX5_trySpoons (d + 1) 0 0 54 [some (.ref 1), some (.int v1), some (.int v2), some (.int v3), some (.int r_6), none, none] [.int (v2 + r_6)] SH I_7 R L Q))))))) : Go G mX5_trySpoons (d + 1) 0 0 8 [some (.ref 1), some (.int v1), some (.int v2), some (.int v3), none, none, none] [] SH I R L Q := by
  refine go_iload_n dX5_trySpoons_8 rfl ?_
  refine go_iconst (v := 2) dX5_trySpoons_9 (by decide) ?_
  refine go_aload_n dX5_trySpoons_10 rfl ?_
  refine go_getR dX5_trySpoons_11 fX5_22 rfl rfl (hR 1 1 3 rfl) ?_
  refine go_getI dX5_trySpoons_14 fX5_56 rfl rfl ?_
  refine go_imul dX5_trySpoons_17 ?_
  refine go_icmp_ge 207 dX5_trySpoons_18 (by decide) (fun c => ?_) (fun c => ?_)
  · have h := h.1 c
    exact go_vret dX5_trySpoons_207 rfl rfl h
  · have h := h.2 c
    refine go_aload_n dX5_trySpoons_21 rfl ?_
    refine go_getR dX5_trySpoons_22 fX5_12 rfl rfl (hR 1 0 2 rfl) ?_
    refine go_aload_n dX5_trySpoons_25 rfl ?_
    refine go_getR dX5_trySpoons_26 fX5_26 rfl rfl (hR 1 2 166 rfl) ?_
    refine go_iload_n dX5_trySpoons_29 rfl ?_
    refine go_iconst (v := 1) dX5_trySpoons_30 (by decide) ?_
    refine go_ishr dX5_trySpoons_31 ?_
    refine go_iload_n dX5_trySpoons_32 rfl ?_
    refine go_iconst (v := 1) dX5_trySpoons_33 (by decide) ?_
    refine go_iand dX5_trySpoons_34 ?_
    obtain ⟨hp_2, h⟩ := h
    obtain ⟨hp_3, h⟩ := h
    obtain ⟨hp_4, h⟩ := h
    obtain ⟨hp_5, h⟩ := h
    refine go_callV0 (μ := mX5_trySpoons) [.ref 166, .int _, .int _] dX5_trySpoons_35 YX0_spoonful lX5_59 rfl ⟨_, rfl, rfl⟩ rfl (Nat.le_of_ble_eq_true rfl) (by omega) rfl (k_X0_spoonful hR Sc_166 hp_2 hp_3 hp_4 hp_5 (fun r_6 I_7 hq => ?_))
    have h := h r_6 I_7 hq
    refine go_istore dX5_trySpoons_38 (Nat.le_of_ble_eq_true rfl) rfl ?_
    refine go_iload_n dX5_trySpoons_40 rfl ?_
    refine go_iconst (v := 1) dX5_trySpoons_41 (by decide) ?_
    refine go_iand dX5_trySpoons_42 ?_
    refine go_if_ne 53 dX5_trySpoons_43 (by decide) (fun c => ?_) (fun c => ?_)
    · have h := h.1 c
      refine go_iload_n dX5_trySpoons_53 rfl ?_
      exact h
    · have h := h.2 c
      refine go_iload_n dX5_trySpoons_46 rfl ?_
      refine go_iload dX5_trySpoons_47 rfl ?_
      refine go_iadd dX5_trySpoons_49 ?_
      refine go_goto 54 dX5_trySpoons_50 (by decide) ?_
      exact h
theorem b_X5_trySpoons_54 {G : gG} {I : gI} {R : gR} {L : gL} {Q : gQ} {d : Nat} (hd : 12 ≤ d) {X : gI} {ka : Nat} {v1 v2 v3 v4 s0 : Int32} (hR : g_Fx R) (h : ((v1 + 1) < (I 1 11) → Go G mX5_trySpoons (d + 1) 0 0 71 [some (.ref 1), some (.int v1), some (.int v2), some (.int v3), some (.int v4), some (.int s0), none] [.int 0] SH I R L Q) ∧ (¬ (v1 + 1) < (I 1 11) → Go G mX5_trySpoons (d + 1) 0 0 71 [some (.ref 1), some (.int v1), some (.int v2), some (.int v3), some (.int v4), some (.int s0), none] [.int 1] SH I R L Q)) : Go G mX5_trySpoons (d + 1) 0 0 54 [some (.ref 1), some (.int v1), some (.int v2), some (.int v3), some (.int v4), none, none] [.int s0] SH I R L Q := by
  refine go_istore dX5_trySpoons_54 (Nat.le_of_ble_eq_true rfl) rfl ?_
  refine go_iload_n dX5_trySpoons_56 rfl ?_
  refine go_iconst (v := 1) dX5_trySpoons_57 (by decide) ?_
  refine go_iadd dX5_trySpoons_58 ?_
  refine go_aload_n dX5_trySpoons_59 rfl ?_
  refine go_getI dX5_trySpoons_60 fX5_105 rfl rfl ?_
  refine go_icmp_lt 70 dX5_trySpoons_63 (by decide) (fun c => ?_) (fun c => ?_)
  · have h := h.1 c
    refine go_iconst (v := 0) dX5_trySpoons_70 (by decide) ?_
    exact h
  · have h := h.2 c
    refine go_iconst (v := 1) dX5_trySpoons_66 (by decide) ?_
    refine go_goto 71 dX5_trySpoons_67 (by decide) ?_
    exact h
theorem b_X5_trySpoons_71 {G : gG} {I : gI} {R : gR} {L : gL} {Q : gQ} {d : Nat} (hd : 12 ≤ d) {X : gI} {ka : Nat} {v1 v2 v3 v4 v5 s0 : Int32} (hR : g_Fx R) (h : (v4 < 1 → ∀ v3_11 : Int32, v3_11 = v3 + 1 → Go G mX5_trySpoons (d + 1) 0 0 8 [some (.ref 1), some (.int v1), some (.int v2), some (.int v3_11), none, none, none] [] SH I R L Q) ∧ (¬ v4 < 1 → ((I 1 8) = (-1) → Go G mX5_trySpoons (d + 1) 0 0 96 [some (.ref 1), some (.int v1), some (.int v2), some (.int v3), some (.int v4), some (.int v5), some (.int s0)] [] SH I R L Q) ∧ (¬ (I 1 8) = (-1) → ((I 1 9) ≤ v5 → ∀ v3_12 : Int32, v3_12 = v3 + 1 → Go G mX5_trySpoons (d + 1) 0 0 8 [some (.ref 1), some (.int v1), some (.int v2), some (.int v3_12), none, none, none] [] SH I R L Q) ∧ (¬ (I 1 9) ≤ v5 → Go G mX5_trySpoons (d + 1) 0 0 96 [some (.ref 1), some (.int v1), some (.int v2), some (.int v3), some (.int v4), some (.int v5), some (.int s0)] [] SH I R L Q)))) : Go G mX5_trySpoons (d + 1) 0 0 71 [some (.ref 1), some (.int v1), some (.int v2), some (.int v3), some (.int v4), some (.int v5), none] [.int s0] SH I R L Q := by
  refine go_istore dX5_trySpoons_71 (Nat.le_of_ble_eq_true rfl) rfl ?_
  refine go_iload dX5_trySpoons_73 rfl ?_
  refine go_iconst (v := 1) dX5_trySpoons_75 (by decide) ?_
  refine go_icmp_lt 201 dX5_trySpoons_76 (by decide) (fun c => ?_) (fun c => ?_)
  · have h := h.1 c
    refine go_iinc dX5_trySpoons_201 rfl (Nat.le_of_ble_eq_true rfl) rfl ?_
    have h := h _ rfl
    refine go_goto 8 dX5_trySpoons_204 (by decide) ?_
    refine go_drop 4 ?_
    refine go_drop 5 ?_
    refine go_drop 6 ?_
    exact h
  · have h := h.2 c
    refine go_aload_n dX5_trySpoons_79 rfl ?_
    refine go_getI dX5_trySpoons_80 fX5_43 rfl rfl ?_
    refine go_iconst (v := -1) dX5_trySpoons_83 (by decide) ?_
    refine go_icmp_eq 96 dX5_trySpoons_84 (by decide) (fun c => ?_) (fun c => ?_)
    · have h := h.1 c
      exact h
    · have h := h.2 c
      refine go_iload dX5_trySpoons_87 rfl ?_
      refine go_aload_n dX5_trySpoons_89 rfl ?_
      refine go_getI dX5_trySpoons_90 fX5_98 rfl rfl ?_
      refine go_icmp_ge 201 dX5_trySpoons_93 (by decide) (fun c => ?_) (fun c => ?_)
      · have h := h.1 c
        refine go_iinc dX5_trySpoons_201 rfl (Nat.le_of_ble_eq_true rfl) rfl ?_
        have h := h _ rfl
        refine go_goto 8 dX5_trySpoons_204 (by decide) ?_
        refine go_drop 4 ?_
        refine go_drop 5 ?_
        refine go_drop 6 ?_
        exact h
      · have h := h.2 c
        exact h
theorem b_X5_trySpoons_96 {G : gG} {I : gI} {R : gR} {L : gL} {Q : gQ} {d : Nat} (hd : 12 ≤ d) {X : gI} {ka : Nat} {v1 v2 v3 v4 v5 v6 : Int32} (hR : g_Fx R) (h : (¬ v6 = 0 → Go G mX5_trySpoons (d + 1) 0 0 115 [some (.ref 1), some (.int v1), some (.int v2), some (.int v3), some (.int v4), some (.int v5), some (.int v6)] [] SH I R L Q) ∧ (v6 = 0 → swP X ka I v1 v3 v4 ∧ (∀ r_17 : Int32, ∀ I_18 : gI, swQ X ka I v1 v3 v4 r_17 I_18 → (r_17 = 0 → Go G mX5_trySpoons (d + 1) 0 0 115 [some (.ref 1), some (.int v1), some (.int v2), some (.int v3), some (.int v4), some (.int v5), some (.int v6)] [] SH I_18 R L Q) ∧ (¬ r_17 = 0 → ∀ v3_19 : Int32, v3_19 = v3 + 1 → Go G mX5_trySpoons (d + 1) 0 0 8 [some (.ref 1), some (.int v1), some (.int v2), some (.int v3_19), none, none, none] [] SH I_18 R L Q)))) : Go G mX5_trySpoons (d + 1) 0 0 96 [some (.ref 1), some (.int v1), some (.int v2), some (.int v3), some (.int v4), some (.int v5), some (.int v6)] [] SH I R L Q := by
  refine go_iload dX5_trySpoons_96 rfl ?_
  refine go_if_ne 115 dX5_trySpoons_98 (by decide) (fun c => ?_) (fun c => ?_)
  · have h := h.1 c
    exact h
  · have h := h.2 c
    refine go_aload_n dX5_trySpoons_101 rfl ?_
    refine go_iload_n dX5_trySpoons_102 rfl ?_
    refine go_iload_n dX5_trySpoons_103 rfl ?_
    refine go_iload dX5_trySpoons_104 rfl ?_
    obtain ⟨hp_16, h⟩ := h
    refine go_callV0 (μ := mX5_trySpoons) [.int _, .int _, .int _] dX5_trySpoons_106 YX5_swaps lX5_112 rfl ⟨_, rfl, rfl⟩ rfl (Nat.le_of_ble_eq_true rfl) (by omega) rfl (k_X5_swaps hR hp_16 (fun r_17 I_18 hq => ?_))
    have h := h r_17 I_18 hq
    refine go_if_eq 115 dX5_trySpoons_109 (by decide) (fun c => ?_) (fun c => ?_)
    · have h := h.1 c
      exact h
    · have h := h.2 c
      refine go_goto 201 dX5_trySpoons_112 (by decide) ?_
      refine go_iinc dX5_trySpoons_201 rfl (Nat.le_of_ble_eq_true rfl) rfl ?_
      have h := h _ rfl
      refine go_goto 8 dX5_trySpoons_204 (by decide) ?_
      refine go_drop 4 ?_
      refine go_drop 5 ?_
      refine go_drop 6 ?_
      exact h
theorem b_X5_trySpoons_115 {G : gG} {I : gI} {R : gR} {L : gL} {Q : gQ} {d : Nat} (hd : 12 ≤ d) {X : gI} {ka : Nat} {v1 v2 v3 v4 v5 v6 : Int32} (hR : g_Fx R) (h : vp_in v1 6 ∧ (∀ I_22 : gI, I_22 = up I 170 v1.toNatClampNeg v3 → vp_in v1 6 ∧ (∀ I_23 : gI, I_23 = up I_22 171 v1.toNatClampNeg v4 → (vp_in (v3 >>> (1 &&& 31 : Int32)) 9) ∧ ((¬ I_23 (166 + 2) (v3 >>> (1 &&& 31 : Int32)).toNatClampNeg = 2 → 0 < v4 → vp_in (2 * I_23 (166 + 2) (v3 >>> (1 &&& 31 : Int32)).toNatClampNeg + (v3 &&& 1 : Int32)) 4) ∧ (∀ I_26 : gI, I_26 = eatI I_23 166 (v3 >>> (1 &&& 31 : Int32)) (v3 &&& 1 : Int32) v4 → (¬ v6 = 0 → (vp_in (I_26 1 10) 2) ∧ (okI I_26 ∧ ((okD (dyC I_26 166)) ∧ ((0 ≤ (I_26 166 4).toInt ∧ (I_26 166 4).toInt ≤ 30) ∧ (∀ I_31 : gI, (∀ a, a ≠ 164 → a ≠ 165 → I_31 a = I_26 a) → (gui (thC I_26) (dyC I_26 166) (I_26 1 10).toInt (I_26 166 4).toInt = true → Go G mX5_trySpoons (d + 1) 0 0 186 [some (.ref 1), some (.int v1), some (.int v2), some (.int v3), some (.int v4), none, none] [] SH I_31 R L Q) ∧ (¬ (gui (thC I_26) (dyC I_26 166) (I_26 1 10).toInt (I_26 166 4).toInt = true) → ∀ I_32 : gI, I_32 = kfI I_31 v5 → Go G mX5_trySpoons (d + 1) 0 0 186 [some (.ref 1), some (.int v1), some (.int v2), some (.int v3), some (.int v4), none, none] [] SH I_32 R L Q)))))) ∧ (v6 = 0 → Mt G mX5_trySpoons d 0 0 [.ref 1, .int (v1 + 1), .int v5] SH I_26 R L (fun r S' I' R' L' => Go G mX5_trySpoons (d + 1) 0 0 159 [some (.ref 1), some (.int v1), some (.int v2), some (.int v3), some (.int v4), none, none] (r.toList ++ []) S' I' R' L' Q))))))) : Go G mX5_trySpoons (d + 1) 0 0 115 [some (.ref 1), some (.int v1), some (.int v2), some (.int v3), some (.int v4), some (.int v5), some (.int v6)] [] SH I R L Q := by
  refine go_aload_n dX5_trySpoons_115 rfl ?_
  refine go_getR dX5_trySpoons_116 fX5_30 rfl rfl (hR 1 3 170 rfl) ?_
  refine go_iload_n dX5_trySpoons_119 rfl ?_
  refine go_iload_n dX5_trySpoons_120 rfl ?_
  obtain ⟨hi, h⟩ := h
  refine go_iast dX5_trySpoons_121 rfl hi ?_
  have h := h _ rfl
  refine go_aload_n dX5_trySpoons_122 rfl ?_
  refine go_getR dX5_trySpoons_123 fX5_34 rfl rfl (hR 1 4 171 rfl) ?_
  refine go_iload_n dX5_trySpoons_126 rfl ?_
  refine go_iload dX5_trySpoons_127 rfl ?_
  obtain ⟨hi, h⟩ := h
  refine go_iast dX5_trySpoons_129 rfl hi ?_
  have h := h _ rfl
  refine go_aload_n dX5_trySpoons_130 rfl ?_
  refine go_getR dX5_trySpoons_131 fX5_26 rfl rfl (hR 1 2 166 rfl) ?_
  refine go_iload_n dX5_trySpoons_134 rfl ?_
  refine go_iconst (v := 1) dX5_trySpoons_135 (by decide) ?_
  refine go_ishr dX5_trySpoons_136 ?_
  refine go_iload_n dX5_trySpoons_137 rfl ?_
  refine go_iconst (v := 1) dX5_trySpoons_138 (by decide) ?_
  refine go_iand dX5_trySpoons_139 ?_
  refine go_iload dX5_trySpoons_140 rfl ?_
  obtain ⟨hp_24, h⟩ := h
  obtain ⟨hp_25, h⟩ := h
  refine go_callV0 (μ := mX5_trySpoons) [.int _, .int _, .int _] dX5_trySpoons_142 YX4_eat lX5_63 rfl ⟨_, rfl, rfl⟩ rfl (Nat.le_of_ble_eq_true rfl) (by omega) rfl (k_X4_eat hR Sc_166 hp_24 hp_25 ?_)
  have h := h _ rfl
  refine go_iload dX5_trySpoons_145 rfl ?_
  refine go_if_ne 162 dX5_trySpoons_147 (by decide) (fun c => ?_) (fun c => ?_)
  · have h := h.1 c
    refine go_aload_n dX5_trySpoons_162 rfl ?_
    refine go_getR dX5_trySpoons_163 fX5_12 rfl rfl (hR 1 0 2 rfl) ?_
    refine go_aload_n dX5_trySpoons_166 rfl ?_
    refine go_getR dX5_trySpoons_167 fX5_26 rfl rfl (hR 1 2 166 rfl) ?_
    refine go_aload_n dX5_trySpoons_170 rfl ?_
    refine go_getI dX5_trySpoons_171 fX5_95 rfl rfl ?_
    obtain ⟨hp_27, h⟩ := h
    obtain ⟨hp_28, h⟩ := h
    obtain ⟨hp_29, h⟩ := h
    obtain ⟨hp_30, h⟩ := h
    refine go_callV0 (μ := mX5_trySpoons) [.ref 166, .int _] dX5_trySpoons_174 YX0_isGuilty lX5_101 rfl ⟨_, rfl, rfl⟩ rfl (Nat.le_of_ble_eq_true rfl) (by omega) rfl (k_X0_isGuilty hR Sc_166 hp_27 hp_28 hp_29 hp_30 (fun I_31 hq => ?_))
    have h := h I_31 hq
    refine go_if_ne 186 dX5_trySpoons_177 (by decide) (fun c => ?_) (fun c => ?_)
    · have h := h.1 (b1.mp c)
      refine go_drop 5 ?_
      refine go_drop 6 ?_
      exact h
    · have h := h.2 (b0.mp c)
      refine go_aload_n dX5_trySpoons_180 rfl ?_
      refine go_iload dX5_trySpoons_181 rfl ?_
      refine go_callV0 (μ := mX5_trySpoons) [.int _] dX5_trySpoons_183 YX5_keepFound lX5_116 rfl ⟨_, rfl, rfl⟩ rfl (Nat.le_of_ble_eq_true rfl) (by omega) rfl (k_X5_keepFound hR ?_)
      have h := h _ rfl
      refine go_drop 5 ?_
      refine go_drop 6 ?_
      exact h
  · have h := h.2 c
    refine go_aload_n dX5_trySpoons_150 rfl ?_
    refine go_iload_n dX5_trySpoons_151 rfl ?_
    refine go_iconst (v := 1) dX5_trySpoons_152 (by decide) ?_
    refine go_iadd dX5_trySpoons_153 ?_
    refine go_iload dX5_trySpoons_154 rfl ?_
    refine go_drop 5 ?_
    refine go_drop 6 ?_
    refine go_callV0 (μ := mX5_trySpoons) [.int _, .int _] dX5_trySpoons_156 YX5_trySpoons lX5_108 rfl ⟨_, rfl, rfl⟩ rfl (Nat.le_of_ble_eq_true rfl) (Nat.le_refl _) rfl h
theorem b_X5_trySpoons_186 {G : gG} {I : gI} {R : gR} {L : gL} {Q : gQ} {d : Nat} (hd : 12 ≤ d) {X : gI} {ka : Nat} {v1 v2 v3 v4 : Int32} (hR : g_Fx R) (h : (vp_in (v3 >>> (1 &&& 31 : Int32)) 9) ∧ ((¬ I (166 + 2) (v3 >>> (1 &&& 31 : Int32)).toNatClampNeg = 2 → 0 < v4 → vp_in (2 * I (166 + 2) (v3 >>> (1 &&& 31 : Int32)).toNatClampNeg + (v3 &&& 1 : Int32)) 4) ∧ (∀ I_37 : gI, I_37 = givI I 166 (v3 >>> (1 &&& 31 : Int32)) (v3 &&& 1 : Int32) v4 → ∀ v3_38 : Int32, v3_38 = v3 + 1 → Go G mX5_trySpoons (d + 1) 0 0 8 [some (.ref 1), some (.int v1), some (.int v2), some (.int v3_38), none, none, none] [] SH I_37 R L Q))) : Go G mX5_trySpoons (d + 1) 0 0 186 [some (.ref 1), some (.int v1), some (.int v2), some (.int v3), some (.int v4), none, none] [] SH I R L Q := by
  refine go_aload_n dX5_trySpoons_186 rfl ?_
  refine go_getR dX5_trySpoons_187 fX5_26 rfl rfl (hR 1 2 166 rfl) ?_
  refine go_iload_n dX5_trySpoons_190 rfl ?_
  refine go_iconst (v := 1) dX5_trySpoons_191 (by decide) ?_
  refine go_ishr dX5_trySpoons_192 ?_
  refine go_iload_n dX5_trySpoons_193 rfl ?_
  refine go_iconst (v := 1) dX5_trySpoons_194 (by decide) ?_
  refine go_iand dX5_trySpoons_195 ?_
  refine go_iload dX5_trySpoons_196 rfl ?_
  obtain ⟨hp_35, h⟩ := h
  obtain ⟨hp_36, h⟩ := h
  refine go_callV0 (μ := mX5_trySpoons) [.int _, .int _, .int _] dX5_trySpoons_198 YX4_giveBack lX5_92 rfl ⟨_, rfl, rfl⟩ rfl (Nat.le_of_ble_eq_true rfl) (by omega) rfl (k_X4_giveBack hR Sc_166 hp_35 hp_36 ?_)
  have h := h _ rfl
  refine go_iinc dX5_trySpoons_201 rfl (Nat.le_of_ble_eq_true rfl) rfl ?_
  have h := h _ rfl
  refine go_goto 8 dX5_trySpoons_204 (by decide) ?_
  refine go_drop 4 ?_
  exact h
theorem b_X5_trySpoons_159 {G : gG} {I : gI} {R : gR} {L : gL} {Q : gQ} {d : Nat} (hd : 12 ≤ d) {X : gI} {ka : Nat} {v1 v2 v3 v4 : Int32} (hR : g_Fx R) (h : Go G mX5_trySpoons (d + 1) 0 0 186 [some (.ref 1), some (.int v1), some (.int v2), some (.int v3), some (.int v4), none, none] [] SH I R L Q) : Go G mX5_trySpoons (d + 1) 0 0 159 [some (.ref 1), some (.int v1), some (.int v2), some (.int v3), some (.int v4), none, none] [] SH I R L Q := by
  refine go_goto 186 dX5_trySpoons_159 (by decide) ?_
  exact h
def asA (J : gI) (g : Nat) (S : aS) : Prop := match S with
  | none => J 1 8 = -1
  | some (h, l) => J 1 8 = nI g ∧ (J 1 9).toInt = h ∧ ∀ i, i < l.length → (J 173 i).toInt = l.getD i 0
def frB (n : Nat) (J J' : gI) : Prop := (∀ c, c ≠ 1 → c ≠ 164 → c ≠ 165 → c ≠ 170 → c ≠ 171 → c ≠ 173 → J' c = J c) ∧ (∀ j, j ≠ 8 → j ≠ 9 → J' 1 j = J 1 j) ∧ ∀ i, i < n → J' 170 i = J 170 i ∧ J' 171 i = J 171 i
theorem frB_rfl (n : Nat) (J : gI) : frB n J J := ⟨fun _ _ _ _ _ _ _ => rfl, fun _ _ _ => rfl, fun _ _ => ⟨rfl, rfl⟩⟩
theorem frB_tr {n : Nat} {J J1 J2 : gI} (h : frB n J J1) (g : frB n J1 J2) : frB n J J2 := ⟨fun c c1 c2 c3 c4 c5 c6 => (g.1 c c1 c2 c3 c4 c5 c6).trans (h.1 c c1 c2 c3 c4 c5 c6), fun j h8 h9 => (g.2.1 j h8 h9).trans (h.2.1 j h8 h9), fun i hi => ⟨((g.2.2 i hi).1).trans (h.2.2 i hi).1, ((g.2.2 i hi).2).trans (h.2.2 i hi).2⟩⟩
theorem asA_eq {J J' : gI} {g : Nat} {S : aS} (h1 : J' 1 = J 1) (h2 : J' 173 = J 173) (a : asA J g S) : asA J' g S := by
  match S, a with
  | none, a => show J' 1 8 = -1; rw [h1]; exact a
  | some (h, l), a => show J' 1 8 = nI g ∧ (J' 1 9).toInt = h ∧ ∀ i, i < l.length → (J' 173 i).toInt = l.getD i 0; rw [h1, h2]; exact a
theorem rnA_ok {θ : thy} {E : Int} (o : okT θ) (hE : E ≤ 9) : ∀ (p : List Int) {δ δ' : dyn} {h h' : Int} {n : Nat}, cds E p → n + p.length ≤ 10 → okDn n δ → rnA θ p δ h = some (δ', h') → okDn (n + p.length) δ' ∧ h' ≤ h + 99 * p.length
  | [], δ, δ', h, h', n, _, _, oD, e => by
    simp only [rnA, Option.some.injEq, Prod.mk.injEq] at e
    rw [← e.1, ← e.2]; exact ⟨oD, by simp⟩
  | c :: p, δ, δ', h, h', n, hc, hn, oD, e => by
    simp only [List.length_cons] at hn ⊢
    have hc0 := hc c (by simp)
    have he : (c / 2).toNat < 9 := by omega
    have sr := spn_rng (k := c % 2) o (oD.ok (by omega)) he (by omega) (by omega)
    simp only [rnA] at e
    split at e
    · obtain ⟨r1, r2⟩ := rnA_ok o hE p (n := n + 1) (fun x hx => hc x (by simp [hx])) (by omega) (eaD_ok o oD (by omega) he (by omega) (by omega)) e
      refine ⟨by rw [show n + (p.length + 1) = n + 1 + p.length by omega]; exact r1, ?_⟩
      split at r2 <;> omega
    · cases e
theorem rnA_cons {θ : thy} {k : Nat} {r : List Int} {δ δ2 : dyn} {h h2 : Int} (e : rnA θ ((k : Int) :: r) δ h = some (δ2, h2)) : 0 < spn θ δ (k / 2) ((k % 2 : Nat) : Int) ∧ rnA θ r (eaD δ (k / 2) ((k % 2 : Nat) : Int) (spn θ δ (k / 2) ((k % 2 : Nat) : Int))) (if k % 2 = 0 then h + spn θ δ (k / 2) ((k % 2 : Nat) : Int) else h) = some (δ2, h2) := by
  have e1 : ((k : Int) / 2).toNat = k / 2 := by omega
  have e2 : (k : Int) % 2 = ((k % 2 : Nat) : Int) := by omega
  simp only [rnA, e1, e2] at e
  split at e
  · rename_i hp
    refine ⟨hp, ?_⟩
    by_cases c : k % 2 = 0
    · rw [if_pos c]; rw [if_pos (by omega)] at e; exact e
    · rw [if_neg c]; rw [if_neg (by omega)] at e; exact e
  · cases e
theorem rnA_one {θ : thy} {k : Nat} {r : List Int} {δ : dyn} {h : Int} (hp : 0 < spn θ δ (k / 2) ((k % 2 : Nat) : Int)) : rnA θ ((k : Int) :: r) δ h = rnA θ r (eaD δ (k / 2) ((k % 2 : Nat) : Int) (spn θ δ (k / 2) ((k % 2 : Nat) : Int))) (if k % 2 = 0 then h + spn θ δ (k / 2) ((k % 2 : Nat) : Int) else h) := by
  have e1 : ((k : Int) / 2).toNat = k / 2 := by omega
  have e2 : (k : Int) % 2 = ((k % 2 : Nat) : Int) := by omega
  simp only [rnA, e1, e2]
  rw [if_pos hp]
  congr 1
  by_cases c : k % 2 = 0
  · rw [if_pos c, if_pos (by omega)]
  · rw [if_neg c, if_neg (by omega)]
/-- what stands ahead of the latest spoon -/
def pvA (θ : thy) (δ0 : dyn) (X : gI) (ka : Nat) (pre : List Int) (J : gI) : Prop := 1 ≤ pre.length → J 170 (pre.length - 1) = nI ka ∧ ka < 18 ∧ (∀ x, 166 ≤ x → x ≤ 169 → J x = eatI X 166 (nI (ka / 2)) (nI (ka % 2)) (J 171 (pre.length - 1)) x) ∧ ∃ pre' δ' h', pre = pre' ++ [(ka : Int)] ∧ rnA θ pre' δ0 0 = some (δ', h') ∧ eqD (dyC X 166) δ' ∧ (J 171 (pre.length - 1)).toInt = spn θ δ' (ka / 2) ((ka % 2 : Nat) : Int) ∧ 0 < (J 171 (pre.length - 1)).toInt
theorem k_trySpoons_step {G : gG} {R : gR} {I0 : gI} {E g σ : Nat} {dn : Int32} {δ0 : dyn} (hR : g_Fx R) (oI : okI I0) (hE : E ≤ 9) (e6 : I0 3 6 = nI E) (hg4 : g ≤ 4) (hσ : σ < 2) (hdn : 0 ≤ dn.toInt ∧ dn.toInt ≤ 30) (oD0 : okDn 0 δ0) (m d : Nat) (pre : List Int) (J : gI) (S : aS) (L : gL) (Q : gQ) (X : gI) (ka : Nat) (δ : dyn) (u : Int32) (hdm : 12 ≤ d) (hl : pre.length + (m + 1) = g) (hc : cds E pre) (hrn : rnA (thC I0) pre δ0 0 = some (δ, u.toInt)) (hD : eqD (dyC J 166) δ) (jx : ∀ c, c < 164 → c ≠ 1 → J c = I0 c) (j11 : J 1 11 = nI g) (j10 : J 1 10 = nI σ) (j4 : J 166 4 = dn) (hp : ∀ i, i < pre.length → (J 170 i).toInt = pre.getD i 0) (pv : pvA (thC I0) δ0 X ka pre J) (iv : ivA (thC I0) δ0 E σ dn.toInt g S pre) (as : asA J g S)
    (q : ∀ J' S', frB pre.length J J' → asA J' g S' → ivA (thC I0) δ0 E σ dn.toInt g S' (pre ++ [2 * (E : Int)]) → Q none SH J' R L)
    (hrec : ¬ m = 0 → ∃ d', d = d' + 1 ∧ ∀ (pre2 : List Int) (J2 : gI) (S2 : aS) (L2 : gL) (Q2 : gQ) (X2 : gI) (ka2 : Nat) (δ2 : dyn) (u2 : Int32), pre2.length = pre.length + 1 → cds E pre2 → rnA (thC I0) pre2 δ0 0 = some (δ2, u2.toInt) → eqD (dyC J2 166) δ2 → (∀ c, c < 164 → c ≠ 1 → J2 c = I0 c) → J2 1 11 = nI g → J2 1 10 = nI σ → J2 166 4 = dn → (∀ i, i < pre2.length → (J2 170 i).toInt = pre2.getD i 0) → pvA (thC I0) δ0 X2 ka2 pre2 J2 → ivA (thC I0) δ0 E σ dn.toInt g S2 pre2 → asA J2 g S2 → (∀ J' S', frB pre2.length J2 J' → asA J' g S' → ivA (thC I0) δ0 E σ dn.toInt g S' (pre2 ++ [2 * (E : Int)]) → Q2 none SH J' R L2) → Mt G mX5_trySpoons (d' + 1) 0 0 [.ref 1, .int (nI pre2.length), .int u2] SH J2 R L2 Q2) :
    Mt G mX5_trySpoons (d + 1) 0 0 [.ref 1, .int (nI pre.length), .int u] SH J R L Q := by
  have z1 : (1 : Int32).toInt = 1 := rfl
  obtain ⟨oDn, hub⟩ := rnA_ok oI.1 (show (E : Int) ≤ 9 by omega) pre (n := 0) hc (by omega) oD0 hrn
  rw [Nat.zero_add] at oDn
  have hu0 := rnA_mono _ _ hrn
  have oD := oDn.ok (by omega)
  generalize hn : pre.length = n at *
  have iv0 : ivA (thC I0) δ0 E σ dn.toInt g S (pre ++ [((0 : Nat) : Int)]) := iv_eq iv (fun l h' _ hgd => plt_zero hgd.1)
  -- those that begin so
  have beg : ∀ (k : Nat) (r : List Int) (h' : Int), gdA (thC I0) δ0 E σ dn.toInt (pre ++ (k : Int) :: r) h' → 0 < spn (thC I0) δ (k / 2) ((k % 2 : Nat) : Int) ∧ ∃ δ2, rnA (thC I0) r (eaD δ (k / 2) ((k % 2 : Nat) : Int) (spn (thC I0) δ (k / 2) ((k % 2 : Nat) : Int))) (if k % 2 = 0 then u.toInt + spn (thC I0) δ (k / 2) ((k % 2 : Nat) : Int) else u.toInt) = some (δ2, h') ∧ gui (thC I0) δ2 σ dn.toInt = false := by
    rintro k r h' ⟨-, δ2, h1, h2⟩
    rw [rnA_app, hrn] at h1
    obtain ⟨g1, g2⟩ := rnA_cons h1
    exact ⟨g1, δ2, g2, h2⟩
  have loop : ∀ w k (K : gI) (S1 : aS), k + w = 2 * E → frB n J K → asA K g S1 → ivA (thC I0) δ0 E σ dn.toInt g S1 (pre ++ [(k : Int)]) → Go G mX5_trySpoons (d + 1) 0 0 8 [some (.ref 1), some (.int (nI n)), some (.int u), some (.int (nI k)), none, none, none] [] SH K R L Q := by
    intro w
    induction w with
    | zero =>
      intro k K S1 ek fr as1 iv1
      have k6 : K 3 6 = nI E := by rw [fr.1 3 (by decide) (by decide) (by decide) (by decide) (by decide) (by decide), jx 3 (by decide) (by decide)]; exact e6
      refine b_X5_trySpoons_8 (d := d) hdm (X := X) (ka := ka) hR ⟨fun _ => q K S1 fr as1 ?_, fun c => absurd (by rw [k6, show (2 : Int32) = nI 2 from rfl, nI_mul]; exact nI_le (by omega) (by omega)) c⟩
      rw [show (2 * (E : Int)) = (k : Int) by omega]; exact iv1
    | succ w ih =>
      intro k K S1 ek fr as1 iv1
      have hk18 : k < 18 := by omega
      obtain ⟨a1, a2, a3, a4⟩ := half_n hk18
      have kx : ∀ c, c < 164 → c ≠ 1 → K c = I0 c := fun c c1 c2 => by rw [fr.1 c c2 (by omega) (by omega) (by omega) (by omega) (by omega), jx c c1 c2]
      have k6 : K 3 6 = nI E := by rw [kx 3 (by decide) (by decide)]; exact e6
      have k4 : ∀ x, 166 ≤ x → x ≤ 166 + 3 → K x = J x := fun x x1 x2 => fr.1 x (by omega) (by omega) (by omega) (by omega) (by omega) (by omega)
      have dK : dyC K 166 = dyC J 166 := dyC_at k4
      have tK := th_at (I := I0) (J := K) kx
      have hDK : eqD (dyC K 166) δ := by rw [dK]; exact hD
      have oDK : okD (dyC K 166) := okD_eq hDK.symm oD
      have at' : (nI (k % 2)).toInt = ((k % 2 : Nat) : Int) := nI_toInt (by omega)
      -- on to the next one, S as it is
      have nxt : ∀ (K' : gI), (∀ x, x ≠ 164 → x ≠ 165 → K' x = K x) → ivA (thC I0) δ0 E σ dn.toInt g S1 (pre ++ [((k + 1 : Nat) : Int)]) → ∀ v : Int32, v = nI k + 1 → Go G mX5_trySpoons (d + 1) 0 0 8 [some (.ref 1), some (.int (nI n)), some (.int u), some (.int v), none, none, none] [] SH K' R L Q := fun K' kk ivn v ev => by
        rw [ev, nI_1]
        exact ih (k + 1) K' S1 (by omega) (frB_tr fr ⟨fun c _ c2 c3 _ _ _ => kk c c2 c3, fun j _ _ => by rw [kk 1 (by decide) (by decide)], fun i _ => by rw [kk 170 (by decide) (by decide), kk 171 (by decide) (by decide)]; exact ⟨rfl, rfl⟩⟩) (asA_eq (kk 1 (by decide) (by decide)) (kk 173 (by decide) (by decide)) as1) ivn
      refine b_X5_trySpoons_8 (d := d) hdm (X := X) (ka := ka) hR ⟨fun c => absurd c (by rw [k6, show (2 : Int32) = nI 2 from rfl, nI_mul]; exact nI_ge (by omega) (by omega)), fun _ => ?_⟩
      rw [a1, a2]
      refine ⟨vp_in_nI a3 (by decide), vp_in_nI a4 (by decide), tK.2 oI, oDK, ?_⟩
      rw [nI_clamp (by omega), at', tK.1]
      rintro r K1 ⟨hr, hx⟩
      have hr' : r.toInt = spn (thC I0) δ (k / 2) ((k % 2 : Nat) : Int) := by rw [hr]; exact spn_eq (eqT.rfl' _) hDK oI.1 oDK a3 (by omega) (by omega)
      have rr := spn_rng (k := ((k % 2 : Nat) : Int)) oI.1 oD a3 (by omega) (by omega)
      rw [← hr'] at rr
      -- the honey then
      have body : ∀ s0 : Int32, s0.toInt = (if k % 2 = 0 then u.toInt + r.toInt else u.toInt) → Go G mX5_trySpoons (d + 1) 0 0 54 [some (.ref 1), some (.int (nI n)), some (.int u), some (.int (nI k)), some (.int r), none, none] [.int s0] SH K1 R L Q := by
        intro s0 es0
        have es0' : s0.toInt = (if k % 2 = 0 then u.toInt + spn (thC I0) δ (k / 2) ((k % 2 : Nat) : Int) else u.toInt) := by rw [es0, hr']
        have k1 : ∀ x, x ≠ 164 → x ≠ 165 → K1 x = K x := hx
        have k111 : K1 1 11 = nI g := by rw [k1 1 (by decide) (by decide), fr.2.1 11 (by decide) (by decide)]; exact j11
        have last : ∀ v6 : Int32, (v6 = 0 ∨ v6 = 1) → (v6 = 0 ↔ ¬ m = 0) → Go G mX5_trySpoons (d + 1) 0 0 71 [some (.ref 1), some (.int (nI n)), some (.int u), some (.int (nI k)), some (.int r), some (.int s0), none] [.int v6] SH K1 R L Q := by
          intro v6 hv6 lv6
          -- it is tried
          have go : 0 < r.toInt → (∀ h l, S1 = some (h, l) → s0.toInt < h) → ∀ (K2 : gI), (∀ x, x ≠ 164 → x ≠ 165 → K2 x = K x) → Go G mX5_trySpoons (d + 1) 0 0 115 [some (.ref 1), some (.int (nI n)), some (.int u), some (.int (nI k)), some (.int r), some (.int s0), some (.int v6)] [] SH K2 R L Q := by
            intro hr0 hless K2 k2
            refine b_X5_trySpoons_115 (d := d) hdm (X := X) (ka := ka) hR ?_
            rw [a1, a2, nI_clamp (show n < 2 ^ 31 by omega)]
            have vn : vp_in (nI n) 6 := vp_in_nI (by omega) (by decide)
            refine ⟨vn, ?_⟩
            rintro _ rfl
            refine ⟨vn, ?_⟩
            rintro _ rfl
            generalize hK3 : up (up K2 170 n (nI k)) 171 n r = K3
            have k3 : ∀ x, x ≠ 164 → x ≠ 165 → x ≠ 170 → x ≠ 171 → K3 x = K x := fun x x1 x2 x3 x4 => by rw [← hK3, up_off _ x4, up_off _ x3, k2 x x1 x2]
            have k370 : ∀ i, K3 170 i = if i = n then nI k else K 170 i := fun i => by
              rw [← hK3, up_nc (by decide)]
              by_cases z : i = n
              · rw [z, up_eq, if_pos rfl]
              · rw [up_ni z, if_neg z, k2 170 (by decide) (by decide)]
            have k371 : ∀ i, K3 171 i = if i = n then r else K 171 i := fun i => by
              rw [← hK3]
              by_cases z : i = n
              · rw [z, up_eq, if_pos rfl]
              · rw [up_ni z, if_neg z, up_nc (by decide), k2 171 (by decide) (by decide)]
            have d3 : dyC K3 166 = dyC K 166 := dyC_at (fun x x1 x2 => k3 x (by omega) (by omega) (by omega) (by omega))
            have t3 := th_at (I := I0) (J := K3) (fun c c1 c2 => by rw [k3 c (by omega) (by omega) (by omega) (by omega), kx c c1 c2])
            obtain ⟨w1, w2, w3, w4, w5⟩ := eatI_dy (I := K3) (x := 166) (j := k / 2) (e := nI (k / 2)) (k := nI (k % 2)) (g := r) (κ := k % 2) (θ := thC I0) Sc_166 a3 rfl a4 rfl oI.1 (by rw [d3]; exact oDK) (by rw [d3, at']; exact hr)
            refine ⟨w4, w5, ?_⟩
            rintro _ rfl
            generalize hK4 : eatI K3 166 (nI (k / 2)) (nI (k % 2)) r = K4 at *
            have k4o : ∀ x, (x < 166 ∨ 169 < x) → K4 x = K3 x := fun x hx' => by rw [← hK4]; exact eatI_off (by omega)
            have k41 : K4 1 = K 1 := by rw [k4o 1 (by decide), k3 1 (by decide) (by decide) (by decide) (by decide)]
            have k473 : K4 173 = K 173 := by rw [k4o 173 (by decide), k3 173 (by decide) (by decide) (by decide) (by decide)]
            have t4 := th_at (I := I0) (J := K4) (fun c c1 c2 => by rw [k4o c (by omega), k3 c (by omega) (by omega) (by omega) (by omega), kx c c1 c2])
            have D4 : eqD (dyC K4 166) (eaD δ (k / 2) ((k % 2 : Nat) : Int) (spn (thC I0) δ (k / 2) ((k % 2 : Nat) : Int))) := by
              rw [w1, at', d3, hr']
              exact eaD_eq hDK a3
            have o4 : okDn (n + 1) (eaD δ (k / 2) ((k % 2 : Nat) : Int) (spn (thC I0) δ (k / 2) ((k % 2 : Nat) : Int))) := eaD_ok oI.1 oDn (by omega) a3 (by omega) (by omega)
            have dn4 : K4 166 4 = dn := by rw [w3 4 (by decide), k3 166 (by decide) (by decide) (by decide) (by decide), k4 166 (by decide) (by decide)]; exact j4
            have hp' : 0 < spn (thC I0) δ (k / 2) ((k % 2 : Nat) : Int) := by rw [← hr']; exact hr0
            have ckk : cds E (pre ++ [(k : Int)]) := fun c hc' => by
              rcases List.mem_append.mp hc' with z | z
              · exact hc c z
              · rw [List.mem_singleton.mp z]; omega
            have rnk : rnA (thC I0) (pre ++ [(k : Int)]) δ0 0 = some (eaD δ (k / 2) ((k % 2 : Nat) : Int) (spn (thC I0) δ (k / 2) ((k % 2 : Nat) : Int)), s0.toInt) := by
              rw [rnA_app, hrn]
              show rnA (thC I0) ((k : Int) :: []) δ u.toInt = _
              rw [rnA_one hp', ← es0']; rfl
            -- given back, on to the next one
            have gb : ∀ (K5 : gI) (S2 : aS), (∀ x, 166 ≤ x → x ≤ 169 → K5 x = K4 x) → frB (n + 1) K4 K5 → asA K5 g S2 → ivA (thC I0) δ0 E σ dn.toInt g S2 (pre ++ [((k + 1 : Nat) : Int)]) → Go G mX5_trySpoons (d + 1) 0 0 186 [some (.ref 1), some (.int (nI n)), some (.int u), some (.int (nI k)), some (.int r), none, none] [] SH K5 R L Q := by
              intro K5 S2 k5 fr5 as5 iv5
              have k5' : ∀ x, 166 ≤ x → x ≤ 169 → K5 x = eatI K3 166 (nI (k / 2)) (nI (k % 2)) r x := fun x x1 x2 => by rw [k5 x x1 x2, hK4]
              obtain ⟨y0, y1, y2, y3, y4⟩ := giv_back (X := K3) (J := K5) (x := 166) (e := nI (k / 2)) (k := nI (k % 2)) (g := r) (k5' _ (by decide) (by decide)) (k5' _ (by decide) (by decide)) (k5' _ (by decide) (by decide)) (k5' _ (by decide) (by decide))
              have k52 : K5 (166 + 2) = K3 (166 + 2) := by rw [k5' _ (by decide) (by decide), eatI_w]
              refine b_X5_trySpoons_186 (d := d) hdm (X := X) (ka := ka) hR ?_
              rw [a1, a2]
              refine ⟨w4, by rw [k52]; exact w5, ?_⟩
              rintro _ rfl _ rfl
              rw [nI_1]
              have go : ∀ x, (x < 166 ∨ 169 < x) → givI K5 166 (nI (k / 2)) (nI (k % 2)) r x = K5 x := fun x hx' => givI_off (by omega)
              refine ih (k + 1) _ S2 (by omega) (frB_tr fr ⟨fun c c1 c2 c3 c4 c5 c6 => ?_, fun j j8 j9 => by rw [go 1 (by decide), fr5.2.1 j j8 j9, k41], fun i hi => by rw [go 170 (by decide), go 171 (by decide), (fr5.2.2 i (by omega)).1, (fr5.2.2 i (by omega)).2, k4o 170 (by decide), k4o 171 (by decide), k370, k371, if_neg (by omega), if_neg (by omega)]; exact ⟨rfl, rfl⟩⟩) (asA_eq (go 1 (by decide)) (go 173 (by decide)) as5) iv5
              by_cases z0 : c = 166
              · rw [z0, y0, k3 _ (by decide) (by decide) (by decide) (by decide)]
              by_cases z1 : c = 166 + 1
              · rw [z1, y1, k3 _ (by decide) (by decide) (by decide) (by decide)]
              by_cases z2 : c = 166 + 2
              · rw [z2, y2, k3 _ (by decide) (by decide) (by decide) (by decide)]
              by_cases z3 : c = 166 + 3
              · rw [z3, y3, k3 _ (by decide) (by decide) (by decide) (by decide)]
              rw [go c (by omega), fr5.1 c c1 c2 c3 c4 c5 c6, k4o c (by omega), k3 c c2 c3 c4 c5]
            refine ⟨fun lv => ?_, fun lv => ?_⟩
            · -- the last one
              have m0 : m = 0 := Classical.byContradiction (fun z => lv (lv6.mpr z))
              have l1 : n + 1 = g := by omega
              have k110 : K4 1 10 = nI σ := by rw [k41, fr.2.1 10 (by decide) (by decide)]; exact j10
              rw [k110, dn4, t4.1, nI_toInt (show σ < 2 ^ 31 by omega)]
              refine ⟨vp_in_nI hσ (by decide), t4.2 oI, okD_eq D4.symm (o4.ok (by omega)), hdn, ?_⟩
              have eg : gui (thC I0) (dyC K4 166) σ dn.toInt = gui (thC I0) (eaD δ (k / 2) ((k % 2 : Nat) : Int) (spn (thC I0) δ (k / 2) ((k % 2 : Nat) : Int))) σ dn.toInt := gui_eq (eqT.rfl' _) D4 oI.1 (by omega) (by omega)
              rw [eg]
              intro K5 k5
              have k5f : frB (n + 1) K4 K5 := ⟨fun c _ c2 c3 _ _ _ => k5 c c2 c3, fun j _ _ => by rw [k5 1 (by decide) (by decide)], fun i _ => by rw [k5 170 (by decide) (by decide), k5 171 (by decide) (by decide)]; exact ⟨rfl, rfl⟩⟩
              -- who begins so is just this one
              have only : ∀ l' h', l'.length = g → gdA (thC I0) δ0 E σ dn.toInt l' h' → plt l' (pre ++ [((k + 1 : Nat) : Int)]) → ¬ plt l' (pre ++ [(k : Int)]) → l' = pre ++ [(k : Int)] ∧ gui (thC I0) (eaD δ (k / 2) ((k % 2 : Nat) : Int) (spn (thC I0) δ (k / 2) ((k % 2 : Nat) : Int))) σ dn.toInt = false ∧ h' = s0.toInt := by
                intro l' h' hl' hgd hp1 hp2
                rw [show ((k + 1 : Nat) : Int) = (k : Int) + 1 by omega] at hp1
                obtain ⟨rr', rfl⟩ := plt_new hp1 hp2
                have : rr' = [] := by
                  simp only [List.length_append, List.length_cons] at hl'
                  exact List.eq_nil_of_length_eq_zero (by omega)
                subst this
                obtain ⟨-, δ2, g2, g3⟩ := beg k [] h' hgd
                simp only [rnA, Option.some.injEq, Prod.mk.injEq] at g2
                rw [← g2.1] at g3
                exact ⟨rfl, g3, by rw [← g2.2, es0']⟩
              refine ⟨fun cg => ?_, fun cg => ?_⟩
              · refine gb K5 S1 (fun x x1 x2 => k5 x (by omega) (by omega)) k5f (asA_eq (by rw [k5 1 (by decide) (by decide), k41]) (by rw [k5 173 (by decide) (by decide), k473]) as1) (iv_skip iv1 (fun l hpl => by rw [show ((k + 1 : Nat) : Int) = (k : Int) + 1 by omega]; exact plt_up hpl) (fun l' h' hl' hgd hp1 hp2 => ?_))
                obtain ⟨-, z, -⟩ := only l' h' hl' hgd hp1 hp2
                rw [cg] at z; cases z
              · rintro _ rfl
                have cg' : gui (thC I0) (eaD δ (k / 2) ((k % 2 : Nat) : Int) (spn (thC I0) δ (k / 2) ((k % 2 : Nat) : Int))) σ dn.toInt = false := by simpa using cg
                have kf0 : ∀ x, x ≠ 1 → x ≠ 173 → kfI K5 s0 x = K5 x := fun x x1 x2 => by unfold kfI; rw [cpy_off x2, up_off _ x1, up_off _ x1]
                have kf1 : ∀ j, kfI K5 s0 1 j = if j = 9 then s0 else if j = 8 then nI g else K5 1 j := fun j => by
                  unfold kfI
                  rw [cpy_off (by decide)]
                  by_cases z9 : j = 9
                  · rw [z9, up_eq, if_pos rfl]
                  · rw [up_ni z9, if_neg z9]
                    by_cases z8 : j = 8
                    · rw [z8, up_eq, if_pos rfl, k5 1 (by decide) (by decide), k41, fr.2.1 11 (by decide) (by decide)]; exact j11
                    · rw [up_ni z8, if_neg z8]
                have kf3 : ∀ i, i < 4 → kfI K5 s0 173 i = K5 170 i := fun i hi => by
                  unfold kfI
                  rw [cpy_at, if_pos (by omega), up_off _ (by decide), up_off _ (by decide), Nat.zero_add, Nat.sub_zero]
                refine gb (kfI K5 s0) (some (s0.toInt, pre ++ [(k : Int)])) (fun x x1 x2 => by rw [kf0 x (by omega) (by omega), k5 x (by omega) (by omega)]) (frB_tr k5f ⟨fun c c1 _ _ _ _ c6 => kf0 c c1 c6, fun j j8 j9 => by rw [kf1, if_neg j9, if_neg j8], fun i _ => by rw [kf0 170 (by decide) (by decide), kf0 171 (by decide) (by decide)]; exact ⟨rfl, rfl⟩⟩) ?_ ?_
                · refine ⟨by rw [kf1, if_neg (by decide), if_pos rfl], by rw [kf1, if_pos rfl], fun i hi => ?_⟩
                  rw [List.length_append, List.length_singleton, hn] at hi
                  rw [kf3 i (by omega), k5 170 (by decide) (by decide), k4o 170 (by decide), k370]
                  by_cases z : i = n
                  · rw [if_pos z, z, nI_toInt (by omega), ← hn]; simp
                  · rw [if_neg z, (fr.2.2 i (by omega)).1, hp i (by omega)]
                    simp [List.getD_eq_getElem?_getD, List.getElem?_append_left (show i < pre.length by omega)]
                · have gd : gdA (thC I0) δ0 E σ dn.toInt (pre ++ [(k : Int)]) s0.toInt := ⟨ckk, _, rnk, cg'⟩
                  refine ⟨by rw [List.length_append, List.length_singleton, hn]; exact l1, gd, (plt_snoc pre _ _).mpr (Or.inr ⟨(k : Int), [], by simp, by omega⟩), fun l' h' hl' hgd hp1 => ?_⟩
                  by_cases c : plt l' (pre ++ [(k : Int)])
                  · left
                    match S1, iv1, hless with
                    | none, iv1, _ => exact absurd c (iv1 l' h' hl' hgd)
                    | some (h, l), iv1, hless =>
                      have := hless h l rfl
                      rcases iv1.2.2.2 l' h' hl' hgd c with z | z
                      · omega
                      · omega
                  · obtain ⟨e1, -, e3⟩ := only l' h' hl' hgd hp1 c
                    right
                    exact ⟨e3.symm, by rw [e1]; exact lxl_rfl _⟩
            · -- more are to come
              have m0 : ¬ m = 0 := lv6.mp lv
              obtain ⟨d', ed, hrec'⟩ := hrec m0
              have len' : (pre ++ [(k : Int)]).length = n + 1 := by rw [List.length_append, List.length_singleton, hn]
              subst ed
              rw [nI_1, ← len']
              refine hrec' (pre ++ [(k : Int)]) K4 S1 L _ K3 k _ s0 len' ckk rnk D4 (fun c c1 c2 => by rw [k4o c (by omega), k3 c (by omega) (by omega) (by omega) (by omega), kx c c1 c2]) (by rw [k41, fr.2.1 11 (by decide) (by decide)]; exact j11) (by rw [k41, fr.2.1 10 (by decide) (by decide)]; exact j10) dn4 (fun i hi => ?_) (fun _ => ?_) iv1 (asA_eq k41 k473 as1) (fun K5 S2 fr5 as5 iv5 => ?_)
              · rw [len'] at hi
                rw [k4o 170 (by decide), k370]
                by_cases z : i = n
                · rw [if_pos z, z, nI_toInt (by omega), ← hn]; simp
                · rw [if_neg z, (fr.2.2 i (by omega)).1, hp i (by omega)]
                  simp [List.getD_eq_getElem?_getD, List.getElem?_append_left (show i < pre.length by omega)]
              · rw [len', show n + 1 - 1 = n by omega, k4o 170 (by decide), k4o 171 (by decide), k370, k371, if_pos rfl, if_pos rfl]
                exact ⟨rfl, hk18, fun x x1 x2 => by rw [hK4], pre, δ, u.toInt, rfl, hrn, by rw [d3]; exact hDK, hr', hr0⟩
              · rw [len'] at fr5
                refine b_X5_trySpoons_159 (d := d' + 1) hdm (X := X) (ka := ka) hR (gb K5 S2 (fun x x1 x2 => fr5.1 x (by omega) (by omega) (by omega) (by omega) (by omega) (by omega)) fr5 as5 (iv_eq iv5 (fun l h' hl' hgd => ?_)))
                rw [show ((k + 1 : Nat) : Int) = (k : Int) + 1 by omega]
                exact plt_full hgd.1 (by rw [hl', hn]; omega)
          -- whether it is tried
          have sw : 0 < r.toInt → (∀ h l, S1 = some (h, l) → s0.toInt < h) → Go G mX5_trySpoons (d + 1) 0 0 96 [some (.ref 1), some (.int (nI n)), some (.int u), some (.int (nI k)), some (.int r), some (.int s0), some (.int v6)] [] SH K1 R L Q := by
            intro hr0 hless
            refine b_X5_trySpoons_96 (d := d) hdm (X := X) (ka := ka) hR ⟨fun _ => go hr0 hless K1 k1, fun _ => ?_⟩
            have t1 := th_at (I := I0) (J := K1) (fun c c1 c2 => by rw [k1 c (by omega) (by omega), kx c c1 c2])
            have pv1 : 1 ≤ n → K1 170 (n - 1) = nI ka ∧ ka < 18 ∧ (∀ x, 166 ≤ x → x ≤ 169 → K1 x = eatI X 166 (nI (ka / 2)) (nI (ka % 2)) (K1 171 (n - 1)) x) ∧ ∃ pre' δ' h', pre = pre' ++ [(ka : Int)] ∧ rnA (thC I0) pre' δ0 0 = some (δ', h') ∧ eqD (dyC X 166) δ' ∧ (K1 171 (n - 1)).toInt = spn (thC I0) δ' (ka / 2) ((ka % 2 : Nat) : Int) ∧ 0 < (K1 171 (n - 1)).toInt := fun h1 => by
              have := pv (by rw [hn]; exact h1)
              rw [hn] at this
              rw [k1 170 (by decide) (by decide), k1 171 (by decide) (by decide), (fr.2.2 (n - 1) (by omega)).1, (fr.2.2 (n - 1) (by omega)).2]
              exact ⟨this.1, this.2.1, fun x x1 x2 => by rw [k1 x (by omega) (by omega), k4 x (by omega) (by omega)]; exact this.2.2.1 x x1 x2, this.2.2.2⟩
            have oX : ∀ (pre' : List Int) (δ' : dyn) (h' : Int), pre = pre' ++ [(ka : Int)] → rnA (thC I0) pre' δ0 0 = some (δ', h') → okDn 5 δ' := fun pre' δ' h' e1 e2 => by
              have ll := congrArg List.length e1
              rw [List.length_append, List.length_singleton, hn] at ll
              have := (rnA_ok oI.1 (show (E : Int) ≤ 9 by omega) pre' (n := 0) (fun c hc' => hc c (by rw [e1]; simp [hc'])) (by omega) oD0 e2).1
              exact this.mono (by omega)
            refine ⟨⟨t1.2 oI, n, k, rfl, by omega, rfl, hk18, hr0, fun h1 => ?_⟩, ?_⟩
            · obtain ⟨p1, p2, p3, pre', δ', h', p4, p5, p6, p7, p8⟩ := pv1 h1
              have o5 := oX pre' δ' h' p4 p5
              refine ⟨p1, p2, p3, okDn_eq p6.symm o5, ?_, p8⟩
              rw [t1.1, p7]
              exact spn_eq (eqT.rfl' _) p6.symm oI.1 (o5.ok (by decide)) (half_n p2).2.2.1 (by omega) (by omega)
            · rintro r17 K2 ⟨s1, s2, s3⟩
              have k2 : ∀ x, x ≠ 164 → x ≠ 165 → K2 x = K x := fun x x1 x2 => by rw [s1 x x1 x2, k1 x x1 x2]
              refine ⟨fun _ => go hr0 hless K2 k2, fun z => nxt K2 k2 ?_⟩
              obtain ⟨n', kc, b1, b2, b3, b4, b5, b6, b7⟩ := s3 z
              have en' : n' = n := by rw [nI_eq (by omega) (by omega)] at b1; exact b1.symm
              subst en'
              obtain ⟨p1, p2, p3, pre', δ', h', p4, p5, p6, p7, p8⟩ := pv1 b3
              have ekc : kc = k := by rw [nI_eq (by omega) (by omega)] at b4; exact b4.symm
              subst ekc
              have o5 := oX pre' δ' h' p4 p5
              have oX5 : okDn 5 (dyC X 166) := okDn_eq p6.symm o5
              have hka3 := (half_n p2).2.2.1
              rw [t1.1] at b6 b7
              rw [spn_eq (eqT.rfl' _) p6 oI.1 (oX5.ok (by decide)) a3 (by omega) (by omega)] at b6
              have oY : okDn 6 (eaD (dyC X 166) (kc / 2) ((kc % 2 : Nat) : Int) r.toInt) := by
                have e : r.toInt = spn (thC I0) (dyC X 166) (kc / 2) ((kc % 2 : Nat) : Int) := by
                  rw [← b6]; exact (spn_eq (eqT.rfl' _) p6 oI.1 (oX5.ok (by decide)) a3 (by omega) (by omega)).symm
                rw [e]; exact eaD_ok oI.1 oX5 (by decide) a3 (by omega) (by omega)
              rw [spn_eq (eqT.rfl' _) (eaD_eq p6 a3) oI.1 (oY.ok (by decide)) hka3 (by omega) (by omega), p7, ← b6] at b7
              -- the latest two, the other way round
              have eδ : δ = eaD δ' (ka / 2) ((ka % 2 : Nat) : Int) (spn (thC I0) δ' (ka / 2) ((ka % 2 : Nat) : Int)) := by
                have h1 := hrn
                rw [p4, rnA_app, p5] at h1
                have h2 := (rnA_cons (θ := thC I0) (k := ka) (r := []) h1).2
                simp only [rnA, Option.some.injEq, Prod.mk.injEq] at h2
                exact h2.1.symm
              refine iv_skip iv1 (fun l hpl => by rw [show ((kc + 1 : Nat) : Int) = (kc : Int) + 1 by omega]; exact plt_up hpl) (fun l' h'' hl' hgd hp1 hp2 => ?_)
              rw [show ((kc + 1 : Nat) : Int) = (kc : Int) + 1 by omega] at hp1
              obtain ⟨rr', rfl⟩ := plt_new hp1 hp2
              have el : pre ++ (kc : Int) :: rr' = pre' ++ (ka : Int) :: (kc : Int) :: rr' := by rw [p4]; simp
              have hsw : rnA (thC I0) ((ka : Int) :: (kc : Int) :: rr') δ' h' = rnA (thC I0) ((kc : Int) :: (ka : Int) :: rr') δ' h' := by
                have q1 : ((ka : Int) / 2).toNat = ka / 2 := by omega
                have q2 : (ka : Int) % 2 = ((ka % 2 : Nat) : Int) := by omega
                have q3 : ((kc : Int) / 2).toNat = kc / 2 := by omega
                have q4 : (kc : Int) % 2 = ((kc % 2 : Nat) : Int) := by omega
                refine rnA_swap ?_ ?_ ?_ ?_
                · rw [q1, q2, ← p7]; exact p8
                · rw [q1, q2, q3, q4, ← eδ, ← hr']; exact hr0
                · rw [q1, q2, q3, q4, ← eδ, b6, hr']
                · rw [q1, q2, q3, q4]; exact b7
              have gd2 : gdA (thC I0) δ0 E σ dn.toInt (pre' ++ (kc : Int) :: (ka : Int) :: rr') h'' := by
                obtain ⟨g1, δ2, g2, g3⟩ := hgd
                rw [el] at g1 g2
                refine ⟨fun c hc' => g1 c ?_, δ2, ?_, g3⟩
                · simp only [List.mem_append, List.mem_cons] at hc' ⊢
                  rcases hc' with z | z | z | z
                  · exact Or.inl z
                  · exact Or.inr (Or.inr (Or.inl z))
                  · exact Or.inr (Or.inl z)
                  · exact Or.inr (Or.inr (Or.inr z))
                · rw [rnA_app, p5] at g2 ⊢
                  exact hsw.symm.trans g2
              have lt' : (kc : Int) < (ka : Int) := by omega
              have pl2 : plt (pre' ++ (kc : Int) :: (ka : Int) :: rr') (pre ++ [(kc : Int)]) := by
                rw [p4]; exact plt_app _ (swap_plt lt' pre' rr')
              have ll2 : (pre' ++ (kc : Int) :: (ka : Int) :: rr').length = g := by
                rw [el] at hl'
                simp only [List.length_append, List.length_cons] at hl' ⊢
                exact hl'
              match S1, iv1 with
              | none, iv1 => exact absurd pl2 (iv1 _ _ ll2 gd2)
              | some (h, l), iv1 =>
                refine ⟨h, l, rfl, ?_⟩
                rcases iv1.2.2.2 _ _ ll2 gd2 pl2 with z | ⟨z1, z2⟩
                · exact Or.inl z
                · exact Or.inr ⟨z1, lxl_trans z2 (by rw [el]; exact swap_lxl lt' pre' rr')⟩
          have iv_no : (∀ l' h', l'.length = g → gdA (thC I0) δ0 E σ dn.toInt l' h' → plt l' (pre ++ [(k : Int) + 1]) → ¬ plt l' (pre ++ [(k : Int)]) → ∃ h l, S1 = some (h, l) ∧ (h < h' ∨ (h = h' ∧ lxl l l'))) → ivA (thC I0) δ0 E σ dn.toInt g S1 (pre ++ [((k + 1 : Nat) : Int)]) := fun z => by
            rw [show ((k + 1 : Nat) : Int) = (k : Int) + 1 by omega]
            exact iv_skip iv1 (fun l hpl => plt_up hpl) z
          refine b_X5_trySpoons_71 (d := d) hdm (X := X) (ka := ka) hR ⟨fun c1 => nxt K1 k1 (iv_no (fun l' h' hl' hgd hp1 hp2 => ?_)), fun c1 => ?_⟩
          · rw [ti_lt, z1] at c1
            obtain ⟨rr', rfl⟩ := plt_new hp1 hp2
            have := (beg k rr' h' hgd).1
            rw [← hr'] at this; omega
          · rw [ti_lt, z1] at c1
            rw [k1 1 (by decide) (by decide)]
            match S1, as1, iv1, nxt, iv_no, sw with
            | none, as1, iv1, nxt, iv_no, sw =>
              exact ⟨fun _ => sw (by omega) (fun h l z => by cases z), fun z => absurd as1 z⟩
            | some (h, l), as1, iv1, nxt, iv_no, sw =>
              obtain ⟨x1, x2, x3⟩ := as1
              refine ⟨fun z => absurd (x1.symm.trans z) (fun z => ?_), fun _ => ⟨fun c2 => nxt K1 k1 (iv_no (fun l' h' hl' hgd hp1 hp2 => ?_)), fun c2 => sw (by omega) (fun h2 l2 z => ?_)⟩⟩
              · have := congrArg Int32.toInt z
                rw [nI_toInt (by omega)] at this
                exact absurd this (by show ¬ ((g : Int) = -1); omega)
              · rw [ti_le, x2] at c2
                obtain ⟨rr', e⟩ := plt_new hp1 hp2
                rw [e] at hgd
                obtain ⟨-, δ2, g2, -⟩ := beg k rr' h' hgd
                have mo := rnA_mono _ _ g2
                rw [← es0'] at mo
                refine ⟨h, l, rfl, ?_⟩
                by_cases zz : h < h'
                · exact Or.inl zz
                · refine Or.inr ⟨by omega, ?_⟩
                  have := plt_lxl rr' iv1.2.2.1
                  rw [e]
                  rw [List.append_assoc] at this
                  exact this
              · cases z
                rw [ti_le, x2] at c2; omega
        refine b_X5_trySpoons_54 (d := d) hdm (X := X) (ka := ka) hR ?_
        rw [k111, nI_1, nI_ltI (by omega) (by omega)]
        exact ⟨fun c1 => last 0 (Or.inl rfl) ⟨fun _ => by omega, fun _ => rfl⟩, fun c1 => last 1 (Or.inr rfl) ⟨fun z => absurd z (by decide), fun z => absurd (show m = 0 by omega) z⟩⟩
      have e0 : nI (k % 2) = 0 ↔ k % 2 = 0 := by rw [show (0 : Int32) = nI 0 from rfl, nI_eq (by omega) (by decide)]
      rw [e0]
      refine ⟨fun c1 => body u (by rw [if_neg c1]), fun c1 => body (u + r) ?_⟩
      rw [if_pos c1, ti_add] <;> omega
  have p4 : nI n < 4 := nI_lt (b := 4) (by omega) (by decide)
  exact e_X5_trySpoons (d := d) hdm (X := X) (ka := ka) hR ⟨fun _ => loop (2 * E) 0 J S (by omega) (frB_rfl n J) as iv0, fun z => absurd p4 z⟩
theorem k_trySpoons {G : gG} {R : gR} {I0 : gI} {E g σ : Nat} {dn : Int32} {δ0 : dyn} (hR : g_Fx R) (oI : okI I0) (hE : E ≤ 9) (e6 : I0 3 6 = nI E) (hg4 : g ≤ 4) (hσ : σ < 2) (hdn : 0 ≤ dn.toInt ∧ dn.toInt ≤ 30) (oD0 : okDn 0 δ0) :
    ∀ (m d : Nat) (pre : List Int) (J : gI) (S : aS) (L : gL) (Q : gQ) (X : gI) (ka : Nat) (δ : dyn) (u : Int32), 12 + m ≤ d → pre.length + (m + 1) = g → cds E pre → rnA (thC I0) pre δ0 0 = some (δ, u.toInt) → eqD (dyC J 166) δ → (∀ c, c < 164 → c ≠ 1 → J c = I0 c) → J 1 11 = nI g → J 1 10 = nI σ → J 166 4 = dn → (∀ i, i < pre.length → (J 170 i).toInt = pre.getD i 0) → pvA (thC I0) δ0 X ka pre J → ivA (thC I0) δ0 E σ dn.toInt g S pre → asA J g S →
      (∀ J' S', frB pre.length J J' → asA J' g S' → ivA (thC I0) δ0 E σ dn.toInt g S' (pre ++ [2 * (E : Int)]) → Q none SH J' R L) →
      Mt G mX5_trySpoons (d + 1) 0 0 [.ref 1, .int (nI pre.length), .int u] SH J R L Q := by
  intro m
  induction m with
  | zero =>
    intro d pre J S L Q X ka δ u hdm hl hc hrn hD jx j11 j10 j4 hp pv iv as q
    exact k_trySpoons_step hR oI hE e6 hg4 hσ hdn oD0 0 d pre J S L Q X ka δ u (by omega) hl hc hrn hD jx j11 j10 j4 hp pv iv as q (fun z => absurd rfl z)
  | succ m ih =>
    intro d pre J S L Q X ka δ u hdm hl hc hrn hD jx j11 j10 j4 hp pv iv as q
    obtain ⟨d', rfl⟩ : ∃ d', d = d' + 1 := ⟨d - 1, by omega⟩
    exact k_trySpoons_step hR oI hE e6 hg4 hσ hdn oD0 (m + 1) (d' + 1) pre J S L Q X ka δ u (by omega) hl hc hrn hD jx j11 j10 j4 hp pv iv as q (fun _ => ⟨d', rfl, fun pre2 J2 S2 L2 Q2 X2 ka2 δ2 u2 h1 => ih d' pre2 J2 S2 L2 Q2 X2 ka2 δ2 u2 (by omega) (by rw [h1]; omega)⟩)
