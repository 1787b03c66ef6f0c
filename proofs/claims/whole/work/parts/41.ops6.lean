theorem e_X6_eater {G : gG} {I : gI} {R : gR} {L : gL} {Q : gQ} {a b c : Int32} (hR : g_Fx R) (h : (a < 0 → Q (some (.int (-1))) SH I R L) ∧ (¬ a < 0 → (9 < a → Q (some (.int (-1))) SH I R L) ∧ (¬ 9 < a → (b < 1 → Q (some (.int (-1))) SH I R L) ∧ (¬ b < 1 → (9 < b → Q (some (.int (-1))) SH I R L) ∧ (¬ 9 < b → (c < 0 → Q (some (.int (-1))) SH I R L) ∧ (¬ c < 0 → (c ≤ 99 → ∀ v4_1 : Int32, v4_1 = (I 3 6) → (v4_1 < 0 → Q (some (.int (-1))) SH I R L) ∧ (¬ v4_1 < 0 → (v4_1 < 9 → ∀ I_2 : gI, I_2 = up I 0 9 (-1) → vp_in v4_1 9 ∧ (∀ I_3 : gI, I_3 = up I_2 129 v4_1.toNatClampNeg a → vp_in v4_1 9 ∧ (∀ I_4 : gI, I_4 = up I_3 130 v4_1.toNatClampNeg b → vp_in v4_1 9 ∧ (∀ I_5 : gI, I_5 = up I_4 131 v4_1.toNatClampNeg c → ∀ I_6 : gI, I_6 = up I_5 3 6 (v4_1 + 1) → Q (some (.int v4_1)) SH I_6 R L)))) ∧ (¬ v4_1 < 9 → Q (some (.int (-1))) SH I R L))) ∧ (¬ c ≤ 99 → Q (some (.int (-1))) SH I R L))))))) : Mt G mX6_eater 30 0 0 [.ref 0, .int a, .int b, .int c] SH I R L Q := by
  refine go_start rfl (Nat.le_of_ble_eq_true rfl) rfl ?_
  refine go_iload_n dX6_eater_0 rfl ?_
  refine go_if_lt 31 dX6_eater_1 (by decide) (fun c => ?_) (fun c => ?_)
  · have h := h.1 c
    refine go_iconst (v := -1) dX6_eater_31 (by decide) ?_
    exact go_iret dX6_eater_32 rfl rfl h
  · have h := h.2 c
    refine go_iload_n dX6_eater_4 rfl ?_
    refine go_bipush (v := 9) dX6_eater_5 (by decide) ?_
    refine go_icmp_gt 31 dX6_eater_7 (by decide) (fun c => ?_) (fun c => ?_)
    · have h := h.1 c
      refine go_iconst (v := -1) dX6_eater_31 (by decide) ?_
      exact go_iret dX6_eater_32 rfl rfl h
    · have h := h.2 c
      refine go_iload_n dX6_eater_10 rfl ?_
      refine go_iconst (v := 1) dX6_eater_11 (by decide) ?_
      refine go_icmp_lt 31 dX6_eater_12 (by decide) (fun c => ?_) (fun c => ?_)
      · have h := h.1 c
        refine go_iconst (v := -1) dX6_eater_31 (by decide) ?_
        exact go_iret dX6_eater_32 rfl rfl h
      · have h := h.2 c
        refine go_iload_n dX6_eater_15 rfl ?_
        refine go_bipush (v := 9) dX6_eater_16 (by decide) ?_
        refine go_icmp_gt 31 dX6_eater_18 (by decide) (fun c => ?_) (fun c => ?_)
        · have h := h.1 c
          refine go_iconst (v := -1) dX6_eater_31 (by decide) ?_
          exact go_iret dX6_eater_32 rfl rfl h
        · have h := h.2 c
          refine go_iload_n dX6_eater_21 rfl ?_
          refine go_if_lt 31 dX6_eater_22 (by decide) (fun c => ?_) (fun c => ?_)
          · have h := h.1 c
            refine go_iconst (v := -1) dX6_eater_31 (by decide) ?_
            exact go_iret dX6_eater_32 rfl rfl h
          · have h := h.2 c
            refine go_iload_n dX6_eater_25 rfl ?_
            refine go_bipush (v := 99) dX6_eater_26 (by decide) ?_
            refine go_icmp_le 33 dX6_eater_28 (by decide) (fun c => ?_) (fun c => ?_)
            · have h := h.1 c
              refine go_aload_n dX6_eater_33 rfl ?_
              refine go_getR dX6_eater_34 fX6_27 rfl rfl (hR 0 2 3 rfl) ?_
              refine go_getI dX6_eater_37 fX6_77 rfl rfl ?_
              refine go_istore dX6_eater_40 (Nat.le_of_ble_eq_true rfl) rfl ?_
              have h := h _ rfl
              refine go_iload dX6_eater_42 rfl ?_
              refine go_if_lt 54 dX6_eater_44 (by decide) (fun c => ?_) (fun c => ?_)
              · have h := h.1 c
                refine go_iconst (v := -1) dX6_eater_54 (by decide) ?_
                exact go_iret dX6_eater_55 rfl rfl h
              · have h := h.2 c
                refine go_iload dX6_eater_47 rfl ?_
                refine go_bipush (v := 9) dX6_eater_49 (by decide) ?_
                refine go_icmp_lt 56 dX6_eater_51 (by decide) (fun c => ?_) (fun c => ?_)
                · have h := h.1 c
                  refine go_aload_n dX6_eater_56 rfl ?_
                  refine go_callV0 (μ := mX6_eater) [] dX6_eater_57 YX6_forgetSought lX6_65 rfl ⟨_, rfl, rfl⟩ rfl (Nat.le_of_ble_eq_true rfl) (Nat.le_of_ble_eq_true rfl) rfl (k_X6_forgetSought hR ?_)
                  have h := h _ rfl
                  refine go_aload_n dX6_eater_60 rfl ?_
                  refine go_getR dX6_eater_61 fX6_27 rfl rfl (hR 0 2 3 rfl) ?_
                  refine go_getR dX6_eater_64 fX6_80 rfl rfl (hR 3 3 129 rfl) ?_
                  refine go_iload dX6_eater_67 rfl ?_
                  refine go_iload_n dX6_eater_69 rfl ?_
                  obtain ⟨hi, h⟩ := h
                  refine go_iast dX6_eater_70 rfl hi ?_
                  have h := h _ rfl
                  refine go_aload_n dX6_eater_71 rfl ?_
                  refine go_getR dX6_eater_72 fX6_27 rfl rfl (hR 0 2 3 rfl) ?_
                  refine go_getR dX6_eater_75 fX6_83 rfl rfl (hR 3 4 130 rfl) ?_
                  refine go_iload dX6_eater_78 rfl ?_
                  refine go_iload_n dX6_eater_80 rfl ?_
                  obtain ⟨hi, h⟩ := h
                  refine go_iast dX6_eater_81 rfl hi ?_
                  have h := h _ rfl
                  refine go_aload_n dX6_eater_82 rfl ?_
                  refine go_getR dX6_eater_83 fX6_27 rfl rfl (hR 0 2 3 rfl) ?_
                  refine go_getR dX6_eater_86 fX6_86 rfl rfl (hR 3 5 131 rfl) ?_
                  refine go_iload dX6_eater_89 rfl ?_
                  refine go_iload_n dX6_eater_91 rfl ?_
                  obtain ⟨hi, h⟩ := h
                  refine go_iast dX6_eater_92 rfl hi ?_
                  have h := h _ rfl
                  refine go_aload_n dX6_eater_93 rfl ?_
                  refine go_getR dX6_eater_94 fX6_27 rfl rfl (hR 0 2 3 rfl) ?_
                  refine go_iload dX6_eater_97 rfl ?_
                  refine go_iconst (v := 1) dX6_eater_99 (by decide) ?_
                  refine go_iadd dX6_eater_100 ?_
                  refine go_putI dX6_eater_101 fX6_77 rfl rfl rfl rfl ?_
                  have h := h _ rfl
                  refine go_iload dX6_eater_104 rfl ?_
                  exact go_iret dX6_eater_106 rfl rfl h
                · have h := h.2 c
                  refine go_iconst (v := -1) dX6_eater_54 (by decide) ?_
                  exact go_iret dX6_eater_55 rfl rfl h
            · have h := h.2 c
              refine go_iconst (v := -1) dX6_eater_31 (by decide) ?_
              exact go_iret dX6_eater_32 rfl rfl h
theorem e_X7_eater {G : gG} {I : gI} {R : gR} {L : gL} {Q : gQ} {a b c : Int32} (hR : g_Fx R) (h : ∀ v4_1 : Int32, v4_1 = (I 311 0) → (¬ ((0 : Int32) ≤ a ∧ a ≤ (9 : Int32)) → Q (some (.int (-1))) SH I R L) ∧ ((0 : Int32) ≤ a ∧ a ≤ (9 : Int32) → (¬ ((1 : Int32) ≤ b ∧ b ≤ (9 : Int32)) → Q (some (.int (-1))) SH I R L) ∧ ((1 : Int32) ≤ b ∧ b ≤ (9 : Int32) → (¬ ((0 : Int32) ≤ c ∧ c ≤ (99 : Int32)) → Q (some (.int (-1))) SH I R L) ∧ ((0 : Int32) ≤ c ∧ c ≤ (99 : Int32) → (¬ v4_1 = 9 → vp_in (10 + (3 * v4_1)) 11120 ∧ (∀ I_2 : gI, I_2 = up I 311 (10 + (3 * v4_1)).toNatClampNeg a → vp_in ((10 + (3 * v4_1)) + 1) 11120 ∧ (∀ I_3 : gI, I_3 = up I_2 311 ((10 + (3 * v4_1)) + 1).toNatClampNeg b → vp_in ((10 + (3 * v4_1)) + 2) 11120 ∧ (∀ I_4 : gI, I_4 = up I_3 311 ((10 + (3 * v4_1)) + 2).toNatClampNeg c → Go G mX7_eater 30 0 0 93 [some (.ref 310), none, none, none, some (.int v4_1), some (.int 0)] [] SH I_4 R L Q)))) ∧ (v4_1 = 9 → Q (some (.int (-1))) SH I R L))))) : Mt G mX7_eater 30 0 0 [.ref 310, .int a, .int b, .int c] SH I R L Q := by
  refine go_start rfl (Nat.le_of_ble_eq_true rfl) rfl ?_
  refine go_aload_n dX7_eater_0 rfl ?_
  refine go_getR dX7_eater_1 fX7_7 rfl rfl (hR 310 0 311 rfl) ?_
  refine go_iconst (v := 0) dX7_eater_4 (by decide) ?_
  refine go_ialdK dX7_eater_5 rfl (vp_in_nI (n := 0) (by decide) (by decide)) (k := 0) (by decide) ?_
  refine go_istore dX7_eater_6 (Nat.le_of_ble_eq_true rfl) rfl ?_
  have h := h _ rfl
  refine go_iload_n dX7_eater_8 rfl ?_
  refine go_iconst (v := 0) dX7_eater_9 (by decide) ?_
  refine go_bipush (v := 9) dX7_eater_10 (by decide) ?_
  refine go_callS0 (μ := mX7_eater) [.int _, .int _, .int _] dX7_eater_12 YX7_in lX7_110 rfl (Nat.le_of_ble_eq_true rfl) (Nat.le_of_ble_eq_true rfl) rfl (k_X7_in hR ?_)
  refine go_if_eq 45 dX7_eater_15 (by decide) (fun c => ?_) (fun c => ?_)
  · have h := h.1 (b0.mp c)
    refine go_iconst (v := -1) dX7_eater_45 (by decide) ?_
    exact go_iret dX7_eater_46 rfl rfl h
  · have h := h.2 (b1.mp c)
    refine go_iload_n dX7_eater_18 rfl ?_
    refine go_iconst (v := 1) dX7_eater_19 (by decide) ?_
    refine go_bipush (v := 9) dX7_eater_20 (by decide) ?_
    refine go_callS0 (μ := mX7_eater) [.int _, .int _, .int _] dX7_eater_22 YX7_in lX7_110 rfl (Nat.le_of_ble_eq_true rfl) (Nat.le_of_ble_eq_true rfl) rfl (k_X7_in hR ?_)
    refine go_if_eq 45 dX7_eater_25 (by decide) (fun c => ?_) (fun c => ?_)
    · have h := h.1 (b0.mp c)
      refine go_iconst (v := -1) dX7_eater_45 (by decide) ?_
      exact go_iret dX7_eater_46 rfl rfl h
    · have h := h.2 (b1.mp c)
      refine go_iload_n dX7_eater_28 rfl ?_
      refine go_iconst (v := 0) dX7_eater_29 (by decide) ?_
      refine go_bipush (v := 99) dX7_eater_30 (by decide) ?_
      refine go_callS0 (μ := mX7_eater) [.int _, .int _, .int _] dX7_eater_32 YX7_in lX7_110 rfl (Nat.le_of_ble_eq_true rfl) (Nat.le_of_ble_eq_true rfl) rfl (k_X7_in hR ?_)
      refine go_if_eq 45 dX7_eater_35 (by decide) (fun c => ?_) (fun c => ?_)
      · have h := h.1 (b0.mp c)
        refine go_iconst (v := -1) dX7_eater_45 (by decide) ?_
        exact go_iret dX7_eater_46 rfl rfl h
      · have h := h.2 (b1.mp c)
        refine go_iload dX7_eater_38 rfl ?_
        refine go_bipush (v := 9) dX7_eater_40 (by decide) ?_
        refine go_icmp_ne 47 dX7_eater_42 (by decide) (fun c => ?_) (fun c => ?_)
        · have h := h.1 c
          refine go_aload_n dX7_eater_47 rfl ?_
          refine go_getR dX7_eater_48 fX7_7 rfl rfl (hR 310 0 311 rfl) ?_
          refine go_bipush (v := 10) dX7_eater_51 (by decide) ?_
          refine go_iconst (v := 3) dX7_eater_53 (by decide) ?_
          refine go_iload dX7_eater_54 rfl ?_
          refine go_imul dX7_eater_56 ?_
          refine go_iadd dX7_eater_57 ?_
          refine go_iload_n dX7_eater_58 rfl ?_
          obtain ⟨hi, h⟩ := h
          refine go_iast dX7_eater_59 rfl hi ?_
          have h := h _ rfl
          refine go_aload_n dX7_eater_60 rfl ?_
          refine go_getR dX7_eater_61 fX7_7 rfl rfl (hR 310 0 311 rfl) ?_
          refine go_bipush (v := 10) dX7_eater_64 (by decide) ?_
          refine go_iconst (v := 3) dX7_eater_66 (by decide) ?_
          refine go_iload dX7_eater_67 rfl ?_
          refine go_imul dX7_eater_69 ?_
          refine go_iadd dX7_eater_70 ?_
          refine go_iconst (v := 1) dX7_eater_71 (by decide) ?_
          refine go_iadd dX7_eater_72 ?_
          refine go_iload_n dX7_eater_73 rfl ?_
          obtain ⟨hi, h⟩ := h
          refine go_iast dX7_eater_74 rfl hi ?_
          have h := h _ rfl
          refine go_aload_n dX7_eater_75 rfl ?_
          refine go_getR dX7_eater_76 fX7_7 rfl rfl (hR 310 0 311 rfl) ?_
          refine go_bipush (v := 10) dX7_eater_79 (by decide) ?_
          refine go_iconst (v := 3) dX7_eater_81 (by decide) ?_
          refine go_iload dX7_eater_82 rfl ?_
          refine go_imul dX7_eater_84 ?_
          refine go_iadd dX7_eater_85 ?_
          refine go_iconst (v := 2) dX7_eater_86 (by decide) ?_
          refine go_iadd dX7_eater_87 ?_
          refine go_iload_n dX7_eater_88 rfl ?_
          obtain ⟨hi, h⟩ := h
          refine go_iast dX7_eater_89 rfl hi ?_
          have h := h _ rfl
          refine go_iconst (v := 0) dX7_eater_90 (by decide) ?_
          refine go_istore dX7_eater_91 (Nat.le_of_ble_eq_true rfl) rfl ?_
          refine go_drop 1 ?_
          refine go_drop 2 ?_
          refine go_drop 3 ?_
          exact h
        · have h := h.2 c
          refine go_iconst (v := -1) dX7_eater_45 (by decide) ?_
          exact go_iret dX7_eater_46 rfl rfl h
theorem b_X7_eater_93 {G : gG} {I : gI} {R : gR} {L : gL} {Q : gQ} {v4 v5 : Int32} (hR : g_Fx R) (h : ((I 311 3) ≤ v5 → ∀ I_9 : gI, I_9 = up I 311 0 ((I 311 0) + 1) → Q (some (.int v4)) SH I_9 R L) ∧ (¬ (I 311 3) ≤ v5 → vp_in ((((470 + (355 * v5)) + 114) - 110) + v4) 11120 ∧ (∀ I_10 : gI, I_10 = up I 311 ((((470 + (355 * v5)) + 114) - 110) + v4).toNatClampNeg 2 → ∀ v5_11 : Int32, v5_11 = v5 + 1 → Go G mX7_eater 30 0 0 93 [some (.ref 310), none, none, none, some (.int v4), some (.int v5_11)] [] SH I_10 R L Q))) : Go G mX7_eater 30 0 0 93 [some (.ref 310), none, none, none, some (.int v4), some (.int v5)] [] SH I R L Q := by
  refine go_iload dX7_eater_93 rfl ?_
  refine go_aload_n dX7_eater_95 rfl ?_
  refine go_getR dX7_eater_96 fX7_7 rfl rfl (hR 310 0 311 rfl) ?_
  refine go_iconst (v := 3) dX7_eater_99 (by decide) ?_
  refine go_ialdK dX7_eater_100 rfl (vp_in_nI (n := 3) (by decide) (by decide)) (k := 3) (by decide) ?_
  refine go_icmp_ge 135 dX7_eater_101 (by decide) (fun c => ?_) (fun c => ?_)
  · have h := h.1 c
    refine go_aload_n dX7_eater_135 rfl ?_
    refine go_getR dX7_eater_136 fX7_7 rfl rfl (hR 310 0 311 rfl) ?_
    refine go_iconst (v := 0) dX7_eater_139 (by decide) ?_
    refine go_dup2 dX7_eater_140 rfl rfl ?_
    refine go_ialdK dX7_eater_141 rfl (vp_in_nI (n := 0) (by decide) (by decide)) (k := 0) (by decide) ?_
    refine go_iconst (v := 1) dX7_eater_142 (by decide) ?_
    refine go_iadd dX7_eater_143 ?_
    refine go_iastK dX7_eater_144 rfl (vp_in_nI (n := 0) (by decide) (by decide)) (k := 0) (by decide) ?_
    have h := h _ rfl
    refine go_iload dX7_eater_145 rfl ?_
    exact go_iret dX7_eater_147 rfl rfl h
  · have h := h.2 c
    refine go_aload_n dX7_eater_104 rfl ?_
    refine go_getR dX7_eater_105 fX7_7 rfl rfl (hR 310 0 311 rfl) ?_
    refine go_sipush (v := 470) dX7_eater_108 (by decide) ?_
    refine go_sipush (v := 355) dX7_eater_111 (by decide) ?_
    refine go_iload dX7_eater_114 rfl ?_
    refine go_imul dX7_eater_116 ?_
    refine go_iadd dX7_eater_117 ?_
    refine go_bipush (v := 114) dX7_eater_118 (by decide) ?_
    refine go_iadd dX7_eater_120 ?_
    refine go_bipush (v := 110) dX7_eater_121 (by decide) ?_
    refine go_isub dX7_eater_123 ?_
    refine go_iload dX7_eater_124 rfl ?_
    refine go_iadd dX7_eater_126 ?_
    refine go_iconst (v := 2) dX7_eater_127 (by decide) ?_
    obtain ⟨hi, h⟩ := h
    refine go_iast dX7_eater_128 rfl hi ?_
    have h := h _ rfl
    refine go_iinc dX7_eater_129 rfl (Nat.le_of_ble_eq_true rfl) rfl ?_
    have h := h _ rfl
    refine go_goto 93 dX7_eater_132 (by decide) ?_
    exact h
theorem up_id {I : gI} {c j : Nat} {v : Int32} (h : I c j = v) : up I c j v = I := by
  funext x k
  by_cases hx : x = c ∧ k = j
  · obtain ⟨rfl, rfl⟩ := hx; rw [up_eq, h]
  · rw [up_ne hx]
theorem p_eater {G : gG} {I : gI} {R : gR} {L : gL} {Q : gQ} {a b c : Int32} (h : Rel I R) (hq : ∀ v I1 R1 L1, prom G mX7_eater [.ref 310, .int a, .int b, .int c] (some (.int v)) I1 R1 L1 → Q (some (.int v)) SH I1 R1 L1) : Mt G mX6_eater 30 0 0 [.ref 0, .int a, .int b, .int c] SH I R L Q := by
  have hF := h.1.1
  obtain ⟨⟨c0, c1, c2, c3, c4, c5, c6, c7, c8⟩, -, oh, -⟩ := R_co h
  have bad : (∀ Q2 : gQ, Q2 (some (.int (-1))) SH I R L → Mt G mX7_eater 30 0 0 [.ref 310, .int a, .int b, .int c] SH I R L Q2) → Q (some (.int (-1))) SH I R L := fun hv => hq _ I R L (fun Q2 h2 => hv Q2 (h2 I R L h))
  have o0 : 0 ≤ I 311 0 ∧ I 311 0 ≤ 9 := ⟨ti_le.mpr oh.1.1, ti_le.mpr oh.1.2⟩
  have k0 := ci oh.1.1
  have d4 := ci oh.2.2.2.2.1.1
  have d5 := ci oh.2.2.2.2.2.1.1
  have e4 := oh.2.2.2.2.1.2
  have e5 := oh.2.2.2.2.2.1.2
  have hn : I 311 0 = nI (I 311 0).toNatClampNeg := nI_of_toInt oh.1.1
  refine e_X6_eater hF ⟨fun d1 => bad (fun Q2 h2 => e_X7_eater hF (by grind)), fun d1 => ⟨fun d2 => bad (fun Q2 h2 => e_X7_eater hF (by grind)), fun d2 => ⟨fun d3 => bad (fun Q2 h2 => e_X7_eater hF (by grind)), fun d3 => ⟨fun d4 => bad (fun Q2 h2 => e_X7_eater hF (by grind)), fun d4 => ⟨fun d5 => bad (fun Q2 h2 => e_X7_eater hF (by grind)), fun d5 => ⟨fun d6 => ?_, fun d6 => bad (fun Q2 h2 => e_X7_eater hF (by grind))⟩⟩⟩⟩⟩⟩
  rintro _ rfl
  rw [c0]
  refine ⟨fun d7 => by grind, fun d7 => ⟨fun d8 => ?_, fun d8 => bad (fun Q2 h2 => e_X7_eater hF (by grind))⟩⟩
  have z0 : (0 : Int32).toInt = 0 := rfl
  have z1 : (1 : Int32).toInt = 1 := rfl
  have z9 : (9 : Int32).toInt = 9 := rfl
  have z99 : (99 : Int32).toInt = 99 := rfl
  have ra : 0 ≤ a.toInt ∧ a.toInt ≤ 9 := by rw [ti_lt, z0] at d1; rw [ti_lt, z9] at d2; omega
  have rb : 0 ≤ b.toInt ∧ b.toInt ≤ 9 := by rw [ti_lt, z1] at d3; rw [ti_lt, z9] at d4; omega
  have rcc : 0 ≤ c.toInt ∧ c.toInt ≤ 99 := by rw [ti_lt, z0] at d5; rw [ti_le, z99] at d6; omega
  have hn9 : (I 311 0).toInt < 9 := ti_lt.mp d8
  generalize hnn : (I 311 0).toNatClampNeg = n at *
  have hn9' : n < 9 := by omega
  rw [hn]
  rintro _ rfl
  refine ⟨vp_in_nI hn9' (by decide), ?_⟩
  rintro _ rfl
  refine ⟨vp_in_nI hn9' (by decide), ?_⟩
  rintro _ rfl
  refine ⟨vp_in_nI hn9' (by decide), ?_⟩
  rintro _ rfl _ rfl
  rw [nI_1]
  generalize hJ : up (up (up (up (up I 0 9 (-1)) 129 n a) 130 n b) 131 n c) 3 6 (nI (n + 1)) = J
  have j311 : J 311 = I 311 := by rw [← hJ, up_off _ (by decide), up_off _ (by decide), up_off _ (by decide), up_off _ (by decide), up_off _ (by decide)]
  refine hq _ _ R L (fun Q2 h2 => e_X7_eater hF ?_)
  rintro _ rfl
  rw [j311, hn]
  have i1 : (10 : Int32) + 3 * nI n = nI (10 + 3 * n) := by rw [show (3 : Int32) * nI n = nI (3 * n) from pk_mul 3 n]; exact nI_add 10 _
  have e9 : ¬ (nI n = 9) := fun q => absurd ((nI_eq (b := 9) (by omega) (by decide)).mp q) (by omega)
  refine ⟨fun q => absurd (show (0 : Int32) ≤ a ∧ a ≤ 9 by grind) q, fun _ => ⟨fun q => absurd (show (1 : Int32) ≤ b ∧ b ≤ 9 by grind) q, fun _ => ⟨fun q => absurd (show (0 : Int32) ≤ c ∧ c ≤ 99 by grind) q, fun _ => ⟨fun _ => ?_, fun q => absurd q e9⟩⟩⟩⟩
  rw [i1, nI_1, show nI (10 + 3 * n) + 2 = nI (10 + 3 * n + 2) from nI_add _ 2, nI_clamp (by omega), nI_clamp (by omega), nI_clamp (by omega)]
  refine ⟨vp_in_nI (by omega) (by decide), ?_⟩
  rintro _ rfl
  refine ⟨vp_in_nI (by omega) (by decide), ?_⟩
  rintro _ rfl
  refine ⟨vp_in_nI (by omega) (by decide), ?_⟩
  rintro _ rfl
  generalize hK : up (up (up J 311 (10 + 3 * n) a) 311 (10 + 3 * n + 1) b) 311 (10 + 3 * n + 2) c = K
  have fe : ∀ k, K 311 k = if k = 10 + 3 * n + 2 then c else if k = 10 + 3 * n + 1 then b else if k = 10 + 3 * n then a else I 311 k := fun k => by
    rw [← hK]
    by_cases k5 : k = 10 + 3 * n + 2
    · rw [if_pos k5, k5, up_eq]
    rw [if_neg k5, up_ni k5]
    by_cases k6 : k = 10 + 3 * n + 1
    · rw [if_pos k6, k6, up_eq]
    rw [if_neg k6, up_ni k6]
    by_cases k7 : k = 10 + 3 * n
    · rw [if_pos k7, k7, up_eq]
    rw [if_neg k7, up_ni k7, j311]
  have fr : ∀ k, (k < 10 ∨ 37 ≤ k) → K 311 k = I 311 k := fun k hk => by rw [fe, if_neg (by omega), if_neg (by omega), if_neg (by omega)]
  have hx : ∀ x, x ≠ 0 → x ≠ 3 → x ≠ 129 → x ≠ 130 → x ≠ 131 → x ≠ 311 → K x = I x := fun x x0 x1 x2 x3 x4 x5 => by rw [← hK, up_off _ x5, up_off _ x5, up_off _ x5, ← hJ, up_off _ x1, up_off _ x4, up_off _ x3, up_off _ x2, up_off _ x0]
  have o3 := ci oh.2.2.2.1.1
  have o3' := oh.2.2.2.1.2
  obtain ⟨⟨h1, ⟨π, g2, g3⟩, h4, h5, h6⟩, hs⟩ := id h
  /- the steps: there it is away already -/
  have hl := cnt (P := fun i => Go G mX7_eater 30 0 0 93 [some (.ref 310), none, none, none, some (.int (nI n)), some (.int (nI i))] [] SH K R L Q2) (I 311 3).toNatClampNeg (fun i hi hP => ?_) ?_
  · exact hl
  · refine b_X7_eater_93 hF ⟨fun q => ?_, fun _ => ?_⟩
    · rw [fr 3 (by decide), nI_of_toInt oh.2.2.2.1.1] at q
      exact absurd q (nI_ge hi (by omega))
    · have e1 : (470 : Int32) + 355 * nI i + 114 - 110 + nI n = nI (470 + 355 * i + (4 + n)) := by
        rw [← ix_st i (4 + n), ← nI_add 4 n, show nI 4 = (4 : Int32) from rfl]; grind
      rw [e1, nI_clamp (by omega)]
      refine ⟨vp_in_nI (by omega) (by decide), ?_⟩
      have hz := ((h5.2.2.1 i hi).1.2.2.2.2.2.2 n (by omega) hn9').1
      have hz2 : I 311 (470 + 355 * i + (4 + n)) = 2 := ti_eq.mpr hz
      rintro _ rfl _ rfl
      rw [nI_1, up_id (by rw [fr _ (by omega)]; exact hz2)]
      exact hP
  refine b_X7_eater_93 hF ⟨fun _ => ?_, fun q => ?_⟩
  · rintro _ rfl
    rw [fr 0 (by decide), hn, nI_1]
    have fe0 : ∀ k, up K 311 0 (nI (n + 1)) 311 k = if k = 0 then nI (n + 1) else K 311 k := fun k => by
      by_cases k5 : k = 0
      · rw [if_pos k5, k5, up_eq]
      rw [if_neg k5, up_ni k5]
    have fr1 : ∀ k, k ≠ 0 → (k < 10 ∨ 37 ≤ k) → up K 311 0 (nI (n + 1)) 311 k = I 311 k := fun k hk hk2 => by rw [fe0, if_neg hk, fr k hk2]
    have ea0 := fe0 0
    rw [if_pos rfl] at ea0
    have hx1 : ∀ x, x ≠ 0 → x ≠ 3 → x ≠ 129 → x ≠ 130 → x ≠ 131 → x ≠ 311 → up K 311 0 (nI (n + 1)) x = I x := fun x x0 x1 x2 x3 x4 x5 => by rw [up_off _ x5, hx x x0 x1 x2 x3 x4 x5]
    have f0 : ∀ j, j ≠ 9 → up K 311 0 (nI (n + 1)) 0 j = I 0 j := fun j hj => by rw [up_nc (by decide), ← hK, up_nc (by decide), up_nc (by decide), up_nc (by decide), ← hJ, up_nc (by decide), up_nc (by decide), up_nc (by decide), up_nc (by decide), up_ni hj]
    have f9 : up K 311 0 (nI (n + 1)) 0 9 = -1 := by rw [up_nc (by decide), ← hK, up_nc (by decide), up_nc (by decide), up_nc (by decide), ← hJ, up_nc (by decide), up_nc (by decide), up_nc (by decide), up_nc (by decide), up_eq]
    have f3 : ∀ j, j ≠ 6 → up K 311 0 (nI (n + 1)) 3 j = I 3 j := fun j hj => by rw [up_nc (by decide), ← hK, up_nc (by decide), up_nc (by decide), up_nc (by decide), ← hJ, up_ni hj, up_nc (by decide), up_nc (by decide), up_nc (by decide), up_nc (by decide)]
    have f36 : up K 311 0 (nI (n + 1)) 3 6 = nI (n + 1) := by rw [up_nc (by decide), ← hK, up_nc (by decide), up_nc (by decide), up_nc (by decide), ← hJ, up_eq]
    have fA : ∀ e, up K 311 0 (nI (n + 1)) 129 e = if e = n then a else I 129 e := fun e => by
      rw [up_nc (by decide), ← hK, up_nc (by decide), up_nc (by decide), up_nc (by decide), ← hJ, up_nc (by decide), up_nc (by decide), up_nc (by decide)]
      by_cases he : e = n
      · rw [if_pos he, he, up_eq]
      · rw [if_neg he, up_ni he, up_nc (by decide)]
    have fB : ∀ e, up K 311 0 (nI (n + 1)) 130 e = if e = n then b else I 130 e := fun e => by
      rw [up_nc (by decide), ← hK, up_nc (by decide), up_nc (by decide), up_nc (by decide), ← hJ, up_nc (by decide), up_nc (by decide)]
      by_cases he : e = n
      · rw [if_pos he, he, up_eq]
      · rw [if_neg he, up_ni he, up_nc (by decide), up_nc (by decide)]
    have fC : ∀ e, up K 311 0 (nI (n + 1)) 131 e = if e = n then c else I 131 e := fun e => by
      rw [up_nc (by decide), ← hK, up_nc (by decide), up_nc (by decide), up_nc (by decide), ← hJ, up_nc (by decide)]
      by_cases he : e = n
      · rw [if_pos he, he, up_eq]
      · rw [if_neg he, up_ni he, up_nc (by decide), up_nc (by decide), up_nc (by decide)]
    refine h2 _ R L ?_
    generalize up K 311 0 (nI (n + 1)) = I2 at *
    refine ⟨Rel0_up (ρ := π) h.1 (kp_of (fun x x0 x1 x2 x3 x4 x5 x6 x7 x8 => hx1 x x0 (by omega) (by omega) (by omega) (by omega) x7) (f0 _ (by decide)) (f0 _ (by decide)) (f0 _ (by decide)) (by rw [hx1 310 (by decide) (by decide) (by decide) (by decide) (by decide) (by decide)]) (by rw [hx1 310 (by decide) (by decide) (by decide) (by decide) (by decide) (by decide)]) (by rw [hx1 310 (by decide) (by decide) (by decide) (by decide) (by decide) (by decide)])) hF g2 ?_ ?_ ?_, sgt_no f9⟩
    · refine CR_hd g3 h5 (p9 g2) (fun k hk => fr1 k (by omega) (by omega)) (fr1 3 (by decide) (by decide)) ?_ (fun x hx' => hx1 x (by omega) (by omega) (by omega) (by omega) (by omega) (by omega))
      unfold coR
      rw [f36, f3 9 (by decide), f3 10 (by decide), f3 2 (by decide), f3 14 (by decide), f3 12 (by decide), f3 11 (by decide), ea0, fr1 1 (by decide) (by decide), fr1 2 (by decide) (by decide), fr1 3 (by decide) (by decide), fr1 4 (by decide) (by decide), fr1 5 (by decide) (by decide), hx1 (3 + 131) (by decide) (by decide) (by decide) (by decide) (by decide) (by decide), fitF_congr (fun k hk _ => fr1 k (by omega) (by omega)) _ (by omega)]
      refine ⟨rfl, c1, c2, c3, c4, c5, fun e he => ?_, c7, fun e he => ?_⟩
      · have fk : ∀ k, k ≠ 0 → I2 311 k = _ := fun k hk => by rw [fe0 k, if_neg hk, fe]
        rw [show I2 (3 + 126) e = _ from fA e, show I2 (3 + 127) e = _ from fB e, show I2 (3 + 128) e = _ from fC e, fk (10 + 3 * e) (by omega), fk (10 + 3 * e + 1) (by omega), fk (10 + 3 * e + 2) (by omega)]
        by_cases hen : e = n
        · rw [if_pos hen, if_pos hen, if_pos hen, if_neg (by omega), if_neg (by omega), if_pos (by omega), if_neg (by omega), if_pos (by omega), if_pos (by omega)]; exact ⟨rfl, rfl, rfl⟩
        · rw [if_neg hen, if_neg hen, if_neg hen, if_neg (by omega), if_neg (by omega), if_neg (by omega), if_neg (by omega), if_neg (by omega), if_neg (by omega), if_neg (by omega), if_neg (by omega), if_neg (by omega)]
          exact c6 e he
      · rw [tolF_congr (fun k hk hk2 => fr1 k (by omega) (by omega)) _ (by omega)]; exact c8 e he
    · refine okf_hd h5 ?_ (fun k hk => fr1 k (by omega) (by omega)) (fr1 3 (by decide) (by decide)) (by rw [ea0, nI_clamp (by omega), hnn]; omega)
      obtain ⟨q0, q1, q2, q3, q4, q5, q6, q7⟩ := oh
      unfold okh
      rw [ea0, fr1 1 (by decide) (by decide), fr1 2 (by decide) (by decide), fr1 3 (by decide) (by decide), fr1 4 (by decide) (by decide), fr1 5 (by decide) (by decide), nI_toInt (by omega)]
      refine ⟨⟨by omega, by omega⟩, q1, q2, q3, q4, q5, fun e he => ?_, fun k hk => ?_⟩
      · rw [fe0, if_neg (by omega), fe0, if_neg (by omega), fe0, if_neg (by omega), fe, fe, fe]
        by_cases hen : e = n
        · rw [if_neg (by omega), if_neg (by omega), if_pos (by omega), if_neg (by omega), if_pos (by omega), if_pos (by omega)]; exact ⟨ra, rb, rcc⟩
        · rw [if_neg (by omega), if_neg (by omega), if_neg (by omega), if_neg (by omega), if_neg (by omega), if_neg (by omega), if_neg (by omega), if_neg (by omega), if_neg (by omega)]
          exact q6 e he
      · rw [fr1 _ (by omega) (by omega), fr1 _ (by omega) (by omega)]; exact q7 k hk
    · exact fr1 1 (by decide) (by decide)
  · rw [fr 3 (by decide), nI_of_toInt oh.2.2.2.1.1, nI_clamp (by omega)] at q
    exact absurd (nI_le (Nat.le_refl _) (by omega)) q
