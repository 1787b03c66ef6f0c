theorem e_X6_spoon {G : gG} {I : gI} {R : gR} {L : gL} {Q : gQ} {a b : Int32} (hR : g_Fx R) (h : (¬ (0 ≤ a ∧ a < I 3 6 ∧ a < 9) → Q (some (.int (-1))) SH I R L) ∧ (0 ≤ a ∧ a < I 3 6 ∧ a < 9 → (¬ (b = 0 ∨ b = 1) → Q (some (.int (-1))) SH I R L) ∧ (b = 0 ∨ b = 1 → ((I 4 3) < 60 → vp_in a 9 ∧ (vp_in b 2 ∧ (okI I ∧ ((okD (dyC I 4)) ∧ (∀ r_5 : Int32, ∀ I_6 : gI, (r_5.toInt = spn (thC I) (dyC I 4) a.toNatClampNeg b.toInt ∧ ∀ a, a ≠ 164 → a ≠ 165 → I_6 a = I a) → (1 ≤ r_5 → ∀ I_7 : gI, I_7 = up I_6 0 9 (-1) → (∃ f, okf f ∧ stp I_7 R f) ∧ (∀ I_9 : gI, ∀ R_10 : gR, (g_Fx R_10 ∧ (∀ f, okf f → stp I_7 R f → stp I_9 R_10 (kstF f)) ∧ (∀ a, a ≠ 3 → (a < 9 ∨ 128 < a) → I_9 a = I_7 a) ∧ ∀ j, j ≠ 2 → I_9 3 j = I_7 3 j) → vp_in a 9 ∧ (∀ I_13 : gI, I_13 = wSp I_9 a b r_5 → vp_in a 9 ∧ ((¬ I_13 (4 + 2) a.toNatClampNeg = 2 → 0 < r_5 → vp_in (2 * I_13 (4 + 2) a.toNatClampNeg + b) 4) ∧ (∀ I_16 : gI, I_16 = eatI I_13 4 a b r_5 → Q (some (.int r_5)) SH I_16 R_10 L))))) ∧ (¬ 1 ≤ r_5 → Q (some (.int (-1))) SH I_6 R L)))))) ∧ (¬ (I 4 3) < 60 → Q (some (.int (-1))) SH I R L)))) : Mt G mX6_spoon 30 0 0 [.ref 0, .int a, .int b] SH I R L Q := by
  refine go_start rfl (Nat.le_of_ble_eq_true rfl) rfl ?_
  refine go_aload_n dX6_spoon_0 rfl ?_
  refine go_iload_n dX6_spoon_1 rfl ?_
  refine go_callV0 (μ := mX6_spoon) [.int _] dX6_spoon_2 YX6_isEater lX6_92 rfl ⟨_, rfl, rfl⟩ rfl (Nat.le_of_ble_eq_true rfl) (Nat.le_of_ble_eq_true rfl) rfl (k_X6_isEater hR ?_)
  refine go_if_eq 30 dX6_spoon_5 (by decide) (fun c => ?_) (fun c => ?_)
  · have h := h.1 (b0.mp c)
    refine go_iconst (v := -1) dX6_spoon_30 (by decide) ?_
    exact go_iret dX6_spoon_31 rfl rfl h
  · have h := h.2 (b1.mp c)
    refine go_iload_n dX6_spoon_8 rfl ?_
    refine go_callS0 (μ := mX6_spoon) [.int _] dX6_spoon_9 YX6_isKind lX6_62 rfl (Nat.le_of_ble_eq_true rfl) (Nat.le_of_ble_eq_true rfl) rfl (k_X6_isKind hR ?_)
    refine go_if_eq 30 dX6_spoon_12 (by decide) (fun c => ?_) (fun c => ?_)
    · have h := h.1 (b0.mp c)
      refine go_iconst (v := -1) dX6_spoon_30 (by decide) ?_
      exact go_iret dX6_spoon_31 rfl rfl h
    · have h := h.2 (b1.mp c)
      refine go_aload_n dX6_spoon_15 rfl ?_
      refine go_getR dX6_spoon_16 fX6_27 rfl rfl (hR 0 2 3 rfl) ?_
      refine go_getR dX6_spoon_19 fX6_68 rfl rfl (hR 3 0 4 rfl) ?_
      refine go_getI dX6_spoon_22 fX6_101 rfl rfl ?_
      refine go_bipush (v := 60) dX6_spoon_25 (by decide) ?_
      refine go_icmp_lt 32 dX6_spoon_27 (by decide) (fun c => ?_) (fun c => ?_)
      · have h := h.1 c
        refine go_aload_n dX6_spoon_32 rfl ?_
        refine go_getR dX6_spoon_33 fX6_20 rfl rfl (hR 0 1 2 rfl) ?_
        refine go_aload_n dX6_spoon_36 rfl ?_
        refine go_getR dX6_spoon_37 fX6_27 rfl rfl (hR 0 2 3 rfl) ?_
        refine go_getR dX6_spoon_40 fX6_68 rfl rfl (hR 3 0 4 rfl) ?_
        refine go_iload_n dX6_spoon_43 rfl ?_
        refine go_iload_n dX6_spoon_44 rfl ?_
        obtain ⟨hp_1, h⟩ := h
        obtain ⟨hp_2, h⟩ := h
        obtain ⟨hp_3, h⟩ := h
        obtain ⟨hp_4, h⟩ := h
        refine go_callV0 (μ := mX6_spoon) [.ref 4, .int _, .int _] dX6_spoon_45 YX0_spoonful lX6_104 rfl ⟨_, rfl, rfl⟩ rfl (Nat.le_of_ble_eq_true rfl) (Nat.le_of_ble_eq_true rfl) rfl (k_X0_spoonful hR Sc_4 hp_1 hp_2 hp_3 hp_4 (fun r_5 I_6 hq => ?_))
        have h := h r_5 I_6 hq
        refine go_istore_n dX6_spoon_48 (Nat.le_of_ble_eq_true rfl) rfl ?_
        refine go_iload_n dX6_spoon_49 rfl ?_
        refine go_iconst (v := 1) dX6_spoon_50 (by decide) ?_
        refine go_icmp_ge 56 dX6_spoon_51 (by decide) (fun c => ?_) (fun c => ?_)
        · have h := h.1 c
          refine go_aload_n dX6_spoon_56 rfl ?_
          refine go_callV0 (μ := mX6_spoon) [] dX6_spoon_57 YX6_forgetSought lX6_65 rfl ⟨_, rfl, rfl⟩ rfl (Nat.le_of_ble_eq_true rfl) (Nat.le_of_ble_eq_true rfl) rfl (k_X6_forgetSought hR ?_)
          have h := h _ rfl
          refine go_aload_n dX6_spoon_60 rfl ?_
          refine go_getR dX6_spoon_61 fX6_27 rfl rfl (hR 0 2 3 rfl) ?_
          obtain ⟨hp_8, h⟩ := h
          refine go_callV0 (μ := mX6_spoon) [] dX6_spoon_64 YX1_keepStep lX6_98 rfl ⟨_, rfl, rfl⟩ rfl (Nat.le_of_ble_eq_true rfl) (Nat.le_of_ble_eq_true rfl) rfl (k_X1_keepStep2 hR hp_8 (fun I_9 R_10 hq => ?_))
          have h := h I_9 R_10 hq
          have hRx_11 := hq.1
          refine go_aload_n dX6_spoon_67 rfl ?_
          refine go_getR dX6_spoon_68 fX6_27 rfl rfl (hRx_11 0 2 3 rfl) ?_
          refine go_iload_n dX6_spoon_71 rfl ?_
          refine go_iload_n dX6_spoon_72 rfl ?_
          refine go_iload_n dX6_spoon_73 rfl ?_
          obtain ⟨hp_12, h⟩ := h
          refine go_callV0 (μ := mX6_spoon) [.int _, .int _, .int _] dX6_spoon_74 YX1_writeSpoon lX6_108 rfl ⟨_, rfl, rfl⟩ rfl (Nat.le_of_ble_eq_true rfl) (Nat.le_of_ble_eq_true rfl) rfl (k_X1_writeSpoon hRx_11 hp_12 ?_)
          have h := h _ rfl
          refine go_aload_n dX6_spoon_77 rfl ?_
          refine go_getR dX6_spoon_78 fX6_27 rfl rfl (hRx_11 0 2 3 rfl) ?_
          refine go_getR dX6_spoon_81 fX6_68 rfl rfl (hRx_11 3 0 4 rfl) ?_
          refine go_iload_n dX6_spoon_84 rfl ?_
          refine go_iload_n dX6_spoon_85 rfl ?_
          refine go_iload_n dX6_spoon_86 rfl ?_
          obtain ⟨hp_14, h⟩ := h
          obtain ⟨hp_15, h⟩ := h
          refine go_callV0 (μ := mX6_spoon) [.int _, .int _, .int _] dX6_spoon_87 YX4_eat lX6_112 rfl ⟨_, rfl, rfl⟩ rfl (Nat.le_of_ble_eq_true rfl) (Nat.le_of_ble_eq_true rfl) rfl (k_X4_eat hRx_11 Sc_4 hp_14 hp_15 ?_)
          have h := h _ rfl
          refine go_iload_n dX6_spoon_90 rfl ?_
          exact go_iret dX6_spoon_91 rfl rfl h
        · have h := h.2 c
          refine go_iconst (v := -1) dX6_spoon_54 (by decide) ?_
          exact go_iret dX6_spoon_55 rfl rfl h
      · have h := h.2 c
        refine go_iconst (v := -1) dX6_spoon_30 (by decide) ?_
        exact go_iret dX6_spoon_31 rfl rfl h
theorem e_X7_spoon {G : gG} {I : gI} {R : gR} {L : gL} {Q : gQ} {a b : Int32} (hR : g_Fx R) (h : (¬ (0 ≤ a ∧ a ≤ I 311 0 - 1) → Q (some (.int (-1))) SH I R L) ∧ (0 ≤ a ∧ a ≤ I 311 0 - 1 → (¬ (b = 0 ∨ b = 1) → Q (some (.int (-1))) SH I R L) ∧ (b = 0 ∨ b = 1 → (¬ (I 311 132) = 60 → ∀ I_1 : gI, I_1 = layI I → vp_in a 9 ∧ (vp_in b 2 ∧ (okN I_1 ∧ ((okD (dyM I_1)) ∧ (∀ r_6 : Int32, ∀ I_7 : gI, ∀ L_8 : gL, (r_6.toInt = spn (thM I_1) (dyM I_1) a.toNatClampNeg b.toInt ∧ (∀ a, a ≠ 331 → I_7 a = I_1 a) ∧ ∀ a, a ≠ 332 → L_8 a = L a) → (¬ r_6 = 0 → (0 ≤ (I_7 311 3).toInt ∧ (I_7 311 3).toInt ≤ 30) ∧ (∀ I_10 : gI, I_10 = sa I_7 311 (kstF (I_7 311)) → vp_in (114 + a) 11120 ∧ (∀ v4_11 : Int32, v4_11 = (I_10 311 (114 + a).toNatClampNeg) → vp_in ((110 + (2 * v4_11)) + b) 11120 ∧ (vp_in ((110 + (2 * v4_11)) + b) 11120 ∧ (∀ I_12 : gI, I_12 = up I_10 311 ((110 + (2 * v4_11)) + b).toNatClampNeg ((I_10 311 ((110 + (2 * v4_11)) + b).toNatClampNeg) - r_6) → vp_in (123 + a) 11120 ∧ (vp_in (123 + a) 11120 ∧ (∀ I_13 : gI, I_13 = up I_12 311 (123 + a).toNatClampNeg ((I_12 311 (123 + a).toNatClampNeg) + r_6) → ∀ v5_14 : Int32, v5_14 = (133 + (4 * (I_13 311 132))) → vp_in v5_14 11120 ∧ (∀ I_15 : gI, I_15 = up I_13 311 v5_14.toNatClampNeg a → vp_in (v5_14 + 1) 11120 ∧ (∀ I_16 : gI, I_16 = up I_15 311 (v5_14 + 1).toNatClampNeg v4_11 → vp_in (v5_14 + 2) 11120 ∧ (∀ I_17 : gI, I_17 = up I_16 311 (v5_14 + 2).toNatClampNeg b → vp_in (v5_14 + 3) 11120 ∧ (∀ I_18 : gI, I_18 = up I_17 311 (v5_14 + 3).toNatClampNeg r_6 → ∀ I_19 : gI, I_19 = up I_18 311 132 ((I_18 311 132) + 1) → Q (some (.int r_6)) SH I_19 R L_8))))))))))) ∧ (r_6 = 0 → Q (some (.int (-1))) SH I_7 R L_8)))))) ∧ ((I 311 132) = 60 → Q (some (.int (-1))) SH I R L)))) : Mt G mX7_spoon 30 0 0 [.ref 310, .int a, .int b] SH I R L Q := by
  refine go_start rfl (Nat.le_of_ble_eq_true rfl) rfl ?_
  refine go_aload_n dX7_spoon_0 rfl ?_
  refine go_iload_n dX7_spoon_1 rfl ?_
  refine go_callV0 (μ := mX7_spoon) [.int _] dX7_spoon_2 YX7_isEater lX7_343 rfl ⟨_, rfl, rfl⟩ rfl (Nat.le_of_ble_eq_true rfl) (Nat.le_of_ble_eq_true rfl) rfl (k_X7_isEater hR ?_)
  refine go_if_eq 28 dX7_spoon_5 (by decide) (fun c => ?_) (fun c => ?_)
  · have h := h.1 (b0.mp c)
    refine go_iconst (v := -1) dX7_spoon_28 (by decide) ?_
    exact go_iret dX7_spoon_29 rfl rfl h
  · have h := h.2 (b1.mp c)
    refine go_iload_n dX7_spoon_8 rfl ?_
    refine go_callS0 (μ := mX7_spoon) [.int _] dX7_spoon_9 YX7_isOne lX7_114 rfl (Nat.le_of_ble_eq_true rfl) (Nat.le_of_ble_eq_true rfl) rfl (k_X7_isOne hR ?_)
    refine go_if_eq 28 dX7_spoon_12 (by decide) (fun c => ?_) (fun c => ?_)
    · have h := h.1 (b0.mp c)
      refine go_iconst (v := -1) dX7_spoon_28 (by decide) ?_
      exact go_iret dX7_spoon_29 rfl rfl h
    · have h := h.2 (b1.mp c)
      refine go_aload_n dX7_spoon_15 rfl ?_
      refine go_getR dX7_spoon_16 fX7_7 rfl rfl (hR 310 0 311 rfl) ?_
      refine go_sipush (v := 132) dX7_spoon_19 (by decide) ?_
      refine go_ialdK dX7_spoon_22 rfl (vp_in_nI (n := 132) (by decide) (by decide)) (k := 132) (by decide) ?_
      refine go_bipush (v := 60) dX7_spoon_23 (by decide) ?_
      refine go_icmp_ne 30 dX7_spoon_25 (by decide) (fun c => ?_) (fun c => ?_)
      · have h := h.1 c
        refine go_aload_n dX7_spoon_30 rfl ?_
        refine go_callV0 (μ := mX7_spoon) [] dX7_spoon_31 YX7_laysWorld lX7_349 rfl ⟨_, rfl, rfl⟩ rfl (Nat.le_of_ble_eq_true rfl) (Nat.le_of_ble_eq_true rfl) rfl (k_X7_laysWorld hR ?_)
        have h := h _ rfl
        refine go_aload_n dX7_spoon_34 rfl ?_
        refine go_iload_n dX7_spoon_35 rfl ?_
        refine go_iload_n dX7_spoon_36 rfl ?_
        obtain ⟨hp_2, h⟩ := h
        obtain ⟨hp_3, h⟩ := h
        obtain ⟨hp_4, h⟩ := h
        obtain ⟨hp_5, h⟩ := h
        refine go_callV0 (μ := mX7_spoon) [.int _, .int _] dX7_spoon_37 YX7_spoonOf lX7_337 rfl ⟨_, rfl, rfl⟩ rfl (Nat.le_of_ble_eq_true rfl) (Nat.le_of_ble_eq_true rfl) rfl (k_X7_spoonOf hR hp_2 hp_3 hp_4 hp_5 (fun r_6 I_7 L_8 hq => ?_))
        have h := h r_6 I_7 L_8 hq
        refine go_istore_n dX7_spoon_40 (Nat.le_of_ble_eq_true rfl) rfl ?_
        refine go_iload_n dX7_spoon_41 rfl ?_
        refine go_if_ne 47 dX7_spoon_42 (by decide) (fun c => ?_) (fun c => ?_)
        · have h := h.1 c
          refine go_aload_n dX7_spoon_47 rfl ?_
          obtain ⟨hp_9, h⟩ := h
          refine go_callV0 (μ := mX7_spoon) [] dX7_spoon_48 YX7_keepsStep lX7_346 rfl ⟨_, rfl, rfl⟩ rfl (Nat.le_of_ble_eq_true rfl) (Nat.le_of_ble_eq_true rfl) rfl (k_X7_keepsStep hR hp_9 ?_)
          have h := h _ rfl
          refine go_aload_n dX7_spoon_51 rfl ?_
          refine go_getR dX7_spoon_52 fX7_7 rfl rfl (hR 310 0 311 rfl) ?_
          refine go_bipush (v := 114) dX7_spoon_55 (by decide) ?_
          refine go_iload_n dX7_spoon_57 rfl ?_
          refine go_iadd dX7_spoon_58 ?_
          obtain ⟨hi, h⟩ := h
          refine go_iald dX7_spoon_59 rfl hi ?_
          refine go_istore dX7_spoon_60 (Nat.le_of_ble_eq_true rfl) rfl ?_
          have h := h _ rfl
          refine go_aload_n dX7_spoon_62 rfl ?_
          refine go_getR dX7_spoon_63 fX7_7 rfl rfl (hR 310 0 311 rfl) ?_
          refine go_bipush (v := 110) dX7_spoon_66 (by decide) ?_
          refine go_iconst (v := 2) dX7_spoon_68 (by decide) ?_
          refine go_iload dX7_spoon_69 rfl ?_
          refine go_imul dX7_spoon_71 ?_
          refine go_iadd dX7_spoon_72 ?_
          refine go_iload_n dX7_spoon_73 rfl ?_
          refine go_iadd dX7_spoon_74 ?_
          refine go_dup2 dX7_spoon_75 rfl rfl ?_
          obtain ⟨hi, h⟩ := h
          refine go_iald dX7_spoon_76 rfl hi ?_
          refine go_iload_n dX7_spoon_77 rfl ?_
          refine go_isub dX7_spoon_78 ?_
          obtain ⟨hi, h⟩ := h
          refine go_iast dX7_spoon_79 rfl hi ?_
          have h := h _ rfl
          refine go_aload_n dX7_spoon_80 rfl ?_
          refine go_getR dX7_spoon_81 fX7_7 rfl rfl (hR 310 0 311 rfl) ?_
          refine go_bipush (v := 123) dX7_spoon_84 (by decide) ?_
          refine go_iload_n dX7_spoon_86 rfl ?_
          refine go_iadd dX7_spoon_87 ?_
          refine go_dup2 dX7_spoon_88 rfl rfl ?_
          obtain ⟨hi, h⟩ := h
          refine go_iald dX7_spoon_89 rfl hi ?_
          refine go_iload_n dX7_spoon_90 rfl ?_
          refine go_iadd dX7_spoon_91 ?_
          obtain ⟨hi, h⟩ := h
          refine go_iast dX7_spoon_92 rfl hi ?_
          have h := h _ rfl
          refine go_sipush (v := 133) dX7_spoon_93 (by decide) ?_
          refine go_iconst (v := 4) dX7_spoon_96 (by decide) ?_
          refine go_aload_n dX7_spoon_97 rfl ?_
          refine go_getR dX7_spoon_98 fX7_7 rfl rfl (hR 310 0 311 rfl) ?_
          refine go_sipush (v := 132) dX7_spoon_101 (by decide) ?_
          refine go_ialdK dX7_spoon_104 rfl (vp_in_nI (n := 132) (by decide) (by decide)) (k := 132) (by decide) ?_
          refine go_imul dX7_spoon_105 ?_
          refine go_iadd dX7_spoon_106 ?_
          refine go_istore dX7_spoon_107 (Nat.le_of_ble_eq_true rfl) rfl ?_
          have h := h _ rfl
          refine go_aload_n dX7_spoon_109 rfl ?_
          refine go_getR dX7_spoon_110 fX7_7 rfl rfl (hR 310 0 311 rfl) ?_
          refine go_iload dX7_spoon_113 rfl ?_
          refine go_iload_n dX7_spoon_115 rfl ?_
          obtain ⟨hi, h⟩ := h
          refine go_iast dX7_spoon_116 rfl hi ?_
          have h := h _ rfl
          refine go_aload_n dX7_spoon_117 rfl ?_
          refine go_getR dX7_spoon_118 fX7_7 rfl rfl (hR 310 0 311 rfl) ?_
          refine go_iload dX7_spoon_121 rfl ?_
          refine go_iconst (v := 1) dX7_spoon_123 (by decide) ?_
          refine go_iadd dX7_spoon_124 ?_
          refine go_iload dX7_spoon_125 rfl ?_
          obtain ⟨hi, h⟩ := h
          refine go_iast dX7_spoon_127 rfl hi ?_
          have h := h _ rfl
          refine go_aload_n dX7_spoon_128 rfl ?_
          refine go_getR dX7_spoon_129 fX7_7 rfl rfl (hR 310 0 311 rfl) ?_
          refine go_iload dX7_spoon_132 rfl ?_
          refine go_iconst (v := 2) dX7_spoon_134 (by decide) ?_
          refine go_iadd dX7_spoon_135 ?_
          refine go_iload_n dX7_spoon_136 rfl ?_
          obtain ⟨hi, h⟩ := h
          refine go_iast dX7_spoon_137 rfl hi ?_
          have h := h _ rfl
          refine go_aload_n dX7_spoon_138 rfl ?_
          refine go_getR dX7_spoon_139 fX7_7 rfl rfl (hR 310 0 311 rfl) ?_
          refine go_iload dX7_spoon_142 rfl ?_
          refine go_iconst (v := 3) dX7_spoon_144 (by decide) ?_
          refine go_iadd dX7_spoon_145 ?_
          refine go_iload_n dX7_spoon_146 rfl ?_
          obtain ⟨hi, h⟩ := h
          refine go_iast dX7_spoon_147 rfl hi ?_
          have h := h _ rfl
          refine go_aload_n dX7_spoon_148 rfl ?_
          refine go_getR dX7_spoon_149 fX7_7 rfl rfl (hR 310 0 311 rfl) ?_
          refine go_sipush (v := 132) dX7_spoon_152 (by decide) ?_
          refine go_dup2 dX7_spoon_155 rfl rfl ?_
          refine go_ialdK dX7_spoon_156 rfl (vp_in_nI (n := 132) (by decide) (by decide)) (k := 132) (by decide) ?_
          refine go_iconst (v := 1) dX7_spoon_157 (by decide) ?_
          refine go_iadd dX7_spoon_158 ?_
          refine go_iastK dX7_spoon_159 rfl (vp_in_nI (n := 132) (by decide) (by decide)) (k := 132) (by decide) ?_
          have h := h _ rfl
          refine go_iload_n dX7_spoon_160 rfl ?_
          exact go_iret dX7_spoon_161 rfl rfl h
        · have h := h.2 c
          refine go_iconst (v := -1) dX7_spoon_45 (by decide) ?_
          exact go_iret dX7_spoon_46 rfl rfl h
      · have h := h.2 c
        refine go_iconst (v := -1) dX7_spoon_28 (by decide) ?_
        exact go_iret dX7_spoon_29 rfl rfl h
/-! a spoon -/
def spG (θ : thy) (f : Nat → Int32) (a b : Int32) : Int := spn θ (dyF f) a.toNatClampNeg b.toInt
def spA (θ : thy) (f : Nat → Int32) (a b : Int32) : Prop := 0 ≤ a ∧ a < f 0 ∧ (b = 0 ∨ b = 1) ∧ (f 132).toInt < 60 ∧ 0 < spG θ f a b
def spF (f : Nat → Int32) (a b g : Int32) : Nat → Int32 := fun k =>
  if k = 132 then kstF f 132 + 1 else if k = 133 + (4 * (f 132).toNatClampNeg + 3) then g else if k = 133 + (4 * (f 132).toNatClampNeg + 2) then b else if k = 133 + (4 * (f 132).toNatClampNeg + 1) then f (114 + a.toNatClampNeg) else if k = 133 + 4 * (f 132).toNatClampNeg then a
  else if k = 123 + a.toNatClampNeg then kstF f k + g else if k = 110 + (2 * f (114 + a.toNatClampNeg) + b).toNatClampNeg then kstF f k - g else kstF f k
/-- what stands where a spoon can be -/
theorem sp_facts {θ : thy} {f : Nat → Int32} {a b g : Int32} (o : okf f) (hT : okT θ) (h : spA θ f a b) (hg : g.toInt = spG θ f a b) :
    ∃ i κ j n : Nat, i < 9 ∧ i < (f 0).toNatClampNeg ∧ a = nI i ∧ κ < 2 ∧ b = nI κ ∧ n < 60 ∧ f 132 = nI n ∧ j < 4 ∧ 2 * f (114 + i) + b = nI j ∧ ¬ f (114 + i) = 2 ∧ (0 < g.toInt ∧ g.toInt ≤ 99 ∧ g.toInt ≤ (f (110 + j)).toInt) ∧ (j : Int) = 2 * (f (114 + i)).toInt + b.toInt := by
  obtain ⟨h1, h2, h3, h4, h5⟩ := h
  have o0 : 0 ≤ f 0 ∧ f 0 ≤ 9 := ⟨ti_le.mpr o.1.1.1, ti_le.mpr o.1.1.2⟩
  have hv : vp_in a 9 := vi9.mpr (by grind)
  obtain ⟨i, hi, ei⟩ := vp_in_of hv (by decide)
  obtain ⟨κ, hk, ek⟩ := bit01 h3
  have ca : a.toNatClampNeg = i := by rw [ei, nI_clamp (by omega)]
  have kb : b.toInt = κ := by rw [ek, nI_toInt (by omega)]
  have oD := okr_okD o.2.1
  have oD' := oD.ok (by decide)
  unfold spG at h5 hg
  rw [ca] at h5 hg
  obtain ⟨hw, hl⟩ := spn_lft h5
  have hr := spn_rng (k := b.toInt) hT oD' hi (by omega) (by omega)
  have hwh := oD.2.1 i hi
  have ew : (dyF f).2.1 i = (f (114 + i)).toInt := rfl
  rw [ew] at hw hwh
  have e2 : (2 : Int32).toInt = 2 := rfl
  have s1 : (2 * f (114 + i)).toInt = 2 * (f (114 + i)).toInt := by rw [ti_mul] <;> rw [e2] <;> omega
  have s2 : (2 * f (114 + i) + b).toInt = 2 * (f (114 + i)).toInt + b.toInt := by rw [ti_add] <;> rw [s1, kb] <;> omega
  have c3 := ci (x := 2 * f (114 + i) + b) (by omega)
  have c4 := ci o.2.1.2.2.2.1.1
  have c5 := ci o.1.1.1
  have hb0 : i < (f 0).toNatClampNeg := by rw [ti_lt, ei, nI_toInt (by omega)] at h2; omega
  refine ⟨i, κ, (2 * f (114 + i) + b).toNatClampNeg, (f 132).toNatClampNeg, hi, hb0, ei, hk, ek, ?_, nI_of_toInt o.2.1.2.2.2.1.1, by omega, nI_of_toInt (by omega), fun q => hw (by rw [q]; rfl), ⟨by omega, ?_, ?_⟩, by omega⟩
  · have : ((f 132).toNatClampNeg : Int) = (f 132).toInt := c4
    omega
  · rw [hg]; omega
  · rw [hg]
    have : lft (dyF f) i b.toInt = (f (110 + (2 * f (114 + i) + b).toNatClampNeg)).toInt := by
      unfold lft
      show (f (110 + (2 * (f (114 + i)).toInt + b.toInt).toNat)).toInt = _
      rw [← s2]; rfl
    omega
theorem spF_row {f : Nat → Int32} {a b g : Int32} {i j n : Nat} (o : okf f) (hi : i < 9) (ei : a = nI i) (hj : j < 4) (ej : 2 * f (114 + i) + b = nI j) (hn : n < 60) (en : f 132 = nI n) :
    (∀ m, row (spF f a b g) 110 m = if m = 22 then nI (n + 1) else if m = 23 + (4 * n + 3) then g else if m = 23 + (4 * n + 2) then b else if m = 23 + (4 * n + 1) then f (114 + i) else if m = 23 + 4 * n then a else if m = 13 + i then row (kstF f) 110 m + g else if m = j then row (kstF f) 110 m - g else row (kstF f) 110 m) ∧ (∀ k, k < 110 → spF f a b g k = kstF f k) ∧ ∀ k, 470 ≤ k → spF f a b g k = kstF f k := by
  have ca : a.toNatClampNeg = i := by rw [ei, nI_clamp (by omega)]
  have cn : (f 132).toNatClampNeg = n := by rw [en, nI_clamp (by omega)]
  have cj : (2 * f (114 + i) + b).toNatClampNeg = j := by rw [ej, nI_clamp (by omega)]
  have e132 : kstF f 132 + 1 = nI (n + 1) := by rw [kst_k o 132 (by decide) (by decide), en, nI_1]
  refine ⟨fun m => ?_, fun k hk => ?_, fun k hk => ?_⟩
  · show spF f a b g (110 + m) = _
    unfold spF
    rw [ca, cn, cj, e132]
    by_cases h1 : m = 22
    · rw [if_pos (by omega), if_pos h1]
    rw [if_neg (by omega), if_neg h1]
    by_cases h2 : m = 23 + (4 * n + 3)
    · rw [if_pos (by omega), if_pos h2]
    rw [if_neg (by omega), if_neg h2]
    by_cases h3 : m = 23 + (4 * n + 2)
    · rw [if_pos (by omega), if_pos h3]
    rw [if_neg (by omega), if_neg h3]
    by_cases h4 : m = 23 + (4 * n + 1)
    · rw [if_pos (by omega), if_pos h4]
    rw [if_neg (by omega), if_neg h4]
    by_cases h5 : m = 23 + 4 * n
    · rw [if_pos (by omega), if_pos h5]
    rw [if_neg (by omega), if_neg h5]
    by_cases h6 : m = 13 + i
    · rw [if_pos (by omega), if_pos h6]; rfl
    rw [if_neg (by omega), if_neg h6]
    by_cases h7 : m = j
    · rw [if_pos (by omega), if_pos h7]; rfl
    rw [if_neg (by omega), if_neg h7]; rfl
  · unfold spF
    rw [ca, cn, cj, if_neg (by omega), if_neg (by omega), if_neg (by omega), if_neg (by omega), if_neg (by omega), if_neg (by omega), if_neg (by omega)]
  · unfold spF
    rw [ca, cn, cj, if_neg (by omega), if_neg (by omega), if_neg (by omega), if_neg (by omega), if_neg (by omega), if_neg (by omega), if_neg (by omega)]
theorem sp_ok {θ : thy} {f : Nat → Int32} {a b g : Int32} (o : okf f) (hT : okT θ) (h : spA θ f a b) (hg : g.toInt = spG θ f a b) : okf (spF f a b g) ∧ ∀ k, k < 110 → k ≠ 3 → spF f a b g k = f k := by
  obtain ⟨i, κ, j, n, hi, hi0, ei, hk, ek, hn, en, hj, ej, hw, ⟨g0, g1, g2⟩, -⟩ := sp_facts o hT h hg
  obtain ⟨er, elo, ehi⟩ := spF_row (g := g) o hi ei hj ej hn en
  have ok := okf_kst o
  have kk := kst_k o
  have off : ∀ m, m ≠ 22 → (m < 23 ∨ 263 ≤ m) → m ≠ 13 + i → m ≠ j → row (spF f a b g) 110 m = row (kstF f) 110 m := fun m h1 h2 h3 h4 => by
    rw [er, if_neg h1, if_neg (by omega), if_neg (by omega), if_neg (by omega), if_neg (by omega), if_neg h3, if_neg h4]
  have e22 : row (spF f a b g) 110 22 = nI (n + 1) := by rw [er, if_pos rfl]
  have k22 : row (kstF f) 110 22 = nI n := by show kstF f 132 = _; rw [kk _ (by decide) (by decide), en]
  have t22 : (nI (n + 1)).toInt = n + 1 := by rw [nI_toInt (by omega)]; omega
  have t22' : (nI n).toInt = n := nI_toInt (by omega)
  refine ⟨?_, fun k hk h3 => by rw [elo k hk, kk k (by omega) h3]⟩
  obtain ⟨o1, o2, o3, o4, o5, o6, o7⟩ := ok.2.1
  rw [k22, t22'] at o3 o4
  refine okf_now ok elo ehi ?_ (by rw [e22, k22, t22, t22']; omega) (by rw [off 263 (by omega) (by omega) (by omega) (by omega)]; omega)
  unfold okr
  rw [e22, t22, off 263 (by omega) (by omega) (by omega) (by omega), off 354 (by omega) (by omega) (by omega) (by omega)]
  refine ⟨fun m hm => ?_, fun m hm => by rw [off _ (by omega) (by omega) (by omega) (by omega)]; exact o2 m hm, fun m hm => ?_, ⟨by omega, by omega⟩, o5, o6, fun m h1 hm => ?_⟩
  · by_cases hmj : m = j
    · rw [er, if_neg (by omega), if_neg (by omega), if_neg (by omega), if_neg (by omega), if_neg (by omega), if_neg (by omega), if_pos hmj, hmj]
      have oj := o1 j hj
      have ej2 : row (kstF f) 110 j = f (110 + j) := kk _ (by omega) (by omega)
      rw [ej2] at oj ⊢
      rw [ti_sub] <;> omega
    · rw [off _ (by omega) (by omega) (by omega) hmj]; exact o1 m hm
  · have oe := o3 m hm
    by_cases hmi : m = i
    · rw [er, if_neg (by omega), if_neg (by omega), if_neg (by omega), if_neg (by omega), if_neg (by omega), if_pos (by omega)]
      rw [ti_add] <;> omega
    · rw [off _ (by omega) (by omega) (by omega) (by omega)]; omega
  · rw [kk 0 (by decide) (by decide)] at h1 o7
    have hmi : m ≠ i := by omega
    rw [off _ (by omega) (by omega) (by omega) (by omega), off _ (by omega) (by omega) (by omega) (by omega)]
    exact o7 m h1 hm
