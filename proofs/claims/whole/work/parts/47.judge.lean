theorem e_X6_judge {G : gG} {I : gI} {R : gR} {L : gL} {Q : gQ} {a : Int32} (hR : g_Fx R) (h : (¬ (a = 0 ∨ a = 1) → Q (some (.int (-1))) SH I R L) ∧ (a = 0 ∨ a = 1 → ((I 4 4) < 30 → vp_in a 2 ∧ (okI I ∧ ((okD (dyC I 4)) ∧ ((0 ≤ (I 4 4).toInt ∧ (I 4 4).toInt ≤ 30) ∧ (∀ I_5 : gI, (∀ a, a ≠ 164 → a ≠ 165 → I_5 a = I a) → (¬ (gui (thC I) (dyC I 4) a.toInt (I 4 4).toInt = true) → ∀ I_6 : gI, I_6 = up I_5 0 9 (-1) → (∃ f, okf f ∧ stp I_6 R f) ∧ (∀ I_8 : gI, ∀ R_9 : gR, (g_Fx R_9 ∧ (∀ f, okf f → stp I_6 R f → stp I_8 R_9 (kstF f)) ∧ (∀ a, a ≠ 3 → (a < 9 ∨ 128 < a) → I_8 a = I_6 a) ∧ ∀ j, j ≠ 2 → I_8 3 j = I_6 3 j) → ∀ I_11 : gI, I_11 = wDe I_8 a (0 : Int32) → Q (some (.int 0)) SH I_11 R_9 L)) ∧ (gui (thC I) (dyC I 4) a.toInt (I 4 4).toInt = true → ∀ I_12 : gI, I_12 = up I_5 0 9 (-1) → (∃ f, okf f ∧ stp I_12 R f) ∧ (∀ I_14 : gI, ∀ R_15 : gR, (g_Fx R_15 ∧ (∀ f, okf f → stp I_12 R f → stp I_14 R_15 (kstF f)) ∧ (∀ a, a ≠ 3 → (a < 9 ∨ 128 < a) → I_14 a = I_12 a) ∧ ∀ j, j ≠ 2 → I_14 3 j = I_12 3 j) → ∀ I_17 : gI, I_17 = wDe I_14 a (1 : Int32) → Q (some (.int 1)) SH I_17 R_15 L))))))) ∧ (¬ (I 4 4) < 30 → Q (some (.int (-1))) SH I R L))) : Mt G mX6_judge 30 0 0 [.ref 0, .int a] SH I R L Q := by
  refine go_start rfl (Nat.le_of_ble_eq_true rfl) rfl ?_
  refine go_iload_n dX6_judge_0 rfl ?_
  refine go_callS0 (μ := mX6_judge) [.int _] dX6_judge_1 YX6_isSide lX6_58 rfl (Nat.le_of_ble_eq_true rfl) (Nat.le_of_ble_eq_true rfl) rfl (k_X6_isSide hR ?_)
  refine go_if_eq 22 dX6_judge_4 (by decide) (fun c => ?_) (fun c => ?_)
  · have h := h.1 (b0.mp c)
    refine go_iconst (v := -1) dX6_judge_22 (by decide) ?_
    exact go_iret dX6_judge_23 rfl rfl h
  · have h := h.2 (b1.mp c)
    refine go_aload_n dX6_judge_7 rfl ?_
    refine go_getR dX6_judge_8 fX6_27 rfl rfl (hR 0 2 3 rfl) ?_
    refine go_getR dX6_judge_11 fX6_68 rfl rfl (hR 3 0 4 rfl) ?_
    refine go_getI dX6_judge_14 fX6_115 rfl rfl ?_
    refine go_bipush (v := 30) dX6_judge_17 (by decide) ?_
    refine go_icmp_lt 24 dX6_judge_19 (by decide) (fun c => ?_) (fun c => ?_)
    · have h := h.1 c
      refine go_aload_n dX6_judge_24 rfl ?_
      refine go_getR dX6_judge_25 fX6_20 rfl rfl (hR 0 1 2 rfl) ?_
      refine go_aload_n dX6_judge_28 rfl ?_
      refine go_getR dX6_judge_29 fX6_27 rfl rfl (hR 0 2 3 rfl) ?_
      refine go_getR dX6_judge_32 fX6_68 rfl rfl (hR 3 0 4 rfl) ?_
      refine go_iload_n dX6_judge_35 rfl ?_
      obtain ⟨hp_1, h⟩ := h
      obtain ⟨hp_2, h⟩ := h
      obtain ⟨hp_3, h⟩ := h
      obtain ⟨hp_4, h⟩ := h
      refine go_callV0 (μ := mX6_judge) [.ref 4, .int _] dX6_judge_36 YX0_isGuilty lX6_118 rfl ⟨_, rfl, rfl⟩ rfl (Nat.le_of_ble_eq_true rfl) (Nat.le_of_ble_eq_true rfl) rfl (k_X0_isGuilty hR Sc_4 hp_1 hp_2 hp_3 hp_4 (fun I_5 hq => ?_))
      have h := h I_5 hq
      refine go_if_eq 46 dX6_judge_39 (by decide) (fun c => ?_) (fun c => ?_)
      · have h := h.1 (b0.mp c)
        refine go_iconst (v := 0) dX6_judge_46 (by decide) ?_
        refine go_istore_n dX6_judge_47 (Nat.le_of_ble_eq_true rfl) rfl ?_
        refine go_aload_n dX6_judge_48 rfl ?_
        refine go_callV0 (μ := mX6_judge) [] dX6_judge_49 YX6_forgetSought lX6_65 rfl ⟨_, rfl, rfl⟩ rfl (Nat.le_of_ble_eq_true rfl) (Nat.le_of_ble_eq_true rfl) rfl (k_X6_forgetSought hR ?_)
        have h := h _ rfl
        refine go_aload_n dX6_judge_52 rfl ?_
        refine go_getR dX6_judge_53 fX6_27 rfl rfl (hR 0 2 3 rfl) ?_
        obtain ⟨hp_7, h⟩ := h
        refine go_callV0 (μ := mX6_judge) [] dX6_judge_56 YX1_keepStep lX6_98 rfl ⟨_, rfl, rfl⟩ rfl (Nat.le_of_ble_eq_true rfl) (Nat.le_of_ble_eq_true rfl) rfl (k_X1_keepStep2 hR hp_7 (fun I_8 R_9 hq => ?_))
        have h := h I_8 R_9 hq
        have hRx_10 := hq.1
        refine go_aload_n dX6_judge_59 rfl ?_
        refine go_getR dX6_judge_60 fX6_27 rfl rfl (hRx_10 0 2 3 rfl) ?_
        refine go_iload_n dX6_judge_63 rfl ?_
        refine go_iload_n dX6_judge_64 rfl ?_
        refine go_callV0 (μ := mX6_judge) [.int _, .int _] dX6_judge_65 YX1_writeDent lX6_122 rfl ⟨_, rfl, rfl⟩ rfl (Nat.le_of_ble_eq_true rfl) (Nat.le_of_ble_eq_true rfl) rfl (k_X1_writeDent hRx_10 ?_)
        have h := h _ rfl
        refine go_iload_n dX6_judge_68 rfl ?_
        exact go_iret dX6_judge_69 rfl rfl h
      · have h := h.2 (b1.mp c)
        refine go_iconst (v := 1) dX6_judge_42 (by decide) ?_
        refine go_goto 47 dX6_judge_43 (by decide) ?_
        refine go_istore_n dX6_judge_47 (Nat.le_of_ble_eq_true rfl) rfl ?_
        refine go_aload_n dX6_judge_48 rfl ?_
        refine go_callV0 (μ := mX6_judge) [] dX6_judge_49 YX6_forgetSought lX6_65 rfl ⟨_, rfl, rfl⟩ rfl (Nat.le_of_ble_eq_true rfl) (Nat.le_of_ble_eq_true rfl) rfl (k_X6_forgetSought hR ?_)
        have h := h _ rfl
        refine go_aload_n dX6_judge_52 rfl ?_
        refine go_getR dX6_judge_53 fX6_27 rfl rfl (hR 0 2 3 rfl) ?_
        obtain ⟨hp_13, h⟩ := h
        refine go_callV0 (μ := mX6_judge) [] dX6_judge_56 YX1_keepStep lX6_98 rfl ⟨_, rfl, rfl⟩ rfl (Nat.le_of_ble_eq_true rfl) (Nat.le_of_ble_eq_true rfl) rfl (k_X1_keepStep2 hR hp_13 (fun I_14 R_15 hq => ?_))
        have h := h I_14 R_15 hq
        have hRx_16 := hq.1
        refine go_aload_n dX6_judge_59 rfl ?_
        refine go_getR dX6_judge_60 fX6_27 rfl rfl (hRx_16 0 2 3 rfl) ?_
        refine go_iload_n dX6_judge_63 rfl ?_
        refine go_iload_n dX6_judge_64 rfl ?_
        refine go_callV0 (μ := mX6_judge) [.int _, .int _] dX6_judge_65 YX1_writeDent lX6_122 rfl ⟨_, rfl, rfl⟩ rfl (Nat.le_of_ble_eq_true rfl) (Nat.le_of_ble_eq_true rfl) rfl (k_X1_writeDent hRx_16 ?_)
        have h := h _ rfl
        refine go_iload_n dX6_judge_68 rfl ?_
        exact go_iret dX6_judge_69 rfl rfl h
    · have h := h.2 c
      refine go_iconst (v := -1) dX6_judge_22 (by decide) ?_
      exact go_iret dX6_judge_23 rfl rfl h
theorem e_X7_judge {G : gG} {I : gI} {R : gR} {L : gL} {Q : gQ} {a : Int32} (hR : g_Fx R) (h : (¬ (a = 0 ∨ a = 1) → Q (some (.int (-1))) SH I R L) ∧ (a = 0 ∨ a = 1 → (¬ (I 311 373) = 30 → ∀ I_1 : gI, I_1 = layI I → vp_in a 2 ∧ (okN I_1 ∧ ((okD (dyM I_1)) ∧ ((0 ≤ (I_1 311 373).toInt ∧ (I_1 311 373).toInt ≤ 30) ∧ (∀ I_6 : gI, ∀ L_7 : gL, ((∀ a, a ≠ 331 → I_6 a = I_1 a) ∧ ∀ a, a ≠ 332 → L_7 a = L a) → (¬ (gui (thM I_1) (dyM I_1) a.toInt (I_1 311 373).toInt = true) → (0 ≤ (I_6 311 3).toInt ∧ (I_6 311 3).toInt ≤ 30) ∧ (∀ I_9 : gI, I_9 = sa I_6 311 (kstF (I_6 311)) → ∀ v3_10 : Int32, v3_10 = (374 + (3 * (I_9 311 373))) → vp_in v3_10 11120 ∧ (∀ I_11 : gI, I_11 = up I_9 311 v3_10.toNatClampNeg a → vp_in (v3_10 + 1) 11120 ∧ (∀ I_12 : gI, I_12 = up I_11 311 (v3_10 + 1).toNatClampNeg (I_11 333 0 + I_11 333 1 - I_11 333 2 - I_11 333 3) → vp_in (v3_10 + 2) 11120 ∧ (∀ I_13 : gI, I_13 = up I_12 311 (v3_10 + 2).toNatClampNeg 0 → ∀ I_14 : gI, I_14 = up I_13 311 373 ((I_13 311 373) + 1) → Q (some (.int 0)) SH I_14 R L_7))))) ∧ (gui (thM I_1) (dyM I_1) a.toInt (I_1 311 373).toInt = true → (0 ≤ (I_6 311 3).toInt ∧ (I_6 311 3).toInt ≤ 30) ∧ (∀ I_16 : gI, I_16 = sa I_6 311 (kstF (I_6 311)) → ∀ v3_17 : Int32, v3_17 = (374 + (3 * (I_16 311 373))) → vp_in v3_17 11120 ∧ (∀ I_18 : gI, I_18 = up I_16 311 v3_17.toNatClampNeg a → vp_in (v3_17 + 1) 11120 ∧ (∀ I_19 : gI, I_19 = up I_18 311 (v3_17 + 1).toNatClampNeg (I_18 333 0 + I_18 333 1 - I_18 333 2 - I_18 333 3) → vp_in (v3_17 + 2) 11120 ∧ (∀ I_20 : gI, I_20 = up I_19 311 (v3_17 + 2).toNatClampNeg 1 → ∀ I_21 : gI, I_21 = up I_20 311 373 ((I_20 311 373) + 1) → Q (some (.int 1)) SH I_21 R L_7)))))))))) ∧ ((I 311 373) = 30 → Q (some (.int (-1))) SH I R L))) : Mt G mX7_judge 30 0 0 [.ref 310, .int a] SH I R L Q := by
  refine go_start rfl (Nat.le_of_ble_eq_true rfl) rfl ?_
  refine go_iload_n dX7_judge_0 rfl ?_
  refine go_callS0 (μ := mX7_judge) [.int _] dX7_judge_1 YX7_isOne lX7_114 rfl (Nat.le_of_ble_eq_true rfl) (Nat.le_of_ble_eq_true rfl) rfl (k_X7_isOne hR ?_)
  refine go_if_eq 20 dX7_judge_4 (by decide) (fun c => ?_) (fun c => ?_)
  · have h := h.1 (b0.mp c)
    refine go_iconst (v := -1) dX7_judge_20 (by decide) ?_
    exact go_iret dX7_judge_21 rfl rfl h
  · have h := h.2 (b1.mp c)
    refine go_aload_n dX7_judge_7 rfl ?_
    refine go_getR dX7_judge_8 fX7_7 rfl rfl (hR 310 0 311 rfl) ?_
    refine go_sipush (v := 373) dX7_judge_11 (by decide) ?_
    refine go_ialdK dX7_judge_14 rfl (vp_in_nI (n := 373) (by decide) (by decide)) (k := 373) (by decide) ?_
    refine go_bipush (v := 30) dX7_judge_15 (by decide) ?_
    refine go_icmp_ne 22 dX7_judge_17 (by decide) (fun c => ?_) (fun c => ?_)
    · have h := h.1 c
      refine go_aload_n dX7_judge_22 rfl ?_
      refine go_callV0 (μ := mX7_judge) [] dX7_judge_23 YX7_laysWorld lX7_349 rfl ⟨_, rfl, rfl⟩ rfl (Nat.le_of_ble_eq_true rfl) (Nat.le_of_ble_eq_true rfl) rfl (k_X7_laysWorld hR ?_)
      have h := h _ rfl
      refine go_aload_n dX7_judge_26 rfl ?_
      refine go_iload_n dX7_judge_27 rfl ?_
      obtain ⟨hp_2, h⟩ := h
      obtain ⟨hp_3, h⟩ := h
      obtain ⟨hp_4, h⟩ := h
      obtain ⟨hp_5, h⟩ := h
      refine go_callV0 (μ := mX7_judge) [.int _] dX7_judge_28 YX7_isGuilty lX7_352 rfl ⟨_, rfl, rfl⟩ rfl (Nat.le_of_ble_eq_true rfl) (Nat.le_of_ble_eq_true rfl) rfl (k_X7_isGuilty hR hp_2 hp_3 hp_4 hp_5 (fun I_6 L_7 hq => ?_))
      have h := h I_6 L_7 hq
      refine go_if_eq 38 dX7_judge_31 (by decide) (fun c => ?_) (fun c => ?_)
      · have h := h.1 (b0.mp c)
        refine go_iconst (v := 0) dX7_judge_38 (by decide) ?_
        refine go_istore_n dX7_judge_39 (Nat.le_of_ble_eq_true rfl) rfl ?_
        refine go_aload_n dX7_judge_40 rfl ?_
        obtain ⟨hp_8, h⟩ := h
        refine go_callV0 (μ := mX7_judge) [] dX7_judge_41 YX7_keepsStep lX7_346 rfl ⟨_, rfl, rfl⟩ rfl (Nat.le_of_ble_eq_true rfl) (Nat.le_of_ble_eq_true rfl) rfl (k_X7_keepsStep hR hp_8 ?_)
        have h := h _ rfl
        refine go_sipush (v := 374) dX7_judge_44 (by decide) ?_
        refine go_iconst (v := 3) dX7_judge_47 (by decide) ?_
        refine go_aload_n dX7_judge_48 rfl ?_
        refine go_getR dX7_judge_49 fX7_7 rfl rfl (hR 310 0 311 rfl) ?_
        refine go_sipush (v := 373) dX7_judge_52 (by decide) ?_
        refine go_ialdK dX7_judge_55 rfl (vp_in_nI (n := 373) (by decide) (by decide)) (k := 373) (by decide) ?_
        refine go_imul dX7_judge_56 ?_
        refine go_iadd dX7_judge_57 ?_
        refine go_istore_n dX7_judge_58 (Nat.le_of_ble_eq_true rfl) rfl ?_
        have h := h _ rfl
        refine go_aload_n dX7_judge_59 rfl ?_
        refine go_getR dX7_judge_60 fX7_7 rfl rfl (hR 310 0 311 rfl) ?_
        refine go_iload_n dX7_judge_63 rfl ?_
        refine go_iload_n dX7_judge_64 rfl ?_
        obtain ⟨hi, h⟩ := h
        refine go_iast dX7_judge_65 rfl hi ?_
        have h := h _ rfl
        refine go_aload_n dX7_judge_66 rfl ?_
        refine go_getR dX7_judge_67 fX7_7 rfl rfl (hR 310 0 311 rfl) ?_
        refine go_iload_n dX7_judge_70 rfl ?_
        refine go_iconst (v := 1) dX7_judge_71 (by decide) ?_
        refine go_iadd dX7_judge_72 ?_
        refine go_aload_n dX7_judge_73 rfl ?_
        refine go_callV0 (μ := mX7_judge) [] dX7_judge_74 YX7_tilt lX7_340 rfl ⟨_, rfl, rfl⟩ rfl (Nat.le_of_ble_eq_true rfl) (Nat.le_of_ble_eq_true rfl) rfl (k_X7_tilt hR ?_)
        obtain ⟨hi, h⟩ := h
        refine go_iast dX7_judge_77 rfl hi ?_
        have h := h _ rfl
        refine go_aload_n dX7_judge_78 rfl ?_
        refine go_getR dX7_judge_79 fX7_7 rfl rfl (hR 310 0 311 rfl) ?_
        refine go_iload_n dX7_judge_82 rfl ?_
        refine go_iconst (v := 2) dX7_judge_83 (by decide) ?_
        refine go_iadd dX7_judge_84 ?_
        refine go_iload_n dX7_judge_85 rfl ?_
        obtain ⟨hi, h⟩ := h
        refine go_iast dX7_judge_86 rfl hi ?_
        have h := h _ rfl
        refine go_aload_n dX7_judge_87 rfl ?_
        refine go_getR dX7_judge_88 fX7_7 rfl rfl (hR 310 0 311 rfl) ?_
        refine go_sipush (v := 373) dX7_judge_91 (by decide) ?_
        refine go_dup2 dX7_judge_94 rfl rfl ?_
        refine go_ialdK dX7_judge_95 rfl (vp_in_nI (n := 373) (by decide) (by decide)) (k := 373) (by decide) ?_
        refine go_iconst (v := 1) dX7_judge_96 (by decide) ?_
        refine go_iadd dX7_judge_97 ?_
        refine go_iastK dX7_judge_98 rfl (vp_in_nI (n := 373) (by decide) (by decide)) (k := 373) (by decide) ?_
        have h := h _ rfl
        refine go_iload_n dX7_judge_99 rfl ?_
        exact go_iret dX7_judge_100 rfl rfl h
      · have h := h.2 (b1.mp c)
        refine go_iconst (v := 1) dX7_judge_34 (by decide) ?_
        refine go_goto 39 dX7_judge_35 (by decide) ?_
        refine go_istore_n dX7_judge_39 (Nat.le_of_ble_eq_true rfl) rfl ?_
        refine go_aload_n dX7_judge_40 rfl ?_
        obtain ⟨hp_15, h⟩ := h
        refine go_callV0 (μ := mX7_judge) [] dX7_judge_41 YX7_keepsStep lX7_346 rfl ⟨_, rfl, rfl⟩ rfl (Nat.le_of_ble_eq_true rfl) (Nat.le_of_ble_eq_true rfl) rfl (k_X7_keepsStep hR hp_15 ?_)
        have h := h _ rfl
        refine go_sipush (v := 374) dX7_judge_44 (by decide) ?_
        refine go_iconst (v := 3) dX7_judge_47 (by decide) ?_
        refine go_aload_n dX7_judge_48 rfl ?_
        refine go_getR dX7_judge_49 fX7_7 rfl rfl (hR 310 0 311 rfl) ?_
        refine go_sipush (v := 373) dX7_judge_52 (by decide) ?_
        refine go_ialdK dX7_judge_55 rfl (vp_in_nI (n := 373) (by decide) (by decide)) (k := 373) (by decide) ?_
        refine go_imul dX7_judge_56 ?_
        refine go_iadd dX7_judge_57 ?_
        refine go_istore_n dX7_judge_58 (Nat.le_of_ble_eq_true rfl) rfl ?_
        have h := h _ rfl
        refine go_aload_n dX7_judge_59 rfl ?_
        refine go_getR dX7_judge_60 fX7_7 rfl rfl (hR 310 0 311 rfl) ?_
        refine go_iload_n dX7_judge_63 rfl ?_
        refine go_iload_n dX7_judge_64 rfl ?_
        obtain ⟨hi, h⟩ := h
        refine go_iast dX7_judge_65 rfl hi ?_
        have h := h _ rfl
        refine go_aload_n dX7_judge_66 rfl ?_
        refine go_getR dX7_judge_67 fX7_7 rfl rfl (hR 310 0 311 rfl) ?_
        refine go_iload_n dX7_judge_70 rfl ?_
        refine go_iconst (v := 1) dX7_judge_71 (by decide) ?_
        refine go_iadd dX7_judge_72 ?_
        refine go_aload_n dX7_judge_73 rfl ?_
        refine go_callV0 (μ := mX7_judge) [] dX7_judge_74 YX7_tilt lX7_340 rfl ⟨_, rfl, rfl⟩ rfl (Nat.le_of_ble_eq_true rfl) (Nat.le_of_ble_eq_true rfl) rfl (k_X7_tilt hR ?_)
        obtain ⟨hi, h⟩ := h
        refine go_iast dX7_judge_77 rfl hi ?_
        have h := h _ rfl
        refine go_aload_n dX7_judge_78 rfl ?_
        refine go_getR dX7_judge_79 fX7_7 rfl rfl (hR 310 0 311 rfl) ?_
        refine go_iload_n dX7_judge_82 rfl ?_
        refine go_iconst (v := 2) dX7_judge_83 (by decide) ?_
        refine go_iadd dX7_judge_84 ?_
        refine go_iload_n dX7_judge_85 rfl ?_
        obtain ⟨hi, h⟩ := h
        refine go_iast dX7_judge_86 rfl hi ?_
        have h := h _ rfl
        refine go_aload_n dX7_judge_87 rfl ?_
        refine go_getR dX7_judge_88 fX7_7 rfl rfl (hR 310 0 311 rfl) ?_
        refine go_sipush (v := 373) dX7_judge_91 (by decide) ?_
        refine go_dup2 dX7_judge_94 rfl rfl ?_
        refine go_ialdK dX7_judge_95 rfl (vp_in_nI (n := 373) (by decide) (by decide)) (k := 373) (by decide) ?_
        refine go_iconst (v := 1) dX7_judge_96 (by decide) ?_
        refine go_iadd dX7_judge_97 ?_
        refine go_iastK dX7_judge_98 rfl (vp_in_nI (n := 373) (by decide) (by decide)) (k := 373) (by decide) ?_
        have h := h _ rfl
        refine go_iload_n dX7_judge_99 rfl ?_
        exact go_iret dX7_judge_100 rfl rfl h
    · have h := h.2 c
      refine go_iconst (v := -1) dX7_judge_20 (by decide) ?_
      exact go_iret dX7_judge_21 rfl rfl h
/-! a verdict -/
def jdA (f : Nat → Int32) (a : Int32) : Prop := (a = 0 ∨ a = 1) ∧ (f 373).toInt < 30
def jdV (θ : thy) (f : Nat → Int32) (a : Int32) : Int32 := if gui θ (dyF f) a.toInt (f 373).toInt = true then 1 else 0
def jdF (f : Nat → Int32) (a v : Int32) : Nat → Int32 := fun k =>
  if k = 373 then kstF f 373 + 1 else if k = 374 + (3 * (f 373).toNatClampNeg + 2) then v else if k = 374 + (3 * (f 373).toNatClampNeg + 1) then f 110 + f 111 - f 112 - f 113 else if k = 374 + 3 * (f 373).toNatClampNeg then a else kstF f k
theorem jdF_row {f : Nat → Int32} {a v : Int32} {n : Nat} (o : okf f) (hn : n < 30) (en : f 373 = nI n) :
    (∀ m, row (jdF f a v) 110 m = if m = 263 then nI (n + 1) else if m = 264 + (3 * n + 2) then v else if m = 264 + (3 * n + 1) then f 110 + f 111 - f 112 - f 113 else if m = 264 + 3 * n then a else row (kstF f) 110 m) ∧ (∀ k, k < 110 → jdF f a v k = kstF f k) ∧ ∀ k, 470 ≤ k → jdF f a v k = kstF f k := by
  have cn : (f 373).toNatClampNeg = n := by rw [en, nI_clamp (by omega)]
  have e373 : kstF f 373 + 1 = nI (n + 1) := by rw [kst_k o 373 (by decide) (by decide), en, nI_1]
  refine ⟨fun m => ?_, fun k hk => ?_, fun k hk => ?_⟩
  · show jdF f a v (110 + m) = _
    unfold jdF
    rw [cn, e373]
    by_cases h1 : m = 263
    · rw [if_pos (by omega), if_pos h1]
    rw [if_neg (by omega), if_neg h1]
    by_cases h2 : m = 264 + (3 * n + 2)
    · rw [if_pos (by omega), if_pos h2]
    rw [if_neg (by omega), if_neg h2]
    by_cases h3 : m = 264 + (3 * n + 1)
    · rw [if_pos (by omega), if_pos h3]
    rw [if_neg (by omega), if_neg h3]
    by_cases h4 : m = 264 + 3 * n
    · rw [if_pos (by omega), if_pos h4]
    rw [if_neg (by omega), if_neg h4]; rfl
  · unfold jdF
    rw [cn, if_neg (by omega), if_neg (by omega), if_neg (by omega), if_neg (by omega)]
  · unfold jdF
    rw [cn, if_neg (by omega), if_neg (by omega), if_neg (by omega), if_neg (by omega)]
theorem jd_n {f : Nat → Int32} {a : Int32} (o : okf f) (h : jdA f a) : ∃ n, n < 30 ∧ f 373 = nI n := by
  have c := ci o.2.1.2.2.2.2.1.1
  have e : row f 110 263 = f 373 := rfl
  rw [e] at c
  have := h.2
  refine ⟨(f 373).toNatClampNeg, by omega, nI_of_toInt o.2.1.2.2.2.2.1.1⟩
theorem jd_ok {f : Nat → Int32} {a v : Int32} (o : okf f) (h : jdA f a) : okf (jdF f a v) ∧ ∀ k, k < 110 → k ≠ 3 → jdF f a v k = f k := by
  obtain ⟨n, hn, en⟩ := jd_n o h
  obtain ⟨er, elo, ehi⟩ := jdF_row (a := a) (v := v) o hn en
  have ok := okf_kst o
  have kk := kst_k o
  have off : ∀ m, (m < 263 ∨ 354 ≤ m) → row (jdF f a v) 110 m = row (kstF f) 110 m := fun m h1 => by
    rw [er, if_neg (by omega), if_neg (by omega), if_neg (by omega), if_neg (by omega)]
  have e263 : row (jdF f a v) 110 263 = nI (n + 1) := by rw [er, if_pos rfl]
  have k263 : row (kstF f) 110 263 = nI n := by show kstF f 373 = _; rw [kk _ (by decide) (by decide), en]
  have t263 : (nI (n + 1)).toInt = n + 1 := by rw [nI_toInt (by omega)]; omega
  have t263' : (nI n).toInt = n := nI_toInt (by omega)
  refine ⟨?_, fun k hk h3 => by rw [elo k hk, kk k (by omega) h3]⟩
  obtain ⟨o1, o2, o3, o4, o5, o6, o7⟩ := ok.2.1
  refine okf_now ok elo ehi ?_ (by rw [off 22 (by omega)]; omega) (by rw [e263, k263, t263, t263']; omega)
  unfold okr
  rw [e263, t263, off 22 (by omega), off 354 (by omega)]
  refine ⟨fun m hm => by rw [off _ (by omega)]; exact o1 m hm, fun m hm => by rw [off _ (by omega)]; exact o2 m hm, fun m hm => by rw [off _ (by omega)]; exact o3 m hm, o4, ⟨by omega, by omega⟩, o6, fun m h1 hm => by rw [off _ (by omega), off _ (by omega)]; rw [kk 0 (by decide) (by decide)] at o7; exact o7 m (by rw [kk 0 (by decide) (by decide)] at h1; exact h1) hm⟩
theorem c_judge {G : gG} {I : gI} {R : gR} {L : gL} {Q : gQ} {a : Int32} {θ : thy} {f : Nat → Int32} (hF : g_Fx R) (h : CI I R θ f) (hq0 : ¬ jdA f a → Q (some (.int (-1))) SH I R L) (hq1 : ∀ I1 R1, jdA f a → stepC I I1 R1 θ f (jdF f a (jdV θ f a)) → Q (some (.int (jdV θ f a))) SH I1 R1 L) : Mt G mX6_judge 30 0 0 [.ref 0, .int a] SH I R L Q := by
  obtain ⟨hD, oD, hθ⟩ := CI_dy h
  obtain ⟨o, s, k, e⟩ := id h
  obtain ⟨π, g2, g3⟩ := id s
  have s4 : I 4 4 = f 373 := g3.2.1.2.2.2.2.1
  have z30 : (30 : Int32).toInt = 30 := rfl
  have o5 : 0 ≤ (f 373).toInt ∧ (f 373).toInt ≤ 30 := o.2.1.2.2.2.2.1
  refine e_X6_judge hF ?_
  rw [s4]
  refine ⟨fun d1 => hq0 (fun q => d1 q.1), fun d1 => ⟨fun d2 => ?_, fun d2 => hq0 (fun q => d2 (ti_lt.mpr (by rw [z30]; exact q.2)))⟩⟩
  rw [ti_lt, z30] at d2
  have hA : jdA f a := ⟨d1, d2⟩
  have hat : 0 ≤ a.toInt ∧ a.toInt ≤ 1 := by rcases d1 with rfl | rfl <;> decide
  have hg : gui (thC I) (dyC I 4) a.toInt (f 373).toInt = gui θ (dyF f) a.toInt (f 373).toInt := gui_eq e hD k.1 hat.1 hat.2
  obtain ⟨n, hn, en⟩ := jd_n o hA
  have key : ∀ (v : Int32) (hv : v = jdV θ f a) (I5 : gI) (hx : ∀ a, a ≠ 164 → a ≠ 165 → I5 a = I a), ∀ I_6 : gI, I_6 = up I5 0 9 (-1) → (∃ f, okf f ∧ stp I_6 R f) ∧ (∀ I_8 : gI, ∀ R_9 : gR, (g_Fx R_9 ∧ (∀ f, okf f → stp I_6 R f → stp I_8 R_9 (kstF f)) ∧ (∀ a, a ≠ 3 → (a < 9 ∨ 128 < a) → I_8 a = I_6 a) ∧ ∀ j, j ≠ 2 → I_8 3 j = I_6 3 j) → ∀ I_11 : gI, I_11 = wDe I_8 a v → Q (some (.int v)) SH I_11 R_9 L) := by
    rintro v hv I5 hx _ rfl
    have s' : stp (up I5 0 9 (-1)) R f := stp_off s o (fun x h1 h2 => by rw [up_off _ (by omega), hx x (by omega) (by omega)])
    refine ⟨⟨f, o, s'⟩, ?_⟩
    rintro I9 R10 ⟨k1, k2, k3, k4⟩ _ rfl
    obtain ⟨er, elo, ehi⟩ := jdF_row (a := a) (v := v) o hn en
    have ok := okf_kst o
    have kk := kst_k o
    have e9 : ∀ x, x ≠ 3 → x ≠ 0 → (x < 9 ∨ 128 < x) → x ≠ 164 → x ≠ 165 → I9 x = I x := fun x h1 h2 h3 h4 h5 => by rw [k3 x h1 h3, up_off _ h2, hx x h4 h5]
    have e44 : I9 4 4 = nI n := by rw [e9 4 (by decide) (by decide) (by decide) (by decide) (by decide), s4, en]
    have e5 : ∀ m, m < 4 → I9 5 m = f (110 + m) := fun m hm => by
      rw [e9 5 (by decide) (by decide) (by decide) (by decide) (by decide)]
      exact g3.2.1.1 m hm
    have i0 : 3 * nI n = nI (3 * n) := by rw [show (3 : Int32) = nI 3 from rfl]; exact (Int32.ofNat_mul 3 n).symm
    have i1 : nI (3 * n) + 1 = nI (3 * n + 1) := nI_add _ 1
    have i2 : nI (3 * n) + 2 = nI (3 * n + 2) := nI_add _ 2
    have eW : wDe I9 a v = up (up (up (up I9 133 (3 * n) a) 133 (3 * n + 1) (f 110 + f 111 - f 112 - f 113)) 133 (3 * n + 2) v) 4 4 (nI (n + 1)) := by
      unfold wDe
      simp only [e44]
      rw [if_neg (nI_pos (by omega)), if_neg (show ¬ (30 : Int32) ≤ nI n from nI_ge (b := 30) hn (by decide)), i0, i1, i2, nI_clamp (by omega), nI_clamp (by omega), nI_clamp (by omega), nI_1]
      simp only [up_nc (show (5 : Nat) ≠ 133 by decide)]
      rw [e5 0 (by decide), e5 1 (by decide), e5 2 (by decide), e5 3 (by decide)]
    rw [eW]
    generalize hJd : up (up (up (up I9 133 (3 * n) a) 133 (3 * n + 1) (f 110 + f 111 - f 112 - f 113)) 133 (3 * n + 2) v) 4 4 (nI (n + 1)) = J
    have j0 : ∀ x, x ≠ 133 → x ≠ 4 → J x = I9 x := fun x h1 h2 => by rw [← hJd, up_off _ h2, up_off _ h1, up_off _ h1, up_off _ h1]
    have j4 : ∀ m, J 4 m = if m = 4 then nI (n + 1) else I9 4 m := fun m => by rw [← hJd]; simp only [up]; simp
    have j133 : ∀ m, J 133 m = if m = 3 * n + 2 then v else if m = 3 * n + 1 then f 110 + f 111 - f 112 - f 113 else if m = 3 * n then a else I9 133 m := fun m => by rw [← hJd]; simp only [up]; simp
    have hxx : ∀ x, x ≠ 0 → x ≠ 3 → x ≠ 4 → x ≠ 133 → (x < 9 ∨ 128 < x) → x ≠ 164 → x ≠ 165 → J x = I x := fun x h0 h1 h2 h5 h6 h7 h8 => by rw [j0 x h5 h2, e9 x h1 h0 h6 h7 h8]
    have hJ0 : J 0 = up I5 0 9 (-1) 0 := by rw [j0 0 (by decide) (by decide), k3 0 (by decide) (by decide)]
    have e10 : J 3 10 = I 3 10 := by rw [j0 3 (by decide) (by decide), k4 10 (by decide), up_nc (by decide), hx 3 (by decide) (by decide)]
    rw [hv]
    refine hq1 _ R10 hA ⟨k1, ⟨(jd_ok o hA).1, ?_, okI_of e10 (fun x hx' => hxx x (by omega) (by omega) (by omega) (by omega) (by omega) (by omega) (by omega)) k, by rw [thC_of2 e10 (fun x hx' => hxx x (by omega) (by omega) (by omega) (by omega) (by omega) (by omega) (by omega))]; exact e⟩, ⟨fun x h1 h2 h3 => hxx x (by omega) (by omega) (by omega) (by omega) (by omega) h2 h3, fun m hm => by rw [hJ0, up_ni hm, hx 0 (by decide) (by decide)], hxx 1 (by decide) (by decide) (by decide) (by decide) (by decide) (by decide) (by decide)⟩, Or.inl (by rw [hJ0, up_eq])⟩
    rw [← hv]
    have sk := k2 f o s'
    have k263 : row (kstF f) 110 263 = nI n := by show kstF f 373 = _; rw [kk _ (by decide) (by decide), en]
    have w5 := ci ok.2.1.2.2.2.1.1
    have w5' := ok.2.1.2.2.2.1.2
    refine stp_now sk ok elo ehi (j0 _ (by decide) (by decide)) (j0 _ (by decide) (by decide)) (j0 _ (by decide) (by decide)) (j0 _ (by decide) (by decide)) (j0 _ (by decide) (by decide)) (fun x h1 h2 => j0 _ (by omega) (by omega)) (fun _ _ => by rw [j0 132 (by decide) (by decide)]) (fun m hm => ?_) ?_
    · rw [k263, nI_clamp (by omega)] at hm
      rw [j133, if_neg (by omega), if_neg (by omega), if_neg (by omega)]
    rintro ⟨q1, q2, q3, q4, q5, q6, q7, q8⟩
    rw [k263, nI_clamp (by omega)] at q8
    have off : ∀ m, (m < 263 ∨ 354 ≤ m) → row (jdF f a v) 110 m = row (kstF f) 110 m := fun m h1 => by
      rw [er, if_neg (by omega), if_neg (by omega), if_neg (by omega), if_neg (by omega)]
    have e263 : row (jdF f a v) 110 263 = nI (n + 1) := by rw [er, if_pos rfl]
    unfold scR
    rw [e263, off 22 (by omega), off 354 (by omega), nI_clamp (by omega), j0 132 (by decide) (by decide), j0 (4 + 1) (by decide) (by decide), j0 (4 + 2) (by decide) (by decide), j0 (4 + 3) (by decide) (by decide)]
    refine ⟨fun m hm => by rw [off _ (by omega)]; exact q1 m hm, fun m hm => by rw [off _ (by omega)]; exact q2 m hm, fun m hm => by rw [off _ (by omega)]; exact q3 m hm, by rw [j4, if_neg (by decide)]; exact q4, by rw [j4, if_pos rfl], by rw [j4, if_neg (by decide)]; exact q6, fun m hm => by rw [off _ (by omega)]; exact q7 m hm, fun m hm => ?_⟩
    rw [j133, er, if_neg (show ¬ 264 + m = 263 by omega)]
    simp only [Nat.add_left_cancel_iff]
    by_cases h3 : m = 3 * n + 2
    · simp only [if_pos h3]
    simp only [if_neg h3]
    by_cases h2 : m = 3 * n + 1
    · simp only [if_pos h2]
    simp only [if_neg h2]
    by_cases h1 : m = 3 * n
    · simp only [if_pos h1]
    simp only [if_neg h1]
    exact q8 m (by omega)
  refine ⟨vi2.mpr (by grind), k, oD, o5, ?_⟩
  intro I5 hx
  rw [hg]
  refine ⟨fun d3 => key 0 (by unfold jdV; rw [if_neg d3]) I5 hx, fun d3 => key 1 (by unfold jdV; rw [if_pos d3]) I5 hx⟩
theorem m_judge {G : gG} {I : gI} {R : gR} {L : gL} {Q : gQ} {a : Int32} {θ : thy} (hF : g_Fx R) (h : MI I θ) (hq0 : ¬ jdA (I 311) a → Q (some (.int (-1))) SH I R L) (hq1 : ∀ I1 L1, jdA (I 311) a → stepM I I1 θ (jdF (I 311) a (jdV θ (I 311) a)) → Q (some (.int (jdV θ (I 311) a))) SH I1 R L1) : Mt G mX7_judge 30 0 0 [.ref 310, .int a] SH I R L Q := by
  obtain ⟨lN, lD, hθ, lT, lE⟩ := MI_lay h
  have o := h.1
  have z30 : (30 : Int32).toInt = 30 := rfl
  have o30 : 0 ≤ (I 311 373).toInt ∧ (I 311 373).toInt ≤ 30 := o.2.1.2.2.2.2.1
  refine e_X7_judge hF ⟨fun d1 => hq0 (fun q => d1 q.1), fun d1 => ⟨fun d3 => ?_, fun d3 => hq0 (fun q => by have := q.2; rw [d3, z30] at this; omega)⟩⟩
  rintro _ rfl
  have d3' : (I 311 373).toInt < 30 := by
    have h2 : ¬ (I 311 373).toInt = 30 := fun q => d3 (ti_eq.mpr (by rw [z30]; exact q))
    omega
  have hA : jdA (I 311) a := ⟨d1, d3'⟩
  have hat : 0 ≤ a.toInt ∧ a.toInt ≤ 1 := by rcases d1 with rfl | rfl <;> decide
  have l311 : layI I 311 = I 311 := layI_off (by decide) (by decide) (by decide)
  rw [l311]
  have hg : gui (thM (layI I)) (dyM (layI I)) a.toInt (I 311 373).toInt = gui θ (dyF (I 311)) a.toInt (I 311 373).toInt := gui_eq lT lE lN.1 hat.1 hat.2
  obtain ⟨n, hn, en⟩ := jd_n o hA
  refine ⟨vi2.mpr (by grind), lN, lD, o30, ?_⟩
  rintro I7 L8 ⟨hx, -⟩
  rw [hg]
  have f7 : frM I I7 := frM_tr (frM_lay I) ⟨fun x h1 h2 h3 h4 h5 => hx x h3, fun m hm => by rw [hx 310 (by decide)]⟩
  have e7 : I7 311 = I 311 := by rw [hx 311 (by decide), l311]
  have kk := kst_k o
  have p7 : ∀ m, m < 4 → I7 333 m = I 311 (110 + m) := fun m hm => by
    rw [hx 333 (by decide)]
    unfold layI
    rw [up_nc (by decide), cpy_off (by decide), cpy_at, if_pos (by omega)]; rfl
  rw [e7]
  have key : ∀ (v : Int32) (hv : v = jdV θ (I 311) a), ∀ I_9 : gI, I_9 = sa I7 311 (kstF (I 311)) → ∀ v3_10 : Int32, v3_10 = (374 + (3 * (I_9 311 373))) → vp_in v3_10 11120 ∧ (∀ I_11 : gI, I_11 = up I_9 311 v3_10.toNatClampNeg a → vp_in (v3_10 + 1) 11120 ∧ (∀ I_12 : gI, I_12 = up I_11 311 (v3_10 + 1).toNatClampNeg (I_11 333 0 + I_11 333 1 - I_11 333 2 - I_11 333 3) → vp_in (v3_10 + 2) 11120 ∧ (∀ I_13 : gI, I_13 = up I_12 311 (v3_10 + 2).toNatClampNeg v → ∀ I_14 : gI, I_14 = up I_13 311 373 ((I_13 311 373) + 1) → Q (some (.int v)) SH I_14 R L8))) := by
    rintro v hv _ rfl _ rfl
    have a4 : (374 : Int32) + 3 * (sa I7 311 (kstF (I 311)) 311 373) = nI (374 + 3 * n) := by
      rw [sa_eq, kk 373 (by decide) (by decide), en, show (3 : Int32) * nI n = nI (3 * n) from by rw [show (3 : Int32) = nI 3 from rfl]; exact (Int32.ofNat_mul 3 n).symm]
      exact nI_add 374 (3 * n)
    rw [a4, show nI (374 + 3 * n) + 1 = nI (374 + (3 * n + 1)) from nI_add _ 1, show nI (374 + 3 * n) + 2 = nI (374 + (3 * n + 2)) from nI_add _ 2, nI_clamp (by omega), nI_clamp (by omega), nI_clamp (by omega)]
    refine ⟨vp_in_nI (by omega) (by decide), ?_⟩
    rintro _ rfl
    refine ⟨vp_in_nI (by omega) (by decide), ?_⟩
    rintro _ rfl
    refine ⟨vp_in_nI (by omega) (by decide), ?_⟩
    rintro _ rfl
    rintro _ rfl
    simp only [up_nc (show (333 : Nat) ≠ 311 by decide), sa_off (show (333 : Nat) ≠ 311 by decide)]
    rw [p7 0 (by decide), p7 1 (by decide), p7 2 (by decide), p7 3 (by decide)]
    simp only [up_sa, sa_eq, sa_sa]
    have sok := jd_ok (v := v) o hA
    have en' : (I 311 373).toNatClampNeg = n := by rw [en, nI_clamp (by omega)]
    rw [hv] at sok ⊢
    refine hq1 _ L8 hA (MI_keep h sok.1 ((sa_eq _ _ _).trans ?_) sok.2 (frM_tr f7 ⟨fun x x1 _ _ _ _ => sa_off x1, fun j _ => by rw [sa_off (by decide)]⟩))
    funext k
    unfold jdF
    rw [en']
    simp only [upd]
    by_cases h1 : k = 373
    · rw [if_pos h1, if_pos h1, if_neg (by omega), if_neg (by omega), if_neg (by omega)]
    rw [if_neg h1, if_neg h1]
  refine ⟨fun d3 => ⟨o.1.2.2.2.1, key 0 (by unfold jdV; rw [if_neg d3])⟩, fun d3 => ⟨o.1.2.2.2.1, key 1 (by unfold jdV; rw [if_pos d3])⟩⟩
