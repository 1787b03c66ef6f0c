theorem e_X6_sets {G : gG} {I : gI} {R : gR} {L : gL} {Q : gQ} {a b c d : Int32} (hR : g_Fx R) (h : (¬ (a = 0 ∨ a = 1) → Q (some (.int (-1))) SH I R L) ∧ (a = 0 ∨ a = 1 → (¬ (b = 0 ∨ b = 1) → Q (some (.int (-1))) SH I R L) ∧ (b = 0 ∨ b = 1 → (c < 0 → Q (some (.int (-1))) SH I R L) ∧ (¬ c < 0 → (999 < c → Q (some (.int (-1))) SH I R L) ∧ (¬ 999 < c → ((-1) ≤ d → Go G mX6_sets 30 0 0 39 [some (.ref 0), some (.int a), some (.int b), some (.int c), some (.int d), some (.int 0), some (.int 0)] [] SH I R L Q) ∧ (¬ (-1) ≤ d → Q (some (.int (-1))) SH I R L)))))) : Mt G mX6_sets 30 0 0 [.ref 0, .int a, .int b, .int c, .int d] SH I R L Q := by
  refine go_start rfl (Nat.le_of_ble_eq_true rfl) rfl ?_
  refine go_iload_n dX6_sets_0 rfl ?_
  refine go_callS0 (μ := mX6_sets) [.int _] dX6_sets_1 YX6_isSide lX6_58 rfl (Nat.le_of_ble_eq_true rfl) (Nat.le_of_ble_eq_true rfl) rfl (k_X6_isSide hR ?_)
  refine go_if_eq 31 dX6_sets_4 (by decide) (fun c => ?_) (fun c => ?_)
  · have h := h.1 (b0.mp c)
    refine go_iconst (v := -1) dX6_sets_31 (by decide) ?_
    exact go_iret dX6_sets_32 rfl rfl h
  · have h := h.2 (b1.mp c)
    refine go_iload_n dX6_sets_7 rfl ?_
    refine go_callS0 (μ := mX6_sets) [.int _] dX6_sets_8 YX6_isKind lX6_62 rfl (Nat.le_of_ble_eq_true rfl) (Nat.le_of_ble_eq_true rfl) rfl (k_X6_isKind hR ?_)
    refine go_if_eq 31 dX6_sets_11 (by decide) (fun c => ?_) (fun c => ?_)
    · have h := h.1 (b0.mp c)
      refine go_iconst (v := -1) dX6_sets_31 (by decide) ?_
      exact go_iret dX6_sets_32 rfl rfl h
    · have h := h.2 (b1.mp c)
      refine go_iload_n dX6_sets_14 rfl ?_
      refine go_if_lt 31 dX6_sets_15 (by decide) (fun c => ?_) (fun c => ?_)
      · have h := h.1 c
        refine go_iconst (v := -1) dX6_sets_31 (by decide) ?_
        exact go_iret dX6_sets_32 rfl rfl h
      · have h := h.2 c
        refine go_iload_n dX6_sets_18 rfl ?_
        refine go_sipush (v := 999) dX6_sets_19 (by decide) ?_
        refine go_icmp_gt 31 dX6_sets_22 (by decide) (fun c => ?_) (fun c => ?_)
        · have h := h.1 c
          refine go_iconst (v := -1) dX6_sets_31 (by decide) ?_
          exact go_iret dX6_sets_32 rfl rfl h
        · have h := h.2 c
          refine go_iload dX6_sets_25 rfl ?_
          refine go_iconst (v := -1) dX6_sets_27 (by decide) ?_
          refine go_icmp_ge 33 dX6_sets_28 (by decide) (fun c => ?_) (fun c => ?_)
          · have h := h.1 c
            refine go_iconst (v := 0) dX6_sets_33 (by decide) ?_
            refine go_istore dX6_sets_34 (Nat.le_of_ble_eq_true rfl) rfl ?_
            refine go_iconst (v := 0) dX6_sets_36 (by decide) ?_
            refine go_istore dX6_sets_37 (Nat.le_of_ble_eq_true rfl) rfl ?_
            exact h
          · have h := h.2 c
            refine go_iconst (v := -1) dX6_sets_31 (by decide) ?_
            exact go_iret dX6_sets_32 rfl rfl h
theorem b_X6_sets_39 {G : gG} {I : gI} {R : gR} {L : gL} {Q : gQ} {v1 v2 v3 v4 v5 v6 : Int32} (hR : g_Fx R) (h : ((1 <<< ((I 3 6) &&& 31)) ≤ v6 → (¬ v4 = (-1) → Q (some (.int (-1))) SH I R L) ∧ (v4 = (-1) → Q (some (.int v5)) SH I R L)) ∧ (¬ (1 <<< ((I 3 6) &&& 31)) ≤ v6 → (ljP I v6 ((2 * v1) + v2)) ∧ (∀ I_8 : gI, (∀ a, (a < 164 ∨ 169 < a) → I_8 a = I a) → (¬ (ljC I v6 ((2 * v1) + v2) v3 = true) → ∀ v6_9 : Int32, v6_9 = v6 + 1 → Go G mX6_sets 30 0 0 39 [some (.ref 0), some (.int v1), some (.int v2), some (.int v3), some (.int v4), some (.int v5), some (.int v6_9)] [] SH I_8 R L Q) ∧ (ljC I v6 ((2 * v1) + v2) v3 = true → (¬ v5 = v4 → ∀ v5_10 : Int32, v5_10 = v5 + 1 → ∀ v6_11 : Int32, v6_11 = v6 + 1 → Go G mX6_sets 30 0 0 39 [some (.ref 0), some (.int v1), some (.int v2), some (.int v3), some (.int v4), some (.int v5_10), some (.int v6_11)] [] SH I_8 R L Q) ∧ (v5 = v4 → Q (some (.int v6)) SH I_8 R L))))) : Go G mX6_sets 30 0 0 39 [some (.ref 0), some (.int v1), some (.int v2), some (.int v3), some (.int v4), some (.int v5), some (.int v6)] [] SH I R L Q := by
  refine go_iload dX6_sets_39 rfl ?_
  refine go_iconst (v := 1) dX6_sets_41 (by decide) ?_
  refine go_aload_n dX6_sets_42 rfl ?_
  refine go_getR dX6_sets_43 fX6_27 rfl rfl (hR 0 2 3 rfl) ?_
  refine go_getI dX6_sets_46 fX6_77 rfl rfl ?_
  refine go_ishl dX6_sets_49 ?_
  refine go_icmp_ge 90 dX6_sets_50 (by decide) (fun c => ?_) (fun c => ?_)
  · have h := h.1 c
    refine go_iload dX6_sets_90 rfl ?_
    refine go_iconst (v := -1) dX6_sets_92 (by decide) ?_
    refine go_icmp_ne 101 dX6_sets_93 (by decide) (fun c => ?_) (fun c => ?_)
    · have h := h.1 c
      refine go_iconst (v := -1) dX6_sets_101 (by decide) ?_
      exact go_iret dX6_sets_102 rfl rfl h
    · have h := h.2 c
      refine go_iload dX6_sets_96 rfl ?_
      refine go_goto 102 dX6_sets_98 (by decide) ?_
      exact go_iret dX6_sets_102 rfl rfl h
  · have h := h.2 c
    refine go_aload_n dX6_sets_53 rfl ?_
    refine go_getR dX6_sets_54 fX6_10 rfl rfl (hR 0 0 1 rfl) ?_
    refine go_iload dX6_sets_57 rfl ?_
    refine go_iconst (v := 2) dX6_sets_59 (by decide) ?_
    refine go_iload_n dX6_sets_60 rfl ?_
    refine go_imul dX6_sets_61 ?_
    refine go_iload_n dX6_sets_62 rfl ?_
    refine go_iadd dX6_sets_63 ?_
    refine go_iload_n dX6_sets_64 rfl ?_
    obtain ⟨hp_7, h⟩ := h
    refine go_callV0 (μ := mX6_sets) [.int _, .int _, .int _] dX6_sets_65 YX5_leavesJust lX6_220 rfl ⟨_, rfl, rfl⟩ rfl (Nat.le_of_ble_eq_true rfl) (Nat.le_of_ble_eq_true rfl) rfl (k_X5_leavesJust hR hp_7 (fun I_8 hq => ?_))
    have h := h I_8 hq
    refine go_if_eq 84 dX6_sets_68 (by decide) (fun c => ?_) (fun c => ?_)
    · have h := h.1 (b0.mp c)
      refine go_iinc dX6_sets_84 rfl (Nat.le_of_ble_eq_true rfl) rfl ?_
      have h := h _ rfl
      refine go_goto 39 dX6_sets_87 (by decide) ?_
      exact h
    · have h := h.2 (b1.mp c)
      refine go_iload dX6_sets_71 rfl ?_
      refine go_iload dX6_sets_73 rfl ?_
      refine go_icmp_ne 81 dX6_sets_75 (by decide) (fun c => ?_) (fun c => ?_)
      · have h := h.1 c
        refine go_iinc dX6_sets_81 rfl (Nat.le_of_ble_eq_true rfl) rfl ?_
        have h := h _ rfl
        refine go_iinc dX6_sets_84 rfl (Nat.le_of_ble_eq_true rfl) rfl ?_
        have h := h _ rfl
        refine go_goto 39 dX6_sets_87 (by decide) ?_
        exact h
      · have h := h.2 c
        refine go_iload dX6_sets_78 rfl ?_
        exact go_iret dX6_sets_80 rfl rfl h
theorem e_X7_sets {G : gG} {I : gI} {R : gR} {L : gL} {Q : gQ} {a b c d : Int32} (hR : g_Fx R) (h : (¬ (a = 0 ∨ a = 1) → Q (some (.int (-1))) SH I R L) ∧ (a = 0 ∨ a = 1 → (¬ (b = 0 ∨ b = 1) → Q (some (.int (-1))) SH I R L) ∧ (b = 0 ∨ b = 1 → (¬ ((0 : Int32) ≤ c ∧ c ≤ (999 : Int32)) → Q (some (.int (-1))) SH I R L) ∧ ((0 : Int32) ≤ c ∧ c ≤ (999 : Int32) → ((-1) ≤ d → Go G mX7_sets 30 0 0 39 [some (.ref 310), some (.int a), some (.int b), some (.int c), some (.int d), some (.int 0), some (.int 0), none, none] [] SH I R L Q) ∧ (¬ (-1) ≤ d → Q (some (.int (-1))) SH I R L))))) : Mt G mX7_sets 30 0 0 [.ref 310, .int a, .int b, .int c, .int d] SH I R L Q := by
  refine go_start rfl (Nat.le_of_ble_eq_true rfl) rfl ?_
  refine go_iload_n dX7_sets_0 rfl ?_
  refine go_callS0 (μ := mX7_sets) [.int _] dX7_sets_1 YX7_isOne lX7_114 rfl (Nat.le_of_ble_eq_true rfl) (Nat.le_of_ble_eq_true rfl) rfl (k_X7_isOne hR ?_)
  refine go_if_eq 31 dX7_sets_4 (by decide) (fun c => ?_) (fun c => ?_)
  · have h := h.1 (b0.mp c)
    refine go_iconst (v := -1) dX7_sets_31 (by decide) ?_
    exact go_iret dX7_sets_32 rfl rfl h
  · have h := h.2 (b1.mp c)
    refine go_iload_n dX7_sets_7 rfl ?_
    refine go_callS0 (μ := mX7_sets) [.int _] dX7_sets_8 YX7_isOne lX7_114 rfl (Nat.le_of_ble_eq_true rfl) (Nat.le_of_ble_eq_true rfl) rfl (k_X7_isOne hR ?_)
    refine go_if_eq 31 dX7_sets_11 (by decide) (fun c => ?_) (fun c => ?_)
    · have h := h.1 (b0.mp c)
      refine go_iconst (v := -1) dX7_sets_31 (by decide) ?_
      exact go_iret dX7_sets_32 rfl rfl h
    · have h := h.2 (b1.mp c)
      refine go_iload_n dX7_sets_14 rfl ?_
      refine go_iconst (v := 0) dX7_sets_15 (by decide) ?_
      refine go_sipush (v := 999) dX7_sets_16 (by decide) ?_
      refine go_callS0 (μ := mX7_sets) [.int _, .int _, .int _] dX7_sets_19 YX7_in lX7_110 rfl (Nat.le_of_ble_eq_true rfl) (Nat.le_of_ble_eq_true rfl) rfl (k_X7_in hR ?_)
      refine go_if_eq 31 dX7_sets_22 (by decide) (fun c => ?_) (fun c => ?_)
      · have h := h.1 (b0.mp c)
        refine go_iconst (v := -1) dX7_sets_31 (by decide) ?_
        exact go_iret dX7_sets_32 rfl rfl h
      · have h := h.2 (b1.mp c)
        refine go_iload dX7_sets_25 rfl ?_
        refine go_iconst (v := -1) dX7_sets_27 (by decide) ?_
        refine go_icmp_ge 33 dX7_sets_28 (by decide) (fun c => ?_) (fun c => ?_)
        · have h := h.1 c
          refine go_iconst (v := 0) dX7_sets_33 (by decide) ?_
          refine go_istore dX7_sets_34 (Nat.le_of_ble_eq_true rfl) rfl ?_
          refine go_iconst (v := 0) dX7_sets_36 (by decide) ?_
          refine go_istore dX7_sets_37 (Nat.le_of_ble_eq_true rfl) rfl ?_
          exact h
        · have h := h.2 c
          refine go_iconst (v := -1) dX7_sets_31 (by decide) ?_
          exact go_iret dX7_sets_32 rfl rfl h
theorem b_X7_sets_39 {G : gG} {I : gI} {R : gR} {L : gL} {Q : gQ} {v1 v2 v3 v4 v5 v6 : Int32} (hR : g_Fx R) (h : ((1 <<< ((I 311 0) &&& 31)) ≤ v6 → (¬ v4 = (-1) → Q (some (.int (-1))) SH I R L) ∧ (v4 = (-1) → Q (some (.int v5)) SH I R L)) ∧ (¬ (1 <<< ((I 311 0) &&& 31)) ≤ v6 → ∀ I_6 : gI, I_6 = layI I → Go G mX7_sets 30 0 0 62 [some (.ref 310), some (.int v1), some (.int v2), some (.int v3), some (.int v4), some (.int v5), some (.int v6), some (.int 1), some (.int 0)] [] SH I_6 R L Q)) : Go G mX7_sets 30 0 0 39 [some (.ref 310), some (.int v1), some (.int v2), some (.int v3), some (.int v4), some (.int v5), some (.int v6), none, none] [] SH I R L Q := by
  refine go_iload dX7_sets_39 rfl ?_
  refine go_iconst (v := 1) dX7_sets_41 (by decide) ?_
  refine go_aload_n dX7_sets_42 rfl ?_
  refine go_getR dX7_sets_43 fX7_7 rfl rfl (hR 310 0 311 rfl) ?_
  refine go_iconst (v := 0) dX7_sets_46 (by decide) ?_
  refine go_ialdK dX7_sets_47 rfl (vp_in_nI (n := 0) (by decide) (by decide)) (k := 0) (by decide) ?_
  refine go_ishl dX7_sets_48 ?_
  refine go_icmp_ge 149 dX7_sets_49 (by decide) (fun c => ?_) (fun c => ?_)
  · have h := h.1 c
    refine go_iload dX7_sets_149 rfl ?_
    refine go_iconst (v := -1) dX7_sets_151 (by decide) ?_
    refine go_icmp_ne 160 dX7_sets_152 (by decide) (fun c => ?_) (fun c => ?_)
    · have h := h.1 c
      refine go_iconst (v := -1) dX7_sets_160 (by decide) ?_
      exact go_iret dX7_sets_161 rfl rfl h
    · have h := h.2 c
      refine go_iload dX7_sets_155 rfl ?_
      refine go_goto 161 dX7_sets_157 (by decide) ?_
      exact go_iret dX7_sets_161 rfl rfl h
  · have h := h.2 c
    refine go_aload_n dX7_sets_52 rfl ?_
    refine go_callV0 (μ := mX7_sets) [] dX7_sets_53 YX7_laysWorld lX7_349 rfl ⟨_, rfl, rfl⟩ rfl (Nat.le_of_ble_eq_true rfl) (Nat.le_of_ble_eq_true rfl) rfl (k_X7_laysWorld hR ?_)
    have h := h _ rfl
    refine go_iconst (v := 1) dX7_sets_56 (by decide) ?_
    refine go_istore dX7_sets_57 (Nat.le_of_ble_eq_true rfl) rfl ?_
    refine go_iconst (v := 0) dX7_sets_59 (by decide) ?_
    refine go_istore dX7_sets_60 (Nat.le_of_ble_eq_true rfl) rfl ?_
    exact h
theorem b_X7_sets_62 {G : gG} {I : gI} {R : gR} {L : gL} {Q : gQ} {v1 v2 v3 v4 v5 v6 v7 v8 : Int32} (hR : g_Fx R) (h : ((I 311 0) ≤ v8 → Go G mX7_sets 30 0 0 111 [some (.ref 310), some (.int v1), some (.int v2), some (.int v3), some (.int v4), some (.int v5), some (.int v6), some (.int v7), none] [] SH I R L Q) ∧ (¬ (I 311 0) ≤ v8 → (v7 = 0 → Go G mX7_sets 30 0 0 111 [some (.ref 310), some (.int v1), some (.int v2), some (.int v3), some (.int v4), some (.int v5), some (.int v6), some (.int v7), none] [] SH I R L Q) ∧ (¬ v7 = 0 → (((v6 >>> (v8 &&& 31)) &&& 1) = 0 → ∀ v8_8 : Int32, v8_8 = v8 + 1 → Go G mX7_sets 30 0 0 62 [some (.ref 310), some (.int v1), some (.int v2), some (.int v3), some (.int v4), some (.int v5), some (.int v6), some (.int 1), some (.int v8_8)] [] SH I R L Q) ∧ (¬ ((v6 >>> (v8 &&& 31)) &&& 1) = 0 → vp_in v8 9 ∧ (vp_in v2 2 ∧ (okN I ∧ ((okD (dyM I)) ∧ (∀ r_13 : Int32, ∀ I_14 : gI, ∀ L_15 : gL, (r_13.toInt = spn (thM I) (dyM I) v8.toNatClampNeg v2.toInt ∧ dyM I_14 = eaD (dyM I) v8.toNatClampNeg v2.toInt (spn (thM I) (dyM I) v8.toNatClampNeg v2.toInt) ∧ (∀ a, a ≠ 331 → a ≠ 333 → a ≠ 334 → a ≠ 310 → I_14 a = I a) ∧ (∀ j, j ≠ 41 → I_14 310 j = I 310 j) ∧ ∀ a, a ≠ 332 → L_15 a = L a) → (r_13 ≤ 0 → ∀ v8_16 : Int32, v8_16 = v8 + 1 → Go G mX7_sets 30 0 0 62 [some (.ref 310), some (.int v1), some (.int v2), some (.int v3), some (.int v4), some (.int v5), some (.int v6), some (.int 0), some (.int v8_16)] [] SH I_14 R L_15 Q) ∧ (¬ r_13 ≤ 0 → ∀ v8_17 : Int32, v8_17 = v8 + 1 → Go G mX7_sets 30 0 0 62 [some (.ref 310), some (.int v1), some (.int v2), some (.int v3), some (.int v4), some (.int v5), some (.int v6), some (.int 1), some (.int v8_17)] [] SH I_14 R L_15 Q))))))))) : Go G mX7_sets 30 0 0 62 [some (.ref 310), some (.int v1), some (.int v2), some (.int v3), some (.int v4), some (.int v5), some (.int v6), some (.int v7), some (.int v8)] [] SH I R L Q := by
  refine go_iload dX7_sets_62 rfl ?_
  refine go_aload_n dX7_sets_64 rfl ?_
  refine go_getR dX7_sets_65 fX7_7 rfl rfl (hR 310 0 311 rfl) ?_
  refine go_iconst (v := 0) dX7_sets_68 (by decide) ?_
  refine go_ialdK dX7_sets_69 rfl (vp_in_nI (n := 0) (by decide) (by decide)) (k := 0) (by decide) ?_
  refine go_icmp_ge 111 dX7_sets_70 (by decide) (fun c => ?_) (fun c => ?_)
  · have h := h.1 c
    refine go_drop 8 ?_
    exact h
  · have h := h.2 c
    refine go_iload dX7_sets_73 rfl ?_
    refine go_if_eq 111 dX7_sets_75 (by decide) (fun c => ?_) (fun c => ?_)
    · have h := h.1 c
      refine go_drop 8 ?_
      exact h
    · have h := h.2 c
      refine go_iload dX7_sets_78 rfl ?_
      refine go_iload dX7_sets_80 rfl ?_
      refine go_ishr dX7_sets_82 ?_
      refine go_iconst (v := 1) dX7_sets_83 (by decide) ?_
      refine go_iand dX7_sets_84 ?_
      refine go_if_eq 98 dX7_sets_85 (by decide) (fun c => ?_) (fun c => ?_)
      · have h := h.1 c
        refine go_iconst (v := 1) dX7_sets_98 (by decide) ?_
        refine go_goto 103 dX7_sets_99 (by decide) ?_
        refine go_istore dX7_sets_103 (Nat.le_of_ble_eq_true rfl) rfl ?_
        refine go_iinc dX7_sets_105 rfl (Nat.le_of_ble_eq_true rfl) rfl ?_
        have h := h _ rfl
        refine go_goto 62 dX7_sets_108 (by decide) ?_
        exact h
      · have h := h.2 c
        refine go_aload_n dX7_sets_88 rfl ?_
        refine go_iload dX7_sets_89 rfl ?_
        refine go_iload_n dX7_sets_91 rfl ?_
        obtain ⟨hp_9, h⟩ := h
        obtain ⟨hp_10, h⟩ := h
        obtain ⟨hp_11, h⟩ := h
        obtain ⟨hp_12, h⟩ := h
        refine go_callV0 (μ := mX7_sets) [.int _, .int _] dX7_sets_92 YX7_eats lX7_376 rfl ⟨_, rfl, rfl⟩ rfl (Nat.le_of_ble_eq_true rfl) (Nat.le_of_ble_eq_true rfl) rfl (k_X7_eats hR hp_9 hp_10 hp_11 hp_12 (fun r_13 I_14 L_15 hq => ?_))
        have h := h r_13 I_14 L_15 hq
        refine go_if_le 102 dX7_sets_95 (by decide) (fun c => ?_) (fun c => ?_)
        · have h := h.1 c
          refine go_iconst (v := 0) dX7_sets_102 (by decide) ?_
          refine go_istore dX7_sets_103 (Nat.le_of_ble_eq_true rfl) rfl ?_
          refine go_iinc dX7_sets_105 rfl (Nat.le_of_ble_eq_true rfl) rfl ?_
          have h := h _ rfl
          refine go_goto 62 dX7_sets_108 (by decide) ?_
          exact h
        · have h := h.2 c
          refine go_iconst (v := 1) dX7_sets_98 (by decide) ?_
          refine go_goto 103 dX7_sets_99 (by decide) ?_
          refine go_istore dX7_sets_103 (Nat.le_of_ble_eq_true rfl) rfl ?_
          refine go_iinc dX7_sets_105 rfl (Nat.le_of_ble_eq_true rfl) rfl ?_
          have h := h _ rfl
          refine go_goto 62 dX7_sets_108 (by decide) ?_
          exact h
theorem b_X7_sets_111 {G : gG} {I : gI} {R : gR} {L : gL} {Q : gQ} {v1 v2 v3 v4 v5 v6 v7 : Int32} (hR : g_Fx R) (h : (v7 = 0 → ∀ v6_22 : Int32, v6_22 = v6 + 1 → Go G mX7_sets 30 0 0 39 [some (.ref 310), some (.int v1), some (.int v2), some (.int v3), some (.int v4), some (.int v5), some (.int v6_22), none, none] [] SH I R L Q) ∧ (¬ v7 = 0 → vp_in ((2 * v1) + v2) 4 ∧ ((¬ (I 333 ((2 * v1) + v2).toNatClampNeg) = v3 → ∀ v6_23 : Int32, v6_23 = v6 + 1 → Go G mX7_sets 30 0 0 39 [some (.ref 310), some (.int v1), some (.int v2), some (.int v3), some (.int v4), some (.int v5), some (.int v6_23), none, none] [] SH I R L Q) ∧ ((I 333 ((2 * v1) + v2).toNatClampNeg) = v3 → (¬ v5 = v4 → ∀ v5_24 : Int32, v5_24 = v5 + 1 → ∀ v6_25 : Int32, v6_25 = v6 + 1 → Go G mX7_sets 30 0 0 39 [some (.ref 310), some (.int v1), some (.int v2), some (.int v3), some (.int v4), some (.int v5_24), some (.int v6_25), none, none] [] SH I R L Q) ∧ (v5 = v4 → Q (some (.int v6)) SH I R L))))) : Go G mX7_sets 30 0 0 111 [some (.ref 310), some (.int v1), some (.int v2), some (.int v3), some (.int v4), some (.int v5), some (.int v6), some (.int v7), none] [] SH I R L Q := by
  refine go_iload dX7_sets_111 rfl ?_
  refine go_if_eq 143 dX7_sets_113 (by decide) (fun c => ?_) (fun c => ?_)
  · have h := h.1 c
    refine go_iinc dX7_sets_143 rfl (Nat.le_of_ble_eq_true rfl) rfl ?_
    have h := h _ rfl
    refine go_goto 39 dX7_sets_146 (by decide) ?_
    refine go_drop 7 ?_
    exact h
  · have h := h.2 c
    refine go_aload_n dX7_sets_116 rfl ?_
    refine go_getR dX7_sets_117 fX7_85 rfl rfl (hR 310 39 333 rfl) ?_
    refine go_iconst (v := 2) dX7_sets_120 (by decide) ?_
    refine go_iload_n dX7_sets_121 rfl ?_
    refine go_imul dX7_sets_122 ?_
    refine go_iload_n dX7_sets_123 rfl ?_
    refine go_iadd dX7_sets_124 ?_
    obtain ⟨hi, h⟩ := h
    refine go_iald dX7_sets_125 rfl hi ?_
    refine go_iload_n dX7_sets_126 rfl ?_
    refine go_icmp_ne 143 dX7_sets_127 (by decide) (fun c => ?_) (fun c => ?_)
    · have h := h.1 c
      refine go_iinc dX7_sets_143 rfl (Nat.le_of_ble_eq_true rfl) rfl ?_
      have h := h _ rfl
      refine go_goto 39 dX7_sets_146 (by decide) ?_
      refine go_drop 7 ?_
      exact h
    · have h := h.2 c
      refine go_iload dX7_sets_130 rfl ?_
      refine go_iload dX7_sets_132 rfl ?_
      refine go_icmp_ne 140 dX7_sets_134 (by decide) (fun c => ?_) (fun c => ?_)
      · have h := h.1 c
        refine go_iinc dX7_sets_140 rfl (Nat.le_of_ble_eq_true rfl) rfl ?_
        have h := h _ rfl
        refine go_iinc dX7_sets_143 rfl (Nat.le_of_ble_eq_true rfl) rfl ?_
        have h := h _ rfl
        refine go_goto 39 dX7_sets_146 (by decide) ?_
        refine go_drop 7 ?_
        exact h
      · have h := h.2 c
        refine go_iload dX7_sets_137 rfl ?_
        exact go_iret dX7_sets_139 rfl rfl h
def seF (P : Nat → Bool) (d : Int32) : Nat → Nat → Nat → Int32
  | 0, _, n => if d = -1 then nI n else -1
  | m + 1, k, n => if P k = true then (if nI n = d then nI k else seF P d m (k + 1) (n + 1)) else seF P d m (k + 1) n
/-- the plain form's own cells alone -/
def mo (I K : gI) : Prop := (∀ a, a ≠ 331 → a ≠ 333 → a ≠ 334 → a ≠ 310 → K a = I a) ∧ ∀ j, j ≠ 41 → K 310 j = I 310 j
theorem mo_rfl (I : gI) : mo I I := ⟨fun _ _ _ _ _ => rfl, fun _ _ => rfl⟩
theorem mo_tr {I J K : gI} (h : mo I J) (g : mo J K) : mo I K := ⟨fun a h1 h2 h3 h4 => (g.1 a h1 h2 h3 h4).trans (h.1 a h1 h2 h3 h4), fun j hj => (g.2 j hj).trans (h.2 j hj)⟩
theorem mo_lay (I : gI) : mo I (layI I) := ⟨fun _ _ h2 h3 h4 => layI_off h2 h3 h4, fun _ hj => layI_310 hj⟩
theorem mo_off {I K : gI} (h : ∀ a, a ≠ 331 → K a = I a) : mo I K := ⟨fun a h1 _ _ _ => h a h1, fun j _ => by rw [h 310 (by decide)]⟩
theorem mo_th {I K : gI} (h : mo I K) : thM K = thM I ∧ (okN I → okN K) := (thM_congr (h.1 _ (by decide) (by decide) (by decide) (by decide)) (h.1 _ (by decide) (by decide) (by decide) (by decide)) (h.1 _ (by decide) (by decide) (by decide) (by decide)) (h.1 _ (by decide) (by decide) (by decide) (by decide)) (h.1 _ (by decide) (by decide) (by decide) (by decide)) (h.1 _ (by decide) (by decide) (by decide) (by decide))).2
theorem mo_Rel {I K : gI} {R : gR} (r : Rel I R) (h : mo I K) : Rel K R := Rel_lay r h.1 h.2
theorem mo_dy {I K : gI} (h : mo I K) : eqD (dyM (layI K)) (dyF (I 311)) := by
  have := lay_dy K
  rw [h.1 311 (by decide) (by decide) (by decide) (by decide)] at this
  exact this
/-- the class's trial's cells alone -/
theorem Rel_tr {I J : gI} {R : gR} (h : Rel I R) (jx : ∀ a, (a < 164 ∨ 169 < a) → J a = I a) : Rel J R ∧ thC J = thC I ∧ dyC J 4 = dyC I 4 := by
  refine ⟨Rel_scr h (fun a _ a2 => jx a (by omega)) (by rw [jx 1 (by decide)]) (by rw [jx 1 (by decide)]) (by rw [jx 310 (by decide)]) (by rw [jx 310 (by decide)]) (by rw [jx 310 (by decide)]), thC_of (fun a ha => jx a (by omega)), ?_⟩
  unfold dyC; rw [jx (4 + 1) (by decide), jx (4 + 2) (by decide), jx (4 + 3) (by decide), jx 4 (by decide)]
theorem R_dn {I : gI} {R : gR} (h : Rel I R) : okDn 0 (dyC I 4) ∧ okI I ∧ okN I ∧ eqT (thC I) (thM I) ∧ eqD (dyC I 4) (dyF (I 311)) := by
  obtain ⟨x1, x2, x3⟩ := lw_eq h.1
  obtain ⟨co, sc, oh, ok⟩ := R_co h
  have hD := scR_dy sc
  exact ⟨okDn_eq hD.symm (okr_okD ok), x2, x3, x1, hD⟩
theorem p_sets {G : gG} {I : gI} {R : gR} {L : gL} {Q : gQ} {a b c d : Int32} (h : Rel I R) (hq : ∀ v I1 R1 L1, prom G mX7_sets [.ref 310, .int a, .int b, .int c, .int d] (some (.int v)) I1 R1 L1 → Q (some (.int v)) SH I1 R1 L1) : Mt G mX6_sets 30 0 0 [.ref 0, .int a, .int b, .int c, .int d] SH I R L Q := by
  have hF := h.1.1
  obtain ⟨N, hN, e1, e2⟩ := R_n h
  obtain ⟨oDn, oI, oN, hT, hD⟩ := R_dn h
  have hp2 := pow_le9 hN
  have es : ∀ x : Int32, x = nI N → (1 : Int32) <<< (x &&& 31) = nI (2 ^ N) := fun x ex => by rw [ex]; exact nI_shl1 N (by omega)
  have z0 : (0 : Int32).toInt = 0 := rfl
  have z999 : (999 : Int32).toInt = 999 := rfl
  have c999 : ∀ x : Int32, ¬ 999 < x ↔ x ≤ 999 := fun x => li_nlt
  have c00 : ∀ x : Int32, ¬ x < 0 ↔ 0 ≤ x := fun x => li_nlt
  refine e_X6_sets hF ⟨fun d1 => hq _ _ _ _ (fun Q2 h2 => e_X7_sets hF ⟨fun _ => h2 _ _ _ h, fun q => absurd q d1⟩), fun d1 => ⟨fun d2 => hq _ _ _ _ (fun Q2 h2 => e_X7_sets hF ⟨fun q => absurd d1 q, fun _ => ⟨fun _ => h2 _ _ _ h, fun q => absurd q d2⟩⟩), fun d2 => ⟨fun d3 => hq _ _ _ _ (fun Q2 h2 => e_X7_sets hF ⟨fun q => absurd d1 q, fun _ => ⟨fun q => absurd d2 q, fun _ => ⟨fun _ => h2 _ _ _ h, fun q => absurd d3 ((c00 c).mpr q.1)⟩⟩⟩), fun d3 => ⟨fun d4 => hq _ _ _ _ (fun Q2 h2 => e_X7_sets hF ⟨fun q => absurd d1 q, fun _ => ⟨fun q => absurd d2 q, fun _ => ⟨fun _ => h2 _ _ _ h, fun q => absurd d4 ((c999 c).mpr q.2)⟩⟩⟩), fun d4 => ⟨fun d5 => ?_, fun d5 => hq _ _ _ _ (fun Q2 h2 => e_X7_sets hF ⟨fun q => absurd d1 q, fun _ => ⟨fun q => absurd d2 q, fun _ => ⟨fun _ => h2 _ _ _ h, fun _ => ⟨fun q => absurd q d5, fun _ => h2 _ _ _ h⟩⟩⟩⟩)⟩⟩⟩⟩⟩
  obtain ⟨s, hs, es'⟩ := bit01 d1
  obtain ⟨κ, hκ, eκ⟩ := bit01 d2
  have hp : 2 * s + κ < 4 := by omega
  have ep : 2 * a + b = nI (2 * s + κ) := by rw [es', eκ, show (2 : Int32) = nI 2 from rfl, nI_mul, nI_add]
  have epk : (2 * s + κ) % 2 = κ := by omega
  have kt : b.toInt = κ := by rw [eκ, nI_toInt (by omega)]
  generalize hPd : (fun k => ljB (thC I) κ k N (dyC I 4) (2 * s + κ) c.toInt) = P
  have cls : ∀ m k n (J : gI), k + m = 2 ^ N → (∀ a, (a < 164 ∨ 169 < a) → J a = I a) → (∀ J' : gI, (∀ a, (a < 164 ∨ 169 < a) → J' a = I a) → Q (some (.int (seF P d m k n))) SH J' R L) → Go G mX6_sets 30 0 0 39 [some (.ref 0), some (.int a), some (.int b), some (.int c), some (.int d), some (.int (nI n)), some (.int (nI k))] [] SH J R L Q := by
    intro m
    induction m with
    | zero =>
      intro k n J e jx q
      have j6 : J 3 6 = nI N := by rw [jx 3 (by decide)]; exact e2
      have q' := q J jx
      simp only [seF] at q'
      exact b_X6_sets_39 hF ⟨fun _ => ⟨fun c => by rw [if_neg c] at q'; exact q', fun c => by rw [if_pos c] at q'; exact q'⟩, fun c => absurd (by rw [es _ j6, show k = 2 ^ N by omega]; exact ti_le.mpr (Int.le_refl _)) c⟩
    | succ m ih =>
      intro k n J e jx q
      have j6 : J 3 6 = nI N := by rw [jx 3 (by decide)]; exact e2
      obtain ⟨RJ, tC, tD⟩ := Rel_tr h jx
      obtain ⟨oDn', oI', -⟩ := R_dn RJ
      have eP : ljC J (nI k) (2 * a + b) c = P k := by
        rw [← hPd]
        unfold ljC
        rw [ep, tC, tD, j6, nI_clamp (by omega), nI_clamp (by omega), nI_clamp (by omega), epk]
      refine b_X6_sets_39 hF ⟨fun c => absurd c (by rw [es _ j6]; exact nI_ge (by omega) (by omega)), fun _ => ⟨⟨oI', oDn', N, k, 2 * s + κ, j6, hN, rfl, by omega, ep, hp⟩, ?_⟩⟩
      intro J2 jx2
      rw [eP]
      have jx3 : ∀ a, (a < 164 ∨ 169 < a) → J2 a = I a := fun a ha => by rw [jx2 a ha, jx a ha]
      simp only [seF] at q
      refine ⟨fun c1 => ?_, fun c1 => ⟨fun c2 => ?_, fun c2 => ?_⟩⟩
      · rintro _ rfl
        rw [nI_1]
        exact ih (k + 1) n J2 (by omega) jx3 (fun J' j' => by have := q J' j'; rw [if_neg c1] at this; exact this)
      · rintro _ rfl _ rfl
        rw [nI_1, nI_1]
        exact ih (k + 1) (n + 1) J2 (by omega) jx3 (fun J' j' => by have := q J' j'; rw [if_pos c1, if_neg c2] at this; exact this)
      · have := q J2 jx3
        rw [if_pos c1, if_pos c2] at this; exact this
  refine cls (2 ^ N) 0 0 I (by omega) (fun _ _ => rfl) (fun J jx => hq _ _ _ _ (fun Q2 h2 => e_X7_sets hF ⟨fun q => absurd d1 q, fun _ => ⟨fun q => absurd d2 q, fun _ => ⟨fun q => absurd ⟨(c00 c).mp d3, (c999 c).mp d4⟩ q, fun _ => ⟨fun _ => ?_, fun q => absurd d5 q⟩⟩⟩⟩))
  obtain ⟨RJ, tC, tD⟩ := Rel_tr h jx
  obtain ⟨-, -, oN', hT', hD'⟩ := R_dn RJ
  rw [tC] at hT'
  rw [tD] at hD'
  have j0 : J 311 0 = nI N := by rw [jx 311 (by decide)]; exact e1
  have inner : ∀ (k n : Nat), k < 2 ^ N → ∀ m e (K : gI) (L1 : gL) (δ : dyn) (w : Nat), e + m = N → w ≤ e → mo J K → eqD δ (dyM K) → okDn w δ →
      (rnS (thC I) κ k m e δ = none → ∀ K' L', mo J K' → Go G mX7_sets 30 0 0 111 [some (.ref 310), some (.int a), some (.int b), some (.int c), some (.int d), some (.int (nI n)), some (.int (nI k)), some (.int 0), none] [] SH K' R L' Q2) →
      (∀ δ', rnS (thC I) κ k m e δ = some δ' → ∀ K' L', mo J K' → eqD δ' (dyM K') → Go G mX7_sets 30 0 0 111 [some (.ref 310), some (.int a), some (.int b), some (.int c), some (.int d), some (.int (nI n)), some (.int (nI k)), some (.int 1), none] [] SH K' R L' Q2) →
      Go G mX7_sets 30 0 0 62 [some (.ref 310), some (.int a), some (.int b), some (.int c), some (.int d), some (.int (nI n)), some (.int (nI k)), some (.int 1), some (.int (nI e))] [] SH K R L1 Q2 := by
    intro k n hk m
    induction m with
    | zero =>
      intro e K L1 δ w ee hw kx kD kO f1 f2
      have k0 : K 311 0 = nI N := by rw [kx.1 311 (by decide) (by decide) (by decide) (by decide)]; exact j0
      exact b_X7_sets_62 hF ⟨fun _ => f2 δ rfl K L1 kx kD, fun c => absurd (by rw [k0, show e = N by omega]; exact ti_le.mpr (Int.le_refl _)) c⟩
    | succ m ih =>
      intro e K L1 δ w ee hw kx kD kO f1 f2
      have k0 : K 311 0 = nI N := by rw [kx.1 311 (by decide) (by decide) (by decide) (by decide)]; exact j0
      obtain ⟨tM, nM⟩ := mo_th kx
      have he9 : e < 9 := by omega
      have bit0 : (nI k >>> (nI e &&& 31)) &&& 1 = 0 ↔ ¬ k.testBit e = true := by
        rw [nI_tb (by omega) (by omega), show (0 : Int32) = nI 0 from rfl, nI_eq (by omega) (by decide), Nat.testBit_eq_decide_div_mod_eq, decide_eq_true_iff]; omega
      simp only [rnS] at f1 f2
      refine b_X7_sets_62 hF ⟨fun c => absurd c (by rw [k0]; exact nI_ge (by omega) (by omega)), fun _ => ⟨fun c => absurd c (by decide), fun _ => ?_⟩⟩
      rw [bit0]
      refine ⟨fun c => ?_, fun c => ⟨vp_in_nI he9 (by decide), by rw [eκ]; exact vp_in_nI hκ (by decide), nM oN', okD_eq kD (kO.ok (by omega)), ?_⟩⟩
      · rintro _ rfl
        rw [if_neg c] at f1 f2
        rw [nI_1]; exact ih (e + 1) K L1 δ w (by omega) (by omega) kx kD kO f1 f2
      · have c' := Classical.not_not.mp c
        rw [if_pos c'] at f1 f2
        rw [nI_clamp (by omega), tM, kt]
        have esp : spn (thM J) (dyM K) e κ = spn (thC I) δ e κ := (spn_eq hT' kD oI.1 (kO.ok (by omega)) he9 (by omega) (by omega)).symm
        rw [esp]
        rintro r K2 L2 ⟨hr, hy, hx1, hx2, -⟩
        have kx2 : mo J K2 := mo_tr kx ⟨hx1, hx2⟩
        refine ⟨fun c2 => ?_, fun c2 => ?_⟩
        · rw [ti_le, z0, hr] at c2
          rw [if_neg (by omega)] at f1
          rintro _ rfl
          have g1 := f1 rfl K2 L2 kx2
          exact b_X7_sets_62 hF ⟨fun _ => g1, fun _ => ⟨fun _ => g1, fun c => absurd rfl c⟩⟩
        · rw [ti_le, z0, hr] at c2
          rw [if_pos (by omega)] at f1 f2
          rintro _ rfl
          rw [nI_1]
          exact ih (e + 1) K2 L2 _ (w + 1) (by omega) (by omega) kx2 (by rw [hy]; exact eaD_eq kD he9) (eaD_ok oI.1 kO (by omega) he9 (by omega) (by omega)) f1 f2
  have outer : ∀ m k n (K : gI) (L1 : gL), k + m = 2 ^ N → mo J K → (∀ K' L', mo J K' → Q2 (some (.int (seF P d m k n))) SH K' R L') → Go G mX7_sets 30 0 0 39 [some (.ref 310), some (.int a), some (.int b), some (.int c), some (.int d), some (.int (nI n)), some (.int (nI k)), none, none] [] SH K R L1 Q2 := by
    intro m
    induction m with
    | zero =>
      intro k n K L1 e kx q
      have k0 : K 311 0 = nI N := by rw [kx.1 311 (by decide) (by decide) (by decide) (by decide)]; exact j0
      have q' := q K L1 kx
      simp only [seF] at q'
      exact b_X7_sets_39 hF ⟨fun _ => ⟨fun c => by rw [if_neg c] at q'; exact q', fun c => by rw [if_pos c] at q'; exact q'⟩, fun c => absurd (by rw [es _ k0, show k = 2 ^ N by omega]; exact ti_le.mpr (Int.le_refl _)) c⟩
    | succ m ih =>
      intro k n K L1 e kx q
      have k0 : K 311 0 = nI N := by rw [kx.1 311 (by decide) (by decide) (by decide) (by decide)]; exact j0
      refine b_X7_sets_39 hF ⟨fun c => absurd c (by rw [es _ k0]; exact nI_ge (by omega) (by omega)), fun _ => ?_⟩
      rintro _ rfl
      have kl : mo J (layI K) := mo_tr kx (mo_lay K)
      have dl : eqD (dyC I 4) (dyM (layI K)) := hD'.trans (mo_dy kx).symm
      have vin : vp_in (2 * a + b) 4 := by rw [ep]; exact vp_in_nI hp (by decide)
      simp only [seF] at q
      have eP : P k = ljR (2 * s + κ) c.toInt (rnS (thC I) κ k N 0 (dyC I 4)) := by rw [← hPd]; rfl
      refine inner k n (by omega) N 0 (layI K) L1 (dyC I 4) 0 (by omega) (Nat.le_refl 0) kl dl oDn (fun en K' L' kx' => ?_) (fun δ' en K' L' kx' kD' => ?_)
      · refine b_X7_sets_111 hF ⟨fun _ => ?_, fun c => absurd rfl c⟩
        rintro _ rfl
        rw [nI_1]
        rw [en] at eP
        exact ih (k + 1) n K' L' (by omega) kx' (fun K2 L2 k2 => by have := q K2 L2 k2; rw [if_neg (by rw [eP]; exact Bool.false_ne_true)] at this; exact this)
      · rw [en] at eP
        have eP' : P k = true ↔ K' 333 (2 * s + κ) = c := by
          have v : δ'.1 (2 * s + κ) = (K' 333 (2 * s + κ)).toInt := kD'.1 _ hp
          rw [eP]
          show decide (δ'.1 (2 * s + κ) = c.toInt) = true ↔ _
          rw [v, decide_eq_true_iff, ← ti_eq]
        refine b_X7_sets_111 hF ⟨fun c => absurd c (by decide), fun _ => ⟨vin, ?_⟩⟩
        rw [ep, nI_clamp (by omega), ← eP']
        refine ⟨fun c1 => ?_, fun c1 => ⟨fun c2 => ?_, fun c2 => ?_⟩⟩
        · rintro _ rfl
          rw [nI_1]
          exact ih (k + 1) n K' L' (by omega) kx' (fun K2 L2 k2 => by have := q K2 L2 k2; rw [if_neg c1] at this; exact this)
        · rintro _ rfl _ rfl
          rw [nI_1, nI_1]
          exact ih (k + 1) (n + 1) K' L' (by omega) kx' (fun K2 L2 k2 => by have := q K2 L2 k2; rw [if_pos c1, if_neg c2] at this; exact this)
        · have := q K' L' kx'
          rw [if_pos c1, if_pos c2] at this; exact this
  exact outer (2 ^ N) 0 0 J L (by omega) (mo_rfl J) (fun K' L' k' => h2 _ _ _ (mo_Rel RJ k'))
