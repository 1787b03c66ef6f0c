theorem e_X3_readNumberOf {G : gG} {I : gI} {R : gR} {L : gL} {Q : gQ} {a b : Int32} (hR : g_Fx R) (h : ((I 306 7) = 0 → ∀ v3_1 : Int32, v3_1 = (I 306 5) → ((I 306 3) = 37 → (v3_1 < a → ∀ I_2 : gI, I_2 = failI I (2 : Int32) → Q (some (.int v3_1)) SH I_2 R L) ∧ (¬ v3_1 < a → (v3_1 ≤ b → Mt G mX3_advance 9 0 0 [.ref 306] SH I R L (fun r S' I' R' L' => Go G mX3_readNumberOf 10 0 0 53 [none, none, none, some (.int v3_1)] (r.toList ++ []) S' I' R' L' Q)) ∧ (¬ v3_1 ≤ b → ∀ I_3 : gI, I_3 = failI I (2 : Int32) → Go G mX3_readNumberOf 10 0 0 53 [none, none, none, some (.int v3_1)] [] SH I_3 R L Q))) ∧ (¬ (I 306 3) = 37 → ∀ I_6 : gI, I_6 = failI I (1 : Int32) → Go G mX3_readNumberOf 10 0 0 53 [none, none, none, some (.int v3_1)] [] SH I_6 R L Q)) ∧ (¬ (I 306 7) = 0 → Q (some (.int 0)) SH I R L)) : Mt G mX3_readNumberOf 10 0 0 [.ref 306, .int a, .int b] SH I R L Q := by
  refine go_start rfl (Nat.le_of_ble_eq_true rfl) rfl ?_
  refine go_aload_n dX3_readNumberOf_0 rfl ?_
  refine go_getI dX3_readNumberOf_1 fX3_31 rfl rfl ?_
  refine go_if_eq 9 dX3_readNumberOf_4 (by decide) (fun c => ?_) (fun c => ?_)
  · have h := h.1 c
    refine go_aload_n dX3_readNumberOf_9 rfl ?_
    refine go_getI dX3_readNumberOf_10 fX3_87 rfl rfl ?_
    refine go_istore_n dX3_readNumberOf_13 (Nat.le_of_ble_eq_true rfl) rfl ?_
    have h := h _ rfl
    refine go_aload_n dX3_readNumberOf_14 rfl ?_
    refine go_getI dX3_readNumberOf_15 fX3_49 rfl rfl ?_
    refine go_bipush (v := 37) dX3_readNumberOf_18 (by decide) ?_
    refine go_icmp_eq 31 dX3_readNumberOf_20 (by decide) (fun c => ?_) (fun c => ?_)
    · have h := h.1 c
      refine go_iload_n dX3_readNumberOf_31 rfl ?_
      refine go_iload_n dX3_readNumberOf_32 rfl ?_
      refine go_icmp_lt 41 dX3_readNumberOf_33 (by decide) (fun c => ?_) (fun c => ?_)
      · have h := h.1 c
        refine go_aload_n dX3_readNumberOf_41 rfl ?_
        refine go_iconst (v := 2) dX3_readNumberOf_42 (by decide) ?_
        refine go_callV0 (μ := mX3_readNumberOf) [.int _] dX3_readNumberOf_43 YX3_fail lX3_96 rfl ⟨_, rfl, rfl⟩ rfl (Nat.le_of_ble_eq_true rfl) (Nat.le_of_ble_eq_true rfl) rfl (k_X3_fail hR ?_)
        have h := h _ rfl
        refine go_goto 53 dX3_readNumberOf_46 (by decide) ?_
        refine go_iload_n dX3_readNumberOf_53 rfl ?_
        exact go_iret dX3_readNumberOf_54 rfl rfl h
      · have h := h.2 c
        refine go_iload_n dX3_readNumberOf_36 rfl ?_
        refine go_iload_n dX3_readNumberOf_37 rfl ?_
        refine go_icmp_le 49 dX3_readNumberOf_38 (by decide) (fun c => ?_) (fun c => ?_)
        · have h := h.1 c
          refine go_aload_n dX3_readNumberOf_49 rfl ?_
          refine go_drop 0 ?_
          refine go_drop 1 ?_
          refine go_drop 2 ?_
          refine go_callV0 (μ := mX3_readNumberOf) [] dX3_readNumberOf_50 YX3_advance lX3_46 rfl ⟨_, rfl, rfl⟩ rfl (Nat.le_of_ble_eq_true rfl) (Nat.le_of_ble_eq_true rfl) rfl h
        · have h := h.2 c
          refine go_aload_n dX3_readNumberOf_41 rfl ?_
          refine go_iconst (v := 2) dX3_readNumberOf_42 (by decide) ?_
          refine go_callV0 (μ := mX3_readNumberOf) [.int _] dX3_readNumberOf_43 YX3_fail lX3_96 rfl ⟨_, rfl, rfl⟩ rfl (Nat.le_of_ble_eq_true rfl) (Nat.le_of_ble_eq_true rfl) rfl (k_X3_fail hR ?_)
          have h := h _ rfl
          refine go_goto 53 dX3_readNumberOf_46 (by decide) ?_
          refine go_drop 0 ?_
          refine go_drop 1 ?_
          refine go_drop 2 ?_
          exact h
    · have h := h.2 c
      refine go_aload_n dX3_readNumberOf_23 rfl ?_
      refine go_iconst (v := 1) dX3_readNumberOf_24 (by decide) ?_
      refine go_callV0 (μ := mX3_readNumberOf) [.int _] dX3_readNumberOf_25 YX3_fail lX3_96 rfl ⟨_, rfl, rfl⟩ rfl (Nat.le_of_ble_eq_true rfl) (Nat.le_of_ble_eq_true rfl) rfl (k_X3_fail hR ?_)
      have h := h _ rfl
      refine go_goto 53 dX3_readNumberOf_28 (by decide) ?_
      refine go_drop 0 ?_
      refine go_drop 1 ?_
      refine go_drop 2 ?_
      exact h
  · have h := h.2 c
    refine go_iconst (v := 0) dX3_readNumberOf_7 (by decide) ?_
    exact go_iret dX3_readNumberOf_8 rfl rfl h
theorem b_X3_readNumberOf_53 {G : gG} {I : gI} {R : gR} {L : gL} {Q : gQ} {v3 : Int32} (hR : g_Fx R) (h : Q (some (.int v3)) SH I R L) : Go G mX3_readNumberOf 10 0 0 53 [none, none, none, some (.int v3)] [] SH I R L Q := by
  refine go_iload_n dX3_readNumberOf_53 rfl ?_
  exact go_iret dX3_readNumberOf_54 rfl rfl h
theorem e_X3_expect {G : gG} {I : gI} {R : gR} {L : gL} {Q : gQ} {a : Int32} (hR : g_Fx R) (h : (¬ (I 306 7) = 0 → Q none SH I R L) ∧ ((I 306 7) = 0 → ((I 306 3) = a → Mt G mX3_advance 9 0 0 [.ref 306] SH I R L (fun r S' I' R' L' => Go G mX3_expect 10 0 0 27 [none, none] (r.toList ++ []) S' I' R' L' Q)) ∧ (¬ (I 306 3) = a → ∀ I_1 : gI, I_1 = failI I (1 : Int32) → Go G mX3_expect 10 0 0 27 [none, none] [] SH I_1 R L Q))) : Mt G mX3_expect 10 0 0 [.ref 306, .int a] SH I R L Q := by
  refine go_start rfl (Nat.le_of_ble_eq_true rfl) rfl ?_
  refine go_aload_n dX3_expect_0 rfl ?_
  refine go_getI dX3_expect_1 fX3_31 rfl rfl ?_
  refine go_if_ne 27 dX3_expect_4 (by decide) (fun c => ?_) (fun c => ?_)
  · have h := h.1 c
    exact go_vret dX3_expect_27 rfl rfl h
  · have h := h.2 c
    refine go_aload_n dX3_expect_7 rfl ?_
    refine go_getI dX3_expect_8 fX3_49 rfl rfl ?_
    refine go_iload_n dX3_expect_11 rfl ?_
    refine go_icmp_eq 23 dX3_expect_12 (by decide) (fun c => ?_) (fun c => ?_)
    · have h := h.1 c
      refine go_aload_n dX3_expect_23 rfl ?_
      refine go_drop 0 ?_
      refine go_drop 1 ?_
      refine go_callV0 (μ := mX3_expect) [] dX3_expect_24 YX3_advance lX3_46 rfl ⟨_, rfl, rfl⟩ rfl (Nat.le_of_ble_eq_true rfl) (Nat.le_of_ble_eq_true rfl) rfl h
    · have h := h.2 c
      refine go_aload_n dX3_expect_15 rfl ?_
      refine go_iconst (v := 1) dX3_expect_16 (by decide) ?_
      refine go_callV0 (μ := mX3_expect) [.int _] dX3_expect_17 YX3_fail lX3_96 rfl ⟨_, rfl, rfl⟩ rfl (Nat.le_of_ble_eq_true rfl) (Nat.le_of_ble_eq_true rfl) rfl (k_X3_fail hR ?_)
      have h := h _ rfl
      refine go_goto 27 dX3_expect_20 (by decide) ?_
      refine go_drop 0 ?_
      refine go_drop 1 ?_
      exact h
theorem b_X3_expect_27 {G : gG} {I : gI} {R : gR} {L : gL} {Q : gQ} (hR : g_Fx R) (h : Q none SH I R L) : Go G mX3_expect 10 0 0 27 [none, none] [] SH I R L Q := by
  exact go_vret dX3_expect_27 rfl rfl h
theorem e_X3_readDeed {G : gG} {I : gI} {R : gR} {L : gL} {Q : gQ} {vb k : Int32} (hR : g_Fx R) (h : (¬ vb = 3 → (¬ vb = 4 → (¬ vb = 5 → ∃ y_1, R 306 6 = some y_1 ∧ g_La y_1 ∧ (Mt G mX3_readNumberOf 10 0 0 [.ref 306, .int 1, .int 40] SH I R L (fun r S' I' R' L' => Go G mX3_readDeed 11 0 0 128 [some (.ref 306), none, none] (r.toList ++ [.int k, .ref (y_1 + 5)]) S' I' R' L' Q))) ∧ (vb = 5 → ∃ y_2, R 306 6 = some y_2 ∧ g_La y_2 ∧ (Mt G mX3_readNumberOf 10 0 0 [.ref 306, .int 0, .int 1] SH I R L (fun r S' I' R' L' => Go G mX3_readDeed 11 0 0 109 [some (.ref 306), none, none] (r.toList ++ [.int k, .ref (y_2 + 5)]) S' I' R' L' Q)))) ∧ (vb = 4 → ∃ y_4, R 306 6 = some y_4 ∧ g_La y_4 ∧ (Mt G mX3_readNumberOf 10 0 0 [.ref 306, .int 0, .int 8] SH I R L (fun r S' I' R' L' => Go G mX3_readDeed 11 0 0 65 [some (.ref 306), none, some (.int k)] (r.toList ++ [.int k, .ref (y_4 + 5)]) S' I' R' L' Q)))) ∧ (vb = 3 → ∃ y_6, R 306 6 = some y_6 ∧ g_La y_6 ∧ (Mt G mX3_readNumberOf 10 0 0 [.ref 306, .int 0, .int 8] SH I R L (fun r S' I' R' L' => Go G mX3_readDeed 11 0 0 20 [some (.ref 306), none, some (.int k)] (r.toList ++ [.int k, .ref (y_6 + 5)]) S' I' R' L' Q)))) : Mt G mX3_readDeed 11 0 0 [.ref 306, .int vb, .int k] SH I R L Q := by
  refine go_start rfl (Nat.le_of_ble_eq_true rfl) rfl ?_
  refine go_iload_n dX3_readDeed_0 rfl ?_
  refine go_iconst (v := 3) dX3_readDeed_1 (by decide) ?_
  refine go_icmp_ne 45 dX3_readDeed_2 (by decide) (fun c => ?_) (fun c => ?_)
  · have h := h.1 c
    refine go_iload_n dX3_readDeed_45 rfl ?_
    refine go_iconst (v := 4) dX3_readDeed_46 (by decide) ?_
    refine go_icmp_ne 90 dX3_readDeed_47 (by decide) (fun c => ?_) (fun c => ?_)
    · have h := h.1 c
      refine go_iload_n dX3_readDeed_90 rfl ?_
      refine go_iconst (v := 5) dX3_readDeed_91 (by decide) ?_
      refine go_icmp_ne 113 dX3_readDeed_92 (by decide) (fun c => ?_) (fun c => ?_)
      · have h := h.1 c
        refine go_aload_n dX3_readDeed_113 rfl ?_
        obtain ⟨y_1, hry_1, hy_1, h⟩ := h
        refine go_getR dX3_readDeed_114 fX3_37 rfl rfl hry_1 ?_
        refine go_getR dX3_readDeed_117 fX3_115 rfl (La_s0 hy_1) (hR _ _ _ (La_r0_5 hy_1)) ?_
        refine go_iload_n dX3_readDeed_120 rfl ?_
        refine go_aload_n dX3_readDeed_121 rfl ?_
        refine go_iconst (v := 1) dX3_readDeed_122 (by decide) ?_
        refine go_bipush (v := 40) dX3_readDeed_123 (by decide) ?_
        refine go_drop 1 ?_
        refine go_drop 2 ?_
        refine go_callV0 (μ := mX3_readDeed) [.int _, .int _] dX3_readDeed_125 YX3_readNumberOf lX3_118 rfl ⟨_, rfl, rfl⟩ rfl (Nat.le_of_ble_eq_true rfl) (Nat.le_of_ble_eq_true rfl) rfl h
      · have h := h.2 c
        refine go_aload_n dX3_readDeed_95 rfl ?_
        obtain ⟨y_2, hry_2, hy_2, h⟩ := h
        refine go_getR dX3_readDeed_96 fX3_37 rfl rfl hry_2 ?_
        refine go_getR dX3_readDeed_99 fX3_115 rfl (La_s0 hy_2) (hR _ _ _ (La_r0_5 hy_2)) ?_
        refine go_iload_n dX3_readDeed_102 rfl ?_
        refine go_aload_n dX3_readDeed_103 rfl ?_
        refine go_iconst (v := 0) dX3_readDeed_104 (by decide) ?_
        refine go_iconst (v := 1) dX3_readDeed_105 (by decide) ?_
        refine go_drop 1 ?_
        refine go_drop 2 ?_
        refine go_callV0 (μ := mX3_readDeed) [.int _, .int _] dX3_readDeed_106 YX3_readNumberOf lX3_118 rfl ⟨_, rfl, rfl⟩ rfl (Nat.le_of_ble_eq_true rfl) (Nat.le_of_ble_eq_true rfl) rfl h
    · have h := h.2 c
      refine go_aload_n dX3_readDeed_50 rfl ?_
      obtain ⟨y_4, hry_4, hy_4, h⟩ := h
      refine go_getR dX3_readDeed_51 fX3_37 rfl rfl hry_4 ?_
      refine go_getR dX3_readDeed_54 fX3_115 rfl (La_s0 hy_4) (hR _ _ _ (La_r0_5 hy_4)) ?_
      refine go_iload_n dX3_readDeed_57 rfl ?_
      refine go_aload_n dX3_readDeed_58 rfl ?_
      refine go_iconst (v := 0) dX3_readDeed_59 (by decide) ?_
      refine go_bipush (v := 8) dX3_readDeed_60 (by decide) ?_
      refine go_drop 1 ?_
      refine go_callV0 (μ := mX3_readDeed) [.int _, .int _] dX3_readDeed_62 YX3_readNumberOf lX3_118 rfl ⟨_, rfl, rfl⟩ rfl (Nat.le_of_ble_eq_true rfl) (Nat.le_of_ble_eq_true rfl) rfl h
  · have h := h.2 c
    refine go_aload_n dX3_readDeed_5 rfl ?_
    obtain ⟨y_6, hry_6, hy_6, h⟩ := h
    refine go_getR dX3_readDeed_6 fX3_37 rfl rfl hry_6 ?_
    refine go_getR dX3_readDeed_9 fX3_115 rfl (La_s0 hy_6) (hR _ _ _ (La_r0_5 hy_6)) ?_
    refine go_iload_n dX3_readDeed_12 rfl ?_
    refine go_aload_n dX3_readDeed_13 rfl ?_
    refine go_iconst (v := 0) dX3_readDeed_14 (by decide) ?_
    refine go_bipush (v := 8) dX3_readDeed_15 (by decide) ?_
    refine go_drop 1 ?_
    refine go_callV0 (μ := mX3_readDeed) [.int _, .int _] dX3_readDeed_17 YX3_readNumberOf lX3_118 rfl ⟨_, rfl, rfl⟩ rfl (Nat.le_of_ble_eq_true rfl) (Nat.le_of_ble_eq_true rfl) rfl h
theorem b_X3_readDeed_128 {G : gG} {I : gI} {R : gR} {L : gL} {Q : gQ} {s1 s2 : Int32} {y_1 : Nat} (hR : g_Fx R) (hy_1 : g_La y_1) (h : vp_in s1 24 ∧ (∀ I_8 : gI, I_8 = up I (y_1 + 5) s1.toNatClampNeg s2 → Mt G mX3_expect 10 0 0 [.ref 306, .int 34] SH I_8 R L (fun r S' I' R' L' => Go G mX3_readDeed 11 0 0 135 [none, none, none] (r.toList ++ []) S' I' R' L' Q))) : Go G mX3_readDeed 11 0 0 128 [some (.ref 306), none, none] [.int s2, .int s1, .ref (y_1 + 5)] SH I R L Q := by
  obtain ⟨hi, h⟩ := h
  refine go_iast dX3_readDeed_128 (La_s5 hy_1) hi ?_
  have h := h _ rfl
  refine go_aload_n dX3_readDeed_129 rfl ?_
  refine go_bipush (v := 34) dX3_readDeed_130 (by decide) ?_
  refine go_drop 0 ?_
  refine go_callV0 (μ := mX3_readDeed) [.int _] dX3_readDeed_132 YX3_expect lX3_121 rfl ⟨_, rfl, rfl⟩ rfl (Nat.le_of_ble_eq_true rfl) (Nat.le_of_ble_eq_true rfl) rfl h
theorem b_X3_readDeed_109 {G : gG} {I : gI} {R : gR} {L : gL} {Q : gQ} {s1 s2 : Int32} {y_2 : Nat} (hR : g_Fx R) (hy_2 : g_La y_2) (h : vp_in s1 24 ∧ (∀ I_9 : gI, I_9 = up I (y_2 + 5) s1.toNatClampNeg s2 → Mt G mX3_expect 10 0 0 [.ref 306, .int 34] SH I_9 R L (fun r S' I' R' L' => Go G mX3_readDeed 11 0 0 135 [none, none, none] (r.toList ++ []) S' I' R' L' Q))) : Go G mX3_readDeed 11 0 0 109 [some (.ref 306), none, none] [.int s2, .int s1, .ref (y_2 + 5)] SH I R L Q := by
  obtain ⟨hi, h⟩ := h
  refine go_iast dX3_readDeed_109 (La_s5 hy_2) hi ?_
  have h := h _ rfl
  refine go_goto 129 dX3_readDeed_110 (by decide) ?_
  refine go_aload_n dX3_readDeed_129 rfl ?_
  refine go_bipush (v := 34) dX3_readDeed_130 (by decide) ?_
  refine go_drop 0 ?_
  refine go_callV0 (μ := mX3_readDeed) [.int _] dX3_readDeed_132 YX3_expect lX3_121 rfl ⟨_, rfl, rfl⟩ rfl (Nat.le_of_ble_eq_true rfl) (Nat.le_of_ble_eq_true rfl) rfl h
theorem b_X3_readDeed_65 {G : gG} {I : gI} {R : gR} {L : gL} {Q : gQ} {v2 s1 s2 : Int32} {y_4 : Nat} (hR : g_Fx R) (hy_4 : g_La y_4) (h : vp_in s1 24 ∧ (∀ I_10 : gI, I_10 = up I (y_4 + 5) s1.toNatClampNeg s2 → Mt G mX3_expect 10 0 0 [.ref 306, .int 8] SH I_10 R L (fun r S' I' R' L' => Go G mX3_readDeed 11 0 0 72 [some (.ref 306), none, some (.int v2)] (r.toList ++ []) S' I' R' L' Q))) : Go G mX3_readDeed 11 0 0 65 [some (.ref 306), none, some (.int v2)] [.int s2, .int s1, .ref (y_4 + 5)] SH I R L Q := by
  obtain ⟨hi, h⟩ := h
  refine go_iast dX3_readDeed_65 (La_s5 hy_4) hi ?_
  have h := h _ rfl
  refine go_aload_n dX3_readDeed_66 rfl ?_
  refine go_bipush (v := 8) dX3_readDeed_67 (by decide) ?_
  refine go_callV0 (μ := mX3_readDeed) [.int _] dX3_readDeed_69 YX3_expect lX3_121 rfl ⟨_, rfl, rfl⟩ rfl (Nat.le_of_ble_eq_true rfl) (Nat.le_of_ble_eq_true rfl) rfl h
theorem b_X3_readDeed_20 {G : gG} {I : gI} {R : gR} {L : gL} {Q : gQ} {v2 s1 s2 : Int32} {y_6 : Nat} (hR : g_Fx R) (hy_6 : g_La y_6) (h : vp_in s1 24 ∧ (∀ I_11 : gI, I_11 = up I (y_6 + 5) s1.toNatClampNeg s2 → Mt G mX3_expect 10 0 0 [.ref 306, .int 7] SH I_11 R L (fun r S' I' R' L' => Go G mX3_readDeed 11 0 0 27 [some (.ref 306), none, some (.int v2)] (r.toList ++ []) S' I' R' L' Q))) : Go G mX3_readDeed 11 0 0 20 [some (.ref 306), none, some (.int v2)] [.int s2, .int s1, .ref (y_6 + 5)] SH I R L Q := by
  obtain ⟨hi, h⟩ := h
  refine go_iast dX3_readDeed_20 (La_s5 hy_6) hi ?_
  have h := h _ rfl
  refine go_aload_n dX3_readDeed_21 rfl ?_
  refine go_bipush (v := 7) dX3_readDeed_22 (by decide) ?_
  refine go_callV0 (μ := mX3_readDeed) [.int _] dX3_readDeed_24 YX3_expect lX3_121 rfl ⟨_, rfl, rfl⟩ rfl (Nat.le_of_ble_eq_true rfl) (Nat.le_of_ble_eq_true rfl) rfl h
theorem b_X3_readDeed_135 {G : gG} {I : gI} {R : gR} {L : gL} {Q : gQ} (hR : g_Fx R) (h : Q none SH I R L) : Go G mX3_readDeed 11 0 0 135 [none, none, none] [] SH I R L Q := by
  exact go_vret dX3_readDeed_135 rfl rfl h
theorem b_X3_readDeed_72 {G : gG} {I : gI} {R : gR} {L : gL} {Q : gQ} {v2 : Int32} (hR : g_Fx R) (h : ∃ y_12, R 306 6 = some y_12 ∧ g_La y_12 ∧ (Mt G mX3_readNumberOf 10 0 0 [.ref 306, .int 0, .int 1] SH I R L (fun r S' I' R' L' => Go G mX3_readDeed 11 0 0 86 [some (.ref 306), none, none] (r.toList ++ [.int v2, .ref (y_12 + 6)]) S' I' R' L' Q))) : Go G mX3_readDeed 11 0 0 72 [some (.ref 306), none, some (.int v2)] [] SH I R L Q := by
  refine go_aload_n dX3_readDeed_72 rfl ?_
  obtain ⟨y_12, hry_12, hy_12, h⟩ := h
  refine go_getR dX3_readDeed_73 fX3_37 rfl rfl hry_12 ?_
  refine go_getR dX3_readDeed_76 fX3_124 rfl (La_s0 hy_12) (hR _ _ _ (La_r0_6 hy_12)) ?_
  refine go_iload_n dX3_readDeed_79 rfl ?_
  refine go_aload_n dX3_readDeed_80 rfl ?_
  refine go_iconst (v := 0) dX3_readDeed_81 (by decide) ?_
  refine go_iconst (v := 1) dX3_readDeed_82 (by decide) ?_
  refine go_drop 2 ?_
  refine go_callV0 (μ := mX3_readDeed) [.int _, .int _] dX3_readDeed_83 YX3_readNumberOf lX3_118 rfl ⟨_, rfl, rfl⟩ rfl (Nat.le_of_ble_eq_true rfl) (Nat.le_of_ble_eq_true rfl) rfl h
theorem b_X3_readDeed_27 {G : gG} {I : gI} {R : gR} {L : gL} {Q : gQ} {v2 : Int32} (hR : g_Fx R) (h : ∃ y_13, R 306 6 = some y_13 ∧ g_La y_13 ∧ (Mt G mX3_readNumberOf 10 0 0 [.ref 306, .int 0, .int 2] SH I R L (fun r S' I' R' L' => Go G mX3_readDeed 11 0 0 41 [some (.ref 306), none, none] (r.toList ++ [.int v2, .ref (y_13 + 6)]) S' I' R' L' Q))) : Go G mX3_readDeed 11 0 0 27 [some (.ref 306), none, some (.int v2)] [] SH I R L Q := by
  refine go_aload_n dX3_readDeed_27 rfl ?_
  obtain ⟨y_13, hry_13, hy_13, h⟩ := h
  refine go_getR dX3_readDeed_28 fX3_37 rfl rfl hry_13 ?_
  refine go_getR dX3_readDeed_31 fX3_124 rfl (La_s0 hy_13) (hR _ _ _ (La_r0_6 hy_13)) ?_
  refine go_iload_n dX3_readDeed_34 rfl ?_
  refine go_aload_n dX3_readDeed_35 rfl ?_
  refine go_iconst (v := 0) dX3_readDeed_36 (by decide) ?_
  refine go_iconst (v := 2) dX3_readDeed_37 (by decide) ?_
  refine go_drop 2 ?_
  refine go_callV0 (μ := mX3_readDeed) [.int _, .int _] dX3_readDeed_38 YX3_readNumberOf lX3_118 rfl ⟨_, rfl, rfl⟩ rfl (Nat.le_of_ble_eq_true rfl) (Nat.le_of_ble_eq_true rfl) rfl h
theorem b_X3_readDeed_86 {G : gG} {I : gI} {R : gR} {L : gL} {Q : gQ} {s1 s2 : Int32} {y_12 : Nat} (hR : g_Fx R) (hy_12 : g_La y_12) (h : vp_in s1 24 ∧ (∀ I_14 : gI, I_14 = up I (y_12 + 6) s1.toNatClampNeg s2 → Mt G mX3_expect 10 0 0 [.ref 306, .int 34] SH I_14 R L (fun r S' I' R' L' => Go G mX3_readDeed 11 0 0 135 [none, none, none] (r.toList ++ []) S' I' R' L' Q))) : Go G mX3_readDeed 11 0 0 86 [some (.ref 306), none, none] [.int s2, .int s1, .ref (y_12 + 6)] SH I R L Q := by
  obtain ⟨hi, h⟩ := h
  refine go_iast dX3_readDeed_86 (La_s6 hy_12) hi ?_
  have h := h _ rfl
  refine go_goto 129 dX3_readDeed_87 (by decide) ?_
  refine go_aload_n dX3_readDeed_129 rfl ?_
  refine go_bipush (v := 34) dX3_readDeed_130 (by decide) ?_
  refine go_drop 0 ?_
  refine go_callV0 (μ := mX3_readDeed) [.int _] dX3_readDeed_132 YX3_expect lX3_121 rfl ⟨_, rfl, rfl⟩ rfl (Nat.le_of_ble_eq_true rfl) (Nat.le_of_ble_eq_true rfl) rfl h
theorem b_X3_readDeed_41 {G : gG} {I : gI} {R : gR} {L : gL} {Q : gQ} {s1 s2 : Int32} {y_13 : Nat} (hR : g_Fx R) (hy_13 : g_La y_13) (h : vp_in s1 24 ∧ (∀ I_15 : gI, I_15 = up I (y_13 + 6) s1.toNatClampNeg s2 → Mt G mX3_expect 10 0 0 [.ref 306, .int 34] SH I_15 R L (fun r S' I' R' L' => Go G mX3_readDeed 11 0 0 135 [none, none, none] (r.toList ++ []) S' I' R' L' Q))) : Go G mX3_readDeed 11 0 0 41 [some (.ref 306), none, none] [.int s2, .int s1, .ref (y_13 + 6)] SH I R L Q := by
  obtain ⟨hi, h⟩ := h
  refine go_iast dX3_readDeed_41 (La_s6 hy_13) hi ?_
  have h := h _ rfl
  refine go_goto 129 dX3_readDeed_42 (by decide) ?_
  refine go_aload_n dX3_readDeed_129 rfl ?_
  refine go_bipush (v := 34) dX3_readDeed_130 (by decide) ?_
  refine go_drop 0 ?_
  refine go_callV0 (μ := mX3_readDeed) [.int _] dX3_readDeed_132 YX3_expect lX3_121 rfl ⟨_, rfl, rfl⟩ rfl (Nat.le_of_ble_eq_true rfl) (Nat.le_of_ble_eq_true rfl) rfl h
/-! reading on, or a fault: (what, where), or the token that stands there -/
abbrev rds : Type := Nat × Nat ⊕ Nat × Nat × Nat × Nat
def rdS (I : gI) (T : Nat → Nat) (n : Nat) (σ : rds) : Prop := (∃ k p, σ = .inl (k, p) ∧ k ≠ 0 ∧ k ≤ 6 ∧ p ≤ n ∧ I 306 7 = nI k ∧ I 306 8 = nI p) ∨ ∃ pl tk v a, σ = .inr (pl, tk, v, a) ∧ I 306 7 = 0 ∧ I 306 8 = -1 ∧ lxR I n pl tk v a ∧ ∃ p, Lx T n p pl tk v a
def frR (I I' : gI) : Prop := (∀ c, c ≠ 306 → I' c = I c) ∧ I' 306 1 = I 306 1
theorem frR.refl (I : gI) : frR I I := ⟨fun _ _ => rfl, rfl⟩
theorem frR.trans {I J K : gI} (h : frR I J) (g : frR J K) : frR I K := ⟨fun c a => (g.1 c a).trans (h.1 c a), g.2.trans h.2⟩
theorem frR_up {I J : gI} {j : Nat} {x : Int32} (h : frR I J) (hj : j ≠ 1) : frR I (up J 306 j x) := ⟨fun c a => by rw [up_off c a]; exact h.1 c a, by rw [up_ni (Ne.symm hj)]; exact h.2⟩
theorem frR_av {I J : gI} {pl tk a : Nat} {x : Int32} (h : frR I J) : frR I (avI J pl tk x a) := frR_up (frR_up (frR_up (frR_up h (by decide)) (by decide)) (by decide)) (by decide)
theorem rdS_of {I J : gI} {T : Nat → Nat} {n : Nat} {σ : rds} (h : rdS I T n σ) (e : ∀ j, J 306 j = I 306 j) : rdS J T n σ := by
  rcases h with ⟨k, p, e1, h1, h2, h3, h4, h5⟩ | ⟨pl, tk, v, a, e1, h1, h8, ⟨l1, l2, l3, l4, l5⟩, h3⟩
  · exact Or.inl ⟨k, p, e1, h1, h2, h3, (e 7).trans h4, (e 8).trans h5⟩
  · exact Or.inr ⟨pl, tk, v, a, e1, (e 7).trans h1, (e 8).trans h8, ⟨(e 1).trans l1, (e 2).trans l2, (e 3).trans l3, (e 4).trans l4, fun c => (e 5).trans (l5 c)⟩, h3⟩
theorem tpT_r {I J : gI} {T : Nat → Nat} {n : Nat} (h : tpT I T n) (g : frR I J) : tpT J T n := ⟨h.1, fun j hj => by rw [g.1 307 (by decide)]; exact h.2 j hj⟩
/-- a number is due -/
def NU (T : Nat → Nat) (n lo hi : Nat) (σ σ' : rds) (z : Int32) : Prop := (∃ f, σ = .inl f ∧ σ' = .inl f) ∨ ∃ pl tk v a, σ = .inr (pl, tk, v, a) ∧
  ((tk ≠ 37 ∧ σ' = .inl (1, pl)) ∨ (tk = 37 ∧ ¬ (lo ≤ v ∧ v ≤ hi) ∧ σ' = .inl (2, pl)) ∨ (tk = 37 ∧ lo ≤ v ∧ v ≤ hi ∧ z = nI v ∧ ∃ pl' tk' v' a', Lx T n a pl' tk' v' a' ∧ σ' = .inr (pl', tk', v', a')))
/-- a token is due -/
def EX (T : Nat → Nat) (n due : Nat) (σ σ' : rds) : Prop := (∃ f, σ = .inl f ∧ σ' = .inl f) ∨ ∃ pl tk v a, σ = .inr (pl, tk, v, a) ∧
  ((tk ≠ due ∧ σ' = .inl (1, pl)) ∨ (tk = due ∧ ∃ pl' tk' v' a', Lx T n a pl' tk' v' a' ∧ σ' = .inr (pl', tk', v', a')))
theorem rdS_f {I : gI} {T : Nat → Nat} {n pl k : Nat} (h7 : I 306 7 = 0) (h4 : I 306 4 = nI pl) (hp : pl ≤ n) (hk : k ≠ 0) (hk6 : k ≤ 6) : rdS (failI I (nI k)) T n (.inl (k, pl)) ∧ frR I (failI I (nI k)) := by
  have := fail_fr (y := 0) (k := k) h7 h4
  refine ⟨Or.inl ⟨k, pl, rfl, hk, hk6, hp, this.2.1, this.2.2⟩, ?_⟩
  rw [fail_eq h7 h4]
  exact frR_up (frR_up (frR.refl _) (by decide)) (by decide)
theorem k_X3_readNumberOf {G : gG} {I : gI} {R : gR} {L : gL} {Q : gQ} {T : Nat → Nat} {n lo hi : Nat} {σ : rds} (hR : g_Fx R) (hT : tpT I T n) (h : rdS I T n σ) (hlo : lo < 100) (hhi : hi < 100)
    (hq : ∀ I' σ' z, NU T n lo hi σ σ' z → rdS I' T n σ' → frR I I' → Q (some (.int z)) SH I' R L) : Mt G mX3_readNumberOf 10 0 0 [.ref 306, .int (nI lo), .int (nI hi)] SH I R L Q := by
  have hn := hT.1
  refine e_X3_readNumberOf hR ?_
  rcases h with ⟨k, p, e1, h1, h2, h3, h4, h5⟩ | ⟨pl, tk, v, a, e1, h1, h8, ⟨l1, l2, l3, l4, l5⟩, p, hp⟩
  · have hk0 : ¬ I 306 7 = 0 := by rw [h4]; exact nI_ne0 (by omega) (by omega)
    exact ⟨fun c => absurd c hk0, fun _ => hq I σ 0 (Or.inl ⟨_, e1, e1⟩) (Or.inl ⟨k, p, e1, h1, h2, h3, h4, h5⟩) (frR.refl _)⟩
  · obtain ⟨x1, x2, x3, x4, x5, x6, x7, x8⟩ := Lx_adv hp
    refine ⟨fun _ => ?_, fun c => absurd h1 c⟩
    rintro _ rfl
    have e37 : nI tk = 37 ↔ tk = 37 := tkE (k := 37) (by omega) (by decide)
    rw [l3, e37]
    refine ⟨fun c => ?_, fun c => ?_⟩
    · have hv := x7 c
      rw [l5 c, nltI (by omega) (by omega), nleI (by omega) (by omega)]
      have bad : ¬ (lo ≤ v ∧ v ≤ hi) → Q (some (.int (nI v))) SH (failI I 2) R L := fun nb => by
        have ff := rdS_f (T := T) (n := n) (k := 2) h1 l4 x4 (by decide) (by decide)
        exact hq _ _ _ (Or.inr ⟨pl, tk, v, a, e1, Or.inr (Or.inl ⟨c, nb, rfl⟩)⟩) ff.1 ff.2
      refine ⟨fun c2 => ?_, fun c2 => ⟨fun c3 => ?_, fun c3 => ?_⟩⟩
      · rintro _ rfl
        exact bad (by omega)
      · refine k_X3_advance (p := a) hR hT l1 l2 (by omega) (fun pl' tk' v' a' x hL hx => b_X3_readNumberOf_53 hR ?_)
        exact hq _ _ _ (Or.inr ⟨pl, tk, v, a, e1, Or.inr (Or.inr ⟨c, by omega, c3, rfl, pl', tk', v', a', hL, rfl⟩)⟩) (Or.inr ⟨pl', tk', v', a', rfl, by rw [av_o (by omega)]; exact h1, by rw [av_o (by omega)]; exact h8, lxR_av l1 hx, _, hL⟩) (frR_av (frR.refl _))
      · rintro _ rfl
        exact b_X3_readNumberOf_53 hR (bad (by omega))
    · rintro _ rfl
      have ff := rdS_f (T := T) (n := n) (k := 1) h1 l4 x4 (by decide) (by decide)
      exact b_X3_readNumberOf_53 hR (hq _ _ _ (Or.inr ⟨pl, tk, v, a, e1, Or.inl ⟨c, rfl⟩⟩) ff.1 ff.2)
theorem k_X3_expect {G : gG} {I : gI} {R : gR} {L : gL} {Q : gQ} {T : Nat → Nat} {n due : Nat} {σ : rds} (hR : g_Fx R) (hT : tpT I T n) (h : rdS I T n σ) (hdue : due < 41)
    (hq : ∀ I' σ', EX T n due σ σ' → rdS I' T n σ' → frR I I' → Q none SH I' R L) : Mt G mX3_expect 10 0 0 [.ref 306, .int (nI due)] SH I R L Q := by
  have hn := hT.1
  refine e_X3_expect hR ?_
  rcases h with ⟨k, p, e1, h1, h2, h3, h4, h5⟩ | ⟨pl, tk, v, a, e1, h1, h8, ⟨l1, l2, l3, l4, l5⟩, p, hp⟩
  · have hk0 : ¬ I 306 7 = 0 := by rw [h4]; exact nI_ne0 (by omega) (by omega)
    exact ⟨fun _ => hq I σ (Or.inl ⟨_, e1, e1⟩) (Or.inl ⟨k, p, e1, h1, h2, h3, h4, h5⟩) (frR.refl _), fun c => absurd c hk0⟩
  · obtain ⟨x1, x2, x3, x4, x5, x6, x7, x8⟩ := Lx_adv hp
    refine ⟨fun c => absurd h1 c, fun _ => ?_⟩
    have eD : nI tk = nI due ↔ tk = due := tkE (by omega) (by omega)
    rw [l3, eD]
    refine ⟨fun c => ?_, fun c => ?_⟩
    · refine k_X3_advance (p := a) hR hT l1 l2 (by omega) (fun pl' tk' v' a' x hL hx => b_X3_expect_27 hR ?_)
      exact hq _ _ (Or.inr ⟨pl, tk, v, a, e1, Or.inr ⟨c, pl', tk', v', a', hL, rfl⟩⟩) (Or.inr ⟨pl', tk', v', a', rfl, by rw [av_o (by omega)]; exact h1, by rw [av_o (by omega)]; exact h8, lxR_av l1 hx, _, hL⟩) (frR_av (frR.refl _))
    · rintro _ rfl
      have ff := rdS_f (T := T) (n := n) (k := 1) h1 l4 x4 (by decide) (by decide)
      exact b_X3_expect_27 hR (hq _ _ (Or.inr ⟨pl, tk, v, a, e1, Or.inl ⟨c, rfl⟩⟩) ff.1 ff.2)
/-- a deed's clause, behind its verb -/
def DR (T : Nat → Nat) (n vb : Nat) (σ σ' : rds) (z w : Int32) : Prop :=
  (vb = 3 ∧ ∃ σ1 σ2 σ3, NU T n 0 8 σ σ1 z ∧ EX T n 7 σ1 σ2 ∧ NU T n 0 2 σ2 σ3 w ∧ EX T n 34 σ3 σ') ∨
  (vb = 4 ∧ ∃ σ1 σ2 σ3, NU T n 0 8 σ σ1 z ∧ EX T n 8 σ1 σ2 ∧ NU T n 0 1 σ2 σ3 w ∧ EX T n 34 σ3 σ') ∨
  (vb = 5 ∧ ∃ σ1, NU T n 0 1 σ σ1 z ∧ EX T n 34 σ1 σ') ∨
  (vb = 6 ∧ ∃ σ1, NU T n 1 40 σ σ1 z ∧ EX T n 34 σ1 σ')
def frD (I I' : gI) (y k : Nat) : Prop := (∀ c j, c ≠ 306 → ¬ (c = y + 5 ∧ j = k) → ¬ (c = y + 6 ∧ j = k) → I' c j = I c j) ∧ I' 306 1 = I 306 1
theorem k_X3_readDeed {G : gG} {I : gI} {R : gR} {L : gL} {Q : gQ} {T : Nat → Nat} {n y vb k : Nat} {σ : rds} (hR : g_Fx R) (hr : R 306 6 = some y) (hy : g_La y) (hT : tpT I T n) (h : rdS I T n σ) (hv3 : 3 ≤ vb) (hv6 : vb ≤ 6) (hk : k < 24)
    (hq : ∀ I' σ' z w, DR T n vb σ σ' z w → rdS I' T n σ' → frD I I' y k → I' (y + 5) k = z → (vb ≤ 4 → I' (y + 6) k = w) → Q none SH I' R L) : Mt G mX3_readDeed 11 0 0 [.ref 306, .int (nI vb), .int (nI k)] SH I R L Q := by
  have hr2 := La_rng hy
  have e3 : nI vb = 3 ↔ vb = 3 := nI_eq (b := 3) (by omega) (by decide)
  have e4 : nI vb = 4 ↔ vb = 4 := nI_eq (b := 4) (by omega) (by decide)
  have e5 : nI vb = 5 ↔ vb = 5 := nI_eq (b := 5) (by omega) (by decide)
  have vk : vp_in (nI k) 24 := vp_in_nI hk (by decide)
  refine e_X3_readDeed hR ?_
  rw [e3, e4, e5]
  refine ⟨fun c3 => ⟨fun c4 => ⟨fun c5 => ⟨y, hr, hy, ?_⟩, fun c5 => ⟨y, hr, hy, ?_⟩⟩, fun c4 => ⟨y, hr, hy, ?_⟩⟩, fun c3 => ⟨y, hr, hy, ?_⟩⟩
  · refine k_X3_readNumberOf (lo := 1) (hi := 40) hR hT h (by decide) (by decide) (fun I1 σ1 z n1 s1 f1 => b_X3_readDeed_128 hR hy ⟨vk, ?_⟩)
    rintro _ rfl
    rw [nI_clamp (by omega)]
    refine k_X3_expect (due := 34) hR (tpT_up (tpT_r hT f1) (by omega)) (rdS_of s1 (fun j => up_nc (by omega))) (by decide) (fun I2 σ2 n2 s2 f2 => b_X3_readDeed_135 hR ?_)
    refine hq I2 σ2 z 0 (Or.inr (Or.inr (Or.inr ⟨by omega, σ1, n1, n2⟩))) s2 ⟨fun c j a b d => ?_, ?_⟩ ?_ (fun q => by omega)
    · rw [f2.1 c a, up_ne b, f1.1 c a]
    · rw [f2.2, up_nc (by omega), f1.2]
    · rw [f2.1 (y + 5) (by omega), up_eq]
  · refine k_X3_readNumberOf (lo := 0) (hi := 1) hR hT h (by decide) (by decide) (fun I1 σ1 z n1 s1 f1 => b_X3_readDeed_109 hR hy ⟨vk, ?_⟩)
    rintro _ rfl
    rw [nI_clamp (by omega)]
    refine k_X3_expect (due := 34) hR (tpT_up (tpT_r hT f1) (by omega)) (rdS_of s1 (fun j => up_nc (by omega))) (by decide) (fun I2 σ2 n2 s2 f2 => b_X3_readDeed_135 hR ?_)
    refine hq I2 σ2 z 0 (Or.inr (Or.inr (Or.inl ⟨by omega, σ1, n1, n2⟩))) s2 ⟨fun c j a b d => ?_, ?_⟩ ?_ (fun q => by omega)
    · rw [f2.1 c a, up_ne b, f1.1 c a]
    · rw [f2.2, up_nc (by omega), f1.2]
    · rw [f2.1 (y + 5) (by omega), up_eq]
  · refine k_X3_readNumberOf (lo := 0) (hi := 8) hR hT h (by decide) (by decide) (fun I1 σ1 z n1 s1 f1 => b_X3_readDeed_65 hR hy ⟨vk, ?_⟩)
    rintro _ rfl
    rw [nI_clamp (by omega)]
    have t1 : tpT (up I1 (y + 5) k z) T n := tpT_up (tpT_r hT f1) (by omega)
    refine k_X3_expect (due := 8) hR t1 (rdS_of s1 (fun j => up_nc (by omega))) (by decide) (fun I2 σ2 n2 s2 f2 => b_X3_readDeed_72 hR ⟨y, hr, hy, ?_⟩)
    refine k_X3_readNumberOf (lo := 0) (hi := 1) hR (tpT_r t1 f2) s2 (by decide) (by decide) (fun I3 σ3 w n3 s3 f3 => b_X3_readDeed_86 hR hy ⟨vk, ?_⟩)
    rintro _ rfl
    rw [nI_clamp (by omega)]
    refine k_X3_expect (due := 34) hR (tpT_up (tpT_r (tpT_r t1 f2) f3) (by omega)) (rdS_of s3 (fun j => up_nc (by omega))) (by decide) (fun I4 σ4 n4 s4 f4 => b_X3_readDeed_135 hR ?_)
    refine hq I4 σ4 z w (Or.inr (Or.inl ⟨by omega, σ1, σ2, σ3, n1, n2, n3, n4⟩)) s4 ⟨fun c j a b d => ?_, ?_⟩ ?_ (fun q => ?_)
    · rw [f4.1 c a, up_ne d, f3.1 c a, f2.1 c a, up_ne b, f1.1 c a]
    · rw [f4.2, up_nc (by omega), f3.2, f2.2, up_nc (by omega), f1.2]
    · rw [f4.1 (y + 5) (by omega), up_nc (by omega), f3.1 (y + 5) (by omega), f2.1 (y + 5) (by omega), up_eq]
    · rw [f4.1 (y + 6) (by omega), up_eq]
  · refine k_X3_readNumberOf (lo := 0) (hi := 8) hR hT h (by decide) (by decide) (fun I1 σ1 z n1 s1 f1 => b_X3_readDeed_20 hR hy ⟨vk, ?_⟩)
    rintro _ rfl
    rw [nI_clamp (by omega)]
    have t1 : tpT (up I1 (y + 5) k z) T n := tpT_up (tpT_r hT f1) (by omega)
    refine k_X3_expect (due := 7) hR t1 (rdS_of s1 (fun j => up_nc (by omega))) (by decide) (fun I2 σ2 n2 s2 f2 => b_X3_readDeed_27 hR ⟨y, hr, hy, ?_⟩)
    refine k_X3_readNumberOf (lo := 0) (hi := 2) hR (tpT_r t1 f2) s2 (by decide) (by decide) (fun I3 σ3 w n3 s3 f3 => b_X3_readDeed_41 hR hy ⟨vk, ?_⟩)
    rintro _ rfl
    rw [nI_clamp (by omega)]
    refine k_X3_expect (due := 34) hR (tpT_up (tpT_r (tpT_r t1 f2) f3) (by omega)) (rdS_of s3 (fun j => up_nc (by omega))) (by decide) (fun I4 σ4 n4 s4 f4 => b_X3_readDeed_135 hR ?_)
    refine hq I4 σ4 z w (Or.inl ⟨by omega, σ1, σ2, σ3, n1, n2, n3, n4⟩) s4 ⟨fun c j a b d => ?_, ?_⟩ ?_ (fun q => ?_)
    · rw [f4.1 c a, up_ne d, f3.1 c a, f2.1 c a, up_ne b, f1.1 c a]
    · rw [f4.2, up_nc (by omega), f3.2, f2.2, up_nc (by omega), f1.2]
    · rw [f4.1 (y + 5) (by omega), up_nc (by omega), f3.1 (y + 5) (by omega), f2.1 (y + 5) (by omega), up_eq]
    · rw [f4.1 (y + 6) (by omega), up_eq]
