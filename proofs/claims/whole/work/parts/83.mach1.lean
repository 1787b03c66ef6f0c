theorem e_X3_hold {G : gG} {I : gI} {R : gR} {L : gL} {Q : gQ} (hR : g_Fx R) (h : Mt G mX3_release 3 0 0 [.ref 306, .int (bnd (I 306 3))] SH I R L (fun r S' I' R' L' => Go G mX3_hold 4 0 0 11 [some (.ref 306)] (r.toList ++ []) S' I' R' L' Q)) : Mt G mX3_hold 4 0 0 [.ref 306] SH I R L Q := by
  refine go_start rfl (Nat.le_of_ble_eq_true rfl) rfl ?_
  refine go_aload_n dX3_hold_0 rfl ?_
  refine go_aload_n dX3_hold_1 rfl ?_
  refine go_getI dX3_hold_2 fX3_49 rfl rfl ?_
  refine go_callS0 (μ := mX3_hold) [.int _] dX3_hold_5 YX3_bindingOf lX3_154 rfl (Nat.le_of_ble_eq_true rfl) (Nat.le_of_ble_eq_true rfl) rfl (k_X3_bindingOf hR ?_)
  refine go_callV0 (μ := mX3_hold) [.int _] dX3_hold_8 YX3_release lX3_157 rfl ⟨_, rfl, rfl⟩ rfl (Nat.le_of_ble_eq_true rfl) (Nat.le_of_ble_eq_true rfl) rfl h
theorem b_X3_hold_11 {G : gG} {I : gI} {R : gR} {L : gL} {Q : gQ} (hR : g_Fx R) (h : ∀ I_1 : gI, I_1 = puW I (I 306 3) → ∀ I_2 : gI, I_2 = up I_1 306 13 1 → Q none SH I_2 R L) : Go G mX3_hold 4 0 0 11 [some (.ref 306)] [] SH I R L Q := by
  refine go_aload_n dX3_hold_11 rfl ?_
  refine go_aload_n dX3_hold_12 rfl ?_
  refine go_getI dX3_hold_13 fX3_49 rfl rfl ?_
  refine go_callV0 (μ := mX3_hold) [.int _] dX3_hold_16 YX3_putWaiting lX3_185 rfl ⟨_, rfl, rfl⟩ rfl (Nat.le_of_ble_eq_true rfl) (Nat.le_of_ble_eq_true rfl) rfl (k_X3_putWaiting hR ?_)
  have h := h _ rfl
  refine go_aload_n dX3_hold_19 rfl ?_
  refine go_iconst (v := 1) dX3_hold_20 (by decide) ?_
  refine go_putI dX3_hold_21 fX3_141 rfl rfl rfl rfl ?_
  have h := h _ rfl
  exact go_vret dX3_hold_24 rfl rfl h
theorem e_X3_openUp {G : gG} {I : gI} {R : gR} {L : gL} {Q : gQ} {w : Int32} (hR : g_Fx R) (h : ((I 306 11) < 8 → ∀ I_1 : gI, I_1 = up I 306 11 ((I 306 11) + 1) → ∀ I_2 : gI, I_2 = puW I_1 w → Q none SH I_2 R L) ∧ (¬ (I 306 11) < 8 → ∀ I_3 : gI, I_3 = failI I (3 : Int32) → Q none SH I_3 R L)) : Mt G mX3_openUp 2 0 0 [.ref 306, .int w] SH I R L Q := by
  refine go_start rfl (Nat.le_of_ble_eq_true rfl) rfl ?_
  refine go_aload_n dX3_openUp_0 rfl ?_
  refine go_getI dX3_openUp_1 fX3_135 rfl rfl ?_
  refine go_bipush (v := 8) dX3_openUp_4 (by decide) ?_
  refine go_icmp_lt 15 dX3_openUp_6 (by decide) (fun c => ?_) (fun c => ?_)
  · have h := h.1 c
    refine go_aload_n dX3_openUp_15 rfl ?_
    refine go_dup dX3_openUp_16 rfl ?_
    refine go_getI dX3_openUp_17 fX3_135 rfl rfl ?_
    refine go_iconst (v := 1) dX3_openUp_20 (by decide) ?_
    refine go_iadd dX3_openUp_21 ?_
    refine go_putI dX3_openUp_22 fX3_135 rfl rfl rfl rfl ?_
    have h := h _ rfl
    refine go_aload_n dX3_openUp_25 rfl ?_
    refine go_iload_n dX3_openUp_26 rfl ?_
    refine go_callV0 (μ := mX3_openUp) [.int _] dX3_openUp_27 YX3_putWaiting lX3_185 rfl ⟨_, rfl, rfl⟩ rfl (Nat.le_of_ble_eq_true rfl) (Nat.le_of_ble_eq_true rfl) rfl (k_X3_putWaiting hR ?_)
    have h := h _ rfl
    exact go_vret dX3_openUp_30 rfl rfl h
  · have h := h.2 c
    refine go_aload_n dX3_openUp_9 rfl ?_
    refine go_iconst (v := 3) dX3_openUp_10 (by decide) ?_
    refine go_callV0 (μ := mX3_openUp) [.int _] dX3_openUp_11 YX3_fail lX3_96 rfl ⟨_, rfl, rfl⟩ rfl (Nat.le_of_ble_eq_true rfl) (Nat.le_of_ble_eq_true rfl) rfl (k_X3_fail hR ?_)
    have h := h _ rfl
    exact go_vret dX3_openUp_14 rfl rfl h
theorem e_X3_readOne {G : gG} {I : gI} {R : gR} {L : gL} {Q : gQ} {vb : Int32} (hR : g_Fx R) (h : (¬ (I 306 3) = 37 → ((I 306 3) < 12 → Go G mX3_readOne 5 0 0 107 [some (.ref 306), some (.int vb)] [] SH I R L Q) ∧ (¬ (I 306 3) < 12 → (24 ≤ (I 306 3) → Go G mX3_readOne 5 0 0 107 [some (.ref 306), some (.int vb)] [] SH I R L Q) ∧ (¬ 24 ≤ (I 306 3) → vp_in vb 3 ∧ ((¬ (((g_no.getD vb.toNatClampNeg 0) >>> (((I 306 3) - 12) &&& 31)) &&& 1) = 0 → Go G mX3_readOne 5 0 0 84 [some (.ref 306), none] [] SH I R L Q) ∧ ((((g_no.getD vb.toNatClampNeg 0) >>> (((I 306 3) - 12) &&& 31)) &&& 1) = 0 → ∀ I_1 : gI, I_1 = failI I (5 : Int32) → Go G mX3_readOne 5 0 0 84 [some (.ref 306), none] [] SH I_1 R L Q))))) ∧ ((I 306 3) = 37 → ((I 306 5) ≤ 9999 → Go G mX3_readOne 5 0 0 24 [some (.ref 306), none] [] SH I R L Q) ∧ (¬ (I 306 5) ≤ 9999 → ∀ I_5 : gI, I_5 = failI I (2 : Int32) → Go G mX3_readOne 5 0 0 24 [some (.ref 306), none] [] SH I_5 R L Q))) : Mt G mX3_readOne 5 0 0 [.ref 306, .int vb] SH I R L Q := by
  refine go_start rfl (Nat.le_of_ble_eq_true rfl) rfl ?_
  refine go_aload_n dX3_readOne_0 rfl ?_
  refine go_getI dX3_readOne_1 fX3_49 rfl rfl ?_
  refine go_bipush (v := 37) dX3_readOne_4 (by decide) ?_
  refine go_icmp_ne 43 dX3_readOne_6 (by decide) (fun c => ?_) (fun c => ?_)
  · have h := h.1 c
    refine go_aload_n dX3_readOne_43 rfl ?_
    refine go_getI dX3_readOne_44 fX3_49 rfl rfl ?_
    refine go_bipush (v := 12) dX3_readOne_47 (by decide) ?_
    refine go_icmp_lt 107 dX3_readOne_49 (by decide) (fun c => ?_) (fun c => ?_)
    · have h := h.1 c
      exact h
    · have h := h.2 c
      refine go_aload_n dX3_readOne_52 rfl ?_
      refine go_getI dX3_readOne_53 fX3_49 rfl rfl ?_
      refine go_bipush (v := 24) dX3_readOne_56 (by decide) ?_
      refine go_icmp_ge 107 dX3_readOne_58 (by decide) (fun c => ?_) (fun c => ?_)
      · have h := h.1 c
        exact h
      · have h := h.2 c
        refine go_names rfl dX3_readOne_61 ?_
        refine go_iload_n dX3_readOne_64 rfl ?_
        obtain ⟨hi, h⟩ := h
        refine go_names_ld dX3_readOne_65 hi ?_
        refine go_aload_n dX3_readOne_66 rfl ?_
        refine go_getI dX3_readOne_67 fX3_49 rfl rfl ?_
        refine go_bipush (v := 12) dX3_readOne_70 (by decide) ?_
        refine go_isub dX3_readOne_72 ?_
        refine go_ishr dX3_readOne_73 ?_
        refine go_iconst (v := 1) dX3_readOne_74 (by decide) ?_
        refine go_iand dX3_readOne_75 ?_
        refine go_if_ne 84 dX3_readOne_76 (by decide) (fun c => ?_) (fun c => ?_)
        · have h := h.1 c
          refine go_drop 1 ?_
          exact h
        · have h := h.2 c
          refine go_aload_n dX3_readOne_79 rfl ?_
          refine go_iconst (v := 5) dX3_readOne_80 (by decide) ?_
          refine go_callV0 (μ := mX3_readOne) [.int _] dX3_readOne_81 YX3_fail lX3_96 rfl ⟨_, rfl, rfl⟩ rfl (Nat.le_of_ble_eq_true rfl) (Nat.le_of_ble_eq_true rfl) rfl (k_X3_fail hR ?_)
          have h := h _ rfl
          refine go_drop 1 ?_
          exact h
  · have h := h.2 c
    refine go_aload_n dX3_readOne_9 rfl ?_
    refine go_getI dX3_readOne_10 fX3_87 rfl rfl ?_
    refine go_sipush (v := 9999) dX3_readOne_13 (by decide) ?_
    refine go_icmp_le 24 dX3_readOne_16 (by decide) (fun c => ?_) (fun c => ?_)
    · have h := h.1 c
      refine go_drop 1 ?_
      exact h
    · have h := h.2 c
      refine go_aload_n dX3_readOne_19 rfl ?_
      refine go_iconst (v := 2) dX3_readOne_20 (by decide) ?_
      refine go_callV0 (μ := mX3_readOne) [.int _] dX3_readOne_21 YX3_fail lX3_96 rfl ⟨_, rfl, rfl⟩ rfl (Nat.le_of_ble_eq_true rfl) (Nat.le_of_ble_eq_true rfl) rfl (k_X3_fail hR ?_)
      have h := h _ rfl
      refine go_drop 1 ?_
      exact h
theorem b_X3_readOne_107 {G : gG} {I : gI} {R : gR} {L : gL} {Q : gQ} {v1 : Int32} (hR : g_Fx R) (h : (¬ (I 306 3) = 32 → (¬ (I 306 3) = 29 → (¬ (I 306 3) = 11 → ∀ I_8 : gI, I_8 = failI I (1 : Int32) → Q none SH I_8 R L) ∧ ((I 306 3) = 11 → (¬ v1 = 2 → ∀ I_9 : gI, I_9 = failI I (1 : Int32) → Q none SH I_9 R L) ∧ (v1 = 2 → (¬ (I 306 10 ≤ 0 ∨ 64 < I 306 10 ∨ I 308 (I 306 10 - 1).toNatClampNeg = 9 ∨ I 308 (I 306 10 - 1).toNatClampNeg = 10 ∨ I 308 (I 306 10 - 1).toNatClampNeg = 11) → ∀ I_10 : gI, I_10 = failI I (1 : Int32) → Q none SH I_10 R L) ∧ (I 306 10 ≤ 0 ∨ 64 < I 306 10 ∨ I 308 (I 306 10 - 1).toNatClampNeg = 9 ∨ I 308 (I 306 10 - 1).toNatClampNeg = 10 ∨ I 308 (I 306 10 - 1).toNatClampNeg = 11 → Mt G mX3_openUp 2 0 0 [.ref 306, .int 11] SH I R L (fun r S' I' R' L' => Go G mX3_readOne 5 0 0 180 [none, none] (r.toList ++ []) S' I' R' L' Q))))) ∧ ((I 306 3) = 29 → Mt G mX3_openUp 2 0 0 [.ref 306, .int 40] SH I R L (fun r S' I' R' L' => Go G mX3_readOne 5 0 0 150 [none, none] (r.toList ++ []) S' I' R' L' Q))) ∧ ((I 306 3) = 32 → ∀ I_15 : gI, I_15 = up I 306 12 ((I 306 12) + 1) → Mt G mX3_openUp 2 0 0 [.ref 306, .int 32] SH I_15 R L (fun r S' I' R' L' => Go G mX3_readOne 5 0 0 132 [none, none] (r.toList ++ []) S' I' R' L' Q))) : Go G mX3_readOne 5 0 0 107 [some (.ref 306), some (.int v1)] [] SH I R L Q := by
  refine go_aload_n dX3_readOne_107 rfl ?_
  refine go_getI dX3_readOne_108 fX3_49 rfl rfl ?_
  refine go_bipush (v := 32) dX3_readOne_111 (by decide) ?_
  refine go_icmp_ne 135 dX3_readOne_113 (by decide) (fun c => ?_) (fun c => ?_)
  · have h := h.1 c
    refine go_aload_n dX3_readOne_135 rfl ?_
    refine go_getI dX3_readOne_136 fX3_49 rfl rfl ?_
    refine go_bipush (v := 29) dX3_readOne_139 (by decide) ?_
    refine go_icmp_ne 153 dX3_readOne_141 (by decide) (fun c => ?_) (fun c => ?_)
    · have h := h.1 c
      refine go_aload_n dX3_readOne_153 rfl ?_
      refine go_getI dX3_readOne_154 fX3_49 rfl rfl ?_
      refine go_bipush (v := 11) dX3_readOne_157 (by decide) ?_
      refine go_icmp_ne 183 dX3_readOne_159 (by decide) (fun c => ?_) (fun c => ?_)
      · have h := h.1 c
        refine go_aload_n dX3_readOne_183 rfl ?_
        refine go_iconst (v := 1) dX3_readOne_184 (by decide) ?_
        refine go_callV0 (μ := mX3_readOne) [.int _] dX3_readOne_185 YX3_fail lX3_96 rfl ⟨_, rfl, rfl⟩ rfl (Nat.le_of_ble_eq_true rfl) (Nat.le_of_ble_eq_true rfl) rfl (k_X3_fail hR ?_)
        have h := h _ rfl
        exact go_vret dX3_readOne_188 rfl rfl h
      · have h := h.2 c
        refine go_iload_n dX3_readOne_162 rfl ?_
        refine go_iconst (v := 2) dX3_readOne_163 (by decide) ?_
        refine go_icmp_ne 183 dX3_readOne_164 (by decide) (fun c => ?_) (fun c => ?_)
        · have h := h.1 c
          refine go_aload_n dX3_readOne_183 rfl ?_
          refine go_iconst (v := 1) dX3_readOne_184 (by decide) ?_
          refine go_callV0 (μ := mX3_readOne) [.int _] dX3_readOne_185 YX3_fail lX3_96 rfl ⟨_, rfl, rfl⟩ rfl (Nat.le_of_ble_eq_true rfl) (Nat.le_of_ble_eq_true rfl) rfl (k_X3_fail hR ?_)
          have h := h _ rfl
          exact go_vret dX3_readOne_188 rfl rfl h
        · have h := h.2 c
          refine go_aload_n dX3_readOne_167 rfl ?_
          refine go_callV0 (μ := mX3_readOne) [] dX3_readOne_168 YX3_isAheadOfAsk lX3_172 rfl ⟨_, rfl, rfl⟩ rfl (Nat.le_of_ble_eq_true rfl) (Nat.le_of_ble_eq_true rfl) rfl (k_X3_isAheadOfAsk hR ?_)
          refine go_if_eq 183 dX3_readOne_171 (by decide) (fun c => ?_) (fun c => ?_)
          · have h := h.1 (b0.mp c)
            refine go_aload_n dX3_readOne_183 rfl ?_
            refine go_iconst (v := 1) dX3_readOne_184 (by decide) ?_
            refine go_callV0 (μ := mX3_readOne) [.int _] dX3_readOne_185 YX3_fail lX3_96 rfl ⟨_, rfl, rfl⟩ rfl (Nat.le_of_ble_eq_true rfl) (Nat.le_of_ble_eq_true rfl) rfl (k_X3_fail hR ?_)
            have h := h _ rfl
            exact go_vret dX3_readOne_188 rfl rfl h
          · have h := h.2 (b1.mp c)
            refine go_aload_n dX3_readOne_174 rfl ?_
            refine go_bipush (v := 11) dX3_readOne_175 (by decide) ?_
            refine go_drop 0 ?_
            refine go_drop 1 ?_
            refine go_callV0 (μ := mX3_readOne) [.int _] dX3_readOne_177 YX3_openUp lX3_169 rfl ⟨_, rfl, rfl⟩ rfl (Nat.le_of_ble_eq_true rfl) (Nat.le_of_ble_eq_true rfl) rfl h
    · have h := h.2 c
      refine go_aload_n dX3_readOne_144 rfl ?_
      refine go_bipush (v := 40) dX3_readOne_145 (by decide) ?_
      refine go_drop 0 ?_
      refine go_drop 1 ?_
      refine go_callV0 (μ := mX3_readOne) [.int _] dX3_readOne_147 YX3_openUp lX3_169 rfl ⟨_, rfl, rfl⟩ rfl (Nat.le_of_ble_eq_true rfl) (Nat.le_of_ble_eq_true rfl) rfl h
  · have h := h.2 c
    refine go_aload_n dX3_readOne_116 rfl ?_
    refine go_dup dX3_readOne_117 rfl ?_
    refine go_getI dX3_readOne_118 fX3_138 rfl rfl ?_
    refine go_iconst (v := 1) dX3_readOne_121 (by decide) ?_
    refine go_iadd dX3_readOne_122 ?_
    refine go_putI dX3_readOne_123 fX3_138 rfl rfl rfl rfl ?_
    have h := h _ rfl
    refine go_aload_n dX3_readOne_126 rfl ?_
    refine go_bipush (v := 32) dX3_readOne_127 (by decide) ?_
    refine go_drop 0 ?_
    refine go_drop 1 ?_
    refine go_callV0 (μ := mX3_readOne) [.int _] dX3_readOne_129 YX3_openUp lX3_169 rfl ⟨_, rfl, rfl⟩ rfl (Nat.le_of_ble_eq_true rfl) (Nat.le_of_ble_eq_true rfl) rfl h
theorem b_X3_readOne_84 {G : gG} {I : gI} {R : gR} {L : gL} {Q : gQ} (hR : g_Fx R) (h : ∃ y_17, R 306 6 = some y_17 ∧ g_La y_17 ∧ (∀ I_18 : gI, I_18 = emI I y_17 (10000 + (I 306 3)) → ∀ I_19 : gI, I_19 = up I_18 306 13 0 → Q none SH I_19 R L)) : Go G mX3_readOne 5 0 0 84 [some (.ref 306), none] [] SH I R L Q := by
  refine go_aload_n dX3_readOne_84 rfl ?_
  obtain ⟨y_17, hry_17, hy_17, h⟩ := h
  refine go_getR dX3_readOne_85 fX3_37 rfl rfl hry_17 ?_
  refine go_sipush (v := 10000) dX3_readOne_88 (by decide) ?_
  refine go_aload_n dX3_readOne_91 rfl ?_
  refine go_getI dX3_readOne_92 fX3_49 rfl rfl ?_
  refine go_iadd dX3_readOne_95 ?_
  refine go_callV0 (μ := mX3_readOne) [.int _] dX3_readOne_96 YX2_emit lX3_163 (La_s0 hy_17) ⟨_, rfl, rfl⟩ rfl (Nat.le_of_ble_eq_true rfl) (Nat.le_of_ble_eq_true rfl) rfl (k_X2_emit hR hy_17 ?_)
  have h := h _ rfl
  refine go_aload_n dX3_readOne_99 rfl ?_
  refine go_iconst (v := 0) dX3_readOne_100 (by decide) ?_
  refine go_putI dX3_readOne_101 fX3_141 rfl rfl rfl rfl ?_
  have h := h _ rfl
  refine go_goto 188 dX3_readOne_104 (by decide) ?_
  exact go_vret dX3_readOne_188 rfl rfl h
theorem b_X3_readOne_24 {G : gG} {I : gI} {R : gR} {L : gL} {Q : gQ} (hR : g_Fx R) (h : ∃ y_20, R 306 6 = some y_20 ∧ g_La y_20 ∧ (∀ I_21 : gI, I_21 = emI I y_20 (I 306 5) → ∀ I_22 : gI, I_22 = up I_21 306 13 0 → Q none SH I_22 R L)) : Go G mX3_readOne 5 0 0 24 [some (.ref 306), none] [] SH I R L Q := by
  refine go_aload_n dX3_readOne_24 rfl ?_
  obtain ⟨y_20, hry_20, hy_20, h⟩ := h
  refine go_getR dX3_readOne_25 fX3_37 rfl rfl hry_20 ?_
  refine go_aload_n dX3_readOne_28 rfl ?_
  refine go_getI dX3_readOne_29 fX3_87 rfl rfl ?_
  refine go_callV0 (μ := mX3_readOne) [.int _] dX3_readOne_32 YX2_emit lX3_163 (La_s0 hy_20) ⟨_, rfl, rfl⟩ rfl (Nat.le_of_ble_eq_true rfl) (Nat.le_of_ble_eq_true rfl) rfl (k_X2_emit hR hy_20 ?_)
  have h := h _ rfl
  refine go_aload_n dX3_readOne_35 rfl ?_
  refine go_iconst (v := 0) dX3_readOne_36 (by decide) ?_
  refine go_putI dX3_readOne_37 fX3_141 rfl rfl rfl rfl ?_
  have h := h _ rfl
  refine go_goto 188 dX3_readOne_40 (by decide) ?_
  exact go_vret dX3_readOne_188 rfl rfl h
theorem b_X3_readOne_180 {G : gG} {I : gI} {R : gR} {L : gL} {Q : gQ} (hR : g_Fx R) (h : Q none SH I R L) : Go G mX3_readOne 5 0 0 180 [none, none] [] SH I R L Q := by
  refine go_goto 188 dX3_readOne_180 (by decide) ?_
  exact go_vret dX3_readOne_188 rfl rfl h
theorem b_X3_readOne_150 {G : gG} {I : gI} {R : gR} {L : gL} {Q : gQ} (hR : g_Fx R) (h : Q none SH I R L) : Go G mX3_readOne 5 0 0 150 [none, none] [] SH I R L Q := by
  refine go_goto 188 dX3_readOne_150 (by decide) ?_
  exact go_vret dX3_readOne_188 rfl rfl h
theorem b_X3_readOne_132 {G : gG} {I : gI} {R : gR} {L : gL} {Q : gQ} (hR : g_Fx R) (h : Q none SH I R L) : Go G mX3_readOne 5 0 0 132 [none, none] [] SH I R L Q := by
  refine go_goto 188 dX3_readOne_132 (by decide) ?_
  exact go_vret dX3_readOne_188 rfl rfl h
theorem e_X3_readBetween {G : gG} {I : gI} {R : gR} {L : gL} {Q : gQ} {vb : Int32} (hR : g_Fx R) (h : (¬ (I 306 12) = 0 → Go G mX3_readBetween 5 0 0 12 [some (.ref 306), some (.int vb), none] [.int 0] SH I R L Q) ∧ ((I 306 12) = 0 → Go G mX3_readBetween 5 0 0 12 [some (.ref 306), some (.int vb), none] [.int 1] SH I R L Q)) : Mt G mX3_readBetween 5 0 0 [.ref 306, .int vb] SH I R L Q := by
  refine go_start rfl (Nat.le_of_ble_eq_true rfl) rfl ?_
  refine go_aload_n dX3_readBetween_0 rfl ?_
  refine go_getI dX3_readBetween_1 fX3_138 rfl rfl ?_
  refine go_if_ne 11 dX3_readBetween_4 (by decide) (fun c => ?_) (fun c => ?_)
  · have h := h.1 c
    refine go_iconst (v := 0) dX3_readBetween_11 (by decide) ?_
    exact h
  · have h := h.2 c
    refine go_iconst (v := 1) dX3_readBetween_7 (by decide) ?_
    refine go_goto 12 dX3_readBetween_8 (by decide) ?_
    exact h
theorem b_X3_readBetween_12 {G : gG} {I : gI} {R : gR} {L : gL} {Q : gQ} {v1 s0 : Int32} (hR : g_Fx R) (h : ((I 306 3) < 28 → Go G mX3_readBetween 5 0 0 38 [some (.ref 306), some (.int v1), some (.int s0)] [] SH I R L Q) ∧ (¬ (I 306 3) < 28 → (31 < (I 306 3) → Go G mX3_readBetween 5 0 0 38 [some (.ref 306), some (.int v1), some (.int s0)] [] SH I R L Q) ∧ (¬ 31 < (I 306 3) → Mt G mX3_hold 4 0 0 [.ref 306] SH I R L (fun r S' I' R' L' => Go G mX3_readBetween 5 0 0 35 [none, none, none] (r.toList ++ []) S' I' R' L' Q)))) : Go G mX3_readBetween 5 0 0 12 [some (.ref 306), some (.int v1), none] [.int s0] SH I R L Q := by
  refine go_istore_n dX3_readBetween_12 (Nat.le_of_ble_eq_true rfl) rfl ?_
  refine go_aload_n dX3_readBetween_13 rfl ?_
  refine go_getI dX3_readBetween_14 fX3_49 rfl rfl ?_
  refine go_bipush (v := 28) dX3_readBetween_17 (by decide) ?_
  refine go_icmp_lt 38 dX3_readBetween_19 (by decide) (fun c => ?_) (fun c => ?_)
  · have h := h.1 c
    exact h
  · have h := h.2 c
    refine go_aload_n dX3_readBetween_22 rfl ?_
    refine go_getI dX3_readBetween_23 fX3_49 rfl rfl ?_
    refine go_bipush (v := 31) dX3_readBetween_26 (by decide) ?_
    refine go_icmp_gt 38 dX3_readBetween_28 (by decide) (fun c => ?_) (fun c => ?_)
    · have h := h.1 c
      exact h
    · have h := h.2 c
      refine go_aload_n dX3_readBetween_31 rfl ?_
      refine go_drop 0 ?_
      refine go_drop 1 ?_
      refine go_drop 2 ?_
      refine go_callV0 (μ := mX3_readBetween) [] dX3_readBetween_32 YX3_hold lX3_176 rfl ⟨_, rfl, rfl⟩ rfl (Nat.le_of_ble_eq_true rfl) (Nat.le_of_ble_eq_true rfl) rfl h
theorem b_X3_readBetween_38 {G : gG} {I : gI} {R : gR} {L : gL} {Q : gQ} {v1 v2 : Int32} (hR : g_Fx R) (h : (¬ ((24 ≤ (I 306 3) ∧ (I 306 3) ≤ 27) ∨ (I 306 3) = 35 ∨ (I 306 3) = 36) → Go G mX3_readBetween 5 0 0 76 [some (.ref 306), none, some (.int v2)] [] SH I R L Q) ∧ ((24 ≤ (I 306 3) ∧ (I 306 3) ≤ 27) ∨ (I 306 3) = 35 ∨ (I 306 3) = 36 → (¬ v1 = 2 → Go G mX3_readBetween 5 0 0 76 [some (.ref 306), none, some (.int v2)] [] SH I R L Q) ∧ (v1 = 2 → (v2 = 0 → Go G mX3_readBetween 5 0 0 76 [some (.ref 306), none, some (.int v2)] [] SH I R L Q) ∧ (¬ v2 = 0 → (¬ (I 306 14) = 0 → Go G mX3_readBetween 5 0 0 76 [some (.ref 306), none, some (.int v2)] [] SH I R L Q) ∧ ((I 306 14) = 0 → Mt G mX3_hold 4 0 0 [.ref 306] SH I R L (fun r S' I' R' L' => Go G mX3_readBetween 5 0 0 68 [some (.ref 306), none, none] (r.toList ++ []) S' I' R' L' Q)))))) : Go G mX3_readBetween 5 0 0 38 [some (.ref 306), some (.int v1), some (.int v2)] [] SH I R L Q := by
  refine go_aload_n dX3_readBetween_38 rfl ?_
  refine go_getI dX3_readBetween_39 fX3_49 rfl rfl ?_
  refine go_callS0 (μ := mX3_readBetween) [.int _] dX3_readBetween_42 YX3_isComparison lX3_179 rfl (Nat.le_of_ble_eq_true rfl) (Nat.le_of_ble_eq_true rfl) rfl (k_X3_isComparison hR ?_)
  refine go_if_eq 76 dX3_readBetween_45 (by decide) (fun c => ?_) (fun c => ?_)
  · have h := h.1 (b0.mp c)
    refine go_drop 1 ?_
    exact h
  · have h := h.2 (b1.mp c)
    refine go_iload_n dX3_readBetween_48 rfl ?_
    refine go_iconst (v := 2) dX3_readBetween_49 (by decide) ?_
    refine go_icmp_ne 76 dX3_readBetween_50 (by decide) (fun c => ?_) (fun c => ?_)
    · have h := h.1 c
      refine go_drop 1 ?_
      exact h
    · have h := h.2 c
      refine go_iload_n dX3_readBetween_53 rfl ?_
      refine go_if_eq 76 dX3_readBetween_54 (by decide) (fun c => ?_) (fun c => ?_)
      · have h := h.1 c
        refine go_drop 1 ?_
        exact h
      · have h := h.2 c
        refine go_aload_n dX3_readBetween_57 rfl ?_
        refine go_getI dX3_readBetween_58 fX3_145 rfl rfl ?_
        refine go_if_ne 76 dX3_readBetween_61 (by decide) (fun c => ?_) (fun c => ?_)
        · have h := h.1 c
          refine go_drop 1 ?_
          exact h
        · have h := h.2 c
          refine go_aload_n dX3_readBetween_64 rfl ?_
          refine go_drop 1 ?_
          refine go_drop 2 ?_
          refine go_callV0 (μ := mX3_readBetween) [] dX3_readBetween_65 YX3_hold lX3_176 rfl ⟨_, rfl, rfl⟩ rfl (Nat.le_of_ble_eq_true rfl) (Nat.le_of_ble_eq_true rfl) rfl h
theorem b_X3_readBetween_35 {G : gG} {I : gI} {R : gR} {L : gL} {Q : gQ} (hR : g_Fx R) (h : Q none SH I R L) : Go G mX3_readBetween 5 0 0 35 [none, none, none] [] SH I R L Q := by
  refine go_goto 161 dX3_readBetween_35 (by decide) ?_
  exact go_vret dX3_readBetween_161 rfl rfl h
theorem b_X3_readBetween_76 {G : gG} {I : gI} {R : gR} {L : gL} {Q : gQ} {v2 : Int32} (hR : g_Fx R) (h : ((I 306 3) = 10 → Go G mX3_readBetween 5 0 0 94 [some (.ref 306), none, some (.int v2)] [] SH I R L Q) ∧ (¬ (I 306 3) = 10 → (¬ (I 306 3) = 9 → Go G mX3_readBetween 5 0 0 117 [some (.ref 306), none, some (.int v2)] [] SH I R L Q) ∧ ((I 306 3) = 9 → Go G mX3_readBetween 5 0 0 94 [some (.ref 306), none, some (.int v2)] [] SH I R L Q))) : Go G mX3_readBetween 5 0 0 76 [some (.ref 306), none, some (.int v2)] [] SH I R L Q := by
  refine go_aload_n dX3_readBetween_76 rfl ?_
  refine go_getI dX3_readBetween_77 fX3_49 rfl rfl ?_
  refine go_bipush (v := 10) dX3_readBetween_80 (by decide) ?_
  refine go_icmp_eq 94 dX3_readBetween_82 (by decide) (fun c => ?_) (fun c => ?_)
  · have h := h.1 c
    exact h
  · have h := h.2 c
    refine go_aload_n dX3_readBetween_85 rfl ?_
    refine go_getI dX3_readBetween_86 fX3_49 rfl rfl ?_
    refine go_bipush (v := 9) dX3_readBetween_89 (by decide) ?_
    refine go_icmp_ne 117 dX3_readBetween_91 (by decide) (fun c => ?_) (fun c => ?_)
    · have h := h.1 c
      exact h
    · have h := h.2 c
      exact h
theorem b_X3_readBetween_68 {G : gG} {I : gI} {R : gR} {L : gL} {Q : gQ} (hR : g_Fx R) (h : ∀ I_10 : gI, I_10 = up I 306 14 1 → Q none SH I_10 R L) : Go G mX3_readBetween 5 0 0 68 [some (.ref 306), none, none] [] SH I R L Q := by
  refine go_aload_n dX3_readBetween_68 rfl ?_
  refine go_iconst (v := 1) dX3_readBetween_69 (by decide) ?_
  refine go_putI dX3_readBetween_70 fX3_145 rfl rfl rfl rfl ?_
  have h := h _ rfl
  refine go_goto 161 dX3_readBetween_73 (by decide) ?_
  exact go_vret dX3_readBetween_161 rfl rfl h
theorem b_X3_readBetween_94 {G : gG} {I : gI} {R : gR} {L : gL} {Q : gQ} {v2 : Int32} (hR : g_Fx R) (h : (v2 = 0 → Go G mX3_readBetween 5 0 0 117 [some (.ref 306), none, some (.int v2)] [] SH I R L Q) ∧ (¬ v2 = 0 → ((I 306 14) = 0 → Go G mX3_readBetween 5 0 0 117 [some (.ref 306), none, some (.int v2)] [] SH I R L Q) ∧ (¬ (I 306 14) = 0 → Mt G mX3_hold 4 0 0 [.ref 306] SH I R L (fun r S' I' R' L' => Go G mX3_readBetween 5 0 0 109 [some (.ref 306), none, none] (r.toList ++ []) S' I' R' L' Q)))) : Go G mX3_readBetween 5 0 0 94 [some (.ref 306), none, some (.int v2)] [] SH I R L Q := by
  refine go_iload_n dX3_readBetween_94 rfl ?_
  refine go_if_eq 117 dX3_readBetween_95 (by decide) (fun c => ?_) (fun c => ?_)
  · have h := h.1 c
    exact h
  · have h := h.2 c
    refine go_aload_n dX3_readBetween_98 rfl ?_
    refine go_getI dX3_readBetween_99 fX3_145 rfl rfl ?_
    refine go_if_eq 117 dX3_readBetween_102 (by decide) (fun c => ?_) (fun c => ?_)
    · have h := h.1 c
      exact h
    · have h := h.2 c
      refine go_aload_n dX3_readBetween_105 rfl ?_
      refine go_drop 2 ?_
      refine go_callV0 (μ := mX3_readBetween) [] dX3_readBetween_106 YX3_hold lX3_176 rfl ⟨_, rfl, rfl⟩ rfl (Nat.le_of_ble_eq_true rfl) (Nat.le_of_ble_eq_true rfl) rfl h
theorem b_X3_readBetween_117 {G : gG} {I : gI} {R : gR} {L : gL} {Q : gQ} {v2 : Int32} (hR : g_Fx R) (h : (¬ (I 306 3) = 33 → ∀ I_13 : gI, I_13 = failI I (1 : Int32) → Q none SH I_13 R L) ∧ ((I 306 3) = 33 → (¬ v2 = 0 → ∀ I_14 : gI, I_14 = failI I (1 : Int32) → Q none SH I_14 R L) ∧ (v2 = 0 → Mt G mX3_release 3 0 0 [.ref 306, .int (bnd (9 : Int32))] SH I R L (fun r S' I' R' L' => Go G mX3_readBetween 5 0 0 139 [some (.ref 306), none, none] (r.toList ++ []) S' I' R' L' Q)))) : Go G mX3_readBetween 5 0 0 117 [some (.ref 306), none, some (.int v2)] [] SH I R L Q := by
  refine go_aload_n dX3_readBetween_117 rfl ?_
  refine go_getI dX3_readBetween_118 fX3_49 rfl rfl ?_
  refine go_bipush (v := 33) dX3_readBetween_121 (by decide) ?_
  refine go_icmp_ne 156 dX3_readBetween_123 (by decide) (fun c => ?_) (fun c => ?_)
  · have h := h.1 c
    refine go_aload_n dX3_readBetween_156 rfl ?_
    refine go_iconst (v := 1) dX3_readBetween_157 (by decide) ?_
    refine go_callV0 (μ := mX3_readBetween) [.int _] dX3_readBetween_158 YX3_fail lX3_96 rfl ⟨_, rfl, rfl⟩ rfl (Nat.le_of_ble_eq_true rfl) (Nat.le_of_ble_eq_true rfl) rfl (k_X3_fail hR ?_)
    have h := h _ rfl
    exact go_vret dX3_readBetween_161 rfl rfl h
  · have h := h.2 c
    refine go_iload_n dX3_readBetween_126 rfl ?_
    refine go_if_ne 156 dX3_readBetween_127 (by decide) (fun c => ?_) (fun c => ?_)
    · have h := h.1 c
      refine go_aload_n dX3_readBetween_156 rfl ?_
      refine go_iconst (v := 1) dX3_readBetween_157 (by decide) ?_
      refine go_callV0 (μ := mX3_readBetween) [.int _] dX3_readBetween_158 YX3_fail lX3_96 rfl ⟨_, rfl, rfl⟩ rfl (Nat.le_of_ble_eq_true rfl) (Nat.le_of_ble_eq_true rfl) rfl (k_X3_fail hR ?_)
      have h := h _ rfl
      exact go_vret dX3_readBetween_161 rfl rfl h
    · have h := h.2 c
      refine go_aload_n dX3_readBetween_130 rfl ?_
      refine go_bipush (v := 9) dX3_readBetween_131 (by decide) ?_
      refine go_callS0 (μ := mX3_readBetween) [.int _] dX3_readBetween_133 YX3_bindingOf lX3_154 rfl (Nat.le_of_ble_eq_true rfl) (Nat.le_of_ble_eq_true rfl) rfl (k_X3_bindingOf hR ?_)
      refine go_drop 2 ?_
      refine go_callV0 (μ := mX3_readBetween) [.int _] dX3_readBetween_136 YX3_release lX3_157 rfl ⟨_, rfl, rfl⟩ rfl (Nat.le_of_ble_eq_true rfl) (Nat.le_of_ble_eq_true rfl) rfl h
theorem b_X3_readBetween_109 {G : gG} {I : gI} {R : gR} {L : gL} {Q : gQ} (hR : g_Fx R) (h : ∀ I_17 : gI, I_17 = up I 306 14 0 → Q none SH I_17 R L) : Go G mX3_readBetween 5 0 0 109 [some (.ref 306), none, none] [] SH I R L Q := by
  refine go_aload_n dX3_readBetween_109 rfl ?_
  refine go_iconst (v := 0) dX3_readBetween_110 (by decide) ?_
  refine go_putI dX3_readBetween_111 fX3_145 rfl rfl rfl rfl ?_
  have h := h _ rfl
  refine go_goto 161 dX3_readBetween_114 (by decide) ?_
  exact go_vret dX3_readBetween_161 rfl rfl h
theorem b_X3_readBetween_139 {G : gG} {I : gI} {R : gR} {L : gL} {Q : gQ} (hR : g_Fx R) (h : ∀ I_18 : gI, I_18 = drW I → ∀ I_19 : gI, I_19 = up I_18 306 12 ((I_18 306 12) - 1) → Q none SH I_19 R L) : Go G mX3_readBetween 5 0 0 139 [some (.ref 306), none, none] [] SH I R L Q := by
  refine go_aload_n dX3_readBetween_139 rfl ?_
  refine go_callV0 (μ := mX3_readBetween) [] dX3_readBetween_140 YX3_dropWaiting lX3_182 rfl ⟨_, rfl, rfl⟩ rfl (Nat.le_of_ble_eq_true rfl) (Nat.le_of_ble_eq_true rfl) rfl (k_X3_dropWaiting hR ?_)
  have h := h _ rfl
  refine go_aload_n dX3_readBetween_143 rfl ?_
  refine go_dup dX3_readBetween_144 rfl ?_
  refine go_getI dX3_readBetween_145 fX3_138 rfl rfl ?_
  refine go_iconst (v := 1) dX3_readBetween_148 (by decide) ?_
  refine go_isub dX3_readBetween_149 ?_
  refine go_putI dX3_readBetween_150 fX3_138 rfl rfl rfl rfl ?_
  have h := h _ rfl
  refine go_goto 161 dX3_readBetween_153 (by decide) ?_
  exact go_vret dX3_readBetween_161 rfl rfl h
def lxR (I : gI) (n pl tk v a : Nat) : Prop := I 306 1 = nI n ∧ I 306 2 = nI a ∧ I 306 3 = nI tk ∧ I 306 4 = nI pl ∧ (tk = 37 → I 306 5 = nI v)
def cL (I : gI) (y : Nat) (pre : List Nat) (s : lst) : Prop := cK I y (wt s) (pre ++ s.2.2.2.1) ∧ I 306 12 = nI (brN s.1) ∧ I 306 13 = (if s.2.2.2.2 = true then 1 else 0) ∧ I 306 14 = (if s.2.1 = [] then 0 else 1) ∧ I 306 7 = 0
/-- all but the reader's own, what waits, and the law's code is as it was -/
def frU (I I' : gI) (y : Nat) : Prop := (∀ c j, c ≠ 306 → c ≠ 308 → ¬ (c = y ∧ j = 1) → c ≠ y + 1 → I' c j = I c j) ∧ ∀ j, j ≤ 6 → I' 306 j = I 306 j
theorem frU.refl (I : gI) (y : Nat) : frU I I y := ⟨fun _ _ _ _ _ _ => rfl, fun _ _ => rfl⟩
theorem frU.trans {I J K : gI} {y : Nat} (h : frU I J y) (g : frU J K y) : frU I K y := ⟨fun c j a b d e => (g.1 c j a b d e).trans (h.1 c j a b d e), fun j hj => (g.2 j hj).trans (h.2 j hj)⟩
theorem frT.u {I J : gI} {y : Nat} (hy : g_La y) (h : frT I J y) : frU I J y := by
  have hr := La_rng hy
  exact ⟨fun c j a b d e => h c j (fun q => a q.1) b d e, fun j hj => h 306 j (by omega) (by decide) (by omega) (by omega)⟩
theorem frU_up {I J : gI} {y j : Nat} {x : Int32} (h : frU I J y) (hj : 6 < j) : frU I (up J 306 j x) y := ⟨fun c i a b d e => by rw [up_nc a]; exact h.1 c i a b d e, fun i hi => by rw [up_ni (by omega)]; exact h.2 i hi⟩
theorem cK_up {I : gI} {y j : Nat} {x : Int32} {W out : List Nat} (hy : g_La y) (h : cK I y W out) (h10 : j ≠ 10) (h11 : j ≠ 11) : cK (up I 306 j x) y W out := by
  have hr := La_rng hy
  obtain ⟨h1, h2, h3, h4, h5⟩ := h
  refine ⟨by rw [up_ni (Ne.symm h10)]; exact h1, stN_of (fun k _ => up_nc (by decide)) h2, by rw [up_ni (Ne.symm h11)]; exact h3, by rw [up_nc (by omega)]; exact h4, lsN_of (fun k _ => up_nc (by omega)) h5⟩
/-- what waits and what is out lies well -/
def cOK (I : gI) (y : Nat) : Prop := ∃ W out, cK I y W out ∧ W.length ≤ 62 ∧ (∀ x ∈ W, x < 41) ∧ out.length + W.length ≤ 300
/-- one step's outcome -/
def stO (I I' : gI) (y vb pl tk v : Nat) (pre : List Nat) (s : lst) : Prop := frU I I' y ∧ ((∃ s', SL vb tk v s s' ∧ I' 306 8 = I 306 8 ∧ cL I' y pre s') ∨ ∃ k, FL vb tk v s k ∧ I' 306 7 = nI k ∧ I' 306 8 = nI pl ∧ cOK I' y)
theorem fail_eq {I : gI} {pl k : Nat} (h7 : I 306 7 = 0) (h4 : I 306 4 = nI pl) : failI I (nI k) = up (up I 306 7 (nI k)) 306 8 (nI pl) := by
  unfold failI
  rw [if_neg (by rw [h7]; simp)]
  simp only
  rw [up_ni (by decide), h4]
theorem fail_fr {I : gI} {y pl k : Nat} (h7 : I 306 7 = 0) (h4 : I 306 4 = nI pl) : frU I (failI I (nI k)) y ∧ failI I (nI k) 306 7 = nI k ∧ failI I (nI k) 306 8 = nI pl := by
  rw [fail_eq h7 h4]
  exact ⟨frU_up (frU_up (frU.refl _ _) (by decide)) (by decide), by rw [up_ni (by decide), up_eq], up_eq _ _ _ _⟩
theorem fail_ok {I : gI} {y pl k : Nat} {W out : List Nat} (hy : g_La y) (h : cK I y W out) (h7 : I 306 7 = 0) (h4 : I 306 4 = nI pl) : cK (failI I (nI k)) y W out := by
  rw [fail_eq h7 h4]
  exact cK_up hy (cK_up hy h (by decide) (by decide)) (by decide) (by decide)
theorem wt_len {vb : Nat} {s : lst} (h : okLS vb s) : (wt s).length ≤ 62 := by
  have := okW_len _ h.2.2.2.2.1
  have := h.2.2.2.2.2
  omega
theorem wt_rng {vb : Nat} {s : lst} (h : okLS vb s) : ∀ x ∈ wt s, x < 41 := by
  intro x hx
  obtain ⟨h1, h2, h3, -⟩ := h
  unfold wt at hx
  rcases List.mem_append.mp hx with q | q
  · rcases List.mem_append.mp q with q | q
    · have := h1 x q; unfold inA at this; omega
    · rcases h2 with e | ⟨c, hc, e, -⟩
      · rw [e] at q; cases q
      · rw [e] at q; simp at q; subst q; unfold inC at hc; omega
  · have := h3 x q; unfold inL at this; omega
theorem tkE {tk k : Nat} (h : tk < 41) (hk : k < 2 ^ 31) : nI tk = nI k ↔ tk = k := nI_eq (by omega) hk
theorem tkL {tk k : Nat} (h : tk < 41) (hk : k < 2 ^ 31) : nI tk < nI k ↔ tk < k := nltI (by omega) hk
theorem tkG {tk k : Nat} (h : tk < 41) (hk : k < 2 ^ 31) : nI k ≤ nI tk ↔ k ≤ tk := nleI hk (by omega)
theorem k_X3_hold {G : gG} {I : gI} {R : gR} {L : gL} {Q : gQ} {y tk : Nat} {W out : List Nat} (hR : g_Fx R) (hr : R 306 6 = some y) (hy : g_La y) (h : cK I y W out) (h3 : I 306 3 = nI tk) (htk : tk < 41) (hu : unN tk = false) (hW : W.length ≤ 62) (hx : ∀ x ∈ W, x < 41) (ho : out.length + W.length ≤ 300)
    (hq : ∀ I', cK I' y (tk :: rsN (bdN tk) W) (out ++ cd (ppN (bdN tk) W)) → frT I I' y → Q none SH (up I' 306 13 1) R L) : Mt G mX3_hold 4 0 0 [.ref 306] SH I R L Q := by
  have hr2 := La_rng hy
  refine e_X3_hold hR ?_
  rw [h3, bnd_N tk htk]
  refine k_X3_release hR hr hy h hW hx ho (by have : bdN tk ≤ 7 := by unfold bdN; repeat' split <;> first | omega | skip
                                              omega) (fun I' g1 g2 => b_X3_hold_11 hR ?_)
  rintro _ rfl _ rfl
  rw [g2 306 3 (by omega) (by decide) (by omega) (by omega), h3]
  have hl : (rsN (bdN tk) W).length ≤ W.length := by
    have := congrArg List.length (pp_rs (bdN tk) W)
    rw [List.length_append] at this; omega
  have := cK_pu (x := tk) hy g1 (by omega) hu
  exact hq _ this.1 (g2.trans this.2)
theorem k_X3_openUp {G : gG} {I : gI} {R : gR} {L : gL} {Q : gQ} {y x : Nat} {W out : List Nat} (hR : g_Fx R) (hy : g_La y) (h : cK I y W out) (hW : W.length ≤ 62) (hu : unN x = true)
    (hq : opN W < 8 → ∀ I', cK I' y (x :: W) out → frT I I' y → Q none SH I' R L) (hf : 8 ≤ opN W → Q none SH (failI I 3) R L) : Mt G mX3_openUp 2 0 0 [.ref 306, .int (nI x)] SH I R L Q := by
  have ol : opN W ≤ W.length := List.countP_le_length
  refine e_X3_openUp hR ?_
  rw [h.2.2.1, show (nI (opN W) < 8) = (nI (opN W) < nI 8) from rfl, nltI (by omega) (by decide)]
  refine ⟨fun c => ?_, fun c => ?_⟩
  · rintro _ rfl _ rfl
    have := cK_op (x := x) hy h (by omega) hu
    rw [h.2.2.1] at this
    exact hq c _ this.1 this.2
  · rintro _ rfl
    exact hf (by omega)
theorem may_i : ∀ vb, vb < 3 → ∀ k, k < 12 → ((((g_no.getD vb 0) >>> ((nI (k + 12) - 12) &&& 31)) &&& 1) = 0 ↔ ¬ ((vb = 0 ∧ k < 8) ∨ (vb = 1 ∧ k < 4) ∨ (vb = 2 ∧ 7 ≤ k))) := by decide +kernel
theorem ahead_i {I : gI} {y vb : Nat} {pre : List Nat} {s : lst} (h : cL I y pre s) (hok : okLS vb s) : (I 306 10 ≤ 0 ∨ 64 < I 306 10 ∨ I 308 (I 306 10 - 1).toNatClampNeg = 9 ∨ I 308 (I 306 10 - 1).toNatClampNeg = 10 ∨ I 308 (I 306 10 - 1).toNatClampNeg = 11) ↔ (s.1 = [] ∧ s.2.1 = []) := by
  obtain ⟨⟨h1, h2, -⟩, -⟩ := h
  have hl := wt_len hok
  have hx := wt_rng hok
  obtain ⟨A, C, Lg, o, w⟩ := s
  rw [h1]
  cases hW : wt (A, C, Lg, o, w) with
  | nil =>
    have : A = [] ∧ C = [] := by unfold wt at hW; simp at hW; exact ⟨hW.1, hW.2.1⟩
    exact ⟨fun _ => this, fun _ => Or.inl (by decide)⟩
  | cons x W =>
    rw [hW] at hl hx h2
    rw [List.length_cons] at hl
    have hx1 := hx x (by simp)
    rw [List.length_cons, nI_pred, nI_clamp (by omega), h2.1]
    have e9 : nI x = 9 ↔ x = 9 := tkE (k := 9) hx1 (by decide)
    have e10 : nI x = 10 ↔ x = 10 := tkE (k := 10) hx1 (by decide)
    have e11 : nI x = 11 ↔ x = 11 := tkE (k := 11) hx1 (by decide)
    rw [e9, e10, e11]
    have n1 : ¬ nI (W.length + 1) ≤ 0 := nI_nle (by omega) (by omega)
    have n2 : ¬ (64 : Int32) < nI (W.length + 1) := nI_nlt (a := 64) (by omega) (by decide)
    have key : (x = 9 ∨ x = 10 ∨ x = 11) ↔ (A = [] ∧ C = []) := by
      unfold wt at hW
      simp only at hW
      cases A with
      | cons a A =>
        rw [List.cons_append, List.cons_append] at hW
        have : a = x := (List.cons.inj hW).1
        have ha := hok.1 a (by simp)
        unfold inA at ha
        exact ⟨fun q => by omega, fun q => absurd q.1 (by simp)⟩
      | nil =>
        cases C with
        | cons c C =>
          have : c = x := (List.cons.inj hW).1
          rcases hok.2.1 with e | ⟨c', hc, e, -⟩
          · cases e
          · have e2 : c = c' := (List.cons.inj e).1
            unfold inC at hc
            exact ⟨fun q => by omega, fun q => absurd q.2 (by simp)⟩
        | nil =>
          have : x ∈ Lg := by rw [show Lg = x :: W from hW]; simp
          have := hok.2.2.1 x this
          unfold inL at this
          exact ⟨fun _ => ⟨rfl, rfl⟩, fun _ => by omega⟩
    rw [← key]
    constructor
    · rintro (q | q | q)
      · exact absurd q n1
      · exact absurd q n2
      · exact q
    · exact fun q => Or.inr (Or.inr q)
theorem cL_k {I I' : gI} {y : Nat} {pre : List Nat} {s : lst} (hy : g_La y) (h : cL I y pre s) (g : frT I I' y) : I' 306 12 = nI (brN s.1) ∧ I' 306 13 = (if s.2.2.2.2 = true then 1 else 0) ∧ I' 306 14 = (if s.2.1 = [] then 0 else 1) ∧ I' 306 7 = 0 ∧ I' 306 4 = I 306 4 ∧ I' 306 8 = I 306 8 := by
  have hr := La_rng hy
  have e : ∀ j, j ≠ 10 → j ≠ 11 → I' 306 j = I 306 j := fun j a b => g 306 j (by omega) (by decide) (by omega) (by omega)
  obtain ⟨-, h1, h2, h3, h4⟩ := h
  exact ⟨by rw [e 12 (by decide) (by decide)]; exact h1, by rw [e 13 (by decide) (by decide)]; exact h2, by rw [e 14 (by decide) (by decide)]; exact h3, by rw [e 7 (by decide) (by decide)]; exact h4, e 4 (by decide) (by decide), e 8 (by decide) (by decide)⟩
theorem k_X3_readOne {G : gG} {I : gI} {R : gR} {L : gL} {Q : gQ} {y vb n pl tk v a : Nat} {pre A C Lg o : List Nat} (hR : g_Fx R) (hr : R 306 6 = some y) (hy : g_La y) (h : cL I y pre (A, C, Lg, o, true)) (hlx : lxR I n pl tk v a) (hok : okLS vb (A, C, Lg, o, true)) (hvb : vb < 3) (htk : tk < 41) (hv : tk = 37 → v ≤ 10000) (hlen0 : pre.length + o.length + (wt (A, C, Lg, o, true)).length ≤ 300) (hlen : pre.length + o.length + (wt (A, C, Lg, o, true)).length < 300 ∨ tk = 38)
    (hq : ∀ I', stO I I' y vb pl tk v pre (A, C, Lg, o, true) → Q none SH I' R L) : Mt G mX3_readOne 5 0 0 [.ref 306, .int (nI vb)] SH I R L Q := by
  have hr2 := La_rng hy
  obtain ⟨hk, h12, h13, h14, h7⟩ := h
  obtain ⟨l1, l2, l3, l4, l5⟩ := hlx
  have hl := wt_len hok
  have hx := wt_rng hok
  have hh : cL I y pre (A, C, Lg, o, true) := ⟨hk, h12, h13, h14, h7⟩
  have flt : ∀ k, FL vb tk v (A, C, Lg, o, true) k → Q none SH (failI I (nI k)) R L := fun k hf => by
    have := fail_fr (y := y) (k := k) h7 l4
    exact hq _ ⟨this.1, Or.inr ⟨k, hf, this.2.1, this.2.2, _, _, fail_ok hy hk h7 l4, hl, hx, by rw [List.length_append]; exact hlen0⟩⟩
  have e37 : nI tk = 37 ↔ tk = 37 := tkE (k := 37) htk (by decide)
  have e12 : nI tk < 12 ↔ tk < 12 := tkL (k := 12) htk (by decide)
  have e24 : (24 : Int32) ≤ nI tk ↔ 24 ≤ tk := tkG (k := 24) htk (by decide)
  have e32 : nI tk = 32 ↔ tk = 32 := tkE (k := 32) htk (by decide)
  have e29 : nI tk = 29 ↔ tk = 29 := tkE (k := 29) htk (by decide)
  have e11 : nI tk = 11 ↔ tk = 11 := tkE (k := 11) htk (by decide)
  have ev2 : nI vb = 2 ↔ vb = 2 := nI_eq (b := 2) (by omega) (by decide)
  -- the rest
  have b107 : tk ≠ 37 → ¬ (12 ≤ tk ∧ tk < 24) → Go G mX3_readOne 5 0 0 107 [some (.ref 306), some (.int (nI vb))] [] SH I R L Q := by
    intro c37 cn
    refine b_X3_readOne_107 hR ?_
    rw [l3, e32, e29, e11, ev2, ahead_i hh hok]
    refine ⟨fun c1 => ⟨fun c2 => ⟨fun c3 => ?_, fun c3 => ⟨fun c4 => ?_, fun c4 => ⟨fun c5 => ?_, fun c5 => ?_⟩⟩⟩, fun c2 => ?_⟩, fun c1 => ?_⟩
    · rintro _ rfl
      exact flt 1 (FL_one c37 cn c1 c2 (fun q => c3 q.1))
    · rintro _ rfl
      exact flt 1 (FL_one c37 cn c1 c2 (fun q => c4 q.2.1))
    · rintro _ rfl
      exact flt 1 (FL_one c37 cn c1 c2 (fun q => c5 q.2.2))
    · obtain ⟨q1, q2⟩ := c5
      simp only at q1 q2
      subst q1
      subst q2
      refine k_X3_openUp (x := 11) hR hy hk hl (by decide) (fun ho I' g1 g2 => b_X3_readOne_180 hR ?_) (fun ho => b_X3_readOne_180 hR (flt 3 (FL_deep (Or.inr (Or.inr ⟨c3, c4, rfl, rfl⟩)) ho)))
      obtain ⟨z1, z2, z3, z4, z5, z6⟩ := cL_k hy hh g2
      exact hq _ ⟨g2.u hy, Or.inl ⟨_, SL_nay c3 c4 (by simpa [wt] using ho), z6, g1, z1, z2, z3, z4⟩⟩
    · refine k_X3_openUp (x := 40) hR hy hk hl (by decide) (fun ho I' g1 g2 => b_X3_readOne_150 hR ?_) (fun ho => b_X3_readOne_150 hR (flt 3 (FL_deep (Or.inr (Or.inl c2)) ho)))
      obtain ⟨z1, z2, z3, z4, z5, z6⟩ := cL_k hy hh g2
      exact hq _ ⟨g2.u hy, Or.inl ⟨_, SL_neg c2 ho, z6, g1, by rw [z1]; simp [brN], z2, z3, z4⟩⟩
    · rintro _ rfl
      rw [h12, nI_1]
      have f12 : frU I (up I 306 12 (nI (brN A + 1))) y := frU_up (frU.refl _ _) (by decide)
      refine k_X3_openUp (x := 32) hR hy (cK_up hy hk (by decide) (by decide)) hl (by decide) (fun ho I' g1 g2 => b_X3_readOne_132 hR ?_) (fun ho => b_X3_readOne_132 hR ?_)
      · have e : ∀ j, j ≠ 10 → j ≠ 11 → I' 306 j = up I 306 12 (nI (brN A + 1)) 306 j := fun j a b => g2 306 j (by omega) (by decide) (by omega) (by omega)
        refine hq _ ⟨f12.trans (g2.u hy), Or.inl ⟨_, SL_opn c1 ho, by rw [e 8 (by decide) (by decide), up_ni (by decide)], g1, ?_, ?_, ?_, ?_⟩⟩
        · rw [e 12 (by decide) (by decide), up_eq]; simp [brN]
        · rw [e 13 (by decide) (by decide), up_ni (by decide)]; exact h13
        · rw [e 14 (by decide) (by decide), up_ni (by decide)]; exact h14
        · rw [e 7 (by decide) (by decide), up_ni (by decide)]; exact h7
      · have := fail_fr (I := up I 306 12 (nI (brN A + 1))) (y := y) (pl := pl) (k := 3) (by rw [up_ni (by decide)]; exact h7) (by rw [up_ni (by decide)]; exact l4)
        exact hq _ ⟨f12.trans this.1, Or.inr ⟨3, FL_deep (Or.inl c1) ho, this.2.1, this.2.2, _, _, fail_ok hy (cK_up hy hk (by decide) (by decide)) (by rw [up_ni (by decide)]; exact h7) (by rw [up_ni (by decide)]; exact l4), hl, hx, by rw [List.length_append]; exact hlen0⟩⟩
  refine e_X3_readOne hR ?_
  rw [l3, e37, e12, e24, nI_clamp (by omega)]
  refine ⟨fun c => ⟨fun c1 => b107 c (by omega), fun c1 => ⟨fun c2 => b107 c (by omega), fun c2 => ⟨vp_in_nI hvb (by decide), ?_⟩⟩⟩, fun c => ?_⟩
  · have hm := may_i vb hvb (tk - 12) (by omega)
    rw [show tk - 12 + 12 = tk by omega] at hm
    have hlen2 : (pre ++ o).length < 300 := by rw [List.length_append]; omega
    refine ⟨fun c3 => ?_, fun c3 => ?_⟩
    · refine b_X3_readOne_84 hR ⟨y, hr, hy, ?_⟩
      rintro _ rfl _ rfl
      rw [l3, show (10000 : Int32) + nI tk = nI (10000 + tk) from nI_add 10000 tk]
      have k1 := cK_em (x := 10000 + tk) hy hk hlen2
      obtain ⟨z1, z2, z3, z4, z5, z6⟩ := cL_k hy hh k1.2
      refine hq _ ⟨frU_up (k1.2.u hy) (by decide), Or.inl ⟨_, SL_nam (by omega) (by omega) (by
        have := mt hm.mpr c3
        exact Classical.not_not.mp this), by rw [up_ni (by decide)]; exact z6, ?_, ?_, ?_, ?_, ?_⟩⟩
      · have := cK_up (j := 13) (x := 0) hy k1.1 (by decide) (by decide)
        simpa [wt] using this
      · rw [up_ni (by decide)]; exact z1
      · rw [up_eq]; rfl
      · rw [up_ni (by decide)]; exact z3
      · rw [up_ni (by decide)]; exact z4
    · rintro _ rfl
      have ff := fail_fr (y := y) (k := 5) h7 l4
      refine b_X3_readOne_84 hR ⟨y, hr, hy, ?_⟩
      rintro _ rfl _ rfl
      have hk2 : cK (failI I (nI 5)) y (wt (A, C, Lg, o, true)) (pre ++ o) := by
        rw [fail_eq h7 l4]
        exact cK_up hy (cK_up hy hk (by decide) (by decide)) (by decide) (by decide)
      rw [show failI I 5 = failI I (nI 5) from rfl, ff.1.2 3 (by decide), l3, show (10000 : Int32) + nI tk = nI (10000 + tk) from nI_add 10000 tk]
      have k1 := cK_em (x := 10000 + tk) hy hk2 hlen2
      refine hq _ ⟨frU_up (ff.1.trans (k1.2.u hy)) (by decide), Or.inr ⟨5, FL_nam (by omega) (by omega) (hm.mp c3), ?_, ?_, _, _, cK_up hy k1.1 (by decide) (by decide), hl, hx, by simp; omega⟩⟩
      · rw [up_ni (by decide), k1.2 306 7 (by omega) (by decide) (by omega) (by omega)]; exact ff.2.1
      · rw [up_ni (by decide), k1.2 306 8 (by omega) (by decide) (by omega) (by omega)]; exact ff.2.2
  · have l5' := l5 c
    have hv' := hv c
    have hlen2 : (pre ++ o).length < 300 := by rw [List.length_append]; omega
    rw [l5', show (nI v ≤ 9999) = (nI v ≤ nI 9999) from rfl, nleI (by omega) (by decide)]
    refine ⟨fun c3 => ?_, fun c3 => ?_⟩
    · refine b_X3_readOne_24 hR ⟨y, hr, hy, ?_⟩
      rintro _ rfl _ rfl
      rw [l5']
      have k1 := cK_em (x := v) hy hk hlen2
      obtain ⟨z1, z2, z3, z4, z5, z6⟩ := cL_k hy hh k1.2
      refine hq _ ⟨frU_up (k1.2.u hy) (by decide), Or.inl ⟨_, SL_num c c3, by rw [up_ni (by decide)]; exact z6, ?_, ?_, ?_, ?_, ?_⟩⟩
      · have := cK_up (j := 13) (x := 0) hy k1.1 (by decide) (by decide)
        simpa [wt] using this
      · rw [up_ni (by decide)]; exact z1
      · rw [up_eq]; rfl
      · rw [up_ni (by decide)]; exact z3
      · rw [up_ni (by decide)]; exact z4
    · rintro _ rfl
      have ff := fail_fr (y := y) (k := 2) h7 l4
      refine b_X3_readOne_24 hR ⟨y, hr, hy, ?_⟩
      rintro _ rfl _ rfl
      have hk2 : cK (failI I (nI 2)) y (wt (A, C, Lg, o, true)) (pre ++ o) := by
        rw [fail_eq h7 l4]
        exact cK_up hy (cK_up hy hk (by decide) (by decide)) (by decide) (by decide)
      rw [show failI I 2 = failI I (nI 2) from rfl, ff.1.2 5 (by decide), l5']
      have k1 := cK_em (x := v) hy hk2 hlen2
      refine hq _ ⟨frU_up (ff.1.trans (k1.2.u hy)) (by decide), Or.inr ⟨2, FL_num c (by omega), ?_, ?_, _, _, cK_up hy k1.1 (by decide) (by decide), hl, hx, by simp; omega⟩⟩
      · rw [up_ni (by decide), k1.2 306 7 (by omega) (by decide) (by omega) (by omega)]; exact ff.2.1
      · rw [up_ni (by decide), k1.2 306 8 (by omega) (by decide) (by omega) (by omega)]; exact ff.2.2
