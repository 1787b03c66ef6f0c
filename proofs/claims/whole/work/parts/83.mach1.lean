theorem e_X3_hold {G : gG} {I : gI} {R : gR} {L : gL} {Q : gQ} (hR : g_Fx R) (h : Mt G mX3_release 3 0 0 [.ref 306, .int (bnd (I 306 3))] SH I R L (fun r S' I' R' L' => Go G mX3_hold 4 0 0 11 [some (.ref 306)] (r.toList ++ []) S' I' R' L' Q)) : Mt G mX3_hold 4 0 0 [.ref 306] SH I R L Q := by
  refine go_start rfl (Nat.le_of_ble_eq_true rfl) rfl ?_
  refine go_aload_n dX3_hold_0 rfl ?_
  refine go_aload_n dX3_hold_1 rfl ?_
  refine go_getI dX3_hold_2 fX3_49 rfl rfl ?_
  refine go_callS0 (μ := mX3_hold) [.int _] dX3_hold_5 YX3_bindingOf lX3_154 rfl (Nat.le_of_ble_eq_true rfl) (Nat.le_of_ble_eq_true rfl) rfl (k_X3_bindingOf hR ?_)
  refine go_callV0 (μ := mX3_hold) [.int _] dX3_hold_8 YX3_release lX3_157 rfl ⟨_, rfl, rfl⟩ rfl (Nat.le_of_ble_eq_true rfl) (Nat.le_of_ble_eq_true rfl) rfl h
theorem b_X3_hold_11 {G : gG} {I : gI} {R : gR} {L : gL} {Q : gQ} (hR : g_Fx R) (h : ∀ I_1 : gI, I_1 = puW I (I 306 3) → ∀ I_2 : gI, I_2 = up I_1 306 13 1 → Q none SH I_2 R L) : Go G mX3_hold 4 0 0 11 [some (.ref 306)] [] SH I R L Q := by
  refine go_aload_n dX3_hold_11 rfl ?_
  refine go_aload_n dX3_hold_12 rfl ?_
  refine go_getI dX3_hold_13 fX3_49 rfl rfl ?_
  refine go_callV0 (μ := mX3_hold) [.int _] dX3_hold_16 YX3_putWaiting lX3_185 rfl ⟨_, rfl, rfl⟩ rfl (Nat.le_of_ble_eq_true rfl) (Nat.le_of_ble_eq_true rfl) rfl (k_X3_putWaiting hR ?_)
  have h := h _ rfl
  refine go_aload_n dX3_hold_19 rfl ?_
  refine go_iconst (v := 1) dX3_hold_20 (by decide) ?_
  refine go_putI dX3_hold_21 fX3_141 rfl rfl rfl rfl ?_
  have h := h _ rfl
  exact go_vret dX3_hold_24 rfl rfl h
theorem e_X3_openUp {G : gG} {I : gI} {R : gR} {L : gL} {Q : gQ} {w : Int32} (hR : g_Fx R) (h : ((I 306 11) < 8 → ∀ I_1 : gI, I_1 = up I 306 11 ((I 306 11) + 1) → ∀ I_2 : gI, I_2 = puW I_1 w → Q none SH I_2 R L) ∧ (¬ (I 306 11) < 8 → ∀ I_3 : gI, I_3 = failI I (3 : Int32) → Q none SH I_3 R L)) : Mt G mX3_openUp 2 0 0 [.ref 306, .int w] SH I R L Q := by
  refine go_start rfl (Nat.le_of_ble_eq_true rfl) rfl ?_
  refine go_aload_n dX3_openUp_0 rfl ?_
  refine go_getI dX3_openUp_1 fX3_135 rfl rfl ?_
  refine go_bipush (v := 8) dX3_openUp_4 (by decide) ?_
  refine go_icmp_lt 15 dX3_openUp_6 (by decide) (fun c => ?_) (fun c => ?_)
  · have h := h.1 c
    refine go_aload_n dX3_openUp_15 rfl ?_
    refine go_dup dX3_openUp_16 rfl ?_
    refine go_getI dX3_openUp_17 fX3_135 rfl rfl ?_
    refine go_iconst (v := 1) dX3_openUp_20 (by decide) ?_
    refine go_iadd dX3_openUp_21 ?_
    refine go_putI dX3_openUp_22 fX3_135 rfl rfl rfl rfl ?_
    have h := h _ rfl
    refine go_aload_n dX3_openUp_25 rfl ?_
    refine go_iload_n dX3_openUp_26 rfl ?_
    refine go_callV0 (μ := mX3_openUp) [.int _] dX3_openUp_27 YX3_putWaiting lX3_185 rfl ⟨_, rfl, rfl⟩ rfl (Nat.le_of_ble_eq_true rfl) (Nat.le_of_ble_eq_true rfl) rfl (k_X3_putWaiting hR ?_)
    have h := h _ rfl
    exact go_vret dX3_openUp_30 rfl rfl h
  · have h := h.2 c
    refine go_aload_n dX3_openUp_9 rfl ?_
    refine go_iconst (v := 3) dX3_openUp_10 (by decide) ?_
    refine go_callV0 (μ := mX3_openUp) [.int _] dX3_openUp_11 YX3_fail lX3_96 rfl ⟨_, rfl, rfl⟩ rfl (Nat.le_of_ble_eq_true rfl) (Nat.le_of_ble_eq_true rfl) rfl (k_X3_fail hR ?_)
    have h := h _ rfl
    exact go_vret dX3_openUp_14 rfl rfl h
theorem e_X3_readOne {G : gG} {I : gI} {R : gR} {L : gL} {Q : gQ} {vb : Int32} (hR : g_Fx R) (h : (¬ (I 306 3) = 37 → ((I 306 3) < 12 → Go G mX3_readOne 5 0 0 107 [some (.ref 306), some (.int vb)] [] SH I R L Q) ∧ (¬ (I 306 3) < 12 → (24 ≤ (I 306 3) → Go G mX3_readOne 5 0 0 107 [some (.ref 306), some (.int vb)] [] SH I R L Q) ∧ (¬ 24 ≤ (I 306 3) → vp_in vb 3 ∧ ((¬ (((g_no.getD vb.toNatClampNeg 0) >>> (((I 306 3) - 12) &&& 31)) &&& 1) = 0 → Go G mX3_readOne 5 0 0 84 [some (.ref 306), none] [] SH I R L Q) ∧ ((((g_no.getD vb.toNatClampNeg 0) >>> (((I 306 3) - 12) &&& 31)) &&& 1) = 0 → ∀ I_1 : gI, I_1 = failI I (5 : Int32) → Go G mX3_readOne 5 0 0 84 [some (.ref 306), none] [] SH I_1 R L Q))))) ∧ ((I 306 3) = 37 → ((I 306 5) ≤ 9999 → Go G mX3_readOne 5 0 0 24 [some (.ref 306), none] [] SH I R L Q) ∧ (¬ (I 306 5) ≤ 9999 → ∀ I_5 : gI, I_5 = failI I (2 : Int32) → Go G mX3_readOne 5 0 0 24 [some (.ref 306), none] [] SH I_5 R L Q))) : Mt G mX3_readOne 5 0 0 [.ref 306, .int vb] SH I R L Q := by
  refine go_start rfl (Nat.le_of_ble_eq_true rfl) rfl ?_
  refine go_aload_n dX3_readOne_0 rfl ?_
  refine go_getI dX3_readOne_1 fX3_49 rfl rfl ?_
  refine go_bipush (v := 37) dX3_readOne_4 (by decide) ?_
  refine go_icmp_ne 43 dX3_readOne_6 (by decide) (fun c => ?_) (fun c => ?_)
  · have h := h.1 c
    refine go_aload_n dX3_readOne_43 rfl ?_
    refine go_getI dX3_readOne_44 fX3_49 rfl rfl ?_
    refine go_bipush (v := 12) dX3_readOne_47 (by decide) ?_
    refine go_icmp_lt 107 dX3_readOne_49 (by decide) (fun c => ?_) (fun c => ?_)
    · have h := h.1 c
      exact h
    · have h := h.2 c
      refine go_aload_n dX3_readOne_52 rfl ?_
      refine go_getI dX3_readOne_53 fX3_49 rfl rfl ?_
      refine go_bipush (v := 24) dX3_readOne_56 (by decide) ?_
      refine go_icmp_ge 107 dX3_readOne_58 (by decide) (fun c => ?_) (fun c => ?_)
      · have h := h.1 c
        exact h
      · have h := h.2 c
        refine go_names rfl dX3_readOne_61 ?_
        refine go_iload_n dX3_readOne_64 rfl ?_
        obtain ⟨hi, h⟩ := h
        refine go_names_ld dX3_readOne_65 hi ?_
        refine go_aload_n dX3_readOne_66 rfl ?_
        refine go_getI dX3_readOne_67 fX3_49 rfl rfl ?_
        refine go_bipush (v := 12) dX3_readOne_70 (by decide) ?_
        refine go_isub dX3_readOne_72 ?_
        refine go_ishr dX3_readOne_73 ?_
        refine go_iconst (v := 1) dX3_readOne_74 (by decide) ?_
        refine go_iand dX3_readOne_75 ?_
        refine go_if_ne 84 dX3_readOne_76 (by decide) (fun c => ?_) (fun c => ?_)
        · have h := h.1 c
          refine go_drop 1 ?_
          exact h
        · have h := h.2 c
          refine go_aload_n dX3_readOne_79 rfl ?_
          refine go_iconst (v := 5) dX3_readOne_80 (by decide) ?_
          refine go_callV0 (μ := mX3_readOne) [.int _] dX3_readOne_81 YX3_fail lX3_96 rfl ⟨_, rfl, rfl⟩ rfl (Nat.le_of_ble_eq_true rfl) (Nat.le_of_ble_eq_true rfl) rfl (k_X3_fail hR ?_)
          have h := h _ rfl
          refine go_drop 1 ?_
          exact h
  · have h := h.2 c
    refine go_aload_n dX3_readOne_9 rfl ?_
    refine go_getI dX3_readOne_10 fX3_87 rfl rfl ?_
    refine go_sipush (v := 9999) dX3_readOne_13 (by decide) ?_
    refine go_icmp_le 24 dX3_readOne_16 (by decide) (fun c => ?_) (fun c => ?_)
    · have h := h.1 c
      refine go_drop 1 ?_
      exact h
    · have h := h.2 c
      refine go_aload_n dX3_readOne_19 rfl ?_
      refine go_iconst (v := 2) dX3_readOne_20 (by decide) ?_
      refine go_callV0 (μ := mX3_readOne) [.int _] dX3_readOne_21 YX3_fail lX3_96 rfl ⟨_, rfl, rfl⟩ rfl (Nat.le_of_ble_eq_true rfl) (Nat.le_of_ble_eq_true rfl) rfl (k_X3_fail hR ?_)
      have h := h _ rfl
      refine go_drop 1 ?_
      exact h
theorem b_X3_readOne_107 {G : gG} {I : gI} {R : gR} {L : gL} {Q : gQ} {v1 : Int32} (hR : g_Fx R) (h : (¬ (I 306 3) = 32 → (¬ (I 306 3) = 29 → (¬ (I 306 3) = 11 → ∀ I_8 : gI, I_8 = failI I (1 : Int32) → Q none SH I_8 R L) ∧ ((I 306 3) = 11 → (¬ v1 = 2 → ∀ I_9 : gI, I_9 = failI I (1 : Int32) → Q none SH I_9 R L) ∧ (v1 = 2 → (¬ (I 306 10 ≤ 0 ∨ 64 < I 306 10 ∨ I 308 (I 306 10 - 1).toNatClampNeg = 9 ∨ I 308 (I 306 10 - 1).toNatClampNeg = 10 ∨ I 308 (I 306 10 - 1).toNatClampNeg = 11) → ∀ I_10 : gI, I_10 = failI I (1 : Int32) → Q none SH I_10 R L) ∧ (I 306 10 ≤ 0 ∨ 64 < I 306 10 ∨ I 308 (I 306 10 - 1).toNatClampNeg = 9 ∨ I 308 (I 306 10 - 1).toNatClampNeg = 10 ∨ I 308 (I 306 10 - 1).toNatClampNeg = 11 → Mt G mX3_openUp 2 0 0 [.ref 306, .int 11] SH I R L (fun r S' I' R' L' => Go G mX3_readOne 5 0 0 180 [none, none] (r.toList ++ []) S' I' R' L' Q))))) ∧ ((I 306 3) = 29 → Mt G mX3_openUp 2 0 0 [.ref 306, .int 40] SH I R L (fun r S' I' R' L' => Go G mX3_readOne 5 0 0 150 [none, none] (r.toList ++ []) S' I' R' L' Q))) ∧ ((I 306 3) = 32 → ∀ I_15 : gI, I_15 = up I 306 12 ((I 306 12) + 1) → Mt G mX3_openUp 2 0 0 [.ref 306, .int 32] SH I_15 R L (fun r S' I' R' L' => Go G mX3_readOne 5 0 0 132 [none, none] (r.toList ++ []) S' I' R' L' Q))) : Go G mX3_readOne 5 0 0 107 [some (.ref 306), some (.int v1)] [] SH I R L Q := by
  refine go_aload_n dX3_readOne_107 rfl ?_
  refine go_getI dX3_readOne_108 fX3_49 rfl rfl ?_
  refine go_bipush (v := 32) dX3_readOne_111 (by decide) ?_
  refine go_icmp_ne 135 dX3_readOne_113 (by decide) (fun c => ?_) (fun c => ?_)
  · have h := h.1 c
    refine go_aload_n dX3_readOne_135 rfl ?_
    refine go_getI dX3_readOne_136 fX3_49 rfl rfl ?_
    refine go_bipush (v := 29) dX3_readOne_139 (by decide) ?_
    refine go_icmp_ne 153 dX3_readOne_141 (by decide) (fun c => ?_) (fun c => ?_)
    · have h := h.1 c
      refine go_aload_n dX3_readOne_153 rfl ?_
      refine go_getI dX3_readOne_154 fX3_49 rfl rfl ?_
      refine go_bipush (v := 11) dX3_readOne_157 (by decide) ?_
      refine go_icmp_ne 183 dX3_readOne_159 (by decide) (fun c => ?_) (fun c => ?_)
      · have h := h.1 c
        refine go_aload_n dX3_readOne_183 rfl ?_
        refine go_iconst (v := 1) dX3_readOne_184 (by decide) ?_
        refine go_callV0 (μ := mX3_readOne) [.int _] dX3_readOne_185 YX3_fail lX3_96 rfl ⟨_, rfl, rfl⟩ rfl (Nat.le_of_ble_eq_true rfl) (Nat.le_of_ble_eq_true rfl) rfl (k_X3_fail hR ?_)
        have h := h _ rfl
        exact go_vret dX3_readOne_188 rfl rfl h
      · have h := h.2 c
        refine go_iload_n dX3_readOne_162 rfl ?_
        refine go_iconst (v := 2) dX3_readOne_163 (by decide) ?_
        refine go_icmp_ne 183 dX3_readOne_164 (by decide) (fun c => ?_) (fun c => ?_)
        · have h := h.1 c
          refine go_aload_n dX3_readOne_183 rfl ?_
          refine go_iconst (v := 1) dX3_readOne_184 (by decide) ?_
          refine go_callV0 (μ := mX3_readOne) [.int _] dX3_readOne_185 YX3_fail lX3_96 rfl ⟨_, rfl, rfl⟩ rfl (Nat.le_of_ble_eq_true rfl) (Nat.le_of_ble_eq_true rfl) rfl (k_X3_fail hR ?_)
          have h := h _ rfl
          exact go_vret dX3_readOne_188 rfl rfl h
        · have h := h.2 c
          refine go_aload_n dX3_readOne_167 rfl ?_
          refine go_callV0 (μ := mX3_readOne) [] dX3_readOne_168 YX3_isAheadOfAsk lX3_172 rfl ⟨_, rfl, rfl⟩ rfl (Nat.le_of_ble_eq_true rfl) (Nat.le_of_ble_eq_true rfl) rfl (k_X3_isAheadOfAsk hR ?_)
          refine go_if_eq 183 dX3_readOne_171 (by decide) (fun c => ?_) (fun c => ?_)
          · have h := h.1 (b0.mp c)
            refine go_aload_n dX3_readOne_183 rfl ?_
            refine go_iconst (v := 1) dX3_readOne_184 (by decide) ?_
            refine go_callV0 (μ := mX3_readOne) [.int _] dX3_readOne_185 YX3_fail lX3_96 rfl ⟨_, rfl, rfl⟩ rfl (Nat.le_of_ble_eq_true rfl) (Nat.le_of_ble_eq_true rfl) rfl (k_X3_fail hR ?_)
            have h := h _ rfl
            exact go_vret dX3_readOne_188 rfl rfl h
          · have h := h.2 (b1.mp c)
            refine go_aload_n dX3_readOne_174 rfl ?_
            refine go_bipush (v := 11) dX3_readOne_175 (by decide) ?_
            refine go_drop 0 ?_
            refine go_drop 1 ?_
            refine go_callV0 (μ := mX3_readOne) [.int _] dX3_readOne_177 YX3_openUp lX3_169 rfl ⟨_, rfl, rfl⟩ rfl (Nat.le_of_ble_eq_true rfl) (Nat.le_of_ble_eq_true rfl) rfl h
    · have h := h.2 c
      refine go_aload_n dX3_readOne_144 rfl ?_
      refine go_bipush (v := 40) dX3_readOne_145 (by decide) ?_
      refine go_drop 0 ?_
      refine go_drop 1 ?_
      refine go_callV0 (μ := mX3_readOne) [.int _] dX3_readOne_147 YX3_openUp lX3_169 rfl ⟨_, rfl, rfl⟩ rfl (Nat.le_of_ble_eq_true rfl) (Nat.le_of_ble_eq_true rfl) rfl h
  · have h := h.2 c
    refine go_aload_n dX3_readOne_116 rfl ?_
    refine go_dup dX3_readOne_117 rfl ?_
    refine go_getI dX3_readOne_118 fX3_138 rfl rfl ?_
    refine go_iconst (v := 1) dX3_readOne_121 (by decide) ?_
    refine go_iadd dX3_readOne_122 ?_
    refine go_putI dX3_readOne_123 fX3_138 rfl rfl rfl rfl ?_
    have h := h _ rfl
    refine go_aload_n dX3_readOne_126 rfl ?_
    refine go_bipush (v := 32) dX3_readOne_127 (by decide) ?_
    refine go_drop 0 ?_
    refine go_drop 1 ?_
    refine go_callV0 (μ := mX3_readOne) [.int _] dX3_readOne_129 YX3_openUp lX3_169 rfl ⟨_, rfl, rfl⟩ rfl (Nat.le_of_ble_eq_true rfl) (Nat.le_of_ble_eq_true rfl) rfl h
theorem b_X3_readOne_84 {G : gG} {I : gI} {R : gR} {L : gL} {Q : gQ} (hR : g_Fx R) (h : ∃ y_17, R 306 6 = some y_17 ∧ g_La y_17 ∧ (∀ I_18 : gI, I_18 = emI I y_17 (10000 + (I 306 3)) → ∀ I_19 : gI, I_19 = up I_18 306 13 0 → Q none SH I_19 R L)) : Go G mX3_readOne 5 0 0 84 [some (.ref 306), none] [] SH I R L Q := by
  refine go_aload_n dX3_readOne_84 rfl ?_
  obtain ⟨y_17, hry_17, hy_17, h⟩ := h
  refine go_getR dX3_readOne_85 fX3_37 rfl rfl hry_17 ?_
  refine go_sipush (v := 10000) dX3_readOne_88 (by decide) ?_
  refine go_aload_n dX3_readOne_91 rfl ?_
  refine go_getI dX3_readOne_92 fX3_49 rfl rfl ?_
  refine go_iadd dX3_readOne_95 ?_
  refine go_callV0 (μ := mX3_readOne) [.int _] dX3_readOne_96 YX2_emit lX3_163 (La_s0 hy_17) ⟨_, rfl, rfl⟩ rfl (Nat.le_of_ble_eq_true rfl) (Nat.le_of_ble_eq_true rfl) rfl (k_X2_emit hR hy_17 ?_)
  have h := h _ rfl
  refine go_aload_n dX3_readOne_99 rfl ?_
  refine go_iconst (v := 0) dX3_readOne_100 (by decide) ?_
  refine go_putI dX3_readOne_101 fX3_141 rfl rfl rfl rfl ?_
  have h := h _ rfl
  refine go_goto 188 dX3_readOne_104 (by decide) ?_
  exact go_vret dX3_readOne_188 rfl rfl h
theorem b_X3_readOne_24 {G : gG} {I : gI} {R : gR} {L : gL} {Q : gQ} (hR : g_Fx R) (h : ∃ y_20, R 306 6 = some y_20 ∧ g_La y_20 ∧ (∀ I_21 : gI, I_21 = emI I y_20 (I 306 5) → ∀ I_22 : gI, I_22 = up I_21 306 13 0 → Q none SH I_22 R L)) : Go G mX3_readOne 5 0 0 24 [some (.ref 306), none] [] SH I R L Q := by
  refine go_aload_n dX3_readOne_24 rfl ?_
  obtain ⟨y_20, hry_20, hy_20, h⟩ := h
  refine go_getR dX3_readOne_25 fX3_37 rfl rfl hry_20 ?_
  refine go_aload_n dX3_readOne_28 rfl ?_
  refine go_getI dX3_readOne_29 fX3_87 rfl rfl ?_
  refine go_callV0 (μ := mX3_readOne) [.int _] dX3_readOne_32 YX2_emit lX3_163 (La_s0 hy_20) ⟨_, rfl, rfl⟩ rfl (Nat.le_of_ble_eq_true rfl) (Nat.le_of_ble_eq_true rfl) rfl (k_X2_emit hR hy_20 ?_)
  have h := h _ rfl
  refine go_aload_n dX3_readOne_35 rfl ?_
  refine go_iconst (v := 0) dX3_readOne_36 (by decide) ?_
  refine go_putI dX3_readOne_37 fX3_141 rfl rfl rfl rfl ?_
  have h := h _ rfl
  refine go_goto 188 dX3_readOne_40 (by decide) ?_
  exact go_vret dX3_readOne_188 rfl rfl h
theorem b_X3_readOne_180 {G : gG} {I : gI} {R : gR} {L : gL} {Q : gQ} (hR : g_Fx R) (h : Q none SH I R L) : Go G mX3_readOne 5 0 0 180 [none, none] [] SH I R L Q := by
  refine go_goto 188 dX3_readOne_180 (by decide) ?_
  exact go_vret dX3_readOne_188 rfl rfl h
theorem b_X3_readOne_150 {G : gG} {I : gI} {R : gR} {L : gL} {Q : gQ} (hR : g_Fx R) (h : Q none SH I R L) : Go G mX3_readOne 5 0 0 150 [none, none] [] SH I R L Q := by
  refine go_goto 188 dX3_readOne_150 (by decide) ?_
  exact go_vret dX3_readOne_188 rfl rfl h
theorem b_X3_readOne_132 {G : gG} {I : gI} {R : gR} {L : gL} {Q : gQ} (hR : g_Fx R) (h : Q none SH I R L) : Go G mX3_readOne 5 0 0 132 [none, none] [] SH I R L Q := by
  refine go_goto 188 dX3_readOne_132 (by decide) ?_
  exact go_vret dX3_readOne_188 rfl rfl h
theorem e_X3_readBetween {G : gG} {I : gI} {R : gR} {L : gL} {Q : gQ} {vb : Int32} (hR : g_Fx R) (h : (¬ (I 306 12) = 0 → Go G mX3_readBetween 5 0 0 12 [some (.ref 306), some (.int vb), none] [.int 0] SH I R L Q) ∧ ((I 306 12) = 0 → Go G mX3_readBetween 5 0 0 12 [some (.ref 306), some (.int vb), none] [.int 1] SH I R L Q)) : Mt G mX3_readBetween 5 0 0 [.ref 306, .int vb] SH I R L Q := by
  refine go_start rfl (Nat.le_of_ble_eq_true rfl) rfl ?_
  refine go_aload_n dX3_readBetween_0 rfl ?_
  refine go_getI dX3_readBetween_1 fX3_138 rfl rfl ?_
  refine go_if_ne 11 dX3_readBetween_4 (by decide) (fun c => ?_) (fun c => ?_)
  · have h := h.1 c
    refine go_iconst (v := 0) dX3_readBetween_11 (by decide) ?_
    exact h
  · have h := h.2 c
    refine go_iconst (v := 1) dX3_readBetween_7 (by decide) ?_
    refine go_goto 12 dX3_readBetween_8 (by decide) ?_
    exact h
theorem b_X3_readBetween_12 {G : gG} {I : gI} {R : gR} {L : gL} {Q : gQ} {v1 s0 : Int32} (hR : g_Fx R) (h : ((I 306 3) < 28 → Go G mX3_readBetween 5 0 0 38 [some (.ref 306), some (.int v1), some (.int s0)] [] SH I R L Q) ∧ (¬ (I 306 3) < 28 → (31 < (I 306 3) → Go G mX3_readBetween 5 0 0 38 [some (.ref 306), some (.int v1), some (.int s0)] [] SH I R L Q) ∧ (¬ 31 < (I 306 3) → Mt G mX3_hold 4 0 0 [.ref 306] SH I R L (fun r S' I' R' L' => Go G mX3_readBetween 5 0 0 35 [none, none, none] (r.toList ++ []) S' I' R' L' Q)))) : Go G mX3_readBetween 5 0 0 12 [some (.ref 306), some (.int v1), none] [.int s0] SH I R L Q := by
  refine go_istore_n dX3_readBetween_12 (Nat.le_of_ble_eq_true rfl) rfl ?_
  refine go_aload_n dX3_readBetween_13 rfl ?_
  refine go_getI dX3_readBetween_14 fX3_49 rfl rfl ?_
  refine go_bipush (v := 28) dX3_readBetween_17 (by decide) ?_
  refine go_icmp_lt 38 dX3_readBetween_19 (by decide) (fun c => ?_) (fun c => ?_)
  · have h := h.1 c
    exact h
  · have h := h.2 c
    refine go_aload_n dX3_readBetween_22 rfl ?_
    refine go_getI dX3_readBetween_23 fX3_49 rfl rfl ?_
    refine go_bipush (v := 31) dX3_readBetween_26 (by decide) ?_
    refine go_icmp_gt 38 dX3_readBetween_28 (by decide) (fun c => ?_) (fun c => ?_)
    · have h := h.1 c
      exact h
    · have h := h.2 c
      refine go_aload_n dX3_readBetween_31 rfl ?_
      refine go_drop 0 ?_
      refine go_drop 1 ?_
      refine go_drop 2 ?_
      refine go_callV0 (μ := mX3_readBetween) [] dX3_readBetween_32 YX3_hold lX3_176 rfl ⟨_, rfl, rfl⟩ rfl (Nat.le_of_ble_eq_true rfl) (Nat.le_of_ble_eq_true rfl) rfl h
theorem b_X3_readBetween_38 {G : gG} {I : gI} {R : gR} {L : gL} {Q : gQ} {v1 v2 : Int32} (hR : g_Fx R) (h : (¬ ((24 ≤ (I 306 3) ∧ (I 306 3) ≤ 27) ∨ (I 306 3) = 35 ∨ (I 306 3) = 36) → Go G mX3_readBetween 5 0 0 76 [some (.ref 306), none, some (.int v2)] [] SH I R L Q) ∧ ((24 ≤ (I 306 3) ∧ (I 306 3) ≤ 27) ∨ (I 306 3) = 35 ∨ (I 306 3) = 36 → (¬ v1 = 2 → Go G mX3_readBetween 5 0 0 76 [some (.ref 306), none, some (.int v2)] [] SH I R L Q) ∧ (v1 = 2 → (v2 = 0 → Go G mX3_readBetween 5 0 0 76 [some (.ref 306), none, some (.int v2)] [] SH I R L Q) ∧ (¬ v2 = 0 → (¬ (I 306 14) = 0 → Go G mX3_readBetween 5 0 0 76 [some (.ref 306), none, some (.int v2)] [] SH I R L Q) ∧ ((I 306 14) = 0 → Mt G mX3_hold 4 0 0 [.ref 306] SH I R L (fun r S' I' R' L' => Go G mX3_readBetween 5 0 0 68 [some (.ref 306), none, none] (r.toList ++ []) S' I' R' L' Q)))))) : Go G mX3_readBetween 5 0 0 38 [some (.ref 306), some (.int v1), some (.int v2)] [] SH I R L Q := by
  refine go_aload_n dX3_readBetween_38 rfl ?_
  refine go_getI dX3_readBetween_39 fX3_49 rfl rfl ?_
  refine go_callS0 (μ := mX3_readBetween) [.int _] dX3_readBetween_42 YX3_isComparison lX3_179 rfl (Nat.le_of_ble_eq_true rfl) (Nat.le_of_ble_eq_true rfl) rfl (k_X3_isComparison hR ?_)
  refine go_if_eq 76 dX3_readBetween_45 (by decide) (fun c => ?_) (fun c => ?_)
  · have h := h.1 (b0.mp c)
    refine go_drop 1 ?_
    exact h
  · have h := h.2 (b1.mp c)
    refine go_iload_n dX3_readBetween_48 rfl ?_
    refine go_iconst (v := 2) dX3_readBetween_49 (by decide) ?_
    refine go_icmp_ne 76 dX3_readBetween_50 (by decide) (fun c => ?_) (fun c => ?_)
    · have h := h.1 c
      refine go_drop 1 ?_
      exact h
    · have h := h.2 c
      refine go_iload_n dX3_readBetween_53 rfl ?_
      refine go_if_eq 76 dX3_readBetween_54 (by decide) (fun c => ?_) (fun c => ?_)
      · have h := h.1 c
        refine go_drop 1 ?_
        exact h
      · have h := h.2 c
        refine go_aload_n dX3_readBetween_57 rfl ?_
        refine go_getI dX3_readBetween_58 fX3_145 rfl rfl ?_
        refine go_if_ne 76 dX3_readBetween_61 (by decide) (fun c => ?_) (fun c => ?_)
        · have h := h.1 c
          refine go_drop 1 ?_
          exact h
        · have h := h.2 c
          refine go_aload_n dX3_readBetween_64 rfl ?_
          refine go_drop 1 ?_
          refine go_drop 2 ?_
          refine go_callV0 (μ := mX3_readBetween) [] dX3_readBetween_65 YX3_hold lX3_176 rfl ⟨_, rfl, rfl⟩ rfl (Nat.le_of_ble_eq_true rfl) (Nat.le_of_ble_eq_true rfl) rfl h
theorem b_X3_readBetween_35 {G : gG} {I : gI} {R : gR} {L : gL} {Q : gQ} (hR : g_Fx R) (h : Q none SH I R L) : Go G mX3_readBetween 5 0 0 35 [none, none, none] [] SH I R L Q := by
  refine go_goto 161 dX3_readBetween_35 (by decide) ?_
  exact go_vret dX3_readBetween_161 rfl rfl h
theorem b_X3_readBetween_76 {G : gG} {I : gI} {R : gR} {L : gL} {Q : gQ} {v2 : Int32} (hR : g_Fx R) (h : ((I 306 3) = 10 → Go G mX3_readBetween 5 0 0 94 [some (.ref 306), none, some (.int v2)] [] SH I R L Q) ∧ (¬ (I 306 3) = 10 → (¬ (I 306 3) = 9 → Go G mX3_readBetween 5 0 0 117 [some (.ref 306), none, some (.int v2)] [] SH I R L Q) ∧ ((I 306 3) = 9 → Go G mX3_readBetween 5 0 0 94 [some (.ref 306), none, some (.int v2)] [] SH I R L Q))) : Go G mX3_readBetween 5 0 0 76 [some (.ref 306), none, some (.int v2)] [] SH I R L Q := by
  refine go_aload_n dX3_readBetween_76 rfl ?_
  refine go_getI dX3_readBetween_77 fX3_49 rfl rfl ?_
  refine go_bipush (v := 10) dX3_readBetween_80 (by decide) ?_
  refine go_icmp_eq 94 dX3_readBetween_82 (by decide) (fun c => ?_) (fun c => ?_)
  · have h := h.1 c
    exact h
  · have h := h.2 c
    refine go_aload_n dX3_readBetween_85 rfl ?_
    refine go_getI dX3_readBetween_86 fX3_49 rfl rfl ?_
    refine go_bipush (v := 9) dX3_readBetween_89 (by decide) ?_
    refine go_icmp_ne 117 dX3_readBetween_91 (by decide) (fun c => ?_) (fun c => ?_)
    · have h := h.1 c
      exact h
    · have h := h.2 c
      exact h
theorem b_X3_readBetween_68 {G : gG} {I : gI} {R : gR} {L : gL} {Q : gQ} (hR : g_Fx R) (h : ∀ I_10 : gI, I_10 = up I 306 14 1 → Q none SH I_10 R L) : Go G mX3_readBetween 5 0 0 68 [some (.ref 306), none, none] [] SH I R L Q := by
  refine go_aload_n dX3_readBetween_68 rfl ?_
  refine go_iconst (v := 1) dX3_readBetween_69 (by decide) ?_
  refine go_putI dX3_readBetween_70 fX3_145 rfl rfl rfl rfl ?_
  have h := h _ rfl
  refine go_goto 161 dX3_readBetween_73 (by decide) ?_
  exact go_vret dX3_readBetween_161 rfl rfl h
theorem b_X3_readBetween_94 {G : gG} {I : gI} {R : gR} {L : gL} {Q : gQ} {v2 : Int32} (hR : g_Fx R) (h : (v2 = 0 → Go G mX3_readBetween 5 0 0 117 [some (.ref 306), none, some (.int v2)] [] SH I R L Q) ∧ (¬ v2 = 0 → ((I 306 14) = 0 → Go G mX3_readBetween 5 0 0 117 [some (.ref 306), none, some (.int v2)] [] SH I R L Q) ∧ (¬ (I 306 14) = 0 → Mt G mX3_hold 4 0 0 [.ref 306] SH I R L (fun r S' I' R' L' => Go G mX3_readBetween 5 0 0 109 [some (.ref 306), none, none] (r.toList ++ []) S' I' R' L' Q)))) : Go G mX3_readBetween 5 0 0 94 [some (.ref 306), none, some (.int v2)] [] SH I R L Q := by
  refine go_iload_n dX3_readBetween_94 rfl ?_
  refine go_if_eq 117 dX3_readBetween_95 (by decide) (fun c => ?_) (fun c => ?_)
  · have h := h.1 c
    exact h
  · have h := h.2 c
    refine go_aload_n dX3_readBetween_98 rfl ?_
    refine go_getI dX3_readBetween_99 fX3_145 rfl rfl ?_
    refine go_if_eq 117 dX3_readBetween_102 (by decide) (fun c => ?_) (fun c => ?_)
    · have h := h.1 c
      exact h
    · have h := h.2 c
      refine go_aload_n dX3_readBetween_105 rfl ?_
      refine go_drop 2 ?_
      refine go_callV0 (μ := mX3_readBetween) [] dX3_readBetween_106 YX3_hold lX3_176 rfl ⟨_, rfl, rfl⟩ rfl (Nat.le_of_ble_eq_true rfl) (Nat.le_of_ble_eq_true rfl) rfl h
theorem b_X3_readBetween_117 {G : gG} {I : gI} {R : gR} {L : gL} {Q : gQ} {v2 : Int32} (hR : g_Fx R) (h : (¬ (I 306 3) = 33 → ∀ I_13 : gI, I_13 = failI I (1 : Int32) → Q none SH I_13 R L) ∧ ((I 306 3) = 33 → (¬ v2 = 0 → ∀ I_14 : gI, I_14 = failI I (1 : Int32) → Q none SH I_14 R L) ∧ (v2 = 0 → Mt G mX3_release 3 0 0 [.ref 306, .int (bnd (9 : Int32))] SH I R L (fun r S' I' R' L' => Go G mX3_readBetween 5 0 0 139 [some (.ref 306), none, none] (r.toList ++ []) S' I' R' L' Q)))) : Go G mX3_readBetween 5 0 0 117 [some (.ref 306), none, some (.int v2)] [] SH I R L Q := by
  refine go_aload_n dX3_readBetween_117 rfl ?_
  refine go_getI dX3_readBetween_118 fX3_49 rfl rfl ?_
  refine go_bipush (v := 33) dX3_readBetween_121 (by decide) ?_
  refine go_icmp_ne 156 dX3_readBetween_123 (by decide) (fun c => ?_) (fun c => ?_)
  · have h := h.1 c
    refine go_aload_n dX3_readBetween_156 rfl ?_
    refine go_iconst (v := 1) dX3_readBetween_157 (by decide) ?_
    refine go_callV0 (μ := mX3_readBetween) [.int _] dX3_readBetween_158 YX3_fail lX3_96 rfl ⟨_, rfl, rfl⟩ rfl (Nat.le_of_ble_eq_true rfl) (Nat.le_of_ble_eq_true rfl) rfl (k_X3_fail hR ?_)
    have h := h _ rfl
    exact go_vret dX3_readBetween_161 rfl rfl h
  · have h := h.2 c
    refine go_iload_n dX3_readBetween_126 rfl ?_
    refine go_if_ne 156 dX3_readBetween_127 (by decide) (fun c => ?_) (fun c => ?_)
    · have h := h.1 c
      refine go_aload_n dX3_readBetween_156 rfl ?_
      refine go_iconst (v := 1) dX3_readBetween_157 (by decide) ?_
      refine go_callV0 (μ := mX3_readBetween) [.int _] dX3_readBetween_158 YX3_fail lX3_96 rfl ⟨_, rfl, rfl⟩ rfl (Nat.le_of_ble_eq_true rfl) (Nat.le_of_ble_eq_true rfl) rfl (k_X3_fail hR ?_)
      have h := h _ rfl
      exact go_vret dX3_readBetween_161 rfl rfl h
    · have h := h.2 c
      refine go_aload_n dX3_readBetween_130 rfl ?_
      refine go_bipush (v := 9) dX3_readBetween_131 (by decide) ?_
      refine go_callS0 (μ := mX3_readBetween) [.int _] dX3_readBetween_133 YX3_bindingOf lX3_154 rfl (Nat.le_of_ble_eq_true rfl) (Nat.le_of_ble_eq_true rfl) rfl (k_X3_bindingOf hR ?_)
      refine go_drop 2 ?_
      refine go_callV0 (μ := mX3_readBetween) [.int _] dX3_readBetween_136 YX3_release lX3_157 rfl ⟨_, rfl, rfl⟩ rfl (Nat.le_of_ble_eq_true rfl) (Nat.le_of_ble_eq_true rfl) rfl h
theorem b_X3_readBetween_109 {G : gG} {I : gI} {R : gR} {L : gL} {Q : gQ} (hR : g_Fx R) (h : ∀ I_17 : gI, I_17 = up I 306 14 0 → Q none SH I_17 R L) : Go G mX3_readBetween 5 0 0 109 [some (.ref 306), none, none] [] SH I R L Q := by
  refine go_aload_n dX3_readBetween_109 rfl ?_
  refine go_iconst (v := 0) dX3_readBetween_110 (by decide) ?_
  refine go_putI dX3_readBetween_111 fX3_145 rfl rfl rfl rfl ?_
  have h := h _ rfl
  refine go_goto 161 dX3_readBetween_114 (by decide) ?_
  exact go_vret dX3_readBetween_161 rfl rfl h
theorem b_X3_readBetween_139 {G : gG} {I : gI} {R : gR} {L : gL} {Q : gQ} (hR : g_Fx R) (h : ∀ I_18 : gI, I_18 = drW I → ∀ I_19 : gI, I_19 = up I_18 306 12 ((I_18 306 12) - 1) → Q none SH I_19 R L) : Go G mX3_readBetween 5 0 0 139 [some (.ref 306), none, none] [] SH I R L Q := by
  refine go_aload_n dX3_readBetween_139 rfl ?_
  refine go_callV0 (μ := mX3_readBetween) [] dX3_readBetween_140 YX3_dropWaiting lX3_182 rfl ⟨_, rfl, rfl⟩ rfl (Nat.le_of_ble_eq_true rfl) (Nat.le_of_ble_eq_true rfl) rfl (k_X3_dropWaiting hR ?_)
  have h := h _ rfl
  refine go_aload_n dX3_readBetween_143 rfl ?_
  refine go_dup dX3_readBetween_144 rfl ?_
  refine go_getI dX3_readBetween_145 fX3_138 rfl rfl ?_
  refine go_iconst (v := 1) dX3_readBetween_148 (by decide) ?_
  refine go_isub dX3_readBetween_149 ?_
  refine go_putI dX3_readBetween_150 fX3_138 rfl rfl rfl rfl ?_
  have h := h _ rfl
  refine go_goto 161 dX3_readBetween_153 (by decide) ?_
  exact go_vret dX3_readBetween_161 rfl rfl h
