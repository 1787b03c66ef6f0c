theorem e_X7_opensSign {G : gG} {I : gI} {R : gR} {L : gL} {Q : gQ} {f : Int32} (hR : g_Fx R) (h : (¬ (I 310 20) = 8 → ∀ I_1 : gI, I_1 = up I 310 20 ((I 310 20) + 1) → (vp_in (I_1 310 21) 40) ∧ (∀ I_3 : gI, I_3 = opF I_1 f → Mt G mX7_nextToken 3 0 0 [.ref 310] SH I_3 R L (fun r S' I' R' L' => Go G mX7_opensSign 4 0 0 35 [none, none] (r.toList ++ []) S' I' R' L' Q))) ∧ ((I 310 20) = 8 → ∀ I_4 : gI, I_4 = errI I (3 : Int32) → Q (some (.int 0)) SH I_4 R L)) : Mt G mX7_opensSign 4 0 0 [.ref 310, .int f] SH I R L Q := by
  refine go_start rfl (Nat.le_of_ble_eq_true rfl) rfl ?_
  refine go_aload_n dX7_opensSign_0 rfl ?_
  refine go_getI dX7_opensSign_1 fX7_210 rfl rfl ?_
  refine go_bipush (v := 8) dX7_opensSign_4 (by decide) ?_
  refine go_icmp_ne 16 dX7_opensSign_6 (by decide) (fun c => ?_) (fun c => ?_)
  · have h := h.1 c
    refine go_aload_n dX7_opensSign_16 rfl ?_
    refine go_dup dX7_opensSign_17 rfl ?_
    refine go_getI dX7_opensSign_18 fX7_210 rfl rfl ?_
    refine go_iconst (v := 1) dX7_opensSign_21 (by decide) ?_
    refine go_iadd dX7_opensSign_22 ?_
    refine go_putI dX7_opensSign_23 fX7_210 rfl rfl rfl rfl ?_
    have h := h _ rfl
    refine go_aload_n dX7_opensSign_26 rfl ?_
    refine go_iload_n dX7_opensSign_27 rfl ?_
    obtain ⟨hp_2, h⟩ := h
    refine go_callV0 (μ := mX7_opensSign) [.int _] dX7_opensSign_28 YX7_opensFrame lX7_216 rfl ⟨_, rfl, rfl⟩ rfl (Nat.le_of_ble_eq_true rfl) (Nat.le_of_ble_eq_true rfl) rfl (k_X7_opensFrame hR hp_2 ?_)
    have h := h _ rfl
    refine go_aload_n dX7_opensSign_31 rfl ?_
    refine go_drop 0 ?_
    refine go_drop 1 ?_
    refine go_callV0 (μ := mX7_opensSign) [] dX7_opensSign_32 YX7_nextToken lX7_219 rfl ⟨_, rfl, rfl⟩ rfl (Nat.le_of_ble_eq_true rfl) (Nat.le_of_ble_eq_true rfl) rfl h
  · have h := h.2 c
    refine go_aload_n dX7_opensSign_9 rfl ?_
    refine go_iconst (v := 3) dX7_opensSign_10 (by decide) ?_
    refine go_callV0 (μ := mX7_opensSign) [.int _] dX7_opensSign_11 YX7_errs lX7_213 rfl ⟨_, rfl, rfl⟩ rfl (Nat.le_of_ble_eq_true rfl) (Nat.le_of_ble_eq_true rfl) rfl (k_X7_errs hR ?_)
    have h := h _ rfl
    refine go_iconst (v := 0) dX7_opensSign_14 (by decide) ?_
    exact go_zret dX7_opensSign_15 rfl rfl rfl h
theorem b_X7_opensSign_35 {G : gG} {I : gI} {R : gR} {L : gL} {Q : gQ} (hR : g_Fx R) (h : Q (some (.int 1)) SH I R L) : Go G mX7_opensSign 4 0 0 35 [none, none] [] SH I R L Q := by
  refine go_iconst (v := 1) dX7_opensSign_35 (by decide) ?_
  exact go_zret dX7_opensSign_36 rfl rfl rfl h
theorem e_X7_waitsFor {G : gG} {I : gI} {R : gR} {L : gL} {Q : gQ} {o : Int32} (hR : g_Fx R) (h : Mt G mX7_works 2 0 0 [.ref 310, .int (if o = 407 then 1 else if o = 406 then 2 else if o = 43 ∨ o = 45 then 3 else 4)] SH I R L (fun r S' I' R' L' => Go G mX7_waitsFor 4 0 0 8 [some (.ref 310), some (.int o)] (r.toList ++ []) S' I' R' L' Q)) : Mt G mX7_waitsFor 4 0 0 [.ref 310, .int o] SH I R L Q := by
  refine go_start rfl (Nat.le_of_ble_eq_true rfl) rfl ?_
  refine go_aload_n dX7_waitsFor_0 rfl ?_
  refine go_iload_n dX7_waitsFor_1 rfl ?_
  refine go_callS0 (μ := mX7_waitsFor) [.int _] dX7_waitsFor_2 YX7_rank lX7_225 rfl (Nat.le_of_ble_eq_true rfl) (Nat.le_of_ble_eq_true rfl) rfl (k_X7_rank hR ?_)
  refine go_callV0 (μ := mX7_waitsFor) [.int _] dX7_waitsFor_5 YX7_works lX7_233 rfl ⟨_, rfl, rfl⟩ rfl (Nat.le_of_ble_eq_true rfl) (Nat.le_of_ble_eq_true rfl) rfl h
theorem b_X7_waitsFor_8 {G : gG} {I : gI} {R : gR} {L : gL} {Q : gQ} {v1 : Int32} (hR : g_Fx R) (h : vp_in (I 310 24) 80 ∧ (∀ I_1 : gI, I_1 = up I 323 (I 310 24).toNatClampNeg v1 → vp_in (I_1 310 24) 80 ∧ (∀ I_2 : gI, I_2 = up I_1 324 (I_1 310 24).toNatClampNeg (I_1 310 21) → ∀ I_3 : gI, I_3 = up I_2 310 24 ((I_2 310 24) + 1) → Mt G mX7_nextToken 3 0 0 [.ref 310] SH I_3 R L (fun r S' I' R' L' => Go G mX7_waitsFor 4 0 0 45 [none, none] (r.toList ++ []) S' I' R' L' Q)))) : Go G mX7_waitsFor 4 0 0 8 [some (.ref 310), some (.int v1)] [] SH I R L Q := by
  refine go_aload_n dX7_waitsFor_8 rfl ?_
  refine go_getR dX7_waitsFor_9 fX7_54 rfl rfl (hR 310 25 323 rfl) ?_
  refine go_aload_n dX7_waitsFor_12 rfl ?_
  refine go_getI dX7_waitsFor_13 fX7_222 rfl rfl ?_
  refine go_iload_n dX7_waitsFor_16 rfl ?_
  obtain ⟨hi, h⟩ := h
  refine go_iast dX7_waitsFor_17 rfl hi ?_
  have h := h _ rfl
  refine go_aload_n dX7_waitsFor_18 rfl ?_
  refine go_getR dX7_waitsFor_19 fX7_57 rfl rfl (hR 310 26 324 rfl) ?_
  refine go_aload_n dX7_waitsFor_22 rfl ?_
  refine go_getI dX7_waitsFor_23 fX7_222 rfl rfl ?_
  refine go_aload_n dX7_waitsFor_26 rfl ?_
  refine go_getI dX7_waitsFor_27 fX7_207 rfl rfl ?_
  obtain ⟨hi, h⟩ := h
  refine go_iast dX7_waitsFor_30 rfl hi ?_
  have h := h _ rfl
  refine go_aload_n dX7_waitsFor_31 rfl ?_
  refine go_dup dX7_waitsFor_32 rfl ?_
  refine go_getI dX7_waitsFor_33 fX7_222 rfl rfl ?_
  refine go_iconst (v := 1) dX7_waitsFor_36 (by decide) ?_
  refine go_iadd dX7_waitsFor_37 ?_
  refine go_putI dX7_waitsFor_38 fX7_222 rfl rfl rfl rfl ?_
  have h := h _ rfl
  refine go_aload_n dX7_waitsFor_41 rfl ?_
  refine go_drop 0 ?_
  refine go_drop 1 ?_
  refine go_callV0 (μ := mX7_waitsFor) [] dX7_waitsFor_42 YX7_nextToken lX7_219 rfl ⟨_, rfl, rfl⟩ rfl (Nat.le_of_ble_eq_true rfl) (Nat.le_of_ble_eq_true rfl) rfl h
theorem b_X7_waitsFor_45 {G : gG} {I : gI} {R : gR} {L : gL} {Q : gQ} (hR : g_Fx R) (h : Q none SH I R L) : Go G mX7_waitsFor 4 0 0 45 [none, none] [] SH I R L Q := by
  exact go_vret dX7_waitsFor_45 rfl rfl h
theorem e_X7_clauseIsOver {G : gG} {I : gI} {R : gR} {L : gL} {Q : gQ} (hR : g_Fx R) (h : Mt G mX7_works 2 0 0 [.ref 310, .int 1] SH I R L (fun r S' I' R' L' => Go G mX7_clauseIsOver 4 0 0 5 [some (.ref 310)] (r.toList ++ []) S' I' R' L' Q)) : Mt G mX7_clauseIsOver 4 0 0 [.ref 310] SH I R L Q := by
  refine go_start rfl (Nat.le_of_ble_eq_true rfl) rfl ?_
  refine go_aload_n dX7_clauseIsOver_0 rfl ?_
  refine go_iconst (v := 1) dX7_clauseIsOver_1 (by decide) ?_
  refine go_callV0 (μ := mX7_clauseIsOver) [.int _] dX7_clauseIsOver_2 YX7_works lX7_233 rfl ⟨_, rfl, rfl⟩ rfl (Nat.le_of_ble_eq_true rfl) (Nat.le_of_ble_eq_true rfl) rfl h
theorem b_X7_clauseIsOver_5 {G : gG} {I : gI} {R : gR} {L : gL} {Q : gQ} (hR : g_Fx R) (h : ∀ I_1 : gI, I_1 = up I 310 21 0 → (vp_in (I_1 310 34) 400) ∧ (∀ I_3 : gI, I_3 = emM I_1 (408 : Int32) (0 : Int32) → ∀ I_4 : gI, I_4 = up I_3 310 28 ((I_3 310 28) + 1) → Mt G mX7_nextToken 3 0 0 [.ref 310] SH I_4 R L (fun r S' I' R' L' => Go G mX7_clauseIsOver 4 0 0 32 [some (.ref 310)] (r.toList ++ []) S' I' R' L' Q))) : Go G mX7_clauseIsOver 4 0 0 5 [some (.ref 310)] [] SH I R L Q := by
  refine go_aload_n dX7_clauseIsOver_5 rfl ?_
  refine go_iconst (v := 0) dX7_clauseIsOver_6 (by decide) ?_
  refine go_putI dX7_clauseIsOver_7 fX7_207 rfl rfl rfl rfl ?_
  have h := h _ rfl
  refine go_aload_n dX7_clauseIsOver_10 rfl ?_
  refine go_sipush (v := 408) dX7_clauseIsOver_11 (by decide) ?_
  refine go_iconst (v := 0) dX7_clauseIsOver_14 (by decide) ?_
  obtain ⟨hp_2, h⟩ := h
  refine go_callV0 (μ := mX7_clauseIsOver) [.int _, .int _] dX7_clauseIsOver_15 YX7_emits lX7_229 rfl ⟨_, rfl, rfl⟩ rfl (Nat.le_of_ble_eq_true rfl) (Nat.le_of_ble_eq_true rfl) rfl (k_X7_emits hR hp_2 ?_)
  have h := h _ rfl
  refine go_aload_n dX7_clauseIsOver_18 rfl ?_
  refine go_dup dX7_clauseIsOver_19 rfl ?_
  refine go_getI dX7_clauseIsOver_20 fX7_274 rfl rfl ?_
  refine go_iconst (v := 1) dX7_clauseIsOver_23 (by decide) ?_
  refine go_iadd dX7_clauseIsOver_24 ?_
  refine go_putI dX7_clauseIsOver_25 fX7_274 rfl rfl rfl rfl ?_
  have h := h _ rfl
  refine go_aload_n dX7_clauseIsOver_28 rfl ?_
  refine go_callV0 (μ := mX7_clauseIsOver) [] dX7_clauseIsOver_29 YX7_nextToken lX7_219 rfl ⟨_, rfl, rfl⟩ rfl (Nat.le_of_ble_eq_true rfl) (Nat.le_of_ble_eq_true rfl) rfl h
theorem b_X7_clauseIsOver_32 {G : gG} {I : gI} {R : gR} {L : gL} {Q : gQ} (hR : g_Fx R) (h : ∀ I_5 : gI, I_5 = up I 310 27 4 → Q none SH I_5 R L) : Go G mX7_clauseIsOver 4 0 0 32 [some (.ref 310)] [] SH I R L Q := by
  refine go_aload_n dX7_clauseIsOver_32 rfl ?_
  refine go_iconst (v := 4) dX7_clauseIsOver_33 (by decide) ?_
  refine go_putI dX7_clauseIsOver_34 fX7_242 rfl rfl rfl rfl ?_
  have h := h _ rfl
  exact go_vret dX7_clauseIsOver_37 rfl rfl h
theorem e_X7_asks {G : gG} {I : gI} {R : gR} {L : gL} {Q : gQ} (hR : g_Fx R) (h : (¬ (I 310 16 = 1 ∧ I 310 17 = (11 : Int32)) → (vp_in (I 310 21) 40) ∧ (∀ I_2 : gI, I_2 = opF I (4 : Int32) → ∀ I_3 : gI, I_3 = up I_2 310 27 1 → Q none SH I_3 R L)) ∧ (I 310 16 = 1 ∧ I 310 17 = (11 : Int32) → Mt G mX7_opensSign 4 0 0 [.ref 310, .int 3] SH I R L (fun r S' I' R' L' => Go G mX7_asks 5 0 0 14 [none, none] (r.toList ++ []) S' I' R' L' Q))) : Mt G mX7_asks 5 0 0 [.ref 310] SH I R L Q := by
  refine go_start rfl (Nat.le_of_ble_eq_true rfl) rfl ?_
  refine go_aload_n dX7_asks_0 rfl ?_
  refine go_bipush (v := 11) dX7_asks_1 (by decide) ?_
  refine go_callV0 (μ := mX7_asks) [.int _] dX7_asks_3 YX7_isWord lX7_236 rfl ⟨_, rfl, rfl⟩ rfl (Nat.le_of_ble_eq_true rfl) (Nat.le_of_ble_eq_true rfl) rfl (k_X7_isWord hR ?_)
  refine go_if_eq 18 dX7_asks_6 (by decide) (fun c => ?_) (fun c => ?_)
  · have h := h.1 (b0.mp c)
    refine go_aload_n dX7_asks_18 rfl ?_
    refine go_iconst (v := 4) dX7_asks_19 (by decide) ?_
    obtain ⟨hp_1, h⟩ := h
    refine go_callV0 (μ := mX7_asks) [.int _] dX7_asks_20 YX7_opensFrame lX7_216 rfl ⟨_, rfl, rfl⟩ rfl (Nat.le_of_ble_eq_true rfl) (Nat.le_of_ble_eq_true rfl) rfl (k_X7_opensFrame hR hp_1 ?_)
    have h := h _ rfl
    refine go_aload_n dX7_asks_23 rfl ?_
    refine go_iconst (v := 1) dX7_asks_24 (by decide) ?_
    refine go_putI dX7_asks_25 fX7_242 rfl rfl rfl rfl ?_
    have h := h _ rfl
    exact go_vret dX7_asks_28 rfl rfl h
  · have h := h.2 (b1.mp c)
    refine go_aload_n dX7_asks_9 rfl ?_
    refine go_iconst (v := 3) dX7_asks_10 (by decide) ?_
    refine go_drop 0 ?_
    refine go_callV0 (μ := mX7_asks) [.int _] dX7_asks_11 YX7_opensSign lX7_239 rfl ⟨_, rfl, rfl⟩ rfl (Nat.le_of_ble_eq_true rfl) (Nat.le_of_ble_eq_true rfl) rfl h
theorem b_X7_asks_14 {G : gG} {I : gI} {R : gR} {L : gL} {Q : gQ} {s0 : Int32} (hR : g_Fx R) (h : Q none SH I R L) : Go G mX7_asks 5 0 0 14 [none, none] [.int s0] SH I R L Q := by
  refine go_istore_n dX7_asks_14 (Nat.le_of_ble_eq_true rfl) rfl ?_
  refine go_goto 28 dX7_asks_15 (by decide) ?_
  exact go_vret dX7_asks_28 rfl rfl h
theorem e_X7_begins {G : gG} {I : gI} {R : gR} {L : gL} {Q : gQ} (hR : g_Fx R) (h : (¬ (I 310 16) = 2 → (¬ (I 310 16) = 1 → Go G mX7_begins 5 0 0 109 [some (.ref 310), none] [] SH I R L Q) ∧ ((I 310 16) = 1 → ((I 310 17) ≤ 11 → Go G mX7_begins 5 0 0 109 [some (.ref 310), none] [] SH I R L Q) ∧ (¬ (I 310 17) ≤ 11 → ∀ v1_1 : Int32, v1_1 = (((I 310 17) - 11) - 1) → (((I 310 29) = 0 ∧ v1_1 < 8) ∨ (¬ (I 310 29) = 0 ∧ (I 310 29) = 1 ∧ v1_1 < 4) ∨ (¬ (I 310 29) = 0 ∧ ¬ (I 310 29) = 1 ∧ 6 < v1_1) → (vp_in (I 310 34) 400) ∧ (∀ I_3 : gI, I_3 = emM I (401 : Int32) v1_1 → Mt G mX7_nextToken 3 0 0 [.ref 310] SH I_3 R L (fun r S' I' R' L' => Go G mX7_begins 5 0 0 102 [some (.ref 310), none] (r.toList ++ []) S' I' R' L' Q))) ∧ (¬ (((I 310 29) = 0 ∧ v1_1 < 8) ∨ (¬ (I 310 29) = 0 ∧ (I 310 29) = 1 ∧ v1_1 < 4) ∨ (¬ (I 310 29) = 0 ∧ ¬ (I 310 29) = 1 ∧ 6 < v1_1)) → ∀ I_4 : gI, I_4 = errI I (5 : Int32) → Q none SH I_4 R L)))) ∧ ((I 310 16) = 2 → ((I 310 17) ≤ 9999 → (vp_in (I 310 34) 400) ∧ (∀ I_9 : gI, I_9 = emM I (400 : Int32) (I 310 17) → Mt G mX7_nextToken 3 0 0 [.ref 310] SH I_9 R L (fun r S' I' R' L' => Go G mX7_begins 5 0 0 39 [some (.ref 310), none] (r.toList ++ []) S' I' R' L' Q))) ∧ (¬ (I 310 17) ≤ 9999 → ∀ I_10 : gI, I_10 = errI I (2 : Int32) → Q none SH I_10 R L))) : Mt G mX7_begins 5 0 0 [.ref 310] SH I R L Q := by
  refine go_start rfl (Nat.le_of_ble_eq_true rfl) rfl ?_
  refine go_aload_n dX7_begins_0 rfl ?_
  refine go_getI dX7_begins_1 fX7_182 rfl rfl ?_
  refine go_iconst (v := 2) dX7_begins_4 (by decide) ?_
  refine go_icmp_ne 46 dX7_begins_5 (by decide) (fun c => ?_) (fun c => ?_)
  · have h := h.1 c
    refine go_aload_n dX7_begins_46 rfl ?_
    refine go_getI dX7_begins_47 fX7_182 rfl rfl ?_
    refine go_iconst (v := 1) dX7_begins_50 (by decide) ?_
    refine go_icmp_ne 109 dX7_begins_51 (by decide) (fun c => ?_) (fun c => ?_)
    · have h := h.1 c
      exact h
    · have h := h.2 c
      refine go_aload_n dX7_begins_54 rfl ?_
      refine go_getI dX7_begins_55 fX7_194 rfl rfl ?_
      refine go_bipush (v := 11) dX7_begins_58 (by decide) ?_
      refine go_icmp_le 109 dX7_begins_60 (by decide) (fun c => ?_) (fun c => ?_)
      · have h := h.1 c
        exact h
      · have h := h.2 c
        refine go_aload_n dX7_begins_63 rfl ?_
        refine go_getI dX7_begins_64 fX7_194 rfl rfl ?_
        refine go_bipush (v := 11) dX7_begins_67 (by decide) ?_
        refine go_isub dX7_begins_69 ?_
        refine go_iconst (v := 1) dX7_begins_70 (by decide) ?_
        refine go_isub dX7_begins_71 ?_
        refine go_istore_n dX7_begins_72 (Nat.le_of_ble_eq_true rfl) rfl ?_
        have h := h _ rfl
        refine go_iload_n dX7_begins_73 rfl ?_
        refine go_aload_n dX7_begins_74 rfl ?_
        refine go_getI dX7_begins_75 fX7_248 rfl rfl ?_
        refine go_callS0 (μ := mX7_begins) [.int _, .int _] dX7_begins_78 YX7_mayName lX7_251 rfl (Nat.le_of_ble_eq_true rfl) (Nat.le_of_ble_eq_true rfl) rfl (k_X7_mayName hR ?_)
        refine go_if_ne 90 dX7_begins_81 (by decide) (fun c => ?_) (fun c => ?_)
        · have h := h.1 (b1.mp c)
          refine go_aload_n dX7_begins_90 rfl ?_
          refine go_sipush (v := 401) dX7_begins_91 (by decide) ?_
          refine go_iload_n dX7_begins_94 rfl ?_
          obtain ⟨hp_2, h⟩ := h
          refine go_callV0 (μ := mX7_begins) [.int _, .int _] dX7_begins_95 YX7_emits lX7_229 rfl ⟨_, rfl, rfl⟩ rfl (Nat.le_of_ble_eq_true rfl) (Nat.le_of_ble_eq_true rfl) rfl (k_X7_emits hR hp_2 ?_)
          have h := h _ rfl
          refine go_aload_n dX7_begins_98 rfl ?_
          refine go_drop 1 ?_
          refine go_callV0 (μ := mX7_begins) [] dX7_begins_99 YX7_nextToken lX7_219 rfl ⟨_, rfl, rfl⟩ rfl (Nat.le_of_ble_eq_true rfl) (Nat.le_of_ble_eq_true rfl) rfl h
        · have h := h.2 (b0.mp c)
          refine go_aload_n dX7_begins_84 rfl ?_
          refine go_iconst (v := 5) dX7_begins_85 (by decide) ?_
          refine go_callV0 (μ := mX7_begins) [.int _] dX7_begins_86 YX7_errs lX7_213 rfl ⟨_, rfl, rfl⟩ rfl (Nat.le_of_ble_eq_true rfl) (Nat.le_of_ble_eq_true rfl) rfl (k_X7_errs hR ?_)
          have h := h _ rfl
          exact go_vret dX7_begins_89 rfl rfl h
  · have h := h.2 c
    refine go_aload_n dX7_begins_8 rfl ?_
    refine go_getI dX7_begins_9 fX7_194 rfl rfl ?_
    refine go_sipush (v := 9999) dX7_begins_12 (by decide) ?_
    refine go_icmp_le 24 dX7_begins_15 (by decide) (fun c => ?_) (fun c => ?_)
    · have h := h.1 c
      refine go_aload_n dX7_begins_24 rfl ?_
      refine go_sipush (v := 400) dX7_begins_25 (by decide) ?_
      refine go_aload_n dX7_begins_28 rfl ?_
      refine go_getI dX7_begins_29 fX7_194 rfl rfl ?_
      obtain ⟨hp_8, h⟩ := h
      refine go_callV0 (μ := mX7_begins) [.int _, .int _] dX7_begins_32 YX7_emits lX7_229 rfl ⟨_, rfl, rfl⟩ rfl (Nat.le_of_ble_eq_true rfl) (Nat.le_of_ble_eq_true rfl) rfl (k_X7_emits hR hp_8 ?_)
      have h := h _ rfl
      refine go_aload_n dX7_begins_35 rfl ?_
      refine go_callV0 (μ := mX7_begins) [] dX7_begins_36 YX7_nextToken lX7_219 rfl ⟨_, rfl, rfl⟩ rfl (Nat.le_of_ble_eq_true rfl) (Nat.le_of_ble_eq_true rfl) rfl h
    · have h := h.2 c
      refine go_aload_n dX7_begins_18 rfl ?_
      refine go_iconst (v := 2) dX7_begins_19 (by decide) ?_
      refine go_callV0 (μ := mX7_begins) [.int _] dX7_begins_20 YX7_errs lX7_213 rfl ⟨_, rfl, rfl⟩ rfl (Nat.le_of_ble_eq_true rfl) (Nat.le_of_ble_eq_true rfl) rfl (k_X7_errs hR ?_)
      have h := h _ rfl
      exact go_vret dX7_begins_23 rfl rfl h
theorem b_X7_begins_109 {G : gG} {I : gI} {R : gR} {L : gL} {Q : gQ} (hR : g_Fx R) (h : (¬ (I 310 16 = 3 ∧ I 310 17 = (40 : Int32)) → (¬ (I 310 16 = 3 ∧ I 310 17 = (45 : Int32)) → ∀ I_13 : gI, I_13 = errI I (1 : Int32) → Q none SH I_13 R L) ∧ (I 310 16 = 3 ∧ I 310 17 = (45 : Int32) → Mt G mX7_opensSign 4 0 0 [.ref 310, .int 7] SH I R L (fun r S' I' R' L' => Go G mX7_begins 5 0 0 143 [none, none] (r.toList ++ []) S' I' R' L' Q))) ∧ (I 310 16 = 3 ∧ I 310 17 = (40 : Int32) → Mt G mX7_opensSign 4 0 0 [.ref 310, .int 6] SH I R L (fun r S' I' R' L' => Go G mX7_begins 5 0 0 124 [none, none] (r.toList ++ []) S' I' R' L' Q))) : Go G mX7_begins 5 0 0 109 [some (.ref 310), none] [] SH I R L Q := by
  refine go_aload_n dX7_begins_109 rfl ?_
  refine go_bipush (v := 40) dX7_begins_110 (by decide) ?_
  refine go_callV0 (μ := mX7_begins) [.int _] dX7_begins_112 YX7_isSign lX7_255 rfl ⟨_, rfl, rfl⟩ rfl (Nat.le_of_ble_eq_true rfl) (Nat.le_of_ble_eq_true rfl) rfl (k_X7_isSign hR ?_)
  refine go_if_eq 128 dX7_begins_115 (by decide) (fun c => ?_) (fun c => ?_)
  · have h := h.1 (b0.mp c)
    refine go_aload_n dX7_begins_128 rfl ?_
    refine go_bipush (v := 45) dX7_begins_129 (by decide) ?_
    refine go_callV0 (μ := mX7_begins) [.int _] dX7_begins_131 YX7_isSign lX7_255 rfl ⟨_, rfl, rfl⟩ rfl (Nat.le_of_ble_eq_true rfl) (Nat.le_of_ble_eq_true rfl) rfl (k_X7_isSign hR ?_)
    refine go_if_eq 147 dX7_begins_134 (by decide) (fun c => ?_) (fun c => ?_)
    · have h := h.1 (b0.mp c)
      refine go_aload_n dX7_begins_147 rfl ?_
      refine go_iconst (v := 1) dX7_begins_148 (by decide) ?_
      refine go_callV0 (μ := mX7_begins) [.int _] dX7_begins_149 YX7_errs lX7_213 rfl ⟨_, rfl, rfl⟩ rfl (Nat.le_of_ble_eq_true rfl) (Nat.le_of_ble_eq_true rfl) rfl (k_X7_errs hR ?_)
      have h := h _ rfl
      exact go_vret dX7_begins_152 rfl rfl h
    · have h := h.2 (b1.mp c)
      refine go_aload_n dX7_begins_137 rfl ?_
      refine go_bipush (v := 7) dX7_begins_138 (by decide) ?_
      refine go_drop 0 ?_
      refine go_callV0 (μ := mX7_begins) [.int _] dX7_begins_140 YX7_opensSign lX7_239 rfl ⟨_, rfl, rfl⟩ rfl (Nat.le_of_ble_eq_true rfl) (Nat.le_of_ble_eq_true rfl) rfl h
  · have h := h.2 (b1.mp c)
    refine go_aload_n dX7_begins_118 rfl ?_
    refine go_bipush (v := 6) dX7_begins_119 (by decide) ?_
    refine go_drop 0 ?_
    refine go_callV0 (μ := mX7_begins) [.int _] dX7_begins_121 YX7_opensSign lX7_239 rfl ⟨_, rfl, rfl⟩ rfl (Nat.le_of_ble_eq_true rfl) (Nat.le_of_ble_eq_true rfl) rfl h
theorem b_X7_begins_102 {G : gG} {I : gI} {R : gR} {L : gL} {Q : gQ} (hR : g_Fx R) (h : Mt G mX7_oneIsOver 2 0 0 [.ref 310] SH I R L (fun r S' I' R' L' => Go G mX7_begins 5 0 0 106 [none, none] (r.toList ++ []) S' I' R' L' Q)) : Go G mX7_begins 5 0 0 102 [some (.ref 310), none] [] SH I R L Q := by
  refine go_aload_n dX7_begins_102 rfl ?_
  refine go_drop 0 ?_
  refine go_callV0 (μ := mX7_begins) [] dX7_begins_103 YX7_oneIsOver lX7_245 rfl ⟨_, rfl, rfl⟩ rfl (Nat.le_of_ble_eq_true rfl) (Nat.le_of_ble_eq_true rfl) rfl h
theorem b_X7_begins_39 {G : gG} {I : gI} {R : gR} {L : gL} {Q : gQ} (hR : g_Fx R) (h : Mt G mX7_oneIsOver 2 0 0 [.ref 310] SH I R L (fun r S' I' R' L' => Go G mX7_begins 5 0 0 43 [none, none] (r.toList ++ []) S' I' R' L' Q)) : Go G mX7_begins 5 0 0 39 [some (.ref 310), none] [] SH I R L Q := by
  refine go_aload_n dX7_begins_39 rfl ?_
  refine go_drop 0 ?_
  refine go_callV0 (μ := mX7_begins) [] dX7_begins_40 YX7_oneIsOver lX7_245 rfl ⟨_, rfl, rfl⟩ rfl (Nat.le_of_ble_eq_true rfl) (Nat.le_of_ble_eq_true rfl) rfl h
theorem b_X7_begins_143 {G : gG} {I : gI} {R : gR} {L : gL} {Q : gQ} {s0 : Int32} (hR : g_Fx R) (h : Q none SH I R L) : Go G mX7_begins 5 0 0 143 [none, none] [.int s0] SH I R L Q := by
  refine go_istore_n dX7_begins_143 (Nat.le_of_ble_eq_true rfl) rfl ?_
  refine go_goto 152 dX7_begins_144 (by decide) ?_
  exact go_vret dX7_begins_152 rfl rfl h
theorem b_X7_begins_124 {G : gG} {I : gI} {R : gR} {L : gL} {Q : gQ} {s0 : Int32} (hR : g_Fx R) (h : Q none SH I R L) : Go G mX7_begins 5 0 0 124 [none, none] [.int s0] SH I R L Q := by
  refine go_istore_n dX7_begins_124 (Nat.le_of_ble_eq_true rfl) rfl ?_
  refine go_goto 152 dX7_begins_125 (by decide) ?_
  exact go_vret dX7_begins_152 rfl rfl h
theorem b_X7_begins_106 {G : gG} {I : gI} {R : gR} {L : gL} {Q : gQ} (hR : g_Fx R) (h : Q none SH I R L) : Go G mX7_begins 5 0 0 106 [none, none] [] SH I R L Q := by
  refine go_goto 152 dX7_begins_106 (by decide) ?_
  exact go_vret dX7_begins_152 rfl rfl h
theorem b_X7_begins_43 {G : gG} {I : gI} {R : gR} {L : gL} {Q : gQ} (hR : g_Fx R) (h : Q none SH I R L) : Go G mX7_begins 5 0 0 43 [none, none] [] SH I R L Q := by
  refine go_goto 152 dX7_begins_43 (by decide) ?_
  exact go_vret dX7_begins_152 rfl rfl h
theorem e_X7_goesOn {G : gG} {I : gI} {R : gR} {L : gL} {Q : gQ} (hR : g_Fx R) (h : (vp_in (I 310 21 - 1) 40) ∧ (∀ v1_2 : Int32, v1_2 = I 321 (I 310 21 - 1).toNatClampNeg → (¬ (I 310 16) = 3 → Go G mX7_goesOn 5 0 0 65 [some (.ref 310), some (.int v1_2), none] [] SH I R L Q) ∧ ((I 310 16) = 3 → ((I 310 17) = 43 → Go G mX7_goesOn 5 0 0 49 [some (.ref 310), none, none] [] SH I R L Q) ∧ (¬ (I 310 17) = 43 → ((I 310 17) = 45 → Go G mX7_goesOn 5 0 0 49 [some (.ref 310), none, none] [] SH I R L Q) ∧ (¬ (I 310 17) = 45 → ((I 310 17) = 42 → Go G mX7_goesOn 5 0 0 49 [some (.ref 310), none, none] [] SH I R L Q) ∧ (¬ (I 310 17) = 42 → (¬ (I 310 17) = 47 → Go G mX7_goesOn 5 0 0 65 [some (.ref 310), some (.int v1_2), none] [] SH I R L Q) ∧ ((I 310 17) = 47 → Go G mX7_goesOn 5 0 0 49 [some (.ref 310), none, none] [] SH I R L Q))))))) : Mt G mX7_goesOn 5 0 0 [.ref 310] SH I R L Q := by
  refine go_start rfl (Nat.le_of_ble_eq_true rfl) rfl ?_
  refine go_aload_n dX7_goesOn_0 rfl ?_
  obtain ⟨hp_1, h⟩ := h
  refine go_callV0 (μ := mX7_goesOn) [] dX7_goesOn_1 YX7_top lX7_258 rfl ⟨_, rfl, rfl⟩ rfl (Nat.le_of_ble_eq_true rfl) (Nat.le_of_ble_eq_true rfl) rfl (k_X7_top hR hp_1 ?_)
  refine go_istore_n dX7_goesOn_4 (Nat.le_of_ble_eq_true rfl) rfl ?_
  have h := h _ rfl
  refine go_aload_n dX7_goesOn_5 rfl ?_
  refine go_getI dX7_goesOn_6 fX7_182 rfl rfl ?_
  refine go_iconst (v := 3) dX7_goesOn_9 (by decide) ?_
  refine go_icmp_ne 65 dX7_goesOn_10 (by decide) (fun c => ?_) (fun c => ?_)
  · have h := h.1 c
    exact h
  · have h := h.2 c
    refine go_aload_n dX7_goesOn_13 rfl ?_
    refine go_getI dX7_goesOn_14 fX7_194 rfl rfl ?_
    refine go_bipush (v := 43) dX7_goesOn_17 (by decide) ?_
    refine go_icmp_eq 49 dX7_goesOn_19 (by decide) (fun c => ?_) (fun c => ?_)
    · have h := h.1 c
      refine go_drop 1 ?_
      exact h
    · have h := h.2 c
      refine go_aload_n dX7_goesOn_22 rfl ?_
      refine go_getI dX7_goesOn_23 fX7_194 rfl rfl ?_
      refine go_bipush (v := 45) dX7_goesOn_26 (by decide) ?_
      refine go_icmp_eq 49 dX7_goesOn_28 (by decide) (fun c => ?_) (fun c => ?_)
      · have h := h.1 c
        refine go_drop 1 ?_
        exact h
      · have h := h.2 c
        refine go_aload_n dX7_goesOn_31 rfl ?_
        refine go_getI dX7_goesOn_32 fX7_194 rfl rfl ?_
        refine go_bipush (v := 42) dX7_goesOn_35 (by decide) ?_
        refine go_icmp_eq 49 dX7_goesOn_37 (by decide) (fun c => ?_) (fun c => ?_)
        · have h := h.1 c
          refine go_drop 1 ?_
          exact h
        · have h := h.2 c
          refine go_aload_n dX7_goesOn_40 rfl ?_
          refine go_getI dX7_goesOn_41 fX7_194 rfl rfl ?_
          refine go_bipush (v := 47) dX7_goesOn_44 (by decide) ?_
          refine go_icmp_ne 65 dX7_goesOn_46 (by decide) (fun c => ?_) (fun c => ?_)
          · have h := h.1 c
            exact h
          · have h := h.2 c
            refine go_drop 1 ?_
            exact h
theorem b_X7_goesOn_65 {G : gG} {I : gI} {R : gR} {L : gL} {Q : gQ} {v1 : Int32} (hR : g_Fx R) (h : (¬ v1 = 6 → Go G mX7_goesOn 5 0 0 116 [some (.ref 310), some (.int v1), none] [] SH I R L Q) ∧ (v1 = 6 → (¬ (I 310 16 = 3 ∧ I 310 17 = (41 : Int32)) → Go G mX7_goesOn 5 0 0 116 [some (.ref 310), some (.int v1), none] [] SH I R L Q) ∧ (I 310 16 = 3 ∧ I 310 17 = (41 : Int32) → Mt G mX7_works 2 0 0 [.ref 310, .int 3] SH I R L (fun r S' I' R' L' => Go G mX7_goesOn 5 0 0 85 [some (.ref 310), none, none] (r.toList ++ []) S' I' R' L' Q)))) : Go G mX7_goesOn 5 0 0 65 [some (.ref 310), some (.int v1), none] [] SH I R L Q := by
  refine go_iload_n dX7_goesOn_65 rfl ?_
  refine go_bipush (v := 6) dX7_goesOn_66 (by decide) ?_
  refine go_icmp_ne 116 dX7_goesOn_68 (by decide) (fun c => ?_) (fun c => ?_)
  · have h := h.1 c
    exact h
  · have h := h.2 c
    refine go_aload_n dX7_goesOn_71 rfl ?_
    refine go_bipush (v := 41) dX7_goesOn_72 (by decide) ?_
    refine go_callV0 (μ := mX7_goesOn) [.int _] dX7_goesOn_74 YX7_isSign lX7_255 rfl ⟨_, rfl, rfl⟩ rfl (Nat.le_of_ble_eq_true rfl) (Nat.le_of_ble_eq_true rfl) rfl (k_X7_isSign hR ?_)
    refine go_if_eq 116 dX7_goesOn_77 (by decide) (fun c => ?_) (fun c => ?_)
    · have h := h.1 (b0.mp c)
      exact h
    · have h := h.2 (b1.mp c)
      refine go_aload_n dX7_goesOn_80 rfl ?_
      refine go_iconst (v := 3) dX7_goesOn_81 (by decide) ?_
      refine go_drop 1 ?_
      refine go_callV0 (μ := mX7_goesOn) [.int _] dX7_goesOn_82 YX7_works lX7_233 rfl ⟨_, rfl, rfl⟩ rfl (Nat.le_of_ble_eq_true rfl) (Nat.le_of_ble_eq_true rfl) rfl h
theorem b_X7_goesOn_49 {G : gG} {I : gI} {R : gR} {L : gL} {Q : gQ} (hR : g_Fx R) (h : Mt G mX7_waitsFor 4 0 0 [.ref 310, .int (I 310 17)] SH I R L (fun r S' I' R' L' => Go G mX7_goesOn 5 0 0 57 [some (.ref 310), none, none] (r.toList ++ []) S' I' R' L' Q)) : Go G mX7_goesOn 5 0 0 49 [some (.ref 310), none, none] [] SH I R L Q := by
  refine go_aload_n dX7_goesOn_49 rfl ?_
  refine go_aload_n dX7_goesOn_50 rfl ?_
  refine go_getI dX7_goesOn_51 fX7_194 rfl rfl ?_
  refine go_callV0 (μ := mX7_goesOn) [.int _] dX7_goesOn_54 YX7_waitsFor lX7_262 rfl ⟨_, rfl, rfl⟩ rfl (Nat.le_of_ble_eq_true rfl) (Nat.le_of_ble_eq_true rfl) rfl h
theorem b_X7_goesOn_116 {G : gG} {I : gI} {R : gR} {L : gL} {Q : gQ} {v1 : Int32} (hR : g_Fx R) (h : (¬ v1 = 4 → Go G mX7_goesOn 5 0 0 181 [some (.ref 310), some (.int v1), none] [] SH I R L Q) ∧ (v1 = 4 → (¬ (I 310 16) = 3 → Go G mX7_goesOn 5 0 0 181 [some (.ref 310), some (.int v1), none] [] SH I R L Q) ∧ ((I 310 16) = 3 → (¬ ((I 310 17) = 60 ∨ (I 310 17) = 62 ∨ (I 310 17) = 61 ∨ (I 310 17) = 35 ∨ (I 310 17) = 300 ∨ (I 310 17) = 301) → Go G mX7_goesOn 5 0 0 181 [some (.ref 310), some (.int v1), none] [] SH I R L Q) ∧ ((I 310 17) = 60 ∨ (I 310 17) = 62 ∨ (I 310 17) = 61 ∨ (I 310 17) = 35 ∨ (I 310 17) = 300 ∨ (I 310 17) = 301 → Mt G mX7_works 2 0 0 [.ref 310, .int 3] SH I R L (fun r S' I' R' L' => Go G mX7_goesOn 5 0 0 144 [some (.ref 310), none, none] (r.toList ++ []) S' I' R' L' Q))))) : Go G mX7_goesOn 5 0 0 116 [some (.ref 310), some (.int v1), none] [] SH I R L Q := by
  refine go_iload_n dX7_goesOn_116 rfl ?_
  refine go_iconst (v := 4) dX7_goesOn_117 (by decide) ?_
  refine go_icmp_ne 181 dX7_goesOn_118 (by decide) (fun c => ?_) (fun c => ?_)
  · have h := h.1 c
    exact h
  · have h := h.2 c
    refine go_aload_n dX7_goesOn_121 rfl ?_
    refine go_getI dX7_goesOn_122 fX7_182 rfl rfl ?_
    refine go_iconst (v := 3) dX7_goesOn_125 (by decide) ?_
    refine go_icmp_ne 181 dX7_goesOn_126 (by decide) (fun c => ?_) (fun c => ?_)
    · have h := h.1 c
      exact h
    · have h := h.2 c
      refine go_aload_n dX7_goesOn_129 rfl ?_
      refine go_getI dX7_goesOn_130 fX7_194 rfl rfl ?_
      refine go_callS0 (μ := mX7_goesOn) [.int _] dX7_goesOn_133 YX7_isAsking lX7_265 rfl (Nat.le_of_ble_eq_true rfl) (Nat.le_of_ble_eq_true rfl) rfl (k_X7_isAsking hR ?_)
      refine go_if_eq 181 dX7_goesOn_136 (by decide) (fun c => ?_) (fun c => ?_)
      · have h := h.1 (b0.mp c)
        exact h
      · have h := h.2 (b1.mp c)
        refine go_aload_n dX7_goesOn_139 rfl ?_
        refine go_iconst (v := 3) dX7_goesOn_140 (by decide) ?_
        refine go_drop 1 ?_
        refine go_callV0 (μ := mX7_goesOn) [.int _] dX7_goesOn_141 YX7_works lX7_233 rfl ⟨_, rfl, rfl⟩ rfl (Nat.le_of_ble_eq_true rfl) (Nat.le_of_ble_eq_true rfl) rfl h
theorem b_X7_goesOn_85 {G : gG} {I : gI} {R : gR} {L : gL} {Q : gQ} (hR : g_Fx R) (h : ∀ I_13 : gI, I_13 = up I 310 21 ((I 310 21) - 1) → ∀ I_14 : gI, I_14 = up I_13 310 20 ((I_13 310 20) - 1) → Mt G mX7_nextToken 3 0 0 [.ref 310] SH I_14 R L (fun r S' I' R' L' => Go G mX7_goesOn 5 0 0 109 [some (.ref 310), none, none] (r.toList ++ []) S' I' R' L' Q)) : Go G mX7_goesOn 5 0 0 85 [some (.ref 310), none, none] [] SH I R L Q := by
  refine go_aload_n dX7_goesOn_85 rfl ?_
  refine go_dup dX7_goesOn_86 rfl ?_
  refine go_getI dX7_goesOn_87 fX7_207 rfl rfl ?_
  refine go_iconst (v := 1) dX7_goesOn_90 (by decide) ?_
  refine go_isub dX7_goesOn_91 ?_
  refine go_putI dX7_goesOn_92 fX7_207 rfl rfl rfl rfl ?_
  have h := h _ rfl
  refine go_aload_n dX7_goesOn_95 rfl ?_
  refine go_dup dX7_goesOn_96 rfl ?_
  refine go_getI dX7_goesOn_97 fX7_210 rfl rfl ?_
  refine go_iconst (v := 1) dX7_goesOn_100 (by decide) ?_
  refine go_isub dX7_goesOn_101 ?_
  refine go_putI dX7_goesOn_102 fX7_210 rfl rfl rfl rfl ?_
  have h := h _ rfl
  refine go_aload_n dX7_goesOn_105 rfl ?_
  refine go_callV0 (μ := mX7_goesOn) [] dX7_goesOn_106 YX7_nextToken lX7_219 rfl ⟨_, rfl, rfl⟩ rfl (Nat.le_of_ble_eq_true rfl) (Nat.le_of_ble_eq_true rfl) rfl h
theorem b_X7_goesOn_57 {G : gG} {I : gI} {R : gR} {L : gL} {Q : gQ} (hR : g_Fx R) (h : ∀ I_15 : gI, I_15 = up I 310 27 1 → Q none SH I_15 R L) : Go G mX7_goesOn 5 0 0 57 [some (.ref 310), none, none] [] SH I R L Q := by
  refine go_aload_n dX7_goesOn_57 rfl ?_
  refine go_iconst (v := 1) dX7_goesOn_58 (by decide) ?_
  refine go_putI dX7_goesOn_59 fX7_242 rfl rfl rfl rfl ?_
  have h := h _ rfl
  refine go_goto 250 dX7_goesOn_62 (by decide) ?_
  exact go_vret dX7_goesOn_250 rfl rfl h
theorem b_X7_goesOn_181 {G : gG} {I : gI} {R : gR} {L : gL} {Q : gQ} {v1 : Int32} (hR : g_Fx R) (h : (¬ v1 = 5 → (¬ v1 = 1 → ∀ I_16 : gI, I_16 = errI I (1 : Int32) → Q none SH I_16 R L) ∧ (v1 = 1 → (¬ (I 310 16 = 3 ∧ I 310 17 = (59 : Int32)) → ∀ I_17 : gI, I_17 = errI I (1 : Int32) → Q none SH I_17 R L) ∧ (I 310 16 = 3 ∧ I 310 17 = (59 : Int32) → Mt G mX7_clauseIsOver 4 0 0 [.ref 310] SH I R L (fun r S' I' R' L' => Go G mX7_goesOn 5 0 0 242 [none, none, none] (r.toList ++ []) S' I' R' L' Q)))) ∧ (v1 = 5 → Mt G mX7_works 2 0 0 [.ref 310, .int 3] SH I R L (fun r S' I' R' L' => Go G mX7_goesOn 5 0 0 191 [some (.ref 310), none, none] (r.toList ++ []) S' I' R' L' Q))) : Go G mX7_goesOn 5 0 0 181 [some (.ref 310), some (.int v1), none] [] SH I R L Q := by
  refine go_iload_n dX7_goesOn_181 rfl ?_
  refine go_iconst (v := 5) dX7_goesOn_182 (by decide) ?_
  refine go_icmp_ne 224 dX7_goesOn_183 (by decide) (fun c => ?_) (fun c => ?_)
  · have h := h.1 c
    refine go_iload_n dX7_goesOn_224 rfl ?_
    refine go_iconst (v := 1) dX7_goesOn_225 (by decide) ?_
    refine go_icmp_ne 245 dX7_goesOn_226 (by decide) (fun c => ?_) (fun c => ?_)
    · have h := h.1 c
      refine go_aload_n dX7_goesOn_245 rfl ?_
      refine go_iconst (v := 1) dX7_goesOn_246 (by decide) ?_
      refine go_callV0 (μ := mX7_goesOn) [.int _] dX7_goesOn_247 YX7_errs lX7_213 rfl ⟨_, rfl, rfl⟩ rfl (Nat.le_of_ble_eq_true rfl) (Nat.le_of_ble_eq_true rfl) rfl (k_X7_errs hR ?_)
      have h := h _ rfl
      exact go_vret dX7_goesOn_250 rfl rfl h
    · have h := h.2 c
      refine go_aload_n dX7_goesOn_229 rfl ?_
      refine go_bipush (v := 59) dX7_goesOn_230 (by decide) ?_
      refine go_callV0 (μ := mX7_goesOn) [.int _] dX7_goesOn_232 YX7_isSign lX7_255 rfl ⟨_, rfl, rfl⟩ rfl (Nat.le_of_ble_eq_true rfl) (Nat.le_of_ble_eq_true rfl) rfl (k_X7_isSign hR ?_)
      refine go_if_eq 245 dX7_goesOn_235 (by decide) (fun c => ?_) (fun c => ?_)
      · have h := h.1 (b0.mp c)
        refine go_aload_n dX7_goesOn_245 rfl ?_
        refine go_iconst (v := 1) dX7_goesOn_246 (by decide) ?_
        refine go_callV0 (μ := mX7_goesOn) [.int _] dX7_goesOn_247 YX7_errs lX7_213 rfl ⟨_, rfl, rfl⟩ rfl (Nat.le_of_ble_eq_true rfl) (Nat.le_of_ble_eq_true rfl) rfl (k_X7_errs hR ?_)
        have h := h _ rfl
        exact go_vret dX7_goesOn_250 rfl rfl h
      · have h := h.2 (b1.mp c)
        refine go_aload_n dX7_goesOn_238 rfl ?_
        refine go_drop 0 ?_
        refine go_drop 1 ?_
        refine go_callV0 (μ := mX7_goesOn) [] dX7_goesOn_239 YX7_clauseIsOver lX7_271 rfl ⟨_, rfl, rfl⟩ rfl (Nat.le_of_ble_eq_true rfl) (Nat.le_of_ble_eq_true rfl) rfl h
  · have h := h.2 c
    refine go_aload_n dX7_goesOn_186 rfl ?_
    refine go_iconst (v := 3) dX7_goesOn_187 (by decide) ?_
    refine go_drop 1 ?_
    refine go_callV0 (μ := mX7_goesOn) [.int _] dX7_goesOn_188 YX7_works lX7_233 rfl ⟨_, rfl, rfl⟩ rfl (Nat.le_of_ble_eq_true rfl) (Nat.le_of_ble_eq_true rfl) rfl h
theorem b_X7_goesOn_144 {G : gG} {I : gI} {R : gR} {L : gL} {Q : gQ} (hR : g_Fx R) (h : vp_in (I 310 21) 41 ∧ (∀ I_21 : gI, I_21 = up I 322 (I 310 21).toNatClampNeg (I 310 17) → vp_in ((I_21 310 21) - 1) 40 ∧ (∀ I_22 : gI, I_22 = up I_21 321 ((I_21 310 21) - 1).toNatClampNeg 5 → Mt G mX7_nextToken 3 0 0 [.ref 310] SH I_22 R L (fun r S' I' R' L' => Go G mX7_goesOn 5 0 0 173 [some (.ref 310), none, none] (r.toList ++ []) S' I' R' L' Q)))) : Go G mX7_goesOn 5 0 0 144 [some (.ref 310), none, none] [] SH I R L Q := by
  refine go_aload_n dX7_goesOn_144 rfl ?_
  refine go_getR dX7_goesOn_145 fX7_51 rfl rfl (hR 310 23 322 rfl) ?_
  refine go_aload_n dX7_goesOn_148 rfl ?_
  refine go_getI dX7_goesOn_149 fX7_207 rfl rfl ?_
  refine go_aload_n dX7_goesOn_152 rfl ?_
  refine go_getI dX7_goesOn_153 fX7_194 rfl rfl ?_
  obtain ⟨hi, h⟩ := h
  refine go_iast dX7_goesOn_156 rfl hi ?_
  have h := h _ rfl
  refine go_aload_n dX7_goesOn_157 rfl ?_
  refine go_getR dX7_goesOn_158 fX7_48 rfl rfl (hR 310 22 321 rfl) ?_
  refine go_aload_n dX7_goesOn_161 rfl ?_
  refine go_getI dX7_goesOn_162 fX7_207 rfl rfl ?_
  refine go_iconst (v := 1) dX7_goesOn_165 (by decide) ?_
  refine go_isub dX7_goesOn_166 ?_
  refine go_iconst (v := 5) dX7_goesOn_167 (by decide) ?_
  obtain ⟨hi, h⟩ := h
  refine go_iast dX7_goesOn_168 rfl hi ?_
  have h := h _ rfl
  refine go_aload_n dX7_goesOn_169 rfl ?_
  refine go_callV0 (μ := mX7_goesOn) [] dX7_goesOn_170 YX7_nextToken lX7_219 rfl ⟨_, rfl, rfl⟩ rfl (Nat.le_of_ble_eq_true rfl) (Nat.le_of_ble_eq_true rfl) rfl h
theorem b_X7_goesOn_109 {G : gG} {I : gI} {R : gR} {L : gL} {Q : gQ} (hR : g_Fx R) (h : Mt G mX7_oneIsOver 2 0 0 [.ref 310] SH I R L (fun r S' I' R' L' => Go G mX7_goesOn 5 0 0 113 [none, none, none] (r.toList ++ []) S' I' R' L' Q)) : Go G mX7_goesOn 5 0 0 109 [some (.ref 310), none, none] [] SH I R L Q := by
  refine go_aload_n dX7_goesOn_109 rfl ?_
  refine go_drop 0 ?_
  refine go_callV0 (μ := mX7_goesOn) [] dX7_goesOn_110 YX7_oneIsOver lX7_245 rfl ⟨_, rfl, rfl⟩ rfl (Nat.le_of_ble_eq_true rfl) (Nat.le_of_ble_eq_true rfl) rfl h
theorem b_X7_goesOn_242 {G : gG} {I : gI} {R : gR} {L : gL} {Q : gQ} (hR : g_Fx R) (h : Q none SH I R L) : Go G mX7_goesOn 5 0 0 242 [none, none, none] [] SH I R L Q := by
  refine go_goto 250 dX7_goesOn_242 (by decide) ?_
  exact go_vret dX7_goesOn_250 rfl rfl h
theorem b_X7_goesOn_191 {G : gG} {I : gI} {R : gR} {L : gL} {Q : gQ} (hR : g_Fx R) (h : vp_in (I 310 21) 41 ∧ (∀ v2_23 : Int32, v2_23 = (I 322 (I 310 21).toNatClampNeg) → ∀ I_24 : gI, I_24 = up I 310 21 ((I 310 21) - 1) → (vp_in (I_24 310 34) 400) ∧ (∀ I_26 : gI, I_26 = emM I_24 v2_23 (0 : Int32) → Mt G mX7_askIsOver 2 0 0 [.ref 310] SH I_26 R L (fun r S' I' R' L' => Go G mX7_goesOn 5 0 0 221 [none, none, none] (r.toList ++ []) S' I' R' L' Q)))) : Go G mX7_goesOn 5 0 0 191 [some (.ref 310), none, none] [] SH I R L Q := by
  refine go_aload_n dX7_goesOn_191 rfl ?_
  refine go_getR dX7_goesOn_192 fX7_51 rfl rfl (hR 310 23 322 rfl) ?_
  refine go_aload_n dX7_goesOn_195 rfl ?_
  refine go_getI dX7_goesOn_196 fX7_207 rfl rfl ?_
  obtain ⟨hi, h⟩ := h
  refine go_iald dX7_goesOn_199 rfl hi ?_
  refine go_istore_n dX7_goesOn_200 (Nat.le_of_ble_eq_true rfl) rfl ?_
  have h := h _ rfl
  refine go_aload_n dX7_goesOn_201 rfl ?_
  refine go_dup dX7_goesOn_202 rfl ?_
  refine go_getI dX7_goesOn_203 fX7_207 rfl rfl ?_
  refine go_iconst (v := 1) dX7_goesOn_206 (by decide) ?_
  refine go_isub dX7_goesOn_207 ?_
  refine go_putI dX7_goesOn_208 fX7_207 rfl rfl rfl rfl ?_
  have h := h _ rfl
  refine go_aload_n dX7_goesOn_211 rfl ?_
  refine go_iload_n dX7_goesOn_212 rfl ?_
  refine go_iconst (v := 0) dX7_goesOn_213 (by decide) ?_
  obtain ⟨hp_25, h⟩ := h
  refine go_callV0 (μ := mX7_goesOn) [.int _, .int _] dX7_goesOn_214 YX7_emits lX7_229 rfl ⟨_, rfl, rfl⟩ rfl (Nat.le_of_ble_eq_true rfl) (Nat.le_of_ble_eq_true rfl) rfl (k_X7_emits hR hp_25 ?_)
  have h := h _ rfl
  refine go_aload_n dX7_goesOn_217 rfl ?_
  refine go_drop 0 ?_
  refine go_drop 2 ?_
  refine go_callV0 (μ := mX7_goesOn) [] dX7_goesOn_218 YX7_askIsOver lX7_268 rfl ⟨_, rfl, rfl⟩ rfl (Nat.le_of_ble_eq_true rfl) (Nat.le_of_ble_eq_true rfl) rfl h
theorem b_X7_goesOn_173 {G : gG} {I : gI} {R : gR} {L : gL} {Q : gQ} (hR : g_Fx R) (h : ∀ I_27 : gI, I_27 = up I 310 27 1 → Q none SH I_27 R L) : Go G mX7_goesOn 5 0 0 173 [some (.ref 310), none, none] [] SH I R L Q := by
  refine go_aload_n dX7_goesOn_173 rfl ?_
  refine go_iconst (v := 1) dX7_goesOn_174 (by decide) ?_
  refine go_putI dX7_goesOn_175 fX7_242 rfl rfl rfl rfl ?_
  have h := h _ rfl
  refine go_goto 250 dX7_goesOn_178 (by decide) ?_
  exact go_vret dX7_goesOn_250 rfl rfl h
theorem b_X7_goesOn_113 {G : gG} {I : gI} {R : gR} {L : gL} {Q : gQ} (hR : g_Fx R) (h : Q none SH I R L) : Go G mX7_goesOn 5 0 0 113 [none, none, none] [] SH I R L Q := by
  refine go_goto 250 dX7_goesOn_113 (by decide) ?_
  exact go_vret dX7_goesOn_250 rfl rfl h
theorem b_X7_goesOn_221 {G : gG} {I : gI} {R : gR} {L : gL} {Q : gQ} (hR : g_Fx R) (h : Q none SH I R L) : Go G mX7_goesOn 5 0 0 221 [none, none, none] [] SH I R L Q := by
  refine go_goto 250 dX7_goesOn_221 (by decide) ?_
  exact go_vret dX7_goesOn_250 rfl rfl h
theorem e_X7_asksOn {G : gG} {I : gI} {R : gR} {L : gL} {Q : gQ} (hR : g_Fx R) (h : (I 310 16 = 1 ∧ I 310 17 = (9 : Int32) → Go G mX7_asksOn 5 0 0 18 [some (.ref 310)] [] SH I R L Q) ∧ (¬ (I 310 16 = 1 ∧ I 310 17 = (9 : Int32)) → (¬ (I 310 16 = 1 ∧ I 310 17 = (10 : Int32)) → (vp_in (I 310 21 - 1) 40) ∧ ((¬ I 321 (I 310 21 - 1).toNatClampNeg = 2 → ∀ I_2 : gI, I_2 = errI I (1 : Int32) → Q none SH I_2 R L) ∧ (I 321 (I 310 21 - 1).toNatClampNeg = 2 → (¬ (I 310 16 = 3 ∧ I 310 17 = (59 : Int32)) → ∀ I_3 : gI, I_3 = errI I (1 : Int32) → Q none SH I_3 R L) ∧ (I 310 16 = 3 ∧ I 310 17 = (59 : Int32) → Mt G mX7_clauseIsOver 4 0 0 [.ref 310] SH I R L (fun r S' I' R' L' => Go G mX7_asksOn 5 0 0 69 [none] (r.toList ++ []) S' I' R' L' Q))))) ∧ (I 310 16 = 1 ∧ I 310 17 = (10 : Int32) → Go G mX7_asksOn 5 0 0 18 [some (.ref 310)] [] SH I R L Q))) : Mt G mX7_asksOn 5 0 0 [.ref 310] SH I R L Q := by
  refine go_start rfl (Nat.le_of_ble_eq_true rfl) rfl ?_
  refine go_aload_n dX7_asksOn_0 rfl ?_
  refine go_bipush (v := 9) dX7_asksOn_1 (by decide) ?_
  refine go_callV0 (μ := mX7_asksOn) [.int _] dX7_asksOn_3 YX7_isWord lX7_236 rfl ⟨_, rfl, rfl⟩ rfl (Nat.le_of_ble_eq_true rfl) (Nat.le_of_ble_eq_true rfl) rfl (k_X7_isWord hR ?_)
  refine go_if_ne 18 dX7_asksOn_6 (by decide) (fun c => ?_) (fun c => ?_)
  · have h := h.1 (b1.mp c)
    exact h
  · have h := h.2 (b0.mp c)
    refine go_aload_n dX7_asksOn_9 rfl ?_
    refine go_bipush (v := 10) dX7_asksOn_10 (by decide) ?_
    refine go_callV0 (μ := mX7_asksOn) [.int _] dX7_asksOn_12 YX7_isWord lX7_236 rfl ⟨_, rfl, rfl⟩ rfl (Nat.le_of_ble_eq_true rfl) (Nat.le_of_ble_eq_true rfl) rfl (k_X7_isWord hR ?_)
    refine go_if_eq 48 dX7_asksOn_15 (by decide) (fun c => ?_) (fun c => ?_)
    · have h := h.1 (b0.mp c)
      refine go_aload_n dX7_asksOn_48 rfl ?_
      obtain ⟨hp_1, h⟩ := h
      refine go_callV0 (μ := mX7_asksOn) [] dX7_asksOn_49 YX7_top lX7_258 rfl ⟨_, rfl, rfl⟩ rfl (Nat.le_of_ble_eq_true rfl) (Nat.le_of_ble_eq_true rfl) rfl (k_X7_top hR hp_1 ?_)
      refine go_iconst (v := 2) dX7_asksOn_52 (by decide) ?_
      refine go_icmp_ne 72 dX7_asksOn_53 (by decide) (fun c => ?_) (fun c => ?_)
      · have h := h.1 c
        refine go_aload_n dX7_asksOn_72 rfl ?_
        refine go_iconst (v := 1) dX7_asksOn_73 (by decide) ?_
        refine go_callV0 (μ := mX7_asksOn) [.int _] dX7_asksOn_74 YX7_errs lX7_213 rfl ⟨_, rfl, rfl⟩ rfl (Nat.le_of_ble_eq_true rfl) (Nat.le_of_ble_eq_true rfl) rfl (k_X7_errs hR ?_)
        have h := h _ rfl
        exact go_vret dX7_asksOn_77 rfl rfl h
      · have h := h.2 c
        refine go_aload_n dX7_asksOn_56 rfl ?_
        refine go_bipush (v := 59) dX7_asksOn_57 (by decide) ?_
        refine go_callV0 (μ := mX7_asksOn) [.int _] dX7_asksOn_59 YX7_isSign lX7_255 rfl ⟨_, rfl, rfl⟩ rfl (Nat.le_of_ble_eq_true rfl) (Nat.le_of_ble_eq_true rfl) rfl (k_X7_isSign hR ?_)
        refine go_if_eq 72 dX7_asksOn_62 (by decide) (fun c => ?_) (fun c => ?_)
        · have h := h.1 (b0.mp c)
          refine go_aload_n dX7_asksOn_72 rfl ?_
          refine go_iconst (v := 1) dX7_asksOn_73 (by decide) ?_
          refine go_callV0 (μ := mX7_asksOn) [.int _] dX7_asksOn_74 YX7_errs lX7_213 rfl ⟨_, rfl, rfl⟩ rfl (Nat.le_of_ble_eq_true rfl) (Nat.le_of_ble_eq_true rfl) rfl (k_X7_errs hR ?_)
          have h := h _ rfl
          exact go_vret dX7_asksOn_77 rfl rfl h
        · have h := h.2 (b1.mp c)
          refine go_aload_n dX7_asksOn_65 rfl ?_
          refine go_drop 0 ?_
          refine go_callV0 (μ := mX7_asksOn) [] dX7_asksOn_66 YX7_clauseIsOver lX7_271 rfl ⟨_, rfl, rfl⟩ rfl (Nat.le_of_ble_eq_true rfl) (Nat.le_of_ble_eq_true rfl) rfl h
    · have h := h.2 (b1.mp c)
      exact h
theorem b_X7_asksOn_18 {G : gG} {I : gI} {R : gR} {L : gL} {Q : gQ} (hR : g_Fx R) (h : (¬ (I 310 16 = 1 ∧ I 310 17 = (9 : Int32)) → Mt G mX7_waitsFor 4 0 0 [.ref 310, .int 406] SH I R L (fun r S' I' R' L' => Go G mX7_asksOn 5 0 0 40 [some (.ref 310)] (r.toList ++ []) S' I' R' L' Q)) ∧ (I 310 16 = 1 ∧ I 310 17 = (9 : Int32) → Mt G mX7_waitsFor 4 0 0 [.ref 310, .int 407] SH I R L (fun r S' I' R' L' => Go G mX7_asksOn 5 0 0 40 [some (.ref 310)] (r.toList ++ []) S' I' R' L' Q))) : Go G mX7_asksOn 5 0 0 18 [some (.ref 310)] [] SH I R L Q := by
  refine go_aload_n dX7_asksOn_18 rfl ?_
  refine go_aload_n dX7_asksOn_19 rfl ?_
  refine go_bipush (v := 9) dX7_asksOn_20 (by decide) ?_
  refine go_callV0 (μ := mX7_asksOn) [.int _] dX7_asksOn_22 YX7_isWord lX7_236 rfl ⟨_, rfl, rfl⟩ rfl (Nat.le_of_ble_eq_true rfl) (Nat.le_of_ble_eq_true rfl) rfl (k_X7_isWord hR ?_)
  refine go_if_eq 34 dX7_asksOn_25 (by decide) (fun c => ?_) (fun c => ?_)
  · have h := h.1 (b0.mp c)
    refine go_sipush (v := 406) dX7_asksOn_34 (by decide) ?_
    refine go_callV0 (μ := mX7_asksOn) [.int _] dX7_asksOn_37 YX7_waitsFor lX7_262 rfl ⟨_, rfl, rfl⟩ rfl (Nat.le_of_ble_eq_true rfl) (Nat.le_of_ble_eq_true rfl) rfl h
  · have h := h.2 (b1.mp c)
    refine go_sipush (v := 407) dX7_asksOn_28 (by decide) ?_
    refine go_goto 37 dX7_asksOn_31 (by decide) ?_
    refine go_callV0 (μ := mX7_asksOn) [.int _] dX7_asksOn_37 YX7_waitsFor lX7_262 rfl ⟨_, rfl, rfl⟩ rfl (Nat.le_of_ble_eq_true rfl) (Nat.le_of_ble_eq_true rfl) rfl h
theorem b_X7_asksOn_69 {G : gG} {I : gI} {R : gR} {L : gL} {Q : gQ} (hR : g_Fx R) (h : Q none SH I R L) : Go G mX7_asksOn 5 0 0 69 [none] [] SH I R L Q := by
  refine go_goto 77 dX7_asksOn_69 (by decide) ?_
  exact go_vret dX7_asksOn_77 rfl rfl h
theorem b_X7_asksOn_40 {G : gG} {I : gI} {R : gR} {L : gL} {Q : gQ} (hR : g_Fx R) (h : ∀ I_9 : gI, I_9 = up I 310 27 0 → Q none SH I_9 R L) : Go G mX7_asksOn 5 0 0 40 [some (.ref 310)] [] SH I R L Q := by
  refine go_aload_n dX7_asksOn_40 rfl ?_
  refine go_iconst (v := 0) dX7_asksOn_41 (by decide) ?_
  refine go_putI dX7_asksOn_42 fX7_242 rfl rfl rfl rfl ?_
  have h := h _ rfl
  refine go_goto 77 dX7_asksOn_45 (by decide) ?_
  exact go_vret dX7_asksOn_77 rfl rfl h
