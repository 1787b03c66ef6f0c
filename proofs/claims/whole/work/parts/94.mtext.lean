theorem e_X7_wasTold {G : gG} {I : gI} {R : gR} {L : gL} {Q : gQ} {w : Int32} (hR : g_Fx R) (h : Go G mX7_wasTold 1 0 0 4 [some (.ref 310), some (.int w), some (.int 0), some (.int 0)] [] SH I R L Q) : Mt G mX7_wasTold 1 0 0 [.ref 310, .int w] SH I R L Q := by
  refine go_start rfl (Nat.le_of_ble_eq_true rfl) rfl ?_
  refine go_iconst (v := 0) dX7_wasTold_0 (by decide) ?_
  refine go_istore_n dX7_wasTold_1 (Nat.le_of_ble_eq_true rfl) rfl ?_
  refine go_iconst (v := 0) dX7_wasTold_2 (by decide) ?_
  refine go_istore_n dX7_wasTold_3 (Nat.le_of_ble_eq_true rfl) rfl ?_
  exact h
theorem b_X7_wasTold_4 {G : gG} {I : gI} {R : gR} {L : gL} {Q : gQ} {v1 v2 v3 : Int32} (hR : g_Fx R) (h : ((I 310 28) ≤ v3 → (v2 = 0 ∨ v2 = 1) ∧ Q (some (.int v2)) SH I R L) ∧ (¬ (I 310 28) ≤ v3 → (¬ v2 = 0 → ∀ v3_1 : Int32, v3_1 = v3 + 1 → Go G mX7_wasTold 1 0 0 4 [some (.ref 310), some (.int v1), some (.int 1), some (.int v3_1)] [] SH I R L Q) ∧ (v2 = 0 → vp_in v3 24 ∧ ((¬ (I 325 v3.toNatClampNeg) = v1 → ∀ v3_2 : Int32, v3_2 = v3 + 1 → Go G mX7_wasTold 1 0 0 4 [some (.ref 310), some (.int v1), some (.int 0), some (.int v3_2)] [] SH I R L Q) ∧ ((I 325 v3.toNatClampNeg) = v1 → ∀ v3_3 : Int32, v3_3 = v3 + 1 → Go G mX7_wasTold 1 0 0 4 [some (.ref 310), some (.int v1), some (.int 1), some (.int v3_3)] [] SH I R L Q))))) : Go G mX7_wasTold 1 0 0 4 [some (.ref 310), some (.int v1), some (.int v2), some (.int v3)] [] SH I R L Q := by
  refine go_iload_n dX7_wasTold_4 rfl ?_
  refine go_aload_n dX7_wasTold_5 rfl ?_
  refine go_getI dX7_wasTold_6 fX7_274 rfl rfl ?_
  refine go_icmp_ge 38 dX7_wasTold_9 (by decide) (fun c => ?_) (fun c => ?_)
  · have h := h.1 c
    refine go_iload_n dX7_wasTold_38 rfl ?_
    exact go_zret dX7_wasTold_39 rfl (nz_or h.1) rfl h.2
  · have h := h.2 c
    refine go_iload_n dX7_wasTold_12 rfl ?_
    refine go_if_ne 26 dX7_wasTold_13 (by decide) (fun c => ?_) (fun c => ?_)
    · have h := h.1 c
      refine go_iconst (v := 1) dX7_wasTold_26 (by decide) ?_
      refine go_goto 31 dX7_wasTold_27 (by decide) ?_
      refine go_istore_n dX7_wasTold_31 (Nat.le_of_ble_eq_true rfl) rfl ?_
      refine go_iinc dX7_wasTold_32 rfl (Nat.le_of_ble_eq_true rfl) rfl ?_
      have h := h _ rfl
      refine go_goto 4 dX7_wasTold_35 (by decide) ?_
      exact h
    · have h := h.2 c
      refine go_aload_n dX7_wasTold_16 rfl ?_
      refine go_getR dX7_wasTold_17 fX7_60 rfl rfl (hR 310 30 325 rfl) ?_
      refine go_iload_n dX7_wasTold_20 rfl ?_
      obtain ⟨hi, h⟩ := h
      refine go_iald dX7_wasTold_21 rfl hi ?_
      refine go_iload_n dX7_wasTold_22 rfl ?_
      refine go_icmp_ne 30 dX7_wasTold_23 (by decide) (fun c => ?_) (fun c => ?_)
      · have h := h.1 c
        refine go_iconst (v := 0) dX7_wasTold_30 (by decide) ?_
        refine go_istore_n dX7_wasTold_31 (Nat.le_of_ble_eq_true rfl) rfl ?_
        refine go_iinc dX7_wasTold_32 rfl (Nat.le_of_ble_eq_true rfl) rfl ?_
        have h := h _ rfl
        refine go_goto 4 dX7_wasTold_35 (by decide) ?_
        exact h
      · have h := h.2 c
        refine go_iconst (v := 1) dX7_wasTold_26 (by decide) ?_
        refine go_goto 31 dX7_wasTold_27 (by decide) ?_
        refine go_istore_n dX7_wasTold_31 (Nat.le_of_ble_eq_true rfl) rfl ?_
        refine go_iinc dX7_wasTold_32 rfl (Nat.le_of_ble_eq_true rfl) rfl ?_
        have h := h _ rfl
        refine go_goto 4 dX7_wasTold_35 (by decide) ?_
        exact h
theorem e_X7_number {G : gG} {I : gI} {R : gR} {L : gL} {Q : gQ} {a b : Int32} (hR : g_Fx R) (h : (0 < (I 310 18) → ∀ I_1 : gI, I_1 = errI I (1 : Int32) → Q (some (.int a)) SH I_1 R L) ∧ (¬ 0 < (I 310 18) → ((I 310 16) = 2 → (a ≤ (I 310 17) ∧ (I 310 17) ≤ b → ∀ v3_2 : Int32, v3_2 = (I 310 17) → Mt G mX7_nextToken 3 0 0 [.ref 310] SH I R L (fun r S' I' R' L' => Go G mX7_number 4 0 0 50 [none, none, none, some (.int v3_2)] (r.toList ++ []) S' I' R' L' Q)) ∧ (¬ (a ≤ (I 310 17) ∧ (I 310 17) ≤ b) → ∀ I_3 : gI, I_3 = errI I (2 : Int32) → Q (some (.int a)) SH I_3 R L)) ∧ (¬ (I 310 16) = 2 → ∀ I_5 : gI, I_5 = errI I (1 : Int32) → Q (some (.int a)) SH I_5 R L))) : Mt G mX7_number 4 0 0 [.ref 310, .int a, .int b] SH I R L Q := by
  refine go_start rfl (Nat.le_of_ble_eq_true rfl) rfl ?_
  refine go_aload_n dX7_number_0 rfl ?_
  refine go_getI dX7_number_1 fX7_198 rfl rfl ?_
  refine go_if_gt 15 dX7_number_4 (by decide) (fun c => ?_) (fun c => ?_)
  · have h := h.1 c
    refine go_aload_n dX7_number_15 rfl ?_
    refine go_iconst (v := 1) dX7_number_16 (by decide) ?_
    refine go_callV0 (μ := mX7_number) [.int _] dX7_number_17 YX7_errs lX7_213 rfl ⟨_, rfl, rfl⟩ rfl (Nat.le_of_ble_eq_true rfl) (Nat.le_of_ble_eq_true rfl) rfl (k_X7_errs hR ?_)
    have h := h _ rfl
    refine go_iload_n dX7_number_20 rfl ?_
    exact go_iret dX7_number_21 rfl rfl h
  · have h := h.2 c
    refine go_aload_n dX7_number_7 rfl ?_
    refine go_getI dX7_number_8 fX7_182 rfl rfl ?_
    refine go_iconst (v := 2) dX7_number_11 (by decide) ?_
    refine go_icmp_eq 22 dX7_number_12 (by decide) (fun c => ?_) (fun c => ?_)
    · have h := h.1 c
      refine go_aload_n dX7_number_22 rfl ?_
      refine go_getI dX7_number_23 fX7_194 rfl rfl ?_
      refine go_iload_n dX7_number_26 rfl ?_
      refine go_iload_n dX7_number_27 rfl ?_
      refine go_callS0 (μ := mX7_number) [.int _, .int _, .int _] dX7_number_28 YX7_in lX7_110 rfl (Nat.le_of_ble_eq_true rfl) (Nat.le_of_ble_eq_true rfl) rfl (k_X7_in hR ?_)
      refine go_if_ne 41 dX7_number_31 (by decide) (fun c => ?_) (fun c => ?_)
      · have h := h.1 (b1.mp c)
        refine go_aload_n dX7_number_41 rfl ?_
        refine go_getI dX7_number_42 fX7_194 rfl rfl ?_
        refine go_istore_n dX7_number_45 (Nat.le_of_ble_eq_true rfl) rfl ?_
        have h := h _ rfl
        refine go_aload_n dX7_number_46 rfl ?_
        refine go_drop 0 ?_
        refine go_drop 1 ?_
        refine go_drop 2 ?_
        refine go_callV0 (μ := mX7_number) [] dX7_number_47 YX7_nextToken lX7_219 rfl ⟨_, rfl, rfl⟩ rfl (Nat.le_of_ble_eq_true rfl) (Nat.le_of_ble_eq_true rfl) rfl h
      · have h := h.2 (b0.mp c)
        refine go_aload_n dX7_number_34 rfl ?_
        refine go_iconst (v := 2) dX7_number_35 (by decide) ?_
        refine go_callV0 (μ := mX7_number) [.int _] dX7_number_36 YX7_errs lX7_213 rfl ⟨_, rfl, rfl⟩ rfl (Nat.le_of_ble_eq_true rfl) (Nat.le_of_ble_eq_true rfl) rfl (k_X7_errs hR ?_)
        have h := h _ rfl
        refine go_iload_n dX7_number_39 rfl ?_
        exact go_iret dX7_number_40 rfl rfl h
    · have h := h.2 c
      refine go_aload_n dX7_number_15 rfl ?_
      refine go_iconst (v := 1) dX7_number_16 (by decide) ?_
      refine go_callV0 (μ := mX7_number) [.int _] dX7_number_17 YX7_errs lX7_213 rfl ⟨_, rfl, rfl⟩ rfl (Nat.le_of_ble_eq_true rfl) (Nat.le_of_ble_eq_true rfl) rfl (k_X7_errs hR ?_)
      have h := h _ rfl
      refine go_iload_n dX7_number_20 rfl ?_
      exact go_iret dX7_number_21 rfl rfl h
theorem b_X7_number_50 {G : gG} {I : gI} {R : gR} {L : gL} {Q : gQ} {v3 : Int32} (hR : g_Fx R) (h : Q (some (.int v3)) SH I R L) : Go G mX7_number 4 0 0 50 [none, none, none, some (.int v3)] [] SH I R L Q := by
  refine go_iload_n dX7_number_50 rfl ?_
  exact go_iret dX7_number_51 rfl rfl h
theorem e_X7_wants {G : gG} {I : gI} {R : gR} {L : gL} {Q : gQ} {w : Int32} (hR : g_Fx R) (h : (¬ (I 310 18) = 0 → (¬ (I 310 18) = 0 → Q none SH I R L) ∧ ((I 310 18) = 0 → Mt G mX7_nextToken 3 0 0 [.ref 310] SH I R L (fun r S' I' R' L' => Go G mX7_wants 4 0 0 31 [none, none] (r.toList ++ []) S' I' R' L' Q))) ∧ ((I 310 18) = 0 → (I 310 16 = 1 ∧ I 310 17 = w → (¬ (I 310 18) = 0 → Go G mX7_wants 4 0 0 31 [none, none] [] SH I R L Q) ∧ ((I 310 18) = 0 → Mt G mX7_nextToken 3 0 0 [.ref 310] SH I R L (fun r S' I' R' L' => Go G mX7_wants 4 0 0 31 [none, none] (r.toList ++ []) S' I' R' L' Q))) ∧ (¬ (I 310 16 = 1 ∧ I 310 17 = w) → ∀ I_3 : gI, I_3 = errI I (1 : Int32) → (¬ (I_3 310 18) = 0 → Go G mX7_wants 4 0 0 31 [none, none] [] SH I_3 R L Q) ∧ ((I_3 310 18) = 0 → Mt G mX7_nextToken 3 0 0 [.ref 310] SH I_3 R L (fun r S' I' R' L' => Go G mX7_wants 4 0 0 31 [none, none] (r.toList ++ []) S' I' R' L' Q))))) : Mt G mX7_wants 4 0 0 [.ref 310, .int w] SH I R L Q := by
  refine go_start rfl (Nat.le_of_ble_eq_true rfl) rfl ?_
  refine go_aload_n dX7_wants_0 rfl ?_
  refine go_getI dX7_wants_1 fX7_198 rfl rfl ?_
  refine go_if_ne 20 dX7_wants_4 (by decide) (fun c => ?_) (fun c => ?_)
  · have h := h.1 c
    refine go_aload_n dX7_wants_20 rfl ?_
    refine go_getI dX7_wants_21 fX7_198 rfl rfl ?_
    refine go_if_ne 31 dX7_wants_24 (by decide) (fun c => ?_) (fun c => ?_)
    · have h := h.1 c
      exact go_vret dX7_wants_31 rfl rfl h
    · have h := h.2 c
      refine go_aload_n dX7_wants_27 rfl ?_
      refine go_drop 0 ?_
      refine go_drop 1 ?_
      refine go_callV0 (μ := mX7_wants) [] dX7_wants_28 YX7_nextToken lX7_219 rfl ⟨_, rfl, rfl⟩ rfl (Nat.le_of_ble_eq_true rfl) (Nat.le_of_ble_eq_true rfl) rfl h
  · have h := h.2 c
    refine go_aload_n dX7_wants_7 rfl ?_
    refine go_iload_n dX7_wants_8 rfl ?_
    refine go_callV0 (μ := mX7_wants) [.int _] dX7_wants_9 YX7_isWord lX7_236 rfl ⟨_, rfl, rfl⟩ rfl (Nat.le_of_ble_eq_true rfl) (Nat.le_of_ble_eq_true rfl) rfl (k_X7_isWord hR ?_)
    refine go_if_ne 20 dX7_wants_12 (by decide) (fun c => ?_) (fun c => ?_)
    · have h := h.1 (b1.mp c)
      refine go_aload_n dX7_wants_20 rfl ?_
      refine go_getI dX7_wants_21 fX7_198 rfl rfl ?_
      refine go_if_ne 31 dX7_wants_24 (by decide) (fun c => ?_) (fun c => ?_)
      · have h := h.1 c
        refine go_drop 0 ?_
        refine go_drop 1 ?_
        exact h
      · have h := h.2 c
        refine go_aload_n dX7_wants_27 rfl ?_
        refine go_drop 0 ?_
        refine go_drop 1 ?_
        refine go_callV0 (μ := mX7_wants) [] dX7_wants_28 YX7_nextToken lX7_219 rfl ⟨_, rfl, rfl⟩ rfl (Nat.le_of_ble_eq_true rfl) (Nat.le_of_ble_eq_true rfl) rfl h
    · have h := h.2 (b0.mp c)
      refine go_aload_n dX7_wants_15 rfl ?_
      refine go_iconst (v := 1) dX7_wants_16 (by decide) ?_
      refine go_callV0 (μ := mX7_wants) [.int _] dX7_wants_17 YX7_errs lX7_213 rfl ⟨_, rfl, rfl⟩ rfl (Nat.le_of_ble_eq_true rfl) (Nat.le_of_ble_eq_true rfl) rfl (k_X7_errs hR ?_)
      have h := h _ rfl
      refine go_aload_n dX7_wants_20 rfl ?_
      refine go_getI dX7_wants_21 fX7_198 rfl rfl ?_
      refine go_if_ne 31 dX7_wants_24 (by decide) (fun c => ?_) (fun c => ?_)
      · have h := h.1 c
        refine go_drop 0 ?_
        refine go_drop 1 ?_
        exact h
      · have h := h.2 c
        refine go_aload_n dX7_wants_27 rfl ?_
        refine go_drop 0 ?_
        refine go_drop 1 ?_
        refine go_callV0 (μ := mX7_wants) [] dX7_wants_28 YX7_nextToken lX7_219 rfl ⟨_, rfl, rfl⟩ rfl (Nat.le_of_ble_eq_true rfl) (Nat.le_of_ble_eq_true rfl) rfl h
theorem b_X7_wants_31 {G : gG} {I : gI} {R : gR} {L : gL} {Q : gQ} (hR : g_Fx R) (h : Q none SH I R L) : Go G mX7_wants 4 0 0 31 [none, none] [] SH I R L Q := by
  exact go_vret dX7_wants_31 rfl rfl h
theorem e_X7_clause {G : gG} {I : gI} {R : gR} {L : gL} {Q : gQ} (hR : g_Fx R) (h : (¬ (I 310 16) = 1 → ∀ I_1 : gI, I_1 = errI I (1 : Int32) → Q none SH I_1 R L) ∧ ((I 310 16) = 1 → ((I 310 17) ≤ 6 → ∀ I_2 : gI, I_2 = up I 310 29 (I 310 17) → (2 < (I_2 310 29) → Go G mX7_clause 5 0 0 58 [some (.ref 310)] [] SH I_2 R L Q) ∧ (¬ 2 < (I_2 310 29) → Mt G mX7_wasTold 1 0 0 [.ref 310, .int (I_2 310 29)] SH I_2 R L (fun r S' I' R' L' => Go G mX7_clause 5 0 0 47 [some (.ref 310)] (r.toList ++ []) S' I' R' L' Q))) ∧ (¬ (I 310 17) ≤ 6 → ∀ I_4 : gI, I_4 = errI I (1 : Int32) → Q none SH I_4 R L))) : Mt G mX7_clause 5 0 0 [.ref 310] SH I R L Q := by
  refine go_start rfl (Nat.le_of_ble_eq_true rfl) rfl ?_
  refine go_aload_n dX7_clause_0 rfl ?_
  refine go_getI dX7_clause_1 fX7_182 rfl rfl ?_
  refine go_iconst (v := 1) dX7_clause_4 (by decide) ?_
  refine go_icmp_ne 17 dX7_clause_5 (by decide) (fun c => ?_) (fun c => ?_)
  · have h := h.1 c
    refine go_aload_n dX7_clause_17 rfl ?_
    refine go_iconst (v := 1) dX7_clause_18 (by decide) ?_
    refine go_callV0 (μ := mX7_clause) [.int _] dX7_clause_19 YX7_errs lX7_213 rfl ⟨_, rfl, rfl⟩ rfl (Nat.le_of_ble_eq_true rfl) (Nat.le_of_ble_eq_true rfl) rfl (k_X7_errs hR ?_)
    have h := h _ rfl
    exact go_vret dX7_clause_22 rfl rfl h
  · have h := h.2 c
    refine go_aload_n dX7_clause_8 rfl ?_
    refine go_getI dX7_clause_9 fX7_194 rfl rfl ?_
    refine go_bipush (v := 6) dX7_clause_12 (by decide) ?_
    refine go_icmp_le 23 dX7_clause_14 (by decide) (fun c => ?_) (fun c => ?_)
    · have h := h.1 c
      refine go_aload_n dX7_clause_23 rfl ?_
      refine go_aload_n dX7_clause_24 rfl ?_
      refine go_getI dX7_clause_25 fX7_194 rfl rfl ?_
      refine go_putI dX7_clause_28 fX7_248 rfl rfl rfl rfl ?_
      have h := h _ rfl
      refine go_aload_n dX7_clause_31 rfl ?_
      refine go_getI dX7_clause_32 fX7_248 rfl rfl ?_
      refine go_iconst (v := 2) dX7_clause_35 (by decide) ?_
      refine go_icmp_gt 58 dX7_clause_36 (by decide) (fun c => ?_) (fun c => ?_)
      · have h := h.1 c
        exact h
      · have h := h.2 c
        refine go_aload_n dX7_clause_39 rfl ?_
        refine go_aload_n dX7_clause_40 rfl ?_
        refine go_getI dX7_clause_41 fX7_248 rfl rfl ?_
        refine go_callV0 (μ := mX7_clause) [.int _] dX7_clause_44 YX7_wasTold lX7_277 rfl ⟨_, rfl, rfl⟩ rfl (Nat.le_of_ble_eq_true rfl) (Nat.le_of_ble_eq_true rfl) rfl h
    · have h := h.2 c
      refine go_aload_n dX7_clause_17 rfl ?_
      refine go_iconst (v := 1) dX7_clause_18 (by decide) ?_
      refine go_callV0 (μ := mX7_clause) [.int _] dX7_clause_19 YX7_errs lX7_213 rfl ⟨_, rfl, rfl⟩ rfl (Nat.le_of_ble_eq_true rfl) (Nat.le_of_ble_eq_true rfl) rfl (k_X7_errs hR ?_)
      have h := h _ rfl
      exact go_vret dX7_clause_22 rfl rfl h
theorem b_X7_clause_58 {G : gG} {I : gI} {R : gR} {L : gL} {Q : gQ} (hR : g_Fx R) (h : (¬ (I 310 28) = 24 → Go G mX7_clause 5 0 0 73 [some (.ref 310)] [] SH I R L Q) ∧ ((I 310 28) = 24 → ∀ I_7 : gI, I_7 = errI I (6 : Int32) → Go G mX7_clause 5 0 0 73 [some (.ref 310)] [] SH I_7 R L Q)) : Go G mX7_clause 5 0 0 58 [some (.ref 310)] [] SH I R L Q := by
  refine go_aload_n dX7_clause_58 rfl ?_
  refine go_getI dX7_clause_59 fX7_274 rfl rfl ?_
  refine go_bipush (v := 24) dX7_clause_62 (by decide) ?_
  refine go_icmp_ne 73 dX7_clause_64 (by decide) (fun c => ?_) (fun c => ?_)
  · have h := h.1 c
    exact h
  · have h := h.2 c
    refine go_aload_n dX7_clause_67 rfl ?_
    refine go_bipush (v := 6) dX7_clause_68 (by decide) ?_
    refine go_callV0 (μ := mX7_clause) [.int _] dX7_clause_70 YX7_errs lX7_213 rfl ⟨_, rfl, rfl⟩ rfl (Nat.le_of_ble_eq_true rfl) (Nat.le_of_ble_eq_true rfl) rfl (k_X7_errs hR ?_)
    have h := h _ rfl
    exact h
theorem b_X7_clause_47 {G : gG} {I : gI} {R : gR} {L : gL} {Q : gQ} {s0 : Int32} (hR : g_Fx R) (h : (s0 = 0 → Go G mX7_clause 5 0 0 58 [some (.ref 310)] [] SH I R L Q) ∧ (¬ s0 = 0 → ∀ I_9 : gI, I_9 = errI I (4 : Int32) → Go G mX7_clause 5 0 0 73 [some (.ref 310)] [] SH I_9 R L Q)) : Go G mX7_clause 5 0 0 47 [some (.ref 310)] [.int s0] SH I R L Q := by
  refine go_if_eq 58 dX7_clause_47 (by decide) (fun c => ?_) (fun c => ?_)
  · have h := h.1 c
    exact h
  · have h := h.2 c
    refine go_aload_n dX7_clause_50 rfl ?_
    refine go_iconst (v := 4) dX7_clause_51 (by decide) ?_
    refine go_callV0 (μ := mX7_clause) [.int _] dX7_clause_52 YX7_errs lX7_213 rfl ⟨_, rfl, rfl⟩ rfl (Nat.le_of_ble_eq_true rfl) (Nat.le_of_ble_eq_true rfl) rfl (k_X7_errs hR ?_)
    have h := h _ rfl
    refine go_goto 73 dX7_clause_55 (by decide) ?_
    exact h
theorem b_X7_clause_73 {G : gG} {I : gI} {R : gR} {L : gL} {Q : gQ} (hR : g_Fx R) (h : ((I 310 18) ≤ 0 → vp_in (I 310 28) 24 ∧ (∀ I_11 : gI, I_11 = up I 325 (I 310 28).toNatClampNeg (I 310 29) → vp_in (I_11 310 28) 24 ∧ (∀ I_12 : gI, I_12 = up I_11 326 (I_11 310 28).toNatClampNeg (I_11 310 34) → vp_in (I_12 310 28) 24 ∧ (∀ I_13 : gI, I_13 = up I_12 327 (I_12 310 28).toNatClampNeg (-1) → vp_in (I_13 310 28) 24 ∧ (∀ I_14 : gI, I_14 = up I_13 328 (I_13 310 28).toNatClampNeg (-1) → Mt G mX7_nextToken 3 0 0 [.ref 310] SH I_14 R L (fun r S' I' R' L' => Go G mX7_clause 5 0 0 131 [some (.ref 310)] (r.toList ++ []) S' I' R' L' Q)))))) ∧ (¬ (I 310 18) ≤ 0 → Q none SH I R L)) : Go G mX7_clause 5 0 0 73 [some (.ref 310)] [] SH I R L Q := by
  refine go_aload_n dX7_clause_73 rfl ?_
  refine go_getI dX7_clause_74 fX7_198 rfl rfl ?_
  refine go_if_le 81 dX7_clause_77 (by decide) (fun c => ?_) (fun c => ?_)
  · have h := h.1 c
    refine go_aload_n dX7_clause_81 rfl ?_
    refine go_getR dX7_clause_82 fX7_60 rfl rfl (hR 310 30 325 rfl) ?_
    refine go_aload_n dX7_clause_85 rfl ?_
    refine go_getI dX7_clause_86 fX7_274 rfl rfl ?_
    refine go_aload_n dX7_clause_89 rfl ?_
    refine go_getI dX7_clause_90 fX7_248 rfl rfl ?_
    obtain ⟨hi, h⟩ := h
    refine go_iast dX7_clause_93 rfl hi ?_
    have h := h _ rfl
    refine go_aload_n dX7_clause_94 rfl ?_
    refine go_getR dX7_clause_95 fX7_63 rfl rfl (hR 310 31 326 rfl) ?_
    refine go_aload_n dX7_clause_98 rfl ?_
    refine go_getI dX7_clause_99 fX7_274 rfl rfl ?_
    refine go_aload_n dX7_clause_102 rfl ?_
    refine go_getI dX7_clause_103 fX7_204 rfl rfl ?_
    obtain ⟨hi, h⟩ := h
    refine go_iast dX7_clause_106 rfl hi ?_
    have h := h _ rfl
    refine go_aload_n dX7_clause_107 rfl ?_
    refine go_getR dX7_clause_108 fX7_66 rfl rfl (hR 310 32 327 rfl) ?_
    refine go_aload_n dX7_clause_111 rfl ?_
    refine go_getI dX7_clause_112 fX7_274 rfl rfl ?_
    refine go_iconst (v := -1) dX7_clause_115 (by decide) ?_
    obtain ⟨hi, h⟩ := h
    refine go_iast dX7_clause_116 rfl hi ?_
    have h := h _ rfl
    refine go_aload_n dX7_clause_117 rfl ?_
    refine go_getR dX7_clause_118 fX7_69 rfl rfl (hR 310 33 328 rfl) ?_
    refine go_aload_n dX7_clause_121 rfl ?_
    refine go_getI dX7_clause_122 fX7_274 rfl rfl ?_
    refine go_iconst (v := -1) dX7_clause_125 (by decide) ?_
    obtain ⟨hi, h⟩ := h
    refine go_iast dX7_clause_126 rfl hi ?_
    have h := h _ rfl
    refine go_aload_n dX7_clause_127 rfl ?_
    refine go_callV0 (μ := mX7_clause) [] dX7_clause_128 YX7_nextToken lX7_219 rfl ⟨_, rfl, rfl⟩ rfl (Nat.le_of_ble_eq_true rfl) (Nat.le_of_ble_eq_true rfl) rfl h
  · have h := h.2 c
    exact go_vret dX7_clause_80 rfl rfl h
theorem b_X7_clause_131 {G : gG} {I : gI} {R : gR} {L : gL} {Q : gQ} (hR : g_Fx R) (h : (2 < (I 310 29) → (¬ (I 310 29) = 6 → (¬ (I 310 29) = 5 → Go G mX7_clause 5 0 0 217 [some (.ref 310)] [.int 8, .int 0, .ref 310, .int (I 310 28), .ref 327] SH I R L Q) ∧ ((I 310 29) = 5 → Go G mX7_clause 5 0 0 217 [some (.ref 310)] [.int 1, .int 0, .ref 310, .int (I 310 28), .ref 327] SH I R L Q)) ∧ ((I 310 29) = 6 → Mt G mX7_number 4 0 0 [.ref 310, .int 1, .int 40] SH I R L (fun r S' I' R' L' => Go G mX7_clause 5 0 0 198 [some (.ref 310)] (r.toList ++ [.int (I 310 28), .ref 327]) S' I' R' L' Q))) ∧ (¬ 2 < (I 310 29) → (¬ (I 310 29) = 2 → Go G mX7_clause 5 0 0 153 [some (.ref 310)] [.int 1, .ref 310] SH I R L Q) ∧ ((I 310 29) = 2 → Go G mX7_clause 5 0 0 153 [some (.ref 310)] [.int 2, .ref 310] SH I R L Q))) : Go G mX7_clause 5 0 0 131 [some (.ref 310)] [] SH I R L Q := by
  refine go_aload_n dX7_clause_131 rfl ?_
  refine go_getI dX7_clause_132 fX7_248 rfl rfl ?_
  refine go_iconst (v := 2) dX7_clause_135 (by decide) ?_
  refine go_icmp_gt 174 dX7_clause_136 (by decide) (fun c => ?_) (fun c => ?_)
  · have h := h.1 c
    refine go_aload_n dX7_clause_174 rfl ?_
    refine go_getR dX7_clause_175 fX7_66 rfl rfl (hR 310 32 327 rfl) ?_
    refine go_aload_n dX7_clause_178 rfl ?_
    refine go_getI dX7_clause_179 fX7_274 rfl rfl ?_
    refine go_aload_n dX7_clause_182 rfl ?_
    refine go_getI dX7_clause_183 fX7_248 rfl rfl ?_
    refine go_bipush (v := 6) dX7_clause_186 (by decide) ?_
    refine go_icmp_ne 201 dX7_clause_188 (by decide) (fun c => ?_) (fun c => ?_)
    · have h := h.1 c
      refine go_aload_n dX7_clause_201 rfl ?_
      refine go_iconst (v := 0) dX7_clause_202 (by decide) ?_
      refine go_aload_n dX7_clause_203 rfl ?_
      refine go_getI dX7_clause_204 fX7_248 rfl rfl ?_
      refine go_iconst (v := 5) dX7_clause_207 (by decide) ?_
      refine go_icmp_ne 215 dX7_clause_208 (by decide) (fun c => ?_) (fun c => ?_)
      · have h := h.1 c
        refine go_bipush (v := 8) dX7_clause_215 (by decide) ?_
        exact h
      · have h := h.2 c
        refine go_iconst (v := 1) dX7_clause_211 (by decide) ?_
        refine go_goto 217 dX7_clause_212 (by decide) ?_
        exact h
    · have h := h.2 c
      refine go_aload_n dX7_clause_191 rfl ?_
      refine go_iconst (v := 1) dX7_clause_192 (by decide) ?_
      refine go_bipush (v := 40) dX7_clause_193 (by decide) ?_
      refine go_callV0 (μ := mX7_clause) [.int _, .int _] dX7_clause_195 YX7_number lX7_280 rfl ⟨_, rfl, rfl⟩ rfl (Nat.le_of_ble_eq_true rfl) (Nat.le_of_ble_eq_true rfl) rfl h
  · have h := h.2 c
    refine go_aload_n dX7_clause_139 rfl ?_
    refine go_aload_n dX7_clause_140 rfl ?_
    refine go_getI dX7_clause_141 fX7_248 rfl rfl ?_
    refine go_iconst (v := 2) dX7_clause_144 (by decide) ?_
    refine go_icmp_ne 152 dX7_clause_145 (by decide) (fun c => ?_) (fun c => ?_)
    · have h := h.1 c
      refine go_iconst (v := 1) dX7_clause_152 (by decide) ?_
      exact h
    · have h := h.2 c
      refine go_iconst (v := 2) dX7_clause_148 (by decide) ?_
      refine go_goto 153 dX7_clause_149 (by decide) ?_
      exact h
theorem b_X7_clause_217 {G : gG} {I : gI} {R : gR} {L : gL} {Q : gQ} {s1 s3 s4 : Int32} (hR : g_Fx R) (h : Mt G mX7_number 4 0 0 [.ref 310, .int s3, .int s4] SH I R L (fun r S' I' R' L' => Go G mX7_clause 5 0 0 220 [some (.ref 310)] (r.toList ++ [.int s1, .ref 327]) S' I' R' L' Q)) : Go G mX7_clause 5 0 0 217 [some (.ref 310)] [.int s4, .int s3, .ref 310, .int s1, .ref 327] SH I R L Q := by
  refine go_callV0 (μ := mX7_clause) [.int _, .int _] dX7_clause_217 YX7_number lX7_280 rfl ⟨_, rfl, rfl⟩ rfl (Nat.le_of_ble_eq_true rfl) (Nat.le_of_ble_eq_true rfl) rfl h
theorem b_X7_clause_198 {G : gG} {I : gI} {R : gR} {L : gL} {Q : gQ} {s1 s2 : Int32} (hR : g_Fx R) (h : Go G mX7_clause 5 0 0 220 [some (.ref 310)] [.int s2, .int s1, .ref 327] SH I R L Q) : Go G mX7_clause 5 0 0 198 [some (.ref 310)] [.int s2, .int s1, .ref 327] SH I R L Q := by
  refine go_goto 220 dX7_clause_198 (by decide) ?_
  exact h
theorem b_X7_clause_153 {G : gG} {I : gI} {R : gR} {L : gL} {Q : gQ} {s1 : Int32} (hR : g_Fx R) (h : (vp_in (I 310 21) 40) ∧ (∀ I_21 : gI, I_21 = opF I s1 → (¬ (I_21 310 29) = 2 → ∀ I_22 : gI, I_22 = up I_21 310 27 1 → Q none SH I_22 R L) ∧ ((I_21 310 29) = 2 → ∀ I_23 : gI, I_23 = up I_21 310 27 0 → Q none SH I_23 R L))) : Go G mX7_clause 5 0 0 153 [some (.ref 310)] [.int s1, .ref 310] SH I R L Q := by
  obtain ⟨hp_20, h⟩ := h
  refine go_callV0 (μ := mX7_clause) [.int _] dX7_clause_153 YX7_opensFrame lX7_216 rfl ⟨_, rfl, rfl⟩ rfl (Nat.le_of_ble_eq_true rfl) (Nat.le_of_ble_eq_true rfl) rfl (k_X7_opensFrame hR hp_20 ?_)
  have h := h _ rfl
  refine go_aload_n dX7_clause_156 rfl ?_
  refine go_aload_n dX7_clause_157 rfl ?_
  refine go_getI dX7_clause_158 fX7_248 rfl rfl ?_
  refine go_iconst (v := 2) dX7_clause_161 (by decide) ?_
  refine go_icmp_ne 169 dX7_clause_162 (by decide) (fun c => ?_) (fun c => ?_)
  · have h := h.1 c
    refine go_iconst (v := 1) dX7_clause_169 (by decide) ?_
    refine go_putI dX7_clause_170 fX7_242 rfl rfl rfl rfl ?_
    have h := h _ rfl
    exact go_vret dX7_clause_173 rfl rfl h
  · have h := h.2 c
    refine go_iconst (v := 0) dX7_clause_165 (by decide) ?_
    refine go_goto 170 dX7_clause_166 (by decide) ?_
    refine go_putI dX7_clause_170 fX7_242 rfl rfl rfl rfl ?_
    have h := h _ rfl
    exact go_vret dX7_clause_173 rfl rfl h
theorem b_X7_clause_220 {G : gG} {I : gI} {R : gR} {L : gL} {Q : gQ} {s1 s2 : Int32} (hR : g_Fx R) (h : vp_in s1 24 ∧ (∀ I_25 : gI, I_25 = up I 327 s1.toNatClampNeg s2 → ((I_25 310 29) = 3 → Go G mX7_clause 5 0 0 237 [some (.ref 310)] [] SH I_25 R L Q) ∧ (¬ (I_25 310 29) = 3 → (¬ (I_25 310 29) = 4 → Go G mX7_clause 5 0 0 283 [some (.ref 310)] [] SH I_25 R L Q) ∧ ((I_25 310 29) = 4 → Go G mX7_clause 5 0 0 237 [some (.ref 310)] [] SH I_25 R L Q)))) : Go G mX7_clause 5 0 0 220 [some (.ref 310)] [.int s2, .int s1, .ref 327] SH I R L Q := by
  obtain ⟨hi, h⟩ := h
  refine go_iast dX7_clause_220 rfl hi ?_
  have h := h _ rfl
  refine go_aload_n dX7_clause_221 rfl ?_
  refine go_getI dX7_clause_222 fX7_248 rfl rfl ?_
  refine go_iconst (v := 3) dX7_clause_225 (by decide) ?_
  refine go_icmp_eq 237 dX7_clause_226 (by decide) (fun c => ?_) (fun c => ?_)
  · have h := h.1 c
    exact h
  · have h := h.2 c
    refine go_aload_n dX7_clause_229 rfl ?_
    refine go_getI dX7_clause_230 fX7_248 rfl rfl ?_
    refine go_iconst (v := 4) dX7_clause_233 (by decide) ?_
    refine go_icmp_ne 283 dX7_clause_234 (by decide) (fun c => ?_) (fun c => ?_)
    · have h := h.1 c
      exact h
    · have h := h.2 c
      exact h
theorem b_X7_clause_237 {G : gG} {I : gI} {R : gR} {L : gL} {Q : gQ} (hR : g_Fx R) (h : (¬ (I 310 29) = 3 → Go G mX7_clause 5 0 0 253 [some (.ref 310)] [.int 8, .ref 310] SH I R L Q) ∧ ((I 310 29) = 3 → Go G mX7_clause 5 0 0 253 [some (.ref 310)] [.int 7, .ref 310] SH I R L Q)) : Go G mX7_clause 5 0 0 237 [some (.ref 310)] [] SH I R L Q := by
  refine go_aload_n dX7_clause_237 rfl ?_
  refine go_aload_n dX7_clause_238 rfl ?_
  refine go_getI dX7_clause_239 fX7_248 rfl rfl ?_
  refine go_iconst (v := 3) dX7_clause_242 (by decide) ?_
  refine go_icmp_ne 251 dX7_clause_243 (by decide) (fun c => ?_) (fun c => ?_)
  · have h := h.1 c
    refine go_bipush (v := 8) dX7_clause_251 (by decide) ?_
    exact h
  · have h := h.2 c
    refine go_bipush (v := 7) dX7_clause_246 (by decide) ?_
    refine go_goto 253 dX7_clause_248 (by decide) ?_
    exact h
theorem b_X7_clause_283 {G : gG} {I : gI} {R : gR} {L : gL} {Q : gQ} (hR : g_Fx R) (h : (¬ (I 310 18) = 0 → (¬ (I 310 18) = 0 → Q none SH I R L) ∧ ((I 310 18) = 0 → Mt G mX7_clauseIsOver 4 0 0 [.ref 310] SH I R L (fun r S' I' R' L' => Go G mX7_clause 5 0 0 315 [none] (r.toList ++ []) S' I' R' L' Q))) ∧ ((I 310 18) = 0 → (I 310 16 = 3 ∧ I 310 17 = (59 : Int32) → (¬ (I 310 18) = 0 → Go G mX7_clause 5 0 0 315 [none] [] SH I R L Q) ∧ ((I 310 18) = 0 → Mt G mX7_clauseIsOver 4 0 0 [.ref 310] SH I R L (fun r S' I' R' L' => Go G mX7_clause 5 0 0 315 [none] (r.toList ++ []) S' I' R' L' Q))) ∧ (¬ (I 310 16 = 3 ∧ I 310 17 = (59 : Int32)) → ∀ I_31 : gI, I_31 = errI I (1 : Int32) → (¬ (I_31 310 18) = 0 → Go G mX7_clause 5 0 0 315 [none] [] SH I_31 R L Q) ∧ ((I_31 310 18) = 0 → Mt G mX7_clauseIsOver 4 0 0 [.ref 310] SH I_31 R L (fun r S' I' R' L' => Go G mX7_clause 5 0 0 315 [none] (r.toList ++ []) S' I' R' L' Q))))) : Go G mX7_clause 5 0 0 283 [some (.ref 310)] [] SH I R L Q := by
  refine go_aload_n dX7_clause_283 rfl ?_
  refine go_getI dX7_clause_284 fX7_198 rfl rfl ?_
  refine go_if_ne 304 dX7_clause_287 (by decide) (fun c => ?_) (fun c => ?_)
  · have h := h.1 c
    refine go_aload_n dX7_clause_304 rfl ?_
    refine go_getI dX7_clause_305 fX7_198 rfl rfl ?_
    refine go_if_ne 315 dX7_clause_308 (by decide) (fun c => ?_) (fun c => ?_)
    · have h := h.1 c
      exact go_vret dX7_clause_315 rfl rfl h
    · have h := h.2 c
      refine go_aload_n dX7_clause_311 rfl ?_
      refine go_drop 0 ?_
      refine go_callV0 (μ := mX7_clause) [] dX7_clause_312 YX7_clauseIsOver lX7_271 rfl ⟨_, rfl, rfl⟩ rfl (Nat.le_of_ble_eq_true rfl) (Nat.le_of_ble_eq_true rfl) rfl h
  · have h := h.2 c
    refine go_aload_n dX7_clause_290 rfl ?_
    refine go_bipush (v := 59) dX7_clause_291 (by decide) ?_
    refine go_callV0 (μ := mX7_clause) [.int _] dX7_clause_293 YX7_isSign lX7_255 rfl ⟨_, rfl, rfl⟩ rfl (Nat.le_of_ble_eq_true rfl) (Nat.le_of_ble_eq_true rfl) rfl (k_X7_isSign hR ?_)
    refine go_if_ne 304 dX7_clause_296 (by decide) (fun c => ?_) (fun c => ?_)
    · have h := h.1 (b1.mp c)
      refine go_aload_n dX7_clause_304 rfl ?_
      refine go_getI dX7_clause_305 fX7_198 rfl rfl ?_
      refine go_if_ne 315 dX7_clause_308 (by decide) (fun c => ?_) (fun c => ?_)
      · have h := h.1 c
        refine go_drop 0 ?_
        exact h
      · have h := h.2 c
        refine go_aload_n dX7_clause_311 rfl ?_
        refine go_drop 0 ?_
        refine go_callV0 (μ := mX7_clause) [] dX7_clause_312 YX7_clauseIsOver lX7_271 rfl ⟨_, rfl, rfl⟩ rfl (Nat.le_of_ble_eq_true rfl) (Nat.le_of_ble_eq_true rfl) rfl h
    · have h := h.2 (b0.mp c)
      refine go_aload_n dX7_clause_299 rfl ?_
      refine go_iconst (v := 1) dX7_clause_300 (by decide) ?_
      refine go_callV0 (μ := mX7_clause) [.int _] dX7_clause_301 YX7_errs lX7_213 rfl ⟨_, rfl, rfl⟩ rfl (Nat.le_of_ble_eq_true rfl) (Nat.le_of_ble_eq_true rfl) rfl (k_X7_errs hR ?_)
      have h := h _ rfl
      refine go_aload_n dX7_clause_304 rfl ?_
      refine go_getI dX7_clause_305 fX7_198 rfl rfl ?_
      refine go_if_ne 315 dX7_clause_308 (by decide) (fun c => ?_) (fun c => ?_)
      · have h := h.1 c
        refine go_drop 0 ?_
        exact h
      · have h := h.2 c
        refine go_aload_n dX7_clause_311 rfl ?_
        refine go_drop 0 ?_
        refine go_callV0 (μ := mX7_clause) [] dX7_clause_312 YX7_clauseIsOver lX7_271 rfl ⟨_, rfl, rfl⟩ rfl (Nat.le_of_ble_eq_true rfl) (Nat.le_of_ble_eq_true rfl) rfl h
theorem b_X7_clause_253 {G : gG} {I : gI} {R : gR} {L : gL} {Q : gQ} {s1 : Int32} (hR : g_Fx R) (h : Mt G mX7_wants 4 0 0 [.ref 310, .int s1] SH I R L (fun r S' I' R' L' => Go G mX7_clause 5 0 0 256 [some (.ref 310)] (r.toList ++ []) S' I' R' L' Q)) : Go G mX7_clause 5 0 0 253 [some (.ref 310)] [.int s1, .ref 310] SH I R L Q := by
  refine go_callV0 (μ := mX7_clause) [.int _] dX7_clause_253 YX7_wants lX7_284 rfl ⟨_, rfl, rfl⟩ rfl (Nat.le_of_ble_eq_true rfl) (Nat.le_of_ble_eq_true rfl) rfl h
theorem b_X7_clause_315 {G : gG} {I : gI} {R : gR} {L : gL} {Q : gQ} (hR : g_Fx R) (h : Q none SH I R L) : Go G mX7_clause 5 0 0 315 [none] [] SH I R L Q := by
  exact go_vret dX7_clause_315 rfl rfl h
theorem b_X7_clause_256 {G : gG} {I : gI} {R : gR} {L : gL} {Q : gQ} (hR : g_Fx R) (h : (¬ (I 310 29) = 3 → Go G mX7_clause 5 0 0 279 [some (.ref 310)] [.int 1, .int 0, .ref 310, .int (I 310 28), .ref 328] SH I R L Q) ∧ ((I 310 29) = 3 → Go G mX7_clause 5 0 0 279 [some (.ref 310)] [.int 2, .int 0, .ref 310, .int (I 310 28), .ref 328] SH I R L Q)) : Go G mX7_clause 5 0 0 256 [some (.ref 310)] [] SH I R L Q := by
  refine go_aload_n dX7_clause_256 rfl ?_
  refine go_getR dX7_clause_257 fX7_69 rfl rfl (hR 310 33 328 rfl) ?_
  refine go_aload_n dX7_clause_260 rfl ?_
  refine go_getI dX7_clause_261 fX7_274 rfl rfl ?_
  refine go_aload_n dX7_clause_264 rfl ?_
  refine go_iconst (v := 0) dX7_clause_265 (by decide) ?_
  refine go_aload_n dX7_clause_266 rfl ?_
  refine go_getI dX7_clause_267 fX7_248 rfl rfl ?_
  refine go_iconst (v := 3) dX7_clause_270 (by decide) ?_
  refine go_icmp_ne 278 dX7_clause_271 (by decide) (fun c => ?_) (fun c => ?_)
  · have h := h.1 c
    refine go_iconst (v := 1) dX7_clause_278 (by decide) ?_
    exact h
  · have h := h.2 c
    refine go_iconst (v := 2) dX7_clause_274 (by decide) ?_
    refine go_goto 279 dX7_clause_275 (by decide) ?_
    exact h
theorem b_X7_clause_279 {G : gG} {I : gI} {R : gR} {L : gL} {Q : gQ} {s1 s3 s4 : Int32} (hR : g_Fx R) (h : Mt G mX7_number 4 0 0 [.ref 310, .int s3, .int s4] SH I R L (fun r S' I' R' L' => Go G mX7_clause 5 0 0 282 [some (.ref 310)] (r.toList ++ [.int s1, .ref 328]) S' I' R' L' Q)) : Go G mX7_clause 5 0 0 279 [some (.ref 310)] [.int s4, .int s3, .ref 310, .int s1, .ref 328] SH I R L Q := by
  refine go_callV0 (μ := mX7_clause) [.int _, .int _] dX7_clause_279 YX7_number lX7_280 rfl ⟨_, rfl, rfl⟩ rfl (Nat.le_of_ble_eq_true rfl) (Nat.le_of_ble_eq_true rfl) rfl h
theorem b_X7_clause_282 {G : gG} {I : gI} {R : gR} {L : gL} {Q : gQ} {s1 s2 : Int32} (hR : g_Fx R) (h : vp_in s1 24 ∧ (∀ I_36 : gI, I_36 = up I 328 s1.toNatClampNeg s2 → Go G mX7_clause 5 0 0 283 [some (.ref 310)] [] SH I_36 R L Q)) : Go G mX7_clause 5 0 0 282 [some (.ref 310)] [.int s2, .int s1, .ref 328] SH I R L Q := by
  obtain ⟨hi, h⟩ := h
  refine go_iast dX7_clause_282 rfl hi ?_
  have h := h _ rfl
  exact h
theorem e_X7_text {G : gG} {I : gI} {R : gR} {L : gL} {Q : gQ} (hR : g_Fx R) (h : (¬ (I 311 1) = 4 → ∀ I_1 : gI, I_1 = up I 310 13 (I 310 3) → ∀ I_2 : gI, I_2 = up I_1 310 3 0 → ∀ I_3 : gI, I_3 = up I_2 310 14 0 → ∀ I_4 : gI, I_4 = up I_3 310 18 0 → ∀ I_5 : gI, I_5 = up I_4 310 19 (-1) → ∀ I_6 : gI, I_6 = up I_5 310 20 0 → ∀ I_7 : gI, I_7 = up I_6 310 21 0 → ∀ I_8 : gI, I_8 = up I_7 310 24 0 → ∀ I_9 : gI, I_9 = up I_8 310 27 4 → ∀ I_10 : gI, I_10 = up I_9 310 28 0 → ∀ I_11 : gI, I_11 = up I_10 310 34 0 → Mt G mX7_nextToken 3 0 0 [.ref 310] SH I_11 R L (fun r S' I' R' L' => Go G mX7_text 6 0 0 74 [some (.ref 310), none, none] (r.toList ++ []) S' I' R' L' Q)) ∧ ((I 311 1) = 4 → Q (some (.int (-1))) SH I R L)) : Mt G mX7_text 6 0 0 [.ref 310] SH I R L Q := by
  refine go_start rfl (Nat.le_of_ble_eq_true rfl) rfl ?_
  refine go_aload_n dX7_text_0 rfl ?_
  refine go_getR dX7_text_1 fX7_7 rfl rfl (hR 310 0 311 rfl) ?_
  refine go_iconst (v := 1) dX7_text_4 (by decide) ?_
  refine go_ialdK dX7_text_5 rfl (vp_in_nI (n := 1) (by decide) (by decide)) (k := 1) (by decide) ?_
  refine go_iconst (v := 4) dX7_text_6 (by decide) ?_
  refine go_icmp_ne 12 dX7_text_7 (by decide) (fun c => ?_) (fun c => ?_)
  · have h := h.1 c
    refine go_aload_n dX7_text_12 rfl ?_
    refine go_aload_n dX7_text_13 rfl ?_
    refine go_getI dX7_text_14 fX7_118 rfl rfl ?_
    refine go_putI dX7_text_17 fX7_176 rfl rfl rfl rfl ?_
    have h := h _ rfl
    refine go_aload_n dX7_text_20 rfl ?_
    refine go_iconst (v := 0) dX7_text_21 (by decide) ?_
    refine go_putI dX7_text_22 fX7_118 rfl rfl rfl rfl ?_
    have h := h _ rfl
    refine go_aload_n dX7_text_25 rfl ?_
    refine go_iconst (v := 0) dX7_text_26 (by decide) ?_
    refine go_putI dX7_text_27 fX7_173 rfl rfl rfl rfl ?_
    have h := h _ rfl
    refine go_aload_n dX7_text_30 rfl ?_
    refine go_iconst (v := 0) dX7_text_31 (by decide) ?_
    refine go_putI dX7_text_32 fX7_198 rfl rfl rfl rfl ?_
    have h := h _ rfl
    refine go_aload_n dX7_text_35 rfl ?_
    refine go_iconst (v := -1) dX7_text_36 (by decide) ?_
    refine go_putI dX7_text_37 fX7_201 rfl rfl rfl rfl ?_
    have h := h _ rfl
    refine go_aload_n dX7_text_40 rfl ?_
    refine go_iconst (v := 0) dX7_text_41 (by decide) ?_
    refine go_putI dX7_text_42 fX7_210 rfl rfl rfl rfl ?_
    have h := h _ rfl
    refine go_aload_n dX7_text_45 rfl ?_
    refine go_iconst (v := 0) dX7_text_46 (by decide) ?_
    refine go_putI dX7_text_47 fX7_207 rfl rfl rfl rfl ?_
    have h := h _ rfl
    refine go_aload_n dX7_text_50 rfl ?_
    refine go_iconst (v := 0) dX7_text_51 (by decide) ?_
    refine go_putI dX7_text_52 fX7_222 rfl rfl rfl rfl ?_
    have h := h _ rfl
    refine go_aload_n dX7_text_55 rfl ?_
    refine go_iconst (v := 4) dX7_text_56 (by decide) ?_
    refine go_putI dX7_text_57 fX7_242 rfl rfl rfl rfl ?_
    have h := h _ rfl
    refine go_aload_n dX7_text_60 rfl ?_
    refine go_iconst (v := 0) dX7_text_61 (by decide) ?_
    refine go_putI dX7_text_62 fX7_274 rfl rfl rfl rfl ?_
    have h := h _ rfl
    refine go_aload_n dX7_text_65 rfl ?_
    refine go_iconst (v := 0) dX7_text_66 (by decide) ?_
    refine go_putI dX7_text_67 fX7_204 rfl rfl rfl rfl ?_
    have h := h _ rfl
    refine go_aload_n dX7_text_70 rfl ?_
    refine go_callV0 (μ := mX7_text) [] dX7_text_71 YX7_nextToken lX7_219 rfl ⟨_, rfl, rfl⟩ rfl (Nat.le_of_ble_eq_true rfl) (Nat.le_of_ble_eq_true rfl) rfl h
  · have h := h.2 c
    refine go_iconst (v := -1) dX7_text_10 (by decide) ?_
    exact go_iret dX7_text_11 rfl rfl h
theorem b_X7_text_74 {G : gG} {I : gI} {R : gR} {L : gL} {Q : gQ} (hR : g_Fx R) (h : (¬ (I 310 18) = 0 → Go G mX7_text 6 0 0 167 [some (.ref 310), none, none] [] SH I R L Q) ∧ ((I 310 18) = 0 → (¬ (I 310 27) = 4 → Go G mX7_text 6 0 0 96 [some (.ref 310), none, none] [] SH I R L Q) ∧ ((I 310 27) = 4 → ((I 310 16) = 0 → Go G mX7_text 6 0 0 167 [some (.ref 310), none, none] [] SH I R L Q) ∧ (¬ (I 310 16) = 0 → Go G mX7_text 6 0 0 96 [some (.ref 310), none, none] [] SH I R L Q)))) : Go G mX7_text 6 0 0 74 [some (.ref 310), none, none] [] SH I R L Q := by
  refine go_aload_n dX7_text_74 rfl ?_
  refine go_getI dX7_text_75 fX7_198 rfl rfl ?_
  refine go_if_ne 167 dX7_text_78 (by decide) (fun c => ?_) (fun c => ?_)
  · have h := h.1 c
    exact h
  · have h := h.2 c
    refine go_aload_n dX7_text_81 rfl ?_
    refine go_getI dX7_text_82 fX7_242 rfl rfl ?_
    refine go_iconst (v := 4) dX7_text_85 (by decide) ?_
    refine go_icmp_ne 96 dX7_text_86 (by decide) (fun c => ?_) (fun c => ?_)
    · have h := h.1 c
      exact h
    · have h := h.2 c
      refine go_aload_n dX7_text_89 rfl ?_
      refine go_getI dX7_text_90 fX7_182 rfl rfl ?_
      refine go_if_eq 167 dX7_text_93 (by decide) (fun c => ?_) (fun c => ?_)
      · have h := h.1 c
        exact h
      · have h := h.2 c
        exact h
theorem b_X7_text_167 {G : gG} {I : gI} {R : gR} {L : gL} {Q : gQ} (hR : g_Fx R) (h : ∀ I_16 : gI, I_16 = up I 310 4 (I 310 18) → ∀ I_17 : gI, I_17 = up I_16 310 5 (I_16 310 19) → ((I_17 310 18) ≤ 0 → ∀ v1_18 : Int32, v1_18 = (I_17 311 1) → vp_in v1_18 4 ∧ (∀ I_19 : gI, I_19 = up I_17 314 v1_18.toNatClampNeg (I_17 310 28) → Go G mX7_text 6 0 0 211 [some (.ref 310), some (.int v1_18), some (.int 0)] [] SH I_19 R L Q)) ∧ (¬ (I_17 310 18) ≤ 0 → Q (some (.int (-1))) SH I_17 R L)) : Go G mX7_text 6 0 0 167 [some (.ref 310), none, none] [] SH I R L Q := by
  refine go_aload_n dX7_text_167 rfl ?_
  refine go_aload_n dX7_text_168 rfl ?_
  refine go_getI dX7_text_169 fX7_198 rfl rfl ?_
  refine go_putI dX7_text_172 fX7_20 rfl rfl rfl rfl ?_
  have h := h _ rfl
  refine go_aload_n dX7_text_175 rfl ?_
  refine go_aload_n dX7_text_176 rfl ?_
  refine go_getI dX7_text_177 fX7_201 rfl rfl ?_
  refine go_putI dX7_text_180 fX7_24 rfl rfl rfl rfl ?_
  have h := h _ rfl
  refine go_aload_n dX7_text_183 rfl ?_
  refine go_getI dX7_text_184 fX7_198 rfl rfl ?_
  refine go_if_le 192 dX7_text_187 (by decide) (fun c => ?_) (fun c => ?_)
  · have h := h.1 c
    refine go_aload_n dX7_text_192 rfl ?_
    refine go_getR dX7_text_193 fX7_7 rfl rfl (hR 310 0 311 rfl) ?_
    refine go_iconst (v := 1) dX7_text_196 (by decide) ?_
    refine go_ialdK dX7_text_197 rfl (vp_in_nI (n := 1) (by decide) (by decide)) (k := 1) (by decide) ?_
    refine go_istore_n dX7_text_198 (Nat.le_of_ble_eq_true rfl) rfl ?_
    have h := h _ rfl
    refine go_aload_n dX7_text_199 rfl ?_
    refine go_getR dX7_text_200 fX7_27 rfl rfl (hR 310 6 314 rfl) ?_
    refine go_iload_n dX7_text_203 rfl ?_
    refine go_aload_n dX7_text_204 rfl ?_
    refine go_getI dX7_text_205 fX7_274 rfl rfl ?_
    obtain ⟨hi, h⟩ := h
    refine go_iast dX7_text_208 rfl hi ?_
    have h := h _ rfl
    refine go_iconst (v := 0) dX7_text_209 (by decide) ?_
    refine go_istore_n dX7_text_210 (Nat.le_of_ble_eq_true rfl) rfl ?_
    exact h
  · have h := h.2 c
    refine go_iconst (v := -1) dX7_text_190 (by decide) ?_
    exact go_iret dX7_text_191 rfl rfl h
theorem b_X7_text_96 {G : gG} {I : gI} {R : gR} {L : gL} {Q : gQ} (hR : g_Fx R) (h : ((I 310 27) = 0 → Mt G mX7_asks 5 0 0 [.ref 310] SH I R L (fun r S' I' R' L' => Go G mX7_text 6 0 0 136 [some (.ref 310), none, none] (r.toList ++ []) S' I' R' L' Q)) ∧ ((I 310 27) = 1 → Mt G mX7_begins 5 0 0 [.ref 310] SH I R L (fun r S' I' R' L' => Go G mX7_text 6 0 0 143 [some (.ref 310), none, none] (r.toList ++ []) S' I' R' L' Q)) ∧ ((I 310 27) = 2 → Mt G mX7_goesOn 5 0 0 [.ref 310] SH I R L (fun r S' I' R' L' => Go G mX7_text 6 0 0 150 [some (.ref 310), none, none] (r.toList ++ []) S' I' R' L' Q)) ∧ ((I 310 27) = 3 → Mt G mX7_asksOn 5 0 0 [.ref 310] SH I R L (fun r S' I' R' L' => Go G mX7_text 6 0 0 157 [some (.ref 310), none, none] (r.toList ++ []) S' I' R' L' Q)) ∧ (¬ (I 310 27) = 0 ∧ ¬ (I 310 27) = 1 ∧ ¬ (I 310 27) = 2 ∧ ¬ (I 310 27) = 3 → Mt G mX7_clause 5 0 0 [.ref 310] SH I R L (fun r S' I' R' L' => Go G mX7_text 6 0 0 164 [some (.ref 310), none, none] (r.toList ++ []) S' I' R' L' Q))) : Go G mX7_text 6 0 0 96 [some (.ref 310), none, none] [] SH I R L Q := by
  refine go_aload_n dX7_text_96 rfl ?_
  refine go_getI dX7_text_97 fX7_242 rfl rfl ?_
  by_cases c0 : (I 310 27) = 0
  · have h := h.1 c0
    refine go_tsIn 132 dX7_text_100 (by rw [c0]; decide) (by rw [c0]; decide) (by rw [c0]; rfl) (by decide) ?_
    refine go_aload_n dX7_text_132 rfl ?_
    refine go_callV0 (μ := mX7_text) [] dX7_text_133 YX7_asks lX7_287 rfl ⟨_, rfl, rfl⟩ rfl (Nat.le_of_ble_eq_true rfl) (Nat.le_of_ble_eq_true rfl) rfl h
  by_cases c1 : (I 310 27) = 1
  · have h := h.2.1 c1
    refine go_tsIn 139 dX7_text_100 (by rw [c1]; decide) (by rw [c1]; decide) (by rw [c1]; rfl) (by decide) ?_
    refine go_aload_n dX7_text_139 rfl ?_
    refine go_callV0 (μ := mX7_text) [] dX7_text_140 YX7_begins lX7_290 rfl ⟨_, rfl, rfl⟩ rfl (Nat.le_of_ble_eq_true rfl) (Nat.le_of_ble_eq_true rfl) rfl h
  by_cases c2 : (I 310 27) = 2
  · have h := h.2.2.1 c2
    refine go_tsIn 146 dX7_text_100 (by rw [c2]; decide) (by rw [c2]; decide) (by rw [c2]; rfl) (by decide) ?_
    refine go_aload_n dX7_text_146 rfl ?_
    refine go_callV0 (μ := mX7_text) [] dX7_text_147 YX7_goesOn lX7_293 rfl ⟨_, rfl, rfl⟩ rfl (Nat.le_of_ble_eq_true rfl) (Nat.le_of_ble_eq_true rfl) rfl h
  by_cases c3 : (I 310 27) = 3
  · have h := h.2.2.2.1 c3
    refine go_tsIn 153 dX7_text_100 (by rw [c3]; decide) (by rw [c3]; decide) (by rw [c3]; rfl) (by decide) ?_
    refine go_aload_n dX7_text_153 rfl ?_
    refine go_callV0 (μ := mX7_text) [] dX7_text_154 YX7_asksOn lX7_296 rfl ⟨_, rfl, rfl⟩ rfl (Nat.le_of_ble_eq_true rfl) (Nat.le_of_ble_eq_true rfl) rfl h
  have h := h.2.2.2.2 ⟨c0, c1, c2, c3⟩
  have e0 : ¬ Int32.toInt (I 310 27) = 0 := fun q => c0 (Int32.toInt_inj.mp (q.trans (by decide)))
  have e1 : ¬ Int32.toInt (I 310 27) = 1 := fun q => c1 (Int32.toInt_inj.mp (q.trans (by decide)))
  have e2 : ¬ Int32.toInt (I 310 27) = 2 := fun q => c2 (Int32.toInt_inj.mp (q.trans (by decide)))
  have e3 : ¬ Int32.toInt (I 310 27) = 3 := fun q => c3 (Int32.toInt_inj.mp (q.trans (by decide)))
  refine go_tsOut 160 dX7_text_100 (by omega) (by decide) ?_
  refine go_aload_n dX7_text_160 rfl ?_
  refine go_callV0 (μ := mX7_text) [] dX7_text_161 YX7_clause lX7_299 rfl ⟨_, rfl, rfl⟩ rfl (Nat.le_of_ble_eq_true rfl) (Nat.le_of_ble_eq_true rfl) rfl h
theorem b_X7_text_211 {G : gG} {I : gI} {R : gR} {L : gL} {Q : gQ} {v1 v2 : Int32} (hR : g_Fx R) (h : ((I 310 28) ≤ v2 → Go G mX7_text 6 0 0 301 [some (.ref 310), some (.int v1), some (.int 0)] [] SH I R L Q) ∧ (¬ (I 310 28) ≤ v2 → vp_in v2 24 ∧ (vp_in ((24 * v1) + v2) 96 ∧ (∀ I_22 : gI, I_22 = up I 315 ((24 * v1) + v2).toNatClampNeg (I 325 v2.toNatClampNeg) → vp_in v2 24 ∧ (vp_in ((24 * v1) + v2) 96 ∧ (∀ I_23 : gI, I_23 = up I_22 316 ((24 * v1) + v2).toNatClampNeg ((400 * v1) + (I_22 326 v2.toNatClampNeg)) → vp_in v2 24 ∧ (vp_in ((24 * v1) + v2) 96 ∧ (∀ I_24 : gI, I_24 = up I_23 317 ((24 * v1) + v2).toNatClampNeg (I_23 327 v2.toNatClampNeg) → vp_in v2 24 ∧ (vp_in ((24 * v1) + v2) 96 ∧ (∀ I_25 : gI, I_25 = up I_24 318 ((24 * v1) + v2).toNatClampNeg (I_24 328 v2.toNatClampNeg) → ∀ v2_26 : Int32, v2_26 = v2 + 1 → Go G mX7_text 6 0 0 211 [some (.ref 310), some (.int v1), some (.int v2_26)] [] SH I_25 R L Q)))))))))) : Go G mX7_text 6 0 0 211 [some (.ref 310), some (.int v1), some (.int v2)] [] SH I R L Q := by
  refine go_iload_n dX7_text_211 rfl ?_
  refine go_aload_n dX7_text_212 rfl ?_
  refine go_getI dX7_text_213 fX7_274 rfl rfl ?_
  refine go_icmp_ge 299 dX7_text_216 (by decide) (fun c => ?_) (fun c => ?_)
  · have h := h.1 c
    refine go_iconst (v := 0) dX7_text_299 (by decide) ?_
    refine go_istore_n dX7_text_300 (Nat.le_of_ble_eq_true rfl) rfl ?_
    exact h
  · have h := h.2 c
    refine go_aload_n dX7_text_219 rfl ?_
    refine go_getR dX7_text_220 fX7_30 rfl rfl (hR 310 7 315 rfl) ?_
    refine go_bipush (v := 24) dX7_text_223 (by decide) ?_
    refine go_iload_n dX7_text_225 rfl ?_
    refine go_imul dX7_text_226 ?_
    refine go_iload_n dX7_text_227 rfl ?_
    refine go_iadd dX7_text_228 ?_
    refine go_aload_n dX7_text_229 rfl ?_
    refine go_getR dX7_text_230 fX7_60 rfl rfl (hR 310 30 325 rfl) ?_
    refine go_iload_n dX7_text_233 rfl ?_
    obtain ⟨hi, h⟩ := h
    refine go_iald dX7_text_234 rfl hi ?_
    obtain ⟨hi, h⟩ := h
    refine go_iast dX7_text_235 rfl hi ?_
    have h := h _ rfl
    refine go_aload_n dX7_text_236 rfl ?_
    refine go_getR dX7_text_237 fX7_33 rfl rfl (hR 310 8 316 rfl) ?_
    refine go_bipush (v := 24) dX7_text_240 (by decide) ?_
    refine go_iload_n dX7_text_242 rfl ?_
    refine go_imul dX7_text_243 ?_
    refine go_iload_n dX7_text_244 rfl ?_
    refine go_iadd dX7_text_245 ?_
    refine go_sipush (v := 400) dX7_text_246 (by decide) ?_
    refine go_iload_n dX7_text_249 rfl ?_
    refine go_imul dX7_text_250 ?_
    refine go_aload_n dX7_text_251 rfl ?_
    refine go_getR dX7_text_252 fX7_63 rfl rfl (hR 310 31 326 rfl) ?_
    refine go_iload_n dX7_text_255 rfl ?_
    obtain ⟨hi, h⟩ := h
    refine go_iald dX7_text_256 rfl hi ?_
    refine go_iadd dX7_text_257 ?_
    obtain ⟨hi, h⟩ := h
    refine go_iast dX7_text_258 rfl hi ?_
    have h := h _ rfl
    refine go_aload_n dX7_text_259 rfl ?_
    refine go_getR dX7_text_260 fX7_36 rfl rfl (hR 310 9 317 rfl) ?_
    refine go_bipush (v := 24) dX7_text_263 (by decide) ?_
    refine go_iload_n dX7_text_265 rfl ?_
    refine go_imul dX7_text_266 ?_
    refine go_iload_n dX7_text_267 rfl ?_
    refine go_iadd dX7_text_268 ?_
    refine go_aload_n dX7_text_269 rfl ?_
    refine go_getR dX7_text_270 fX7_66 rfl rfl (hR 310 32 327 rfl) ?_
    refine go_iload_n dX7_text_273 rfl ?_
    obtain ⟨hi, h⟩ := h
    refine go_iald dX7_text_274 rfl hi ?_
    obtain ⟨hi, h⟩ := h
    refine go_iast dX7_text_275 rfl hi ?_
    have h := h _ rfl
    refine go_aload_n dX7_text_276 rfl ?_
    refine go_getR dX7_text_277 fX7_39 rfl rfl (hR 310 10 318 rfl) ?_
    refine go_bipush (v := 24) dX7_text_280 (by decide) ?_
    refine go_iload_n dX7_text_282 rfl ?_
    refine go_imul dX7_text_283 ?_
    refine go_iload_n dX7_text_284 rfl ?_
    refine go_iadd dX7_text_285 ?_
    refine go_aload_n dX7_text_286 rfl ?_
    refine go_getR dX7_text_287 fX7_69 rfl rfl (hR 310 33 328 rfl) ?_
    refine go_iload_n dX7_text_290 rfl ?_
    obtain ⟨hi, h⟩ := h
    refine go_iald dX7_text_291 rfl hi ?_
    obtain ⟨hi, h⟩ := h
    refine go_iast dX7_text_292 rfl hi ?_
    have h := h _ rfl
    refine go_iinc dX7_text_293 rfl (Nat.le_of_ble_eq_true rfl) rfl ?_
    have h := h _ rfl
    refine go_goto 211 dX7_text_296 (by decide) ?_
    exact h
theorem b_X7_text_136 {G : gG} {I : gI} {R : gR} {L : gL} {Q : gQ} (hR : g_Fx R) (h : Go G mX7_text 6 0 0 74 [some (.ref 310), none, none] [] SH I R L Q) : Go G mX7_text 6 0 0 136 [some (.ref 310), none, none] [] SH I R L Q := by
  refine go_goto 74 dX7_text_136 (by decide) ?_
  exact h
theorem b_X7_text_143 {G : gG} {I : gI} {R : gR} {L : gL} {Q : gQ} (hR : g_Fx R) (h : Go G mX7_text 6 0 0 74 [some (.ref 310), none, none] [] SH I R L Q) : Go G mX7_text 6 0 0 143 [some (.ref 310), none, none] [] SH I R L Q := by
  refine go_goto 74 dX7_text_143 (by decide) ?_
  exact h
theorem b_X7_text_150 {G : gG} {I : gI} {R : gR} {L : gL} {Q : gQ} (hR : g_Fx R) (h : Go G mX7_text 6 0 0 74 [some (.ref 310), none, none] [] SH I R L Q) : Go G mX7_text 6 0 0 150 [some (.ref 310), none, none] [] SH I R L Q := by
  refine go_goto 74 dX7_text_150 (by decide) ?_
  exact h
theorem b_X7_text_157 {G : gG} {I : gI} {R : gR} {L : gL} {Q : gQ} (hR : g_Fx R) (h : Go G mX7_text 6 0 0 74 [some (.ref 310), none, none] [] SH I R L Q) : Go G mX7_text 6 0 0 157 [some (.ref 310), none, none] [] SH I R L Q := by
  refine go_goto 74 dX7_text_157 (by decide) ?_
  exact h
theorem b_X7_text_164 {G : gG} {I : gI} {R : gR} {L : gL} {Q : gQ} (hR : g_Fx R) (h : Go G mX7_text 6 0 0 74 [some (.ref 310), none, none] [] SH I R L Q) : Go G mX7_text 6 0 0 164 [some (.ref 310), none, none] [] SH I R L Q := by
  refine go_goto 74 dX7_text_164 (by decide) ?_
  exact h
theorem b_X7_text_301 {G : gG} {I : gI} {R : gR} {L : gL} {Q : gQ} {v1 v2 : Int32} (hR : g_Fx R) (h : ((I 310 34) ≤ v2 → ∀ I_28 : gI, I_28 = up I 311 1 ((I 311 1) + 1) → Q (some (.int v1)) SH I_28 R L) ∧ (¬ (I 310 34) ≤ v2 → vp_in v2 400 ∧ (vp_in ((400 * v1) + v2) 1600 ∧ (∀ I_29 : gI, I_29 = up I 319 ((400 * v1) + v2).toNatClampNeg (I 329 v2.toNatClampNeg) → vp_in v2 400 ∧ (vp_in ((400 * v1) + v2) 1600 ∧ (∀ I_30 : gI, I_30 = up I_29 320 ((400 * v1) + v2).toNatClampNeg (I_29 330 v2.toNatClampNeg) → ∀ v2_31 : Int32, v2_31 = v2 + 1 → Go G mX7_text 6 0 0 301 [some (.ref 310), some (.int v1), some (.int v2_31)] [] SH I_30 R L Q)))))) : Go G mX7_text 6 0 0 301 [some (.ref 310), some (.int v1), some (.int v2)] [] SH I R L Q := by
  refine go_iload_n dX7_text_301 rfl ?_
  refine go_aload_n dX7_text_302 rfl ?_
  refine go_getI dX7_text_303 fX7_204 rfl rfl ?_
  refine go_icmp_ge 351 dX7_text_306 (by decide) (fun c => ?_) (fun c => ?_)
  · have h := h.1 c
    refine go_aload_n dX7_text_351 rfl ?_
    refine go_getR dX7_text_352 fX7_7 rfl rfl (hR 310 0 311 rfl) ?_
    refine go_iconst (v := 1) dX7_text_355 (by decide) ?_
    refine go_dup2 dX7_text_356 rfl rfl ?_
    refine go_ialdK dX7_text_357 rfl (vp_in_nI (n := 1) (by decide) (by decide)) (k := 1) (by decide) ?_
    refine go_iconst (v := 1) dX7_text_358 (by decide) ?_
    refine go_iadd dX7_text_359 ?_
    refine go_iastK dX7_text_360 rfl (vp_in_nI (n := 1) (by decide) (by decide)) (k := 1) (by decide) ?_
    have h := h _ rfl
    refine go_iload_n dX7_text_361 rfl ?_
    exact go_iret dX7_text_362 rfl rfl h
  · have h := h.2 c
    refine go_aload_n dX7_text_309 rfl ?_
    refine go_getR dX7_text_310 fX7_42 rfl rfl (hR 310 11 319 rfl) ?_
    refine go_sipush (v := 400) dX7_text_313 (by decide) ?_
    refine go_iload_n dX7_text_316 rfl ?_
    refine go_imul dX7_text_317 ?_
    refine go_iload_n dX7_text_318 rfl ?_
    refine go_iadd dX7_text_319 ?_
    refine go_aload_n dX7_text_320 rfl ?_
    refine go_getR dX7_text_321 fX7_72 rfl rfl (hR 310 35 329 rfl) ?_
    refine go_iload_n dX7_text_324 rfl ?_
    obtain ⟨hi, h⟩ := h
    refine go_iald dX7_text_325 rfl hi ?_
    obtain ⟨hi, h⟩ := h
    refine go_iast dX7_text_326 rfl hi ?_
    have h := h _ rfl
    refine go_aload_n dX7_text_327 rfl ?_
    refine go_getR dX7_text_328 fX7_45 rfl rfl (hR 310 12 320 rfl) ?_
    refine go_sipush (v := 400) dX7_text_331 (by decide) ?_
    refine go_iload_n dX7_text_334 rfl ?_
    refine go_imul dX7_text_335 ?_
    refine go_iload_n dX7_text_336 rfl ?_
    refine go_iadd dX7_text_337 ?_
    refine go_aload_n dX7_text_338 rfl ?_
    refine go_getR dX7_text_339 fX7_75 rfl rfl (hR 310 36 330 rfl) ?_
    refine go_iload_n dX7_text_342 rfl ?_
    obtain ⟨hi, h⟩ := h
    refine go_iald dX7_text_343 rfl hi ?_
    obtain ⟨hi, h⟩ := h
    refine go_iast dX7_text_344 rfl hi ?_
    have h := h _ rfl
    refine go_iinc dX7_text_345 rfl (Nat.le_of_ble_eq_true rfl) rfl ?_
    have h := h _ rfl
    refine go_goto 301 dX7_text_348 (by decide) ?_
    exact h
