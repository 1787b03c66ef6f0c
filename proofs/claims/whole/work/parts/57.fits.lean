theorem k_X7_hng {G : gG} {I : gI} {R : gR} {L : gL} {Q : gQ} {a b : Int32} (hR : g_Fx R) (hq : Q (some (.int (hng (a + b)))) SH I R L) : Mt G mX7_hangs 1 0 0 [.int a, .int b] SH I R L Q := by
  refine k_X7_hangs hR ?_
  have e : (if 0 < a + b then 1 else if a + b < 0 then -1 else 0 : Int32) = hng (a + b) := by unfold hng; grind
  rw [e]
  exact hq
theorem e_X6_fits {G : gG} {I : gI} {R : gR} {L : gL} {Q : gQ} (hR : g_Fx R) (h : Q (some (.int (I 3 11))) SH I R L) : Mt G mX6_fits 30 0 0 [.ref 0] SH I R L Q := by
  refine go_start rfl (Nat.le_of_ble_eq_true rfl) rfl ?_
  refine go_aload_n dX6_fits_0 rfl ?_
  refine go_getR dX6_fits_1 fX6_27 rfl rfl (hR 0 2 3 rfl) ?_
  refine go_getI dX6_fits_4 fX6_230 rfl rfl ?_
  exact go_iret dX6_fits_7 rfl rfl h
theorem e_X7_fits {G : gG} {I : gI} {R : gR} {L : gL} {Q : gQ} (hR : g_Fx R) (h : Go G mX7_fits 5 0 0 4 [some (.ref 310), some (.int 0), some (.int 0), none, none] [] SH I R L Q) : Mt G mX7_fits 5 0 0 [.ref 310] SH I R L Q := by
  refine go_start rfl (Nat.le_of_ble_eq_true rfl) rfl ?_
  refine go_iconst (v := 0) dX7_fits_0 (by decide) ?_
  refine go_istore_n dX7_fits_1 (Nat.le_of_ble_eq_true rfl) rfl ?_
  refine go_iconst (v := 0) dX7_fits_2 (by decide) ?_
  refine go_istore_n dX7_fits_3 (Nat.le_of_ble_eq_true rfl) rfl ?_
  exact h
theorem b_X7_fits_4 {G : gG} {I : gI} {R : gR} {L : gL} {Q : gQ} {v1 v2 : Int32} (hR : g_Fx R) (h : (10 ≤ v2 → Q (some (.int v1)) SH I R L) ∧ (¬ 10 ≤ v2 → Go G mX7_fits 5 0 0 15 [some (.ref 310), some (.int v1), some (.int v2), some (.int 1), some (.int 0)] [] SH I R L Q)) : Go G mX7_fits 5 0 0 4 [some (.ref 310), some (.int v1), some (.int v2), none, none] [] SH I R L Q := by
  refine go_iload_n dX7_fits_4 rfl ?_
  refine go_bipush (v := 10) dX7_fits_5 (by decide) ?_
  refine go_icmp_ge 95 dX7_fits_7 (by decide) (fun c => ?_) (fun c => ?_)
  · have h := h.1 c
    refine go_iload_n dX7_fits_95 rfl ?_
    exact go_iret dX7_fits_96 rfl rfl h
  · have h := h.2 c
    refine go_iconst (v := 1) dX7_fits_10 (by decide) ?_
    refine go_istore_n dX7_fits_11 (Nat.le_of_ble_eq_true rfl) rfl ?_
    refine go_iconst (v := 0) dX7_fits_12 (by decide) ?_
    refine go_istore dX7_fits_13 (Nat.le_of_ble_eq_true rfl) rfl ?_
    exact h
theorem b_X7_fits_15 {G : gG} {I : gI} {R : gR} {L : gL} {Q : gQ} {v1 v2 v3 v4 : Int32} (hR : g_Fx R) (h : ((I 311 4) ≤ v4 → (v3 = 0 → ∀ v1_2 : Int32, v1_2 = (v1 ||| 0) → ∀ v2_3 : Int32, v2_3 = v2 + 1 → Go G mX7_fits 5 0 0 4 [some (.ref 310), some (.int v1_2), some (.int v2_3), none, none] [] SH I R L Q) ∧ (¬ v3 = 0 → ∀ v1_4 : Int32, v1_4 = (v1 ||| (1 <<< (v2 &&& 31))) → ∀ v2_5 : Int32, v2_5 = v2 + 1 → Go G mX7_fits 5 0 0 4 [some (.ref 310), some (.int v1_4), some (.int v2_5), none, none] [] SH I R L Q)) ∧ (¬ (I 311 4) ≤ v4 → (v3 = 0 → ∀ v4_7 : Int32, v4_7 = v4 + 1 → Go G mX7_fits 5 0 0 15 [some (.ref 310), some (.int v1), some (.int v2), some (.int 0), some (.int v4_7)] [] SH I R L Q) ∧ (¬ v3 = 0 → vp_in (40 + (2 * v4)) 11120 ∧ (vp_in ((40 + (2 * v4)) + 1) 11120 ∧ ((¬ hng ((I 311 (40 + (2 * v4)).toNatClampNeg) + v2) = (I 311 ((40 + (2 * v4)) + 1).toNatClampNeg) → ∀ v4_8 : Int32, v4_8 = v4 + 1 → Go G mX7_fits 5 0 0 15 [some (.ref 310), some (.int v1), some (.int v2), some (.int 0), some (.int v4_8)] [] SH I R L Q) ∧ (hng ((I 311 (40 + (2 * v4)).toNatClampNeg) + v2) = (I 311 ((40 + (2 * v4)) + 1).toNatClampNeg) → ∀ v4_9 : Int32, v4_9 = v4 + 1 → Go G mX7_fits 5 0 0 15 [some (.ref 310), some (.int v1), some (.int v2), some (.int 1), some (.int v4_9)] [] SH I R L Q)))))) : Go G mX7_fits 5 0 0 15 [some (.ref 310), some (.int v1), some (.int v2), some (.int v3), some (.int v4)] [] SH I R L Q := by
  refine go_iload dX7_fits_15 rfl ?_
  refine go_aload_n dX7_fits_17 rfl ?_
  refine go_getR dX7_fits_18 fX7_7 rfl rfl (hR 310 0 311 rfl) ?_
  refine go_iconst (v := 4) dX7_fits_21 (by decide) ?_
  refine go_ialdK dX7_fits_22 rfl (vp_in_nI (n := 4) (by decide) (by decide)) (k := 4) (by decide) ?_
  refine go_icmp_ge 75 dX7_fits_23 (by decide) (fun c => ?_) (fun c => ?_)
  · have h := h.1 c
    refine go_iload_n dX7_fits_75 rfl ?_
    refine go_iload_n dX7_fits_76 rfl ?_
    refine go_if_eq 86 dX7_fits_77 (by decide) (fun c => ?_) (fun c => ?_)
    · have h := h.1 c
      refine go_iconst (v := 0) dX7_fits_86 (by decide) ?_
      refine go_ior dX7_fits_87 ?_
      refine go_istore_n dX7_fits_88 (Nat.le_of_ble_eq_true rfl) rfl ?_
      have h := h _ rfl
      refine go_iinc dX7_fits_89 rfl (Nat.le_of_ble_eq_true rfl) rfl ?_
      have h := h _ rfl
      refine go_goto 4 dX7_fits_92 (by decide) ?_
      refine go_drop 3 ?_
      refine go_drop 4 ?_
      exact h
    · have h := h.2 c
      refine go_iconst (v := 1) dX7_fits_80 (by decide) ?_
      refine go_iload_n dX7_fits_81 rfl ?_
      refine go_ishl dX7_fits_82 ?_
      refine go_goto 87 dX7_fits_83 (by decide) ?_
      refine go_ior dX7_fits_87 ?_
      refine go_istore_n dX7_fits_88 (Nat.le_of_ble_eq_true rfl) rfl ?_
      have h := h _ rfl
      refine go_iinc dX7_fits_89 rfl (Nat.le_of_ble_eq_true rfl) rfl ?_
      have h := h _ rfl
      refine go_goto 4 dX7_fits_92 (by decide) ?_
      refine go_drop 3 ?_
      refine go_drop 4 ?_
      exact h
  · have h := h.2 c
    refine go_iload_n dX7_fits_26 rfl ?_
    refine go_if_eq 67 dX7_fits_27 (by decide) (fun c => ?_) (fun c => ?_)
    · have h := h.1 c
      refine go_iconst (v := 0) dX7_fits_67 (by decide) ?_
      refine go_istore_n dX7_fits_68 (Nat.le_of_ble_eq_true rfl) rfl ?_
      refine go_iinc dX7_fits_69 rfl (Nat.le_of_ble_eq_true rfl) rfl ?_
      have h := h _ rfl
      refine go_goto 15 dX7_fits_72 (by decide) ?_
      exact h
    · have h := h.2 c
      refine go_aload_n dX7_fits_30 rfl ?_
      refine go_getR dX7_fits_31 fX7_7 rfl rfl (hR 310 0 311 rfl) ?_
      refine go_bipush (v := 40) dX7_fits_34 (by decide) ?_
      refine go_iconst (v := 2) dX7_fits_36 (by decide) ?_
      refine go_iload dX7_fits_37 rfl ?_
      refine go_imul dX7_fits_39 ?_
      refine go_iadd dX7_fits_40 ?_
      obtain ⟨hi, h⟩ := h
      refine go_iald dX7_fits_41 rfl hi ?_
      refine go_iload_n dX7_fits_42 rfl ?_
      refine go_callS0 (μ := mX7_fits) [.int _, .int _] dX7_fits_43 YX7_hangs lX7_388 rfl (Nat.le_of_ble_eq_true rfl) (Nat.le_of_ble_eq_true rfl) rfl (k_X7_hng hR ?_)
      refine go_aload_n dX7_fits_46 rfl ?_
      refine go_getR dX7_fits_47 fX7_7 rfl rfl (hR 310 0 311 rfl) ?_
      refine go_bipush (v := 40) dX7_fits_50 (by decide) ?_
      refine go_iconst (v := 2) dX7_fits_52 (by decide) ?_
      refine go_iload dX7_fits_53 rfl ?_
      refine go_imul dX7_fits_55 ?_
      refine go_iadd dX7_fits_56 ?_
      refine go_iconst (v := 1) dX7_fits_57 (by decide) ?_
      refine go_iadd dX7_fits_58 ?_
      obtain ⟨hi, h⟩ := h
      refine go_iald dX7_fits_59 rfl hi ?_
      refine go_icmp_ne 67 dX7_fits_60 (by decide) (fun c => ?_) (fun c => ?_)
      · have h := h.1 c
        refine go_iconst (v := 0) dX7_fits_67 (by decide) ?_
        refine go_istore_n dX7_fits_68 (Nat.le_of_ble_eq_true rfl) rfl ?_
        refine go_iinc dX7_fits_69 rfl (Nat.le_of_ble_eq_true rfl) rfl ?_
        have h := h _ rfl
        refine go_goto 15 dX7_fits_72 (by decide) ?_
        exact h
      · have h := h.2 c
        refine go_iconst (v := 1) dX7_fits_63 (by decide) ?_
        refine go_goto 68 dX7_fits_64 (by decide) ?_
        refine go_istore_n dX7_fits_68 (Nat.le_of_ble_eq_true rfl) rfl ?_
        refine go_iinc dX7_fits_69 rfl (Nat.le_of_ble_eq_true rfl) rfl ?_
        have h := h _ rfl
        refine go_goto 15 dX7_fits_72 (by decide) ?_
        exact h
theorem e_X6_mostAlike {G : gG} {I : gI} {R : gR} {L : gL} {Q : gQ} {a : Int32} (hR : g_Fx R) (h : Go G mX6_mostAlike 5 0 0 10 [some (.ref 0), some (.int a), some (.int 0), some (.int 0), some (.int 0), some (.int 0), none] [] SH I R L Q) : Mt G mX6_mostAlike 5 0 0 [.ref 0, .int a] SH I R L Q := by
  refine go_start rfl (Nat.le_of_ble_eq_true rfl) rfl ?_
  refine go_iconst (v := 0) dX6_mostAlike_0 (by decide) ?_
  refine go_istore_n dX6_mostAlike_1 (Nat.le_of_ble_eq_true rfl) rfl ?_
  refine go_iconst (v := 0) dX6_mostAlike_2 (by decide) ?_
  refine go_istore_n dX6_mostAlike_3 (Nat.le_of_ble_eq_true rfl) rfl ?_
  refine go_iconst (v := 0) dX6_mostAlike_4 (by decide) ?_
  refine go_istore dX6_mostAlike_5 (Nat.le_of_ble_eq_true rfl) rfl ?_
  refine go_iconst (v := 0) dX6_mostAlike_7 (by decide) ?_
  refine go_istore dX6_mostAlike_8 (Nat.le_of_ble_eq_true rfl) rfl ?_
  exact h
theorem b_X6_mostAlike_10 {G : gG} {I : gI} {R : gR} {L : gL} {Q : gQ} {v1 v2 v3 v4 v5 : Int32} (hR : g_Fx R) (h : (10 ≤ v5 → Q (some (.int (if v4 < (if v2 < v3 then v3 else v2) then (if v2 < v3 then v3 else v2) else v4))) SH I R L) ∧ (¬ 10 ≤ v5 → (¬ (((I 3 11) >>> (v5 &&& 31)) &&& 1) = 1 → ∀ v5_1 : Int32, v5_1 = v5 + 1 → Go G mX6_mostAlike 5 0 0 10 [some (.ref 0), some (.int v1), some (.int v2), some (.int v3), some (.int v4), some (.int v5_1), none] [] SH I R L Q) ∧ ((((I 3 11) >>> (v5 &&& 31)) &&& 1) = 1 → ∀ v6_2 : Int32, v6_2 = hng (v1 + v5) → (¬ v6_2 = 1 → Go G mX6_mostAlike 5 0 0 54 [some (.ref 0), some (.int v1), none, some (.int v3), some (.int v4), some (.int v5), some (.int v6_2)] [.int 0, .int v2] SH I R L Q) ∧ (v6_2 = 1 → Go G mX6_mostAlike 5 0 0 54 [some (.ref 0), some (.int v1), none, some (.int v3), some (.int v4), some (.int v5), some (.int v6_2)] [.int 1, .int v2] SH I R L Q)))) : Go G mX6_mostAlike 5 0 0 10 [some (.ref 0), some (.int v1), some (.int v2), some (.int v3), some (.int v4), some (.int v5), none] [] SH I R L Q := by
  refine go_iload dX6_mostAlike_10 rfl ?_
  refine go_bipush (v := 10) dX6_mostAlike_12 (by decide) ?_
  refine go_icmp_ge 91 dX6_mostAlike_14 (by decide) (fun c => ?_) (fun c => ?_)
  · have h := h.1 c
    refine go_iload dX6_mostAlike_91 rfl ?_
    refine go_iload_n dX6_mostAlike_93 rfl ?_
    refine go_iload_n dX6_mostAlike_94 rfl ?_
    refine go_mmax dX6_mostAlike_95 lX6_294 ns_max ni_J9 nc_max (Nat.le_of_ble_eq_true rfl) (Nat.le_of_ble_eq_true rfl) ?_
    refine go_mmax dX6_mostAlike_98 lX6_294 ns_max ni_J9 nc_max (Nat.le_of_ble_eq_true rfl) (Nat.le_of_ble_eq_true rfl) ?_
    exact go_iret dX6_mostAlike_101 rfl rfl h
  · have h := h.2 c
    refine go_aload_n dX6_mostAlike_17 rfl ?_
    refine go_getR dX6_mostAlike_18 fX6_27 rfl rfl (hR 0 2 3 rfl) ?_
    refine go_getI dX6_mostAlike_21 fX6_230 rfl rfl ?_
    refine go_iload dX6_mostAlike_24 rfl ?_
    refine go_ishr dX6_mostAlike_26 ?_
    refine go_iconst (v := 1) dX6_mostAlike_27 (by decide) ?_
    refine go_iand dX6_mostAlike_28 ?_
    refine go_iconst (v := 1) dX6_mostAlike_29 (by decide) ?_
    refine go_icmp_ne 85 dX6_mostAlike_30 (by decide) (fun c => ?_) (fun c => ?_)
    · have h := h.1 c
      refine go_iinc dX6_mostAlike_85 rfl (Nat.le_of_ble_eq_true rfl) rfl ?_
      have h := h _ rfl
      refine go_goto 10 dX6_mostAlike_88 (by decide) ?_
      exact h
    · have h := h.2 c
      refine go_iload_n dX6_mostAlike_33 rfl ?_
      refine go_iload dX6_mostAlike_34 rfl ?_
      refine go_iadd dX6_mostAlike_36 ?_
      refine go_callS0 (μ := mX6_mostAlike) [.int _] dX6_mostAlike_37 YX6_hang lX6_227 rfl (Nat.le_of_ble_eq_true rfl) (Nat.le_of_ble_eq_true rfl) rfl (k_X6_hng hR ?_)
      refine go_istore dX6_mostAlike_40 (Nat.le_of_ble_eq_true rfl) rfl ?_
      have h := h _ rfl
      refine go_iload_n dX6_mostAlike_42 rfl ?_
      refine go_iload dX6_mostAlike_43 rfl ?_
      refine go_iconst (v := 1) dX6_mostAlike_45 (by decide) ?_
      refine go_icmp_ne 53 dX6_mostAlike_46 (by decide) (fun c => ?_) (fun c => ?_)
      · have h := h.1 c
        refine go_iconst (v := 0) dX6_mostAlike_53 (by decide) ?_
        refine go_drop 2 ?_
        exact h
      · have h := h.2 c
        refine go_iconst (v := 1) dX6_mostAlike_49 (by decide) ?_
        refine go_goto 54 dX6_mostAlike_50 (by decide) ?_
        refine go_drop 2 ?_
        exact h
theorem b_X6_mostAlike_54 {G : gG} {I : gI} {R : gR} {L : gL} {Q : gQ} {v1 v3 v4 v5 v6 s0 s1 : Int32} (hR : g_Fx R) (h : ∀ v2_6 : Int32, v2_6 = (s0 + s1) → (¬ v6 = (-1) → ∀ v3_7 : Int32, v3_7 = (v3 + 0) → (¬ v6 = 0 → ∀ v4_8 : Int32, v4_8 = (v4 + 0) → ∀ v5_9 : Int32, v5_9 = v5 + 1 → Go G mX6_mostAlike 5 0 0 10 [some (.ref 0), some (.int v1), some (.int v2_6), some (.int v3_7), some (.int v4_8), some (.int v5_9), none] [] SH I R L Q) ∧ (v6 = 0 → ∀ v4_10 : Int32, v4_10 = (v4 + 1) → ∀ v5_11 : Int32, v5_11 = v5 + 1 → Go G mX6_mostAlike 5 0 0 10 [some (.ref 0), some (.int v1), some (.int v2_6), some (.int v3_7), some (.int v4_10), some (.int v5_11), none] [] SH I R L Q)) ∧ (v6 = (-1) → ∀ v3_13 : Int32, v3_13 = (v3 + 1) → (¬ v6 = 0 → ∀ v4_14 : Int32, v4_14 = (v4 + 0) → ∀ v5_15 : Int32, v5_15 = v5 + 1 → Go G mX6_mostAlike 5 0 0 10 [some (.ref 0), some (.int v1), some (.int v2_6), some (.int v3_13), some (.int v4_14), some (.int v5_15), none] [] SH I R L Q) ∧ (v6 = 0 → ∀ v4_16 : Int32, v4_16 = (v4 + 1) → ∀ v5_17 : Int32, v5_17 = v5 + 1 → Go G mX6_mostAlike 5 0 0 10 [some (.ref 0), some (.int v1), some (.int v2_6), some (.int v3_13), some (.int v4_16), some (.int v5_17), none] [] SH I R L Q))) : Go G mX6_mostAlike 5 0 0 54 [some (.ref 0), some (.int v1), none, some (.int v3), some (.int v4), some (.int v5), some (.int v6)] [.int s1, .int s0] SH I R L Q := by
  refine go_iadd dX6_mostAlike_54 ?_
  refine go_istore_n dX6_mostAlike_55 (Nat.le_of_ble_eq_true rfl) rfl ?_
  have h := h _ rfl
  refine go_iload_n dX6_mostAlike_56 rfl ?_
  refine go_iload dX6_mostAlike_57 rfl ?_
  refine go_iconst (v := -1) dX6_mostAlike_59 (by decide) ?_
  refine go_icmp_ne 67 dX6_mostAlike_60 (by decide) (fun c => ?_) (fun c => ?_)
  · have h := h.1 c
    refine go_iconst (v := 0) dX6_mostAlike_67 (by decide) ?_
    refine go_iadd dX6_mostAlike_68 ?_
    refine go_istore_n dX6_mostAlike_69 (Nat.le_of_ble_eq_true rfl) rfl ?_
    have h := h _ rfl
    refine go_iload dX6_mostAlike_70 rfl ?_
    refine go_iload dX6_mostAlike_72 rfl ?_
    refine go_if_ne 81 dX6_mostAlike_74 (by decide) (fun c => ?_) (fun c => ?_)
    · have h := h.1 c
      refine go_iconst (v := 0) dX6_mostAlike_81 (by decide) ?_
      refine go_iadd dX6_mostAlike_82 ?_
      refine go_istore dX6_mostAlike_83 (Nat.le_of_ble_eq_true rfl) rfl ?_
      have h := h _ rfl
      refine go_iinc dX6_mostAlike_85 rfl (Nat.le_of_ble_eq_true rfl) rfl ?_
      have h := h _ rfl
      refine go_goto 10 dX6_mostAlike_88 (by decide) ?_
      refine go_drop 6 ?_
      exact h
    · have h := h.2 c
      refine go_iconst (v := 1) dX6_mostAlike_77 (by decide) ?_
      refine go_goto 82 dX6_mostAlike_78 (by decide) ?_
      refine go_iadd dX6_mostAlike_82 ?_
      refine go_istore dX6_mostAlike_83 (Nat.le_of_ble_eq_true rfl) rfl ?_
      have h := h _ rfl
      refine go_iinc dX6_mostAlike_85 rfl (Nat.le_of_ble_eq_true rfl) rfl ?_
      have h := h _ rfl
      refine go_goto 10 dX6_mostAlike_88 (by decide) ?_
      refine go_drop 6 ?_
      exact h
  · have h := h.2 c
    refine go_iconst (v := 1) dX6_mostAlike_63 (by decide) ?_
    refine go_goto 68 dX6_mostAlike_64 (by decide) ?_
    refine go_iadd dX6_mostAlike_68 ?_
    refine go_istore_n dX6_mostAlike_69 (Nat.le_of_ble_eq_true rfl) rfl ?_
    have h := h _ rfl
    refine go_iload dX6_mostAlike_70 rfl ?_
    refine go_iload dX6_mostAlike_72 rfl ?_
    refine go_if_ne 81 dX6_mostAlike_74 (by decide) (fun c => ?_) (fun c => ?_)
    · have h := h.1 c
      refine go_iconst (v := 0) dX6_mostAlike_81 (by decide) ?_
      refine go_iadd dX6_mostAlike_82 ?_
      refine go_istore dX6_mostAlike_83 (Nat.le_of_ble_eq_true rfl) rfl ?_
      have h := h _ rfl
      refine go_iinc dX6_mostAlike_85 rfl (Nat.le_of_ble_eq_true rfl) rfl ?_
      have h := h _ rfl
      refine go_goto 10 dX6_mostAlike_88 (by decide) ?_
      refine go_drop 6 ?_
      exact h
    · have h := h.2 c
      refine go_iconst (v := 1) dX6_mostAlike_77 (by decide) ?_
      refine go_goto 82 dX6_mostAlike_78 (by decide) ?_
      refine go_iadd dX6_mostAlike_82 ?_
      refine go_istore dX6_mostAlike_83 (Nat.le_of_ble_eq_true rfl) rfl ?_
      have h := h _ rfl
      refine go_iinc dX6_mostAlike_85 rfl (Nat.le_of_ble_eq_true rfl) rfl ?_
      have h := h _ rfl
      refine go_goto 10 dX6_mostAlike_88 (by decide) ?_
      refine go_drop 6 ?_
      exact h
theorem e_X7_mostAlike {G : gG} {I : gI} {R : gR} {L : gL} {Q : gQ} {a b : Int32} (hR : g_Fx R) (h : Go G mX7_mostAlike 5 0 0 4 [some (.int a), some (.int b), some (.int 0), some (.int (-1)), none, none] [] SH I R L Q) : Mt G mX7_mostAlike 5 0 0 [.int a, .int b] SH I R L Q := by
  refine go_start rfl (Nat.le_of_ble_eq_true rfl) rfl ?_
  refine go_iconst (v := 0) dX7_mostAlike_0 (by decide) ?_
  refine go_istore_n dX7_mostAlike_1 (Nat.le_of_ble_eq_true rfl) rfl ?_
  refine go_iconst (v := -1) dX7_mostAlike_2 (by decide) ?_
  refine go_istore_n dX7_mostAlike_3 (Nat.le_of_ble_eq_true rfl) rfl ?_
  exact h
theorem b_X7_mostAlike_4 {G : gG} {I : gI} {R : gR} {L : gL} {Q : gQ} {v0 v1 v2 v3 : Int32} (hR : g_Fx R) (h : (2 ≤ v3 → Q (some (.int v2)) SH I R L) ∧ (¬ 2 ≤ v3 → Go G mX7_mostAlike 5 0 0 15 [some (.int v0), some (.int v1), some (.int v2), some (.int v3), some (.int 0), some (.int 0)] [] SH I R L Q)) : Go G mX7_mostAlike 5 0 0 4 [some (.int v0), some (.int v1), some (.int v2), some (.int v3), none, none] [] SH I R L Q := by
  refine go_iload_n dX7_mostAlike_4 rfl ?_
  refine go_iconst (v := 2) dX7_mostAlike_5 (by decide) ?_
  refine go_icmp_ge 77 dX7_mostAlike_6 (by decide) (fun c => ?_) (fun c => ?_)
  · have h := h.1 c
    refine go_iload_n dX7_mostAlike_77 rfl ?_
    exact go_iret dX7_mostAlike_78 rfl rfl h
  · have h := h.2 c
    refine go_iconst (v := 0) dX7_mostAlike_9 (by decide) ?_
    refine go_istore dX7_mostAlike_10 (Nat.le_of_ble_eq_true rfl) rfl ?_
    refine go_iconst (v := 0) dX7_mostAlike_12 (by decide) ?_
    refine go_istore dX7_mostAlike_13 (Nat.le_of_ble_eq_true rfl) rfl ?_
    exact h
theorem b_X7_mostAlike_15 {G : gG} {I : gI} {R : gR} {L : gL} {Q : gQ} {v0 v1 v2 v3 v4 v5 : Int32} (hR : g_Fx R) (h : (10 ≤ v5 → (v4 ≤ v2 → ∀ v3_2 : Int32, v3_2 = v3 + 1 → Go G mX7_mostAlike 5 0 0 4 [some (.int v0), some (.int v1), some (.int v2), some (.int v3_2), none, none] [] SH I R L Q) ∧ (¬ v4 ≤ v2 → ∀ v3_3 : Int32, v3_3 = v3 + 1 → Go G mX7_mostAlike 5 0 0 4 [some (.int v0), some (.int v1), some (.int v4), some (.int v3_3), none, none] [] SH I R L Q)) ∧ (¬ 10 ≤ v5 → (¬ ((v0 >>> (v5 &&& 31)) &&& 1) = 1 → ∀ v4_5 : Int32, v4_5 = (v4 + 0) → ∀ v5_6 : Int32, v5_6 = v5 + 1 → Go G mX7_mostAlike 5 0 0 15 [some (.int v0), some (.int v1), some (.int v2), some (.int v3), some (.int v4_5), some (.int v5_6)] [] SH I R L Q) ∧ (((v0 >>> (v5 &&& 31)) &&& 1) = 1 → (¬ hng (v1 + v5) = v3 → ∀ v4_7 : Int32, v4_7 = (v4 + 0) → ∀ v5_8 : Int32, v5_8 = v5 + 1 → Go G mX7_mostAlike 5 0 0 15 [some (.int v0), some (.int v1), some (.int v2), some (.int v3), some (.int v4_7), some (.int v5_8)] [] SH I R L Q) ∧ (hng (v1 + v5) = v3 → ∀ v4_9 : Int32, v4_9 = (v4 + 1) → ∀ v5_10 : Int32, v5_10 = v5 + 1 → Go G mX7_mostAlike 5 0 0 15 [some (.int v0), some (.int v1), some (.int v2), some (.int v3), some (.int v4_9), some (.int v5_10)] [] SH I R L Q)))) : Go G mX7_mostAlike 5 0 0 15 [some (.int v0), some (.int v1), some (.int v2), some (.int v3), some (.int v4), some (.int v5)] [] SH I R L Q := by
  refine go_iload dX7_mostAlike_15 rfl ?_
  refine go_bipush (v := 10) dX7_mostAlike_17 (by decide) ?_
  refine go_icmp_ge 58 dX7_mostAlike_19 (by decide) (fun c => ?_) (fun c => ?_)
  · have h := h.1 c
    refine go_iload dX7_mostAlike_58 rfl ?_
    refine go_iload_n dX7_mostAlike_60 rfl ?_
    refine go_icmp_le 69 dX7_mostAlike_61 (by decide) (fun c => ?_) (fun c => ?_)
    · have h := h.1 c
      refine go_iload_n dX7_mostAlike_69 rfl ?_
      refine go_istore_n dX7_mostAlike_70 (Nat.le_of_ble_eq_true rfl) rfl ?_
      refine go_iinc dX7_mostAlike_71 rfl (Nat.le_of_ble_eq_true rfl) rfl ?_
      have h := h _ rfl
      refine go_goto 4 dX7_mostAlike_74 (by decide) ?_
      refine go_drop 4 ?_
      refine go_drop 5 ?_
      exact h
    · have h := h.2 c
      refine go_iload dX7_mostAlike_64 rfl ?_
      refine go_goto 70 dX7_mostAlike_66 (by decide) ?_
      refine go_istore_n dX7_mostAlike_70 (Nat.le_of_ble_eq_true rfl) rfl ?_
      refine go_iinc dX7_mostAlike_71 rfl (Nat.le_of_ble_eq_true rfl) rfl ?_
      have h := h _ rfl
      refine go_goto 4 dX7_mostAlike_74 (by decide) ?_
      refine go_drop 4 ?_
      refine go_drop 5 ?_
      exact h
  · have h := h.2 c
    refine go_iload dX7_mostAlike_22 rfl ?_
    refine go_iload_n dX7_mostAlike_24 rfl ?_
    refine go_iload dX7_mostAlike_25 rfl ?_
    refine go_ishr dX7_mostAlike_27 ?_
    refine go_iconst (v := 1) dX7_mostAlike_28 (by decide) ?_
    refine go_iand dX7_mostAlike_29 ?_
    refine go_iconst (v := 1) dX7_mostAlike_30 (by decide) ?_
    refine go_icmp_ne 48 dX7_mostAlike_31 (by decide) (fun c => ?_) (fun c => ?_)
    · have h := h.1 c
      refine go_iconst (v := 0) dX7_mostAlike_48 (by decide) ?_
      refine go_iadd dX7_mostAlike_49 ?_
      refine go_istore dX7_mostAlike_50 (Nat.le_of_ble_eq_true rfl) rfl ?_
      have h := h _ rfl
      refine go_iinc dX7_mostAlike_52 rfl (Nat.le_of_ble_eq_true rfl) rfl ?_
      have h := h _ rfl
      refine go_goto 15 dX7_mostAlike_55 (by decide) ?_
      exact h
    · have h := h.2 c
      refine go_iload_n dX7_mostAlike_34 rfl ?_
      refine go_iload dX7_mostAlike_35 rfl ?_
      refine go_callS0 (μ := mX7_mostAlike) [.int _, .int _] dX7_mostAlike_37 YX7_hangs lX7_388 rfl (Nat.le_of_ble_eq_true rfl) (Nat.le_of_ble_eq_true rfl) rfl (k_X7_hng hR ?_)
      refine go_iload_n dX7_mostAlike_40 rfl ?_
      refine go_icmp_ne 48 dX7_mostAlike_41 (by decide) (fun c => ?_) (fun c => ?_)
      · have h := h.1 c
        refine go_iconst (v := 0) dX7_mostAlike_48 (by decide) ?_
        refine go_iadd dX7_mostAlike_49 ?_
        refine go_istore dX7_mostAlike_50 (Nat.le_of_ble_eq_true rfl) rfl ?_
        have h := h _ rfl
        refine go_iinc dX7_mostAlike_52 rfl (Nat.le_of_ble_eq_true rfl) rfl ?_
        have h := h _ rfl
        refine go_goto 15 dX7_mostAlike_55 (by decide) ?_
        exact h
      · have h := h.2 c
        refine go_iconst (v := 1) dX7_mostAlike_44 (by decide) ?_
        refine go_goto 49 dX7_mostAlike_45 (by decide) ?_
        refine go_iadd dX7_mostAlike_49 ?_
        refine go_istore dX7_mostAlike_50 (Nat.le_of_ble_eq_true rfl) rfl ?_
        have h := h _ rfl
        refine go_iinc dX7_mostAlike_52 rfl (Nat.le_of_ble_eq_true rfl) rfl ?_
        have h := h _ rfl
        refine go_goto 15 dX7_mostAlike_55 (by decide) ?_
        exact h
/-! pennies -/
def gdB (f : Nat → Int32) : Nat → Nat → Bool
  | 0, _ => true
  | k + 1, i => gdB f k i && decide (hng (f (40 + 2 * k) + nI i) = f (40 + 2 * k + 1))
theorem tb_iff {m p : Nat} (hm : m < 2 ^ 31) (hp : p < 32) : (nI m >>> (nI p &&& 31)) &&& 1 = 1 ↔ m.testBit p = true := by
  rw [nI_tb hm hp, show (1 : Int32) = nI 1 from rfl, nI_eq (by omega) (by decide), Nat.testBit_eq_decide_div_mod_eq, decide_eq_true_iff]
theorem clr_c : ∀ p, p < 10 → (1 <<< (nI p &&& 31) ^^^ (-1) : Int32) = nI (4294967295 - 2 ^ p) := by decide +kernel
theorem clr_b : ∀ p, p < 10 → ∀ i, i < 10 → (4294967295 - 2 ^ p).testBit i = !(decide (i = p)) := by decide +kernel
theorem msk_b {l h : Int32} : ∀ q, q ≤ 10 → ∀ {b : Int32} {m : Nat}, b = nI m → m < 1024 → ∃ m', m' < 1024 ∧ msk l h b q = nI m' ∧ ∀ i, i < 10 → m'.testBit i = (m.testBit i && (decide (q ≤ i) || decide (hng (l + nI i) = h)))
  | 0, _, b, m, e, hm => ⟨m, hm, e, fun i _ => by simp⟩
  | q + 1, hq, b, m, e, hm => by
    obtain ⟨m', h1, h2, h3⟩ := msk_b (l := l) (h := h) q (by omega) e hm
    simp only [msk]
    by_cases c : hng (l + nI q) = h
    · rw [if_pos c]
      refine ⟨m', h1, h2, fun i hi => ?_⟩
      rw [h3 i hi]
      by_cases hiq : i = q
      · subst hiq; simp [c]
      · congr 1
        rw [show decide (q ≤ i) = decide (q + 1 ≤ i) from by apply decide_eq_decide.mpr; omega]
    · rw [if_neg c, h2, clr_c q (by omega), nx_and]
      refine ⟨_, Nat.lt_of_le_of_lt Nat.and_le_left h1, rfl, fun i hi => ?_⟩
      rw [Nat.testBit_and, clr_b q (by omega) i hi, h3 i hi]
      by_cases hiq : i = q
      · subst hiq; simp [c]
      · rw [show decide (q + 1 ≤ i) = decide (q ≤ i) from by apply decide_eq_decide.mpr; omega]
        simp [hiq]
theorem fit_b {f : Nat → Int32} : ∀ n, ∃ m, m < 1024 ∧ fitF f n = nI m ∧ ∀ i, i < 10 → m.testBit i = gdB f n i
  | 0 => ⟨1023, by decide, rfl, (by decide : ∀ i, i < 10 → Nat.testBit 1023 i = true)⟩
  | n + 1 => by
    obtain ⟨m, h1, h2, h3⟩ := fit_b (f := f) n
    obtain ⟨m', k1, k2, k3⟩ := msk_b (l := f (40 + 2 * n)) (h := f (40 + 2 * n + 1)) 10 (by omega) h2 h1
    refine ⟨m', k1, k2, fun i hi => ?_⟩
    rw [k3 i hi, h3 i hi, show decide (10 ≤ i) = false from decide_eq_false (by omega)]
    simp [gdB]
def fac (f : Nat → Int32) (n : Nat) : Nat → Nat
  | 0 => 0
  | p + 1 => fac f n p ||| (if gdB f n p = true then 2 ^ p else 0)
theorem fac_b (f : Nat → Int32) (n i : Nat) : ∀ p, (fac f n p).testBit i = (decide (i < p) && gdB f n i)
  | 0 => by simp [fac]
  | p + 1 => by
    simp only [fac]
    rw [Nat.testBit_or, fac_b f n i p]
    by_cases hip : i = p
    · subst hip
      by_cases c : gdB f n i = true <;> simp [c]
    · rw [show decide (i < p + 1) = decide (i < p) from by apply decide_eq_decide.mpr; omega]
      split
      · rw [Nat.testBit_two_pow]; simp [Ne.symm hip]
      · simp
theorem fac_fit {f : Nat → Int32} {n m : Nat} (hm : m < 1024) (h : ∀ i, i < 10 → m.testBit i = gdB f n i) : fac f n 10 = m := by
  apply Nat.eq_of_testBit_eq
  intro i
  rw [fac_b]
  by_cases hi : i < 10
  · rw [h i hi]; simp [hi]
  · rw [Nat.testBit_lt_two_pow (Nat.lt_of_lt_of_le hm (show 1024 ≤ 2 ^ i from Nat.pow_le_pow_right (n := 2) (by decide) (show 10 ≤ i by omega)))]; simp [hi]
theorem k_X7_fits {G : gG} {I : gI} {R : gR} {L : gL} {Q : gQ} (hR : g_Fx R) (p0 : 0 ≤ (I 311 4).toInt ∧ (I 311 4).toInt ≤ 12) (hq : Q (some (.int (fitF (I 311) (I 311 4).toNatClampNeg))) SH I R L) : Mt G mX7_fits 5 0 0 [.ref 310] SH I R L Q := by
  have c4 := ci p0.1
  have e4 : I 311 4 = nI (I 311 4).toNatClampNeg := nI_of_toInt p0.1
  generalize hN : (I 311 4).toNatClampNeg = N at *
  obtain ⟨m, h1, h2, h3⟩ := fit_b (f := I 311) N
  rw [h2] at hq
  have hb : ∀ b : Bool, (if b = true then (1 : Int32) else 0) = 0 ↔ ¬ b = true := fun b => by cases b <;> decide
  refine e_X7_fits hR ?_
  refine cnt (P := fun p => Go G mX7_fits 5 0 0 4 [some (.ref 310), some (.int (nI (fac (I 311) N p))), some (.int (nI p)), none, none] [] SH I R L Q) 10 (fun p hp ih => ?_) ?_
  · refine b_X7_fits_4 hR ⟨fun c => absurd c (nI_ge (b := 10) hp (by decide)), fun _ => ?_⟩
    refine cnt (P := fun k => Go G mX7_fits 5 0 0 15 [some (.ref 310), some (.int (nI (fac (I 311) N p))), some (.int (nI p)), some (.int (if gdB (I 311) k p = true then 1 else 0)), some (.int (nI k))] [] SH I R L Q) N (fun k hk ih2 => ?_) ?_
    · have y1 : 40 + 2 * nI k = nI (40 + 2 * k) := by rw [show (2 : Int32) = nI 2 from rfl, nI_mul]; exact nI_add 40 _
      refine b_X7_fits_15 hR ⟨fun c => absurd c (by rw [e4]; exact nI_ge hk (by omega)), fun _ => ?_⟩
      rw [hb, y1, show nI (40 + 2 * k) + 1 = nI (40 + 2 * k + 1) from nI_add _ 1, nI_clamp (by omega), nI_clamp (by omega)]
      simp only [gdB, Bool.and_eq_true, decide_eq_true_iff] at ih2
      refine ⟨fun c => ?_, fun c => ⟨vp_in_nI (by omega) (by decide), vp_in_nI (by omega) (by decide), fun c2 => ?_, fun c2 => ?_⟩⟩
      · rintro _ rfl
        rw [if_neg (fun q => c q.1)] at ih2
        rw [nI_1]; exact ih2
      · rintro _ rfl
        rw [if_neg (fun q => c2 q.2)] at ih2
        rw [nI_1]; exact ih2
      · rintro _ rfl
        rw [if_pos ⟨Classical.not_not.mp c, c2⟩] at ih2
        rw [nI_1]; exact ih2
    · refine b_X7_fits_15 hR ⟨fun _ => ?_, fun c => absurd (by rw [e4]; exact ti_le.mpr (Int.le_refl _)) c⟩
      rw [hb]
      simp only [fac] at ih
      refine ⟨fun c => ?_, fun c => ?_⟩
      · rintro _ rfl _ rfl
        rw [if_neg c, Nat.or_zero] at ih
        rw [nI_1, Int32.or_zero]; exact ih
      · rintro _ rfl _ rfl
        rw [if_pos (Classical.not_not.mp c)] at ih
        rw [nI_1, nI_shl1 p (by omega), nx_or]; exact ih
  · refine b_X7_fits_4 hR ⟨fun _ => ?_, fun c => absurd (by decide) c⟩
    rw [fac_fit h1 h3]; exact hq
theorem p_fits {G : gG} {I : gI} {R : gR} {L : gL} {Q : gQ} (h : Rel I R) (hq : ∀ v I1 R1 L1, promD 5 G mX7_fits [.ref 310] (some (.int v)) I1 R1 L1 → Q (some (.int v)) SH I1 R1 L1) : Mt G mX6_fits 30 0 0 [.ref 0] SH I R L Q := by
  have hF := h.1.1
  obtain ⟨co, sc, oh, ok⟩ := R_co h
  refine e_X6_fits hF (hq _ _ _ _ (fun Q2 h2 => k_X7_fits hF oh.2.2.2.2.1 ?_))
  rw [← co.2.2.2.2.2.2.2.1]
  exact h2 _ _ _ h
/-- how many of some hang so -/
def caN (m : Nat) (l h : Int32) : Nat → Nat
  | 0 => 0
  | p + 1 => if m.testBit p = true ∧ hng (l + nI p) = h then caN m l h p + 1 else caN m l h p
theorem caN_le (m : Nat) (l h : Int32) : ∀ p, caN m l h p ≤ p
  | 0 => Nat.le_refl 0
  | p + 1 => by have := caN_le m l h p; simp only [caN]; split <;> omega
def maF (m : Nat) (l : Int32) : Nat := max (max (caN m l (-1) 10) (caN m l 0 10)) (caN m l 1 10)
theorem nI_max {a b : Nat} (ha : a < 2 ^ 31) (hb : b < 2 ^ 31) : (if nI a < nI b then nI b else nI a : Int32) = nI (max a b) := by
  by_cases c : a < b
  · rw [if_pos (nI_lt c hb), Nat.max_eq_right (by omega)]
  · rw [if_neg (nI_nlt (by omega) ha), Nat.max_eq_left (by omega)]
theorem hng3 (w : Int32) : hng w = 1 ∨ hng w = -1 ∨ hng w = 0 := by unfold hng; grind
theorem k_X6_mostAlike {G : gG} {I : gI} {R : gR} {L : gL} {Q : gQ} {a : Int32} {m : Nat} (hR : g_Fx R) (hm : m < 1024) (he : I 3 11 = nI m) (hq : Q (some (.int (nI (maF m a)))) SH I R L) : Mt G mX6_mostAlike 5 0 0 [.ref 0, .int a] SH I R L Q := by
  refine e_X6_mostAlike hR ?_
  refine cnt (P := fun p => Go G mX6_mostAlike 5 0 0 10 [some (.ref 0), some (.int a), some (.int (nI (caN m a 1 p))), some (.int (nI (caN m a (-1) p))), some (.int (nI (caN m a 0 p))), some (.int (nI p)), none] [] SH I R L Q) 10 (fun p hp ih => ?_) ?_
  · refine b_X6_mostAlike_10 hR ⟨fun c => absurd c (nI_ge (b := 10) hp (by decide)), fun _ => ?_⟩
    rw [he, tb_iff (by omega) (by omega)]
    simp only [caN] at ih
    refine ⟨fun c => ?_, fun c => ?_⟩
    · rintro _ rfl
      rw [if_neg (fun q => c q.1), if_neg (fun q => c q.1), if_neg (fun q => c q.1)] at ih
      rw [nI_1]; exact ih
    · rintro _ rfl
      rcases hng3 (a + nI p) with e | e | e
      · rw [if_pos ⟨c, e⟩, if_neg (fun q => absurd (e.symm.trans q.2) (by decide)), if_neg (fun q => absurd (e.symm.trans q.2) (by decide))] at ih
        refine ⟨fun q => absurd e q, fun _ => b_X6_mostAlike_54 hR ?_⟩
        rintro _ rfl
        rw [e]
        refine ⟨fun _ => ?_, fun q => absurd q (by decide)⟩
        rintro _ rfl
        refine ⟨fun _ => ?_, fun q => absurd q (by decide)⟩
        rintro _ rfl _ rfl
        rw [nI_1, nI_1, Int32.add_zero, Int32.add_zero]; exact ih
      · rw [if_neg (fun q => absurd (e.symm.trans q.2) (by decide)), if_pos ⟨c, e⟩, if_neg (fun q => absurd (e.symm.trans q.2) (by decide))] at ih
        refine ⟨fun _ => b_X6_mostAlike_54 hR ?_, fun q => absurd (e.symm.trans q) (by decide)⟩
        rintro _ rfl
        rw [e]
        refine ⟨fun q => absurd rfl q, fun _ => ?_⟩
        rintro _ rfl
        refine ⟨fun _ => ?_, fun q => absurd q (by decide)⟩
        rintro _ rfl _ rfl
        rw [nI_1, nI_1, Int32.add_zero, Int32.add_zero]; exact ih
      · rw [if_neg (fun q => absurd (e.symm.trans q.2) (by decide)), if_neg (fun q => absurd (e.symm.trans q.2) (by decide)), if_pos ⟨c, e⟩] at ih
        refine ⟨fun _ => b_X6_mostAlike_54 hR ?_, fun q => absurd (e.symm.trans q) (by decide)⟩
        rintro _ rfl
        rw [e]
        refine ⟨fun _ => ?_, fun q => absurd q (by decide)⟩
        rintro _ rfl
        refine ⟨fun q => absurd rfl q, fun _ => ?_⟩
        rintro _ rfl _ rfl
        rw [nI_1, nI_1, Int32.add_zero, Int32.add_zero]; exact ih
  · refine b_X6_mostAlike_10 hR ⟨fun _ => ?_, fun c => absurd (by decide) c⟩
    have l1 := caN_le m a 1 10
    have l2 := caN_le m a (-1) 10
    have l3 := caN_le m a 0 10
    rw [nI_max (by omega) (by omega), nI_max (by omega) (by omega)]
    have : max (caN m a 0 10) (max (caN m a 1 10) (caN m a (-1) 10)) = maF m a := by unfold maF; omega
    rw [this]; exact hq
theorem k_X7_mostAlike {G : gG} {I : gI} {R : gR} {L : gL} {Q : gQ} {a b : Int32} {m : Nat} (hR : g_Fx R) (hm : m < 1024) (he : a = nI m) (hq : Q (some (.int (nI (maF m b)))) SH I R L) : Mt G mX7_mostAlike 5 0 0 [.int a, .int b] SH I R L Q := by
  have l1 := caN_le m b 1 10
  have l2 := caN_le m b (-1) 10
  have l3 := caN_le m b 0 10
  have l4 := caN_le m b (-1 + 1) 10
  have inner : ∀ (h : Int32) (x : Nat), x < 100 → Go G mX7_mostAlike 5 0 0 4 [some (.int a), some (.int b), some (.int (nI (max x (caN m b h 10)))), some (.int (h + 1)), none, none] [] SH I R L Q → Go G mX7_mostAlike 5 0 0 15 [some (.int a), some (.int b), some (.int (nI x)), some (.int h), some (.int 0), some (.int 0)] [] SH I R L Q := by
    intro h x hx k
    refine cnt (P := fun p => Go G mX7_mostAlike 5 0 0 15 [some (.int a), some (.int b), some (.int (nI x)), some (.int h), some (.int (nI (caN m b h p))), some (.int (nI p))] [] SH I R L Q) 10 (fun p hp ih => ?_) ?_
    · refine b_X7_mostAlike_15 hR ⟨fun c => absurd c (nI_ge (b := 10) hp (by decide)), fun _ => ?_⟩
      rw [he, tb_iff (by omega) (by omega)]
      rw [he] at ih
      simp only [caN] at ih
      refine ⟨fun c => ?_, fun c => ⟨fun c2 => ?_, fun c2 => ?_⟩⟩
      · rintro _ rfl _ rfl
        rw [if_neg (fun q => c q.1)] at ih
        rw [nI_1, Int32.add_zero]; exact ih
      · rintro _ rfl _ rfl
        rw [if_neg (fun q => c2 q.2)] at ih
        rw [nI_1, Int32.add_zero]; exact ih
      · rintro _ rfl _ rfl
        rw [if_pos ⟨c, c2⟩] at ih
        rw [nI_1, nI_1]; exact ih
    · have lh := caN_le m b h 10
      refine b_X7_mostAlike_15 hR ⟨fun _ => ⟨fun c => ?_, fun c => ?_⟩, fun c => absurd (by decide) c⟩
      · rintro _ rfl
        rw [nI_leI (by omega) (by omega)] at c
        rw [Nat.max_eq_left c] at k; exact k
      · rintro _ rfl
        rw [nI_leI (by omega) (by omega)] at c
        rw [Nat.max_eq_right (by omega)] at k; exact k
  refine e_X7_mostAlike hR (b_X7_mostAlike_4 hR ⟨fun c => absurd c (by decide), fun _ => inner (-1) 0 (by decide) ?_⟩)
  refine b_X7_mostAlike_4 hR ⟨fun c => absurd c (by decide), fun _ => inner (-1 + 1) _ (by omega) ?_⟩
  refine b_X7_mostAlike_4 hR ⟨fun c => absurd c (by decide), fun _ => inner (-1 + 1 + 1) _ (by omega) ?_⟩
  refine b_X7_mostAlike_4 hR ⟨fun _ => ?_, fun c => absurd (by decide) c⟩
  have : max (max (max 0 (caN m b (-1) 10)) (caN m b (-1 + 1) 10)) (caN m b (-1 + 1 + 1) 10) = maF m b := by
    show max (max (max 0 (caN m b (-1) 10)) (caN m b 0 10)) (caN m b 1 10) = _
    unfold maF; omega
  rw [this]; exact hq
