theorem e_X6_tested {G : gG} {I : gI} {R : gR} {L : gL} {Q : gQ} {a b : Int32} (hR : g_Fx R) (h : (a < (-20) → Q (some (.int (-1))) SH I R L) ∧ (¬ a < (-20) → (20 < a → Q (some (.int (-1))) SH I R L) ∧ (¬ 20 < a → (b < (-1) → Q (some (.int (-1))) SH I R L) ∧ (¬ b < (-1) → (1 < b → Q (some (.int (-1))) SH I R L) ∧ (¬ 1 < b → ((I 3 12) < 12 → Go G mX6_tested 30 0 0 38 [some (.ref 0), some (.int a), some (.int b), some (.int 0)] [] SH I R L Q) ∧ (¬ (I 3 12) < 12 → Q (some (.int (-1))) SH I R L)))))) : Mt G mX6_tested 30 0 0 [.ref 0, .int a, .int b] SH I R L Q := by
  refine go_start rfl (Nat.le_of_ble_eq_true rfl) rfl ?_
  refine go_iload_n dX6_tested_0 rfl ?_
  refine go_bipush (v := -20) dX6_tested_1 (by decide) ?_
  refine go_icmp_lt 34 dX6_tested_3 (by decide) (fun c => ?_) (fun c => ?_)
  · have h := h.1 c
    refine go_iconst (v := -1) dX6_tested_34 (by decide) ?_
    exact go_iret dX6_tested_35 rfl rfl h
  · have h := h.2 c
    refine go_iload_n dX6_tested_6 rfl ?_
    refine go_bipush (v := 20) dX6_tested_7 (by decide) ?_
    refine go_icmp_gt 34 dX6_tested_9 (by decide) (fun c => ?_) (fun c => ?_)
    · have h := h.1 c
      refine go_iconst (v := -1) dX6_tested_34 (by decide) ?_
      exact go_iret dX6_tested_35 rfl rfl h
    · have h := h.2 c
      refine go_iload_n dX6_tested_12 rfl ?_
      refine go_iconst (v := -1) dX6_tested_13 (by decide) ?_
      refine go_icmp_lt 34 dX6_tested_14 (by decide) (fun c => ?_) (fun c => ?_)
      · have h := h.1 c
        refine go_iconst (v := -1) dX6_tested_34 (by decide) ?_
        exact go_iret dX6_tested_35 rfl rfl h
      · have h := h.2 c
        refine go_iload_n dX6_tested_17 rfl ?_
        refine go_iconst (v := 1) dX6_tested_18 (by decide) ?_
        refine go_icmp_gt 34 dX6_tested_19 (by decide) (fun c => ?_) (fun c => ?_)
        · have h := h.1 c
          refine go_iconst (v := -1) dX6_tested_34 (by decide) ?_
          exact go_iret dX6_tested_35 rfl rfl h
        · have h := h.2 c
          refine go_aload_n dX6_tested_22 rfl ?_
          refine go_getR dX6_tested_23 fX6_27 rfl rfl (hR 0 2 3 rfl) ?_
          refine go_getI dX6_tested_26 fX6_224 rfl rfl ?_
          refine go_bipush (v := 12) dX6_tested_29 (by decide) ?_
          refine go_icmp_lt 36 dX6_tested_31 (by decide) (fun c => ?_) (fun c => ?_)
          · have h := h.1 c
            refine go_iconst (v := 0) dX6_tested_36 (by decide) ?_
            refine go_istore_n dX6_tested_37 (Nat.le_of_ble_eq_true rfl) rfl ?_
            exact h
          · have h := h.2 c
            refine go_iconst (v := -1) dX6_tested_34 (by decide) ?_
            exact go_iret dX6_tested_35 rfl rfl h
theorem b_X6_tested_38 {G : gG} {I : gI} {R : gR} {L : gL} {Q : gQ} {v1 v2 v3 : Int32} (hR : g_Fx R) (h : (10 ≤ v3 → ∀ I_6 : gI, I_6 = up I 3 12 ((I 3 12) + 1) → Q (some (.int (I_6 3 12))) SH I_6 R L) ∧ (¬ 10 ≤ v3 → (hng (v1 + v3) = v2 → ∀ v3_7 : Int32, v3_7 = v3 + 1 → Go G mX6_tested 30 0 0 38 [some (.ref 0), some (.int v1), some (.int v2), some (.int v3_7)] [] SH I R L Q) ∧ (¬ hng (v1 + v3) = v2 → ∀ I_8 : gI, I_8 = up I 3 11 ((I 3 11) &&& ((1 <<< (v3 &&& 31)) ^^^ (-1))) → ∀ v3_9 : Int32, v3_9 = v3 + 1 → Go G mX6_tested 30 0 0 38 [some (.ref 0), some (.int v1), some (.int v2), some (.int v3_9)] [] SH I_8 R L Q))) : Go G mX6_tested 30 0 0 38 [some (.ref 0), some (.int v1), some (.int v2), some (.int v3)] [] SH I R L Q := by
  refine go_iload_n dX6_tested_38 rfl ?_
  refine go_bipush (v := 10) dX6_tested_39 (by decide) ?_
  refine go_icmp_ge 77 dX6_tested_41 (by decide) (fun c => ?_) (fun c => ?_)
  · have h := h.1 c
    refine go_aload_n dX6_tested_77 rfl ?_
    refine go_getR dX6_tested_78 fX6_27 rfl rfl (hR 0 2 3 rfl) ?_
    refine go_dup dX6_tested_81 rfl ?_
    refine go_getI dX6_tested_82 fX6_224 rfl rfl ?_
    refine go_iconst (v := 1) dX6_tested_85 (by decide) ?_
    refine go_iadd dX6_tested_86 ?_
    refine go_putI dX6_tested_87 fX6_224 rfl rfl rfl rfl ?_
    have h := h _ rfl
    refine go_aload_n dX6_tested_90 rfl ?_
    refine go_getR dX6_tested_91 fX6_27 rfl rfl (hR 0 2 3 rfl) ?_
    refine go_getI dX6_tested_94 fX6_224 rfl rfl ?_
    exact go_iret dX6_tested_97 rfl rfl h
  · have h := h.2 c
    refine go_iload_n dX6_tested_44 rfl ?_
    refine go_iload_n dX6_tested_45 rfl ?_
    refine go_iadd dX6_tested_46 ?_
    refine go_callS0 (μ := mX6_tested) [.int _] dX6_tested_47 YX6_hang lX6_227 rfl (Nat.le_of_ble_eq_true rfl) (Nat.le_of_ble_eq_true rfl) rfl (k_X6_hng hR ?_)
    refine go_iload_n dX6_tested_50 rfl ?_
    refine go_icmp_eq 71 dX6_tested_51 (by decide) (fun c => ?_) (fun c => ?_)
    · have h := h.1 c
      refine go_iinc dX6_tested_71 rfl (Nat.le_of_ble_eq_true rfl) rfl ?_
      have h := h _ rfl
      refine go_goto 38 dX6_tested_74 (by decide) ?_
      exact h
    · have h := h.2 c
      refine go_aload_n dX6_tested_54 rfl ?_
      refine go_getR dX6_tested_55 fX6_27 rfl rfl (hR 0 2 3 rfl) ?_
      refine go_dup dX6_tested_58 rfl ?_
      refine go_getI dX6_tested_59 fX6_230 rfl rfl ?_
      refine go_iconst (v := 1) dX6_tested_62 (by decide) ?_
      refine go_iload_n dX6_tested_63 rfl ?_
      refine go_ishl dX6_tested_64 ?_
      refine go_iconst (v := -1) dX6_tested_65 (by decide) ?_
      refine go_ixor dX6_tested_66 ?_
      refine go_iand dX6_tested_67 ?_
      refine go_putI dX6_tested_68 fX6_230 rfl rfl rfl rfl ?_
      have h := h _ rfl
      refine go_iinc dX6_tested_71 rfl (Nat.le_of_ble_eq_true rfl) rfl ?_
      have h := h _ rfl
      refine go_goto 38 dX6_tested_74 (by decide) ?_
      exact h
theorem e_X7_tested {G : gG} {I : gI} {R : gR} {L : gL} {Q : gQ} {a b : Int32} (hR : g_Fx R) (h : (¬ ((-20 : Int32) ≤ a ∧ a ≤ (20 : Int32)) → Q (some (.int (-1))) SH I R L) ∧ ((-20 : Int32) ≤ a ∧ a ≤ (20 : Int32) → (¬ ((-1 : Int32) ≤ b ∧ b ≤ (1 : Int32)) → Q (some (.int (-1))) SH I R L) ∧ ((-1 : Int32) ≤ b ∧ b ≤ (1 : Int32) → (¬ (I 311 4) = 12 → vp_in (40 + (2 * (I 311 4))) 11120 ∧ (∀ I_1 : gI, I_1 = up I 311 (40 + (2 * (I 311 4))).toNatClampNeg a → vp_in ((40 + (2 * (I_1 311 4))) + 1) 11120 ∧ (∀ I_2 : gI, I_2 = up I_1 311 ((40 + (2 * (I_1 311 4))) + 1).toNatClampNeg b → ∀ I_3 : gI, I_3 = up I_2 311 4 ((I_2 311 4) + 1) → Q (some (.int (I_3 311 4))) SH I_3 R L))) ∧ ((I 311 4) = 12 → Q (some (.int (-1))) SH I R L)))) : Mt G mX7_tested 30 0 0 [.ref 310, .int a, .int b] SH I R L Q := by
  refine go_start rfl (Nat.le_of_ble_eq_true rfl) rfl ?_
  refine go_iload_n dX7_tested_0 rfl ?_
  refine go_bipush (v := -20) dX7_tested_1 (by decide) ?_
  refine go_bipush (v := 20) dX7_tested_3 (by decide) ?_
  refine go_callS0 (μ := mX7_tested) [.int _, .int _, .int _] dX7_tested_5 YX7_in lX7_110 rfl (Nat.le_of_ble_eq_true rfl) (Nat.le_of_ble_eq_true rfl) rfl (k_X7_in hR ?_)
  refine go_if_eq 31 dX7_tested_8 (by decide) (fun c => ?_) (fun c => ?_)
  · have h := h.1 (b0.mp c)
    refine go_iconst (v := -1) dX7_tested_31 (by decide) ?_
    exact go_iret dX7_tested_32 rfl rfl h
  · have h := h.2 (b1.mp c)
    refine go_iload_n dX7_tested_11 rfl ?_
    refine go_iconst (v := -1) dX7_tested_12 (by decide) ?_
    refine go_iconst (v := 1) dX7_tested_13 (by decide) ?_
    refine go_callS0 (μ := mX7_tested) [.int _, .int _, .int _] dX7_tested_14 YX7_in lX7_110 rfl (Nat.le_of_ble_eq_true rfl) (Nat.le_of_ble_eq_true rfl) rfl (k_X7_in hR ?_)
    refine go_if_eq 31 dX7_tested_17 (by decide) (fun c => ?_) (fun c => ?_)
    · have h := h.1 (b0.mp c)
      refine go_iconst (v := -1) dX7_tested_31 (by decide) ?_
      exact go_iret dX7_tested_32 rfl rfl h
    · have h := h.2 (b1.mp c)
      refine go_aload_n dX7_tested_20 rfl ?_
      refine go_getR dX7_tested_21 fX7_7 rfl rfl (hR 310 0 311 rfl) ?_
      refine go_iconst (v := 4) dX7_tested_24 (by decide) ?_
      refine go_ialdK dX7_tested_25 rfl (vp_in_nI (n := 4) (by decide) (by decide)) (k := 4) (by decide) ?_
      refine go_bipush (v := 12) dX7_tested_26 (by decide) ?_
      refine go_icmp_ne 33 dX7_tested_28 (by decide) (fun c => ?_) (fun c => ?_)
      · have h := h.1 c
        refine go_aload_n dX7_tested_33 rfl ?_
        refine go_getR dX7_tested_34 fX7_7 rfl rfl (hR 310 0 311 rfl) ?_
        refine go_bipush (v := 40) dX7_tested_37 (by decide) ?_
        refine go_iconst (v := 2) dX7_tested_39 (by decide) ?_
        refine go_aload_n dX7_tested_40 rfl ?_
        refine go_getR dX7_tested_41 fX7_7 rfl rfl (hR 310 0 311 rfl) ?_
        refine go_iconst (v := 4) dX7_tested_44 (by decide) ?_
        refine go_ialdK dX7_tested_45 rfl (vp_in_nI (n := 4) (by decide) (by decide)) (k := 4) (by decide) ?_
        refine go_imul dX7_tested_46 ?_
        refine go_iadd dX7_tested_47 ?_
        refine go_iload_n dX7_tested_48 rfl ?_
        obtain ⟨hi, h⟩ := h
        refine go_iast dX7_tested_49 rfl hi ?_
        have h := h _ rfl
        refine go_aload_n dX7_tested_50 rfl ?_
        refine go_getR dX7_tested_51 fX7_7 rfl rfl (hR 310 0 311 rfl) ?_
        refine go_bipush (v := 40) dX7_tested_54 (by decide) ?_
        refine go_iconst (v := 2) dX7_tested_56 (by decide) ?_
        refine go_aload_n dX7_tested_57 rfl ?_
        refine go_getR dX7_tested_58 fX7_7 rfl rfl (hR 310 0 311 rfl) ?_
        refine go_iconst (v := 4) dX7_tested_61 (by decide) ?_
        refine go_ialdK dX7_tested_62 rfl (vp_in_nI (n := 4) (by decide) (by decide)) (k := 4) (by decide) ?_
        refine go_imul dX7_tested_63 ?_
        refine go_iadd dX7_tested_64 ?_
        refine go_iconst (v := 1) dX7_tested_65 (by decide) ?_
        refine go_iadd dX7_tested_66 ?_
        refine go_iload_n dX7_tested_67 rfl ?_
        obtain ⟨hi, h⟩ := h
        refine go_iast dX7_tested_68 rfl hi ?_
        have h := h _ rfl
        refine go_aload_n dX7_tested_69 rfl ?_
        refine go_getR dX7_tested_70 fX7_7 rfl rfl (hR 310 0 311 rfl) ?_
        refine go_iconst (v := 4) dX7_tested_73 (by decide) ?_
        refine go_dup2 dX7_tested_74 rfl rfl ?_
        refine go_ialdK dX7_tested_75 rfl (vp_in_nI (n := 4) (by decide) (by decide)) (k := 4) (by decide) ?_
        refine go_iconst (v := 1) dX7_tested_76 (by decide) ?_
        refine go_iadd dX7_tested_77 ?_
        refine go_iastK dX7_tested_78 rfl (vp_in_nI (n := 4) (by decide) (by decide)) (k := 4) (by decide) ?_
        have h := h _ rfl
        refine go_aload_n dX7_tested_79 rfl ?_
        refine go_getR dX7_tested_80 fX7_7 rfl rfl (hR 310 0 311 rfl) ?_
        refine go_iconst (v := 4) dX7_tested_83 (by decide) ?_
        refine go_ialdK dX7_tested_84 rfl (vp_in_nI (n := 4) (by decide) (by decide)) (k := 4) (by decide) ?_
        exact go_iret dX7_tested_85 rfl rfl h
      · have h := h.2 c
        refine go_iconst (v := -1) dX7_tested_31 (by decide) ?_
        exact go_iret dX7_tested_32 rfl rfl h
theorem p_tested {G : gG} {I : gI} {R : gR} {L : gL} {Q : gQ} {a b : Int32} (h : Rel I R) (hq : ∀ v I1 R1 L1, prom G mX7_tested [.ref 310, .int a, .int b] (some (.int v)) I1 R1 L1 → Q (some (.int v)) SH I1 R1 L1) : Mt G mX6_tested 30 0 0 [.ref 0, .int a, .int b] SH I R L Q := by
  have hF := h.1.1
  obtain ⟨⟨c0, c1, c2, c3, c4, c5, c6, c7, c8⟩, -, oh, -⟩ := R_co h
  have bad : (∀ Q2 : gQ, Q2 (some (.int (-1))) SH I R L → Mt G mX7_tested 30 0 0 [.ref 310, .int a, .int b] SH I R L Q2) → Q (some (.int (-1))) SH I R L := fun hv => hq _ I R L (fun Q2 h2 => hv Q2 (h2 I R L h))
  have o4 : 0 ≤ I 311 4 ∧ I 311 4 ≤ 12 := ⟨ti_le.mpr oh.2.2.2.2.1.1, ti_le.mpr oh.2.2.2.2.1.2⟩
  have d4 := ci oh.2.2.2.2.1.1
  have d5 := ci oh.2.2.2.2.2.1.1
  have e4 := oh.2.2.2.2.1.2
  have e5 := oh.2.2.2.2.2.1.2
  have hn : I 311 4 = nI (I 311 4).toNatClampNeg := nI_of_toInt oh.2.2.2.2.1.1
  refine e_X6_tested hF ?_
  rw [c4]
  refine ⟨fun d1 => bad (fun Q2 h2 => e_X7_tested hF (by grind)), fun d1 => ⟨fun d2 => bad (fun Q2 h2 => e_X7_tested hF (by grind)), fun d2 => ⟨fun d3 => bad (fun Q2 h2 => e_X7_tested hF (by grind)), fun d3 => ⟨fun d4 => bad (fun Q2 h2 => e_X7_tested hF (by grind)), fun d4 => ⟨fun d5 => ?_, fun d5 => bad (fun Q2 h2 => e_X7_tested hF (by grind))⟩⟩⟩⟩⟩
  generalize hnn : (I 311 4).toNatClampNeg = n at *
  have hn12 : n < 12 := by have := ti_lt.mp d5; have z : (12 : Int32).toInt = 12 := rfl; omega
  have hl := cnt (P := fun i => Go G mX6_tested 30 0 0 38 [some (.ref 0), some (.int a), some (.int b), some (.int (nI i))] [] SH (up I 3 11 (msk a b (I 3 11) i)) R L Q) 10 (fun i hi hP => ?_) ?_
  · have e0 : up I 3 11 (msk a b (I 3 11) 0) = I := by
      funext x j
      by_cases hx : x = 3 ∧ j = 11
      · obtain ⟨rfl, rfl⟩ := hx; rw [up_eq]; rfl
      · rw [up_ne hx]
    rw [e0] at hl
    exact hl
  · refine b_X6_tested_38 hF ⟨fun c => absurd c (nI_ge (b := 10) hi (by decide)), fun _ => ⟨fun c => ?_, fun c => ?_⟩⟩
    · rintro _ rfl
      rw [nI_1]
      simp only [msk, c, if_true] at hP
      exact hP
    · rintro _ rfl _ rfl
      rw [nI_1]
      simp only [msk, c, if_false] at hP
      have eu : up (up I 3 11 (msk a b (I 3 11) i)) 3 11 (up I 3 11 (msk a b (I 3 11) i) 3 11 &&& ((1 <<< (nI i &&& 31)) ^^^ (-1))) = up I 3 11 (msk a b (I 3 11) i &&& ((1 <<< (nI i &&& 31)) ^^^ (-1))) := by
        rw [up_eq]
        funext x j
        by_cases hx : x = 3 ∧ j = 11
        · obtain ⟨rfl, rfl⟩ := hx; rw [up_eq, up_eq]
        · rw [up_ne hx, up_ne hx, up_ne hx]
      rw [eu]
      exact hP
  refine b_X6_tested_38 hF ⟨fun _ => ?_, fun c => absurd (show (10 : Int32) ≤ nI 10 by decide) c⟩
  rintro _ rfl
  rw [up_eq, up_ni (show (12 : Nat) ≠ 11 by decide), c4, hn]
  refine hq _ _ R L (fun Q2 h2 => e_X7_tested hF ?_)
  generalize hJ : up (up I 3 11 (msk a b (I 3 11) 10)) 3 12 (nI n + 1) = J
  have x4 : ∀ (J : gI) k (v : Int32), k ≠ 4 → J 311 4 = nI n → up J 311 k v 311 4 = nI n := fun J k v hk hJ => by rw [up_ni (by omega), hJ]
  have j4 : J 311 4 = nI n := by rw [← hJ, up_nc (by decide), up_nc (by decide), hn]
  have j311 : J 311 = I 311 := by rw [← hJ, up_off _ (by decide), up_off _ (by decide)]
  have i1 : (40 : Int32) + 2 * nI n = nI (40 + 2 * n) := by rw [show (2 : Int32) * nI n = nI (2 * n) from pk_mul 2 n]; exact nI_add 40 _
  have hR : Rel (up (up (up J 311 (40 + 2 * n) a) 311 (40 + 2 * n + 1) b) 311 4 (nI n + 1)) R := by
    have fe : ∀ k, up (up (up J 311 (40 + 2 * n) a) 311 (40 + 2 * n + 1) b) 311 4 (nI n + 1) 311 k = if k = 4 then nI (n + 1) else if k = 40 + 2 * n + 1 then b else if k = 40 + 2 * n then a else I 311 k := fun k => by
      by_cases k5 : k = 4
      · rw [if_pos k5, k5, up_eq, nI_1]
      rw [if_neg k5, up_ni k5]
      by_cases k6 : k = 40 + 2 * n + 1
      · rw [if_pos k6, k6, up_eq]
      rw [if_neg k6, up_ni k6]
      by_cases k7 : k = 40 + 2 * n
      · rw [if_pos k7, k7, up_eq]
      rw [if_neg k7, up_ni k7, j311]
    have n1 : (nI (n + 1)).toNatClampNeg = n + 1 := nI_clamp (by omega)
    have fr : ∀ k, k ≠ 4 → (k < 40 ∨ 64 ≤ k) → up (up (up J 311 (40 + 2 * n) a) 311 (40 + 2 * n + 1) b) 311 4 (nI n + 1) 311 k = I 311 k := fun k hk hk2 => by rw [fe, if_neg hk, if_neg (by omega), if_neg (by omega)]
    have hx : ∀ x, x ≠ 3 → x ≠ 311 → up (up (up J 311 (40 + 2 * n) a) 311 (40 + 2 * n + 1) b) 311 4 (nI n + 1) x = I x := fun x x0 x2 => by rw [up_off _ x2, up_off _ x2, up_off _ x2, ← hJ, up_off _ x0, up_off _ x0]
    have f3 : ∀ j, j ≠ 11 → j ≠ 12 → up (up (up J 311 (40 + 2 * n) a) 311 (40 + 2 * n + 1) b) 311 4 (nI n + 1) 3 j = I 3 j := fun j h1 h2 => by rw [up_nc (by decide), up_nc (by decide), up_nc (by decide), ← hJ, up_ni h2, up_ni h1]
    have f12 : up (up (up J 311 (40 + 2 * n) a) 311 (40 + 2 * n + 1) b) 311 4 (nI n + 1) 3 12 = nI (n + 1) := by rw [up_nc (by decide), up_nc (by decide), up_nc (by decide), ← hJ, up_eq, nI_1]
    have f11 : up (up (up J 311 (40 + 2 * n) a) 311 (40 + 2 * n + 1) b) 311 4 (nI n + 1) 3 11 = msk a b (I 3 11) 10 := by rw [up_nc (by decide), up_nc (by decide), up_nc (by decide), ← hJ, up_ni (by decide), up_eq]
    have fm : ∀ m, m ≤ 40 → ∀ k, k < 2 * n → up (up (up J 311 (40 + 2 * n) a) 311 (40 + 2 * n + 1) b) 311 4 (nI n + 1) 311 (40 + k) = I 311 (40 + k) := fun m hm k hk => by rw [fe, if_neg (by omega), if_neg (by omega), if_neg (by omega)]
    have ea1 := fe (40 + 2 * n)
    rw [if_neg (by omega), if_neg (by omega), if_pos rfl] at ea1
    have ea2 := fe (40 + 2 * n + 1)
    rw [if_neg (by omega), if_pos rfl] at ea2
    have ea4 := fe 4
    rw [if_pos rfl] at ea4
    generalize up (up (up J 311 (40 + 2 * n) a) 311 (40 + 2 * n + 1) b) 311 4 (nI n + 1) = I2 at *
    obtain ⟨⟨h1, ⟨π, g2, g3⟩, h4, h5, h6⟩, hs⟩ := id h
    refine ⟨Rel0_up (ρ := π) h.1 (kp_of (fun x x0 x1 x2 x3 x4 x5 x6 x7 x8 => hx x (by omega) x7) (by rw [hx _ (by decide) (by decide)]) (by rw [hx _ (by decide) (by decide)]) (by rw [hx _ (by decide) (by decide)]) (by rw [hx _ (by decide) (by decide)]) (by rw [hx _ (by decide) (by decide)]) (by rw [hx _ (by decide) (by decide)])) hF g2 ?_ ?_ ?_, ?_⟩
    · refine CR_hd g3 h5 (p9 g2) (fun k hk => fr k (by omega) (by omega)) (fr 3 (by decide) (by decide)) ?_ (fun x hx' => hx x (by omega) (by omega))
      unfold coR
      rw [f3 6 (by decide) (by decide), f3 9 (by decide) (by decide), f3 10 (by decide) (by decide), f3 2 (by decide) (by decide), f3 14 (by decide) (by decide), f12, f11, fr 0 (by decide) (by decide), fr 1 (by decide) (by decide), fr 2 (by decide) (by decide), fr 3 (by decide) (by decide), fr 5 (by decide) (by decide), ea4, n1, hx (3 + 126) (by decide) (by decide), hx (3 + 127) (by decide) (by decide), hx (3 + 128) (by decide) (by decide), hx (3 + 131) (by decide) (by decide)]
      refine ⟨c0, c1, c2, c3, rfl, c5, fun e he => ?_, ?_, fun e he => ?_⟩
      · rw [fr _ (by omega) (by omega), fr _ (by omega) (by omega), fr _ (by omega) (by omega)]; exact c6 e he
      · simp only [fitF]
        rw [ea1, ea2, fitF_far (f := I 311) n (fm 0 (by omega)), c7]
      · rw [tolF_congr (fun k hk hk2 => fr k (by omega) (by omega)) _ (by omega)]; exact c8 e he
    · refine okf_hd h5 ?_ (fun k hk => fr k (by omega) (by omega)) (fr 3 (by decide) (by decide)) (by rw [fr 0 (by decide) (by decide)]; exact Nat.le_refl _)
      obtain ⟨q0, q1, q2, q3, q4, q5, q6, q7⟩ := oh
      unfold okh
      rw [fr 0 (by decide) (by decide), fr 1 (by decide) (by decide), fr 2 (by decide) (by decide), fr 3 (by decide) (by decide), ea4, fr 5 (by decide) (by decide), nI_toInt (by omega)]
      refine ⟨q0, q1, q2, q3, ⟨by omega, by omega⟩, q5, fun e he => ?_, fun k hk => ?_⟩
      · rw [fr _ (by omega) (by omega), fr _ (by omega) (by omega), fr _ (by omega) (by omega)]; exact q6 e he
      · rw [fr _ (by omega) (by omega), fr _ (by omega) (by omega)]; exact q7 k hk
    · exact fr 1 (by decide) (by decide)
    · refine sgt_keep hs (by rw [hx _ (by decide) (by decide)]) (by rw [hx _ (by decide) (by decide)]) (by rw [hx _ (by decide) (by decide)]) (hx _ (by decide) (by decide)) ?_ (hx _ (by decide) (by decide)) (hx _ (by decide) (by decide)) (hx _ (by decide) (by decide)) (by rw [hx _ (by decide) (by decide)]) (by rw [hx _ (by decide) (by decide)]) (f3 6 (by decide) (by decide))
      exact thC_of2 (f3 10 (by decide) (by decide)) (fun x x1 => hx x (by omega) (by omega))
  have hh := h2 _ R L hR
  try rw [hn] at hh
  have e50 : ¬ (nI n = 12) := fun q => absurd ((nI_eq (b := 12) (by omega) (by decide)).mp q) (by omega)
  refine ⟨fun q => absurd (show (-20 : Int32) ≤ a ∧ a ≤ 20 by grind) q, fun _ => ⟨fun q => absurd (show (-1 : Int32) ≤ b ∧ b ≤ 1 by grind) q, fun _ => ⟨fun _ => ?_, fun q => absurd (j4.symm.trans q) e50⟩⟩⟩
  rw [j4, i1, nI_clamp (by omega)]
  refine ⟨vp_in_nI (by omega) (by decide), ?_⟩
  rintro _ rfl
  rw [x4 _ _ _ (by omega) j4, i1, nI_1, nI_clamp (by omega)]
  refine ⟨vp_in_nI (by omega) (by decide), ?_⟩
  rintro _ rfl _ rfl
  rw [x4 _ _ _ (by omega) (x4 _ _ _ (by omega) j4), up_eq]
  exact hh
