theorem k_X1_forgetTold2 {G : gG} {I : gI} {R : gR} {L : gL} {Q : gQ} (hR : g_Fx R) (hq : ∀ I1 : gI, ((∀ e, e < 9 → I1 134 e = 0) ∧ I1 3 14 = 0 ∧ (∀ j, j ≠ 14 → I1 3 j = I 3 j) ∧ ∀ a, a ≠ 3 → a ≠ 134 → I1 a = I a) → Q none SH I1 R L) : Mt G mX1_forgetTold 1 0 0 [.ref 3] SH I R L Q := k_X1_forgetTold hR (fun I1 h1 h2 h3 h4 => hq I1 ⟨h1, h2, h3, h4⟩)
theorem e_X6_tell {G : gG} {I : gI} {R : gR} {L : gL} {Q : gQ} {a b : Int32} (hR : g_Fx R) (h : (¬ a = (-1) → (¬ (0 ≤ a ∧ a < I 3 6 ∧ a < 9) → Q (some (.int (-2))) SH I R L) ∧ (0 ≤ a ∧ a < I 3 6 ∧ a < 9 → (b < 1 → Q (some (.int (-2))) SH I R L) ∧ (¬ b < 1 → (999 < b → Q (some (.int (-2))) SH I R L) ∧ (¬ 999 < b → ((I 3 14) < 20 → vp_in a 9 ∧ (vp_in a 9 ∧ (∀ I_1 : gI, I_1 = up I 134 a.toNatClampNeg ((I 134 a.toNatClampNeg) + b) → ∀ I_2 : gI, I_2 = up I_1 3 14 ((I_1 3 14) + 1) → Q (some (.int (I_2 3 14))) SH I_2 R L))) ∧ (¬ (I 3 14) < 20 → Q (some (.int (-2))) SH I R L))))) ∧ (a = (-1) → ∀ I_7 : gI, ((∀ e, e < 9 → I_7 134 e = 0) ∧ I_7 3 14 = 0 ∧ (∀ j, j ≠ 14 → I_7 3 j = I 3 j) ∧ ∀ a, a ≠ 3 → a ≠ 134 → I_7 a = I a) → Q (some (.int 0)) SH I_7 R L)) : Mt G mX6_tell 30 0 0 [.ref 0, .int a, .int b] SH I R L Q := by
  refine go_start rfl (Nat.le_of_ble_eq_true rfl) rfl ?_
  refine go_iload_n dX6_tell_0 rfl ?_
  refine go_iconst (v := -1) dX6_tell_1 (by decide) ?_
  refine go_icmp_ne 14 dX6_tell_2 (by decide) (fun c => ?_) (fun c => ?_)
  · have h := h.1 c
    refine go_aload_n dX6_tell_14 rfl ?_
    refine go_iload_n dX6_tell_15 rfl ?_
    refine go_callV0 (μ := mX6_tell) [.int _] dX6_tell_16 YX6_isEater lX6_92 rfl ⟨_, rfl, rfl⟩ rfl (Nat.le_of_ble_eq_true rfl) (Nat.le_of_ble_eq_true rfl) rfl (k_X6_isEater hR ?_)
    refine go_if_eq 46 dX6_tell_19 (by decide) (fun c => ?_) (fun c => ?_)
    · have h := h.1 (b0.mp c)
      refine go_bipush (v := -2) dX6_tell_46 (by decide) ?_
      exact go_iret dX6_tell_48 rfl rfl h
    · have h := h.2 (b1.mp c)
      refine go_iload_n dX6_tell_22 rfl ?_
      refine go_iconst (v := 1) dX6_tell_23 (by decide) ?_
      refine go_icmp_lt 46 dX6_tell_24 (by decide) (fun c => ?_) (fun c => ?_)
      · have h := h.1 c
        refine go_bipush (v := -2) dX6_tell_46 (by decide) ?_
        exact go_iret dX6_tell_48 rfl rfl h
      · have h := h.2 c
        refine go_iload_n dX6_tell_27 rfl ?_
        refine go_sipush (v := 999) dX6_tell_28 (by decide) ?_
        refine go_icmp_gt 46 dX6_tell_31 (by decide) (fun c => ?_) (fun c => ?_)
        · have h := h.1 c
          refine go_bipush (v := -2) dX6_tell_46 (by decide) ?_
          exact go_iret dX6_tell_48 rfl rfl h
        · have h := h.2 c
          refine go_aload_n dX6_tell_34 rfl ?_
          refine go_getR dX6_tell_35 fX6_27 rfl rfl (hR 0 2 3 rfl) ?_
          refine go_getI dX6_tell_38 fX6_255 rfl rfl ?_
          refine go_bipush (v := 20) dX6_tell_41 (by decide) ?_
          refine go_icmp_lt 49 dX6_tell_43 (by decide) (fun c => ?_) (fun c => ?_)
          · have h := h.1 c
            refine go_aload_n dX6_tell_49 rfl ?_
            refine go_getR dX6_tell_50 fX6_27 rfl rfl (hR 0 2 3 rfl) ?_
            refine go_getR dX6_tell_53 fX6_258 rfl rfl (hR 3 13 134 rfl) ?_
            refine go_iload_n dX6_tell_56 rfl ?_
            refine go_dup2 dX6_tell_57 rfl rfl ?_
            obtain ⟨hi, h⟩ := h
            refine go_iald dX6_tell_58 rfl hi ?_
            refine go_iload_n dX6_tell_59 rfl ?_
            refine go_iadd dX6_tell_60 ?_
            obtain ⟨hi, h⟩ := h
            refine go_iast dX6_tell_61 rfl hi ?_
            have h := h _ rfl
            refine go_aload_n dX6_tell_62 rfl ?_
            refine go_getR dX6_tell_63 fX6_27 rfl rfl (hR 0 2 3 rfl) ?_
            refine go_dup dX6_tell_66 rfl ?_
            refine go_getI dX6_tell_67 fX6_255 rfl rfl ?_
            refine go_iconst (v := 1) dX6_tell_70 (by decide) ?_
            refine go_iadd dX6_tell_71 ?_
            refine go_putI dX6_tell_72 fX6_255 rfl rfl rfl rfl ?_
            have h := h _ rfl
            refine go_aload_n dX6_tell_75 rfl ?_
            refine go_getR dX6_tell_76 fX6_27 rfl rfl (hR 0 2 3 rfl) ?_
            refine go_getI dX6_tell_79 fX6_255 rfl rfl ?_
            exact go_iret dX6_tell_82 rfl rfl h
          · have h := h.2 c
            refine go_bipush (v := -2) dX6_tell_46 (by decide) ?_
            exact go_iret dX6_tell_48 rfl rfl h
  · have h := h.2 c
    refine go_aload_n dX6_tell_5 rfl ?_
    refine go_getR dX6_tell_6 fX6_27 rfl rfl (hR 0 2 3 rfl) ?_
    refine go_callV0 (μ := mX6_tell) [] dX6_tell_9 YX1_forgetTold lX6_252 rfl ⟨_, rfl, rfl⟩ rfl (Nat.le_of_ble_eq_true rfl) (Nat.le_of_ble_eq_true rfl) rfl (k_X1_forgetTold2 hR (fun I_7 hq => ?_))
    have h := h I_7 hq
    refine go_iconst (v := 0) dX6_tell_12 (by decide) ?_
    exact go_iret dX6_tell_13 rfl rfl h
theorem e_X7_tell {G : gG} {I : gI} {R : gR} {L : gL} {Q : gQ} {a b : Int32} (hR : g_Fx R) (h : (¬ a = (-1) → (¬ (0 ≤ a ∧ a ≤ I 311 0 - 1) → Q (some (.int (-2))) SH I R L) ∧ (0 ≤ a ∧ a ≤ I 311 0 - 1 → (¬ ((1 : Int32) ≤ b ∧ b ≤ (999 : Int32)) → Q (some (.int (-2))) SH I R L) ∧ ((1 : Int32) ≤ b ∧ b ≤ (999 : Int32) → (¬ (I 311 5) = 20 → vp_in (64 + (2 * (I 311 5))) 11120 ∧ (∀ I_1 : gI, I_1 = up I 311 (64 + (2 * (I 311 5))).toNatClampNeg a → vp_in ((64 + (2 * (I_1 311 5))) + 1) 11120 ∧ (∀ I_2 : gI, I_2 = up I_1 311 ((64 + (2 * (I_1 311 5))) + 1).toNatClampNeg b → ∀ I_3 : gI, I_3 = up I_2 311 5 ((I_2 311 5) + 1) → Q (some (.int (I_3 311 5))) SH I_3 R L))) ∧ ((I 311 5) = 20 → Q (some (.int (-2))) SH I R L)))) ∧ (a = (-1) → ∀ I_7 : gI, I_7 = up I 311 5 0 → Q (some (.int 0)) SH I_7 R L)) : Mt G mX7_tell 30 0 0 [.ref 310, .int a, .int b] SH I R L Q := by
  refine go_start rfl (Nat.le_of_ble_eq_true rfl) rfl ?_
  refine go_iload_n dX7_tell_0 rfl ?_
  refine go_iconst (v := -1) dX7_tell_1 (by decide) ?_
  refine go_icmp_ne 14 dX7_tell_2 (by decide) (fun c => ?_) (fun c => ?_)
  · have h := h.1 c
    refine go_aload_n dX7_tell_14 rfl ?_
    refine go_iload_n dX7_tell_15 rfl ?_
    refine go_callV0 (μ := mX7_tell) [.int _] dX7_tell_16 YX7_isEater lX7_343 rfl ⟨_, rfl, rfl⟩ rfl (Nat.le_of_ble_eq_true rfl) (Nat.le_of_ble_eq_true rfl) rfl (k_X7_isEater hR ?_)
    refine go_if_eq 44 dX7_tell_19 (by decide) (fun c => ?_) (fun c => ?_)
    · have h := h.1 (b0.mp c)
      refine go_bipush (v := -2) dX7_tell_44 (by decide) ?_
      exact go_iret dX7_tell_46 rfl rfl h
    · have h := h.2 (b1.mp c)
      refine go_iload_n dX7_tell_22 rfl ?_
      refine go_iconst (v := 1) dX7_tell_23 (by decide) ?_
      refine go_sipush (v := 999) dX7_tell_24 (by decide) ?_
      refine go_callS0 (μ := mX7_tell) [.int _, .int _, .int _] dX7_tell_27 YX7_in lX7_110 rfl (Nat.le_of_ble_eq_true rfl) (Nat.le_of_ble_eq_true rfl) rfl (k_X7_in hR ?_)
      refine go_if_eq 44 dX7_tell_30 (by decide) (fun c => ?_) (fun c => ?_)
      · have h := h.1 (b0.mp c)
        refine go_bipush (v := -2) dX7_tell_44 (by decide) ?_
        exact go_iret dX7_tell_46 rfl rfl h
      · have h := h.2 (b1.mp c)
        refine go_aload_n dX7_tell_33 rfl ?_
        refine go_getR dX7_tell_34 fX7_7 rfl rfl (hR 310 0 311 rfl) ?_
        refine go_iconst (v := 5) dX7_tell_37 (by decide) ?_
        refine go_ialdK dX7_tell_38 rfl (vp_in_nI (n := 5) (by decide) (by decide)) (k := 5) (by decide) ?_
        refine go_bipush (v := 20) dX7_tell_39 (by decide) ?_
        refine go_icmp_ne 47 dX7_tell_41 (by decide) (fun c => ?_) (fun c => ?_)
        · have h := h.1 c
          refine go_aload_n dX7_tell_47 rfl ?_
          refine go_getR dX7_tell_48 fX7_7 rfl rfl (hR 310 0 311 rfl) ?_
          refine go_bipush (v := 64) dX7_tell_51 (by decide) ?_
          refine go_iconst (v := 2) dX7_tell_53 (by decide) ?_
          refine go_aload_n dX7_tell_54 rfl ?_
          refine go_getR dX7_tell_55 fX7_7 rfl rfl (hR 310 0 311 rfl) ?_
          refine go_iconst (v := 5) dX7_tell_58 (by decide) ?_
          refine go_ialdK dX7_tell_59 rfl (vp_in_nI (n := 5) (by decide) (by decide)) (k := 5) (by decide) ?_
          refine go_imul dX7_tell_60 ?_
          refine go_iadd dX7_tell_61 ?_
          refine go_iload_n dX7_tell_62 rfl ?_
          obtain ⟨hi, h⟩ := h
          refine go_iast dX7_tell_63 rfl hi ?_
          have h := h _ rfl
          refine go_aload_n dX7_tell_64 rfl ?_
          refine go_getR dX7_tell_65 fX7_7 rfl rfl (hR 310 0 311 rfl) ?_
          refine go_bipush (v := 64) dX7_tell_68 (by decide) ?_
          refine go_iconst (v := 2) dX7_tell_70 (by decide) ?_
          refine go_aload_n dX7_tell_71 rfl ?_
          refine go_getR dX7_tell_72 fX7_7 rfl rfl (hR 310 0 311 rfl) ?_
          refine go_iconst (v := 5) dX7_tell_75 (by decide) ?_
          refine go_ialdK dX7_tell_76 rfl (vp_in_nI (n := 5) (by decide) (by decide)) (k := 5) (by decide) ?_
          refine go_imul dX7_tell_77 ?_
          refine go_iadd dX7_tell_78 ?_
          refine go_iconst (v := 1) dX7_tell_79 (by decide) ?_
          refine go_iadd dX7_tell_80 ?_
          refine go_iload_n dX7_tell_81 rfl ?_
          obtain ⟨hi, h⟩ := h
          refine go_iast dX7_tell_82 rfl hi ?_
          have h := h _ rfl
          refine go_aload_n dX7_tell_83 rfl ?_
          refine go_getR dX7_tell_84 fX7_7 rfl rfl (hR 310 0 311 rfl) ?_
          refine go_iconst (v := 5) dX7_tell_87 (by decide) ?_
          refine go_dup2 dX7_tell_88 rfl rfl ?_
          refine go_ialdK dX7_tell_89 rfl (vp_in_nI (n := 5) (by decide) (by decide)) (k := 5) (by decide) ?_
          refine go_iconst (v := 1) dX7_tell_90 (by decide) ?_
          refine go_iadd dX7_tell_91 ?_
          refine go_iastK dX7_tell_92 rfl (vp_in_nI (n := 5) (by decide) (by decide)) (k := 5) (by decide) ?_
          have h := h _ rfl
          refine go_aload_n dX7_tell_93 rfl ?_
          refine go_getR dX7_tell_94 fX7_7 rfl rfl (hR 310 0 311 rfl) ?_
          refine go_iconst (v := 5) dX7_tell_97 (by decide) ?_
          refine go_ialdK dX7_tell_98 rfl (vp_in_nI (n := 5) (by decide) (by decide)) (k := 5) (by decide) ?_
          exact go_iret dX7_tell_99 rfl rfl h
        · have h := h.2 c
          refine go_bipush (v := -2) dX7_tell_44 (by decide) ?_
          exact go_iret dX7_tell_46 rfl rfl h
  · have h := h.2 c
    refine go_aload_n dX7_tell_5 rfl ?_
    refine go_getR dX7_tell_6 fX7_7 rfl rfl (hR 310 0 311 rfl) ?_
    refine go_iconst (v := 5) dX7_tell_9 (by decide) ?_
    refine go_iconst (v := 0) dX7_tell_10 (by decide) ?_
    refine go_iastK dX7_tell_11 rfl (vp_in_nI (n := 5) (by decide) (by decide)) (k := 5) (by decide) ?_
    have h := h _ rfl
    refine go_iconst (v := 0) dX7_tell_12 (by decide) ?_
    exact go_iret dX7_tell_13 rfl rfl h
theorem thC_of2 {I I' : gI} (h10 : I' 3 10 = I 3 10) (h : ∀ a, a = 129 ∨ a = 130 ∨ (136 ≤ a ∧ a ≤ 163) → I' a = I a) : thC I' = thC I := by
  unfold thC
  rw [h 129 (Or.inl rfl), h 130 (Or.inr (Or.inl rfl))]
  refine Prod.ext rfl (Prod.ext rfl ?_)
  funext w
  show lwC I' w = lwC I w
  unfold lwC
  rw [h10]
  by_cases c : I 3 10 < 0 ∨ 4 ≤ I 3 10
  · rw [if_pos c, if_pos c]
  · rw [if_neg c, if_neg c]
    have z0 : (0 : Int32).toInt = 0 := rfl
    have z4 : (4 : Int32).toInt = 4 := rfl
    rw [ti_lt, ti_le, z0, z4] at c
    have := ci (x := I 3 10) (by omega)
    rw [h (136 + 7 * (I 3 10).toNatClampNeg + 2) (by omega), tkl_congr (h _ (by omega)) (h _ (by omega)) (h _ (by omega))]
theorem tolF_far {f f' : Nat → Int32} {e : Nat} : ∀ n, (∀ k, k < 2 * n → f' (64 + k) = f (64 + k)) → tolF f' e n = tolF f e n
  | 0, _ => rfl
  | n + 1, h => by
    simp only [tolF]
    rw [tolF_far n (fun k hk => h k (by omega)), h (2 * n) (by omega), show 64 + 2 * n + 1 = 64 + (2 * n + 1) by omega, h (2 * n + 1) (by omega)]
theorem fitF_far {f f' : Nat → Int32} : ∀ n, (∀ k, k < 2 * n → f' (40 + k) = f (40 + k)) → fitF f' n = fitF f n
  | 0, _ => rfl
  | n + 1, h => by
    simp only [fitF]
    rw [fitF_far n (fun k hk => h k (by omega)), h (2 * n) (by omega), show 40 + 2 * n + 1 = 40 + (2 * n + 1) by omega, h (2 * n + 1) (by omega)]
theorem p_tell {G : gG} {I : gI} {R : gR} {L : gL} {Q : gQ} {a b : Int32} (h : Rel I R) (hq : ∀ v I1 R1 L1, prom G mX7_tell [.ref 310, .int a, .int b] (some (.int v)) I1 R1 L1 → Q (some (.int v)) SH I1 R1 L1) : Mt G mX6_tell 30 0 0 [.ref 0, .int a, .int b] SH I R L Q := by
  have hF := h.1.1
  obtain ⟨⟨c0, c1, c2, c3, c4, c5, c6, c7, c8⟩, -, oh, -⟩ := R_co h
  have bad : (∀ Q2 : gQ, Q2 (some (.int (-2))) SH I R L → Mt G mX7_tell 30 0 0 [.ref 310, .int a, .int b] SH I R L Q2) → Q (some (.int (-2))) SH I R L := fun hv => hq _ I R L (fun Q2 h2 => hv Q2 (h2 I R L h))
  have o5 : 0 ≤ I 311 5 ∧ I 311 5 ≤ 20 := ⟨ti_le.mpr oh.2.2.2.2.2.1.1, ti_le.mpr oh.2.2.2.2.2.1.2⟩
  have o0 : 0 ≤ I 311 0 ∧ I 311 0 ≤ 9 := ⟨ti_le.mpr oh.1.1, ti_le.mpr oh.1.2⟩
  have d4 := ci oh.2.2.2.2.1.1
  have d5 := ci oh.2.2.2.2.2.1.1
  have e4 := oh.2.2.2.2.1.2
  have e5 := oh.2.2.2.2.2.1.2
  /- what is told, changed alone -/
  have gen : ∀ (I2 : gI) (f' : Nat → Int32), I2 311 = f' → (∀ k, k ≠ 5 → (k < 64 ∨ 104 ≤ k) → f' k = I 311 k) → (∀ x, x ≠ 3 → x ≠ 134 → x ≠ 311 → I2 x = I x) → (∀ j, j ≠ 14 → I2 3 j = I 3 j) → I2 3 14 = f' 5 → (0 ≤ (f' 5).toInt ∧ (f' 5).toInt ≤ 20) → (∀ k, k < (f' 5).toNatClampNeg → (0 ≤ (f' (64 + 2 * k)).toInt ∧ (f' (64 + 2 * k)).toInt ≤ 8) ∧ (1 ≤ (f' (64 + 2 * k + 1)).toInt ∧ (f' (64 + 2 * k + 1)).toInt ≤ 999)) → (∀ e, e < 9 → I2 134 e = tolF f' e (f' 5).toNatClampNeg) → Rel I2 R := by
    intro I2 f' ef fr hx f3 f14 ok5 okt htl
    obtain ⟨⟨h1, ⟨π, g2, g3⟩, h4, h5, h6⟩, hs⟩ := id h
    refine ⟨Rel0_up (ρ := π) h.1 (kp_of (fun x x0 x1 x2 x3 x4 x5 x6 x7 x8 => hx x (by omega) (by omega) x7) (by rw [hx _ (by decide) (by decide) (by decide)]) (by rw [hx _ (by decide) (by decide) (by decide)]) (by rw [hx _ (by decide) (by decide) (by decide)]) (by rw [hx _ (by decide) (by decide) (by decide)]) (by rw [hx _ (by decide) (by decide) (by decide)]) (by rw [hx _ (by decide) (by decide) (by decide)])) hF g2 ?_ ?_ ?_, ?_⟩
    · rw [ef]
      refine CR_hd g3 h5 (p9 g2) (fun k hk => fr k (by omega) (by omega)) (fr 3 (by decide) (by decide)) ?_ (fun x hx' => hx x (by omega) (by omega) (by omega))
      unfold coR
      rw [f3 6 (by decide), f3 9 (by decide), f3 10 (by decide), f3 2 (by decide), f3 12 (by decide), f14, f3 11 (by decide), fr 0 (by decide) (by decide), fr 1 (by decide) (by decide), fr 2 (by decide) (by decide), fr 3 (by decide) (by decide), fr 4 (by decide) (by decide), hx (3 + 126) (by decide) (by decide) (by decide), hx (3 + 127) (by decide) (by decide) (by decide), hx (3 + 128) (by decide) (by decide) (by decide), fitF_congr (fun k hk _ => fr k (by omega) (by omega)) _ (by omega)]
      refine ⟨c0, c1, c2, c3, c4, rfl, fun e he => ?_, c7, htl⟩
      rw [fr _ (by omega) (by omega), fr _ (by omega) (by omega), fr _ (by omega) (by omega)]; exact c6 e he
    · rw [ef]
      refine okf_hd h5 ?_ (fun k hk => fr k (by omega) (by omega)) (fr 3 (by decide) (by decide)) (by rw [fr 0 (by decide) (by decide)]; exact Nat.le_refl _)
      obtain ⟨q0, q1, q2, q3, q4, q5, q6, q7⟩ := oh
      unfold okh
      rw [fr 0 (by decide) (by decide), fr 1 (by decide) (by decide), fr 2 (by decide) (by decide), fr 3 (by decide) (by decide), fr 4 (by decide) (by decide)]
      refine ⟨q0, q1, q2, q3, q4, ok5, fun e he => ?_, okt⟩
      rw [fr _ (by omega) (by omega), fr _ (by omega) (by omega), fr _ (by omega) (by omega)]; exact q6 e he
    · rw [ef]; exact fr 1 (by decide) (by decide)
    · refine sgt_keep hs (by rw [hx _ (by decide) (by decide) (by decide)]) (by rw [hx _ (by decide) (by decide) (by decide)]) (by rw [hx _ (by decide) (by decide) (by decide)]) (hx _ (by decide) (by decide) (by decide)) ?_ (hx _ (by decide) (by decide) (by decide)) (hx _ (by decide) (by decide) (by decide)) (hx _ (by decide) (by decide) (by decide)) (by rw [hx _ (by decide) (by decide) (by decide)]) (by rw [hx _ (by decide) (by decide) (by decide)]) (f3 6 (by decide))
      exact thC_of2 (f3 10 (by decide)) (fun x x1 => hx x (by omega) (by omega) (by omega))
  refine e_X6_tell hF ?_
  rw [c0, c5]
  refine ⟨fun d1 => ⟨fun d2 => bad (fun Q2 h2 => e_X7_tell hF (by grind)), fun d2 => ⟨fun d3 => bad (fun Q2 h2 => e_X7_tell hF (by grind)), fun d3 => ⟨fun d4 => bad (fun Q2 h2 => e_X7_tell hF (by grind)), fun d4 => ⟨fun d5 => ?_, fun d5 => bad (fun Q2 h2 => e_X7_tell hF (by grind))⟩⟩⟩⟩, fun d1 => ?_⟩
  · have hv : vp_in a 9 := vi9.mpr (by grind)
    refine ⟨hv, hv, ?_⟩
    rintro _ rfl _ rfl
    obtain ⟨i, hi, ei⟩ := vp_in_of hv (by decide)
    have hn : I 311 5 = nI (I 311 5).toNatClampNeg := nI_of_toInt oh.2.2.2.2.2.1.1
    have hb1 : 1 ≤ b.toInt := by have := d3; rw [ti_lt] at this; show (1 : Int32).toInt ≤ b.toInt; omega
    have hb2 : b.toInt ≤ 999 := by have := d4; rw [ti_lt] at this; show b.toInt ≤ (999 : Int32).toInt; omega
    have hn20 : (I 311 5).toInt < 20 := ti_lt.mp d5
    rw [ei, nI_clamp (by omega), up_eq, up_nc (show (3 : Nat) ≠ 134 by decide), c5]
    refine hq _ _ R L (fun Q2 h2 => e_X7_tell hF ?_)
    generalize hnn : (I 311 5).toNatClampNeg = n at *
    have x5 : ∀ (J : gI) k (v : Int32), k ≠ 5 → J 311 5 = nI n → up J 311 k v 311 5 = nI n := fun J k v hk hJ => by rw [up_ni (by omega), hJ]
    rw [hn]
    generalize hJ : up (up I 134 i (I 134 i + b)) 3 14 (nI n + 1) = J
    have j5 : J 311 5 = nI n := by rw [← hJ, up_nc (by decide), up_nc (by decide), hn]
    have j311 : J 311 = I 311 := by rw [← hJ, up_off _ (by decide), up_off _ (by decide)]
    have i1 : (64 : Int32) + 2 * nI n = nI (64 + 2 * n) := by rw [show (2 : Int32) * nI n = nI (2 * n) from pk_mul 2 n]; exact nI_add 64 _
    have i2 : (64 : Int32) + 2 * nI n + 1 = nI (64 + 2 * n + 1) := by rw [i1, nI_1]
    have hR : Rel (up (up (up J 311 (64 + 2 * n) a) 311 (64 + 2 * n + 1) b) 311 5 (nI n + 1)) R := by
      have fe : ∀ k, up (up (up J 311 (64 + 2 * n) a) 311 (64 + 2 * n + 1) b) 311 5 (nI n + 1) 311 k = if k = 5 then nI (n + 1) else if k = 64 + 2 * n + 1 then b else if k = 64 + 2 * n then a else I 311 k := fun k => by
        by_cases k5 : k = 5
        · rw [if_pos k5, k5, up_eq, nI_1]
        rw [if_neg k5, up_ni k5]
        by_cases k6 : k = 64 + 2 * n + 1
        · rw [if_pos k6, k6, up_eq]
        rw [if_neg k6, up_ni k6]
        by_cases k7 : k = 64 + 2 * n
        · rw [if_pos k7, k7, up_eq]
        rw [if_neg k7, up_ni k7, j311]
      have n1 : (nI (n + 1)).toNatClampNeg = n + 1 := nI_clamp (by omega)
      refine gen _ _ rfl (fun k hk hk2 => by rw [fe, if_neg hk, if_neg (by omega), if_neg (by omega)]) (fun x x0 x1 x2 => ?_) (fun j hj => ?_) ?_ ?_ (fun k hk => ?_) (fun e he => ?_)
      · rw [up_off _ x2, up_off _ x2, up_off _ x2, ← hJ, up_off _ x0, up_off _ x1]
      · rw [up_nc (by decide), up_nc (by decide), up_nc (by decide), ← hJ, up_ni hj, up_nc (by decide)]
      · rw [fe, if_pos rfl, up_nc (by decide), up_nc (by decide), up_nc (by decide), ← hJ, up_eq, nI_1]
      · rw [fe, if_pos rfl, nI_toInt (by omega)]; omega
      · rw [fe 5, if_pos rfl, n1] at hk
        by_cases hkn : k = n
        · rw [fe, if_neg (by omega), if_neg (by omega), if_pos (by omega), fe, if_neg (by omega), if_pos (by omega), ei, nI_toInt (by omega)]; omega
        · rw [fe, if_neg (by omega), if_neg (by omega), if_neg (by omega), fe, if_neg (by omega), if_neg (by omega), if_neg (by omega)]
          exact oh.2.2.2.2.2.2.2 k (by omega)
      · rw [fe 5, if_pos rfl, n1]
        simp only [tolF]
        have ea1 := fe (64 + 2 * n)
        rw [if_neg (by omega), if_neg (by omega), if_pos rfl] at ea1
        have ea2 := fe (64 + 2 * n + 1)
        rw [if_neg (by omega), if_pos rfl] at ea2
        rw [ea1, ea2, tolF_far (f := I 311) n (fun k hk => by rw [fe, if_neg (by omega), if_neg (by omega), if_neg (by omega)])]
        rw [up_nc (by decide), up_nc (by decide), up_nc (by decide), ← hJ, up_nc (by decide), ei]
        have := c8 e he
        rw [show I (3 + 131) e = I 134 e from rfl] at this
        by_cases hei : e = i
        · rw [hei] at this ⊢
          rw [up_eq, if_pos rfl, this]
        · rw [up_ni hei, if_neg (fun q => hei ((nI_eq (by omega) (by omega)).mp q).symm), this]
    have hh := h2 _ R L hR
    rw [hn] at hh
    have e50 : ¬ (nI n = 20) := fun q => by rw [hn, q] at hn20; exact absurd hn20 (by decide)
    have j0 : J 311 0 = I 311 0 := by rw [j311]
    refine ⟨fun _ => ⟨fun q => absurd (show 0 ≤ a ∧ a ≤ J 311 0 - 1 by rw [j0]; grind) q, fun _ => ⟨fun q => absurd (show (1 : Int32) ≤ b ∧ b ≤ 999 by grind) q, fun _ => ⟨fun _ => ?_, fun q => absurd (j5.symm.trans q) e50⟩⟩⟩, fun q => absurd q d1⟩
    rw [j5, i1, nI_clamp (by omega)]
    refine ⟨vp_in_nI (by omega) (by decide), ?_⟩
    rintro _ rfl
    rw [x5 _ _ _ (by omega) j5, i1, nI_1, nI_clamp (by omega)]
    refine ⟨vp_in_nI (by omega) (by decide), ?_⟩
    rintro _ rfl _ rfl
    rw [x5 _ _ _ (by omega) (x5 _ _ _ (by omega) j5), up_eq]
    exact hh
  · rintro I1 ⟨g1, g2, g3, g4⟩
    refine hq _ I1 R L (fun Q2 h2 => e_X7_tell hF ?_)
    have hR : Rel (up I1 311 5 0) R := by
      have e311 := g4 311 (by decide) (by decide)
      refine gen _ (upd (I 311) 5 0) (by rw [up_row, e311]) (fun k hk _ => ud_ne hk) (fun x x0 x1 x2 => by rw [up_off _ x2, g4 x x0 x1]) (fun j hj => by rw [up_nc (by decide), g3 j hj]) (by rw [up_nc (by decide), g2, ud_eq]) (by rw [ud_eq]; decide) (fun k hk => ?_) (fun e he => ?_)
      · rw [ud_eq] at hk; exact absurd hk (Nat.not_lt_zero _)
      · rw [ud_eq, up_nc (by decide), g1 e he]; rfl
    have := h2 _ R L hR
    grind
