theorem e_X6_pot {G : gG} {I : gI} {R : gR} {L : gL} {Q : gQ} {a b c : Int32} (hR : g_Fx R) (h : (¬ (a = 0 ∨ a = 1) → Q (some (.int 0)) SH I R L) ∧ (a = 0 ∨ a = 1 → (¬ (b = 0 ∨ b = 1) → Q (some (.int 0)) SH I R L) ∧ (b = 0 ∨ b = 1 → (c < 0 → Q (some (.int 0)) SH I R L) ∧ (¬ c < 0 → (c ≤ 999 → ∀ I_1 : gI, I_1 = up I 0 9 (-1) → vp_in ((2 * a) + b) 4 ∧ (∀ I_2 : gI, I_2 = up I_1 5 ((2 * a) + b).toNatClampNeg c → Q (some (.int 1)) SH I_2 R L)) ∧ (¬ c ≤ 999 → Q (some (.int 0)) SH I R L))))) : Mt G mX6_pot 30 0 0 [.ref 0, .int a, .int b, .int c] SH I R L Q := by
  refine go_start rfl (Nat.le_of_ble_eq_true rfl) rfl ?_
  refine go_iload_n dX6_pot_0 rfl ?_
  refine go_callS0 (μ := mX6_pot) [.int _] dX6_pot_1 YX6_isSide lX6_58 rfl (Nat.le_of_ble_eq_true rfl) (Nat.le_of_ble_eq_true rfl) rfl (k_X6_isSide hR ?_)
  refine go_if_eq 25 dX6_pot_4 (by decide) (fun c => ?_) (fun c => ?_)
  · have h := h.1 (b0.mp c)
    refine go_iconst (v := 0) dX6_pot_25 (by decide) ?_
    exact go_zret dX6_pot_26 rfl rfl rfl h
  · have h := h.2 (b1.mp c)
    refine go_iload_n dX6_pot_7 rfl ?_
    refine go_callS0 (μ := mX6_pot) [.int _] dX6_pot_8 YX6_isKind lX6_62 rfl (Nat.le_of_ble_eq_true rfl) (Nat.le_of_ble_eq_true rfl) rfl (k_X6_isKind hR ?_)
    refine go_if_eq 25 dX6_pot_11 (by decide) (fun c => ?_) (fun c => ?_)
    · have h := h.1 (b0.mp c)
      refine go_iconst (v := 0) dX6_pot_25 (by decide) ?_
      exact go_zret dX6_pot_26 rfl rfl rfl h
    · have h := h.2 (b1.mp c)
      refine go_iload_n dX6_pot_14 rfl ?_
      refine go_if_lt 25 dX6_pot_15 (by decide) (fun c => ?_) (fun c => ?_)
      · have h := h.1 c
        refine go_iconst (v := 0) dX6_pot_25 (by decide) ?_
        exact go_zret dX6_pot_26 rfl rfl rfl h
      · have h := h.2 c
        refine go_iload_n dX6_pot_18 rfl ?_
        refine go_sipush (v := 999) dX6_pot_19 (by decide) ?_
        refine go_icmp_le 27 dX6_pot_22 (by decide) (fun c => ?_) (fun c => ?_)
        · have h := h.1 c
          refine go_aload_n dX6_pot_27 rfl ?_
          refine go_callV0 (μ := mX6_pot) [] dX6_pot_28 YX6_forgetSought lX6_65 rfl ⟨_, rfl, rfl⟩ rfl (Nat.le_of_ble_eq_true rfl) (Nat.le_of_ble_eq_true rfl) rfl (k_X6_forgetSought hR ?_)
          have h := h _ rfl
          refine go_aload_n dX6_pot_31 rfl ?_
          refine go_getR dX6_pot_32 fX6_27 rfl rfl (hR 0 2 3 rfl) ?_
          refine go_getR dX6_pot_35 fX6_68 rfl rfl (hR 3 0 4 rfl) ?_
          refine go_getR dX6_pot_38 fX6_72 rfl rfl (hR 4 0 5 rfl) ?_
          refine go_iconst (v := 2) dX6_pot_41 (by decide) ?_
          refine go_iload_n dX6_pot_42 rfl ?_
          refine go_imul dX6_pot_43 ?_
          refine go_iload_n dX6_pot_44 rfl ?_
          refine go_iadd dX6_pot_45 ?_
          refine go_iload_n dX6_pot_46 rfl ?_
          obtain ⟨hi, h⟩ := h
          refine go_iast dX6_pot_47 rfl hi ?_
          have h := h _ rfl
          refine go_iconst (v := 1) dX6_pot_48 (by decide) ?_
          exact go_zret dX6_pot_49 rfl rfl rfl h
        · have h := h.2 c
          refine go_iconst (v := 0) dX6_pot_25 (by decide) ?_
          exact go_zret dX6_pot_26 rfl rfl rfl h
theorem e_X7_pot {G : gG} {I : gI} {R : gR} {L : gL} {Q : gQ} {a b c : Int32} (hR : g_Fx R) (h : (¬ (a = 0 ∨ a = 1) → Q (some (.int 0)) SH I R L) ∧ (a = 0 ∨ a = 1 → (¬ (b = 0 ∨ b = 1) → Q (some (.int 0)) SH I R L) ∧ (b = 0 ∨ b = 1 → ((0 : Int32) ≤ c ∧ c ≤ (999 : Int32) → vp_in ((110 + (2 * a)) + b) 11120 ∧ (∀ I_1 : gI, I_1 = up I 311 ((110 + (2 * a)) + b).toNatClampNeg c → Q (some (.int 1)) SH I_1 R L)) ∧ (¬ ((0 : Int32) ≤ c ∧ c ≤ (999 : Int32)) → Q (some (.int 0)) SH I R L)))) : Mt G mX7_pot 30 0 0 [.ref 310, .int a, .int b, .int c] SH I R L Q := by
  refine go_start rfl (Nat.le_of_ble_eq_true rfl) rfl ?_
  refine go_iload_n dX7_pot_0 rfl ?_
  refine go_callS0 (μ := mX7_pot) [.int _] dX7_pot_1 YX7_isOne lX7_114 rfl (Nat.le_of_ble_eq_true rfl) (Nat.le_of_ble_eq_true rfl) rfl (k_X7_isOne hR ?_)
  refine go_if_eq 25 dX7_pot_4 (by decide) (fun c => ?_) (fun c => ?_)
  · have h := h.1 (b0.mp c)
    refine go_iconst (v := 0) dX7_pot_25 (by decide) ?_
    exact go_zret dX7_pot_26 rfl rfl rfl h
  · have h := h.2 (b1.mp c)
    refine go_iload_n dX7_pot_7 rfl ?_
    refine go_callS0 (μ := mX7_pot) [.int _] dX7_pot_8 YX7_isOne lX7_114 rfl (Nat.le_of_ble_eq_true rfl) (Nat.le_of_ble_eq_true rfl) rfl (k_X7_isOne hR ?_)
    refine go_if_eq 25 dX7_pot_11 (by decide) (fun c => ?_) (fun c => ?_)
    · have h := h.1 (b0.mp c)
      refine go_iconst (v := 0) dX7_pot_25 (by decide) ?_
      exact go_zret dX7_pot_26 rfl rfl rfl h
    · have h := h.2 (b1.mp c)
      refine go_iload_n dX7_pot_14 rfl ?_
      refine go_iconst (v := 0) dX7_pot_15 (by decide) ?_
      refine go_sipush (v := 999) dX7_pot_16 (by decide) ?_
      refine go_callS0 (μ := mX7_pot) [.int _, .int _, .int _] dX7_pot_19 YX7_in lX7_110 rfl (Nat.le_of_ble_eq_true rfl) (Nat.le_of_ble_eq_true rfl) rfl (k_X7_in hR ?_)
      refine go_if_ne 27 dX7_pot_22 (by decide) (fun c => ?_) (fun c => ?_)
      · have h := h.1 (b1.mp c)
        refine go_aload_n dX7_pot_27 rfl ?_
        refine go_getR dX7_pot_28 fX7_7 rfl rfl (hR 310 0 311 rfl) ?_
        refine go_bipush (v := 110) dX7_pot_31 (by decide) ?_
        refine go_iconst (v := 2) dX7_pot_33 (by decide) ?_
        refine go_iload_n dX7_pot_34 rfl ?_
        refine go_imul dX7_pot_35 ?_
        refine go_iadd dX7_pot_36 ?_
        refine go_iload_n dX7_pot_37 rfl ?_
        refine go_iadd dX7_pot_38 ?_
        refine go_iload_n dX7_pot_39 rfl ?_
        obtain ⟨hi, h⟩ := h
        refine go_iast dX7_pot_40 rfl hi ?_
        have h := h _ rfl
        refine go_iconst (v := 1) dX7_pot_41 (by decide) ?_
        exact go_zret dX7_pot_42 rfl rfl rfl h
      · have h := h.2 (b0.mp c)
        refine go_iconst (v := 0) dX7_pot_25 (by decide) ?_
        exact go_zret dX7_pot_26 rfl rfl rfl h
theorem e_X6_seed {G : gG} {I : gI} {R : gR} {L : gL} {Q : gQ} {a : Int32} (hR : g_Fx R) (h : (a < 0 → Q (some (.int 0)) SH I R L) ∧ (¬ a < 0 → (a ≤ 9999 → ∀ I_1 : gI, I_1 = up I 4 5 ((a * 5) + 3) → Q (some (.int 1)) SH I_1 R L) ∧ (¬ a ≤ 9999 → Q (some (.int 0)) SH I R L))) : Mt G mX6_seed 30 0 0 [.ref 0, .int a] SH I R L Q := by
  refine go_start rfl (Nat.le_of_ble_eq_true rfl) rfl ?_
  refine go_iload_n dX6_seed_0 rfl ?_
  refine go_if_lt 11 dX6_seed_1 (by decide) (fun c => ?_) (fun c => ?_)
  · have h := h.1 c
    refine go_iconst (v := 0) dX6_seed_11 (by decide) ?_
    exact go_zret dX6_seed_12 rfl rfl rfl h
  · have h := h.2 c
    refine go_iload_n dX6_seed_4 rfl ?_
    refine go_sipush (v := 9999) dX6_seed_5 (by decide) ?_
    refine go_icmp_le 13 dX6_seed_8 (by decide) (fun c => ?_) (fun c => ?_)
    · have h := h.1 c
      refine go_aload_n dX6_seed_13 rfl ?_
      refine go_getR dX6_seed_14 fX6_27 rfl rfl (hR 0 2 3 rfl) ?_
      refine go_getR dX6_seed_17 fX6_68 rfl rfl (hR 3 0 4 rfl) ?_
      refine go_iload_n dX6_seed_20 rfl ?_
      refine go_iconst (v := 5) dX6_seed_21 (by decide) ?_
      refine go_imul dX6_seed_22 ?_
      refine go_iconst (v := 3) dX6_seed_23 (by decide) ?_
      refine go_iadd dX6_seed_24 ?_
      refine go_putI dX6_seed_25 fX6_89 rfl rfl rfl rfl ?_
      have h := h _ rfl
      refine go_iconst (v := 1) dX6_seed_28 (by decide) ?_
      exact go_zret dX6_seed_29 rfl rfl rfl h
    · have h := h.2 c
      refine go_iconst (v := 0) dX6_seed_11 (by decide) ?_
      exact go_zret dX6_seed_12 rfl rfl rfl h
theorem e_X7_seed {G : gG} {I : gI} {R : gR} {L : gL} {Q : gQ} {a : Int32} (hR : g_Fx R) (h : ((0 : Int32) ≤ a ∧ a ≤ (9999 : Int32) → ∀ I_1 : gI, I_1 = up I 311 464 ((a * 5) + 3) → Q (some (.int 1)) SH I_1 R L) ∧ (¬ ((0 : Int32) ≤ a ∧ a ≤ (9999 : Int32)) → Q (some (.int 0)) SH I R L)) : Mt G mX7_seed 30 0 0 [.ref 310, .int a] SH I R L Q := by
  refine go_start rfl (Nat.le_of_ble_eq_true rfl) rfl ?_
  refine go_iload_n dX7_seed_0 rfl ?_
  refine go_iconst (v := 0) dX7_seed_1 (by decide) ?_
  refine go_sipush (v := 9999) dX7_seed_2 (by decide) ?_
  refine go_callS0 (μ := mX7_seed) [.int _, .int _, .int _] dX7_seed_5 YX7_in lX7_110 rfl (Nat.le_of_ble_eq_true rfl) (Nat.le_of_ble_eq_true rfl) rfl (k_X7_in hR ?_)
  refine go_if_ne 13 dX7_seed_8 (by decide) (fun c => ?_) (fun c => ?_)
  · have h := h.1 (b1.mp c)
    refine go_aload_n dX7_seed_13 rfl ?_
    refine go_getR dX7_seed_14 fX7_7 rfl rfl (hR 310 0 311 rfl) ?_
    refine go_sipush (v := 464) dX7_seed_17 (by decide) ?_
    refine go_iload_n dX7_seed_20 rfl ?_
    refine go_iconst (v := 5) dX7_seed_21 (by decide) ?_
    refine go_imul dX7_seed_22 ?_
    refine go_iconst (v := 3) dX7_seed_23 (by decide) ?_
    refine go_iadd dX7_seed_24 ?_
    refine go_iastK dX7_seed_25 rfl (vp_in_nI (n := 464) (by decide) (by decide)) (k := 464) (by decide) ?_
    have h := h _ rfl
    refine go_iconst (v := 1) dX7_seed_26 (by decide) ?_
    exact go_zret dX7_seed_27 rfl rfl rfl h
  · have h := h.2 (b0.mp c)
    refine go_iconst (v := 0) dX7_seed_11 (by decide) ?_
    exact go_zret dX7_seed_12 rfl rfl rfl h
/-- what rules is as it was -/
theorem thC_of {I I' : gI} (h : ∀ a, a = 3 ∨ a = 129 ∨ a = 130 ∨ (136 ≤ a ∧ a ≤ 163) → I' a = I a) : thC I' = thC I := by
  have h3 := h 3 (Or.inl rfl)
  unfold thC
  rw [h 129 (Or.inr (Or.inl rfl)), h 130 (Or.inr (Or.inr (Or.inl rfl)))]
  refine Prod.ext rfl (Prod.ext rfl ?_)
  funext w
  show lwC I' w = lwC I w
  unfold lwC
  rw [h3]
  by_cases c : I 3 10 < 0 ∨ 4 ≤ I 3 10
  · rw [if_pos c, if_pos c]
  · rw [if_neg c, if_neg c]
    have z0 : (0 : Int32).toInt = 0 := rfl
    have z4 : (4 : Int32).toInt = 4 := rfl
    rw [ti_lt, ti_le, z0, z4] at c
    have := ci (x := I 3 10) (by omega)
    rw [h (136 + 7 * (I 3 10).toNatClampNeg + 2) (by omega), tkl_congr (h _ (by omega)) (h _ (by omega)) (h _ (by omega))]
theorem kp_of {I I' : gI} (h : ∀ a, a ≠ 0 → a ≠ 310 → 134 < a → (a < 164 ∨ 173 < a) → a ≠ 306 → a ≠ 308 → a ≠ 309 → a ≠ 311 → a < 321 → I' a = I a) (h6 : I' 0 6 = I 0 6) (h7 : I' 0 7 = I 0 7) (h8 : I' 0 8 = I 0 8) (k3 : I' 310 3 = I 310 3) (k4 : I' 310 4 = I 310 4) (k5 : I' 310 5 = I 310 5) : kp I I' :=
  ⟨fun a h1 h2 => h a (by omega) (by omega) (by omega) (by omega) (by omega) (by omega) (by omega) (by omega) (by omega), fun a h1 h2 => h a (by omega) (by omega) (by omega) (by omega) (by omega) (by omega) (by omega) (by omega) (by omega), h _ (by omega) (by omega) (by omega) (by omega) (by omega) (by omega) (by omega) (by omega) (by omega), fun a h1 h2 => h a (by omega) (by omega) (by omega) (by omega) (by omega) (by omega) (by omega) (by omega) (by omega), h6, h7, h8, k3, k4, k5⟩
theorem bit01 {a : Int32} (h : a = 0 ∨ a = 1) : ∃ i, i < 2 ∧ a = nI i := by
  rcases h with rfl | rfl
  · exact ⟨0, by decide, rfl⟩
  · exact ⟨1, by decide, rfl⟩
theorem p_pot {G : gG} {I : gI} {R : gR} {L : gL} {Q : gQ} {a b c : Int32} (h : Rel I R) (hq : ∀ v I1 R1 L1, prom G mX7_pot [.ref 310, .int a, .int b, .int c] (some (.int v)) I1 R1 L1 → Q (some (.int v)) SH I1 R1 L1) : Mt G mX6_pot 30 0 0 [.ref 0, .int a, .int b, .int c] SH I R L Q := by
  have hF := h.1.1
  have bad : (∀ Q2 : gQ, Q2 (some (.int 0)) SH I R L → Mt G mX7_pot 30 0 0 [.ref 310, .int a, .int b, .int c] SH I R L Q2) → Q (some (.int 0)) SH I R L := fun hv => hq _ I R L (fun Q2 h2 => hv Q2 (h2 I R L h))
  refine e_X6_pot hF ⟨fun d1 => bad (fun Q2 h2 => e_X7_pot hF (by grind)), fun d1 => ⟨fun d2 => bad (fun Q2 h2 => e_X7_pot hF (by grind)), fun d2 => ⟨fun d3 => bad (fun Q2 h2 => e_X7_pot hF (by grind)), fun d3 => ⟨fun d4 => ?_, fun d4 => bad (fun Q2 h2 => e_X7_pot hF (by grind))⟩⟩⟩⟩
  rintro _ rfl
  obtain ⟨i, hi, ei⟩ := bit01 d1
  obtain ⟨k, hk, ek⟩ := bit01 d2
  have e1 : 2 * a + b = nI (2 * i + k) := by rw [ei, ek, show (2 : Int32) * nI i = nI (2 * i) from pk_mul 2 i]; exact nI_add _ _
  have e2 : 110 + 2 * a + b = nI (110 + (2 * i + k)) := by rw [← show (110 : Int32) + nI (2 * i + k) = nI (110 + (2 * i + k)) from nI_add 110 _, ← e1]; grind
  have hc0 : 0 ≤ c.toInt := by have := d3; rw [ti_lt] at this; show (0 : Int32).toInt ≤ c.toInt; omega
  have hc1 : c.toInt ≤ 999 := ti_le.mp d4
  generalize hj : 2 * i + k = j at *
  have hj4 : j < 4 := by omega
  refine ⟨by rw [e1]; exact vp_in_nI hj4 (by decide), ?_⟩
  rintro _ rfl
  rw [e1, nI_clamp (by omega)]
  refine hq _ _ R L (fun Q2 h2 => e_X7_pot hF ?_)
  rw [e2, nI_clamp (by omega)]
  have hw : vp_in (nI (110 + j)) 11120 := vp_in_nI (by omega) (by decide)
  have hR : Rel (up (up (up I 0 9 (-1)) 5 j c) 311 (110 + j) c) R := by
    obtain ⟨⟨h1, ⟨π, g2, g3⟩, h4, h5, h6⟩, hs⟩ := id h
    have ef : up (up (up I 0 9 (-1)) 5 j c) 311 (110 + j) c 311 = upd (I 311) (110 + j) c := by rw [up_row, up_off _ (by decide), up_off _ (by decide)]
    obtain ⟨q1, q2, q3, q4, q5, q6, q7, q8⟩ := g3.2.1
    have er : ∀ m, row (upd (I 311) (110 + j) c) 110 m = if m = j then c else row (I 311) 110 m := fun m => by unfold row upd; grind
    have off : ∀ m, 4 ≤ m → row (upd (I 311) (110 + j) c) 110 m = row (I 311) 110 m := fun m hm => by rw [er, if_neg (by omega)]
    have hx : ∀ x, x ≠ 0 → x ≠ 5 → x ≠ 311 → up (up (up I 0 9 (-1)) 5 j c) 311 (110 + j) c x = I x := fun x x0 x5 x1 => by rw [up_off _ x1, up_off _ x5, up_off _ x0]
    refine ⟨Rel0_up (ρ := π) h.1 (kp_of (fun x x0 x1 x2 x3 x4 x5 x6 x7 x8 => hx x x0 (by omega) x7) (by rw [up_nc (by decide), up_nc (by decide), up_ni (by decide)]) (by rw [up_nc (by decide), up_nc (by decide), up_ni (by decide)]) (by rw [up_nc (by decide), up_nc (by decide), up_ni (by decide)]) (by rw [hx _ (by decide) (by decide) (by decide)]) (by rw [hx _ (by decide) (by decide) (by decide)]) (by rw [hx _ (by decide) (by decide) (by decide)])) hF g2 ?_ ?_ ?_, sgt_no ?_⟩
    · rw [ef]
      refine CR_now g3 h5 (p9 g2) (fun m hm => by unfold upd; rw [if_neg (by omega)]) (fun m hm => by unfold upd; rw [if_neg (by omega)]) (hx _ (by decide) (by decide) (by decide)) (hx _ (by decide) (by decide) (by decide)) (hx _ (by decide) (by decide) (by decide)) (hx _ (by decide) (by decide) (by decide)) (hx _ (by decide) (by decide) (by decide)) (fun x x1 x2 => hx _ (by omega) (by omega) (by omega)) (fun m hm => by rw [hx _ (by decide) (by decide) (by decide)]) (fun m hm => by rw [hx _ (by decide) (by decide) (by decide)]) ?_
      unfold scR
      rw [off 22 (by decide), off 263 (by decide), off 354 (by decide), hx 4 (by decide) (by decide) (by decide), hx (4 + 2) (by decide) (by decide) (by decide), hx (4 + 3) (by decide) (by decide) (by decide), hx 132 (by decide) (by decide) (by decide), hx 133 (by decide) (by decide) (by decide)]
      refine ⟨fun m hm => ?_, fun m hm => by rw [off _ (by omega)]; exact q2 m hm, fun m hm => by rw [off _ (by omega)]; exact q3 m hm, q4, q5, q6, fun m hm => by rw [off _ (by omega)]; exact q7 m hm, fun m hm => by rw [off _ (by omega)]; exact q8 m hm⟩
      rw [er, up_nc (by decide)]
      by_cases hmj : m = j
      · rw [if_pos hmj, hmj, up_eq]
      · rw [if_neg hmj, up_ni hmj, up_nc (by decide)]
        exact q1 m hm
    · rw [ef]
      obtain ⟨o1, o2, o3, o4, o5, o6, o7⟩ := h5.2.1
      refine okf_now h5 (fun m hm => by unfold upd; rw [if_neg (by omega)]) (fun m hm => by unfold upd; rw [if_neg (by omega)]) ?_ (by rw [off _ (by decide)]; omega) (by rw [off _ (by decide)]; omega)
      unfold okr
      rw [off 22 (by decide), off 263 (by decide), off 354 (by decide)]
      refine ⟨fun m hm => ?_, fun m hm => by rw [off _ (by omega)]; exact o2 m hm, fun m hm => by rw [off _ (by omega)]; exact o3 m hm, o4, o5, o6, fun m h1 hm => by rw [off _ (by omega), off _ (by omega)]; exact o7 m h1 hm⟩
      rw [er]
      by_cases hmj : m = j
      · rw [if_pos hmj]; exact ⟨hc0, hc1⟩
      · rw [if_neg hmj]; exact o1 m hm
    · rw [ef]; unfold upd; rw [if_neg (by omega)]
    · rw [up_nc (by decide), up_nc (by decide), up_eq]
  have := h2 _ R L hR
  grind
theorem p_seed {G : gG} {I : gI} {R : gR} {L : gL} {Q : gQ} {a : Int32} (h : Rel I R) (hq : ∀ v I1 R1 L1, prom G mX7_seed [.ref 310, .int a] (some (.int v)) I1 R1 L1 → Q (some (.int v)) SH I1 R1 L1) : Mt G mX6_seed 30 0 0 [.ref 0, .int a] SH I R L Q := by
  have hF := h.1.1
  have bad : (∀ Q2 : gQ, Q2 (some (.int 0)) SH I R L → Mt G mX7_seed 30 0 0 [.ref 310, .int a] SH I R L Q2) → Q (some (.int 0)) SH I R L := fun hv => hq _ I R L (fun Q2 h2 => hv Q2 (h2 I R L h))
  refine e_X6_seed hF ⟨fun d1 => bad (fun Q2 h2 => e_X7_seed hF (by grind)), fun d1 => ⟨fun d2 => ?_, fun d2 => bad (fun Q2 h2 => e_X7_seed hF (by grind))⟩⟩
  rintro _ rfl
  refine hq _ _ R L (fun Q2 h2 => e_X7_seed hF ?_)
  have hc0 : 0 ≤ a.toInt := by have := d1; rw [ti_lt] at this; show (0 : Int32).toInt ≤ a.toInt; omega
  have hc1 : a.toInt ≤ 9999 := ti_le.mp d2
  have z5 : (5 : Int32).toInt = 5 := rfl
  have z3 : (3 : Int32).toInt = 3 := rfl
  have v5 : (a * 5).toInt = a.toInt * 5 := by rw [ti_mul] <;> rw [z5] <;> omega
  have v6 : (a * 5 + 3).toInt = a.toInt * 5 + 3 := by rw [ti_add] <;> rw [v5, z3] <;> omega
  generalize hv : a * 5 + 3 = v at *
  have hR : Rel (up (up I 4 5 v) 311 464 v) R := by
    obtain ⟨⟨h1, ⟨π, g2, g3⟩, h4, h5, h6⟩, hs⟩ := id h
    have ef : up (up I 4 5 v) 311 464 v 311 = upd (I 311) 464 v := by rw [up_row, up_off _ (by decide)]
    obtain ⟨q1, q2, q3, q4, q5, q6, q7, q8⟩ := g3.2.1
    have off : ∀ m, m ≠ 354 → row (upd (I 311) 464 v) 110 m = row (I 311) 110 m := fun m hm => by unfold row upd; rw [if_neg (by omega)]
    have at0 : row (upd (I 311) 464 v) 110 354 = v := rfl
    have hx : ∀ x, x ≠ 4 → x ≠ 311 → up (up I 4 5 v) 311 464 v x = I x := fun x x0 x1 => by rw [up_off _ x1, up_off _ x0]
    refine ⟨Rel0_up (ρ := π) h.1 (kp_of (fun x x0 x1 x2 x3 x4 x5 x6 x7 x8 => hx x (by omega) x7) (by rw [hx _ (by decide) (by decide)]) (by rw [hx _ (by decide) (by decide)]) (by rw [hx _ (by decide) (by decide)]) (by rw [hx _ (by decide) (by decide)]) (by rw [hx _ (by decide) (by decide)]) (by rw [hx _ (by decide) (by decide)])) hF g2 ?_ ?_ ?_, ?_⟩
    · rw [ef]
      refine CR_now g3 h5 (p9 g2) (fun m hm => by unfold upd; rw [if_neg (by omega)]) (fun m hm => by unfold upd; rw [if_neg (by omega)]) (hx _ (by decide) (by decide)) (hx _ (by decide) (by decide)) (hx _ (by decide) (by decide)) (hx _ (by decide) (by decide)) (hx _ (by decide) (by decide)) (fun x x1 x2 => hx _ (by omega) (by omega)) (fun m hm => by rw [hx _ (by decide) (by decide)]) (fun m hm => by rw [hx _ (by decide) (by decide)]) ?_
      unfold scR
      rw [off 22 (by decide), off 263 (by decide), at0, hx (4 + 1) (by decide) (by decide), hx (4 + 2) (by decide) (by decide), hx (4 + 3) (by decide) (by decide), hx 132 (by decide) (by decide), hx 133 (by decide) (by decide)]
      refine ⟨fun m hm => by rw [off _ (by omega)]; exact q1 m hm, fun m hm => by rw [off _ (by omega)]; exact q2 m hm, fun m hm => by rw [off _ (by omega)]; exact q3 m hm, ?_, ?_, ?_, fun m hm => ?_, fun m hm => ?_⟩
      · rw [up_nc (by decide), up_ni (by decide)]; exact q4
      · rw [up_nc (by decide), up_ni (by decide)]; exact q5
      · rw [up_nc (by decide), up_eq]
      · have := ci h5.2.1.2.2.2.1.1
        have := h5.2.1.2.2.2.1.2
        rw [off _ (by omega)]; exact q7 m hm
      · have := ci h5.2.1.2.2.2.2.1.1
        have := h5.2.1.2.2.2.2.1.2
        rw [off _ (by omega)]; exact q8 m hm
    · rw [ef]
      obtain ⟨o1, o2, o3, o4, o5, o6, o7⟩ := h5.2.1
      refine okf_now h5 (fun m hm => by unfold upd; rw [if_neg (by omega)]) (fun m hm => by unfold upd; rw [if_neg (by omega)]) ?_ (by rw [off _ (by decide)]; omega) (by rw [off _ (by decide)]; omega)
      unfold okr
      rw [off 22 (by decide), off 263 (by decide), at0]
      exact ⟨fun m hm => by rw [off _ (by omega)]; exact o1 m hm, fun m hm => by rw [off _ (by omega)]; exact o2 m hm, fun m hm => by rw [off _ (by omega)]; exact o3 m hm, o4, o5, ⟨by omega, by omega⟩, fun m h1 hm => by rw [off _ (by omega), off _ (by omega)]; exact o7 m h1 hm⟩
    · rw [ef]; rfl
    · exact sgt_keep hs (by rw [hx _ (by decide) (by decide)]) (by rw [hx _ (by decide) (by decide)]) (by rw [hx _ (by decide) (by decide)]) (hx _ (by decide) (by decide)) (thC_of (fun x x1 => hx x (by omega) (by omega))) (hx _ (by decide) (by decide)) (hx _ (by decide) (by decide)) (hx _ (by decide) (by decide)) (by rw [up_nc (by decide), up_ni (by decide)]) (by rw [up_nc (by decide), up_ni (by decide)]) (by rw [hx _ (by decide) (by decide)])
  have := h2 _ R L hR
  grind
