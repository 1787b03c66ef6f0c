theorem e_X7_laysWorld {G : gG} {I : gI} {R : gR} {L : gL} {Q : gQ} (hR : g_Fx R) (h : Go G mX7_laysWorld 1 0 0 2 [some (.ref 310), some (.int 0)] [] SH I R L Q) : Mt G mX7_laysWorld 1 0 0 [.ref 310] SH I R L Q := by
  refine go_start rfl (Nat.le_of_ble_eq_true rfl) rfl ?_
  refine go_iconst (v := 0) dX7_laysWorld_0 (by decide) ?_
  refine go_istore_n dX7_laysWorld_1 (Nat.le_of_ble_eq_true rfl) rfl ?_
  exact h
theorem b_X7_laysWorld_2 {G : gG} {I : gI} {R : gR} {L : gL} {Q : gQ} {v1 : Int32} (hR : g_Fx R) (h : (4 ≤ v1 → Go G mX7_laysWorld 1 0 0 30 [some (.ref 310), some (.int 0)] [] SH I R L Q) ∧ (¬ 4 ≤ v1 → vp_in (110 + v1) 11120 ∧ (vp_in v1 4 ∧ (∀ I_1 : gI, I_1 = up I 333 v1.toNatClampNeg (I 311 (110 + v1).toNatClampNeg) → ∀ v1_2 : Int32, v1_2 = v1 + 1 → Go G mX7_laysWorld 1 0 0 2 [some (.ref 310), some (.int v1_2)] [] SH I_1 R L Q)))) : Go G mX7_laysWorld 1 0 0 2 [some (.ref 310), some (.int v1)] [] SH I R L Q := by
  refine go_iload_n dX7_laysWorld_2 rfl ?_
  refine go_iconst (v := 4) dX7_laysWorld_3 (by decide) ?_
  refine go_icmp_ge 28 dX7_laysWorld_4 (by decide) (fun c => ?_) (fun c => ?_)
  · have h := h.1 c
    refine go_iconst (v := 0) dX7_laysWorld_28 (by decide) ?_
    refine go_istore_n dX7_laysWorld_29 (Nat.le_of_ble_eq_true rfl) rfl ?_
    exact h
  · have h := h.2 c
    refine go_aload_n dX7_laysWorld_7 rfl ?_
    refine go_getR dX7_laysWorld_8 fX7_85 rfl rfl (hR 310 39 333 rfl) ?_
    refine go_iload_n dX7_laysWorld_11 rfl ?_
    refine go_aload_n dX7_laysWorld_12 rfl ?_
    refine go_getR dX7_laysWorld_13 fX7_7 rfl rfl (hR 310 0 311 rfl) ?_
    refine go_bipush (v := 110) dX7_laysWorld_16 (by decide) ?_
    refine go_iload_n dX7_laysWorld_18 rfl ?_
    refine go_iadd dX7_laysWorld_19 ?_
    obtain ⟨hi, h⟩ := h
    refine go_iald dX7_laysWorld_20 rfl hi ?_
    obtain ⟨hi, h⟩ := h
    refine go_iast dX7_laysWorld_21 rfl hi ?_
    have h := h _ rfl
    refine go_iinc dX7_laysWorld_22 rfl (Nat.le_of_ble_eq_true rfl) rfl ?_
    have h := h _ rfl
    refine go_goto 2 dX7_laysWorld_25 (by decide) ?_
    exact h
theorem b_X7_laysWorld_30 {G : gG} {I : gI} {R : gR} {L : gL} {Q : gQ} {v1 : Int32} (hR : g_Fx R) (h : (9 ≤ v1 → ∀ I_4 : gI, I_4 = up I 310 41 (I 311 132) → Q none SH I_4 R L) ∧ (¬ 9 ≤ v1 → vp_in (123 + v1) 11120 ∧ (vp_in v1 9 ∧ (∀ I_5 : gI, I_5 = up I 334 v1.toNatClampNeg (I 311 (123 + v1).toNatClampNeg) → ∀ v1_6 : Int32, v1_6 = v1 + 1 → Go G mX7_laysWorld 1 0 0 30 [some (.ref 310), some (.int v1_6)] [] SH I_5 R L Q)))) : Go G mX7_laysWorld 1 0 0 30 [some (.ref 310), some (.int v1)] [] SH I R L Q := by
  refine go_iload_n dX7_laysWorld_30 rfl ?_
  refine go_bipush (v := 9) dX7_laysWorld_31 (by decide) ?_
  refine go_icmp_ge 57 dX7_laysWorld_33 (by decide) (fun c => ?_) (fun c => ?_)
  · have h := h.1 c
    refine go_aload_n dX7_laysWorld_57 rfl ?_
    refine go_aload_n dX7_laysWorld_58 rfl ?_
    refine go_getR dX7_laysWorld_59 fX7_7 rfl rfl (hR 310 0 311 rfl) ?_
    refine go_sipush (v := 132) dX7_laysWorld_62 (by decide) ?_
    refine go_ialdK dX7_laysWorld_65 rfl (vp_in_nI (n := 132) (by decide) (by decide)) (k := 132) (by decide) ?_
    refine go_putI dX7_laysWorld_66 fX7_314 rfl rfl rfl rfl ?_
    have h := h _ rfl
    exact go_vret dX7_laysWorld_69 rfl rfl h
  · have h := h.2 c
    refine go_aload_n dX7_laysWorld_36 rfl ?_
    refine go_getR dX7_laysWorld_37 fX7_88 rfl rfl (hR 310 40 334 rfl) ?_
    refine go_iload_n dX7_laysWorld_40 rfl ?_
    refine go_aload_n dX7_laysWorld_41 rfl ?_
    refine go_getR dX7_laysWorld_42 fX7_7 rfl rfl (hR 310 0 311 rfl) ?_
    refine go_bipush (v := 123) dX7_laysWorld_45 (by decide) ?_
    refine go_iload_n dX7_laysWorld_47 rfl ?_
    refine go_iadd dX7_laysWorld_48 ?_
    obtain ⟨hi, h⟩ := h
    refine go_iald dX7_laysWorld_49 rfl hi ?_
    obtain ⟨hi, h⟩ := h
    refine go_iast dX7_laysWorld_50 rfl hi ?_
    have h := h _ rfl
    refine go_iinc dX7_laysWorld_51 rfl (Nat.le_of_ble_eq_true rfl) rfl ?_
    have h := h _ rfl
    refine go_goto 30 dX7_laysWorld_54 (by decide) ?_
    exact h
theorem e_X7_ordersOf {G : gG} {I : gI} {R : gR} {L : gL} {Q : gQ} {w : Int32} (hR : g_Fx R) (h : Go G mX7_ordersOf 1 0 0 4 [some (.ref 310), some (.int w), some (.int (-1)), some (.int 0), none] [] SH I R L Q) : Mt G mX7_ordersOf 1 0 0 [.ref 310, .int w] SH I R L Q := by
  refine go_start rfl (Nat.le_of_ble_eq_true rfl) rfl ?_
  refine go_iconst (v := -1) dX7_ordersOf_0 (by decide) ?_
  refine go_istore_n dX7_ordersOf_1 (Nat.le_of_ble_eq_true rfl) rfl ?_
  refine go_iconst (v := 0) dX7_ordersOf_2 (by decide) ?_
  refine go_istore_n dX7_ordersOf_3 (Nat.le_of_ble_eq_true rfl) rfl ?_
  exact h
theorem b_X7_ordersOf_4 {G : gG} {I : gI} {R : gR} {L : gL} {Q : gQ} {v1 v2 v3 : Int32} (hR : g_Fx R) (h : ((I 311 2) = (-1) → Q (some (.int v2)) SH I R L) ∧ (¬ (I 311 2) = (-1) → vp_in (I 311 2) 4 ∧ (((I 314 (I 311 2).toNatClampNeg) ≤ v3 → Q (some (.int v2)) SH I R L) ∧ (¬ (I 314 (I 311 2).toNatClampNeg) ≤ v3 → ∀ v4_1 : Int32, v4_1 = ((24 * (I 311 2)) + v3) → vp_in v4_1 96 ∧ ((¬ (I 315 v4_1.toNatClampNeg) = v1 → ∀ v3_2 : Int32, v3_2 = v3 + 1 → Go G mX7_ordersOf 1 0 0 4 [some (.ref 310), some (.int v1), some (.int v2), some (.int v3_2), none] [] SH I R L Q) ∧ ((I 315 v4_1.toNatClampNeg) = v1 → vp_in v4_1 96 ∧ (∀ v2_3 : Int32, v2_3 = (I 316 v4_1.toNatClampNeg) → ∀ v3_4 : Int32, v3_4 = v3 + 1 → Go G mX7_ordersOf 1 0 0 4 [some (.ref 310), some (.int v1), some (.int v2_3), some (.int v3_4), none] [] SH I R L Q))))))) : Go G mX7_ordersOf 1 0 0 4 [some (.ref 310), some (.int v1), some (.int v2), some (.int v3), none] [] SH I R L Q := by
  refine go_aload_n dX7_ordersOf_4 rfl ?_
  refine go_getR dX7_ordersOf_5 fX7_7 rfl rfl (hR 310 0 311 rfl) ?_
  refine go_iconst (v := 2) dX7_ordersOf_8 (by decide) ?_
  refine go_ialdK dX7_ordersOf_9 rfl (vp_in_nI (n := 2) (by decide) (by decide)) (k := 2) (by decide) ?_
  refine go_iconst (v := -1) dX7_ordersOf_10 (by decide) ?_
  refine go_icmp_eq 71 dX7_ordersOf_11 (by decide) (fun c => ?_) (fun c => ?_)
  · have h := h.1 c
    refine go_iload_n dX7_ordersOf_71 rfl ?_
    exact go_iret dX7_ordersOf_72 rfl rfl h
  · have h := h.2 c
    refine go_iload_n dX7_ordersOf_14 rfl ?_
    refine go_aload_n dX7_ordersOf_15 rfl ?_
    refine go_getR dX7_ordersOf_16 fX7_27 rfl rfl (hR 310 6 314 rfl) ?_
    refine go_aload_n dX7_ordersOf_19 rfl ?_
    refine go_getR dX7_ordersOf_20 fX7_7 rfl rfl (hR 310 0 311 rfl) ?_
    refine go_iconst (v := 2) dX7_ordersOf_23 (by decide) ?_
    refine go_ialdK dX7_ordersOf_24 rfl (vp_in_nI (n := 2) (by decide) (by decide)) (k := 2) (by decide) ?_
    obtain ⟨hi, h⟩ := h
    refine go_iald dX7_ordersOf_25 rfl hi ?_
    refine go_icmp_ge 71 dX7_ordersOf_26 (by decide) (fun c => ?_) (fun c => ?_)
    · have h := h.1 c
      refine go_iload_n dX7_ordersOf_71 rfl ?_
      exact go_iret dX7_ordersOf_72 rfl rfl h
    · have h := h.2 c
      refine go_bipush (v := 24) dX7_ordersOf_29 (by decide) ?_
      refine go_aload_n dX7_ordersOf_31 rfl ?_
      refine go_getR dX7_ordersOf_32 fX7_7 rfl rfl (hR 310 0 311 rfl) ?_
      refine go_iconst (v := 2) dX7_ordersOf_35 (by decide) ?_
      refine go_ialdK dX7_ordersOf_36 rfl (vp_in_nI (n := 2) (by decide) (by decide)) (k := 2) (by decide) ?_
      refine go_imul dX7_ordersOf_37 ?_
      refine go_iload_n dX7_ordersOf_38 rfl ?_
      refine go_iadd dX7_ordersOf_39 ?_
      refine go_istore dX7_ordersOf_40 (Nat.le_of_ble_eq_true rfl) rfl ?_
      have h := h _ rfl
      refine go_aload_n dX7_ordersOf_42 rfl ?_
      refine go_getR dX7_ordersOf_43 fX7_30 rfl rfl (hR 310 7 315 rfl) ?_
      refine go_iload dX7_ordersOf_46 rfl ?_
      obtain ⟨hi, h⟩ := h
      refine go_iald dX7_ordersOf_48 rfl hi ?_
      refine go_iload_n dX7_ordersOf_49 rfl ?_
      refine go_icmp_ne 63 dX7_ordersOf_50 (by decide) (fun c => ?_) (fun c => ?_)
      · have h := h.1 c
        refine go_iload_n dX7_ordersOf_63 rfl ?_
        refine go_istore_n dX7_ordersOf_64 (Nat.le_of_ble_eq_true rfl) rfl ?_
        refine go_iinc dX7_ordersOf_65 rfl (Nat.le_of_ble_eq_true rfl) rfl ?_
        have h := h _ rfl
        refine go_goto 4 dX7_ordersOf_68 (by decide) ?_
        refine go_drop 4 ?_
        exact h
      · have h := h.2 c
        refine go_aload_n dX7_ordersOf_53 rfl ?_
        refine go_getR dX7_ordersOf_54 fX7_33 rfl rfl (hR 310 8 316 rfl) ?_
        refine go_iload dX7_ordersOf_57 rfl ?_
        obtain ⟨hi, h⟩ := h
        refine go_iald dX7_ordersOf_59 rfl hi ?_
        refine go_goto 64 dX7_ordersOf_60 (by decide) ?_
        refine go_istore_n dX7_ordersOf_64 (Nat.le_of_ble_eq_true rfl) rfl ?_
        have h := h _ rfl
        refine go_iinc dX7_ordersOf_65 rfl (Nat.le_of_ble_eq_true rfl) rfl ?_
        have h := h _ rfl
        refine go_goto 4 dX7_ordersOf_68 (by decide) ?_
        refine go_drop 4 ?_
        exact h
theorem cpy_0 {I : gI} {a c sp dp : Nat} : cpy I a c sp dp 0 = I := by
  funext q j
  unfold cpy va_cpy
  by_cases h : q = c
  · subst h; simp only [if_true]; rw [if_neg (by omega)]
  · rw [if_neg h]
theorem cpy_s {I : gI} {a c sp dp n : Nat} : up (cpy I a c sp dp n) c (dp + n) (I a (sp + n)) = cpy I a c sp dp (n + 1) := by
  funext q j
  by_cases h : q = c
  · subst h
    rw [cpy_at]
    by_cases hj : j = dp + n
    · subst hj
      rw [up_eq, if_pos (by omega), show dp + n - dp = n by omega]
    · rw [up_ni hj, cpy_at]
      by_cases hb : dp ≤ j ∧ j < dp + n
      · rw [if_pos hb, if_pos (by omega)]
      · rw [if_neg hb, if_neg (by omega)]
  · rw [up_nc h, cpy_off h, cpy_off h]
theorem nI_k (k i : Nat) : nI k + nI i = nI (k + i) := nI_add k i
def layI (I : gI) : gI := up (cpy (cpy I 311 333 110 0 4) 311 334 123 0 9) 310 41 (I 311 132)
theorem k_X7_laysWorld {G : gG} {I : gI} {R : gR} {L : gL} {Q : gQ} (hR : g_Fx R) (hq : Q none SH (layI I) R L) : Mt G mX7_laysWorld 1 0 0 [.ref 310] SH I R L Q := by
  refine e_X7_laysWorld hR ?_
  have h1 := cnt (P := fun i => Go G mX7_laysWorld 1 0 0 2 [some (.ref 310), some (.int (nI i))] [] SH (cpy I 311 333 110 0 i) R L Q) 4 (fun i hi hP => ?_) ?_
  · simp only [cpy_0] at h1
    exact h1
  · refine b_X7_laysWorld_2 hR ⟨fun c => absurd c (nI_ge (b := 4) hi (by decide)), fun _ => ?_⟩
    rw [show (110 : Int32) + nI i = nI (110 + i) from nI_k 110 i]
    refine ⟨vp_in_nI (by omega) (by decide), vp_in_nI hi (by decide), ?_⟩
    rintro _ rfl _ rfl
    rw [nI_1, nI_clamp (by omega), nI_clamp (by omega), cpy_off (show (311 : Nat) ≠ 333 by decide)]
    have := cpy_s (I := I) (a := 311) (c := 333) (sp := 110) (dp := 0) (n := i)
    rw [Nat.zero_add] at this
    rw [this]
    exact hP
  refine b_X7_laysWorld_2 hR ⟨fun _ => ?_, fun c => absurd (show (4 : Int32) ≤ nI 4 by decide) c⟩
  have h2 := cnt (P := fun i => Go G mX7_laysWorld 1 0 0 30 [some (.ref 310), some (.int (nI i))] [] SH (cpy (cpy I 311 333 110 0 4) 311 334 123 0 i) R L Q) 9 (fun i hi hP => ?_) ?_
  · simp only [cpy_0] at h2
    exact h2
  · refine b_X7_laysWorld_30 hR ⟨fun c => absurd c (nI_ge (b := 9) hi (by decide)), fun _ => ?_⟩
    rw [show (123 : Int32) + nI i = nI (123 + i) from nI_k 123 i]
    refine ⟨vp_in_nI (by omega) (by decide), vp_in_nI hi (by decide), ?_⟩
    rintro _ rfl _ rfl
    rw [nI_1, nI_clamp (by omega), nI_clamp (by omega), cpy_off (show (311 : Nat) ≠ 334 by decide)]
    have := cpy_s (I := cpy I 311 333 110 0 4) (a := 311) (c := 334) (sp := 123) (dp := 0) (n := i)
    rw [Nat.zero_add] at this
    rw [this]
    exact hP
  refine b_X7_laysWorld_30 hR ⟨fun _ => ?_, fun c => absurd (show (9 : Int32) ≤ nI 9 by decide) c⟩
  rintro _ rfl
  rw [cpy_off (show (311 : Nat) ≠ 334 by decide), cpy_off (show (311 : Nat) ≠ 333 by decide)]
  exact hq
/-- the orders of a word in the clauses of a text -/
def ordF (cw ca : Nat → Int32) (w : Int32) (t : Nat) : Nat → Int32
  | 0 => -1
  | k + 1 => if cw (24 * t + k) = w then ca (24 * t + k) else ordF cw ca w t k
def okR (I : gI) : Prop := I 311 2 = -1 ∨ (0 ≤ (I 311 2).toInt ∧ (I 311 2).toInt < 4 ∧ 0 ≤ (I 314 (I 311 2).toNatClampNeg).toInt ∧ (I 314 (I 311 2).toNatClampNeg).toInt ≤ 24)
def ordV (I : gI) (w : Int32) : Int32 := if I 311 2 = -1 then -1 else ordF (I 315) (I 316) w (I 311 2).toNatClampNeg (I 314 (I 311 2).toNatClampNeg).toNatClampNeg
theorem k_X7_ordersOf {G : gG} {I : gI} {R : gR} {L : gL} {Q : gQ} {w : Int32} (hR : g_Fx R) (p0 : okR I) (hq : Q (some (.int (ordV I w))) SH I R L) : Mt G mX7_ordersOf 1 0 0 [.ref 310, .int w] SH I R L Q := by
  refine e_X7_ordersOf hR ?_
  by_cases c : I 311 2 = -1
  · refine b_X7_ordersOf_4 hR ⟨fun _ => ?_, fun c2 => absurd c c2⟩
    unfold ordV at hq
    rw [if_pos c] at hq
    exact hq
  · obtain h | ⟨h1, h2, h3, h4⟩ := p0
    · exact absurd h c
    unfold ordV at hq
    rw [if_neg c] at hq
    have et := nI_of_toInt h1
    have en := nI_of_toInt h3
    have ct := ci h1
    have cn := ci h3
    generalize ht : (I 311 2).toNatClampNeg = t at *
    generalize hn : (I 314 t).toNatClampNeg = n at *
    have hP := cnt (P := fun i => Go G mX7_ordersOf 1 0 0 4 [some (.ref 310), some (.int w), some (.int (ordF (I 315) (I 316) w t i)), some (.int (nI i)), none] [] SH I R L Q) n (fun i hi hP => ?_) ?_
    · exact hP
    · refine b_X7_ordersOf_4 hR ⟨fun c2 => absurd c2 c, fun _ => ?_⟩
      rw [ht, en, et]
      refine ⟨vp_in_nI (by omega) (by decide), fun c2 => absurd c2 (nI_ge hi (by omega)), fun _ => ?_⟩
      rintro _ rfl
      rw [show (24 : Int32) * nI t + nI i = nI (24 * t + i) from by rw [show (24 : Int32) * nI t = nI (24 * t) from pk_mul 24 t]; exact nI_add _ _]
      rw [nI_clamp (by omega)]
      refine ⟨vp_in_nI (by omega) (by decide), fun c2 => ?_, fun c2 => ⟨vp_in_nI (by omega) (by decide), ?_⟩⟩
      · rintro _ rfl
        rw [nI_1]
        simp only [ordF, c2, if_false] at hP
        exact hP
      · rintro _ rfl _ rfl
        rw [nI_1]
        simp only [ordF, c2, if_true] at hP
        exact hP
    · refine b_X7_ordersOf_4 hR ⟨fun c2 => absurd c2 c, fun _ => ?_⟩
      rw [ht, en]
      refine ⟨by rw [et]; exact vp_in_nI (by omega) (by decide), fun _ => hq, fun c2 => absurd (ti_le.mpr (Int.le_refl _)) c2⟩
