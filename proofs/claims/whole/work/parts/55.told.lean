theorem e_X7_toldMore {G : gG} {I : gI} {R : gR} {L : gL} {Q : gQ} {a : Int32} (hR : g_Fx R) (h : vp_in (123 + a) 11120 ∧ (∀ v2_1 : Int32, v2_1 = (-(I 311 (123 + a).toNatClampNeg)) → Go G mX7_toldMore 2 0 0 13 [some (.ref 310), some (.int a), some (.int v2_1), some (.int 0)] [] SH I R L Q)) : Mt G mX7_toldMore 2 0 0 [.ref 310, .int a] SH I R L Q := by
  refine go_start rfl (Nat.le_of_ble_eq_true rfl) rfl ?_
  refine go_aload_n dX7_toldMore_0 rfl ?_
  refine go_getR dX7_toldMore_1 fX7_7 rfl rfl (hR 310 0 311 rfl) ?_
  refine go_bipush (v := 123) dX7_toldMore_4 (by decide) ?_
  refine go_iload_n dX7_toldMore_6 rfl ?_
  refine go_iadd dX7_toldMore_7 ?_
  obtain ⟨hi, h⟩ := h
  refine go_iald dX7_toldMore_8 rfl hi ?_
  refine go_ineg dX7_toldMore_9 ?_
  refine go_istore_n dX7_toldMore_10 (Nat.le_of_ble_eq_true rfl) rfl ?_
  have h := h _ rfl
  refine go_iconst (v := 0) dX7_toldMore_11 (by decide) ?_
  refine go_istore_n dX7_toldMore_12 (Nat.le_of_ble_eq_true rfl) rfl ?_
  exact h
theorem b_X7_toldMore_13 {G : gG} {I : gI} {R : gR} {L : gL} {Q : gQ} {v1 v2 v3 : Int32} (hR : g_Fx R) (h : ((I 311 5) ≤ v3 → Q (some (.int v2)) SH I R L) ∧ (¬ (I 311 5) ≤ v3 → vp_in (64 + (2 * v3)) 11120 ∧ ((¬ (I 311 (64 + (2 * v3)).toNatClampNeg) = v1 → ∀ v2_2 : Int32, v2_2 = (v2 + 0) → ∀ v3_3 : Int32, v3_3 = v3 + 1 → Go G mX7_toldMore 2 0 0 13 [some (.ref 310), some (.int v1), some (.int v2_2), some (.int v3_3)] [] SH I R L Q) ∧ ((I 311 (64 + (2 * v3)).toNatClampNeg) = v1 → vp_in ((64 + (2 * v3)) + 1) 11120 ∧ (∀ v2_4 : Int32, v2_4 = (v2 + (I 311 ((64 + (2 * v3)) + 1).toNatClampNeg)) → ∀ v3_5 : Int32, v3_5 = v3 + 1 → Go G mX7_toldMore 2 0 0 13 [some (.ref 310), some (.int v1), some (.int v2_4), some (.int v3_5)] [] SH I R L Q))))) : Go G mX7_toldMore 2 0 0 13 [some (.ref 310), some (.int v1), some (.int v2), some (.int v3)] [] SH I R L Q := by
  refine go_iload_n dX7_toldMore_13 rfl ?_
  refine go_aload_n dX7_toldMore_14 rfl ?_
  refine go_getR dX7_toldMore_15 fX7_7 rfl rfl (hR 310 0 311 rfl) ?_
  refine go_iconst (v := 5) dX7_toldMore_18 (by decide) ?_
  refine go_ialdK dX7_toldMore_19 rfl (vp_in_nI (n := 5) (by decide) (by decide)) (k := 5) (by decide) ?_
  refine go_icmp_ge 64 dX7_toldMore_20 (by decide) (fun c => ?_) (fun c => ?_)
  · have h := h.1 c
    refine go_iload_n dX7_toldMore_64 rfl ?_
    exact go_iret dX7_toldMore_65 rfl rfl h
  · have h := h.2 c
    refine go_iload_n dX7_toldMore_23 rfl ?_
    refine go_aload_n dX7_toldMore_24 rfl ?_
    refine go_getR dX7_toldMore_25 fX7_7 rfl rfl (hR 310 0 311 rfl) ?_
    refine go_bipush (v := 64) dX7_toldMore_28 (by decide) ?_
    refine go_iconst (v := 2) dX7_toldMore_30 (by decide) ?_
    refine go_iload_n dX7_toldMore_31 rfl ?_
    refine go_imul dX7_toldMore_32 ?_
    refine go_iadd dX7_toldMore_33 ?_
    obtain ⟨hi, h⟩ := h
    refine go_iald dX7_toldMore_34 rfl hi ?_
    refine go_iload_n dX7_toldMore_35 rfl ?_
    refine go_icmp_ne 55 dX7_toldMore_36 (by decide) (fun c => ?_) (fun c => ?_)
    · have h := h.1 c
      refine go_iconst (v := 0) dX7_toldMore_55 (by decide) ?_
      refine go_iadd dX7_toldMore_56 ?_
      refine go_istore_n dX7_toldMore_57 (Nat.le_of_ble_eq_true rfl) rfl ?_
      have h := h _ rfl
      refine go_iinc dX7_toldMore_58 rfl (Nat.le_of_ble_eq_true rfl) rfl ?_
      have h := h _ rfl
      refine go_goto 13 dX7_toldMore_61 (by decide) ?_
      exact h
    · have h := h.2 c
      refine go_aload_n dX7_toldMore_39 rfl ?_
      refine go_getR dX7_toldMore_40 fX7_7 rfl rfl (hR 310 0 311 rfl) ?_
      refine go_bipush (v := 64) dX7_toldMore_43 (by decide) ?_
      refine go_iconst (v := 2) dX7_toldMore_45 (by decide) ?_
      refine go_iload_n dX7_toldMore_46 rfl ?_
      refine go_imul dX7_toldMore_47 ?_
      refine go_iadd dX7_toldMore_48 ?_
      refine go_iconst (v := 1) dX7_toldMore_49 (by decide) ?_
      refine go_iadd dX7_toldMore_50 ?_
      obtain ⟨hi, h⟩ := h
      refine go_iald dX7_toldMore_51 rfl hi ?_
      refine go_goto 56 dX7_toldMore_52 (by decide) ?_
      refine go_iadd dX7_toldMore_56 ?_
      refine go_istore_n dX7_toldMore_57 (Nat.le_of_ble_eq_true rfl) rfl ?_
      have h := h _ rfl
      refine go_iinc dX7_toldMore_58 rfl (Nat.le_of_ble_eq_true rfl) rfl ?_
      have h := h _ rfl
      refine go_goto 13 dX7_toldMore_61 (by decide) ?_
      exact h
/-! what was told -/
def tmF (f : Nat → Int32) (e : Nat) : Int32 := -(f (123 + e)) + tolF f e (f 5).toNatClampNeg
theorem k_X7_toldMore {G : gG} {I : gI} {R : gR} {L : gL} {Q : gQ} {a : Int32} (hR : g_Fx R) (p0 : vp_in a 9) (p1 : 0 ≤ (I 311 5).toInt ∧ (I 311 5).toInt ≤ 20) (hq : Q (some (.int (tmF (I 311) a.toNatClampNeg))) SH I R L) : Mt G mX7_toldMore 2 0 0 [.ref 310, .int a] SH I R L Q := by
  obtain ⟨e, he, ee⟩ := vp_in_of p0 (by decide)
  have ca : a.toNatClampNeg = e := by rw [ee, nI_clamp (by omega)]
  have x7 : 123 + a = nI (123 + e) := by rw [ee]; exact nI_add 123 e
  have c5 := ci p1.1
  have e5 : I 311 5 = nI (I 311 5).toNatClampNeg := nI_of_toInt p1.1
  unfold tmF at hq
  rw [ca] at hq
  generalize hN : (I 311 5).toNatClampNeg = N at *
  refine e_X7_toldMore hR ⟨by rw [x7]; exact vp_in_nI (by omega) (by decide), ?_⟩
  rintro _ rfl
  rw [x7, nI_clamp (by omega)]
  have loop : Go G mX7_toldMore 2 0 0 13 [some (.ref 310), some (.int a), some (.int (-(I 311 (123 + e)) + tolF (I 311) e 0)), some (.int (nI 0))] [] SH I R L Q := by
    refine cnt (P := fun i => Go G mX7_toldMore 2 0 0 13 [some (.ref 310), some (.int a), some (.int (-(I 311 (123 + e)) + tolF (I 311) e i)), some (.int (nI i))] [] SH I R L Q) N (fun i hi ih => ?_) ?_
    · have y1 : 64 + 2 * nI i = nI (64 + 2 * i) := by rw [show (2 : Int32) = nI 2 from rfl, nI_mul]; exact nI_add 64 _
      refine b_X7_toldMore_13 hR ⟨fun c => absurd c (by rw [e5]; exact nI_ge hi (by omega)), fun _ => ?_⟩
      rw [y1, nI_clamp (by omega), show nI (64 + 2 * i) + 1 = nI (64 + 2 * i + 1) from nI_add _ 1, nI_clamp (by omega)]
      refine ⟨vp_in_nI (by omega) (by decide), fun d => ?_, fun d => ⟨vp_in_nI (by omega) (by decide), ?_⟩⟩
      · rintro _ rfl _ rfl
        rw [nI_1, Int32.add_zero]
        simp only [tolF] at ih
        rw [if_neg (by rw [← ee]; exact d)] at ih
        exact ih
      · rintro _ rfl _ rfl
        rw [nI_1]
        simp only [tolF] at ih
        rw [if_pos (by rw [← ee]; exact d)] at ih
        rw [Int32.add_assoc]
        exact ih
    · exact b_X7_toldMore_13 hR ⟨fun _ => hq, fun c => absurd (by rw [e5]; exact ti_le.mpr (Int.le_refl _)) c⟩
  have e0 : -(I 311 (123 + e)) + tolF (I 311) e 0 = -(I 311 (123 + e)) := Int32.add_zero _
  rw [e0] at loop
  exact loop
theorem tolF_rng {f : Nat → Int32} {e : Nat} {N : Nat} (h : ∀ k, k < N → 1 ≤ (f (64 + 2 * k + 1)).toInt ∧ (f (64 + 2 * k + 1)).toInt ≤ 999) (hN : N ≤ 20) : ∀ n, n ≤ N → 0 ≤ (tolF f e n).toInt ∧ (tolF f e n).toInt ≤ 999 * n
  | 0, _ => ⟨Int.le_refl 0, Int.le_refl 0⟩
  | n + 1, hn => by
    have ih := tolF_rng (e := e) h hN n (by omega)
    have := h n (by omega)
    simp only [tolF]
    split
    · rw [ti_add] <;> omega
    · omega
/-- what an eater ate more than was told, both ways -/
theorem told_ok {I : gI} {R : gR} (h : Rel I R) {e : Nat} (he : e < 9) : I 7 e - I 134 e = -(tmF (I 311) e) ∧ (I 7 e - I 134 e).toInt = -(tmF (I 311) e).toInt ∧ -30000 ≤ (tmF (I 311) e).toInt ∧ (tmF (I 311) e).toInt ≤ 30000 := by
  obtain ⟨co, sc, oh, ok⟩ := R_co h
  have s3 : I 7 e = I 311 (123 + e) := by have := sc.2.2.1 e he; rw [show row (I 311) 110 (13 + e) = I 311 (123 + e) from by unfold row; congr 1; omega] at this; exact this
  have t3 : I 134 e = tolF (I 311) e (I 311 5).toNatClampNeg := co.2.2.2.2.2.2.2.2 e he
  have o3 := ok.2.2.1 e he
  rw [show row (I 311) 110 (13 + e) = I 311 (123 + e) from by unfold row; congr 1; omega] at o3
  have o4 := ok.2.2.2.1
  have c5 := ci oh.2.2.2.2.2.1.1
  have c5' := oh.2.2.2.2.2.1.2
  have r := tolF_rng (f := I 311) (e := e) (N := (I 311 5).toNatClampNeg) (fun k hk => (oh.2.2.2.2.2.2.2 k hk).2) (by omega) _ (Nat.le_refl _)
  rw [s3, t3]
  unfold tmF
  have n1 : (-(I 311 (123 + e))).toInt = -(I 311 (123 + e)).toInt := by rw [ti_neg] <;> omega
  have n2 : (-(I 311 (123 + e)) + tolF (I 311) e (I 311 5).toNatClampNeg).toInt = -(I 311 (123 + e)).toInt + (tolF (I 311) e (I 311 5).toNatClampNeg).toInt := by rw [ti_add] <;> rw [n1] <;> omega
  have n3 : (I 311 (123 + e) - tolF (I 311) e (I 311 5).toNatClampNeg).toInt = (I 311 (123 + e)).toInt - (tolF (I 311) e (I 311 5).toNatClampNeg).toInt := by rw [ti_sub] <;> omega
  have n4 : (I 311 (123 + e) - tolF (I 311) e (I 311 5).toNatClampNeg).toInt = -(-(I 311 (123 + e)) + tolF (I 311) e (I 311 5).toNatClampNeg).toInt := by rw [n2, n3]; omega
  refine ⟨?_, n4, by rw [n2]; omega, by rw [n2]; omega⟩
  rw [ti_eq, n4, ti_neg] <;> rw [n2] <;> omega
theorem e_X6_liars {G : gG} {I : gI} {R : gR} {L : gL} {Q : gQ} (hR : g_Fx R) (h : Go G mX6_liars 30 0 0 4 [some (.ref 0), some (.int 0), some (.int 0)] [] SH I R L Q) : Mt G mX6_liars 30 0 0 [.ref 0] SH I R L Q := by
  refine go_start rfl (Nat.le_of_ble_eq_true rfl) rfl ?_
  refine go_iconst (v := 0) dX6_liars_0 (by decide) ?_
  refine go_istore_n dX6_liars_1 (Nat.le_of_ble_eq_true rfl) rfl ?_
  refine go_iconst (v := 0) dX6_liars_2 (by decide) ?_
  refine go_istore_n dX6_liars_3 (Nat.le_of_ble_eq_true rfl) rfl ?_
  exact h
theorem b_X6_liars_4 {G : gG} {I : gI} {R : gR} {L : gL} {Q : gQ} {v1 v2 : Int32} (hR : g_Fx R) (h : ((I 3 6) ≤ v2 → Q (some (.int v1)) SH I R L) ∧ (¬ (I 3 6) ≤ v2 → (9 ≤ v2 → Q (some (.int v1)) SH I R L) ∧ (¬ 9 ≤ v2 → vp_in v2 9 ∧ ((I 7 v2.toNatClampNeg - I 134 v2.toNatClampNeg = 0 → ∀ v2_2 : Int32, v2_2 = v2 + 1 → Go G mX6_liars 30 0 0 4 [some (.ref 0), some (.int v1), some (.int v2_2)] [] SH I R L Q) ∧ (¬ I 7 v2.toNatClampNeg - I 134 v2.toNatClampNeg = 0 → ∀ v1_3 : Int32, v1_3 = (v1 ||| (1 <<< (v2 &&& 31))) → ∀ v2_4 : Int32, v2_4 = v2 + 1 → Go G mX6_liars 30 0 0 4 [some (.ref 0), some (.int v1_3), some (.int v2_4)] [] SH I R L Q))))) : Go G mX6_liars 30 0 0 4 [some (.ref 0), some (.int v1), some (.int v2)] [] SH I R L Q := by
  refine go_iload_n dX6_liars_4 rfl ?_
  refine go_aload_n dX6_liars_5 rfl ?_
  refine go_getR dX6_liars_6 fX6_27 rfl rfl (hR 0 2 3 rfl) ?_
  refine go_getI dX6_liars_9 fX6_77 rfl rfl ?_
  refine go_icmp_ge 44 dX6_liars_12 (by decide) (fun c => ?_) (fun c => ?_)
  · have h := h.1 c
    refine go_iload_n dX6_liars_44 rfl ?_
    exact go_iret dX6_liars_45 rfl rfl h
  · have h := h.2 c
    refine go_iload_n dX6_liars_15 rfl ?_
    refine go_bipush (v := 9) dX6_liars_16 (by decide) ?_
    refine go_icmp_ge 44 dX6_liars_18 (by decide) (fun c => ?_) (fun c => ?_)
    · have h := h.1 c
      refine go_iload_n dX6_liars_44 rfl ?_
      exact go_iret dX6_liars_45 rfl rfl h
    · have h := h.2 c
      refine go_aload_n dX6_liars_21 rfl ?_
      refine go_getR dX6_liars_22 fX6_27 rfl rfl (hR 0 2 3 rfl) ?_
      refine go_iload_n dX6_liars_25 rfl ?_
      obtain ⟨hp_1, h⟩ := h
      refine go_callV0 (μ := mX6_liars) [.int _] dX6_liars_26 YX1_untold lX6_261 rfl ⟨_, rfl, rfl⟩ rfl (Nat.le_of_ble_eq_true rfl) (Nat.le_of_ble_eq_true rfl) rfl (k_X1_untold hR hp_1 ?_)
      refine go_if_eq 38 dX6_liars_29 (by decide) (fun c => ?_) (fun c => ?_)
      · have h := h.1 c
        refine go_iinc dX6_liars_38 rfl (Nat.le_of_ble_eq_true rfl) rfl ?_
        have h := h _ rfl
        refine go_goto 4 dX6_liars_41 (by decide) ?_
        exact h
      · have h := h.2 c
        refine go_iload_n dX6_liars_32 rfl ?_
        refine go_iconst (v := 1) dX6_liars_33 (by decide) ?_
        refine go_iload_n dX6_liars_34 rfl ?_
        refine go_ishl dX6_liars_35 ?_
        refine go_ior dX6_liars_36 ?_
        refine go_istore_n dX6_liars_37 (Nat.le_of_ble_eq_true rfl) rfl ?_
        have h := h _ rfl
        refine go_iinc dX6_liars_38 rfl (Nat.le_of_ble_eq_true rfl) rfl ?_
        have h := h _ rfl
        refine go_goto 4 dX6_liars_41 (by decide) ?_
        exact h
theorem e_X7_liars {G : gG} {I : gI} {R : gR} {L : gL} {Q : gQ} (hR : g_Fx R) (h : Go G mX7_liars 30 0 0 4 [some (.ref 310), some (.int 0), some (.int 0)] [] SH I R L Q) : Mt G mX7_liars 30 0 0 [.ref 310] SH I R L Q := by
  refine go_start rfl (Nat.le_of_ble_eq_true rfl) rfl ?_
  refine go_iconst (v := 0) dX7_liars_0 (by decide) ?_
  refine go_istore_n dX7_liars_1 (Nat.le_of_ble_eq_true rfl) rfl ?_
  refine go_iconst (v := 0) dX7_liars_2 (by decide) ?_
  refine go_istore_n dX7_liars_3 (Nat.le_of_ble_eq_true rfl) rfl ?_
  exact h
theorem b_X7_liars_4 {G : gG} {I : gI} {R : gR} {L : gL} {Q : gQ} {v1 v2 : Int32} (hR : g_Fx R) (h : ((I 311 0) ≤ v2 → Q (some (.int v1)) SH I R L) ∧ (¬ (I 311 0) ≤ v2 → vp_in v2 9 ∧ ((0 ≤ (I 311 5).toInt ∧ (I 311 5).toInt ≤ 20) ∧ ((¬ (tmF (I 311) v2.toNatClampNeg) = 0 → ∀ v1_3 : Int32, v1_3 = (v1 ||| (1 <<< (v2 &&& 31))) → ∀ v2_4 : Int32, v2_4 = v2 + 1 → Go G mX7_liars 30 0 0 4 [some (.ref 310), some (.int v1_3), some (.int v2_4)] [] SH I R L Q) ∧ ((tmF (I 311) v2.toNatClampNeg) = 0 → ∀ v1_5 : Int32, v1_5 = (v1 ||| 0) → ∀ v2_6 : Int32, v2_6 = v2 + 1 → Go G mX7_liars 30 0 0 4 [some (.ref 310), some (.int v1_5), some (.int v2_6)] [] SH I R L Q))))) : Go G mX7_liars 30 0 0 4 [some (.ref 310), some (.int v1), some (.int v2)] [] SH I R L Q := by
  refine go_iload_n dX7_liars_4 rfl ?_
  refine go_aload_n dX7_liars_5 rfl ?_
  refine go_getR dX7_liars_6 fX7_7 rfl rfl (hR 310 0 311 rfl) ?_
  refine go_iconst (v := 0) dX7_liars_9 (by decide) ?_
  refine go_ialdK dX7_liars_10 rfl (vp_in_nI (n := 0) (by decide) (by decide)) (k := 0) (by decide) ?_
  refine go_icmp_ge 38 dX7_liars_11 (by decide) (fun c => ?_) (fun c => ?_)
  · have h := h.1 c
    refine go_iload_n dX7_liars_38 rfl ?_
    exact go_iret dX7_liars_39 rfl rfl h
  · have h := h.2 c
    refine go_iload_n dX7_liars_14 rfl ?_
    refine go_aload_n dX7_liars_15 rfl ?_
    refine go_iload_n dX7_liars_16 rfl ?_
    obtain ⟨hp_1, h⟩ := h
    obtain ⟨hp_2, h⟩ := h
    refine go_callV0 (μ := mX7_liars) [.int _] dX7_liars_17 YX7_toldMore lX7_403 rfl ⟨_, rfl, rfl⟩ rfl (Nat.le_of_ble_eq_true rfl) (Nat.le_of_ble_eq_true rfl) rfl (k_X7_toldMore hR hp_1 hp_2 ?_)
    refine go_if_ne 27 dX7_liars_20 (by decide) (fun c => ?_) (fun c => ?_)
    · have h := h.1 c
      refine go_iconst (v := 1) dX7_liars_27 (by decide) ?_
      refine go_iload_n dX7_liars_28 rfl ?_
      refine go_ishl dX7_liars_29 ?_
      refine go_ior dX7_liars_30 ?_
      refine go_istore_n dX7_liars_31 (Nat.le_of_ble_eq_true rfl) rfl ?_
      have h := h _ rfl
      refine go_iinc dX7_liars_32 rfl (Nat.le_of_ble_eq_true rfl) rfl ?_
      have h := h _ rfl
      refine go_goto 4 dX7_liars_35 (by decide) ?_
      exact h
    · have h := h.2 c
      refine go_iconst (v := 0) dX7_liars_23 (by decide) ?_
      refine go_goto 30 dX7_liars_24 (by decide) ?_
      refine go_ior dX7_liars_30 ?_
      refine go_istore_n dX7_liars_31 (Nat.le_of_ble_eq_true rfl) rfl ?_
      have h := h _ rfl
      refine go_iinc dX7_liars_32 rfl (Nat.le_of_ble_eq_true rfl) rfl ?_
      have h := h _ rfl
      refine go_goto 4 dX7_liars_35 (by decide) ?_
      exact h
theorem e_X6_inWhoseName {G : gG} {I : gI} {R : gR} {L : gL} {Q : gQ} {a : Int32} (hR : g_Fx R) (h : (¬ (0 ≤ a ∧ a < I 3 6 ∧ a < 9) → Q (some (.int (-1))) SH I R L) ∧ (0 ≤ a ∧ a < I 3 6 ∧ a < 9 → vp_in a 9 ∧ ((1 ≤ I 7 a.toNatClampNeg - I 134 a.toNatClampNeg → vp_in a 9 ∧ (∀ v2_3 : Int32, v2_3 = I 7 a.toNatClampNeg - I 134 a.toNatClampNeg → Go G mX6_inWhoseName 30 0 0 33 [some (.ref 0), some (.int a), some (.int v2_3), some (.int 0)] [] SH I R L Q)) ∧ (¬ 1 ≤ I 7 a.toNatClampNeg - I 134 a.toNatClampNeg → Q (some (.int (-1))) SH I R L)))) : Mt G mX6_inWhoseName 30 0 0 [.ref 0, .int a] SH I R L Q := by
  refine go_start rfl (Nat.le_of_ble_eq_true rfl) rfl ?_
  refine go_aload_n dX6_inWhoseName_0 rfl ?_
  refine go_iload_n dX6_inWhoseName_1 rfl ?_
  refine go_callV0 (μ := mX6_inWhoseName) [.int _] dX6_inWhoseName_2 YX6_isEater lX6_92 rfl ⟨_, rfl, rfl⟩ rfl (Nat.le_of_ble_eq_true rfl) (Nat.le_of_ble_eq_true rfl) rfl (k_X6_isEater hR ?_)
  refine go_if_eq 20 dX6_inWhoseName_5 (by decide) (fun c => ?_) (fun c => ?_)
  · have h := h.1 (b0.mp c)
    refine go_iconst (v := -1) dX6_inWhoseName_20 (by decide) ?_
    exact go_iret dX6_inWhoseName_21 rfl rfl h
  · have h := h.2 (b1.mp c)
    refine go_aload_n dX6_inWhoseName_8 rfl ?_
    refine go_getR dX6_inWhoseName_9 fX6_27 rfl rfl (hR 0 2 3 rfl) ?_
    refine go_iload_n dX6_inWhoseName_12 rfl ?_
    obtain ⟨hp_1, h⟩ := h
    refine go_callV0 (μ := mX6_inWhoseName) [.int _] dX6_inWhoseName_13 YX1_untold lX6_261 rfl ⟨_, rfl, rfl⟩ rfl (Nat.le_of_ble_eq_true rfl) (Nat.le_of_ble_eq_true rfl) rfl (k_X1_untold hR hp_1 ?_)
    refine go_iconst (v := 1) dX6_inWhoseName_16 (by decide) ?_
    refine go_icmp_ge 22 dX6_inWhoseName_17 (by decide) (fun c => ?_) (fun c => ?_)
    · have h := h.1 c
      refine go_aload_n dX6_inWhoseName_22 rfl ?_
      refine go_getR dX6_inWhoseName_23 fX6_27 rfl rfl (hR 0 2 3 rfl) ?_
      refine go_iload_n dX6_inWhoseName_26 rfl ?_
      obtain ⟨hp_2, h⟩ := h
      refine go_callV0 (μ := mX6_inWhoseName) [.int _] dX6_inWhoseName_27 YX1_untold lX6_261 rfl ⟨_, rfl, rfl⟩ rfl (Nat.le_of_ble_eq_true rfl) (Nat.le_of_ble_eq_true rfl) rfl (k_X1_untold hR hp_2 ?_)
      refine go_istore_n dX6_inWhoseName_30 (Nat.le_of_ble_eq_true rfl) rfl ?_
      have h := h _ rfl
      refine go_iconst (v := 0) dX6_inWhoseName_31 (by decide) ?_
      refine go_istore_n dX6_inWhoseName_32 (Nat.le_of_ble_eq_true rfl) rfl ?_
      exact h
    · have h := h.2 c
      refine go_iconst (v := -1) dX6_inWhoseName_20 (by decide) ?_
      exact go_iret dX6_inWhoseName_21 rfl rfl h
theorem b_X6_inWhoseName_33 {G : gG} {I : gI} {R : gR} {L : gL} {Q : gQ} {v1 v2 v3 : Int32} (hR : g_Fx R) (h : ((I 3 6) ≤ v3 → Q (some (.int (-1))) SH I R L) ∧ (¬ (I 3 6) ≤ v3 → (9 ≤ v3 → Q (some (.int (-1))) SH I R L) ∧ (¬ 9 ≤ v3 → (v3 = v1 → ∀ v3_6 : Int32, v3_6 = v3 + 1 → Go G mX6_inWhoseName 30 0 0 33 [some (.ref 0), some (.int v1), some (.int v2), some (.int v3_6)] [] SH I R L Q) ∧ (¬ v3 = v1 → vp_in v3 9 ∧ ((¬ I 7 v3.toNatClampNeg - I 134 v3.toNatClampNeg = (-v2) → ∀ v3_8 : Int32, v3_8 = v3 + 1 → Go G mX6_inWhoseName 30 0 0 33 [some (.ref 0), some (.int v1), some (.int v2), some (.int v3_8)] [] SH I R L Q) ∧ (I 7 v3.toNatClampNeg - I 134 v3.toNatClampNeg = (-v2) → Q (some (.int v3)) SH I R L)))))) : Go G mX6_inWhoseName 30 0 0 33 [some (.ref 0), some (.int v1), some (.int v2), some (.int v3)] [] SH I R L Q := by
  refine go_iload_n dX6_inWhoseName_33 rfl ?_
  refine go_aload_n dX6_inWhoseName_34 rfl ?_
  refine go_getR dX6_inWhoseName_35 fX6_27 rfl rfl (hR 0 2 3 rfl) ?_
  refine go_getI dX6_inWhoseName_38 fX6_77 rfl rfl ?_
  refine go_icmp_ge 76 dX6_inWhoseName_41 (by decide) (fun c => ?_) (fun c => ?_)
  · have h := h.1 c
    refine go_iconst (v := -1) dX6_inWhoseName_76 (by decide) ?_
    exact go_iret dX6_inWhoseName_77 rfl rfl h
  · have h := h.2 c
    refine go_iload_n dX6_inWhoseName_44 rfl ?_
    refine go_bipush (v := 9) dX6_inWhoseName_45 (by decide) ?_
    refine go_icmp_ge 76 dX6_inWhoseName_47 (by decide) (fun c => ?_) (fun c => ?_)
    · have h := h.1 c
      refine go_iconst (v := -1) dX6_inWhoseName_76 (by decide) ?_
      exact go_iret dX6_inWhoseName_77 rfl rfl h
    · have h := h.2 c
      refine go_iload_n dX6_inWhoseName_50 rfl ?_
      refine go_iload_n dX6_inWhoseName_51 rfl ?_
      refine go_icmp_eq 70 dX6_inWhoseName_52 (by decide) (fun c => ?_) (fun c => ?_)
      · have h := h.1 c
        refine go_iinc dX6_inWhoseName_70 rfl (Nat.le_of_ble_eq_true rfl) rfl ?_
        have h := h _ rfl
        refine go_goto 33 dX6_inWhoseName_73 (by decide) ?_
        exact h
      · have h := h.2 c
        refine go_aload_n dX6_inWhoseName_55 rfl ?_
        refine go_getR dX6_inWhoseName_56 fX6_27 rfl rfl (hR 0 2 3 rfl) ?_
        refine go_iload_n dX6_inWhoseName_59 rfl ?_
        obtain ⟨hp_7, h⟩ := h
        refine go_callV0 (μ := mX6_inWhoseName) [.int _] dX6_inWhoseName_60 YX1_untold lX6_261 rfl ⟨_, rfl, rfl⟩ rfl (Nat.le_of_ble_eq_true rfl) (Nat.le_of_ble_eq_true rfl) rfl (k_X1_untold hR hp_7 ?_)
        refine go_iload_n dX6_inWhoseName_63 rfl ?_
        refine go_ineg dX6_inWhoseName_64 ?_
        refine go_icmp_ne 70 dX6_inWhoseName_65 (by decide) (fun c => ?_) (fun c => ?_)
        · have h := h.1 c
          refine go_iinc dX6_inWhoseName_70 rfl (Nat.le_of_ble_eq_true rfl) rfl ?_
          have h := h _ rfl
          refine go_goto 33 dX6_inWhoseName_73 (by decide) ?_
          exact h
        · have h := h.2 c
          refine go_iload_n dX6_inWhoseName_68 rfl ?_
          exact go_iret dX6_inWhoseName_69 rfl rfl h
theorem e_X7_inWhoseName {G : gG} {I : gI} {R : gR} {L : gL} {Q : gQ} {a : Int32} (hR : g_Fx R) (h : (¬ (0 ≤ a ∧ a ≤ I 311 0 - 1) → Q (some (.int (-1))) SH I R L) ∧ (0 ≤ a ∧ a ≤ I 311 0 - 1 → vp_in a 9 ∧ ((0 ≤ (I 311 5).toInt ∧ (I 311 5).toInt ≤ 20) ∧ (((tmF (I 311) a.toNatClampNeg) < 0 → Go G mX7_inWhoseName 30 0 0 20 [some (.ref 310), some (.int a), some (.int 0)] [] SH I R L Q) ∧ (¬ (tmF (I 311) a.toNatClampNeg) < 0 → Q (some (.int (-1))) SH I R L))))) : Mt G mX7_inWhoseName 30 0 0 [.ref 310, .int a] SH I R L Q := by
  refine go_start rfl (Nat.le_of_ble_eq_true rfl) rfl ?_
  refine go_aload_n dX7_inWhoseName_0 rfl ?_
  refine go_iload_n dX7_inWhoseName_1 rfl ?_
  refine go_callV0 (μ := mX7_inWhoseName) [.int _] dX7_inWhoseName_2 YX7_isEater lX7_343 rfl ⟨_, rfl, rfl⟩ rfl (Nat.le_of_ble_eq_true rfl) (Nat.le_of_ble_eq_true rfl) rfl (k_X7_isEater hR ?_)
  refine go_if_eq 16 dX7_inWhoseName_5 (by decide) (fun c => ?_) (fun c => ?_)
  · have h := h.1 (b0.mp c)
    refine go_iconst (v := -1) dX7_inWhoseName_16 (by decide) ?_
    exact go_iret dX7_inWhoseName_17 rfl rfl h
  · have h := h.2 (b1.mp c)
    refine go_aload_n dX7_inWhoseName_8 rfl ?_
    refine go_iload_n dX7_inWhoseName_9 rfl ?_
    obtain ⟨hp_1, h⟩ := h
    obtain ⟨hp_2, h⟩ := h
    refine go_callV0 (μ := mX7_inWhoseName) [.int _] dX7_inWhoseName_10 YX7_toldMore lX7_403 rfl ⟨_, rfl, rfl⟩ rfl (Nat.le_of_ble_eq_true rfl) (Nat.le_of_ble_eq_true rfl) rfl (k_X7_toldMore hR hp_1 hp_2 ?_)
    refine go_if_lt 18 dX7_inWhoseName_13 (by decide) (fun c => ?_) (fun c => ?_)
    · have h := h.1 c
      refine go_iconst (v := 0) dX7_inWhoseName_18 (by decide) ?_
      refine go_istore_n dX7_inWhoseName_19 (Nat.le_of_ble_eq_true rfl) rfl ?_
      exact h
    · have h := h.2 c
      refine go_iconst (v := -1) dX7_inWhoseName_16 (by decide) ?_
      exact go_iret dX7_inWhoseName_17 rfl rfl h
theorem b_X7_inWhoseName_20 {G : gG} {I : gI} {R : gR} {L : gL} {Q : gQ} {v1 v2 : Int32} (hR : g_Fx R) (h : ((I 311 0) ≤ v2 → Q (some (.int (-1))) SH I R L) ∧ (¬ (I 311 0) ≤ v2 → (v2 = v1 → ∀ v2_5 : Int32, v2_5 = v2 + 1 → Go G mX7_inWhoseName 30 0 0 20 [some (.ref 310), some (.int v1), some (.int v2_5)] [] SH I R L Q) ∧ (¬ v2 = v1 → vp_in v2 9 ∧ ((0 ≤ (I 311 5).toInt ∧ (I 311 5).toInt ≤ 20) ∧ (vp_in v1 9 ∧ ((0 ≤ (I 311 5).toInt ∧ (I 311 5).toInt ≤ 20) ∧ ((¬ (tmF (I 311) v2.toNatClampNeg) = (-(tmF (I 311) v1.toNatClampNeg)) → ∀ v2_10 : Int32, v2_10 = v2 + 1 → Go G mX7_inWhoseName 30 0 0 20 [some (.ref 310), some (.int v1), some (.int v2_10)] [] SH I R L Q) ∧ ((tmF (I 311) v2.toNatClampNeg) = (-(tmF (I 311) v1.toNatClampNeg)) → Q (some (.int v2)) SH I R L)))))))) : Go G mX7_inWhoseName 30 0 0 20 [some (.ref 310), some (.int v1), some (.int v2)] [] SH I R L Q := by
  refine go_iload_n dX7_inWhoseName_20 rfl ?_
  refine go_aload_n dX7_inWhoseName_21 rfl ?_
  refine go_getR dX7_inWhoseName_22 fX7_7 rfl rfl (hR 310 0 311 rfl) ?_
  refine go_iconst (v := 0) dX7_inWhoseName_25 (by decide) ?_
  refine go_ialdK dX7_inWhoseName_26 rfl (vp_in_nI (n := 0) (by decide) (by decide)) (k := 0) (by decide) ?_
  refine go_icmp_ge 57 dX7_inWhoseName_27 (by decide) (fun c => ?_) (fun c => ?_)
  · have h := h.1 c
    refine go_iconst (v := -1) dX7_inWhoseName_57 (by decide) ?_
    exact go_iret dX7_inWhoseName_58 rfl rfl h
  · have h := h.2 c
    refine go_iload_n dX7_inWhoseName_30 rfl ?_
    refine go_iload_n dX7_inWhoseName_31 rfl ?_
    refine go_icmp_eq 51 dX7_inWhoseName_32 (by decide) (fun c => ?_) (fun c => ?_)
    · have h := h.1 c
      refine go_iinc dX7_inWhoseName_51 rfl (Nat.le_of_ble_eq_true rfl) rfl ?_
      have h := h _ rfl
      refine go_goto 20 dX7_inWhoseName_54 (by decide) ?_
      exact h
    · have h := h.2 c
      refine go_aload_n dX7_inWhoseName_35 rfl ?_
      refine go_iload_n dX7_inWhoseName_36 rfl ?_
      obtain ⟨hp_6, h⟩ := h
      obtain ⟨hp_7, h⟩ := h
      refine go_callV0 (μ := mX7_inWhoseName) [.int _] dX7_inWhoseName_37 YX7_toldMore lX7_403 rfl ⟨_, rfl, rfl⟩ rfl (Nat.le_of_ble_eq_true rfl) (Nat.le_of_ble_eq_true rfl) rfl (k_X7_toldMore hR hp_6 hp_7 ?_)
      refine go_aload_n dX7_inWhoseName_40 rfl ?_
      refine go_iload_n dX7_inWhoseName_41 rfl ?_
      obtain ⟨hp_8, h⟩ := h
      obtain ⟨hp_9, h⟩ := h
      refine go_callV0 (μ := mX7_inWhoseName) [.int _] dX7_inWhoseName_42 YX7_toldMore lX7_403 rfl ⟨_, rfl, rfl⟩ rfl (Nat.le_of_ble_eq_true rfl) (Nat.le_of_ble_eq_true rfl) rfl (k_X7_toldMore hR hp_8 hp_9 ?_)
      refine go_ineg dX7_inWhoseName_45 ?_
      refine go_icmp_ne 51 dX7_inWhoseName_46 (by decide) (fun c => ?_) (fun c => ?_)
      · have h := h.1 c
        refine go_iinc dX7_inWhoseName_51 rfl (Nat.le_of_ble_eq_true rfl) rfl ?_
        have h := h _ rfl
        refine go_goto 20 dX7_inWhoseName_54 (by decide) ?_
        exact h
      · have h := h.2 c
        refine go_iload_n dX7_inWhoseName_49 rfl ?_
        exact go_iret dX7_inWhoseName_50 rfl rfl h
def liF (f : Nat → Int32) : Nat → Int32
  | 0 => 0
  | k + 1 => if tmF f k = 0 then liF f k else liF f k ||| (1 <<< (nI k &&& 31))
theorem tm_0 {I : gI} {R : gR} (h : Rel I R) {e : Nat} (he : e < 9) : I 7 e - I 134 e = 0 ↔ tmF (I 311) e = 0 := by
  obtain ⟨-, t2, -, -⟩ := told_ok h he
  rw [ti_eq, t2, ti_eq (x := tmF (I 311) e)]
  show -_ = (0 : Int) ↔ _ = (0 : Int)
  omega
theorem R_n {I : gI} {R : gR} (h : Rel I R) : ∃ N, N ≤ 9 ∧ I 311 0 = nI N ∧ I 3 6 = nI N := by
  obtain ⟨co, sc, oh, ok⟩ := R_co h
  have c := ci oh.1.1
  have := oh.1.2
  have e := nI_of_toInt oh.1.1
  exact ⟨_, by omega, e, co.1.trans e⟩
theorem p_liars {G : gG} {I : gI} {R : gR} {L : gL} {Q : gQ} (h : Rel I R) (hq : ∀ v I1 R1 L1, prom G mX7_liars [.ref 310] (some (.int v)) I1 R1 L1 → Q (some (.int v)) SH I1 R1 L1) : Mt G mX6_liars 30 0 0 [.ref 0] SH I R L Q := by
  have hF := h.1.1
  obtain ⟨N, hN, e1, e2⟩ := R_n h
  have o5 := (R_co h).2.2.1.2.2.2.2.2.1
  refine e_X6_liars hF ?_
  refine cnt (P := fun i => Go G mX6_liars 30 0 0 4 [some (.ref 0), some (.int (liF (I 311) i)), some (.int (nI i))] [] SH I R L Q) N (fun i hi ih => ?_) ?_
  · refine b_X6_liars_4 hF ⟨fun c => absurd c (by rw [e2]; exact nI_ge hi (by omega)), fun _ => ⟨fun c => absurd c (nI_ge (b := 9) (by omega) (by decide)), fun _ => ⟨vp_in_nI (by omega) (by decide), ?_⟩⟩⟩
    rw [nI_clamp (by omega), tm_0 h (by omega)]
    simp only [liF] at ih
    refine ⟨fun c => ?_, fun c => ?_⟩
    · rintro _ rfl
      rw [if_pos c] at ih
      rw [nI_1]; exact ih
    · rintro _ rfl _ rfl
      rw [if_neg c] at ih
      rw [nI_1]; exact ih
  · refine b_X6_liars_4 hF ⟨fun _ => hq _ _ _ _ (fun Q2 h2 => ?_), fun c => absurd (by rw [e2]; exact ti_le.mpr (Int.le_refl _)) c⟩
    refine e_X7_liars hF ?_
    refine cnt (P := fun i => Go G mX7_liars 30 0 0 4 [some (.ref 310), some (.int (liF (I 311) i)), some (.int (nI i))] [] SH I R L Q2) N (fun i hi ih => ?_) ?_
    · refine b_X7_liars_4 hF ⟨fun c => absurd c (by rw [e1]; exact nI_ge hi (by omega)), fun _ => ⟨vp_in_nI (by omega) (by decide), o5, ?_⟩⟩
      rw [nI_clamp (by omega)]
      simp only [liF] at ih
      refine ⟨fun c => ?_, fun c => ?_⟩
      · rintro _ rfl _ rfl
        rw [if_neg c] at ih
        rw [nI_1]; exact ih
      · rintro _ rfl _ rfl
        rw [if_pos c] at ih
        rw [nI_1, Int32.or_zero]; exact ih
    · exact b_X7_liars_4 hF ⟨fun _ => h2 _ _ _ h, fun c => absurd (by rw [e1]; exact ti_le.mpr (Int.le_refl _)) c⟩
/-- the first of some -/
def srch (p : Nat → Bool) : Nat → Nat → Int32
  | 0, _ => -1
  | n + 1, i => if p i = true then nI i else srch p n (i + 1)
theorem p_inWhoseName {G : gG} {I : gI} {R : gR} {L : gL} {Q : gQ} {a : Int32} (h : Rel I R) (hq : ∀ v I1 R1 L1, prom G mX7_inWhoseName [.ref 310, .int a] (some (.int v)) I1 R1 L1 → Q (some (.int v)) SH I1 R1 L1) : Mt G mX6_inWhoseName 30 0 0 [.ref 0, .int a] SH I R L Q := by
  have hF := h.1.1
  obtain ⟨N, hN, e1, e2⟩ := R_n h
  have o5 := (R_co h).2.2.1.2.2.2.2.2.1
  have oh := (R_co h).2.2.1
  have o0 : 0 ≤ I 311 0 ∧ I 311 0 ≤ 9 := ⟨ti_le.mpr oh.1.1, ti_le.mpr oh.1.2⟩
  have c0 : I 3 6 = I 311 0 := e2.trans e1.symm
  refine e_X6_inWhoseName hF ?_
  rw [c0]
  refine ⟨fun d => hq _ _ _ _ (fun Q2 h2 => e_X7_inWhoseName hF ⟨fun _ => h2 _ _ _ h, fun d' => absurd ⟨d'.1, by grind, by grind⟩ d⟩), fun d => ?_⟩
  have d' : 0 ≤ a ∧ a ≤ I 311 0 - 1 := ⟨d.1, by grind⟩
  have hv : vp_in a 9 := vi9.mpr (by grind)
  obtain ⟨i, hi, ei⟩ := vp_in_of hv (by decide)
  have ca : a.toNatClampNeg = i := by rw [ei, nI_clamp (by omega)]
  obtain ⟨t1, t2, t3, t4⟩ := told_ok h hi
  have z1 : (1 : Int32).toInt = 1 := rfl
  have z0 : (0 : Int32).toInt = 0 := rfl
  rw [ca]
  refine ⟨hv, fun d2 => ⟨hv, ?_⟩, fun d2 => hq _ _ _ _ (fun Q2 h2 => e_X7_inWhoseName hF ⟨fun q => absurd d' q, fun _ => ⟨hv, o5, fun q => absurd (ti_le.mpr ?_) d2, fun _ => h2 _ _ _ h⟩⟩)⟩
  · rintro _ rfl
    rw [ti_le, z1, t2] at d2
    have mlt : tmF (I 311) a.toNatClampNeg < 0 := by rw [ca, ti_lt, z0]; omega
    generalize hp : (fun e : Nat => !(decide (nI e = a)) && decide (tmF (I 311) e = -(tmF (I 311) i))) = p
    have cls : ∀ n j, j + n = N → Q (some (.int (srch p n j))) SH I R L → Go G mX6_inWhoseName 30 0 0 33 [some (.ref 0), some (.int a), some (.int (I 7 i - I 134 i)), some (.int (nI j))] [] SH I R L Q := by
      intro n
      induction n with
      | zero => intro j e q; exact b_X6_inWhoseName_33 hF ⟨fun _ => q, fun c => absurd (by rw [e2, show j = N by omega]; exact ti_le.mpr (Int.le_refl _)) c⟩
      | succ n ih =>
        intro j e q
        simp only [srch] at q
        have pj : p j = (!(decide (nI j = a)) && decide (tmF (I 311) j = -(tmF (I 311) i))) := by rw [← hp]
        rw [pj] at q
        have tj := (told_ok h (e := j) (by omega)).1
        refine b_X6_inWhoseName_33 hF ⟨fun c => absurd c (by rw [e2]; exact nI_ge (by omega) (by omega)), fun _ => ⟨fun c => absurd c (nI_ge (b := 9) (by omega) (by decide)), fun _ => ⟨fun c => ?_, fun c => ⟨vp_in_nI (by omega) (by decide), ?_⟩⟩⟩⟩
        · rintro _ rfl
          rw [if_neg (by simp [c])] at q
          rw [nI_1]; exact ih (j + 1) (by omega) q
        · rw [nI_clamp (by omega), tj, t1]
          have en : -tmF (I 311) j = - -tmF (I 311) i ↔ tmF (I 311) j = -tmF (I 311) i := by rw [Int32.neg_inj]
          rw [en]
          refine ⟨fun c2 => ?_, fun c2 => ?_⟩
          · rintro _ rfl
            rw [if_neg (by simp [c2])] at q
            rw [← t1, nI_1]; exact ih (j + 1) (by omega) q
          · rw [if_pos (by simp [c, c2])] at q
            exact q
    refine cls N 0 (by omega) (hq _ _ _ _ (fun Q2 h2 => e_X7_inWhoseName hF ⟨fun q => absurd d' q, fun _ => ⟨hv, o5, fun _ => ?_, fun q => absurd mlt q⟩⟩))
    have mod : ∀ n j, j + n = N → Q2 (some (.int (srch p n j))) SH I R L → Go G mX7_inWhoseName 30 0 0 20 [some (.ref 310), some (.int a), some (.int (nI j))] [] SH I R L Q2 := by
      intro n
      induction n with
      | zero => intro j e q; exact b_X7_inWhoseName_20 hF ⟨fun _ => q, fun c => absurd (by rw [e1, show j = N by omega]; exact ti_le.mpr (Int.le_refl _)) c⟩
      | succ n ih =>
        intro j e q
        simp only [srch] at q
        have pj : p j = (!(decide (nI j = a)) && decide (tmF (I 311) j = -(tmF (I 311) i))) := by rw [← hp]
        rw [pj] at q
        refine b_X7_inWhoseName_20 hF ⟨fun c => absurd c (by rw [e1]; exact nI_ge (by omega) (by omega)), fun _ => ⟨fun c => ?_, fun c => ⟨vp_in_nI (by omega) (by decide), o5, hv, o5, ?_⟩⟩⟩
        · rintro _ rfl
          rw [if_neg (by simp [c])] at q
          rw [nI_1]; exact ih (j + 1) (by omega) q
        · rw [nI_clamp (by omega), ca]
          refine ⟨fun c2 => ?_, fun c2 => ?_⟩
          · rintro _ rfl
            rw [if_neg (by simp [c2])] at q
            rw [nI_1]; exact ih (j + 1) (by omega) q
          · rw [if_pos (by simp [c, c2])] at q
            exact q
    exact mod N 0 (by omega) (h2 _ _ _ h)
  · rw [ca, ti_lt, z0] at q
    rw [z1, t2]; omega
