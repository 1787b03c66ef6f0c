theorem e_X6_next {G : gG} {I : gI} {R : gR} {L : gL} {Q : gQ} {m : Nat} (hR : g_Fx R) (h : (¬ (I 3 11) = 0 → (m < 1024) ∧ ((I 3 11 = nI m) ∧ (∀ v2_3 : Int32, v2_3 = (nI (maF m (-20 : Int32))) → Go G mX6_next 30 0 0 25 [some (.ref 0), some (.int (-20)), some (.int v2_3), some (.int (-19)), none] [] SH I R L Q))) ∧ ((I 3 11) = 0 → Q (some (.int (-99))) SH I R L)) : Mt G mX6_next 30 0 0 [.ref 0] SH I R L Q := by
  refine go_start rfl (Nat.le_of_ble_eq_true rfl) rfl ?_
  refine go_aload_n dX6_next_0 rfl ?_
  refine go_getR dX6_next_1 fX6_27 rfl rfl (hR 0 2 3 rfl) ?_
  refine go_getI dX6_next_4 fX6_230 rfl rfl ?_
  refine go_if_ne 13 dX6_next_7 (by decide) (fun c => ?_) (fun c => ?_)
  · have h := h.1 c
    refine go_bipush (v := -20) dX6_next_13 (by decide) ?_
    refine go_istore_n dX6_next_15 (Nat.le_of_ble_eq_true rfl) rfl ?_
    refine go_aload_n dX6_next_16 rfl ?_
    refine go_iload_n dX6_next_17 rfl ?_
    obtain ⟨hp_1, h⟩ := h
    obtain ⟨hp_2, h⟩ := h
    refine go_callV0 (μ := mX6_next) [.int _] dX6_next_18 YX6_mostAlike lX6_233 rfl ⟨_, rfl, rfl⟩ rfl (Nat.le_of_ble_eq_true rfl) (Nat.le_of_ble_eq_true rfl) rfl (k_X6_mostAlike hR hp_1 hp_2 ?_)
    refine go_istore_n dX6_next_21 (Nat.le_of_ble_eq_true rfl) rfl ?_
    have h := h _ rfl
    refine go_bipush (v := -19) dX6_next_22 (by decide) ?_
    refine go_istore_n dX6_next_24 (Nat.le_of_ble_eq_true rfl) rfl ?_
    exact h
  · have h := h.2 c
    refine go_bipush (v := -99) dX6_next_10 (by decide) ?_
    exact go_iret dX6_next_12 rfl rfl h
theorem b_X6_next_25 {G : gG} {I : gI} {R : gR} {L : gL} {Q : gQ} {m : Nat} {v1 v2 v3 : Int32} (hR : g_Fx R) (h : (20 < v3 → Q (some (.int v1)) SH I R L) ∧ (¬ 20 < v3 → (m < 1024) ∧ ((I 3 11 = nI m) ∧ (∀ v4_7 : Int32, v4_7 = (nI (maF m v3)) → (v2 ≤ v4_7 → ∀ v3_8 : Int32, v3_8 = v3 + 1 → Go G mX6_next 30 0 0 25 [some (.ref 0), some (.int v1), some (.int v2), some (.int v3_8), none] [] SH I R L Q) ∧ (¬ v2 ≤ v4_7 → ∀ v3_9 : Int32, v3_9 = v3 + 1 → Go G mX6_next 30 0 0 25 [some (.ref 0), some (.int v3), some (.int v4_7), some (.int v3_9), none] [] SH I R L Q))))) : Go G mX6_next 30 0 0 25 [some (.ref 0), some (.int v1), some (.int v2), some (.int v3), none] [] SH I R L Q := by
  refine go_iload_n dX6_next_25 rfl ?_
  refine go_bipush (v := 20) dX6_next_26 (by decide) ?_
  refine go_icmp_gt 55 dX6_next_28 (by decide) (fun c => ?_) (fun c => ?_)
  · have h := h.1 c
    refine go_iload_n dX6_next_55 rfl ?_
    exact go_iret dX6_next_56 rfl rfl h
  · have h := h.2 c
    refine go_aload_n dX6_next_31 rfl ?_
    refine go_iload_n dX6_next_32 rfl ?_
    obtain ⟨hp_5, h⟩ := h
    obtain ⟨hp_6, h⟩ := h
    refine go_callV0 (μ := mX6_next) [.int _] dX6_next_33 YX6_mostAlike lX6_233 rfl ⟨_, rfl, rfl⟩ rfl (Nat.le_of_ble_eq_true rfl) (Nat.le_of_ble_eq_true rfl) rfl (k_X6_mostAlike hR hp_5 hp_6 ?_)
    refine go_istore dX6_next_36 (Nat.le_of_ble_eq_true rfl) rfl ?_
    have h := h _ rfl
    refine go_iload dX6_next_38 rfl ?_
    refine go_iload_n dX6_next_40 rfl ?_
    refine go_icmp_ge 49 dX6_next_41 (by decide) (fun c => ?_) (fun c => ?_)
    · have h := h.1 c
      refine go_iinc dX6_next_49 rfl (Nat.le_of_ble_eq_true rfl) rfl ?_
      have h := h _ rfl
      refine go_goto 25 dX6_next_52 (by decide) ?_
      refine go_drop 4 ?_
      exact h
    · have h := h.2 c
      refine go_iload dX6_next_44 rfl ?_
      refine go_istore_n dX6_next_46 (Nat.le_of_ble_eq_true rfl) rfl ?_
      refine go_iload_n dX6_next_47 rfl ?_
      refine go_istore_n dX6_next_48 (Nat.le_of_ble_eq_true rfl) rfl ?_
      refine go_iinc dX6_next_49 rfl (Nat.le_of_ble_eq_true rfl) rfl ?_
      have h := h _ rfl
      refine go_goto 25 dX6_next_52 (by decide) ?_
      refine go_drop 4 ?_
      exact h
theorem e_X7_next {G : gG} {I : gI} {R : gR} {L : gL} {Q : gQ} {m : Nat} (hR : g_Fx R) (h : (0 ≤ (I 311 4).toInt ∧ (I 311 4).toInt ≤ 12) ∧ (∀ v1_2 : Int32, v1_2 = (fitF (I 311) (I 311 4).toNatClampNeg) → Go G mX7_next 30 0 0 15 [none, some (.int v1_2), some (.int (-99)), some (.int 11), some (.int (-20)), none] [] SH I R L Q)) : Mt G mX7_next 30 0 0 [.ref 310] SH I R L Q := by
  refine go_start rfl (Nat.le_of_ble_eq_true rfl) rfl ?_
  refine go_aload_n dX7_next_0 rfl ?_
  obtain ⟨hp_1, h⟩ := h
  refine go_callV0 (μ := mX7_next) [] dX7_next_1 YX7_fits lX7_391 rfl ⟨_, rfl, rfl⟩ rfl (Nat.le_of_ble_eq_true rfl) (Nat.le_of_ble_eq_true rfl) rfl (k_X7_fits hR hp_1 ?_)
  refine go_istore_n dX7_next_4 (Nat.le_of_ble_eq_true rfl) rfl ?_
  have h := h _ rfl
  refine go_bipush (v := -99) dX7_next_5 (by decide) ?_
  refine go_istore_n dX7_next_7 (Nat.le_of_ble_eq_true rfl) rfl ?_
  refine go_bipush (v := 11) dX7_next_8 (by decide) ?_
  refine go_istore_n dX7_next_10 (Nat.le_of_ble_eq_true rfl) rfl ?_
  refine go_bipush (v := -20) dX7_next_11 (by decide) ?_
  refine go_istore dX7_next_13 (Nat.le_of_ble_eq_true rfl) rfl ?_
  refine go_drop 0 ?_
  exact h
theorem b_X7_next_15 {G : gG} {I : gI} {R : gR} {L : gL} {Q : gQ} {m : Nat} {v1 v2 v3 v4 : Int32} (hR : g_Fx R) (h : (21 ≤ v4 → Q (some (.int v2)) SH I R L) ∧ (¬ 21 ≤ v4 → (v1 = 0 → Q (some (.int v2)) SH I R L) ∧ (¬ v1 = 0 → (m < 1024) ∧ ((v1 = nI m) ∧ (∀ v5_5 : Int32, v5_5 = (nI (maF m v4)) → (v3 ≤ v5_5 → ∀ v4_6 : Int32, v4_6 = v4 + 1 → Go G mX7_next 30 0 0 15 [none, some (.int v1), some (.int v2), some (.int v3), some (.int v4_6), none] [] SH I R L Q) ∧ (¬ v3 ≤ v5_5 → ∀ v4_7 : Int32, v4_7 = v4 + 1 → Go G mX7_next 30 0 0 15 [none, some (.int v1), some (.int v4), some (.int v5_5), some (.int v4_7), none] [] SH I R L Q)))))) : Go G mX7_next 30 0 0 15 [none, some (.int v1), some (.int v2), some (.int v3), some (.int v4), none] [] SH I R L Q := by
  refine go_iload dX7_next_15 rfl ?_
  refine go_bipush (v := 21) dX7_next_17 (by decide) ?_
  refine go_icmp_ge 52 dX7_next_19 (by decide) (fun c => ?_) (fun c => ?_)
  · have h := h.1 c
    refine go_iload_n dX7_next_52 rfl ?_
    exact go_iret dX7_next_53 rfl rfl h
  · have h := h.2 c
    refine go_iload_n dX7_next_22 rfl ?_
    refine go_if_eq 52 dX7_next_23 (by decide) (fun c => ?_) (fun c => ?_)
    · have h := h.1 c
      refine go_iload_n dX7_next_52 rfl ?_
      exact go_iret dX7_next_53 rfl rfl h
    · have h := h.2 c
      refine go_iload_n dX7_next_26 rfl ?_
      refine go_iload dX7_next_27 rfl ?_
      obtain ⟨hp_3, h⟩ := h
      obtain ⟨hp_4, h⟩ := h
      refine go_callS0 (μ := mX7_next) [.int _, .int _] dX7_next_29 YX7_mostAlike lX7_394 rfl (Nat.le_of_ble_eq_true rfl) (Nat.le_of_ble_eq_true rfl) rfl (k_X7_mostAlike hR hp_3 hp_4 ?_)
      refine go_istore dX7_next_32 (Nat.le_of_ble_eq_true rfl) rfl ?_
      have h := h _ rfl
      refine go_iload dX7_next_34 rfl ?_
      refine go_iload_n dX7_next_36 rfl ?_
      refine go_icmp_ge 46 dX7_next_37 (by decide) (fun c => ?_) (fun c => ?_)
      · have h := h.1 c
        refine go_iinc dX7_next_46 rfl (Nat.le_of_ble_eq_true rfl) rfl ?_
        have h := h _ rfl
        refine go_goto 15 dX7_next_49 (by decide) ?_
        refine go_drop 5 ?_
        exact h
      · have h := h.2 c
        refine go_iload dX7_next_40 rfl ?_
        refine go_istore_n dX7_next_42 (Nat.le_of_ble_eq_true rfl) rfl ?_
        refine go_iload dX7_next_43 rfl ?_
        refine go_istore_n dX7_next_45 (Nat.le_of_ble_eq_true rfl) rfl ?_
        refine go_iinc dX7_next_46 rfl (Nat.le_of_ble_eq_true rfl) rfl ?_
        have h := h _ rfl
        refine go_goto 15 dX7_next_49 (by decide) ?_
        refine go_drop 5 ?_
        exact h
def ld (j : Nat) : Int32 := nI j + (-20)
theorem ld_i {j : Nat} (h : j ≤ 50) : (ld j).toInt = (j : Int) - 20 := by
  have e : (-20 : Int32).toInt = -20 := rfl
  unfold ld
  rw [ti_add] <;> rw [nI_toInt (by omega), e] <;> omega
theorem ld_s (j : Nat) : ld j + 1 = ld (j + 1) := by
  unfold ld
  rw [nI_succ]
  grind
def nxF (m : Nat) : Nat → Int32 × Nat
  | 0 => (-99, 11)
  | j + 1 => if maF m (ld j) < (nxF m j).2 then (ld j, maF m (ld j)) else nxF m j
theorem maF_le (m : Nat) (l : Int32) : maF m l ≤ 10 := by
  have l1 := caN_le m l 1 10
  have l2 := caN_le m l (-1) 10
  have l3 := caN_le m l 0 10
  unfold maF; omega
theorem nxF_le (m : Nat) : ∀ j, (nxF m j).2 ≤ 11
  | 0 => Nat.le_refl _
  | j + 1 => by
    have := nxF_le m j
    have := maF_le m (ld j)
    simp only [nxF]; split
    · show maF m (ld j) ≤ 11; omega
    · exact nxF_le m j
theorem p_next {G : gG} {I : gI} {R : gR} {L : gL} {Q : gQ} (h : Rel I R) (hq : ∀ v I1 R1 L1, prom G mX7_next [.ref 310] (some (.int v)) I1 R1 L1 → Q (some (.int v)) SH I1 R1 L1) : Mt G mX6_next 30 0 0 [.ref 0] SH I R L Q := by
  have hF := h.1.1
  obtain ⟨co, sc, oh, ok⟩ := R_co h
  have c4 := oh.2.2.2.2.1
  obtain ⟨m, h1, h2, h3⟩ := fit_b (f := I 311) (I 311 4).toNatClampNeg
  have e11 : I 3 11 = nI m := co.2.2.2.2.2.2.2.1.trans h2
  have z20 : (20 : Int32).toInt = 20 := rfl
  have z21 : (21 : Int32).toInt = 21 := rfl
  have l20 : (-20 : Int32) = ld 0 := by decide
  have l19 : (-19 : Int32) = ld 1 := by decide
  refine e_X6_next (m := m) hF ⟨fun d => ⟨h1, e11, ?_⟩, fun d => hq _ _ _ _ (fun Q2 h2' => e_X7_next (m := m) hF ⟨c4, ?_⟩)⟩
  · rintro _ rfl
    have b1 : nxF m 1 = (ld 0, maF m (ld 0)) := by
      have := maF_le m (ld 0)
      have e : nxF m 1 = if maF m (ld 0) < (nxF m 0).2 then (ld 0, maF m (ld 0)) else nxF m 0 := rfl
      rw [e]; exact if_pos (show maF m (ld 0) < 11 by omega)
    have cls : ∀ n j, j + n = 41 → Q (some (.int (nxF m 41).1)) SH I R L → Go G mX6_next 30 0 0 25 [some (.ref 0), some (.int (nxF m j).1), some (.int (nI (nxF m j).2)), some (.int (ld j)), none] [] SH I R L Q := by
      intro n
      induction n with
      | zero => intro j e q; exact b_X6_next_25 (m := m) hF ⟨fun _ => by rw [show j = 41 by omega]; exact q, fun c => absurd (ti_lt.mpr (by rw [z20, ld_i (by omega)]; omega)) c⟩
      | succ n ih =>
        intro j e q
        have ih' := ih (j + 1) (by omega) q
        simp only [nxF] at ih'
        have a1 := maF_le m (ld j)
        have a2 := nxF_le m j
        refine b_X6_next_25 (m := m) hF ⟨fun c => absurd c (fun c => by rw [ti_lt, z20, ld_i (by omega)] at c; omega), fun _ => ⟨h1, e11, ?_⟩⟩
        rintro _ rfl
        rw [nI_leI (by omega) (by omega)]
        refine ⟨fun c => ?_, fun c => ?_⟩
        · rintro _ rfl
          rw [if_neg (by omega)] at ih'
          rw [ld_s]; exact ih'
        · rintro _ rfl
          rw [if_pos (by omega)] at ih'
          rw [ld_s]; exact ih'
    have k := cls 40 1 (by omega) (hq _ _ _ _ (fun Q2 h2' => e_X7_next (m := m) hF ⟨c4, ?_⟩))
    · rw [b1] at k
      rw [l20, l19]; exact k
    · rintro _ rfl
      rw [h2]
      have mod : ∀ n j, j + n = 41 → Q2 (some (.int (nxF m 41).1)) SH I R L → Go G mX7_next 30 0 0 15 [none, some (.int (nI m)), some (.int (nxF m j).1), some (.int (nI (nxF m j).2)), some (.int (ld j)), none] [] SH I R L Q2 := by
        intro n
        induction n with
        | zero => intro j e q; exact b_X7_next_15 (m := m) hF ⟨fun _ => by rw [show j = 41 by omega]; exact q, fun c => absurd (ti_le.mpr (by rw [z21, ld_i (by omega)]; omega)) c⟩
        | succ n ih =>
          intro j e q
          have ih' := ih (j + 1) (by omega) q
          simp only [nxF] at ih'
          have a1 := maF_le m (ld j)
          have a2 := nxF_le m j
          refine b_X7_next_15 (m := m) hF ⟨fun c => absurd c (fun c => by rw [ti_le, z21, ld_i (by omega)] at c; omega), fun _ => ⟨fun c => absurd (e11.trans c) d, fun _ => ⟨h1, rfl, ?_⟩⟩⟩
          rintro _ rfl
          rw [nI_leI (by omega) (by omega)]
          refine ⟨fun c => ?_, fun c => ?_⟩
          · rintro _ rfl
            rw [if_neg (by omega)] at ih'
            rw [ld_s]; exact ih'
          · rintro _ rfl
            rw [if_pos (by omega)] at ih'
            rw [ld_s]; exact ih'
      exact mod 41 0 (by omega) (h2' _ _ _ h)
  · rintro _ rfl
    rw [h2]
    exact b_X7_next_15 (m := m) hF ⟨fun c => absurd c (by decide), fun _ => ⟨fun _ => h2' _ _ _ h, fun c => absurd (e11.symm.trans d) c⟩⟩
