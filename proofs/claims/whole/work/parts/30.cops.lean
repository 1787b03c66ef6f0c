theorem e_X1_keepStep {G : gG} {I : gI} {R : gR} {L : gL} {Q : gQ} (hR : g_Fx R) (h : ((I 3 2) < 30 → vp_in (I 3 2) 30 ∧ (∃ x_1, R 8 (I 3 2).toNatClampNeg = some x_1 ∧ g_Sc x_1 ∧ (∀ I_2 : gI, I_2 = cpSc I 4 x_1 → ∀ I_3 : gI, I_3 = up I_2 3 2 ((I_2 3 2) + 1) → Q none SH I_3 R L))) ∧ (¬ (I 3 2) < 30 → ∃ x_4, R 8 0 = some x_4 ∧ g_Sc x_4 ∧ (Go G mX1_keepStep 4 0 0 21 [some (.ref 3), some (.ref x_4), some (.int 1)] [] SH I R L Q))) : Mt G mX1_keepStep 4 0 0 [.ref 3] SH I R L Q := by
  refine go_start rfl (Nat.le_of_ble_eq_true rfl) rfl ?_
  refine go_aload_n dX1_keepStep_0 rfl ?_
  refine go_getI dX1_keepStep_1 fX1_52 rfl rfl ?_
  refine go_aload_n dX1_keepStep_4 rfl ?_
  refine go_getR dX1_keepStep_5 fX1_18 rfl rfl (hR 3 1 8 rfl) ?_
  refine go_alen (v := 30) 3 dX1_keepStep_8 rfl (by decide) (by decide) ?_
  refine go_icmp_lt 74 dX1_keepStep_9 (by decide) (fun c => ?_) (fun c => ?_)
  · have h := h.1 c
    refine go_aload_n dX1_keepStep_74 rfl ?_
    refine go_getR dX1_keepStep_75 fX1_18 rfl rfl (hR 3 1 8 rfl) ?_
    refine go_aload_n dX1_keepStep_78 rfl ?_
    refine go_getI dX1_keepStep_79 fX1_52 rfl rfl ?_
    obtain ⟨hi, h⟩ := h
    obtain ⟨x_1, hrx_1, hx_1, h⟩ := h
    refine go_aald4 dX1_keepStep_82 rfl hi hrx_1 ?_
    refine go_aload_n dX1_keepStep_83 rfl ?_
    refine go_getR dX1_keepStep_84 fX1_12 rfl rfl (hR 3 0 4 rfl) ?_
    refine go_callV0 (μ := mX1_keepStep) [.ref 4] dX1_keepStep_87 YX4_copyFrom lX1_48 (Sc_s0 hx_1) ⟨_, rfl, rfl⟩ rfl (Nat.le_of_ble_eq_true rfl) (Nat.le_of_ble_eq_true rfl) rfl (k_X4_copyFrom hR hx_1 Sc_4 ?_)
    have h := h _ rfl
    refine go_aload_n dX1_keepStep_90 rfl ?_
    refine go_dup dX1_keepStep_91 rfl ?_
    refine go_getI dX1_keepStep_92 fX1_52 rfl rfl ?_
    refine go_iconst (v := 1) dX1_keepStep_95 (by decide) ?_
    refine go_iadd dX1_keepStep_96 ?_
    refine go_putI dX1_keepStep_97 fX1_52 rfl rfl rfl rfl ?_
    have h := h _ rfl
    exact go_vret dX1_keepStep_100 rfl rfl h
  · have h := h.2 c
    refine go_aload_n dX1_keepStep_12 rfl ?_
    refine go_getR dX1_keepStep_13 fX1_18 rfl rfl (hR 3 1 8 rfl) ?_
    refine go_iconst (v := 0) dX1_keepStep_16 (by decide) ?_
    obtain ⟨x_4, hrx_4, hx_4, h⟩ := h
    refine go_aald4K dX1_keepStep_17 rfl (vp_in_nI (n := 0) (by decide) (by decide)) (k := 0) (by decide) hrx_4 ?_
    refine go_astore_n dX1_keepStep_18 (Nat.le_of_ble_eq_true rfl) rfl ?_
    refine go_iconst (v := 1) dX1_keepStep_19 (by decide) ?_
    refine go_istore_n dX1_keepStep_20 (Nat.le_of_ble_eq_true rfl) rfl ?_
    exact h
theorem b_X1_keepStep_21 {G : gG} {I : gI} {R : gR} {L : gL} {Q : gQ} {v2 : Int32} {r1 : Nat} (hR : g_Fx R) (hr1 : g_Sc r1) (h : (30 ≤ v2 → vp_in ((30 : Int32) - 1) 30 ∧ (∀ R_6 : gR, R_6 = upR R 8 ((30 : Int32) - 1).toNatClampNeg (some r1) → ∀ I_7 : gI, I_7 = up I 3 2 ((30 : Int32) - 1) → vp_in (I_7 3 2) 30 ∧ (∃ x_8, R_6 8 (I_7 3 2).toNatClampNeg = some x_8 ∧ g_Sc x_8 ∧ (∀ I_9 : gI, I_9 = cpSc I_7 4 x_8 → ∀ I_10 : gI, I_10 = up I_9 3 2 ((I_9 3 2) + 1) → Q none SH I_10 R_6 L)))) ∧ (¬ 30 ≤ v2 → vp_in v2 30 ∧ (∃ x_11, R 8 v2.toNatClampNeg = some x_11 ∧ g_Sc x_11 ∧ (vp_in (v2 - 1) 30 ∧ (∀ R_12 : gR, R_12 = upR R 8 (v2 - 1).toNatClampNeg (some x_11) → ∀ v2_13 : Int32, v2_13 = v2 + 1 → Go G mX1_keepStep 4 0 0 21 [some (.ref 3), some (.ref r1), some (.int v2_13)] [] SH I R_12 L Q))))) : Go G mX1_keepStep 4 0 0 21 [some (.ref 3), some (.ref r1), some (.int v2)] [] SH I R L Q := by
  refine go_iload_n dX1_keepStep_21 rfl ?_
  refine go_aload_n dX1_keepStep_22 rfl ?_
  refine go_getR dX1_keepStep_23 fX1_18 rfl rfl (hR 3 1 8 rfl) ?_
  refine go_alen (v := 30) 3 dX1_keepStep_26 rfl (by decide) (by decide) ?_
  refine go_icmp_ge 50 dX1_keepStep_27 (by decide) (fun c => ?_) (fun c => ?_)
  · have h := h.1 c
    refine go_aload_n dX1_keepStep_50 rfl ?_
    refine go_getR dX1_keepStep_51 fX1_18 rfl rfl (hR 3 1 8 rfl) ?_
    refine go_aload_n dX1_keepStep_54 rfl ?_
    refine go_getR dX1_keepStep_55 fX1_18 rfl rfl (hR 3 1 8 rfl) ?_
    refine go_alen (v := 30) 3 dX1_keepStep_58 rfl (by decide) (by decide) ?_
    refine go_iconst (v := 1) dX1_keepStep_59 (by decide) ?_
    refine go_isub dX1_keepStep_60 ?_
    refine go_aload_n dX1_keepStep_61 rfl ?_
    obtain ⟨hi, h⟩ := h
    refine go_aast (κ := 0) (t := 0) dX1_keepStep_62 rfl (fun _ => rfl) (Sc_s0 hr1) ⟨_, rfl, rfl⟩ hi ?_
    have h := h _ rfl
    have hR_6 := g_Fx_up (c := 8) (i := ((30 : Int32) - 1).toNatClampNeg) (x := some r1) (g_Rdyn8 _) hR
    refine go_aload_n dX1_keepStep_63 rfl ?_
    refine go_aload_n dX1_keepStep_64 rfl ?_
    refine go_getR dX1_keepStep_65 fX1_18 rfl rfl (hR_6 3 1 8 rfl) ?_
    refine go_alen (v := 30) 3 dX1_keepStep_68 rfl (by decide) (by decide) ?_
    refine go_iconst (v := 1) dX1_keepStep_69 (by decide) ?_
    refine go_isub dX1_keepStep_70 ?_
    refine go_putI dX1_keepStep_71 fX1_52 rfl rfl rfl rfl ?_
    have h := h _ rfl
    refine go_aload_n dX1_keepStep_74 rfl ?_
    refine go_getR dX1_keepStep_75 fX1_18 rfl rfl (hR_6 3 1 8 rfl) ?_
    refine go_aload_n dX1_keepStep_78 rfl ?_
    refine go_getI dX1_keepStep_79 fX1_52 rfl rfl ?_
    obtain ⟨hi, h⟩ := h
    obtain ⟨x_8, hrx_8, hx_8, h⟩ := h
    refine go_aald4 dX1_keepStep_82 rfl hi hrx_8 ?_
    refine go_aload_n dX1_keepStep_83 rfl ?_
    refine go_getR dX1_keepStep_84 fX1_12 rfl rfl (hR_6 3 0 4 rfl) ?_
    refine go_callV0 (μ := mX1_keepStep) [.ref 4] dX1_keepStep_87 YX4_copyFrom lX1_48 (Sc_s0 hx_8) ⟨_, rfl, rfl⟩ rfl (Nat.le_of_ble_eq_true rfl) (Nat.le_of_ble_eq_true rfl) rfl (k_X4_copyFrom hR_6 hx_8 Sc_4 ?_)
    have h := h _ rfl
    refine go_aload_n dX1_keepStep_90 rfl ?_
    refine go_dup dX1_keepStep_91 rfl ?_
    refine go_getI dX1_keepStep_92 fX1_52 rfl rfl ?_
    refine go_iconst (v := 1) dX1_keepStep_95 (by decide) ?_
    refine go_iadd dX1_keepStep_96 ?_
    refine go_putI dX1_keepStep_97 fX1_52 rfl rfl rfl rfl ?_
    have h := h _ rfl
    exact go_vret dX1_keepStep_100 rfl rfl h
  · have h := h.2 c
    refine go_aload_n dX1_keepStep_30 rfl ?_
    refine go_getR dX1_keepStep_31 fX1_18 rfl rfl (hR 3 1 8 rfl) ?_
    refine go_iload_n dX1_keepStep_34 rfl ?_
    refine go_iconst (v := 1) dX1_keepStep_35 (by decide) ?_
    refine go_isub dX1_keepStep_36 ?_
    refine go_aload_n dX1_keepStep_37 rfl ?_
    refine go_getR dX1_keepStep_38 fX1_18 rfl rfl (hR 3 1 8 rfl) ?_
    refine go_iload_n dX1_keepStep_41 rfl ?_
    obtain ⟨hi, h⟩ := h
    obtain ⟨x_11, hrx_11, hx_11, h⟩ := h
    refine go_aald4 dX1_keepStep_42 rfl hi hrx_11 ?_
    obtain ⟨hi, h⟩ := h
    refine go_aast (κ := 0) (t := 0) dX1_keepStep_43 rfl (fun _ => rfl) (Sc_s0 hx_11) ⟨_, rfl, rfl⟩ hi ?_
    have h := h _ rfl
    have hR_12 := g_Fx_up (c := 8) (i := (v2 - 1).toNatClampNeg) (x := some x_11) (g_Rdyn8 _) hR
    refine go_iinc dX1_keepStep_44 rfl (Nat.le_of_ble_eq_true rfl) rfl ?_
    have h := h _ rfl
    refine go_goto 21 dX1_keepStep_47 (by decide) ?_
    exact h
theorem e_X1_forgetTold {G : gG} {I : gI} {R : gR} {L : gL} {Q : gQ} (hR : g_Fx R) (h : Go G mX1_forgetTold 1 0 0 2 [some (.ref 3), some (.int 0)] [] SH I R L Q) : Mt G mX1_forgetTold 1 0 0 [.ref 3] SH I R L Q := by
  refine go_start rfl (Nat.le_of_ble_eq_true rfl) rfl ?_
  refine go_iconst (v := 0) dX1_forgetTold_0 (by decide) ?_
  refine go_istore_n dX1_forgetTold_1 (Nat.le_of_ble_eq_true rfl) rfl ?_
  exact h
theorem b_X1_forgetTold_2 {G : gG} {I : gI} {R : gR} {L : gL} {Q : gQ} {v1 : Int32} (hR : g_Fx R) (h : (9 ≤ v1 → ∀ I_1 : gI, I_1 = up I 3 14 0 → Q none SH I_1 R L) ∧ (¬ 9 ≤ v1 → vp_in v1 9 ∧ (∀ I_2 : gI, I_2 = up I 134 v1.toNatClampNeg 0 → ∀ v1_3 : Int32, v1_3 = v1 + 1 → Go G mX1_forgetTold 1 0 0 2 [some (.ref 3), some (.int v1_3)] [] SH I_2 R L Q))) : Go G mX1_forgetTold 1 0 0 2 [some (.ref 3), some (.int v1)] [] SH I R L Q := by
  refine go_iload_n dX1_forgetTold_2 rfl ?_
  refine go_aload_n dX1_forgetTold_3 rfl ?_
  refine go_getR dX1_forgetTold_4 fX1_45 rfl rfl (hR 3 13 134 rfl) ?_
  refine go_alen (v := 9) 0 dX1_forgetTold_7 rfl (by decide) (by decide) ?_
  refine go_icmp_ge 24 dX1_forgetTold_8 (by decide) (fun c => ?_) (fun c => ?_)
  · have h := h.1 c
    refine go_aload_n dX1_forgetTold_24 rfl ?_
    refine go_iconst (v := 0) dX1_forgetTold_25 (by decide) ?_
    refine go_putI dX1_forgetTold_26 fX1_70 rfl rfl rfl rfl ?_
    have h := h _ rfl
    exact go_vret dX1_forgetTold_29 rfl rfl h
  · have h := h.2 c
    refine go_aload_n dX1_forgetTold_11 rfl ?_
    refine go_getR dX1_forgetTold_12 fX1_45 rfl rfl (hR 3 13 134 rfl) ?_
    refine go_iload_n dX1_forgetTold_15 rfl ?_
    refine go_iconst (v := 0) dX1_forgetTold_16 (by decide) ?_
    obtain ⟨hi, h⟩ := h
    refine go_iast dX1_forgetTold_17 rfl hi ?_
    have h := h _ rfl
    refine go_iinc dX1_forgetTold_18 rfl (Nat.le_of_ble_eq_true rfl) rfl ?_
    have h := h _ rfl
    refine go_goto 2 dX1_forgetTold_21 (by decide) ?_
    exact h
/-! the court's own deeds -/
/-- the step scenes are those thirty, in some order -/
def pmR (R : gR) (π : Nat → Nat) : Prop := (∀ i, i < 30 → π i < 30 ∧ R 8 i = some (9 + 4 * π i)) ∧ ∀ i j, i < 30 → j < 30 → π i = π j → i = j
def rot (π : Nat → Nat) : Nat → Nat := fun i => if i < 29 then π (i + 1) else π 0
theorem rot_inj {π : Nat → Nat} (h : ∀ i j, i < 30 → j < 30 → π i = π j → i = j) : ∀ i j, i < 30 → j < 30 → rot π i = rot π j → i = j := by
  intro i j hi hj e
  unfold rot at e
  split at e <;> split at e
  · have := h _ _ (by omega) (by omega) e; omega
  · have := h _ _ (by omega) (by omega) e; omega
  · have := h _ _ (by omega) (by omega) e; omega
  · omega
theorem cpSc_off {I : gI} {z x a : Nat} (h : a < x ∨ x + 3 < a) : cpSc I z x a = I a := by
  unfold cpSc
  rw [up_off a (by omega), up_off a (by omega), up_off a (by omega), cpy_off (by omega), cpy_off (by omega), cpy_off (by omega)]
/-- scene x is as scene z was -/
def scEq (I' : gI) (x : Nat) (I : gI) (z : Nat) : Prop := (∀ j, j < 4 → I' (x + 1) j = I (z + 1) j) ∧ (∀ e, e < 9 → I' (x + 2) e = I (z + 2) e) ∧ (∀ e, e < 9 → I' (x + 3) e = I (z + 3) e) ∧ I' x 3 = I z 3 ∧ I' x 4 = I z 4 ∧ I' x 5 = I z 5
theorem cpSc_eq {I : gI} {z x : Nat} (h : z + 3 < x ∨ x + 3 < z) : scEq (cpSc I z x) x I z := by
  unfold cpSc scEq
  refine ⟨fun j hj => ?_, fun e he => ?_, fun e he => ?_, ?_, ?_, ?_⟩
  · rw [up_nc (by omega), up_nc (by omega), up_nc (by omega), cpy_off (by omega), cpy_off (by omega), cpy_at, if_pos (by omega)]; congr 1; omega
  · rw [up_nc (by omega), up_nc (by omega), up_nc (by omega), cpy_off (by omega), cpy_at, if_pos (by omega), cpy_off (by omega)]; congr 1; omega
  · rw [up_nc (by omega), up_nc (by omega), up_nc (by omega), cpy_at, if_pos (by omega), cpy_off (by omega), cpy_off (by omega)]; congr 1; omega
  · rw [up_ni (by omega), up_ni (by omega), up_eq, cpy_off (by omega), cpy_off (by omega), cpy_off (by omega)]
  · rw [up_ni (by omega), up_eq, up_nc (by omega), cpy_off (by omega), cpy_off (by omega), cpy_off (by omega)]
  · rw [up_eq, up_nc (by omega), up_nc (by omega), cpy_off (by omega), cpy_off (by omega), cpy_off (by omega)]
theorem upR_at {R : gR} {c i : Nat} {x : Option Nat} : upR R c i x c i = x := by simp [upR]
theorem upR_ne {R : gR} {c i a j : Nat} {x : Option Nat} (h : ¬ (a = c ∧ j = i)) : upR R c i x a j = R a j := by simp [upR, h]
theorem k_X1_keepStep {G : gG} {I : gI} {R : gR} {L : gL} {Q : gQ} {π : Nat → Nat} {n : Nat} (hR : g_Fx R) (hπ : pmR R π) (hn : I 3 2 = nI n) (hn30 : n ≤ 30)
    (hq : ∀ I1 : gI, ∀ R1 : gR, ∀ m : Nat, ∀ ρ : Nat → Nat, g_Fx R1 → pmR R1 ρ → (m = if n = 30 then 29 else n) → (ρ = if n = 30 then rot π else π) → I1 3 2 = nI (m + 1) → (∀ j, j ≠ 2 → I1 3 j = I 3 j) → scEq I1 (9 + 4 * ρ m) I 4 → (∀ a, a ≠ 3 → (a < 9 + 4 * ρ m ∨ 9 + 4 * ρ m + 3 < a) → I1 a = I a) → Q none SH I1 R1 L) : Mt G mX1_keepStep 4 0 0 [.ref 3] SH I R L Q := by
  have z30 : (30 : Int32) = nI 30 := rfl
  have fin : ∀ (I0 : gI) (R1 : gR) (m : Nat) (ρ : Nat → Nat), g_Fx R1 → pmR R1 ρ → m < 30 → (m = if n = 30 then 29 else n) → (ρ = if n = 30 then rot π else π) → I0 3 2 = nI m → (∀ a, a ≠ 3 → I0 a = I a) → (∀ j, j ≠ 2 → I0 3 j = I 3 j) → Q none SH (up (cpSc I0 4 (9 + 4 * ρ m)) 3 2 (cpSc I0 4 (9 + 4 * ρ m) 3 2 + 1)) R1 L := by
    intro I0 R1 m ρ h1 h2 hm h3 h4 h5 h6 h7
    have hp := (h2.1 m hm).1
    obtain ⟨q1, q2, q3, q4, q5, q6⟩ := cpSc_eq (I := I0) (z := 4) (x := 9 + 4 * ρ m) (by omega)
    rw [cpSc_off (a := 3) (by omega), h5, nI_1]
    refine hq _ R1 m ρ h1 h2 h3 h4 (by rw [up_eq]) (fun j hj => by rw [up_ni hj, cpSc_off (by omega), h7 j hj]) ⟨fun j hj => ?_, fun e he => ?_, fun e he => ?_, ?_, ?_, ?_⟩ (fun a ha hb => by rw [up_off a ha, cpSc_off hb, h6 a ha])
    · rw [up_nc (by omega), q1 j hj, h6 _ (by decide)]
    · rw [up_nc (by omega), q2 e he, h6 _ (by decide)]
    · rw [up_nc (by omega), q3 e he, h6 _ (by decide)]
    · rw [up_nc (by omega), q4, h6 _ (by decide)]
    · rw [up_nc (by omega), q5, h6 _ (by decide)]
    · rw [up_nc (by omega), q6, h6 _ (by decide)]
  refine e_X1_keepStep hR ⟨fun c => ?_, fun c => ?_⟩
  · rw [hn, z30, nI_ltI (by omega) (by decide)] at c
    rw [hn, nI_clamp (by omega)]
    have hp := hπ.1 n c
    refine ⟨vp_in_nI c (by decide), _, hp.2, Sc_9 hp.1, ?_⟩
    rintro _ rfl _ rfl
    exact fin I R n π hR hπ c (by rw [if_neg (by omega)]) (by rw [if_neg (by omega)]) hn (fun _ _ => rfl) (fun _ _ => rfl)
  · rw [hn, z30, nI_ltI (by omega) (by decide)] at c
    have hn' : n = 30 := by omega
    have h0 := hπ.1 0 (by decide)
    refine ⟨_, h0.2, Sc_9 h0.1, ?_⟩
    have rf8 : ∀ i, RF 8 i = none := fun i => rfl
    have h := cnt (P := fun i => ∀ R1 : gR, g_Fx R1 → (∀ k, k < i → R1 8 k = some (9 + 4 * π (k + 1))) → (∀ k, i ≤ k → k < 30 → R1 8 k = some (9 + 4 * π k)) → Go G mX1_keepStep 4 0 0 21 [some (.ref 3), some (.ref (9 + 4 * π 0)), some (.int (nI (i + 1)))] [] SH I R1 L Q) 29 (fun i hi hP => ?_) ?_
    · exact h R hR (fun k hk => by omega) (fun k _ hk => (hπ.1 k hk).2)
    · intro R1 g1 g2 g3
      refine b_X1_keepStep_21 g1 (Sc_9 h0.1) ⟨fun c => absurd c (nI_ge (b := 30) (by omega) (by decide)), fun _ => ⟨vp_in_nI (by omega) (by decide), ?_⟩⟩
      have hp := hπ.1 (i + 1) (by omega)
      rw [nI_clamp (by omega), nI_pred]
      refine ⟨_, g3 (i + 1) (by omega) (by omega), Sc_9 hp.1, vp_in_nI (by omega) (by decide), ?_⟩
      rintro _ rfl _ rfl
      rw [nI_1, nI_clamp (by omega)]
      refine hP _ (g_Fx_up (rf8 _) g1) (fun k hk => ?_) (fun k hk1 hk2 => ?_)
      · by_cases hki : k = i
        · rw [hki, upR_at]
        · rw [upR_ne (by omega), g2 k (by omega)]
      · rw [upR_ne (by omega), g3 k (by omega) hk2]
    · intro R1 g1 g2 g3
      refine b_X1_keepStep_21 g1 (Sc_9 h0.1) ⟨fun _ => ⟨vp_in_nI (n := 29) (by decide) (by decide), ?_⟩, fun c => absurd (show (30 : Int32) ≤ nI (29 + 1) by decide) c⟩
      rintro _ rfl _ rfl
      rw [up_eq, show ((30 : Int32) - 1) = nI 29 from rfl, nI_clamp (by decide)]
      have hm : pmR (upR R1 8 29 (some (9 + 4 * π 0))) (rot π) := by
        refine ⟨fun i hi => ?_, rot_inj hπ.2⟩
        unfold rot
        by_cases hi29 : i < 29
        · rw [if_pos hi29, upR_ne (by omega), g2 i hi29]
          exact ⟨(hπ.1 (i + 1) (by omega)).1, rfl⟩
        · rw [if_neg hi29, show i = 29 by omega, upR_at]
          exact ⟨h0.1, rfl⟩
      have h29 := hm.1 29 (by decide)
      refine ⟨vp_in_nI (by decide) (by decide), _, h29.2, Sc_9 h29.1, ?_⟩
      rintro _ rfl _ rfl
      exact fin _ _ 29 (rot π) (g_Fx_up (rf8 _) g1) hm (by decide) (by rw [if_pos hn']) (by rw [if_pos hn']) (by rw [up_eq]) (fun a ha => up_off a ha) (fun j hj => up_ni hj)
/-- nothing told any more -/
theorem k_X1_forgetTold {G : gG} {I : gI} {R : gR} {L : gL} {Q : gQ} (hR : g_Fx R) (hq : ∀ I1 : gI, (∀ e, e < 9 → I1 134 e = 0) → I1 3 14 = 0 → (∀ j, j ≠ 14 → I1 3 j = I 3 j) → (∀ a, a ≠ 3 → a ≠ 134 → I1 a = I a) → Q none SH I1 R L) : Mt G mX1_forgetTold 1 0 0 [.ref 3] SH I R L Q := by
  refine e_X1_forgetTold hR ?_
  have h := cnt (P := fun i => ∀ I1 : gI, (∀ e, e < i → I1 134 e = 0) → (∀ a, a ≠ 134 → I1 a = I a) → Go G mX1_forgetTold 1 0 0 2 [some (.ref 3), some (.int (nI i))] [] SH I1 R L Q) 9 (fun i hi hP => ?_) ?_
  · exact h I (fun e he => by omega) (fun _ _ => rfl)
  · intro I1 g1 g2
    refine b_X1_forgetTold_2 hR ⟨fun c => absurd c (nI_ge (b := 9) hi (by decide)), fun _ => ⟨vp_in_nI hi (by decide), ?_⟩⟩
    rintro _ rfl _ rfl
    rw [nI_1, nI_clamp (by omega)]
    refine hP _ (fun e he => ?_) (fun a ha => by rw [up_off a ha, g2 a ha])
    by_cases hei : e = i
    · rw [hei, up_eq]
    · rw [up_ni hei, g1 e (by omega)]
  · intro I1 g1 g2
    refine b_X1_forgetTold_2 hR ⟨fun _ => ?_, fun c => absurd (show (9 : Int32) ≤ nI 9 by decide) c⟩
    rintro _ rfl
    exact hq _ (fun e he => by rw [up_nc (by decide), g1 e he]) (by rw [up_eq]) (fun j hj => by rw [up_ni hj, g2 3 (by decide)]) (fun a h1 h2 => by rw [up_off a h1, g2 a h2])
