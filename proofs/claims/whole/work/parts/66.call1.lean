theorem e_X5_callRest {G : gG} {I : gI} {R : gR} {L : gL} {Q : gQ} {d : Nat} (hd : 10 ≤ d) {s k p : Int32} (hR : g_Fx R) (h : (s = 0 → Go G mX5_callRest (d + 1) 0 0 10 [some (.ref 1), none, none, none, none, none] [] SH I R L Q) ∧ (¬ s = 0 → (p < 6 → Go G mX5_callRest (d + 1) 0 0 60 [some (.ref 1), some (.int s), some (.int k), some (.int p), some (.int 0), none] [] SH I R L Q) ∧ (¬ p < 6 → Go G mX5_callRest (d + 1) 0 0 10 [some (.ref 1), none, none, none, none, none] [] SH I R L Q))) : Mt G mX5_callRest (d + 1) 0 0 [.ref 1, .int s, .int k, .int p] SH I R L Q := by
  refine go_start rfl (Nat.le_of_ble_eq_true rfl) rfl ?_
  refine go_iload_n dX5_callRest_0 rfl ?_
  refine go_if_eq 10 dX5_callRest_1 (by decide) (fun c => ?_) (fun c => ?_)
  · have h := h.1 c
    refine go_drop 1 ?_
    refine go_drop 2 ?_
    refine go_drop 3 ?_
    exact h
  · have h := h.2 c
    refine go_iload_n dX5_callRest_4 rfl ?_
    refine go_bipush (v := 6) dX5_callRest_5 (by decide) ?_
    refine go_icmp_lt 57 dX5_callRest_7 (by decide) (fun c => ?_) (fun c => ?_)
    · have h := h.1 c
      refine go_iconst (v := 0) dX5_callRest_57 (by decide) ?_
      refine go_istore dX5_callRest_58 (Nat.le_of_ble_eq_true rfl) rfl ?_
      exact h
    · have h := h.2 c
      refine go_drop 1 ?_
      refine go_drop 2 ?_
      refine go_drop 3 ?_
      exact h
theorem b_X5_callRest_10 {G : gG} {I : gI} {R : gR} {L : gL} {Q : gQ} {d : Nat} (hd : 10 ≤ d) (hR : g_Fx R) (h : ((if 0 ≤ (I 1 6) then (I 1 6) else 0 - (I 1 6)) ≤ (if 0 ≤ (I (166 + 1) 0 + I (166 + 1) 1 - I (166 + 1) 2 - I (166 + 1) 3) then (I (166 + 1) 0 + I (166 + 1) 1 - I (166 + 1) 2 - I (166 + 1) 3) else 0 - (I (166 + 1) 0 + I (166 + 1) 1 - I (166 + 1) 2 - I (166 + 1) 3)) → Q none SH I R L) ∧ (¬ (if 0 ≤ (I 1 6) then (I 1 6) else 0 - (I 1 6)) ≤ (if 0 ≤ (I (166 + 1) 0 + I (166 + 1) 1 - I (166 + 1) 2 - I (166 + 1) 3) then (I (166 + 1) 0 + I (166 + 1) 1 - I (166 + 1) 2 - I (166 + 1) 3) else 0 - (I (166 + 1) 0 + I (166 + 1) 1 - I (166 + 1) 2 - I (166 + 1) 3)) → ∀ I_3 : gI, I_3 = up I 1 6 (I (166 + 1) 0 + I (166 + 1) 1 - I (166 + 1) 2 - I (166 + 1) 3) → ∀ I_4 : gI, I_4 = cpy I_3 170 172 0 0 6 → Q none SH I_4 R L)) : Go G mX5_callRest (d + 1) 0 0 10 [some (.ref 1), none, none, none, none, none] [] SH I R L Q := by
  refine go_aload_n dX5_callRest_10 rfl ?_
  refine go_getR dX5_callRest_11 fX5_26 rfl rfl (hR 1 2 166 rfl) ?_
  refine go_callV0 (μ := mX5_callRest) [] dX5_callRest_14 YX4_tilt lX5_76 rfl ⟨_, rfl, rfl⟩ rfl (Nat.le_of_ble_eq_true rfl) (by omega) rfl (k_X4_tilt hR Sc_166 ?_)
  refine go_mabs dX5_callRest_17 lX5_80 ns_abs ni_J9 nc_abs (Nat.le_of_ble_eq_true rfl) (by omega) ?_
  refine go_aload_n dX5_callRest_20 rfl ?_
  refine go_getI dX5_callRest_21 fX5_70 rfl rfl ?_
  refine go_mabs dX5_callRest_24 lX5_80 ns_abs ni_J9 nc_abs (Nat.le_of_ble_eq_true rfl) (by omega) ?_
  refine go_icmp_ge 56 dX5_callRest_27 (by decide) (fun c => ?_) (fun c => ?_)
  · have h := h.1 c
    exact go_vret dX5_callRest_56 rfl rfl h
  · have h := h.2 c
    refine go_aload_n dX5_callRest_30 rfl ?_
    refine go_aload_n dX5_callRest_31 rfl ?_
    refine go_getR dX5_callRest_32 fX5_26 rfl rfl (hR 1 2 166 rfl) ?_
    refine go_callV0 (μ := mX5_callRest) [] dX5_callRest_35 YX4_tilt lX5_76 rfl ⟨_, rfl, rfl⟩ rfl (Nat.le_of_ble_eq_true rfl) (by omega) rfl (k_X4_tilt hR Sc_166 ?_)
    refine go_putI dX5_callRest_38 fX5_70 rfl rfl rfl rfl ?_
    have h := h _ rfl
    refine go_aload_n dX5_callRest_41 rfl ?_
    refine go_getR dX5_callRest_42 fX5_30 rfl rfl (hR 1 3 170 rfl) ?_
    refine go_iconst (v := 0) dX5_callRest_45 (by decide) ?_
    refine go_aload_n dX5_callRest_46 rfl ?_
    refine go_getR dX5_callRest_47 fX5_37 rfl rfl (hR 1 5 172 rfl) ?_
    refine go_iconst (v := 0) dX5_callRest_50 (by decide) ?_
    refine go_bipush (v := 6) dX5_callRest_51 (by decide) ?_
    refine go_copyK dX5_callRest_53 lX5_86 nn_copy ns_copy ni_J10 rfl rfl (sk := 0) (dk := 0) (nk := 6) (by decide) (by decide) (by decide) (by decide) (by decide) (by decide) (by decide) (by decide) (Nat.le_of_ble_eq_true rfl) (Nat.le_trans (m := 64 * 10) (Nat.le_of_ble_eq_true rfl) (by omega)) ?_
    have h := h _ rfl
    exact go_vret dX5_callRest_56 rfl rfl h
theorem b_X5_callRest_60 {G : gG} {I : gI} {R : gR} {L : gL} {Q : gQ} {d : Nat} (hd : 10 ≤ d) {v1 v2 v3 v4 : Int32} (hR : g_Fx R) (h : ((I 3 6) ≤ v4 → Q none SH I R L) ∧ (¬ (I 3 6) ≤ v4 → (¬ ((v1 >>> (v4 &&& 31)) &&& 1) = 1 → ∀ v4_6 : Int32, v4_6 = v4 + 1 → Go G mX5_callRest (d + 1) 0 0 60 [some (.ref 1), some (.int v1), some (.int v2), some (.int v3), some (.int v4_6), none] [] SH I R L Q) ∧ (((v1 >>> (v4 &&& 31)) &&& 1) = 1 → vp_in v4 9 ∧ (vp_in v2 2 ∧ (okI I ∧ ((okD (dyC I 166)) ∧ (∀ r_11 : Int32, ∀ I_12 : gI, (r_11.toInt = spn (thC I) (dyC I 166) v4.toNatClampNeg v2.toInt ∧ ∀ a, a ≠ 164 → a ≠ 165 → I_12 a = I a) → vp_in v3 6 ∧ (∀ I_13 : gI, I_13 = up I_12 170 v3.toNatClampNeg v4 → vp_in v4 9 ∧ ((¬ I_13 (166 + 2) v4.toNatClampNeg = 2 → 0 < r_11 → vp_in (2 * I_13 (166 + 2) v4.toNatClampNeg + v2) 4) ∧ (∀ I_16 : gI, I_16 = eatI I_13 166 v4 v2 r_11 → Mt G mX5_callRest d 0 0 [.ref 1, .int (v1 &&& ((1 <<< (v4 &&& 31)) ^^^ (-1))), .int v2, .int (v3 + 1)] SH I_16 R L (fun r S' I' R' L' => Go G mX5_callRest (d + 1) 0 0 134 [some (.ref 1), some (.int v1), some (.int v2), some (.int v3), some (.int v4), some (.int r_11)] (r.toList ++ []) S' I' R' L' Q))))))))))) : Go G mX5_callRest (d + 1) 0 0 60 [some (.ref 1), some (.int v1), some (.int v2), some (.int v3), some (.int v4), none] [] SH I R L Q := by
  refine go_iload dX5_callRest_60 rfl ?_
  refine go_aload_n dX5_callRest_62 rfl ?_
  refine go_getR dX5_callRest_63 fX5_22 rfl rfl (hR 1 1 3 rfl) ?_
  refine go_getI dX5_callRest_66 fX5_56 rfl rfl ?_
  refine go_icmp_ge 152 dX5_callRest_69 (by decide) (fun c => ?_) (fun c => ?_)
  · have h := h.1 c
    exact go_vret dX5_callRest_152 rfl rfl h
  · have h := h.2 c
    refine go_iload_n dX5_callRest_72 rfl ?_
    refine go_iload dX5_callRest_73 rfl ?_
    refine go_ishr dX5_callRest_75 ?_
    refine go_iconst (v := 1) dX5_callRest_76 (by decide) ?_
    refine go_iand dX5_callRest_77 ?_
    refine go_iconst (v := 1) dX5_callRest_78 (by decide) ?_
    refine go_icmp_ne 146 dX5_callRest_79 (by decide) (fun c => ?_) (fun c => ?_)
    · have h := h.1 c
      refine go_iinc dX5_callRest_146 rfl (Nat.le_of_ble_eq_true rfl) rfl ?_
      have h := h _ rfl
      refine go_goto 60 dX5_callRest_149 (by decide) ?_
      exact h
    · have h := h.2 c
      refine go_aload_n dX5_callRest_82 rfl ?_
      refine go_getR dX5_callRest_83 fX5_12 rfl rfl (hR 1 0 2 rfl) ?_
      refine go_aload_n dX5_callRest_86 rfl ?_
      refine go_getR dX5_callRest_87 fX5_26 rfl rfl (hR 1 2 166 rfl) ?_
      refine go_iload dX5_callRest_90 rfl ?_
      refine go_iload_n dX5_callRest_92 rfl ?_
      obtain ⟨hp_7, h⟩ := h
      obtain ⟨hp_8, h⟩ := h
      obtain ⟨hp_9, h⟩ := h
      obtain ⟨hp_10, h⟩ := h
      refine go_callV0 (μ := mX5_callRest) [.ref 166, .int _, .int _] dX5_callRest_93 YX0_spoonful lX5_59 rfl ⟨_, rfl, rfl⟩ rfl (Nat.le_of_ble_eq_true rfl) (by omega) rfl (k_X0_spoonful hR Sc_166 hp_7 hp_8 hp_9 hp_10 (fun r_11 I_12 hq => ?_))
      have h := h r_11 I_12 hq
      refine go_istore dX5_callRest_96 (Nat.le_of_ble_eq_true rfl) rfl ?_
      refine go_aload_n dX5_callRest_98 rfl ?_
      refine go_getR dX5_callRest_99 fX5_30 rfl rfl (hR 1 3 170 rfl) ?_
      refine go_iload_n dX5_callRest_102 rfl ?_
      refine go_iload dX5_callRest_103 rfl ?_
      obtain ⟨hi, h⟩ := h
      refine go_iast dX5_callRest_105 rfl hi ?_
      have h := h _ rfl
      refine go_aload_n dX5_callRest_106 rfl ?_
      refine go_getR dX5_callRest_107 fX5_26 rfl rfl (hR 1 2 166 rfl) ?_
      refine go_iload dX5_callRest_110 rfl ?_
      refine go_iload_n dX5_callRest_112 rfl ?_
      refine go_iload dX5_callRest_113 rfl ?_
      obtain ⟨hp_14, h⟩ := h
      obtain ⟨hp_15, h⟩ := h
      refine go_callV0 (μ := mX5_callRest) [.int _, .int _, .int _] dX5_callRest_115 YX4_eat lX5_63 rfl ⟨_, rfl, rfl⟩ rfl (Nat.le_of_ble_eq_true rfl) (by omega) rfl (k_X4_eat hR Sc_166 hp_14 hp_15 ?_)
      have h := h _ rfl
      refine go_aload_n dX5_callRest_118 rfl ?_
      refine go_iload_n dX5_callRest_119 rfl ?_
      refine go_iconst (v := 1) dX5_callRest_120 (by decide) ?_
      refine go_iload dX5_callRest_121 rfl ?_
      refine go_ishl dX5_callRest_123 ?_
      refine go_iconst (v := -1) dX5_callRest_124 (by decide) ?_
      refine go_ixor dX5_callRest_125 ?_
      refine go_iand dX5_callRest_126 ?_
      refine go_iload_n dX5_callRest_127 rfl ?_
      refine go_iload_n dX5_callRest_128 rfl ?_
      refine go_iconst (v := 1) dX5_callRest_129 (by decide) ?_
      refine go_iadd dX5_callRest_130 ?_
      refine go_callV0 (μ := mX5_callRest) [.int _, .int _, .int _] dX5_callRest_131 YX5_callRest lX5_73 rfl ⟨_, rfl, rfl⟩ rfl (Nat.le_of_ble_eq_true rfl) (Nat.le_refl _) rfl h
theorem b_X5_callRest_134 {G : gG} {I : gI} {R : gR} {L : gL} {Q : gQ} {d : Nat} (hd : 10 ≤ d) {v1 v2 v3 v4 v5 : Int32} (hR : g_Fx R) (h : vp_in v4 9 ∧ ((¬ I (166 + 2) v4.toNatClampNeg = 2 → 0 < v5 → vp_in (2 * I (166 + 2) v4.toNatClampNeg + v2) 4) ∧ (∀ I_21 : gI, I_21 = givI I 166 v4 v2 v5 → ∀ v4_22 : Int32, v4_22 = v4 + 1 → Go G mX5_callRest (d + 1) 0 0 60 [some (.ref 1), some (.int v1), some (.int v2), some (.int v3), some (.int v4_22), none] [] SH I_21 R L Q))) : Go G mX5_callRest (d + 1) 0 0 134 [some (.ref 1), some (.int v1), some (.int v2), some (.int v3), some (.int v4), some (.int v5)] [] SH I R L Q := by
  refine go_aload_n dX5_callRest_134 rfl ?_
  refine go_getR dX5_callRest_135 fX5_26 rfl rfl (hR 1 2 166 rfl) ?_
  refine go_iload dX5_callRest_138 rfl ?_
  refine go_iload_n dX5_callRest_140 rfl ?_
  refine go_iload dX5_callRest_141 rfl ?_
  obtain ⟨hp_19, h⟩ := h
  obtain ⟨hp_20, h⟩ := h
  refine go_callV0 (μ := mX5_callRest) [.int _, .int _, .int _] dX5_callRest_143 YX4_giveBack lX5_92 rfl ⟨_, rfl, rfl⟩ rfl (Nat.le_of_ble_eq_true rfl) (by omega) rfl (k_X4_giveBack hR Sc_166 hp_19 hp_20 ?_)
  have h := h _ rfl
  refine go_iinc dX5_callRest_146 rfl (Nat.le_of_ble_eq_true rfl) rfl ?_
  have h := h _ rfl
  refine go_goto 60 dX5_callRest_149 (by decide) ?_
  refine go_drop 5 ?_
  exact h
/-- what calling leaves as it was -/
def frA (n : Nat) (J J' : gI) : Prop := (∀ c, c ≠ 1 → c ≠ 164 → c ≠ 165 → c ≠ 170 → c ≠ 172 → J' c = J c) ∧ (∀ j, j ≠ 6 → J' 1 j = J 1 j) ∧ ∀ i, i < n → J' 170 i = J 170 i
theorem frA_rfl (n : Nat) (J : gI) : frA n J J := ⟨fun _ _ _ _ _ _ => rfl, fun _ _ => rfl, fun _ _ => rfl⟩
theorem frA_tr {n : Nat} {J J1 J2 : gI} (h : frA n J J1) (g : frA n J1 J2) : frA n J J2 := ⟨fun c c1 c2 c3 c4 c5 => (g.1 c c1 c2 c3 c4 c5).trans (h.1 c c1 c2 c3 c4 c5), fun j hj => (g.2.1 j hj).trans (h.2.1 j hj), fun i hi => (g.2.2 i hi).trans (h.2.2 i hi)⟩
def csA (J : gI) (st : cst) : Prop := (J 1 6).toInt = st.1 ∧ ∀ i, i < st.2.length → J 172 i = nI (st.2.getD i 0)
theorem abs_ti {x : Int32} (h1 : -100000 ≤ x.toInt) (h2 : x.toInt ≤ 100000) : (if 0 ≤ x then x else 0 - x : Int32).toInt = x.toInt.natAbs := by
  have z0 : (0 : Int32).toInt = 0 := rfl
  by_cases c : 0 ≤ x
  · rw [if_pos c]; rw [ti_le, z0] at c; omega
  · rw [if_neg c]; rw [ti_le, z0] at c
    rw [ti_sub] <;> rw [z0] <;> omega
theorem tilt_ti {J : gI} {x : Nat} (h : okD (dyC J x)) : (J (x + 1) 0 + J (x + 1) 1 - J (x + 1) 2 - J (x + 1) 3).toInt = tlt (dyC J x) := by
  have h0 : 0 ≤ (J (x + 1) 0).toInt ∧ (J (x + 1) 0).toInt ≤ 999 := h.1 0 (by decide)
  have h1 : 0 ≤ (J (x + 1) 1).toInt ∧ (J (x + 1) 1).toInt ≤ 999 := h.1 1 (by decide)
  have h2 : 0 ≤ (J (x + 1) 2).toInt ∧ (J (x + 1) 2).toInt ≤ 999 := h.1 2 (by decide)
  have h3 : 0 ≤ (J (x + 1) 3).toInt ∧ (J (x + 1) 3).toInt ≤ 999 := h.1 3 (by decide)
  have e1 : (J (x + 1) 0 + J (x + 1) 1).toInt = (J (x + 1) 0).toInt + (J (x + 1) 1).toInt := by rw [ti_add] <;> omega
  have e2 : (J (x + 1) 0 + J (x + 1) 1 - J (x + 1) 2).toInt = (J (x + 1) 0).toInt + (J (x + 1) 1).toInt - (J (x + 1) 2).toInt := by rw [ti_sub] <;> rw [e1] <;> omega
  rw [ti_sub] <;> rw [e2]
  · rfl
  · omega
  · omega
theorem clr_n {s e : Nat} (hs : s < 512) (he : e < 9) : ∃ s', s' < 512 ∧ nI s &&& ((1 <<< (nI e &&& 31)) ^^^ (-1)) = nI s' ∧ ∀ i, s'.testBit i = true ↔ (s.testBit i = true ∧ i ≠ e) := by
  refine ⟨s &&& (4294967295 - 2 ^ e), Nat.lt_of_le_of_lt Nat.and_le_left hs, by rw [clr_c e (by omega), nx_and], fun i => ?_⟩
  rw [Nat.testBit_and]
  by_cases hi : i < 10
  · rw [clr_b e (by omega) i hi]
    by_cases c : i = e <;> simp [c]
  · rw [Nat.testBit_lt_two_pow (Nat.lt_of_lt_of_le hs (show 512 ≤ 2 ^ i from Nat.pow_le_pow_right (n := 2) (j := i) (i := 9) (by decide) (by omega)))]
    simp
theorem k_callRest {G : gG} {R : gR} {I0 : gI} {κ N : Nat} {δ0 : dyn} (hR : g_Fx R) (oI : okI I0) (hκ : κ < 2) (hN : N ≤ 9) (e6 : I0 3 6 = nI N) (oD0 : okDn 0 δ0) (T : List Nat → Int) (hT : ∀ p, T p = tlt (rnC (thC I0) κ p δ0)) :
    ∀ (m d : Nat) (c : Nat → Nat) (s : Nat) (pre : List Nat) (J : gI) (st : cst) (L : gL) (Q : gQ), 10 + m ≤ d → s < 512 → sq (fun e => s.testBit e = true) c m → (∀ e, s.testBit e = true → e < N) → pre.length + m ≤ 6 → (∀ e ∈ pre, e < 9) → eqD (dyC J 166) (rnC (thC I0) κ pre δ0) → (∀ c, c < 164 → c ≠ 1 → J c = I0 c) → (∀ i, i < pre.length → J 170 i = nI (pre.getD i 0)) → csA J st → st.1.natAbs ≤ 9999 →
      (∀ J', frA pre.length J J' → csA J' (foS T (fun j => pre ++ nthF m c j) (fa m) st) → Q none SH J' R L) →
      Mt G mX5_callRest (d + 1) 0 0 [.ref 1, .int (nI s), .int (nI κ), .int (nI pre.length)] SH J R L Q
  | 0, d, c, s, pre, J, st, L, Q, hdm, hs, hq, hb, hl, hp9, hD, jx, hp, hc, hbd, q => by
    have s0 : s = 0 := by
      apply Nat.eq_of_testBit_eq
      intro i
      rw [Nat.zero_testBit]
      cases hh : s.testBit i with
      | false => rfl
      | true => obtain ⟨k, hk, -⟩ := hq.2.2 i hh; omega
    subst s0
    have oD := rnC_ok (κ := κ) oI.1 (by omega) (by omega) pre (n := 0) hp9 (by omega) oD0
    have oDj : okD (dyC J 166) := okD_eq hD.symm (oD.ok (by omega))
    have et : (J (166 + 1) 0 + J (166 + 1) 1 - J (166 + 1) 2 - J (166 + 1) 3).toInt = T pre := by rw [tilt_ti oDj, hT, tlt_eq hD]
    have tb := tlt_b (oD.ok (by omega))
    rw [← hT] at tb
    refine e_X5_callRest (d := d) (by omega) hR ⟨fun _ => ?_, fun q => absurd rfl q⟩
    have q' : ∀ J', frA pre.length J J' → csA J' (up1 T st pre) → Q none SH J' R L := fun J' h1 h2 => q J' h1 (by
      show csA J' (up1 T st (pre ++ nthF 0 c 0))
      rw [show nthF 0 c 0 = [] from rfl, List.append_nil]; exact h2)
    generalize hv : J (166 + 1) 0 + J (166 + 1) 1 - J (166 + 1) 2 - J (166 + 1) 3 = v at *
    have cmp : (if 0 ≤ J 1 6 then J 1 6 else 0 - J 1 6) ≤ (if 0 ≤ v then v else 0 - v) ↔ ¬ (T pre).natAbs < st.1.natAbs := by
      rw [ti_le, abs_ti (by rw [hc.1]; omega) (by rw [hc.1]; omega), abs_ti (by rw [et]; omega) (by rw [et]; omega), hc.1, et]
      omega
    refine b_X5_callRest_10 (d := d) (by omega) hR ?_
    rw [hv, cmp]
    refine ⟨fun c1 => q' J (frA_rfl _ J) (by unfold up1; rw [if_neg c1]; exact hc), fun c1 => ?_⟩
    have c1' := Classical.not_not.mp c1
    rintro _ rfl _ rfl
    refine q' _ ⟨fun a a1 a2 a3 a4 a5 => by rw [cpy_off a5, up_off _ a1], fun j hj => by rw [cpy_off (by decide), up_ni hj], fun i hi => by rw [cpy_off (by decide), up_off _ (by decide)]⟩ ?_
    unfold up1
    rw [if_pos c1']
    refine ⟨by rw [cpy_off (by decide), up_eq]; exact et, fun i hi => ?_⟩
    have hi' : i < pre.length := hi
    rw [cpy_at, if_pos (by omega), up_off _ (by decide), Nat.zero_add, Nat.sub_zero]
    exact hp i hi'
  | m + 1, d, c, s, pre, J, st, L, Q, hdm, hs, hq, hb, hl, hp9, hD, jx, hp, hc, hbd, q => by
    obtain ⟨d', rfl⟩ : ∃ d', d = d' + 1 := ⟨d - 1, by omega⟩
    have sn : ¬ nI s = 0 := fun z => by
      rw [show (0 : Int32) = nI 0 from rfl, nI_eq (by omega) (by decide)] at z
      have := hq.2.1 0 (by omega)
      rw [z, Nat.zero_testBit] at this
      cases this
    have oD := rnC_ok (κ := κ) oI.1 (by omega) (by omega) pre (n := 0) hp9 (by omega) oD0
    rw [Nat.zero_add] at oD
    have kt : (nI κ).toInt = κ := nI_toInt (by omega)
    generalize hf : (fun j => pre ++ nthF (m + 1) c j) = f at q
    have loop : ∀ k e w (K : gI), e + k = N → w ≤ m + 1 → (∀ i, i < w → c i < e) → (∀ i, w ≤ i → i < m + 1 → e ≤ c i) → frA pre.length J K → csA K (foS T f (w * fa m) st) → Go G mX5_callRest (d' + 1 + 1) 0 0 60 [some (.ref 1), some (.int (nI s)), some (.int (nI κ)), some (.int (nI pre.length)), some (.int (nI e)), none] [] SH K R L Q := by
      intro k
      induction k with
      | zero =>
        intro e w K ee hw h1 h2 fr cs
        have k6 : K 3 6 = nI N := by rw [fr.1 3 (by decide) (by decide) (by decide) (by decide) (by decide), jx 3 (by decide) (by decide)]; exact e6
        have hw' : w = m + 1 := by
          rcases Nat.lt_or_ge w (m + 1) with g | g
          · have := h2 w (Nat.le_refl _) g
            have := hb _ (hq.2.1 w g)
            omega
          · omega
        refine b_X5_callRest_60 (d := d' + 1) (by omega) hR ⟨fun _ => q K fr ?_, fun c => absurd (by rw [k6, show e = N by omega]; exact ti_le.mpr (Int.le_refl _)) c⟩
        rw [hw'] at cs; exact cs
      | succ k ih =>
        intro e w K ee hw h1 h2 fr cs
        have k6 : K 3 6 = nI N := by rw [fr.1 3 (by decide) (by decide) (by decide) (by decide) (by decide), jx 3 (by decide) (by decide)]; exact e6
        have kx : ∀ c, c < 164 → c ≠ 1 → K c = I0 c := fun c c1 c2 => by rw [fr.1 c c2 (by omega) (by omega) (by omega) (by omega), jx c c1 c2]
        have tC := th_congr (I := I0) (I1 := K) (by rw [kx 3 (by decide) (by decide)]) (kx _ (by decide) (by decide)) (kx _ (by decide) (by decide)) (fun a a1 a2 => kx a a2 (by omega))
        have k4 : ∀ c, 166 ≤ c → c ≤ 169 → K c = J c := fun c c1 c2 => fr.1 c (by omega) (by omega) (by omega) (by omega) (by omega)
        have dK : dyC K 166 = dyC J 166 := dy_congr (by rw [k4 166 (by decide) (by decide)]) (k4 _ (by decide) (by decide)) (k4 _ (by decide) (by decide)) (k4 _ (by decide) (by decide))
        have hDK : eqD (dyC K 166) (rnC (thC I0) κ pre δ0) := by rw [dK]; exact hD
        have he9 : e < 9 := by omega
        refine b_X5_callRest_60 (d := d' + 1) (by omega) hR ⟨fun c => absurd c (by rw [k6]; exact nI_ge (by omega) (by omega)), fun _ => ?_⟩
        rw [tb_iff (by omega) (by omega)]
        refine ⟨fun cb => ?_, fun cb => ⟨vp_in_nI he9 (by decide), vp_in_nI hκ (by decide), tC.2 oI, okD_eq hDK.symm (oD.ok (by omega)), ?_⟩⟩
        · rintro _ rfl
          rw [nI_1]
          refine ih (e + 1) w K (by omega) hw (fun i hi => by have := h1 i hi; omega) (fun i hi hi2 => ?_) fr cs
          have := h2 i hi hi2
          have : c i ≠ e := fun z => cb (by rw [← z]; exact hq.2.1 i hi2)
          omega
        · obtain ⟨w', hw', ew⟩ := hq.2.2 e cb
          have eww : w' = w := by
            rcases Nat.lt_trichotomy w' w with g | g | g
            · have := h1 w' g; omega
            · exact g
            · have a1 := hq.1 w w' g hw'
              have a2 := h2 w (Nat.le_refl _) (by omega)
              omega
          subst eww
          rintro r K1 ⟨hr, hx⟩
          rw [nI_clamp (by omega)] at hr
          refine ⟨vp_in_nI (by omega) (by decide), ?_⟩
          rintro _ rfl
          rw [nI_clamp (show pre.length < 2 ^ 31 by omega)]
          generalize hX : up K1 170 pre.length (nI e) = X
          have xx : ∀ a, a ≠ 164 → a ≠ 165 → a ≠ 170 → X a = K a := fun a a1 a2 a3 => by rw [← hX, up_off _ a3, hx a a1 a2]
          have x170 : ∀ i, X 170 i = if i = pre.length then nI e else K 170 i := fun i => by
            rw [← hX]
            by_cases ci' : i = pre.length
            · rw [ci', up_eq, if_pos rfl]
            · rw [up_ni ci', if_neg ci', hx 170 (by decide) (by decide)]
          have dX : dyC X 166 = dyC K 166 := dy_congr (by rw [xx 166 (by decide) (by decide) (by decide)]) (xx _ (by decide) (by decide) (by decide)) (xx _ (by decide) (by decide) (by decide)) (xx _ (by decide) (by decide) (by decide))
          have er : r.toInt = spn (thC I0) (rnC (thC I0) κ pre δ0) e κ := by
            rw [hr, tC.1, kt]
            exact spn_eq (eqT.rfl' _) hDK oI.1 (okD_eq hDK.symm (oD.ok (by omega))) he9 (by omega) (by omega)
          obtain ⟨w1, w2, w3, w4, w5⟩ := eatI_dy (I := X) (x := 166) (j := e) (e := nI e) (k := nI κ) (g := r) (κ := κ) (θ := thC I0) Sc_166 he9 rfl hκ rfl oI.1 (by rw [dX]; exact okD_eq hDK.symm (oD.ok (by omega))) (by rw [dX, ← tC.1]; exact hr)
          refine ⟨w4, w5, ?_⟩
          rintro _ rfl
          obtain ⟨s', hs', es', bs'⟩ := clr_n hs he9
          rw [es', nI_1]
          have ex : ∀ a, a ≠ 164 → a ≠ 165 → a ≠ 170 → (a < 166 ∨ 169 < a) → eatI X 166 (nI e) (nI κ) r a = K a := fun a a1 a2 a3 a4 => by rw [w2 a (by omega) (by omega) (by omega), xx a a1 a2 a3]
          have e170 : eatI X 166 (nI e) (nI κ) r 170 = X 170 := w2 170 (by decide) (by decide) (by decide)
          have sq' : sq (fun e => s'.testBit e = true) (rm c w') m := by
            refine sq_congr (sq_rm hq (q := w') (by omega)) (fun i => ?_)
            rw [ew]; exact (bs' i).symm
          have len' : (pre ++ [e]).length = pre.length + 1 := by simp
          have cs1 : csA (eatI X 166 (nI e) (nI κ) r) (foS T f (w' * fa m) st) := by
            refine ⟨by rw [ex 1 (by decide) (by decide) (by decide) (by decide)]; exact cs.1, fun i hi => by rw [ex 172 (by decide) (by decide) (by decide) (by decide)]; exact cs.2 i hi⟩
          have hDe : eqD (dyC (eatI X 166 (nI e) (nI κ) r) 166) (rnC (thC I0) κ (pre ++ [e]) δ0) := by
            rw [w1, rnC_snoc, kt, er, dX]
            exact eaD_eq hDK he9
          rw [← len']
          refine k_callRest hR oI hκ hN e6 oD0 T hT m d' (rm c w') s' (pre ++ [e]) (eatI X 166 (nI e) (nI κ) r) (foS T f (w' * fa m) st) L _ (by omega) hs' sq' (fun i hi => hb i ((bs' i).mp hi).1) (by rw [len']; omega) (fun x hx' => by
              rcases List.mem_append.mp hx' with g | g
              · exact hp9 x g
              · rw [List.mem_singleton.mp g]; exact he9) hDe (fun a a1 a2 => by rw [ex a (by omega) (by omega) (by omega) (by omega)]; exact kx a a1 a2) (fun i hi => ?_) cs1 (foS_b hbd _) (fun K2 fr2 cs2 => ?_)
          · rw [len'] at hi
            rw [e170, x170]
            by_cases ci' : i = pre.length
            · rw [if_pos ci', ci']; simp
            · rw [if_neg ci', fr.2.2 i (by omega), hp i (by omega)]
              congr 1
              simp [List.getD_eq_getElem?_getD, List.getElem?_append_left (show i < pre.length by omega)]
          · rw [len'] at fr2
            show Go G mX5_callRest (d' + 1 + 1) 0 0 134 _ [] SH K2 R L Q
            have g4 : ∀ a, 166 ≤ a → a ≤ 169 → K2 a = eatI X 166 (nI e) (nI κ) r a := fun a a1 a2 => fr2.1 a (by omega) (by omega) (by omega) (by omega) (by omega)
            obtain ⟨y0, y1, y2, y3, y4⟩ := giv_back (X := X) (J := K2) (x := 166) (e := nI e) (k := nI κ) (g := r) (g4 _ (by decide) (by decide)) (g4 _ (by decide) (by decide)) (g4 _ (by decide) (by decide)) (g4 _ (by decide) (by decide))
            have k2w : K2 (166 + 2) = X (166 + 2) := by rw [g4 _ (by decide) (by decide), w2 _ (by decide) (by decide) (by decide)]
            refine b_X5_callRest_134 (d := d' + 1) (by omega) hR ⟨w4, by rw [k2w]; exact w5, ?_⟩
            rintro _ rfl _ rfl
            rw [nI_1]
            have yy : ∀ a, a ≠ 1 → a ≠ 164 → a ≠ 165 → a ≠ 170 → a ≠ 172 → givI K2 166 (nI e) (nI κ) r a = K a := fun a a1 a2 a3 a4 a5 => by
              by_cases z0 : a = 166
              · rw [z0, y0, xx _ (by decide) (by decide) (by decide)]
              by_cases z1 : a = 166 + 1
              · rw [z1, y1, xx _ (by decide) (by decide) (by decide)]
              by_cases z3 : a = 166 + 3
              · rw [z3, y3, xx _ (by decide) (by decide) (by decide)]
              rw [y4 a z0 z1 z3, fr2.1 a a1 a2 a3 a4 a5]
              by_cases z2 : a = 166 + 2
              · rw [z2, w2 _ (by decide) (by decide) (by decide), xx _ (by decide) (by decide) (by decide)]
              · exact ex a a2 a3 a4 (by omega)
            have y1' : givI K2 166 (nI e) (nI κ) r 1 = K2 1 := y4 1 (by decide) (by decide) (by decide)
            have y170 : givI K2 166 (nI e) (nI κ) r 170 = K2 170 := y4 170 (by decide) (by decide) (by decide)
            have y172 : givI K2 166 (nI e) (nI κ) r 172 = K2 172 := y4 172 (by decide) (by decide) (by decide)
            refine ih (e + 1) (w' + 1) _ (by omega) (by omega) (fun i hi => ?_) (fun i hi hi2 => ?_) (frA_tr fr ⟨yy, fun j hj => by rw [y1', fr2.2.1 j hj, ex 1 (by decide) (by decide) (by decide) (by decide)], fun i hi => by rw [y170, fr2.2.2 i (by omega), e170, x170, if_neg (by omega)]⟩) ?_
            · rcases Nat.lt_or_ge i w' with g | g
              · have := h1 i g; omega
              · rw [show i = w' by omega, ew]; omega
            · have := hq.1 w' i (by omega) hi2
              omega
            · have e1 : (w' + 1) * fa m = w' * fa m + fa m := Nat.succ_mul _ _
              rw [e1, foS_add]
              have e2 : foS T (fun j => f (w' * fa m + j)) (fa m) (foS T f (w' * fa m) st) = foS T (fun j => pre ++ [e] ++ nthF m (rm c w') j) (fa m) (foS T f (w' * fa m) st) := by
                refine foS_congr T _ _ (fun j hj => ?_)
                rw [← hf]
                show pre ++ nthF (m + 1) c (w' * fa m + j) = _
                rw [nthF_at hj, ew, List.append_assoc]; rfl
              rw [e2]
              exact ⟨by rw [y1']; exact cs2.1, fun i hi => by rw [y172]; exact cs2.2 i hi⟩
    have p6 : nI pre.length < 6 := nI_lt (b := 6) (by omega) (by decide)
    refine e_X5_callRest (d := d' + 1) (by omega) hR ⟨fun z => absurd z sn, fun _ => ⟨fun _ => ?_, fun z => absurd p6 z⟩⟩
    refine loop N 0 0 J (by omega) (by omega) (fun i hi => by omega) (fun i _ _ => Nat.zero_le _) (frA_rfl _ J) ?_
    rw [Nat.zero_mul]; exact hc
