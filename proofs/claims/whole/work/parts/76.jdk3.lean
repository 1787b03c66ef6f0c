theorem g_tx5_c : ∀ k, k < 129 → ((g_tx5 k &&& 255).toUInt32 % 65536).toInt32 = g_tx5 k ∧ narrow .char (.int (g_tx5 k)) = .int (g_tx5 k) := by decide +kernel
theorem vi129 {x : Int32} : vp_in x 129 ↔ 0 ≤ x ∧ x < 129 := vi (by decide)
theorem e3_J0_coder_7d493 {G : gG} {I : gI} {R : gR} {L : gL} {Q : gQ} (hR : g_Fx R) (h : Q (some (.int 0)) SH I R L) : Mt G mJ0_coder_7d493 1 0 0 [.float 3] SH I R L Q := by
  refine go_start rfl (Nat.le_of_ble_eq_true rfl) rfl ?_
  refine go_compact rfl dJ0_coder_7d493_0 ?_
  refine go_if_eq 13 dJ0_coder_7d493_3 (by decide) (fun c => absurd c (by decide)) (fun _ => ?_)
  refine go_aloadX_n dJ0_coder_7d493_6 rfl ?_
  refine go_scod3 rfl dJ0_coder_7d493_7 ?_
  refine go_goto 14 dJ0_coder_7d493_10 (by decide) ?_
  exact go_zret dJ0_coder_7d493_14 rfl rfl rfl h
theorem k3_J0_coder_7d493 {G : gG} {I : gI} {R : gR} {L : gL} {Q : gQ} (hR : g_Fx R) (hq : Q (some (.int 0)) SH I R L) : Mt G mJ0_coder_7d493 1 0 0 [.float 3] SH I R L Q := e3_J0_coder_7d493 hR (by grind)
theorem e3_J0_length_8abf5 {G : gG} {I : gI} {R : gR} {L : gL} {Q : gQ} (hR : g_Fx R) (h : Q (some (.int ((129 : Int32) >>> ((0 : Int32) &&& 31)))) SH I R L) : Mt G mJ0_length_8abf5 2 0 0 [.float 3] SH I R L Q := by
  refine go_start rfl (Nat.le_of_ble_eq_true rfl) rfl ?_
  refine go_aloadX_n dJ0_length_8abf5_0 rfl ?_
  refine go_sval3 rfl dJ0_length_8abf5_1 ?_
  refine go_sbn5 dJ0_length_8abf5_4 ?_
  refine go_aloadX_n dJ0_length_8abf5_5 rfl ?_
  refine go_callX3 (μ := mJ0_length_8abf5) [] dJ0_length_8abf5_6 YJ0_coder_7d493 lJ0_335 rfl rfl (Nat.le_of_ble_eq_true rfl) (Nat.le_of_ble_eq_true rfl) rfl (k3_J0_coder_7d493 hR ?_)
  refine go_ishr dJ0_length_8abf5_9 ?_
  exact go_iret dJ0_length_8abf5_10 rfl rfl h
theorem k3_J0_length_8abf5 {G : gG} {I : gI} {R : gR} {L : gL} {Q : gQ} (hR : g_Fx R) (hq : Q (some (.int 129)) SH I R L) : Mt G mJ0_length_8abf5 2 0 0 [.float 3] SH I R L Q := e3_J0_length_8abf5 hR (by rw [show (129 : Int32) >>> ((0 : Int32) &&& 31) = 129 by decide]; exact hq)
theorem e3_J0_isLatin1_aae02 {G : gG} {I : gI} {R : gR} {L : gL} {Q : gQ} (hR : g_Fx R) (h : Q (some (.int 1)) SH I R L) : Mt G mJ0_isLatin1_aae02 1 0 0 [.float 3] SH I R L Q := by
  refine go_start rfl (Nat.le_of_ble_eq_true rfl) rfl ?_
  refine go_compact rfl dJ0_isLatin1_aae02_0 ?_
  refine go_if_eq 17 dJ0_isLatin1_aae02_3 (by decide) (fun c => absurd c (by decide)) (fun _ => ?_)
  refine go_aloadX_n dJ0_isLatin1_aae02_6 rfl ?_
  refine go_scod3 rfl dJ0_isLatin1_aae02_7 ?_
  refine go_if_ne 17 dJ0_isLatin1_aae02_10 (by decide) (fun c => absurd c (by decide)) (fun _ => ?_)
  refine go_iconst (v := 1) dJ0_isLatin1_aae02_13 (by decide) ?_
  refine go_goto 18 dJ0_isLatin1_aae02_14 (by decide) ?_
  exact go_zret dJ0_isLatin1_aae02_18 rfl rfl rfl h
theorem k3_J0_isLatin1_aae02 {G : gG} {I : gI} {R : gR} {L : gL} {Q : gQ} (hR : g_Fx R) (hq : Q (some (.int 1)) SH I R L) : Mt G mJ0_isLatin1_aae02 1 0 0 [.float 3] SH I R L Q := e3_J0_isLatin1_aae02 hR (by grind)
theorem e3_J1_charAt_3b067 {G : gG} {I : gI} {R : gR} {L : gL} {Q : gQ} {i : Int32} (hR : g_Fx R) (h : (¬ i < 0) ∧ ((i < 129) ∧ (vp_in i 129 ∧ (narrow .char (.int ((((g_tx5 i.toNatClampNeg) &&& 255).toUInt32 % 65536).toInt32)) = .int ((((g_tx5 i.toNatClampNeg) &&& 255).toUInt32 % 65536).toInt32) ∧ Q (some (.int ((((g_tx5 i.toNatClampNeg) &&& 255).toUInt32 % 65536).toInt32))) SH I R L)))) : Mt G mJ1_charAt_3b067 3 0 0 [.float 5, .int i] SH I R L Q := by
  refine go_start rfl (Nat.le_of_ble_eq_true rfl) rfl ?_
  refine go_iload_n dJ1_charAt_3b067_0 rfl ?_
  refine go_aloadX_n dJ1_charAt_3b067_1 rfl ?_
  refine go_sbn5 dJ1_charAt_3b067_2 ?_
  obtain ⟨hp_1, h⟩ := h
  obtain ⟨hp_2, h⟩ := h
  refine go_callS0 (μ := mJ1_charAt_3b067) [.int _, .int _] dJ1_charAt_3b067_3 YJ0_checkIndex_df160 lJ1_9 rfl (Nat.le_of_ble_eq_true rfl) (Nat.le_of_ble_eq_true rfl) rfl (k_J0_checkIndex_df160 hR hp_1 hp_2 ?_)
  refine go_aloadX_n dJ1_charAt_3b067_6 rfl ?_
  refine go_iload_n dJ1_charAt_3b067_7 rfl ?_
  obtain ⟨hi, h⟩ := h
  refine go_sby5 dJ1_charAt_3b067_8 hi ?_
  refine go_sipush (v := 255) dJ1_charAt_3b067_9 (by decide) ?_
  refine go_iand dJ1_charAt_3b067_12 ?_
  refine go_i2c dJ1_charAt_3b067_13 ?_
  exact go_zret dJ1_charAt_3b067_14 rfl h.1 rfl h.2
theorem k3_J1_charAt_3b067 {G : gG} {I : gI} {R : gR} {L : gL} {Q : gQ} {i : Int32} (hR : g_Fx R) (p0 : vp_in i 129) (hq : Q (some (.int (g_tx5 i.toNatClampNeg))) SH I R L) : Mt G mJ1_charAt_3b067 3 0 0 [.float 5, .int i] SH I R L Q := by
  have h1 := vi129.mp p0
  have h2 := g_tx5_c i.toNatClampNeg (Nat.not_le.mp fun q => p0 (Or.inr q))
  refine e3_J1_charAt_3b067 hR ⟨by grind, h1.2, p0, ?_⟩
  rw [h2.1]
  exact ⟨h2.2, hq⟩
theorem e3_J0_charAt_5068e {G : gG} {I : gI} {R : gR} {L : gL} {Q : gQ} {i : Int32} (hR : g_Fx R) (h : vp_in i 129 ∧ (narrow .char (.int (g_tx5 i.toNatClampNeg)) = .int (g_tx5 i.toNatClampNeg) ∧ Q (some (.int (g_tx5 i.toNatClampNeg))) SH I R L)) : Mt G mJ0_charAt_5068e 4 0 0 [.float 3, .int i] SH I R L Q := by
  refine go_start rfl (Nat.le_of_ble_eq_true rfl) rfl ?_
  refine go_aloadX_n dJ0_charAt_5068e_0 rfl ?_
  refine go_callX3 (μ := mJ0_charAt_5068e) [] dJ0_charAt_5068e_1 YJ0_isLatin1_aae02 lJ0_492 rfl rfl (Nat.le_of_ble_eq_true rfl) (Nat.le_of_ble_eq_true rfl) rfl (k3_J0_isLatin1_aae02 hR ?_)
  refine go_if_eq 16 dJ0_charAt_5068e_4 (by decide) (fun c => absurd c (by decide)) (fun _ => ?_)
  refine go_aloadX_n dJ0_charAt_5068e_7 rfl ?_
  refine go_sval3 rfl dJ0_charAt_5068e_8 ?_
  refine go_iload_n dJ0_charAt_5068e_11 rfl ?_
  obtain ⟨hp_1, h⟩ := h
  refine go_callS0 (μ := mJ0_charAt_5068e) [.float 5, .int _] dJ0_charAt_5068e_12 YJ1_charAt_3b067 lJ0_495 rfl (Nat.le_of_ble_eq_true rfl) (Nat.le_of_ble_eq_true rfl) rfl (k3_J1_charAt_3b067 hR hp_1 ?_)
  exact go_zret dJ0_charAt_5068e_15 rfl h.1 rfl h.2
theorem k3_J0_charAt_5068e {G : gG} {I : gI} {R : gR} {L : gL} {Q : gQ} {i : Int32} (hR : g_Fx R) (p0 : vp_in i 129) (hq : Q (some (.int (g_tx5 i.toNatClampNeg))) SH I R L) : Mt G mJ0_charAt_5068e 4 0 0 [.float 3, .int i] SH I R L Q := e3_J0_charAt_5068e hR ⟨p0, (g_tx5_c i.toNatClampNeg (Nat.not_le.mp fun q => p0 (Or.inr q))).2, hq⟩
