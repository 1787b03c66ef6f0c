theorem vi11 {x : Int32} : vp_in x 11 ↔ 0 ≤ x ∧ x < 11 := vi (by decide)
theorem e4_J0_coder_7d493 {G : gG} {I : gI} {R : gR} {L : gL} {Q : gQ} (hR : g_Fx R) (h : Q (some (.int 0)) SH I R L) : Mt G mJ0_coder_7d493 1 0 0 [.float 4] SH I R L Q := by
  refine go_start rfl (Nat.le_of_ble_eq_true rfl) rfl ?_
  refine go_compact rfl dJ0_coder_7d493_0 ?_
  refine go_if_eq 13 dJ0_coder_7d493_3 (by decide) (fun c => absurd c (by decide)) (fun _ => ?_)
  refine go_aloadX_n dJ0_coder_7d493_6 rfl ?_
  refine go_scod4 rfl dJ0_coder_7d493_7 ?_
  refine go_goto 14 dJ0_coder_7d493_10 (by decide) ?_
  exact go_zret dJ0_coder_7d493_14 rfl rfl rfl h
theorem k4_J0_coder_7d493 {G : gG} {I : gI} {R : gR} {L : gL} {Q : gQ} (hR : g_Fx R) (hq : Q (some (.int 0)) SH I R L) : Mt G mJ0_coder_7d493 1 0 0 [.float 4] SH I R L Q := e4_J0_coder_7d493 hR (by grind)
theorem e4_J0_length_8abf5 {G : gG} {I : gI} {R : gR} {L : gL} {Q : gQ} (hR : g_Fx R) (h : Q (some (.int ((11 : Int32) >>> ((0 : Int32) &&& 31)))) SH I R L) : Mt G mJ0_length_8abf5 2 0 0 [.float 4] SH I R L Q := by
  refine go_start rfl (Nat.le_of_ble_eq_true rfl) rfl ?_
  refine go_aloadX_n dJ0_length_8abf5_0 rfl ?_
  refine go_sval4 rfl dJ0_length_8abf5_1 ?_
  refine go_sbn6 dJ0_length_8abf5_4 ?_
  refine go_aloadX_n dJ0_length_8abf5_5 rfl ?_
  refine go_callX4 (μ := mJ0_length_8abf5) [] dJ0_length_8abf5_6 YJ0_coder_7d493 lJ0_335 rfl rfl (Nat.le_of_ble_eq_true rfl) (Nat.le_of_ble_eq_true rfl) rfl (k4_J0_coder_7d493 hR ?_)
  refine go_ishr dJ0_length_8abf5_9 ?_
  exact go_iret dJ0_length_8abf5_10 rfl rfl h
theorem k4_J0_length_8abf5 {G : gG} {I : gI} {R : gR} {L : gL} {Q : gQ} (hR : g_Fx R) (hq : Q (some (.int 11)) SH I R L) : Mt G mJ0_length_8abf5 2 0 0 [.float 4] SH I R L Q := e4_J0_length_8abf5 hR (by rw [show (11 : Int32) >>> ((0 : Int32) &&& 31) = 11 by decide]; exact hq)
theorem e4_J0_isLatin1_aae02 {G : gG} {I : gI} {R : gR} {L : gL} {Q : gQ} (hR : g_Fx R) (h : Q (some (.int 1)) SH I R L) : Mt G mJ0_isLatin1_aae02 1 0 0 [.float 4] SH I R L Q := by
  refine go_start rfl (Nat.le_of_ble_eq_true rfl) rfl ?_
  refine go_compact rfl dJ0_isLatin1_aae02_0 ?_
  refine go_if_eq 17 dJ0_isLatin1_aae02_3 (by decide) (fun c => absurd c (by decide)) (fun _ => ?_)
  refine go_aloadX_n dJ0_isLatin1_aae02_6 rfl ?_
  refine go_scod4 rfl dJ0_isLatin1_aae02_7 ?_
  refine go_if_ne 17 dJ0_isLatin1_aae02_10 (by decide) (fun c => absurd c (by decide)) (fun _ => ?_)
  refine go_iconst (v := 1) dJ0_isLatin1_aae02_13 (by decide) ?_
  refine go_goto 18 dJ0_isLatin1_aae02_14 (by decide) ?_
  exact go_zret dJ0_isLatin1_aae02_18 rfl rfl rfl h
theorem k4_J0_isLatin1_aae02 {G : gG} {I : gI} {R : gR} {L : gL} {Q : gQ} (hR : g_Fx R) (hq : Q (some (.int 1)) SH I R L) : Mt G mJ0_isLatin1_aae02 1 0 0 [.float 4] SH I R L Q := e4_J0_isLatin1_aae02 hR (by grind)
theorem e4_J1_canEncode_9a6ad {G : gG} {I : gI} {R : gR} {L : gL} {Q : gQ} {c : Int32} (hR : g_Fx R) (h : (c < 0 → Q (some (.int 0)) SH I R L) ∧ (¬ c < 0 → (255 < c → Q (some (.int 0)) SH I R L) ∧ (¬ 255 < c → Q (some (.int 1)) SH I R L))) : Mt G mJ1_canEncode_9a6ad 1 0 0 [.int c] SH I R L Q := by
  refine go_start rfl (Nat.le_of_ble_eq_true rfl) rfl ?_
  refine go_iload_n dJ1_canEncode_9a6ad_0 rfl ?_
  refine go_if_lt 15 dJ1_canEncode_9a6ad_1 (by decide) (fun c => ?_) (fun c => ?_)
  · have h := h.1 c
    refine go_iconst (v := 0) dJ1_canEncode_9a6ad_15 (by decide) ?_
    exact go_zret dJ1_canEncode_9a6ad_16 rfl rfl rfl h
  · have h := h.2 c
    refine go_iload_n dJ1_canEncode_9a6ad_4 rfl ?_
    refine go_sipush (v := 255) dJ1_canEncode_9a6ad_5 (by decide) ?_
    refine go_icmp_gt 15 dJ1_canEncode_9a6ad_8 (by decide) (fun c => ?_) (fun c => ?_)
    · have h := h.1 c
      refine go_iconst (v := 0) dJ1_canEncode_9a6ad_15 (by decide) ?_
      exact go_zret dJ1_canEncode_9a6ad_16 rfl rfl rfl h
    · have h := h.2 c
      refine go_iconst (v := 1) dJ1_canEncode_9a6ad_11 (by decide) ?_
      refine go_goto 16 dJ1_canEncode_9a6ad_12 (by decide) ?_
      exact go_zret dJ1_canEncode_9a6ad_16 rfl rfl rfl h
theorem k4_J1_canEncode_9a6ad {G : gG} {I : gI} {R : gR} {L : gL} {Q : gQ} {c : Int32} (hR : g_Fx R) (hq : Q (some (.int (if 0 ≤ c ∧ c ≤ 255 then 1 else 0))) SH I R L) : Mt G mJ1_canEncode_9a6ad 1 0 0 [.int c] SH I R L Q := e4_J1_canEncode_9a6ad hR (by grind)
theorem e4_J1_indexOfChar_4cfef {G : gG} {I : gI} {R : gR} {L : gL} {Q : gQ} {c a b : Int32} (hR : g_Fx R) (h : ∀ v4_1 : Int32, v4_1 = c.toInt8.toInt32 → Go G mJ1_indexOfChar_4cfef 1 0 0 7 [some (.float 6), none, none, some (.int b), some (.int v4_1), some (.int a)] [] SH I R L Q) : Mt G mJ1_indexOfChar_4cfef 1 0 0 [.float 6, .int c, .int a, .int b] SH I R L Q := by
  refine go_start rfl (Nat.le_of_ble_eq_true rfl) rfl ?_
  refine go_iload_n dJ1_indexOfChar_4cfef_0 rfl ?_
  refine go_i2b dJ1_indexOfChar_4cfef_1 ?_
  refine go_istore dJ1_indexOfChar_4cfef_2 (Nat.le_of_ble_eq_true rfl) rfl ?_
  have h := h _ rfl
  refine go_iload_n dJ1_indexOfChar_4cfef_4 rfl ?_
  refine go_istore dJ1_indexOfChar_4cfef_5 (Nat.le_of_ble_eq_true rfl) rfl ?_
  refine go_drop 1 ?_
  refine go_drop 2 ?_
  exact h
theorem b4_J1_indexOfChar_4cfef_7 {G : gG} {I : gI} {R : gR} {L : gL} {Q : gQ} {v3 v4 v5 : Int32} (hR : g_Fx R) (h : (v3 ≤ v5 → Q (some (.int (-1))) SH I R L) ∧ (¬ v3 ≤ v5 → vp_in v5 11 ∧ ((¬ (g_tx6 v5.toNatClampNeg) = v4 → ∀ v5_2 : Int32, v5_2 = v5 + 1 → Go G mJ1_indexOfChar_4cfef 1 0 0 7 [some (.float 6), none, none, some (.int v3), some (.int v4), some (.int v5_2)] [] SH I R L Q) ∧ ((g_tx6 v5.toNatClampNeg) = v4 → Q (some (.int v5)) SH I R L)))) : Go G mJ1_indexOfChar_4cfef 1 0 0 7 [some (.float 6), none, none, some (.int v3), some (.int v4), some (.int v5)] [] SH I R L Q := by
  refine go_iload dJ1_indexOfChar_4cfef_7 rfl ?_
  refine go_iload_n dJ1_indexOfChar_4cfef_9 rfl ?_
  refine go_icmp_ge 31 dJ1_indexOfChar_4cfef_10 (by decide) (fun c => ?_) (fun c => ?_)
  · have h := h.1 c
    refine go_iconst (v := -1) dJ1_indexOfChar_4cfef_31 (by decide) ?_
    exact go_iret dJ1_indexOfChar_4cfef_32 rfl rfl h
  · have h := h.2 c
    refine go_aloadX_n dJ1_indexOfChar_4cfef_13 rfl ?_
    refine go_iload dJ1_indexOfChar_4cfef_14 rfl ?_
    obtain ⟨hi, h⟩ := h
    refine go_sby6 dJ1_indexOfChar_4cfef_16 hi ?_
    refine go_iload dJ1_indexOfChar_4cfef_17 rfl ?_
    refine go_icmp_ne 25 dJ1_indexOfChar_4cfef_19 (by decide) (fun c => ?_) (fun c => ?_)
    · have h := h.1 c
      refine go_iinc dJ1_indexOfChar_4cfef_25 rfl (Nat.le_of_ble_eq_true rfl) rfl ?_
      have h := h _ rfl
      refine go_goto 7 dJ1_indexOfChar_4cfef_28 (by decide) ?_
      exact h
    · have h := h.2 c
      refine go_iload dJ1_indexOfChar_4cfef_22 rfl ?_
      exact go_iret dJ1_indexOfChar_4cfef_24 rfl rfl h
def fndI (v : Int32) (i : Nat) : Nat → Int32
  | 0 => -1
  | m + 1 => if g_tx6 i = v then nI i else fndI v (i + 1) m
theorem k4_J1_indexOfChar_4cfef {G : gG} {I : gI} {R : gR} {L : gL} {Q : gQ} {c a b : Int32} (hR : g_Fx R) (p0 : a = 0) (p1 : b = 11) (hq : Q (some (.int (fndI c.toInt8.toInt32 0 11))) SH I R L) : Mt G mJ1_indexOfChar_4cfef 1 0 0 [.float 6, .int c, .int a, .int b] SH I R L Q := by
  subst p0
  subst p1
  refine e4_J1_indexOfChar_4cfef hR ?_
  intro v hv
  rw [← hv] at hq
  have main : ∀ (m i : Nat), i + m = 11 → Q (some (.int (fndI v i m))) SH I R L → Go G mJ1_indexOfChar_4cfef 1 0 0 7 [some (.float 6), none, none, some (.int 11), some (.int v), some (.int (nI i))] [] SH I R L Q := by
    intro m
    induction m with
    | zero =>
      intro i hi K
      exact b4_J1_indexOfChar_4cfef_7 hR ⟨fun _ => K, fun c => absurd (nI_le (a := 11) (by omega) (by omega)) c⟩
    | succ m ih =>
      intro i hi K
      rw [fndI] at K
      refine b4_J1_indexOfChar_4cfef_7 hR ⟨fun c => absurd c (nI_ge (b := 11) (by omega) (by decide)), fun _ => ⟨vp_in_nI (by omega) (by decide), ?_⟩⟩
      rw [nI_clamp (by omega)]
      refine ⟨fun c => ?_, fun c => ?_⟩
      · rintro _ rfl
        rw [nI_1]
        rw [if_neg c] at K
        exact ih (i + 1) (by omega) K
      · rw [if_pos c] at K
        exact K
  exact main 11 0 rfl hq
theorem e4_J1_indexOf_4cfef {G : gG} {I : gI} {R : gR} {L : gL} {Q : gQ} {c a b : Int32} (hR : g_Fx R) (h : (0 ≤ c ∧ c ≤ 255 → ∀ v2_1 : Int32, v2_1 = (if a < 0 then 0 else a) → ∀ v3_2 : Int32, v3_2 = (if 11 < b then 11 else b) → (v2_1 < v3_2 → (v2_1 = 0) ∧ ((v3_2 = 11) ∧ (Q (some (.int (fndI c.toInt8.toInt32 0 11))) SH I R L))) ∧ (¬ v2_1 < v3_2 → Q (some (.int (-1))) SH I R L)) ∧ (¬ (0 ≤ c ∧ c ≤ 255) → Q (some (.int (-1))) SH I R L)) : Mt G mJ1_indexOf_4cfef 2 0 0 [.float 6, .int c, .int a, .int b] SH I R L Q := by
  refine go_start rfl (Nat.le_of_ble_eq_true rfl) rfl ?_
  refine go_iload_n dJ1_indexOf_4cfef_0 rfl ?_
  refine go_callS0 (μ := mJ1_indexOf_4cfef) [.int _] dJ1_indexOf_4cfef_1 YJ1_canEncode_9a6ad lJ1_88 rfl (Nat.le_of_ble_eq_true rfl) (Nat.le_of_ble_eq_true rfl) rfl (k4_J1_canEncode_9a6ad hR ?_)
  refine go_if_ne 9 dJ1_indexOf_4cfef_4 (by decide) (fun c => ?_) (fun c => ?_)
  · have h := h.1 (b1.mp c)
    refine go_iload_n dJ1_indexOf_4cfef_9 rfl ?_
    refine go_iconst (v := 0) dJ1_indexOf_4cfef_10 (by decide) ?_
    refine go_mmax dJ1_indexOf_4cfef_11 lJ1_92 ns_max ni_J9 nc_max (Nat.le_of_ble_eq_true rfl) (Nat.le_of_ble_eq_true rfl) ?_
    refine go_istore_n dJ1_indexOf_4cfef_14 (Nat.le_of_ble_eq_true rfl) rfl ?_
    have h := h _ rfl
    refine go_iload_n dJ1_indexOf_4cfef_15 rfl ?_
    refine go_aloadX_n dJ1_indexOf_4cfef_16 rfl ?_
    refine go_sbn6 dJ1_indexOf_4cfef_17 ?_
    refine go_mmin dJ1_indexOf_4cfef_18 lJ1_38 ns_min ni_J9 nc_min (Nat.le_of_ble_eq_true rfl) (Nat.le_of_ble_eq_true rfl) ?_
    refine go_istore_n dJ1_indexOf_4cfef_21 (Nat.le_of_ble_eq_true rfl) rfl ?_
    have h := h _ rfl
    refine go_iload_n dJ1_indexOf_4cfef_22 rfl ?_
    refine go_iload_n dJ1_indexOf_4cfef_23 rfl ?_
    refine go_icmp_lt 29 dJ1_indexOf_4cfef_24 (by decide) (fun c => ?_) (fun c => ?_)
    · have h := h.1 c
      refine go_aloadX_n dJ1_indexOf_4cfef_29 rfl ?_
      refine go_iload_n dJ1_indexOf_4cfef_30 rfl ?_
      refine go_iload_n dJ1_indexOf_4cfef_31 rfl ?_
      refine go_iload_n dJ1_indexOf_4cfef_32 rfl ?_
      obtain ⟨hp_3, h⟩ := h
      obtain ⟨hp_4, h⟩ := h
      refine go_callS0 (μ := mJ1_indexOf_4cfef) [.float 6, .int _, .int _, .int _] dJ1_indexOf_4cfef_33 YJ1_indexOfChar_4cfef lJ1_95 rfl (Nat.le_of_ble_eq_true rfl) (Nat.le_of_ble_eq_true rfl) rfl (k4_J1_indexOfChar_4cfef hR hp_3 hp_4 ?_)
      exact go_iret dJ1_indexOf_4cfef_36 rfl rfl h
    · have h := h.2 c
      refine go_iconst (v := -1) dJ1_indexOf_4cfef_27 (by decide) ?_
      exact go_iret dJ1_indexOf_4cfef_28 rfl rfl h
  · have h := h.2 (b0.mp c)
    refine go_iconst (v := -1) dJ1_indexOf_4cfef_7 (by decide) ?_
    exact go_iret dJ1_indexOf_4cfef_8 rfl rfl h
theorem k4_J1_indexOf_4cfef {G : gG} {I : gI} {R : gR} {L : gL} {Q : gQ} {c a b : Int32} (hR : g_Fx R) (p0 : a = 0) (p1 : b = 11) (p2 : 0 ≤ c ∧ c ≤ 255) (hq : Q (some (.int (fndI c.toInt8.toInt32 0 11))) SH I R L) : Mt G mJ1_indexOf_4cfef 2 0 0 [.float 6, .int c, .int a, .int b] SH I R L Q := e4_J1_indexOf_4cfef hR (by refine ⟨fun _ => ?_, fun c => absurd p2 c⟩; rintro _ rfl _ rfl; subst p0; subst p1; exact ⟨fun _ => ⟨by decide, by decide, hq⟩, fun c => absurd (by decide) c⟩)
theorem e4_J0_indexOf_7cf53 {G : gG} {I : gI} {R : gR} {L : gL} {Q : gQ} {c a : Int32} (hR : g_Fx R) (h : (a = 0) ∧ (((11 : Int32) = 11) ∧ ((0 ≤ c ∧ c ≤ 255) ∧ (Q (some (.int (fndI c.toInt8.toInt32 0 11))) SH I R L)))) : Mt G mJ0_indexOf_7cf53 4 0 0 [.float 4, .int c, .int a] SH I R L Q := by
  refine go_start rfl (Nat.le_of_ble_eq_true rfl) rfl ?_
  refine go_aloadX_n dJ0_indexOf_7cf53_0 rfl ?_
  refine go_callX4 (μ := mJ0_indexOf_7cf53) [] dJ0_indexOf_7cf53_1 YJ0_isLatin1_aae02 lJ0_492 rfl rfl (Nat.le_of_ble_eq_true rfl) (Nat.le_of_ble_eq_true rfl) rfl (k4_J0_isLatin1_aae02 hR ?_)
  refine go_if_eq 23 dJ0_indexOf_7cf53_4 (by decide) (fun c => absurd c (by decide)) (fun _ => ?_)
  refine go_aloadX_n dJ0_indexOf_7cf53_7 rfl ?_
  refine go_sval4 rfl dJ0_indexOf_7cf53_8 ?_
  refine go_iload_n dJ0_indexOf_7cf53_11 rfl ?_
  refine go_iload_n dJ0_indexOf_7cf53_12 rfl ?_
  refine go_aloadX_n dJ0_indexOf_7cf53_13 rfl ?_
  refine go_callX4 (μ := mJ0_indexOf_7cf53) [] dJ0_indexOf_7cf53_14 YJ0_length_8abf5 lJ0_505 rfl rfl (Nat.le_of_ble_eq_true rfl) (Nat.le_of_ble_eq_true rfl) rfl (k4_J0_length_8abf5 hR ?_)
  obtain ⟨hp_1, h⟩ := h
  obtain ⟨hp_2, h⟩ := h
  obtain ⟨hp_3, h⟩ := h
  refine go_callS0 (μ := mJ0_indexOf_7cf53) [.float 6, .int _, .int _, .int _] dJ0_indexOf_7cf53_17 YJ1_indexOf_4cfef lJ0_637 rfl (Nat.le_of_ble_eq_true rfl) (Nat.le_of_ble_eq_true rfl) rfl (k4_J1_indexOf_4cfef hR hp_1 hp_2 hp_3 ?_)
  refine go_goto 36 dJ0_indexOf_7cf53_20 (by decide) ?_
  exact go_iret dJ0_indexOf_7cf53_36 rfl rfl h
theorem k4_J0_indexOf_7cf53 {G : gG} {I : gI} {R : gR} {L : gL} {Q : gQ} {c a : Int32} (hR : g_Fx R) (p0 : a = 0) (p1 : 0 ≤ c ∧ c ≤ 255) (hq : Q (some (.int (fndI c.toInt8.toInt32 0 11))) SH I R L) : Mt G mJ0_indexOf_7cf53 4 0 0 [.float 4, .int c, .int a] SH I R L Q := e4_J0_indexOf_7cf53 hR (⟨p0, rfl, p1, hq⟩)
theorem e4_J0_indexOf_0f7a4 {G : gG} {I : gI} {R : gR} {L : gL} {Q : gQ} {c : Int32} (hR : g_Fx R) (h : ((0 : Int32) = 0) ∧ ((0 ≤ c ∧ c ≤ 255) ∧ (Q (some (.int (fndI c.toInt8.toInt32 0 11))) SH I R L))) : Mt G mJ0_indexOf_0f7a4 5 0 0 [.float 4, .int c] SH I R L Q := by
  refine go_start rfl (Nat.le_of_ble_eq_true rfl) rfl ?_
  refine go_aloadX_n dJ0_indexOf_0f7a4_0 rfl ?_
  refine go_iload_n dJ0_indexOf_0f7a4_1 rfl ?_
  refine go_iconst (v := 0) dJ0_indexOf_0f7a4_2 (by decide) ?_
  obtain ⟨hp_1, h⟩ := h
  obtain ⟨hp_2, h⟩ := h
  refine go_callX4 (μ := mJ0_indexOf_0f7a4) [.int _, .int _] dJ0_indexOf_0f7a4_3 YJ0_indexOf_7cf53 lJ0_633 rfl rfl (Nat.le_of_ble_eq_true rfl) (Nat.le_of_ble_eq_true rfl) rfl (k4_J0_indexOf_7cf53 hR hp_1 hp_2 ?_)
  exact go_iret dJ0_indexOf_0f7a4_6 rfl rfl h
theorem k4_J0_indexOf_0f7a4 {G : gG} {I : gI} {R : gR} {L : gL} {Q : gQ} {c : Int32} (hR : g_Fx R) (p0 : 0 ≤ c ∧ c ≤ 255) (hq : Q (some (.int (fndI c.toInt8.toInt32 0 11))) SH I R L) : Mt G mJ0_indexOf_0f7a4 5 0 0 [.float 4, .int c] SH I R L Q := e4_J0_indexOf_0f7a4 hR (⟨rfl, p0, hq⟩)
theorem fnd_sgn : ∀ c, c < 256 → fndI (nI c).toInt8.toInt32 0 11 = if sgn c = 39 then -1 else nI (sgn c - 24) := by decide +kernel
