theorem e_X0_isGuilty {G : gG} {I : gI} {R : gR} {L : gL} {Q : gQ} {v : Int32} {x : Nat} (hR : g_Fx R) (hx : g_Sc x) (h : ((I 3 10 < 0 ∨ 4 ≤ I 3 10) → ∀ v4_2 : Int32, v4_2 = I (x + 1) 0 + I (x + 1) 1 - I (x + 1) 2 - I (x + 1) 3 → (¬ v = 0 → (v4_2 ≤ 0 → Q (some (.int 0)) SH I R L) ∧ (¬ v4_2 ≤ 0 → Q (some (.int 1)) SH I R L)) ∧ (v = 0 → (0 ≤ v4_2 → Q (some (.int 0)) SH I R L) ∧ (¬ 0 ≤ v4_2 → Q (some (.int 1)) SH I R L))) ∧ (∀ y_1, (0 ≤ I 3 10 ∧ I 3 10 < 4 ∧ y_1 = 136 + 7 * (I 3 10).toNatClampNeg) → g_La y_1 → ∀ v4_6 : Int32, v4_6 = I (x + 1) 0 + I (x + 1) 1 - I (x + 1) 2 - I (x + 1) 3 → (vp_in (2 : Int32) 3) ∧ ((¬ I (y_1 + 2) (2 : Int32).toNatClampNeg = -1 → ∀ I_8 : gI, I_8 = up I 164 7 v → ∀ I_9 : gI, I_9 = up I_8 164 8 v4_6 → vp_in (2 * v) 4 ∧ (∀ I_10 : gI, I_10 = up I_9 164 9 (I_9 (x + 1) (2 * v).toNatClampNeg) → vp_in ((2 * v) + 1) 4 ∧ (∀ I_11 : gI, I_11 = up I_10 164 10 (I_10 (x + 1) ((2 * v) + 1).toNatClampNeg) → ∀ I_12 : gI, I_12 = up I_11 164 11 (I_11 x 4) → (vp_in (2 : Int32) 3) ∧ ((okC I_12 y_1 (2 : Int32).toNatClampNeg) ∧ (∀ r_15 : Int32, ∀ I_16 : gI, (r_15.toInt = vlC I_12 y_1 (2 : Int32).toNatClampNeg ∧ ∀ a, a ≠ 165 → I_16 a = I_12 a) → (r_15 = 0 → Q (some (.int 0)) SH I_16 R L) ∧ (¬ r_15 = 0 → Q (some (.int 1)) SH I_16 R L)))))) ∧ (¬ (¬ I (y_1 + 2) (2 : Int32).toNatClampNeg = -1) → (¬ v = 0 → (v4_6 ≤ 0 → Q (some (.int 0)) SH I R L) ∧ (¬ v4_6 ≤ 0 → Q (some (.int 1)) SH I R L)) ∧ (v = 0 → (0 ≤ v4_6 → Q (some (.int 0)) SH I R L) ∧ (¬ 0 ≤ v4_6 → Q (some (.int 1)) SH I R L)))))) : Mt G mX0_isGuilty 4 0 0 [.ref 2, .ref x, .int v] SH I R L Q := by
  refine go_start rfl (Nat.le_of_ble_eq_true rfl) rfl ?_
  refine go_aload_n dX0_isGuilty_0 rfl ?_
  refine go_callV0 (μ := mX0_isGuilty) [] dX0_isGuilty_1 YX0_ruling lX0_54 rfl ⟨_, rfl, rfl⟩ rfl (Nat.le_of_ble_eq_true rfl) (Nat.le_of_ble_eq_true rfl) rfl (k_X0_ruling hR (fun cn => ?_) (fun y_1 cs hy_1 => ?_))
  · have h := h.1 cn
    refine go_astoreN_n dX0_isGuilty_4 (Nat.le_of_ble_eq_true rfl) rfl ?_
    refine go_aload_n dX0_isGuilty_5 rfl ?_
    refine go_callV0 (μ := mX0_isGuilty) [] dX0_isGuilty_6 YX4_tilt lX0_79 (Sc_s0 hx) ⟨_, rfl, rfl⟩ rfl (Nat.le_of_ble_eq_true rfl) (Nat.le_of_ble_eq_true rfl) rfl (k_X4_tilt hR hx ?_)
    refine go_istore dX0_isGuilty_9 (Nat.le_of_ble_eq_true rfl) rfl ?_
    have h := h _ rfl
    refine go_aloadN_n dX0_isGuilty_11 rfl ?_
    refine go_ifnull_n 23 dX0_isGuilty_12 (by decide) ?_
    refine go_iload_n dX0_isGuilty_23 rfl ?_
    refine go_if_ne 40 dX0_isGuilty_24 (by decide) (fun c => ?_) (fun c => ?_)
    · have h := h.1 c
      refine go_iload dX0_isGuilty_40 rfl ?_
      refine go_if_le 49 dX0_isGuilty_42 (by decide) (fun c => ?_) (fun c => ?_)
      · have h := h.1 c
        refine go_iconst (v := 0) dX0_isGuilty_49 (by decide) ?_
        exact go_zret dX0_isGuilty_50 rfl rfl rfl h
      · have h := h.2 c
        refine go_iconst (v := 1) dX0_isGuilty_45 (by decide) ?_
        refine go_goto 50 dX0_isGuilty_46 (by decide) ?_
        exact go_zret dX0_isGuilty_50 rfl rfl rfl h
    · have h := h.2 c
      refine go_iload dX0_isGuilty_27 rfl ?_
      refine go_if_ge 36 dX0_isGuilty_29 (by decide) (fun c => ?_) (fun c => ?_)
      · have h := h.1 c
        refine go_iconst (v := 0) dX0_isGuilty_36 (by decide) ?_
        refine go_goto 50 dX0_isGuilty_37 (by decide) ?_
        exact go_zret dX0_isGuilty_50 rfl rfl rfl h
      · have h := h.2 c
        refine go_iconst (v := 1) dX0_isGuilty_32 (by decide) ?_
        refine go_goto 50 dX0_isGuilty_33 (by decide) ?_
        exact go_zret dX0_isGuilty_50 rfl rfl rfl h
  · have h := h.2 y_1 cs hy_1
    refine go_astore_n dX0_isGuilty_4 (Nat.le_of_ble_eq_true rfl) rfl ?_
    refine go_aload_n dX0_isGuilty_5 rfl ?_
    refine go_callV0 (μ := mX0_isGuilty) [] dX0_isGuilty_6 YX4_tilt lX0_79 (Sc_s0 hx) ⟨_, rfl, rfl⟩ rfl (Nat.le_of_ble_eq_true rfl) (Nat.le_of_ble_eq_true rfl) rfl (k_X4_tilt hR hx ?_)
    refine go_istore dX0_isGuilty_9 (Nat.le_of_ble_eq_true rfl) rfl ?_
    have h := h _ rfl
    refine go_aload_n dX0_isGuilty_11 rfl ?_
    refine go_ifnull_r dX0_isGuilty_12 ?_
    refine go_aload_n dX0_isGuilty_15 rfl ?_
    refine go_iconst (v := 2) dX0_isGuilty_16 (by decide) ?_
    obtain ⟨hp_7, h⟩ := h
    refine go_callV0 (μ := mX0_isGuilty) [.int _] dX0_isGuilty_17 YX2_has lX0_61 (La_s0 hy_1) ⟨_, rfl, rfl⟩ rfl (Nat.le_of_ble_eq_true rfl) (Nat.le_of_ble_eq_true rfl) rfl (k_X2_has hR hy_1 hp_7 ?_)
    refine go_if_ne 51 dX0_isGuilty_20 (by decide) (fun c => ?_) (fun c => ?_)
    · have h := h.1 (b1.mp c)
      refine go_aload_n dX0_isGuilty_51 rfl ?_
      refine go_getR dX0_isGuilty_52 fX0_25 rfl rfl (hR 2 2 164 rfl) ?_
      refine go_bipush (v := 7) dX0_isGuilty_55 (by decide) ?_
      refine go_iload_n dX0_isGuilty_57 rfl ?_
      refine go_iastK dX0_isGuilty_58 rfl (vp_in_nI (n := 7) (by decide) (by decide)) (k := 7) (by decide) ?_
      have h := h _ rfl
      refine go_aload_n dX0_isGuilty_59 rfl ?_
      refine go_getR dX0_isGuilty_60 fX0_25 rfl rfl (hR 2 2 164 rfl) ?_
      refine go_bipush (v := 8) dX0_isGuilty_63 (by decide) ?_
      refine go_iload dX0_isGuilty_65 rfl ?_
      refine go_iastK dX0_isGuilty_67 rfl (vp_in_nI (n := 8) (by decide) (by decide)) (k := 8) (by decide) ?_
      have h := h _ rfl
      refine go_aload_n dX0_isGuilty_68 rfl ?_
      refine go_getR dX0_isGuilty_69 fX0_25 rfl rfl (hR 2 2 164 rfl) ?_
      refine go_bipush (v := 9) dX0_isGuilty_72 (by decide) ?_
      refine go_aload_n dX0_isGuilty_74 rfl ?_
      refine go_getR dX0_isGuilty_75 fX0_37 rfl (Sc_s0 hx) (hR _ _ _ (Sc_r0_0 hx)) ?_
      refine go_iconst (v := 2) dX0_isGuilty_78 (by decide) ?_
      refine go_iload_n dX0_isGuilty_79 rfl ?_
      refine go_imul dX0_isGuilty_80 ?_
      obtain ⟨hi, h⟩ := h
      refine go_iald dX0_isGuilty_81 (Sc_s1 hx) hi ?_
      refine go_iastK dX0_isGuilty_82 rfl (vp_in_nI (n := 9) (by decide) (by decide)) (k := 9) (by decide) ?_
      have h := h _ rfl
      refine go_aload_n dX0_isGuilty_83 rfl ?_
      refine go_getR dX0_isGuilty_84 fX0_25 rfl rfl (hR 2 2 164 rfl) ?_
      refine go_bipush (v := 10) dX0_isGuilty_87 (by decide) ?_
      refine go_aload_n dX0_isGuilty_89 rfl ?_
      refine go_getR dX0_isGuilty_90 fX0_37 rfl (Sc_s0 hx) (hR _ _ _ (Sc_r0_0 hx)) ?_
      refine go_iconst (v := 2) dX0_isGuilty_93 (by decide) ?_
      refine go_iload_n dX0_isGuilty_94 rfl ?_
      refine go_imul dX0_isGuilty_95 ?_
      refine go_iconst (v := 1) dX0_isGuilty_96 (by decide) ?_
      refine go_iadd dX0_isGuilty_97 ?_
      obtain ⟨hi, h⟩ := h
      refine go_iald dX0_isGuilty_98 (Sc_s1 hx) hi ?_
      refine go_iastK dX0_isGuilty_99 rfl (vp_in_nI (n := 10) (by decide) (by decide)) (k := 10) (by decide) ?_
      have h := h _ rfl
      refine go_aload_n dX0_isGuilty_100 rfl ?_
      refine go_getR dX0_isGuilty_101 fX0_25 rfl rfl (hR 2 2 164 rfl) ?_
      refine go_bipush (v := 11) dX0_isGuilty_104 (by decide) ?_
      refine go_aload_n dX0_isGuilty_106 rfl ?_
      refine go_getI dX0_isGuilty_107 fX0_83 rfl (Sc_s0 hx) ?_
      refine go_iastK dX0_isGuilty_110 rfl (vp_in_nI (n := 11) (by decide) (by decide)) (k := 11) (by decide) ?_
      have h := h _ rfl
      refine go_aload_n dX0_isGuilty_111 rfl ?_
      refine go_aload_n dX0_isGuilty_112 rfl ?_
      refine go_iconst (v := 2) dX0_isGuilty_113 (by decide) ?_
      obtain ⟨hp_13, h⟩ := h
      obtain ⟨hp_14, h⟩ := h
      refine go_callV0 (μ := mX0_isGuilty) [.ref y_1, .int _] dX0_isGuilty_114 YX0_reckon lX0_69 rfl ⟨_, rfl, rfl⟩ rfl (Nat.le_of_ble_eq_true rfl) (Nat.le_of_ble_eq_true rfl) rfl (k_X0_reckon hR hy_1 hp_13 hp_14 (fun r_15 I_16 hq => ?_))
      have h := h r_15 I_16 hq
      refine go_if_eq 124 dX0_isGuilty_117 (by decide) (fun c => ?_) (fun c => ?_)
      · have h := h.1 c
        refine go_iconst (v := 0) dX0_isGuilty_124 (by decide) ?_
        exact go_zret dX0_isGuilty_125 rfl rfl rfl h
      · have h := h.2 c
        refine go_iconst (v := 1) dX0_isGuilty_120 (by decide) ?_
        refine go_goto 125 dX0_isGuilty_121 (by decide) ?_
        exact go_zret dX0_isGuilty_125 rfl rfl rfl h
    · have h := h.2 (b0.mp c)
      refine go_iload_n dX0_isGuilty_23 rfl ?_
      refine go_if_ne 40 dX0_isGuilty_24 (by decide) (fun c => ?_) (fun c => ?_)
      · have h := h.1 c
        refine go_iload dX0_isGuilty_40 rfl ?_
        refine go_if_le 49 dX0_isGuilty_42 (by decide) (fun c => ?_) (fun c => ?_)
        · have h := h.1 c
          refine go_iconst (v := 0) dX0_isGuilty_49 (by decide) ?_
          exact go_zret dX0_isGuilty_50 rfl rfl rfl h
        · have h := h.2 c
          refine go_iconst (v := 1) dX0_isGuilty_45 (by decide) ?_
          refine go_goto 50 dX0_isGuilty_46 (by decide) ?_
          exact go_zret dX0_isGuilty_50 rfl rfl rfl h
      · have h := h.2 c
        refine go_iload dX0_isGuilty_27 rfl ?_
        refine go_if_ge 36 dX0_isGuilty_29 (by decide) (fun c => ?_) (fun c => ?_)
        · have h := h.1 c
          refine go_iconst (v := 0) dX0_isGuilty_36 (by decide) ?_
          refine go_goto 50 dX0_isGuilty_37 (by decide) ?_
          exact go_zret dX0_isGuilty_50 rfl rfl rfl h
        · have h := h.2 c
          refine go_iconst (v := 1) dX0_isGuilty_32 (by decide) ?_
          refine go_goto 50 dX0_isGuilty_33 (by decide) ?_
          exact go_zret dX0_isGuilty_50 rfl rfl rfl h
theorem k_X0_isGuilty {G : gG} {I : gI} {R : gR} {L : gL} {Q : gQ} {v : Int32} {x : Nat} (hR : g_Fx R) (hx : g_Sc x) (p0 : vp_in v 2) (p1 : okI I) (p2 : okD (dyC I x)) (p3 : 0 ≤ (I x 4).toInt ∧ (I x 4).toInt ≤ 30) (hq : ∀ I1 : gI, (∀ a, a ≠ 164 → a ≠ 165 → I1 a = I a) → Q (some (.int (if gui (thC I) (dyC I x) v.toInt (I x 4).toInt = true then 1 else 0))) SH I1 R L) : Mt G mX0_isGuilty 4 0 0 [.ref 2, .ref x, .int v] SH I R L Q := by
  obtain ⟨⟨n1, n1'⟩, ⟨n2, n2'⟩, ⟨n3, n3'⟩, ⟨n0, n0'⟩⟩ := Sc_ne hx
  obtain ⟨s, hs, es⟩ := vp_in_of p0 (by decide)
  have est : v.toInt = s := by rw [es]; exact nI_toInt (by omega)
  have h0 := p2.1 0 (by decide)
  have h1 := p2.1 1 (by decide)
  have h2 := p2.1 2 (by decide)
  have h3 := p2.1 3 (by decide)
  have d0 : (dyC I x).1 0 = (I (x + 1) 0).toInt := rfl
  have d1 : (dyC I x).1 1 = (I (x + 1) 1).toInt := rfl
  have d2 : (dyC I x).1 2 = (I (x + 1) 2).toInt := rfl
  have d3 : (dyC I x).1 3 = (I (x + 1) 3).toInt := rfl
  have t1 : (I (x + 1) 0 + I (x + 1) 1).toInt = (I (x + 1) 0).toInt + (I (x + 1) 1).toInt := ti_add (by omega) (by omega)
  have t2 : (I (x + 1) 0 + I (x + 1) 1 - I (x + 1) 2).toInt = (I (x + 1) 0).toInt + (I (x + 1) 1).toInt - (I (x + 1) 2).toInt := by rw [ti_sub] <;> rw [t1] <;> omega
  have t3 : (I (x + 1) 0 + I (x + 1) 1 - I (x + 1) 2 - I (x + 1) 3).toInt = tlt (dyC I x) := by
    unfold tlt
    rw [ti_sub] <;> rw [t2] <;> omega
  have z0 : (0 : Int32).toInt = 0 := rfl
  have c2 : (2 : Int32).toNatClampNeg = 2 := rfl
  generalize hT : I (x + 1) 0 + I (x + 1) 1 - I (x + 1) 2 - I (x + 1) 3 = T at t3
  have base : lwC I 2 = none → (¬ v = 0 → (T ≤ 0 → Q (some (.int 0)) SH I R L) ∧ (¬ T ≤ 0 → Q (some (.int 1)) SH I R L)) ∧ (v = 0 → (0 ≤ T → Q (some (.int 0)) SH I R L) ∧ (¬ 0 ≤ T → Q (some (.int 1)) SH I R L)) := by
    intro hn
    have hk := hq I (fun _ _ _ => rfl)
    have hg : gui (thC I) (dyC I x) v.toInt (I x 4).toInt = if v.toInt = 0 then decide (tlt (dyC I x) < 0) else decide (0 < tlt (dyC I x)) := by
      unfold gui
      rw [show (thC I).2.2 2 = none from hn]
    have kf : gui (thC I) (dyC I x) v.toInt (I x 4).toInt = false → Q (some (.int 0)) SH I R L := fun h => by rw [h] at hk; simpa using hk
    have kt : gui (thC I) (dyC I x) v.toInt (I x 4).toInt = true → Q (some (.int 1)) SH I R L := fun h => by rw [h] at hk; simpa using hk
    rw [← t3] at hg
    refine ⟨fun c => ?_, fun c => ?_⟩
    · have c' : ¬ v.toInt = 0 := fun q => c (ti_eq.mpr q)
      rw [if_neg c'] at hg
      refine ⟨fun c2 => kf ?_, fun c2 => kt ?_⟩ <;> rw [ti_le, z0] at c2 <;> rw [hg] <;> simp <;> omega
    · have c' : v.toInt = 0 := by rw [c]; rfl
      rw [if_pos c'] at hg
      refine ⟨fun c2 => kf ?_, fun c2 => kt ?_⟩ <;> rw [ti_le, z0] at c2 <;> rw [hg] <;> simp <;> omega
  refine e_X0_isGuilty hR hx ⟨fun c => ?_, fun y hc hy => ?_⟩
  · rw [hT]
    rintro _ rfl
    exact base (by unfold lwC; rw [if_pos c])
  · obtain ⟨k1, k2, ky⟩ := hc
    rw [hT, c2]
    intro v4 e4
    rw [e4]
    clear e4 v4
    refine ⟨vp_in_nI (n := 2) (by decide) (by decide), fun c => ?_, fun c => base (lw_none ky (Classical.not_not.mp c))⟩
    obtain ⟨a1, a2, a3⟩ := La_164 hy
    rintro _ rfl _ rfl
    have e2 : (2 : Int32).toInt = 2 := rfl
    have e1 : (1 : Int32).toInt = 1 := rfl
    have s2 : (2 * v).toInt = 2 * s := by rw [ti_mul] <;> rw [e2, est] <;> omega
    have s3 : (2 * v + 1).toInt = 2 * s + 1 := by rw [ti_add] <;> rw [s2, e1] <;> omega
    have g2 : (2 * v).toNatClampNeg = 2 * s := by show (2 * v).toInt.toNat = _; rw [s2]; omega
    have g3 : (2 * v + 1).toNatClampNeg = 2 * s + 1 := by show (2 * v + 1).toInt.toNat = _; rw [s3]; omega
    refine ⟨vp_in_iff.mpr (by rw [s2]; omega), ?_⟩
    rintro _ rfl
    refine ⟨vp_in_iff.mpr (by rw [s3]; omega), ?_⟩
    rintro _ rfl _ rfl
    rw [g2, g3, up_nc n1, up_nc n1, up_nc n1, up_nc n1, up_nc n1, up_nc n0, up_nc n0, up_nc n0, up_nc n0]
    generalize hJ : up (up (up (up (up I 164 7 v) 164 8 T) 164 9 (I (x + 1) (2 * s))) 164 10 (I (x + 1) (2 * s + 1))) 164 11 (I x 4) = J
    have joff : ∀ a, a ≠ 164 → J a = I a := fun a ha => by rw [← hJ, up_off a ha, up_off a ha, up_off a ha, up_off a ha, up_off a ha]
    have j7 : J 164 7 = v := by rw [← hJ]; simp [up]
    have j8 : J 164 8 = T := by rw [← hJ]; simp [up]
    have j9 : J 164 9 = I (x + 1) (2 * s) := by rw [← hJ]; simp [up]
    have j10 : J 164 10 = I (x + 1) (2 * s + 1) := by rw [← hJ]; simp [up]
    have j11 : J 164 11 = I x 4 := by rw [← hJ]; simp [up]
    have hty := p1.1.2.2 2 (tkl I y 2) (by decide) (lw_some ky k1 k2 c)
    have hn8 : ∀ t ∈ tkl I y 2, t.1 = 401 → 6 < t.2 ∧ t.2 < 12 := fun t ht h401 => ⟨by have := hty.2 t ht h401; simpa using this, (ty_name hty.1 t ht h401).2⟩
    have hnm : ∀ t ∈ tkl I y 2, t.1 = 401 → nmC J t.2.toNat = nmg (dyC I x) v.toInt (I x 4).toInt t.2.toNat ∧ -1000000 ≤ nmC J t.2.toNat ∧ nmC J t.2.toNat ≤ 1000000 := by
      intro t ht h401
      have h5 := hn8 t ht h401
      have p2s : (2 * v.toInt).toNat = 2 * s := by rw [est]; omega
      have p3s : (2 * v.toInt + 1).toNat = 2 * s + 1 := by rw [est]; omega
      have b1 := p2.1 (2 * s) (by omega)
      have b2 := p2.1 (2 * s + 1) (by omega)
      have d4 : (dyC I x).1 (2 * s) = (I (x + 1) (2 * s)).toInt := rfl
      have d5 : (dyC I x).1 (2 * s + 1) = (I (x + 1) (2 * s + 1)).toInt := rfl
      have tb : tlt (dyC I x) = (dyC I x).1 0 + (dyC I x).1 1 - (dyC I x).1 2 - (dyC I x).1 3 := rfl
      rcases (show t.2.toNat = 7 ∨ t.2.toNat = 8 ∨ t.2.toNat = 9 ∨ t.2.toNat = 10 ∨ t.2.toNat = 11 by omega) with h | h | h | h | h <;> rw [h] <;> unfold nmC
      · rw [j7]; exact ⟨rfl, by omega, by omega⟩
      · rw [j8]; exact ⟨t3, by omega, by omega⟩
      · rw [j9]; exact ⟨by simp [nmg, p2s, d4], by omega, by omega⟩
      · rw [j10]; exact ⟨by simp [nmg, p3s, d5], by omega, by omega⟩
      · rw [j11]; exact ⟨rfl, by omega, by omega⟩
    obtain ⟨w1, w2, w3, w4⟩ := okC_of (I' := J) (w := 2) (by decide) ky k1 k2 c p1 (joff _ a1) (joff _ a2) (joff _ a3) (fun t ht h401 => (hnm t ht h401).2)
    refine ⟨vp_in_nI (n := 2) (by decide) (by decide), w3, ?_⟩
    rintro r I2 ⟨hr, hI2⟩
    have hk := hq I2 (fun a b1 b2 => by rw [hI2 a b2, joff a b1])
    have hv : r.toInt = vl (nmg (dyC I x) v.toInt (I x 4).toInt) (tkl I y 2) := by
      rw [hr, w4]
      exact vl_congr (fun t ht h401 => (hnm t ht h401).1)
    have hb := vl_ok w2.1 (fun t ht h401 => (hnm t ht h401).2)
    rw [← w4, ← hr] at hb
    have hb2 := hb.2.2 (by decide)
    have hg : gui (thC I) (dyC I x) v.toInt (I x 4).toInt = decide (0 < r.toInt) := by
      unfold gui
      rw [show (thC I).2.2 2 = some (tkl I y 2) from w1, hv]
    have kf : gui (thC I) (dyC I x) v.toInt (I x 4).toInt = false → Q (some (.int 0)) SH I2 R L := fun h => by rw [h] at hk; simpa using hk
    have kt : gui (thC I) (dyC I x) v.toInt (I x 4).toInt = true → Q (some (.int 1)) SH I2 R L := fun h => by rw [h] at hk; simpa using hk
    refine ⟨fun c => kf ?_, fun c => kt ?_⟩ <;> rw [hg]
    · rw [c]; decide
    · have : ¬ r.toInt = 0 := fun q => c (ti_eq.mpr q)
      simp; omega
