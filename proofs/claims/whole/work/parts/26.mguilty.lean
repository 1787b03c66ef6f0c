theorem e_X7_isGuilty {G : gG} {I : gI} {R : gR} {L : gL} {Q : gQ} {v : Int32} (hR : g_Fx R) (h : okR I ∧ (∀ v2_2 : Int32, v2_2 = ordV I (2 : Int32) → ∀ v3_3 : Int32, v3_3 = I 333 0 + I 333 1 - I 333 2 - I 333 3 → (¬ v2_2 = (-1) → ∀ I_4 : gI, I_4 = up I 331 7 v → ∀ I_5 : gI, I_5 = up I_4 331 8 v3_3 → vp_in (2 * v) 4 ∧ (∀ I_6 : gI, I_6 = up I_5 331 9 (I_5 333 (2 * v).toNatClampNeg) → vp_in ((2 * v) + 1) 4 ∧ (∀ I_7 : gI, I_7 = up I_6 331 10 (I_6 333 ((2 * v) + 1).toNatClampNeg) → ∀ I_8 : gI, I_8 = up I_7 331 11 (I_7 311 373) → okS I_8 v2_2 ∧ (∀ r_10 : Int64, ∀ L_11 : gL, (r_10.toInt = vl (nmM I_8) (tkM I_8 v2_2.toNatClampNeg) ∧ ∀ a, a ≠ 332 → L_11 a = L a) → (r_10 ≤ 0 → Q (some (.int 0)) SH I_8 R L_11) ∧ (¬ r_10 ≤ 0 → Q (some (.int 1)) SH I_8 R L_11))))) ∧ (v2_2 = (-1) → (¬ v = 0 → (v3_3 ≤ 0 → Q (some (.int 0)) SH I R L) ∧ (¬ v3_3 ≤ 0 → Q (some (.int 1)) SH I R L)) ∧ (v = 0 → (0 ≤ v3_3 → Q (some (.int 0)) SH I R L) ∧ (¬ 0 ≤ v3_3 → Q (some (.int 1)) SH I R L))))) : Mt G mX7_isGuilty 5 0 0 [.ref 310, .int v] SH I R L Q := by
  refine go_start rfl (Nat.le_of_ble_eq_true rfl) rfl ?_
  refine go_aload_n dX7_isGuilty_0 rfl ?_
  refine go_iconst (v := 2) dX7_isGuilty_1 (by decide) ?_
  obtain ⟨hp_1, h⟩ := h
  refine go_callV0 (μ := mX7_isGuilty) [.int _] dX7_isGuilty_2 YX7_ordersOf lX7_317 rfl ⟨_, rfl, rfl⟩ rfl (Nat.le_of_ble_eq_true rfl) (Nat.le_of_ble_eq_true rfl) rfl (k_X7_ordersOf hR hp_1 ?_)
  refine go_istore_n dX7_isGuilty_5 (Nat.le_of_ble_eq_true rfl) rfl ?_
  have h := h _ rfl
  refine go_aload_n dX7_isGuilty_6 rfl ?_
  refine go_callV0 (μ := mX7_isGuilty) [] dX7_isGuilty_7 YX7_tilt lX7_340 rfl ⟨_, rfl, rfl⟩ rfl (Nat.le_of_ble_eq_true rfl) (Nat.le_of_ble_eq_true rfl) rfl (k_X7_tilt hR ?_)
  refine go_istore_n dX7_isGuilty_10 (Nat.le_of_ble_eq_true rfl) rfl ?_
  have h := h _ rfl
  refine go_iload_n dX7_isGuilty_11 rfl ?_
  refine go_iconst (v := -1) dX7_isGuilty_12 (by decide) ?_
  refine go_icmp_ne 42 dX7_isGuilty_13 (by decide) (fun c => ?_) (fun c => ?_)
  · have h := h.1 c
    refine go_aload_n dX7_isGuilty_42 rfl ?_
    refine go_getR dX7_isGuilty_43 fX7_78 rfl rfl (hR 310 37 331 rfl) ?_
    refine go_bipush (v := 7) dX7_isGuilty_46 (by decide) ?_
    refine go_iload_n dX7_isGuilty_48 rfl ?_
    refine go_iastK dX7_isGuilty_49 rfl (vp_in_nI (n := 7) (by decide) (by decide)) (k := 7) (by decide) ?_
    have h := h _ rfl
    refine go_aload_n dX7_isGuilty_50 rfl ?_
    refine go_getR dX7_isGuilty_51 fX7_78 rfl rfl (hR 310 37 331 rfl) ?_
    refine go_bipush (v := 8) dX7_isGuilty_54 (by decide) ?_
    refine go_iload_n dX7_isGuilty_56 rfl ?_
    refine go_iastK dX7_isGuilty_57 rfl (vp_in_nI (n := 8) (by decide) (by decide)) (k := 8) (by decide) ?_
    have h := h _ rfl
    refine go_aload_n dX7_isGuilty_58 rfl ?_
    refine go_getR dX7_isGuilty_59 fX7_78 rfl rfl (hR 310 37 331 rfl) ?_
    refine go_bipush (v := 9) dX7_isGuilty_62 (by decide) ?_
    refine go_aload_n dX7_isGuilty_64 rfl ?_
    refine go_getR dX7_isGuilty_65 fX7_85 rfl rfl (hR 310 39 333 rfl) ?_
    refine go_iconst (v := 2) dX7_isGuilty_68 (by decide) ?_
    refine go_iload_n dX7_isGuilty_69 rfl ?_
    refine go_imul dX7_isGuilty_70 ?_
    obtain ⟨hi, h⟩ := h
    refine go_iald dX7_isGuilty_71 rfl hi ?_
    refine go_iastK dX7_isGuilty_72 rfl (vp_in_nI (n := 9) (by decide) (by decide)) (k := 9) (by decide) ?_
    have h := h _ rfl
    refine go_aload_n dX7_isGuilty_73 rfl ?_
    refine go_getR dX7_isGuilty_74 fX7_78 rfl rfl (hR 310 37 331 rfl) ?_
    refine go_bipush (v := 10) dX7_isGuilty_77 (by decide) ?_
    refine go_aload_n dX7_isGuilty_79 rfl ?_
    refine go_getR dX7_isGuilty_80 fX7_85 rfl rfl (hR 310 39 333 rfl) ?_
    refine go_iconst (v := 2) dX7_isGuilty_83 (by decide) ?_
    refine go_iload_n dX7_isGuilty_84 rfl ?_
    refine go_imul dX7_isGuilty_85 ?_
    refine go_iconst (v := 1) dX7_isGuilty_86 (by decide) ?_
    refine go_iadd dX7_isGuilty_87 ?_
    obtain ⟨hi, h⟩ := h
    refine go_iald dX7_isGuilty_88 rfl hi ?_
    refine go_iastK dX7_isGuilty_89 rfl (vp_in_nI (n := 10) (by decide) (by decide)) (k := 10) (by decide) ?_
    have h := h _ rfl
    refine go_aload_n dX7_isGuilty_90 rfl ?_
    refine go_getR dX7_isGuilty_91 fX7_78 rfl rfl (hR 310 37 331 rfl) ?_
    refine go_bipush (v := 11) dX7_isGuilty_94 (by decide) ?_
    refine go_aload_n dX7_isGuilty_96 rfl ?_
    refine go_getR dX7_isGuilty_97 fX7_7 rfl rfl (hR 310 0 311 rfl) ?_
    refine go_sipush (v := 373) dX7_isGuilty_100 (by decide) ?_
    refine go_ialdK dX7_isGuilty_103 rfl (vp_in_nI (n := 373) (by decide) (by decide)) (k := 373) (by decide) ?_
    refine go_iastK dX7_isGuilty_104 rfl (vp_in_nI (n := 11) (by decide) (by decide)) (k := 11) (by decide) ?_
    have h := h _ rfl
    refine go_aload_n dX7_isGuilty_105 rfl ?_
    refine go_iload_n dX7_isGuilty_106 rfl ?_
    obtain ⟨hp_9, h⟩ := h
    refine go_callV0 (μ := mX7_isGuilty) [.int _] dX7_isGuilty_107 YX7_saysOf lX7_323 rfl ⟨_, rfl, rfl⟩ rfl (Nat.le_of_ble_eq_true rfl) (Nat.le_of_ble_eq_true rfl) rfl (k_X7_saysOf hR hp_9 (fun r_10 L_11 hq => ?_))
    have h := h r_10 L_11 hq
    refine go_lconst (v := 0) dX7_isGuilty_110 (by decide) ?_
    refine go_lcmp dX7_isGuilty_111 ?_
    refine go_if_le 119 dX7_isGuilty_112 (by decide) (fun c => ?_) (fun c => ?_)
    · have h := h.1 (lc_le.mp c)
      refine go_iconst (v := 0) dX7_isGuilty_119 (by decide) ?_
      exact go_zret dX7_isGuilty_120 rfl rfl rfl h
    · have h := h.2 (lc_le_n.mp c)
      refine go_iconst (v := 1) dX7_isGuilty_115 (by decide) ?_
      refine go_goto 120 dX7_isGuilty_116 (by decide) ?_
      exact go_zret dX7_isGuilty_120 rfl rfl rfl h
  · have h := h.2 c
    refine go_iload_n dX7_isGuilty_16 rfl ?_
    refine go_if_ne 32 dX7_isGuilty_17 (by decide) (fun c => ?_) (fun c => ?_)
    · have h := h.1 c
      refine go_iload_n dX7_isGuilty_32 rfl ?_
      refine go_if_le 40 dX7_isGuilty_33 (by decide) (fun c => ?_) (fun c => ?_)
      · have h := h.1 c
        refine go_iconst (v := 0) dX7_isGuilty_40 (by decide) ?_
        exact go_zret dX7_isGuilty_41 rfl rfl rfl h
      · have h := h.2 c
        refine go_iconst (v := 1) dX7_isGuilty_36 (by decide) ?_
        refine go_goto 41 dX7_isGuilty_37 (by decide) ?_
        exact go_zret dX7_isGuilty_41 rfl rfl rfl h
    · have h := h.2 c
      refine go_iload_n dX7_isGuilty_20 rfl ?_
      refine go_if_ge 28 dX7_isGuilty_21 (by decide) (fun c => ?_) (fun c => ?_)
      · have h := h.1 c
        refine go_iconst (v := 0) dX7_isGuilty_28 (by decide) ?_
        refine go_goto 41 dX7_isGuilty_29 (by decide) ?_
        exact go_zret dX7_isGuilty_41 rfl rfl rfl h
      · have h := h.2 c
        refine go_iconst (v := 1) dX7_isGuilty_24 (by decide) ?_
        refine go_goto 41 dX7_isGuilty_25 (by decide) ?_
        exact go_zret dX7_isGuilty_41 rfl rfl rfl h
theorem k_X7_isGuilty {G : gG} {I : gI} {R : gR} {L : gL} {Q : gQ} {v : Int32} (hR : g_Fx R) (p0 : vp_in v 2) (p1 : okN I) (p2 : okD (dyM I)) (p3 : 0 ≤ (I 311 373).toInt ∧ (I 311 373).toInt ≤ 30) (hq : ∀ I1 : gI, ∀ L1 : gL, ((∀ a, a ≠ 331 → I1 a = I a) ∧ ∀ a, a ≠ 332 → L1 a = L a) → Q (some (.int (if gui (thM I) (dyM I) v.toInt (I 311 373).toInt = true then 1 else 0))) SH I1 R L1) : Mt G mX7_isGuilty 5 0 0 [.ref 310, .int v] SH I R L Q := by
  obtain ⟨s, hs, es⟩ := vp_in_of p0 (by decide)
  have est : v.toInt = s := by rw [es]; exact nI_toInt (by omega)
  have h0 := p2.1 0 (by decide)
  have h1 := p2.1 1 (by decide)
  have h2 := p2.1 2 (by decide)
  have h3 := p2.1 3 (by decide)
  have d0 : (dyM I).1 0 = (I 333 0).toInt := rfl
  have d1 : (dyM I).1 1 = (I 333 1).toInt := rfl
  have d2 : (dyM I).1 2 = (I 333 2).toInt := rfl
  have d3 : (dyM I).1 3 = (I 333 3).toInt := rfl
  have t1 : (I 333 0 + I 333 1).toInt = (I 333 0).toInt + (I 333 1).toInt := ti_add (by omega) (by omega)
  have t2 : (I 333 0 + I 333 1 - I 333 2).toInt = (I 333 0).toInt + (I 333 1).toInt - (I 333 2).toInt := by rw [ti_sub] <;> rw [t1] <;> omega
  have t3 : (I 333 0 + I 333 1 - I 333 2 - I 333 3).toInt = tlt (dyM I) := by
    unfold tlt
    rw [ti_sub] <;> rw [t2] <;> omega
  have z0 : (0 : Int32).toInt = 0 := rfl
  generalize hT : I 333 0 + I 333 1 - I 333 2 - I 333 3 = T at t3
  refine e_X7_isGuilty hR ⟨p1.2.1, ?_⟩
  rintro _ rfl
  rw [hT]
  intro v3 e3
  rw [e3]
  clear e3 v3
  refine ⟨fun c => ?_, fun c => ?_⟩
  · rintro _ rfl _ rfl
    have e2 : (2 : Int32).toInt = 2 := rfl
    have e1 : (1 : Int32).toInt = 1 := rfl
    have s2 : (2 * v).toInt = 2 * s := by rw [ti_mul] <;> rw [e2, est] <;> omega
    have s3 : (2 * v + 1).toInt = 2 * s + 1 := by rw [ti_add] <;> rw [s2, e1] <;> omega
    have g2 : (2 * v).toNatClampNeg = 2 * s := by show (2 * v).toInt.toNat = _; rw [s2]; omega
    have g3 : (2 * v + 1).toNatClampNeg = 2 * s + 1 := by show (2 * v + 1).toInt.toNat = _; rw [s3]; omega
    refine ⟨vp_in_iff.mpr (by rw [s2]; omega), ?_⟩
    rintro _ rfl
    refine ⟨vp_in_iff.mpr (by rw [s3]; omega), ?_⟩
    rintro _ rfl _ rfl
    have k1 : (333 : Nat) ≠ 331 := by decide
    have k2 : (311 : Nat) ≠ 331 := by decide
    rw [g2, g3, up_nc k1, up_nc k1, up_nc k1, up_nc k1, up_nc k1, up_nc k2, up_nc k2, up_nc k2, up_nc k2]
    generalize hJ : up (up (up (up (up I 331 7 v) 331 8 T) 331 9 (I 333 (2 * s))) 331 10 (I 333 (2 * s + 1))) 331 11 (I 311 373) = J
    have joff : ∀ a, a ≠ 331 → J a = I a := fun a ha => by rw [← hJ, up_off a ha, up_off a ha, up_off a ha, up_off a ha, up_off a ha]
    have j7 : J 331 7 = v := by rw [← hJ]; simp [up]
    have j8 : J 331 8 = T := by rw [← hJ]; simp [up]
    have j9 : J 331 9 = I 333 (2 * s) := by rw [← hJ]; simp [up]
    have j10 : J 331 10 = I 333 (2 * s + 1) := by rw [← hJ]; simp [up]
    have j11 : J 331 11 = I 311 373 := by rw [← hJ]; simp [up]
    have hty := p1.1.2.2 2 (tkM I (ordV I (nI 2)).toNatClampNeg) (by decide) (by show lwM I 2 = _; unfold lwM; rw [if_neg (show ¬ ordV I (nI 2) = -1 from c)])
    have hn8 : ∀ t ∈ tkM I (ordV I (nI 2)).toNatClampNeg, t.1 = 401 → 6 < t.2 ∧ t.2 < 12 := fun t ht h401 => ⟨by have := hty.2 t ht h401; simpa using this, (ty_name hty.1 t ht h401).2⟩
    have hnm : ∀ t ∈ tkM I (ordV I (nI 2)).toNatClampNeg, t.1 = 401 → nmM J t.2.toNat = nmg (dyM I) v.toInt (I 311 373).toInt t.2.toNat ∧ -1000000 ≤ nmM J t.2.toNat ∧ nmM J t.2.toNat ≤ 1000000 := by
      intro t ht h401
      have h5 := hn8 t ht h401
      have p2s : (2 * v.toInt).toNat = 2 * s := by rw [est]; omega
      have p3s : (2 * v.toInt + 1).toNat = 2 * s + 1 := by rw [est]; omega
      have b1 := p2.1 (2 * s) (by omega)
      have b2 := p2.1 (2 * s + 1) (by omega)
      have d4 : (dyM I).1 (2 * s) = (I 333 (2 * s)).toInt := rfl
      have d5 : (dyM I).1 (2 * s + 1) = (I 333 (2 * s + 1)).toInt := rfl
      have tb : tlt (dyM I) = (dyM I).1 0 + (dyM I).1 1 - (dyM I).1 2 - (dyM I).1 3 := rfl
      rcases (show t.2.toNat = 7 ∨ t.2.toNat = 8 ∨ t.2.toNat = 9 ∨ t.2.toNat = 10 ∨ t.2.toNat = 11 by omega) with h | h | h | h | h <;> rw [h] <;> unfold nmM
      · rw [j7]; exact ⟨rfl, by omega, by omega⟩
      · rw [j8]; exact ⟨t3, by omega, by omega⟩
      · rw [j9]; exact ⟨by simp [nmg, p2s, d4], by omega, by omega⟩
      · rw [j10]; exact ⟨by simp [nmg, p3s, d5], by omega, by omega⟩
      · rw [j11]; exact ⟨rfl, by omega, by omega⟩
    obtain ⟨w1, w2, w3, w4⟩ := okS_of (I' := J) (w := 2) (by decide) c p1 (joff _ (by decide)) (joff _ (by decide)) (fun t ht h401 => (hnm t ht h401).2)
    refine ⟨w3, ?_⟩
    rintro r L2 ⟨hr, hL2⟩
    have hk := hq J L2 ⟨joff, hL2⟩
    have hv : r.toInt = vl (nmg (dyM I) v.toInt (I 311 373).toInt) (tkM I (ordV I (nI 2)).toNatClampNeg) := by
      rw [hr]
      show vl _ (tkM J (ordV I (nI 2)).toNatClampNeg) = _
      rw [w4]
      exact vl_congr (fun t ht h401 => (hnm t ht h401).1)
    have hg : gui (thM I) (dyM I) v.toInt (I 311 373).toInt = decide (0 < r.toInt) := by
      unfold gui
      rw [show (thM I).2.2 2 = some (tkM I (ordV I (nI 2)).toNatClampNeg) from w1, hv]
    have kf : gui (thM I) (dyM I) v.toInt (I 311 373).toInt = false → Q (some (.int 0)) SH J R L2 := fun h => by rw [h] at hk; simpa using hk
    have kt : gui (thM I) (dyM I) v.toInt (I 311 373).toInt = true → Q (some (.int 1)) SH J R L2 := fun h => by rw [h] at hk; simpa using hk
    refine ⟨fun c2 => kf ?_, fun c2 => kt ?_⟩ <;> rw [tl_le, l_0] at c2 <;> rw [hg] <;> simp <;> omega
  · have hk := hq I L ⟨fun _ _ => rfl, fun _ _ => rfl⟩
    have hg : gui (thM I) (dyM I) v.toInt (I 311 373).toInt = if v.toInt = 0 then decide (tlt (dyM I) < 0) else decide (0 < tlt (dyM I)) := by
      unfold gui
      rw [show (thM I).2.2 2 = none from by show lwM I 2 = _; unfold lwM; rw [if_pos (show ordV I (nI 2) = -1 from c)]]
    have kf : gui (thM I) (dyM I) v.toInt (I 311 373).toInt = false → Q (some (.int 0)) SH I R L := fun h => by rw [h] at hk; simpa using hk
    have kt : gui (thM I) (dyM I) v.toInt (I 311 373).toInt = true → Q (some (.int 1)) SH I R L := fun h => by rw [h] at hk; simpa using hk
    rw [← t3] at hg
    refine ⟨fun c => ?_, fun c => ?_⟩
    · have c' : ¬ v.toInt = 0 := fun q => c (ti_eq.mpr q)
      rw [if_neg c'] at hg
      refine ⟨fun c2 => kf ?_, fun c2 => kt ?_⟩ <;> rw [ti_le, z0] at c2 <;> rw [hg] <;> simp <;> omega
    · have c' : v.toInt = 0 := by rw [c]; rfl
      rw [if_pos c'] at hg
      refine ⟨fun c2 => kf ?_, fun c2 => kt ?_⟩ <;> rw [ti_le, z0] at c2 <;> rw [hg] <;> simp <;> omega
