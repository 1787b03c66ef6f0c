theorem e_X7_spoonOf {G : gG} {I : gI} {R : gR} {L : gL} {Q : gQ} {e k : Int32} (hR : g_Fx R) (h : vp_in (114 + e) 11120 ∧ (∀ v3_1 : Int32, v3_1 = (I 311 (114 + e).toNatClampNeg) → (¬ v3_1 = 2 → vp_in ((2 * v3_1) + k) 4 ∧ (∀ v4_2 : Int32, v4_2 = (I 333 ((2 * v3_1) + k).toNatClampNeg) → vp_in e 9 ∧ (okN I ∧ ((okD (dyM I)) ∧ (∀ r_6 : Int32, ∀ I_7 : gI, ∀ L_8 : gL, (r_6.toInt = hld (thM I) (dyM I) e.toNatClampNeg ∧ (∀ a, a ≠ 331 → I_7 a = I a) ∧ ∀ a, a ≠ 332 → L_8 a = L a) → okR I_7 ∧ (∀ v6_10 : Int32, v6_10 = ordV I_7 (0 : Int32) → vp_in e 9 ∧ (∀ I_12 : gI, I_12 = nmI I_7 e → ∀ I_13 : gI, I_13 = up I_12 331 4 k → ∀ I_14 : gI, I_14 = up I_13 331 5 v4_2 → ∀ I_15 : gI, I_15 = up I_14 331 6 (I_14 310 41) → ∀ I_16 : gI, I_16 = up I_15 331 7 v3_1 → (¬ v6_10 = (-1) → okS I_16 v6_10 ∧ (∀ r_18 : Int64, ∀ L_19 : gL, (r_18.toInt = vl (nmM I_16) (tkM I_16 v6_10.toNatClampNeg) ∧ ∀ a, a ≠ 332 → L_19 a = L_8 a) → ∀ v7_20 : Int32, v7_20 = hdL r_18 (0 : Int32) (99 : Int32) → Q (some (.int (if v7_20 < (if v4_2 < r_6 then v4_2 else r_6) then v7_20 else (if v4_2 < r_6 then v4_2 else r_6)))) SH I_16 R L_19)) ∧ (v6_10 = (-1) → vp_in (10 + (3 * e)) 11120 ∧ (∀ v7_21 : Int32, v7_21 = ((I_16 311 (10 + (3 * e)).toNatClampNeg) + 1) → Q (some (.int (if v7_21 < (if v4_2 < r_6 then v4_2 else r_6) then v7_21 else (if v4_2 < r_6 then v4_2 else r_6)))) SH I_16 R L_8))))))))) ∧ (v3_1 = 2 → Q (some (.int 0)) SH I R L))) : Mt G mX7_spoonOf 7 0 0 [.ref 310, .int e, .int k] SH I R L Q := by
  refine go_start rfl (Nat.le_of_ble_eq_true rfl) rfl ?_
  refine go_aload_n dX7_spoonOf_0 rfl ?_
  refine go_getR dX7_spoonOf_1 fX7_7 rfl rfl (hR 310 0 311 rfl) ?_
  refine go_bipush (v := 114) dX7_spoonOf_4 (by decide) ?_
  refine go_iload_n dX7_spoonOf_6 rfl ?_
  refine go_iadd dX7_spoonOf_7 ?_
  obtain ⟨hi, h⟩ := h
  refine go_iald dX7_spoonOf_8 rfl hi ?_
  refine go_istore_n dX7_spoonOf_9 (Nat.le_of_ble_eq_true rfl) rfl ?_
  have h := h _ rfl
  refine go_iload_n dX7_spoonOf_10 rfl ?_
  refine go_iconst (v := 2) dX7_spoonOf_11 (by decide) ?_
  refine go_icmp_ne 17 dX7_spoonOf_12 (by decide) (fun c => ?_) (fun c => ?_)
  · have h := h.1 c
    refine go_aload_n dX7_spoonOf_17 rfl ?_
    refine go_getR dX7_spoonOf_18 fX7_85 rfl rfl (hR 310 39 333 rfl) ?_
    refine go_iconst (v := 2) dX7_spoonOf_21 (by decide) ?_
    refine go_iload_n dX7_spoonOf_22 rfl ?_
    refine go_imul dX7_spoonOf_23 ?_
    refine go_iload_n dX7_spoonOf_24 rfl ?_
    refine go_iadd dX7_spoonOf_25 ?_
    obtain ⟨hi, h⟩ := h
    refine go_iald dX7_spoonOf_26 rfl hi ?_
    refine go_istore dX7_spoonOf_27 (Nat.le_of_ble_eq_true rfl) rfl ?_
    have h := h _ rfl
    refine go_aload_n dX7_spoonOf_29 rfl ?_
    refine go_iload_n dX7_spoonOf_30 rfl ?_
    obtain ⟨hp_3, h⟩ := h
    obtain ⟨hp_4, h⟩ := h
    obtain ⟨hp_5, h⟩ := h
    refine go_callV0 (μ := mX7_spoonOf) [.int _] dX7_spoonOf_31 YX7_stillHolds lX7_331 rfl ⟨_, rfl, rfl⟩ rfl (Nat.le_of_ble_eq_true rfl) (Nat.le_of_ble_eq_true rfl) rfl (k_X7_stillHolds hR hp_3 hp_4 hp_5 (fun r_6 I_7 L_8 hq => ?_))
    have h := h r_6 I_7 L_8 hq
    refine go_istore dX7_spoonOf_34 (Nat.le_of_ble_eq_true rfl) rfl ?_
    refine go_aload_n dX7_spoonOf_36 rfl ?_
    refine go_iconst (v := 0) dX7_spoonOf_37 (by decide) ?_
    obtain ⟨hp_9, h⟩ := h
    refine go_callV0 (μ := mX7_spoonOf) [.int _] dX7_spoonOf_38 YX7_ordersOf lX7_317 rfl ⟨_, rfl, rfl⟩ rfl (Nat.le_of_ble_eq_true rfl) (Nat.le_of_ble_eq_true rfl) rfl (k_X7_ordersOf hR hp_9 ?_)
    refine go_istore dX7_spoonOf_41 (Nat.le_of_ble_eq_true rfl) rfl ?_
    have h := h _ rfl
    refine go_aload_n dX7_spoonOf_43 rfl ?_
    refine go_iload_n dX7_spoonOf_44 rfl ?_
    obtain ⟨hp_11, h⟩ := h
    refine go_callV0 (μ := mX7_spoonOf) [.int _] dX7_spoonOf_45 YX7_names lX7_320 rfl ⟨_, rfl, rfl⟩ rfl (Nat.le_of_ble_eq_true rfl) (Nat.le_of_ble_eq_true rfl) rfl (k_X7_names hR hp_11 ?_)
    have h := h _ rfl
    refine go_aload_n dX7_spoonOf_48 rfl ?_
    refine go_getR dX7_spoonOf_49 fX7_78 rfl rfl (hR 310 37 331 rfl) ?_
    refine go_iconst (v := 4) dX7_spoonOf_52 (by decide) ?_
    refine go_iload_n dX7_spoonOf_53 rfl ?_
    refine go_iastK dX7_spoonOf_54 rfl (vp_in_nI (n := 4) (by decide) (by decide)) (k := 4) (by decide) ?_
    have h := h _ rfl
    refine go_aload_n dX7_spoonOf_55 rfl ?_
    refine go_getR dX7_spoonOf_56 fX7_78 rfl rfl (hR 310 37 331 rfl) ?_
    refine go_iconst (v := 5) dX7_spoonOf_59 (by decide) ?_
    refine go_iload dX7_spoonOf_60 rfl ?_
    refine go_iastK dX7_spoonOf_62 rfl (vp_in_nI (n := 5) (by decide) (by decide)) (k := 5) (by decide) ?_
    have h := h _ rfl
    refine go_aload_n dX7_spoonOf_63 rfl ?_
    refine go_getR dX7_spoonOf_64 fX7_78 rfl rfl (hR 310 37 331 rfl) ?_
    refine go_bipush (v := 6) dX7_spoonOf_67 (by decide) ?_
    refine go_aload_n dX7_spoonOf_69 rfl ?_
    refine go_getI dX7_spoonOf_70 fX7_314 rfl rfl ?_
    refine go_iastK dX7_spoonOf_73 rfl (vp_in_nI (n := 6) (by decide) (by decide)) (k := 6) (by decide) ?_
    have h := h _ rfl
    refine go_aload_n dX7_spoonOf_74 rfl ?_
    refine go_getR dX7_spoonOf_75 fX7_78 rfl rfl (hR 310 37 331 rfl) ?_
    refine go_bipush (v := 7) dX7_spoonOf_78 (by decide) ?_
    refine go_iload_n dX7_spoonOf_80 rfl ?_
    refine go_iastK dX7_spoonOf_81 rfl (vp_in_nI (n := 7) (by decide) (by decide)) (k := 7) (by decide) ?_
    have h := h _ rfl
    refine go_iload dX7_spoonOf_82 rfl ?_
    refine go_iconst (v := -1) dX7_spoonOf_84 (by decide) ?_
    refine go_icmp_ne 104 dX7_spoonOf_85 (by decide) (fun c => ?_) (fun c => ?_)
    · have h := h.1 c
      refine go_aload_n dX7_spoonOf_104 rfl ?_
      refine go_iload dX7_spoonOf_105 rfl ?_
      obtain ⟨hp_17, h⟩ := h
      refine go_callV0 (μ := mX7_spoonOf) [.int _] dX7_spoonOf_107 YX7_saysOf lX7_323 rfl ⟨_, rfl, rfl⟩ rfl (Nat.le_of_ble_eq_true rfl) (Nat.le_of_ble_eq_true rfl) rfl (k_X7_saysOf hR hp_17 (fun r_18 L_19 hq => ?_))
      have h := h r_18 L_19 hq
      refine go_iconst (v := 0) dX7_spoonOf_110 (by decide) ?_
      refine go_bipush (v := 99) dX7_spoonOf_111 (by decide) ?_
      refine go_callS0 (μ := mX7_spoonOf) [.long _, .int _, .int _] dX7_spoonOf_113 YX7_held lX7_327 rfl (Nat.le_of_ble_eq_true rfl) (Nat.le_of_ble_eq_true rfl) rfl (k_X7_held hR ?_)
      refine go_istore dX7_spoonOf_116 (Nat.le_of_ble_eq_true rfl) rfl ?_
      have h := h _ rfl
      refine go_iload dX7_spoonOf_118 rfl ?_
      refine go_iload dX7_spoonOf_120 rfl ?_
      refine go_iload dX7_spoonOf_122 rfl ?_
      refine go_callS0 (μ := mX7_spoonOf) [.int _, .int _] dX7_spoonOf_124 YX7_least lX7_334 rfl (Nat.le_of_ble_eq_true rfl) (Nat.le_of_ble_eq_true rfl) rfl (k_X7_least hR ?_)
      refine go_callS0 (μ := mX7_spoonOf) [.int _, .int _] dX7_spoonOf_127 YX7_least lX7_334 rfl (Nat.le_of_ble_eq_true rfl) (Nat.le_of_ble_eq_true rfl) rfl (k_X7_least hR ?_)
      exact go_iret dX7_spoonOf_130 rfl rfl h
    · have h := h.2 c
      refine go_aload_n dX7_spoonOf_88 rfl ?_
      refine go_getR dX7_spoonOf_89 fX7_7 rfl rfl (hR 310 0 311 rfl) ?_
      refine go_bipush (v := 10) dX7_spoonOf_92 (by decide) ?_
      refine go_iconst (v := 3) dX7_spoonOf_94 (by decide) ?_
      refine go_iload_n dX7_spoonOf_95 rfl ?_
      refine go_imul dX7_spoonOf_96 ?_
      refine go_iadd dX7_spoonOf_97 ?_
      obtain ⟨hi, h⟩ := h
      refine go_iald dX7_spoonOf_98 rfl hi ?_
      refine go_iconst (v := 1) dX7_spoonOf_99 (by decide) ?_
      refine go_iadd dX7_spoonOf_100 ?_
      refine go_goto 116 dX7_spoonOf_101 (by decide) ?_
      refine go_istore dX7_spoonOf_116 (Nat.le_of_ble_eq_true rfl) rfl ?_
      have h := h _ rfl
      refine go_iload dX7_spoonOf_118 rfl ?_
      refine go_iload dX7_spoonOf_120 rfl ?_
      refine go_iload dX7_spoonOf_122 rfl ?_
      refine go_callS0 (μ := mX7_spoonOf) [.int _, .int _] dX7_spoonOf_124 YX7_least lX7_334 rfl (Nat.le_of_ble_eq_true rfl) (Nat.le_of_ble_eq_true rfl) rfl (k_X7_least hR ?_)
      refine go_callS0 (μ := mX7_spoonOf) [.int _, .int _] dX7_spoonOf_127 YX7_least lX7_334 rfl (Nat.le_of_ble_eq_true rfl) (Nat.le_of_ble_eq_true rfl) rfl (k_X7_least hR ?_)
      exact go_iret dX7_spoonOf_130 rfl rfl h
  · have h := h.2 c
    refine go_iconst (v := 0) dX7_spoonOf_15 (by decide) ?_
    exact go_iret dX7_spoonOf_16 rfl rfl h
theorem thM_congr {I I1 : gI} (h311 : I1 311 = I 311) (h314 : I1 314 = I 314) (h315 : I1 315 = I 315) (h316 : I1 316 = I 316) (h319 : I1 319 = I 319) (h320 : I1 320 = I 320) : (∀ w, ordV I1 w = ordV I w) ∧ thM I1 = thM I ∧ (okN I → okN I1) := by
  have ho : ∀ w, ordV I1 w = ordV I w := fun w => by unfold ordV; rw [h311, h314, h315, h316]
  have hw : lwM I1 = lwM I := by funext w; unfold lwM tkM; rw [ho, h319, h320]
  have ht : thM I1 = thM I := by unfold thM; rw [hw, h311]
  refine ⟨ho, ht, fun h => ⟨by rw [ht]; exact h.1, ?_, ?_⟩⟩
  · unfold okR; rw [h311, h314]; exact h.2.1
  · intro w hw2; rw [ho, h319]; exact h.2.2 w hw2
theorem thM_off {I I1 : gI} (h : ∀ a, a ≠ 331 → I1 a = I a) : (∀ w, ordV I1 w = ordV I w) ∧ thM I1 = thM I ∧ (okN I → okN I1) := thM_congr (h _ (by decide)) (h _ (by decide)) (h _ (by decide)) (h _ (by decide)) (h _ (by decide)) (h _ (by decide))
theorem dyM_off {I I1 : gI} (h : ∀ a, a ≠ 331 → I1 a = I a) : dyM I1 = dyM I := by unfold dyM; rw [h 333 (by decide), h 311 (by decide), h 334 (by decide), h 310 (by decide)]
theorem k_X7_spoonOf {G : gG} {I : gI} {R : gR} {L : gL} {Q : gQ} {e k : Int32} (hR : g_Fx R) (p0 : vp_in e 9) (p3 : vp_in k 2) (p1 : okN I) (p2 : okD (dyM I)) (hq : ∀ r : Int32, ∀ I1 : gI, ∀ L1 : gL, (r.toInt = spn (thM I) (dyM I) e.toNatClampNeg k.toInt ∧ (∀ a, a ≠ 331 → I1 a = I a) ∧ ∀ a, a ≠ 332 → L1 a = L a) → Q (some (.int r)) SH I1 R L1) : Mt G mX7_spoonOf 7 0 0 [.ref 310, .int e, .int k] SH I R L Q := by
  obtain ⟨j, hj, ej⟩ := vp_in_of p0 (by decide)
  obtain ⟨κ, hk, ek⟩ := vp_in_of p3 (by decide)
  have cj : e.toNatClampNeg = j := by rw [ej]; exact nI_clamp (by omega)
  have ekt : k.toInt = κ := by rw [ek]; exact nI_toInt (by omega)
  have e2 : (2 : Int32).toInt = 2 := rfl
  have e1 : (1 : Int32).toInt = 1 := rfl
  have hd : (dyM I).2.1 j = (I 311 (114 + j)).toInt := rfl
  have e114 : (114 : Int32) + e = nI (114 + j) := by rw [ej]; exact nI_add 114 j
  have hwh := p2.2.1 j hj
  refine e_X7_spoonOf hR ⟨by rw [e114]; exact vp_in_nI (by omega) (by decide), ?_⟩
  rw [e114, nI_clamp (by omega)]
  intro v3 e3
  rw [e3]
  clear e3 v3
  refine ⟨fun hw => ?_, fun hw => hq _ I L ⟨?_, fun _ _ => rfl, fun _ _ => rfl⟩⟩
  · have hw2 : ¬ (dyM I).2.1 j = 2 := fun q => hw (ti_eq.mpr (by rw [e2]; exact q))
    have s1 : (2 * I 311 (114 + j)).toInt = 2 * (I 311 (114 + j)).toInt := by rw [ti_mul] <;> rw [e2] <;> omega
    have s2 : (2 * I 311 (114 + j) + k).toInt = 2 * (I 311 (114 + j)).toInt + κ := by rw [ti_add] <;> rw [s1, ekt] <;> omega
    have q2 : (2 * I 311 (114 + j) + k).toNatClampNeg = (2 * (dyM I).2.1 j + κ).toNat := by
      show (2 * I 311 (114 + j) + k).toInt.toNat = _
      rw [s2, hd]
    refine ⟨vp_in_iff.mpr (by rw [s2]; omega), ?_⟩
    rw [q2]
    have hL : lft (dyM I) j k.toInt = (I 333 (2 * (dyM I).2.1 j + κ).toNat).toInt := by unfold lft; rw [ekt]; rfl
    have bL := lft_rng (k := k.toInt) p2 hj hw2 (by omega) (by omega)
    have bB := bit_rng (δ := dyM I) (k := k.toInt) p1.1 hj
    have bH := hld_rng p1.1 p2 hj
    have hS : spn (thM I) (dyM I) j k.toInt = min (bit (thM I) (dyM I) j k.toInt) (min (lft (dyM I) j k.toInt) (hld (thM I) (dyM I) j)) := by unfold spn; rw [if_neg hw2]
    generalize hle : I 333 (2 * (dyM I).2.1 j + κ).toNat = le at hL
    intro v4 e4
    rw [e4]
    clear e4 v4
    refine ⟨p0, p1, p2, ?_⟩
    rintro r I7 L8 ⟨hr, hI7, hL8⟩
    obtain ⟨f0, f1, f2⟩ := thM_off hI7
    have f3 := dyM_off hI7
    refine ⟨(f2 p1).2.1, ?_⟩
    rw [f0]
    rintro _ rfl
    refine ⟨p0, ?_⟩
    rintro _ rfl _ rfl _ rfl _ rfl _ rfl
    rw [show up (up (nmI I7 e) 331 4 k) 331 5 le 310 41 = I 310 41 from by rw [up_nc (by decide), up_nc (by decide), nmI_off (by decide), hI7 310 (by decide)]]
    obtain ⟨m0, m1, m2, m3, m4⟩ := nmI_at (I := I7) hj ej
    rw [hI7 311 (by decide)] at m1 m2
    rw [hI7 334 (by decide)] at m3
    generalize hJ : up (up (up (up (nmI I7 e) 331 4 k) 331 5 le) 331 6 (I 310 41)) 331 7 (I 311 (114 + j)) = J
    have joff : ∀ a, a ≠ 331 → J a = I a := fun a ha => by rw [← hJ, up_off a ha, up_off a ha, up_off a ha, up_off a ha, nmI_off ha, hI7 a ha]
    have j0 : J 331 0 = e := by rw [← hJ]; simp [up, m0]
    have j1 : J 331 1 = I 311 (10 + 3 * j) := by rw [← hJ]; simp [up, m1]
    have j2 : J 331 2 = I 311 (10 + 3 * j + 1) := by rw [← hJ]; simp [up, m2]
    have j3 : J 331 3 = I 334 j := by rw [← hJ]; simp [up, m3]
    have j4 : J 331 4 = k := by rw [← hJ]; simp [up]
    have j5 : J 331 5 = le := by rw [← hJ]; simp [up]
    have j6 : J 331 6 = I 310 41 := by rw [← hJ]; simp [up]
    have j7 : J 331 7 = I 311 (114 + j) := by rw [← hJ]; simp [up]
    have tm : (if le < r then le else r : Int32).toInt = min (lft (dyM I) j k.toInt) (hld (thM I) (dyM I) j) := by rw [min_ti, hr, hL, cj]
    refine ⟨fun c => ?_, fun c => ⟨(ix_e hj ej).2.2.2, ?_⟩⟩
    · have hty := p1.1.2.2 0 (tkM I (ordV I (nI 0)).toNatClampNeg) (by decide) (by show lwM I 0 = _; unfold lwM; rw [if_neg (show ¬ ordV I (nI 0) = -1 from c)])
      have hn8 : ∀ t ∈ tkM I (ordV I (nI 0)).toNatClampNeg, t.1 = 401 → 0 ≤ t.2 ∧ t.2 < 8 := fun t ht h401 => ⟨(ty_name hty.1 t ht h401).1, by have := hty.2 t ht h401; simpa using this⟩
      have hhu : 0 ≤ (I 311 (10 + 3 * j)).toInt ∧ (I 311 (10 + 3 * j)).toInt ≤ 9 := p1.1.1 j hj
      have hst : 0 ≤ (I 311 (10 + 3 * j + 1)).toInt ∧ (I 311 (10 + 3 * j + 1)).toInt ≤ 9 := p1.1.2.1 j hj
      have hea : 0 ≤ (I 334 j).toInt ∧ (I 334 j).toInt ≤ 7000 := p2.2.2.1 j hj
      have hsp : 0 ≤ (I 310 41).toInt ∧ (I 310 41).toInt ≤ 70 := p2.2.2.2
      have hnm : ∀ t ∈ tkM I (ordV I (nI 0)).toNatClampNeg, t.1 = 401 → nmM J t.2.toNat = nmv (thM I) (dyM I) j k.toInt t.2.toNat ∧ -1000000 ≤ nmM J t.2.toNat ∧ nmM J t.2.toNat ≤ 1000000 := by
        intro t ht h401
        have h5 := hn8 t ht h401
        have ee : e.toInt = j := by rw [ej]; exact nI_toInt (by omega)
        rcases (show t.2.toNat = 0 ∨ t.2.toNat = 1 ∨ t.2.toNat = 2 ∨ t.2.toNat = 3 ∨ t.2.toNat = 4 ∨ t.2.toNat = 5 ∨ t.2.toNat = 6 ∨ t.2.toNat = 7 by omega) with h | h | h | h | h | h | h | h <;> rw [h] <;> unfold nmM
        · rw [j0, ee]; exact ⟨rfl, by omega, by omega⟩
        · rw [j1]; exact ⟨rfl, by omega, by omega⟩
        · rw [j2]; exact ⟨rfl, by omega, by omega⟩
        · rw [j3]; exact ⟨rfl, by omega, by omega⟩
        · rw [j4]; exact ⟨rfl, by omega, by omega⟩
        · rw [j5]; exact ⟨hL.symm, by omega, by omega⟩
        · rw [j6]; exact ⟨rfl, by omega, by omega⟩
        · rw [j7]; exact ⟨rfl, by omega, by omega⟩
      obtain ⟨w1, w2, w3, w4⟩ := okS_of (I' := J) (w := 0) (by decide) c p1 (joff _ (by decide)) (joff _ (by decide)) (fun t ht h401 => (hnm t ht h401).2)
      refine ⟨w3, ?_⟩
      rintro r2 L2 ⟨hr2, hL2⟩ _ rfl
      refine hq _ J L2 ⟨?_, joff, fun a ha => (hL2 a ha).trans (hL8 a ha)⟩
      have hv : r2.toInt = vl (nmv (thM I) (dyM I) j k.toInt) (tkM I (ordV I (nI 0)).toNatClampNeg) := by
        rw [hr2]
        show vl _ (tkM J (ordV I (nI 0)).toNatClampNeg) = _
        rw [w4]
        exact vl_congr (fun t ht h401 => (hnm t ht h401).1)
      have hb : (hdL r2 0 99).toInt = bit (thM I) (dyM I) j k.toInt := by
        rw [hdL_clp (B := 99) rfl (by decide)]
        unfold bit
        rw [show (thM I).2.2 0 = some (tkM I (ordV I (nI 0)).toNatClampNeg) from w1, hv]
      rw [min_ti, tm, hb, cj, hS]
    · rintro _ rfl
      refine hq _ J L8 ⟨?_, joff, hL8⟩
      have hhu : 0 ≤ (I 311 (10 + 3 * j)).toInt ∧ (I 311 (10 + 3 * j)).toInt ≤ 9 := p1.1.1 j hj
      have hb : (J 311 (10 + 3 * e).toNatClampNeg + 1).toInt = bit (thM I) (dyM I) j k.toInt := by
        rw [joff 311 (by decide), (ix_e hj ej).1]
        unfold bit
        rw [show (thM I).2.2 0 = none from by show lwM I 0 = _; unfold lwM; rw [if_pos (show ordV I (nI 0) = -1 from c)]]
        rw [ti_add] <;> rw [e1] <;> first | rfl | omega
      rw [min_ti, tm, hb, cj, hS]
  · rw [cj]
    unfold spn
    rw [if_pos (by rw [hd, hw]; rfl)]
    rfl
