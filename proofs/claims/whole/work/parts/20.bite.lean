section GRN
variable {G : gG} {μ : gm} {d rc rs pc : Nat} {ls : List (Option Value)} {st : List Value} {S : gS} {I : gI} {R : gR} {L : gL} {Q : gQ}
theorem go_aloadN {i : Nat} (hd : decode μ.2.1 pc = .ok (.aload i, 2)) (hx : ls[i]? = some (some .null)) (kk : Go G μ d rc rs (pc + 2) ls (.null :: st) S I R L Q) : Go G μ d rc rs pc ls st S I R L Q := by
  intro l p e RM s m args below meth c H locs cells slots mc ms lsA Z
  exact lv_aloadN Z.1.1 Z.1.2.1 hd (Z.2.2.2.2.2.2.2 _ _ hx) (kk l p e RM s m args below meth c H locs cells slots mc ms lsA Z)
theorem go_astoreN {i : Nat} (hd : decode μ.2.1 pc = .ok (.astore i, 2)) (hn : i < μ.2.2.1) (hok : g_ok ls i = true) (kk : Go G μ d rc rs (pc + 2) (ls.set i (some .null)) st S I R L Q) : Go G μ d rc rs pc ls (.null :: st) S I R L Q := by
  intro l p e RM s m args below meth c H locs cells slots mc ms lsA Z
  exact lv_astoreN Z.1.1 Z.1.2.1 hd (g_L_has Z.2.2.2.2.2) hn rfl (fun ls2 h2 => (kk l p e RM s m args below meth c H locs cells slots mc ms ls2 ⟨Z.1, Z.2.1, Z.2.2.1, Z.2.2.2.1, Z.2.2.2.2.1, g_L_st1 hok h2⟩))
end GRN
theorem e_X0_biteOf {G : gG} {I : gI} {R : gR} {L : gL} {Q : gQ} {e k : Int32} {x : Nat} (hR : g_Fx R) (hx : g_Sc x) (h : ((I 3 10 < 0 ∨ 4 ≤ I 3 10) → vp_in e 9 ∧ (Q (some (.int ((I 129 e.toNatClampNeg) + 1))) SH I R L)) ∧ (∀ y_1, (0 ≤ I 3 10 ∧ I 3 10 < 4 ∧ y_1 = 136 + 7 * (I 3 10).toNatClampNeg) → g_La y_1 → (vp_in (0 : Int32) 3) ∧ ((¬ I (y_1 + 2) (0 : Int32).toNatClampNeg = -1 → vp_in e 9 ∧ (∀ I_4 : gI, I_4 = nmE I x e → ∀ I_5 : gI, I_5 = up I_4 164 4 k → vp_in e 9 ∧ (vp_in ((2 * (I_5 (x + 2) e.toNatClampNeg)) + k) 4 ∧ (∀ I_6 : gI, I_6 = up I_5 164 5 (I_5 (x + 1) ((2 * (I_5 (x + 2) e.toNatClampNeg)) + k).toNatClampNeg) → ∀ I_7 : gI, I_7 = up I_6 164 6 (I_6 x 3) → vp_in e 9 ∧ (∀ I_8 : gI, I_8 = up I_7 164 7 (I_7 (x + 2) e.toNatClampNeg) → (vp_in (0 : Int32) 3) ∧ ((okC I_8 y_1 (0 : Int32).toNatClampNeg) ∧ (∀ r_11 : Int32, ∀ I_12 : gI, (r_11.toInt = vlC I_8 y_1 (0 : Int32).toNatClampNeg ∧ ∀ a, a ≠ 165 → I_12 a = I_8 a) → Q (some (.int (if 0 < (if r_11 < 99 then r_11 else 99) then (if r_11 < 99 then r_11 else 99) else 0))) SH I_12 R L))))))) ∧ (¬ (¬ I (y_1 + 2) (0 : Int32).toNatClampNeg = -1) → vp_in e 9 ∧ (Q (some (.int ((I 129 e.toNatClampNeg) + 1))) SH I R L))))) : Mt G mX0_biteOf 4 0 0 [.ref 2, .ref x, .int e, .int k] SH I R L Q := by
  refine go_start rfl (Nat.le_of_ble_eq_true rfl) rfl ?_
  refine go_aload_n dX0_biteOf_0 rfl ?_
  refine go_callV0 (μ := mX0_biteOf) [] dX0_biteOf_1 YX0_ruling lX0_54 rfl ⟨_, rfl, rfl⟩ rfl (Nat.le_of_ble_eq_true rfl) (Nat.le_of_ble_eq_true rfl) rfl (k_X0_ruling hR (fun cn => ?_) (fun y_1 cs hy_1 => ?_))
  · have h := h.1 cn
    refine go_astoreN dX0_biteOf_4 (Nat.le_of_ble_eq_true rfl) rfl ?_
    refine go_aloadN dX0_biteOf_6 rfl ?_
    refine go_ifnull_n 20 dX0_biteOf_8 (by decide) ?_
    refine go_aload_n dX0_biteOf_20 rfl ?_
    refine go_getR dX0_biteOf_21 fX0_12 rfl rfl (hR 2 0 3 rfl) ?_
    refine go_getR dX0_biteOf_24 fX0_87 rfl rfl (hR 3 3 129 rfl) ?_
    refine go_iload_n dX0_biteOf_27 rfl ?_
    obtain ⟨hi, h⟩ := h
    refine go_iald dX0_biteOf_28 rfl hi ?_
    refine go_iconst (v := 1) dX0_biteOf_29 (by decide) ?_
    refine go_iadd dX0_biteOf_30 ?_
    exact go_iret dX0_biteOf_31 rfl rfl h
  · have h := h.2 y_1 cs hy_1
    refine go_astore dX0_biteOf_4 (Nat.le_of_ble_eq_true rfl) rfl ?_
    refine go_aload dX0_biteOf_6 rfl ?_
    refine go_ifnull_r dX0_biteOf_8 ?_
    refine go_aload dX0_biteOf_11 rfl ?_
    refine go_iconst (v := 0) dX0_biteOf_13 (by decide) ?_
    obtain ⟨hp_2, h⟩ := h
    refine go_callV0 (μ := mX0_biteOf) [.int _] dX0_biteOf_14 YX2_has lX0_61 (La_s0 hy_1) ⟨_, rfl, rfl⟩ rfl (Nat.le_of_ble_eq_true rfl) (Nat.le_of_ble_eq_true rfl) rfl (k_X2_has hR hy_1 hp_2 ?_)
    refine go_if_ne 32 dX0_biteOf_17 (by decide) (fun c => ?_) (fun c => ?_)
    · have h := h.1 (b1.mp c)
      refine go_aload_n dX0_biteOf_32 rfl ?_
      refine go_aload_n dX0_biteOf_33 rfl ?_
      refine go_iload_n dX0_biteOf_34 rfl ?_
      obtain ⟨hp_3, h⟩ := h
      refine go_callV0 (μ := mX0_biteOf) [.ref x, .int _] dX0_biteOf_35 YX0_nameEater lX0_65 rfl ⟨_, rfl, rfl⟩ rfl (Nat.le_of_ble_eq_true rfl) (Nat.le_of_ble_eq_true rfl) rfl (k_X0_nameEater hR hx hp_3 ?_)
      have h := h _ rfl
      refine go_aload_n dX0_biteOf_38 rfl ?_
      refine go_getR dX0_biteOf_39 fX0_25 rfl rfl (hR 2 2 164 rfl) ?_
      refine go_iconst (v := 4) dX0_biteOf_42 (by decide) ?_
      refine go_iload_n dX0_biteOf_43 rfl ?_
      refine go_iastK dX0_biteOf_44 rfl (vp_in_nI (n := 4) (by decide) (by decide)) (k := 4) (by decide) ?_
      have h := h _ rfl
      refine go_aload_n dX0_biteOf_45 rfl ?_
      refine go_getR dX0_biteOf_46 fX0_25 rfl rfl (hR 2 2 164 rfl) ?_
      refine go_iconst (v := 5) dX0_biteOf_49 (by decide) ?_
      refine go_aload_n dX0_biteOf_50 rfl ?_
      refine go_getR dX0_biteOf_51 fX0_37 rfl (Sc_s0 hx) (hR _ _ _ (Sc_r0_0 hx)) ?_
      refine go_iconst (v := 2) dX0_biteOf_54 (by decide) ?_
      refine go_aload_n dX0_biteOf_55 rfl ?_
      refine go_getR dX0_biteOf_56 fX0_32 rfl (Sc_s0 hx) (hR _ _ _ (Sc_r0_1 hx)) ?_
      refine go_iload_n dX0_biteOf_59 rfl ?_
      obtain ⟨hi, h⟩ := h
      refine go_iald dX0_biteOf_60 (Sc_s2 hx) hi ?_
      refine go_imul dX0_biteOf_61 ?_
      refine go_iload_n dX0_biteOf_62 rfl ?_
      refine go_iadd dX0_biteOf_63 ?_
      obtain ⟨hi, h⟩ := h
      refine go_iald dX0_biteOf_64 (Sc_s1 hx) hi ?_
      refine go_iastK dX0_biteOf_65 rfl (vp_in_nI (n := 5) (by decide) (by decide)) (k := 5) (by decide) ?_
      have h := h _ rfl
      refine go_aload_n dX0_biteOf_66 rfl ?_
      refine go_getR dX0_biteOf_67 fX0_25 rfl rfl (hR 2 2 164 rfl) ?_
      refine go_bipush (v := 6) dX0_biteOf_70 (by decide) ?_
      refine go_aload_n dX0_biteOf_72 rfl ?_
      refine go_getI dX0_biteOf_73 fX0_90 rfl (Sc_s0 hx) ?_
      refine go_iastK dX0_biteOf_76 rfl (vp_in_nI (n := 6) (by decide) (by decide)) (k := 6) (by decide) ?_
      have h := h _ rfl
      refine go_aload_n dX0_biteOf_77 rfl ?_
      refine go_getR dX0_biteOf_78 fX0_25 rfl rfl (hR 2 2 164 rfl) ?_
      refine go_bipush (v := 7) dX0_biteOf_81 (by decide) ?_
      refine go_aload_n dX0_biteOf_83 rfl ?_
      refine go_getR dX0_biteOf_84 fX0_32 rfl (Sc_s0 hx) (hR _ _ _ (Sc_r0_1 hx)) ?_
      refine go_iload_n dX0_biteOf_87 rfl ?_
      obtain ⟨hi, h⟩ := h
      refine go_iald dX0_biteOf_88 (Sc_s2 hx) hi ?_
      refine go_iastK dX0_biteOf_89 rfl (vp_in_nI (n := 7) (by decide) (by decide)) (k := 7) (by decide) ?_
      have h := h _ rfl
      refine go_iconst (v := 0) dX0_biteOf_90 (by decide) ?_
      refine go_bipush (v := 99) dX0_biteOf_91 (by decide) ?_
      refine go_aload_n dX0_biteOf_93 rfl ?_
      refine go_aload dX0_biteOf_94 rfl ?_
      refine go_iconst (v := 0) dX0_biteOf_96 (by decide) ?_
      obtain ⟨hp_9, h⟩ := h
      obtain ⟨hp_10, h⟩ := h
      refine go_callV0 (μ := mX0_biteOf) [.ref y_1, .int _] dX0_biteOf_97 YX0_reckon lX0_69 rfl ⟨_, rfl, rfl⟩ rfl (Nat.le_of_ble_eq_true rfl) (Nat.le_of_ble_eq_true rfl) rfl (k_X0_reckon hR hy_1 hp_9 hp_10 (fun r_11 I_12 hq => ?_))
      have h := h r_11 I_12 hq
      refine go_mmin dX0_biteOf_100 lX0_44 ns_min ni_J9 nc_min (Nat.le_of_ble_eq_true rfl) (Nat.le_of_ble_eq_true rfl) ?_
      refine go_mmax dX0_biteOf_103 lX0_73 ns_max ni_J9 nc_max (Nat.le_of_ble_eq_true rfl) (Nat.le_of_ble_eq_true rfl) ?_
      exact go_iret dX0_biteOf_106 rfl rfl h
    · have h := h.2 (b0.mp c)
      refine go_aload_n dX0_biteOf_20 rfl ?_
      refine go_getR dX0_biteOf_21 fX0_12 rfl rfl (hR 2 0 3 rfl) ?_
      refine go_getR dX0_biteOf_24 fX0_87 rfl rfl (hR 3 3 129 rfl) ?_
      refine go_iload_n dX0_biteOf_27 rfl ?_
      obtain ⟨hi, h⟩ := h
      refine go_iald dX0_biteOf_28 rfl hi ?_
      refine go_iconst (v := 1) dX0_biteOf_29 (by decide) ?_
      refine go_iadd dX0_biteOf_30 ?_
      exact go_iret dX0_biteOf_31 rfl rfl h
theorem lw_some {I : gI} {y w : Nat} (hy : y = 136 + 7 * (I 3 10).toNatClampNeg) (k1 : 0 ≤ I 3 10) (k2 : I 3 10 < 4) (hh : ¬ I (y + 2) w = -1) : lwC I w = some (tkl I y w) := by
  subst hy; unfold lwC; rw [if_neg (by grind), if_neg hh]
theorem lw_none {I : gI} {y w : Nat} (hy : y = 136 + 7 * (I 3 10).toNatClampNeg) (hh : I (y + 2) w = -1) : lwC I w = none := by
  subst hy; unfold lwC; split <;> simp [hh]
theorem pot_in {I : gI} {x j : Nat} {k : Int32} {κ : Nat} (hj : j < 9) (p2 : okD (dyC I x)) (hw : ¬ I (x + 2) j = 2) (hk : κ < 2) (ek : k = nI κ) : vp_in (2 * I (x + 2) j + k) 4 ∧ (2 * I (x + 2) j + k).toNatClampNeg = (2 * (dyC I x).2.1 j + κ).toNat ∧ (2 * (dyC I x).2.1 j + κ).toNat < 4 := by
  have h := p2.2.1 j hj
  have e2 : (2 : Int32).toInt = 2 := rfl
  have ekt : k.toInt = κ := by rw [ek]; exact nI_toInt (by omega)
  have hw2 : ¬ (dyC I x).2.1 j = 2 := fun q => hw (ti_eq.mpr (by rw [e2]; exact q))
  have hd : (dyC I x).2.1 j = (I (x + 2) j).toInt := rfl
  have s1 : (2 * I (x + 2) j).toInt = 2 * (I (x + 2) j).toInt := by rw [ti_mul] <;> rw [e2] <;> omega
  have s2 : (2 * I (x + 2) j + k).toInt = 2 * (I (x + 2) j).toInt + κ := by rw [ti_add] <;> rw [s1, ekt] <;> omega
  refine ⟨vp_in_iff.mpr (by rw [s2]; omega), ?_, by omega⟩
  show (2 * I (x + 2) j + k).toInt.toNat = _
  rw [s2, hd]
theorem k_X0_biteOf {G : gG} {I : gI} {R : gR} {L : gL} {Q : gQ} {e k : Int32} {x : Nat} (hR : g_Fx R) (hx : g_Sc x) (p0 : vp_in e 9) (p3 : vp_in k 2) (p4 : ¬ I (x + 2) e.toNatClampNeg = 2) (p1 : okI I) (p2 : okD (dyC I x)) (hq : ∀ r : Int32, ∀ I1 : gI, (r.toInt = bit (thC I) (dyC I x) e.toNatClampNeg k.toInt ∧ ∀ a, a ≠ 164 → a ≠ 165 → I1 a = I a) → Q (some (.int r)) SH I1 R L) : Mt G mX0_biteOf 4 0 0 [.ref 2, .ref x, .int e, .int k] SH I R L Q := by
  obtain ⟨⟨n1, n1'⟩, ⟨n2, n2'⟩, ⟨n3, n3'⟩, ⟨n0, n0'⟩⟩ := Sc_ne hx
  obtain ⟨j, hj, ej⟩ := vp_in_of p0 (by decide)
  obtain ⟨κ, hk, ek⟩ := vp_in_of p3 (by decide)
  have cj : e.toNatClampNeg = j := by rw [ej]; exact nI_clamp (by omega)
  have ekt : k.toInt = κ := by rw [ek]; exact nI_toInt (by omega)
  rw [cj] at p4
  have hhu : 0 ≤ (I 129 j).toInt ∧ (I 129 j).toInt ≤ 9 := p1.1.1 j hj
  have hst : 0 ≤ (I 130 j).toInt ∧ (I 130 j).toInt ≤ 9 := p1.1.2.1 j hj
  have hea : 0 ≤ (I (x + 3) j).toInt ∧ (I (x + 3) j).toInt ≤ 7000 := p2.2.2.1 j hj
  have hsp : 0 ≤ (I x 3).toInt ∧ (I x 3).toInt ≤ 70 := p2.2.2.2
  have hwh := p2.2.1 j hj
  obtain ⟨q1, q2, q3⟩ := pot_in (k := k) hj p2 p4 hk ek
  have hpo := p2.1 _ q3
  have c0 : (0 : Int32).toNatClampNeg = 0 := rfl
  have base : lwC I 0 = none → (I 129 j + 1).toInt = bit (thC I) (dyC I x) j k.toInt := by
    intro hn
    unfold bit
    rw [show (thC I).2.2 0 = none from hn]
    have e1 : (1 : Int32).toInt = 1 := rfl
    rw [ti_add] <;> rw [e1] <;> first | rfl | omega
  refine e_X0_biteOf hR hx ⟨fun c => ⟨p0, hq _ I ⟨?_, fun _ _ _ => rfl⟩⟩, fun y hc hy => ?_⟩
  · rw [cj]
    exact base (by unfold lwC; rw [if_pos c])
  · obtain ⟨k1, k2, ky⟩ := hc
    rw [c0, cj]
    refine ⟨vp_in_nI (n := 0) (by decide) (by decide), fun c => ⟨p0, ?_⟩, fun c => ⟨p0, hq _ I ⟨?_, fun _ _ _ => rfl⟩⟩⟩
    · rintro _ rfl
      obtain ⟨a1, a2, a3⟩ := La_164 hy
      obtain ⟨m0, m1, m2, m3, m4⟩ := nmE_at (I := I) (e := e) n3
      rw [cj] at m1 m2 m3
      rintro _ rfl
      refine ⟨p0, ?_⟩
      rw [up_nc n2, nmE_off n2]
      refine ⟨q1, ?_⟩
      rintro _ rfl
      rintro _ rfl
      refine ⟨p0, ?_⟩
      rintro _ rfl
      rw [up_nc n1, nmE_off n1, q2, up_nc n0, up_nc n0, nmE_off n0, up_nc n2, up_nc n2, up_nc n2, nmE_off n2]
      generalize hJ : up (up (up (up (nmE I x e) 164 4 k) 164 5 (I (x + 1) (2 * (dyC I x).2.1 j + κ).toNat)) 164 6 (I x 3)) 164 7 (I (x + 2) j) = J
      have joff : ∀ a, a ≠ 164 → J a = I a := fun a ha => by rw [← hJ, up_off a ha, up_off a ha, up_off a ha, up_off a ha, nmE_off ha]
      have j0 : J 164 0 = e := by rw [← hJ]; simp [up, m0]
      have j1 : J 164 1 = I 129 j := by rw [← hJ]; simp [up, m1]
      have j2 : J 164 2 = I 130 j := by rw [← hJ]; simp [up, m2]
      have j3 : J 164 3 = I (x + 3) j := by rw [← hJ]; simp [up, m3]
      have j4 : J 164 4 = k := by rw [← hJ]; simp [up]
      have j5 : J 164 5 = I (x + 1) (2 * (dyC I x).2.1 j + κ).toNat := by rw [← hJ]; simp [up]
      have j6 : J 164 6 = I x 3 := by rw [← hJ]; simp [up]
      have j7 : J 164 7 = I (x + 2) j := by rw [← hJ]; simp [up]
      have hty := p1.1.2.2 0 (tkl I y 0) (by decide) (lw_some ky k1 k2 c)
      have hn8 : ∀ t ∈ tkl I y 0, t.1 = 401 → 0 ≤ t.2 ∧ t.2 < 8 := fun t ht h401 => ⟨(ty_name hty.1 t ht h401).1, by have := hty.2 t ht h401; simpa using this⟩
      have hnm : ∀ t ∈ tkl I y 0, t.1 = 401 → nmC J t.2.toNat = nmv (thC I) (dyC I x) j k.toInt t.2.toNat ∧ -1000000 ≤ nmC J t.2.toNat ∧ nmC J t.2.toNat ≤ 1000000 := by
        intro t ht h401
        have h5 := hn8 t ht h401
        have ee : e.toInt = j := by rw [ej]; exact nI_toInt (by omega)
        have l5 : lft (dyC I x) j k.toInt = (I (x + 1) (2 * (dyC I x).2.1 j + κ).toNat).toInt := by unfold lft; rw [ekt]; rfl
        have hp2 : (dyC I x).1 (2 * (dyC I x).2.1 j + κ).toNat = (I (x + 1) (2 * (dyC I x).2.1 j + κ).toNat).toInt := rfl
        have hw2 : (dyC I x).2.1 j = (I (x + 2) j).toInt := rfl
        rcases (show t.2.toNat = 0 ∨ t.2.toNat = 1 ∨ t.2.toNat = 2 ∨ t.2.toNat = 3 ∨ t.2.toNat = 4 ∨ t.2.toNat = 5 ∨ t.2.toNat = 6 ∨ t.2.toNat = 7 by omega) with h | h | h | h | h | h | h | h <;> rw [h] <;> unfold nmC
        · rw [j0, ee]; exact ⟨rfl, by omega, by omega⟩
        · rw [j1]; exact ⟨rfl, by omega, by omega⟩
        · rw [j2]; exact ⟨rfl, by omega, by omega⟩
        · rw [j3]; exact ⟨rfl, by omega, by omega⟩
        · rw [j4]; exact ⟨rfl, by omega, by omega⟩
        · rw [j5]; exact ⟨l5.symm, by omega, by omega⟩
        · rw [j6]; exact ⟨rfl, by omega, by omega⟩
        · rw [j7]; exact ⟨rfl, by omega, by omega⟩
      obtain ⟨w1, w2, w3, w4⟩ := okC_of (I' := J) (w := 0) (by decide) ky k1 k2 c p1 (joff _ a1) (joff _ a2) (joff _ a3) (fun t ht h401 => (hnm t ht h401).2)
      refine ⟨vp_in_nI (n := 0) (by decide) (by decide), w3, ?_⟩
      rintro r I2 ⟨hr, hI2⟩
      refine hq _ I2 ⟨?_, fun a b1 b2 => by rw [hI2 a b2, joff a b1]⟩
      have hv : r.toInt = vl (nmv (thC I) (dyC I x) j k.toInt) (tkl I y 0) := by
        rw [hr, w4]
        exact vl_congr (fun t ht h401 => (hnm t ht h401).1)
      rw [clp_eq (M := 99) rfl (by decide), cj, hv]
      unfold bit
      rw [show (thC I).2.2 0 = some (tkl I y 0) from w1]
    · rw [cj]
      exact base (lw_none ky (Classical.not_not.mp c))
