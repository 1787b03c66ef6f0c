theorem e_X0_roomIn {G : gG} {I : gI} {R : gR} {L : gL} {Q : gQ} {e : Int32} {x : Nat} (hR : g_Fx R) (hx : g_Sc x) (h : ((I 3 10 < 0 ∨ 4 ≤ I 3 10) → vp_in e 9 ∧ (∀ v4_2 : Int32, v4_2 = (20 * (I 130 e.toNatClampNeg)) → vp_in e 9 ∧ (Q (some (.int (if 0 < (v4_2 - (I (x + 3) e.toNatClampNeg)) then (v4_2 - (I (x + 3) e.toNatClampNeg)) else 0))) SH I R L))) ∧ (∀ y_1, (0 ≤ I 3 10 ∧ I 3 10 < 4 ∧ y_1 = 136 + 7 * (I 3 10).toNatClampNeg) → g_La y_1 → vp_in e 9 ∧ (∀ v4_3 : Int32, v4_3 = (20 * (I 130 e.toNatClampNeg)) → (vp_in (1 : Int32) 3) ∧ ((¬ (¬ I (y_1 + 2) (1 : Int32).toNatClampNeg = -1) → vp_in e 9 ∧ (Q (some (.int (if 0 < (v4_3 - (I (x + 3) e.toNatClampNeg)) then (v4_3 - (I (x + 3) e.toNatClampNeg)) else 0))) SH I R L)) ∧ (¬ I (y_1 + 2) (1 : Int32).toNatClampNeg = -1 → vp_in e 9 ∧ (∀ I_6 : gI, I_6 = nmE I x e → (vp_in (1 : Int32) 3) ∧ ((okC I_6 y_1 (1 : Int32).toNatClampNeg) ∧ (∀ r_9 : Int32, ∀ I_10 : gI, (r_9.toInt = vlC I_6 y_1 (1 : Int32).toNatClampNeg ∧ ∀ a, a ≠ 165 → I_10 a = I_6 a) → ∀ v4_11 : Int32, v4_11 = (if 0 < (if r_9 < 9999 then r_9 else 9999) then (if r_9 < 9999 then r_9 else 9999) else 0) → vp_in e 9 ∧ (Q (some (.int (if 0 < (v4_11 - (I_10 (x + 3) e.toNatClampNeg)) then (v4_11 - (I_10 (x + 3) e.toNatClampNeg)) else 0))) SH I_10 R L))))))))) : Mt G mX0_roomIn 4 0 0 [.ref 2, .ref x, .int e] SH I R L Q := by
  refine go_start rfl (Nat.le_of_ble_eq_true rfl) rfl ?_
  refine go_aload_n dX0_roomIn_0 rfl ?_
  refine go_callV0 (μ := mX0_roomIn) [] dX0_roomIn_1 YX0_ruling lX0_54 rfl ⟨_, rfl, rfl⟩ rfl (Nat.le_of_ble_eq_true rfl) (Nat.le_of_ble_eq_true rfl) rfl (k_X0_ruling hR (fun cn => ?_) (fun y_1 cs hy_1 => ?_))
  · have h := h.1 cn
    refine go_astoreN_n dX0_roomIn_4 (Nat.le_of_ble_eq_true rfl) rfl ?_
    refine go_bipush (v := 20) dX0_roomIn_5 (by decide) ?_
    refine go_aload_n dX0_roomIn_7 rfl ?_
    refine go_getR dX0_roomIn_8 fX0_12 rfl rfl (hR 2 0 3 rfl) ?_
    refine go_getR dX0_roomIn_11 fX0_58 rfl rfl (hR 3 4 130 rfl) ?_
    refine go_iload_n dX0_roomIn_14 rfl ?_
    obtain ⟨hi, h⟩ := h
    refine go_iald dX0_roomIn_15 rfl hi ?_
    refine go_imul dX0_roomIn_16 ?_
    refine go_istore dX0_roomIn_17 (Nat.le_of_ble_eq_true rfl) rfl ?_
    have h := h _ rfl
    refine go_aloadN_n dX0_roomIn_19 rfl ?_
    refine go_ifnull_n 55 dX0_roomIn_20 (by decide) ?_
    refine go_iconst (v := 0) dX0_roomIn_55 (by decide) ?_
    refine go_iload dX0_roomIn_56 rfl ?_
    refine go_aload_n dX0_roomIn_58 rfl ?_
    refine go_getR dX0_roomIn_59 fX0_76 rfl (Sc_s0 hx) (hR _ _ _ (Sc_r0_2 hx)) ?_
    refine go_iload_n dX0_roomIn_62 rfl ?_
    obtain ⟨hi, h⟩ := h
    refine go_iald dX0_roomIn_63 (Sc_s3 hx) hi ?_
    refine go_isub dX0_roomIn_64 ?_
    refine go_mmax dX0_roomIn_65 lX0_73 ns_max ni_J9 nc_max (Nat.le_of_ble_eq_true rfl) (Nat.le_of_ble_eq_true rfl) ?_
    exact go_iret dX0_roomIn_68 rfl rfl h
  · have h := h.2 y_1 cs hy_1
    refine go_astore_n dX0_roomIn_4 (Nat.le_of_ble_eq_true rfl) rfl ?_
    refine go_bipush (v := 20) dX0_roomIn_5 (by decide) ?_
    refine go_aload_n dX0_roomIn_7 rfl ?_
    refine go_getR dX0_roomIn_8 fX0_12 rfl rfl (hR 2 0 3 rfl) ?_
    refine go_getR dX0_roomIn_11 fX0_58 rfl rfl (hR 3 4 130 rfl) ?_
    refine go_iload_n dX0_roomIn_14 rfl ?_
    obtain ⟨hi, h⟩ := h
    refine go_iald dX0_roomIn_15 rfl hi ?_
    refine go_imul dX0_roomIn_16 ?_
    refine go_istore dX0_roomIn_17 (Nat.le_of_ble_eq_true rfl) rfl ?_
    have h := h _ rfl
    refine go_aload_n dX0_roomIn_19 rfl ?_
    refine go_ifnull_r dX0_roomIn_20 ?_
    refine go_aload_n dX0_roomIn_23 rfl ?_
    refine go_iconst (v := 1) dX0_roomIn_24 (by decide) ?_
    obtain ⟨hp_4, h⟩ := h
    refine go_callV0 (μ := mX0_roomIn) [.int _] dX0_roomIn_25 YX2_has lX0_61 (La_s0 hy_1) ⟨_, rfl, rfl⟩ rfl (Nat.le_of_ble_eq_true rfl) (Nat.le_of_ble_eq_true rfl) rfl (k_X2_has hR hy_1 hp_4 ?_)
    refine go_if_eq 55 dX0_roomIn_28 (by decide) (fun c => ?_) (fun c => ?_)
    · have h := h.1 (b0.mp c)
      refine go_iconst (v := 0) dX0_roomIn_55 (by decide) ?_
      refine go_iload dX0_roomIn_56 rfl ?_
      refine go_aload_n dX0_roomIn_58 rfl ?_
      refine go_getR dX0_roomIn_59 fX0_76 rfl (Sc_s0 hx) (hR _ _ _ (Sc_r0_2 hx)) ?_
      refine go_iload_n dX0_roomIn_62 rfl ?_
      obtain ⟨hi, h⟩ := h
      refine go_iald dX0_roomIn_63 (Sc_s3 hx) hi ?_
      refine go_isub dX0_roomIn_64 ?_
      refine go_mmax dX0_roomIn_65 lX0_73 ns_max ni_J9 nc_max (Nat.le_of_ble_eq_true rfl) (Nat.le_of_ble_eq_true rfl) ?_
      exact go_iret dX0_roomIn_68 rfl rfl h
    · have h := h.2 (b1.mp c)
      refine go_aload_n dX0_roomIn_31 rfl ?_
      refine go_aload_n dX0_roomIn_32 rfl ?_
      refine go_iload_n dX0_roomIn_33 rfl ?_
      obtain ⟨hp_5, h⟩ := h
      refine go_callV0 (μ := mX0_roomIn) [.ref x, .int _] dX0_roomIn_34 YX0_nameEater lX0_65 rfl ⟨_, rfl, rfl⟩ rfl (Nat.le_of_ble_eq_true rfl) (Nat.le_of_ble_eq_true rfl) rfl (k_X0_nameEater hR hx hp_5 ?_)
      have h := h _ rfl
      refine go_iconst (v := 0) dX0_roomIn_37 (by decide) ?_
      refine go_sipush (v := 9999) dX0_roomIn_38 (by decide) ?_
      refine go_aload_n dX0_roomIn_41 rfl ?_
      refine go_aload_n dX0_roomIn_42 rfl ?_
      refine go_iconst (v := 1) dX0_roomIn_43 (by decide) ?_
      obtain ⟨hp_7, h⟩ := h
      obtain ⟨hp_8, h⟩ := h
      refine go_callV0 (μ := mX0_roomIn) [.ref y_1, .int _] dX0_roomIn_44 YX0_reckon lX0_69 rfl ⟨_, rfl, rfl⟩ rfl (Nat.le_of_ble_eq_true rfl) (Nat.le_of_ble_eq_true rfl) rfl (k_X0_reckon hR hy_1 hp_7 hp_8 (fun r_9 I_10 hq => ?_))
      have h := h r_9 I_10 hq
      refine go_mmin dX0_roomIn_47 lX0_44 ns_min ni_J9 nc_min (Nat.le_of_ble_eq_true rfl) (Nat.le_of_ble_eq_true rfl) ?_
      refine go_mmax dX0_roomIn_50 lX0_73 ns_max ni_J9 nc_max (Nat.le_of_ble_eq_true rfl) (Nat.le_of_ble_eq_true rfl) ?_
      refine go_istore dX0_roomIn_53 (Nat.le_of_ble_eq_true rfl) rfl ?_
      have h := h _ rfl
      refine go_iconst (v := 0) dX0_roomIn_55 (by decide) ?_
      refine go_iload dX0_roomIn_56 rfl ?_
      refine go_aload_n dX0_roomIn_58 rfl ?_
      refine go_getR dX0_roomIn_59 fX0_76 rfl (Sc_s0 hx) (hR _ _ _ (Sc_r0_2 hx)) ?_
      refine go_iload_n dX0_roomIn_62 rfl ?_
      obtain ⟨hi, h⟩ := h
      refine go_iald dX0_roomIn_63 (Sc_s3 hx) hi ?_
      refine go_isub dX0_roomIn_64 ?_
      refine go_mmax dX0_roomIn_65 lX0_73 ns_max ni_J9 nc_max (Nat.le_of_ble_eq_true rfl) (Nat.le_of_ble_eq_true rfl) ?_
      exact go_iret dX0_roomIn_68 rfl rfl h
theorem Sc_ne {x : Nat} (h : g_Sc x) : (x + 1 ≠ 164 ∧ x + 1 ≠ 165) ∧ (x + 2 ≠ 164 ∧ x + 2 ≠ 165) ∧ (x + 3 ≠ 164 ∧ x + 3 ≠ 165) ∧ (x ≠ 164 ∧ x ≠ 165) := by
  refine ⟨⟨fun e => ?_, fun e => ?_⟩, ⟨fun e => ?_, fun e => ?_⟩, ⟨fun e => ?_, fun e => ?_⟩, fun e => ?_, fun e => ?_⟩
  · have := Sc_s1 h; rw [e] at this; exact absurd this (by decide)
  · have := Sc_s1 h; rw [e] at this; exact absurd this (by decide)
  · have := Sc_s2 h; rw [e] at this; exact absurd this (by decide)
  · have := Sc_s2 h; rw [e] at this; exact absurd this (by decide)
  · have := Sc_s3 h; rw [e] at this; exact absurd this (by decide)
  · have := Sc_s3 h; rw [e] at this; exact absurd this (by decide)
  · have := Sc_s0 h; rw [e] at this; exact absurd this (by decide)
  · have := Sc_s0 h; rw [e] at this; exact absurd this (by decide)
theorem La_164 {y : Nat} (h : g_La y) : y + 1 ≠ 164 ∧ y + 2 ≠ 164 ∧ y + 3 ≠ 164 := by
  refine ⟨fun e => ?_, fun e => ?_, fun e => ?_⟩
  · have := La_s1 h; rw [e] at this; exact absurd this (by decide)
  · have := La_s2 h; rw [e] at this; exact absurd this (by decide)
  · have := La_s3 h; rw [e] at this; exact absurd this (by decide)
theorem room_eq {h a : Int32} {H A : Int} (eh : h.toInt = H) (ea : a.toInt = A) (h1 : 0 ≤ H) (h2 : H ≤ 9999) (h3 : 0 ≤ A) (h4 : A ≤ 7000) : (if 0 < h - a then h - a else 0 : Int32).toInt = if A < H then H - A else 0 := by
  have s : (h - a).toInt = H - A := by rw [ti_sub] <;> rw [eh, ea] <;> omega
  have z : (0 : Int32).toInt = 0 := rfl
  by_cases c : A < H
  · rw [if_pos c, if_pos (ti_lt.mpr (by rw [s, z]; omega)), s]
  · rw [if_neg c, if_neg (fun q => by rw [ti_lt, s, z] at q; omega)]; rfl
theorem clp_eq {m r : Int32} {M : Int} (hm : m.toInt = M) (h0 : 0 ≤ M) : (if 0 < (if r < m then r else m) then (if r < m then r else m) else 0 : Int32).toInt = clp 0 M r.toInt := by
  have z : (0 : Int32).toInt = 0 := rfl
  unfold clp
  by_cases c : r < m
  · have c' := ti_lt.mp c
    rw [if_pos c]
    by_cases c2 : 0 < r
    · have c2' := ti_lt.mp c2
      rw [if_pos c2, if_neg (by omega), if_neg (by omega)]
    · have c2' : ¬ 0 < r.toInt := fun q => c2 (ti_lt.mpr q)
      rw [if_neg c2, z]
      split
      · rfl
      · rw [if_neg (by omega)]; omega
  · have c' : ¬ r.toInt < m.toInt := fun q => c (ti_lt.mpr q)
    rw [if_neg c]
    by_cases c2 : 0 < m
    · have c2' := ti_lt.mp c2
      rw [if_pos c2, if_neg (by omega)]
      split <;> omega
    · have c2' : ¬ 0 < m.toInt := fun q => c2 (ti_lt.mpr q)
      rw [if_neg c2, z, if_neg (by omega)]
      split <;> omega
/-- the names of an eater -/
theorem nmE_off {I : gI} {x : Nat} {e : Int32} {a : Nat} (h : a ≠ 164) : nmE I x e a = I a := by
  unfold nmE; simp only [up_off a h]
theorem nmE_at {I : gI} {x : Nat} {e : Int32} (hx : x + 3 ≠ 164) : nmE I x e 164 0 = e ∧ nmE I x e 164 1 = I 129 e.toNatClampNeg ∧ nmE I x e 164 2 = I 130 e.toNatClampNeg ∧ nmE I x e 164 3 = I (x + 3) e.toNatClampNeg ∧ ∀ n, 4 ≤ n → nmE I x e 164 n = I 164 n := by
  unfold nmE
  refine ⟨?_, ?_, ?_, ?_, fun n hn => ?_⟩ <;> simp [up, hx] <;> grind
theorem tkl_congr {I I' : gI} {y w : Nat} (h1 : I' (y + 1) = I (y + 1)) (h2 : I' (y + 2) = I (y + 2)) (h3 : I' (y + 3) = I (y + 3)) : tkl I' y w = tkl I y w := by
  unfold tkl; rw [h1, h2, h3]
/-- a law that rules, its tokens, over other names -/
theorem okC_of {I I' : gI} {y w : Nat} (hw : w < 3) (hy : y = 136 + 7 * (I 3 10).toNatClampNeg) (k1 : 0 ≤ I 3 10) (k2 : I 3 10 < 4) (hh : ¬ I (y + 2) w = -1) (hI : okI I) (h1 : I' (y + 1) = I (y + 1)) (h2 : I' (y + 2) = I (y + 2)) (h3 : I' (y + 3) = I (y + 3)) (hn : ∀ t ∈ tkl I y w, okn (nmC I') t) :
    lwC I w = some (tkl I y w) ∧ okl w (tkl I y w) ∧ okC I' y w ∧ vlC I' y w = vl (nmC I') (tkl I y w) := by
  subst hy
  have hl : lwC I w = some (tkl I (136 + 7 * (I 3 10).toNatClampNeg) w) := by
    unfold lwC
    rw [if_neg (by grind), if_neg hh]
  have ho := hI.1.2.2 w _ hw hl
  have hp := hI.2 w hw k1 k2 hh
  refine ⟨hl, ho, ?_, ?_⟩
  · unfold okC
    rw [tkl_congr h1 h2 h3, h2, h3]
    exact ⟨hp.1, hp.2.1, hp.2.2, ⟨_, ho.1⟩, hn⟩
  · unfold vlC vl
    rw [tkl_congr h1 h2 h3]
theorem k_X0_roomIn {G : gG} {I : gI} {R : gR} {L : gL} {Q : gQ} {e : Int32} {x : Nat} (hR : g_Fx R) (hx : g_Sc x) (p0 : vp_in e 9) (p1 : okI I) (p2 : okD (dyC I x)) (hq : ∀ r : Int32, ∀ I1 : gI, (r.toInt = hld (thC I) (dyC I x) e.toNatClampNeg ∧ ∀ a, a ≠ 164 → a ≠ 165 → I1 a = I a) → Q (some (.int r)) SH I1 R L) : Mt G mX0_roomIn 4 0 0 [.ref 2, .ref x, .int e] SH I R L Q := by
  obtain ⟨-, -, ⟨n3, n3'⟩, -⟩ := Sc_ne hx
  obtain ⟨j, hj, ej⟩ := vp_in_of p0 (by decide)
  have cj : e.toNatClampNeg = j := by rw [ej]; exact nI_clamp (by omega)
  have hst : 0 ≤ (I 130 j).toInt ∧ (I 130 j).toInt ≤ 9 := p1.1.2.1 j hj
  have hhu : 0 ≤ (I 129 j).toInt ∧ (I 129 j).toInt ≤ 9 := p1.1.1 j hj
  have hea : 0 ≤ (I (x + 3) j).toInt ∧ (I (x + 3) j).toInt ≤ 7000 := p2.2.2.1 j hj
  have e20 : (20 : Int32).toInt = 20 := rfl
  have s20 : (20 * I 130 j).toInt = 20 * (I 130 j).toInt := by rw [ti_mul] <;> rw [e20] <;> omega
  have base : lwC I 1 = none → ((if 0 < 20 * I 130 j - I (x + 3) j then 20 * I 130 j - I (x + 3) j else 0 : Int32)).toInt = hld (thC I) (dyC I x) j := by
    intro hn
    have h0 : hl0 (thC I) (dyC I x) j = 20 * (I 130 j).toInt := by
      unfold hl0
      rw [show (thC I).2.2 1 = none from hn]
      rfl
    unfold hld
    rw [h0]
    exact room_eq s20 rfl (by omega) (by omega) hea.1 hea.2
  refine e_X0_roomIn hR hx ⟨fun c => ⟨p0, ?_⟩, fun y hc hy => ⟨p0, ?_⟩⟩
  · rintro _ rfl
    refine ⟨p0, hq _ I ⟨?_, fun _ _ _ => rfl⟩⟩
    rw [cj]
    exact base (by unfold lwC; rw [if_pos c])
  · rintro _ rfl
    obtain ⟨k1, k2, ky⟩ := hc
    have c1 : (1 : Int32).toNatClampNeg = 1 := rfl
    rw [c1]
    refine ⟨vp_in_nI (n := 1) (by decide) (by decide), fun c => ⟨p0, hq _ I ⟨?_, fun _ _ _ => rfl⟩⟩, fun c => ⟨p0, ?_⟩⟩
    · rw [cj]
      exact base (by unfold lwC; rw [if_neg (by grind), if_pos (by rw [← ky]; exact Classical.not_not.mp c)])
    · rintro _ rfl
      obtain ⟨a1, a2, a3⟩ := La_164 hy
      obtain ⟨m0, m1, m2, m3, -⟩ := nmE_at (I := I) (e := e) n3
      rw [cj] at m1 m2 m3
      have hnm : ∀ t : tok, (t.1 = 401 → 0 ≤ t.2 ∧ t.2 < 4) → t.1 = 401 → nmC (nmE I x e) t.2.toNat = nmv (thC I) (dyC I x) j 0 t.2.toNat ∧ -1000000 ≤ nmC (nmE I x e) t.2.toNat ∧ nmC (nmE I x e) t.2.toNat ≤ 1000000 := by
        intro t h4 h401
        have h5 := h4 h401
        have ee : e.toInt = j := by rw [ej]; exact nI_toInt (by omega)
        rcases (show t.2.toNat = 0 ∨ t.2.toNat = 1 ∨ t.2.toNat = 2 ∨ t.2.toNat = 3 by omega) with h | h | h | h <;> rw [h] <;> unfold nmC
        · rw [m0, ee]; exact ⟨rfl, by omega, by omega⟩
        · rw [m1]; exact ⟨rfl, by omega, by omega⟩
        · rw [m2]; exact ⟨rfl, by omega, by omega⟩
        · rw [m3]; exact ⟨rfl, by omega, by omega⟩
      have hty := p1.1.2.2 1 (tkl I y 1) (by decide) (by show lwC I 1 = _; unfold lwC; rw [if_neg (by grind), if_neg (by rw [← ky]; exact c), ← ky])
      have hn4 : ∀ t ∈ tkl I y 1, t.1 = 401 → 0 ≤ t.2 ∧ t.2 < 4 := fun t ht h401 => ⟨(ty_name hty.1 t ht h401).1, by have := hty.2 t ht h401; simpa using this⟩
      obtain ⟨w1, w2, w3, w4⟩ := okC_of (I' := nmE I x e) (w := 1) (by decide) ky k1 k2 c p1 (nmE_off a1) (nmE_off a2) (nmE_off a3) (fun t ht h401 => (hnm t (hn4 t ht) h401).2)
      refine ⟨vp_in_nI (n := 1) (by decide) (by decide), w3, ?_⟩
      rintro r I2 ⟨hr, hI2⟩ _ rfl
      refine ⟨p0, hq _ I2 ⟨?_, fun a b1 b2 => by rw [hI2 a b2, nmE_off b1]⟩⟩
      have hv : r.toInt = vl (nmv (thC I) (dyC I x) j 0) (tkl I y 1) := by
        rw [hr, w4]
        exact vl_congr (fun t ht h401 => (hnm t (hn4 t ht) h401).1)
      have h0 : hl0 (thC I) (dyC I x) j = clp 0 9999 r.toInt := by
        unfold hl0
        rw [show (thC I).2.2 1 = some (tkl I y 1) from w1, hv]
      have hc : 0 ≤ clp 0 9999 r.toInt ∧ clp 0 9999 r.toInt ≤ 9999 := by unfold clp; grind
      rw [cj, hI2 _ n3', nmE_off n3]
      unfold hld
      rw [h0]
      exact room_eq (clp_eq rfl (by decide)) rfl hc.1 hc.2 hea.1 hea.2
