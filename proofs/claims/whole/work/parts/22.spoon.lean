theorem e_X0_spoonful {G : gG} {I : gI} {R : gR} {L : gL} {Q : gQ} {e k : Int32} {x : Nat} (hR : g_Fx R) (hx : g_Sc x) (h : vp_in e 9 ∧ (∀ v4_1 : Int32, v4_1 = (I (x + 2) e.toNatClampNeg) → (¬ v4_1 = 2 → vp_in ((2 * v4_1) + k) 4 ∧ (∀ v5_2 : Int32, v5_2 = (I (x + 1) ((2 * v4_1) + k).toNatClampNeg) → (1 ≤ v5_2 → vp_in e 9 ∧ (okI I ∧ ((okD (dyC I x)) ∧ (∀ r_6 : Int32, ∀ I_7 : gI, (r_6.toInt = hld (thC I) (dyC I x) e.toNatClampNeg ∧ ∀ a, a ≠ 164 → a ≠ 165 → I_7 a = I a) → ∀ v6_8 : Int32, v6_8 = (if r_6 < v5_2 then r_6 else v5_2) → (1 ≤ v6_8 → vp_in e 9 ∧ (vp_in k 2 ∧ ((¬ I_7 (x + 2) e.toNatClampNeg = 2) ∧ (okI I_7 ∧ ((okD (dyC I_7 x)) ∧ (∀ r_14 : Int32, ∀ I_15 : gI, (r_14.toInt = bit (thC I_7) (dyC I_7 x) e.toNatClampNeg k.toInt ∧ ∀ a, a ≠ 164 → a ≠ 165 → I_15 a = I_7 a) → Q (some (.int (if r_14 < v6_8 then r_14 else v6_8))) SH I_15 R L)))))) ∧ (¬ 1 ≤ v6_8 → Q (some (.int 0)) SH I_7 R L))))) ∧ (¬ 1 ≤ v5_2 → ∀ v6_17 : Int32, v6_17 = (if 0 < v5_2 then 0 else v5_2) → (1 ≤ v6_17 → vp_in e 9 ∧ (vp_in k 2 ∧ ((¬ I (x + 2) e.toNatClampNeg = 2) ∧ (okI I ∧ ((okD (dyC I x)) ∧ (∀ r_23 : Int32, ∀ I_24 : gI, (r_23.toInt = bit (thC I) (dyC I x) e.toNatClampNeg k.toInt ∧ ∀ a, a ≠ 164 → a ≠ 165 → I_24 a = I a) → Q (some (.int (if r_23 < v6_17 then r_23 else v6_17))) SH I_24 R L)))))) ∧ (¬ 1 ≤ v6_17 → Q (some (.int 0)) SH I R L)))) ∧ (v4_1 = 2 → Q (some (.int 0)) SH I R L))) : Mt G mX0_spoonful 6 0 0 [.ref 2, .ref x, .int e, .int k] SH I R L Q := by
  refine go_start rfl (Nat.le_of_ble_eq_true rfl) rfl ?_
  refine go_aload_n dX0_spoonful_0 rfl ?_
  refine go_getR dX0_spoonful_1 fX0_32 rfl (Sc_s0 hx) (hR _ _ _ (Sc_r0_1 hx)) ?_
  refine go_iload_n dX0_spoonful_4 rfl ?_
  obtain ⟨hi, h⟩ := h
  refine go_iald dX0_spoonful_5 (Sc_s2 hx) hi ?_
  refine go_istore dX0_spoonful_6 (Nat.le_of_ble_eq_true rfl) rfl ?_
  have h := h _ rfl
  refine go_iload dX0_spoonful_8 rfl ?_
  refine go_iconst (v := 2) dX0_spoonful_10 (by decide) ?_
  refine go_icmp_ne 16 dX0_spoonful_11 (by decide) (fun c => ?_) (fun c => ?_)
  · have h := h.1 c
    refine go_aload_n dX0_spoonful_16 rfl ?_
    refine go_getR dX0_spoonful_17 fX0_37 rfl (Sc_s0 hx) (hR _ _ _ (Sc_r0_0 hx)) ?_
    refine go_iconst (v := 2) dX0_spoonful_20 (by decide) ?_
    refine go_iload dX0_spoonful_21 rfl ?_
    refine go_imul dX0_spoonful_23 ?_
    refine go_iload_n dX0_spoonful_24 rfl ?_
    refine go_iadd dX0_spoonful_25 ?_
    obtain ⟨hi, h⟩ := h
    refine go_iald dX0_spoonful_26 (Sc_s1 hx) hi ?_
    refine go_istore dX0_spoonful_27 (Nat.le_of_ble_eq_true rfl) rfl ?_
    have h := h _ rfl
    refine go_iload dX0_spoonful_29 rfl ?_
    refine go_iload dX0_spoonful_31 rfl ?_
    refine go_iconst (v := 1) dX0_spoonful_33 (by decide) ?_
    refine go_icmp_ge 41 dX0_spoonful_34 (by decide) (fun c => ?_) (fun c => ?_)
    · have h := h.1 c
      refine go_aload_n dX0_spoonful_41 rfl ?_
      refine go_aload_n dX0_spoonful_42 rfl ?_
      refine go_iload_n dX0_spoonful_43 rfl ?_
      obtain ⟨hp_3, h⟩ := h
      obtain ⟨hp_4, h⟩ := h
      obtain ⟨hp_5, h⟩ := h
      refine go_callV0 (μ := mX0_spoonful) [.ref x, .int _] dX0_spoonful_44 YX0_roomIn lX0_40 rfl ⟨_, rfl, rfl⟩ rfl (Nat.le_of_ble_eq_true rfl) (Nat.le_of_ble_eq_true rfl) rfl (k_X0_roomIn hR hx hp_3 hp_4 hp_5 (fun r_6 I_7 hq => ?_))
      have h := h r_6 I_7 hq
      refine go_mmin dX0_spoonful_47 lX0_44 ns_min ni_J9 nc_min (Nat.le_of_ble_eq_true rfl) (Nat.le_of_ble_eq_true rfl) ?_
      refine go_istore dX0_spoonful_50 (Nat.le_of_ble_eq_true rfl) rfl ?_
      have h := h _ rfl
      refine go_iload dX0_spoonful_52 rfl ?_
      refine go_iconst (v := 1) dX0_spoonful_54 (by decide) ?_
      refine go_icmp_ge 62 dX0_spoonful_55 (by decide) (fun c => ?_) (fun c => ?_)
      · have h := h.1 c
        refine go_iload dX0_spoonful_62 rfl ?_
        refine go_aload_n dX0_spoonful_64 rfl ?_
        refine go_aload_n dX0_spoonful_65 rfl ?_
        refine go_iload_n dX0_spoonful_66 rfl ?_
        refine go_iload_n dX0_spoonful_67 rfl ?_
        obtain ⟨hp_9, h⟩ := h
        obtain ⟨hp_10, h⟩ := h
        obtain ⟨hp_11, h⟩ := h
        obtain ⟨hp_12, h⟩ := h
        obtain ⟨hp_13, h⟩ := h
        refine go_callV0 (μ := mX0_spoonful) [.ref x, .int _, .int _] dX0_spoonful_68 YX0_biteOf lX0_50 rfl ⟨_, rfl, rfl⟩ rfl (Nat.le_of_ble_eq_true rfl) (Nat.le_of_ble_eq_true rfl) rfl (k_X0_biteOf hR hx hp_9 hp_10 hp_11 hp_12 hp_13 (fun r_14 I_15 hq => ?_))
        have h := h r_14 I_15 hq
        refine go_mmin dX0_spoonful_71 lX0_44 ns_min ni_J9 nc_min (Nat.le_of_ble_eq_true rfl) (Nat.le_of_ble_eq_true rfl) ?_
        exact go_iret dX0_spoonful_74 rfl rfl h
      · have h := h.2 c
        refine go_iconst (v := 0) dX0_spoonful_58 (by decide) ?_
        refine go_goto 74 dX0_spoonful_59 (by decide) ?_
        exact go_iret dX0_spoonful_74 rfl rfl h
    · have h := h.2 c
      refine go_iconst (v := 0) dX0_spoonful_37 (by decide) ?_
      refine go_goto 47 dX0_spoonful_38 (by decide) ?_
      refine go_mmin dX0_spoonful_47 lX0_44 ns_min ni_J9 nc_min (Nat.le_of_ble_eq_true rfl) (Nat.le_of_ble_eq_true rfl) ?_
      refine go_istore dX0_spoonful_50 (Nat.le_of_ble_eq_true rfl) rfl ?_
      have h := h _ rfl
      refine go_iload dX0_spoonful_52 rfl ?_
      refine go_iconst (v := 1) dX0_spoonful_54 (by decide) ?_
      refine go_icmp_ge 62 dX0_spoonful_55 (by decide) (fun c => ?_) (fun c => ?_)
      · have h := h.1 c
        refine go_iload dX0_spoonful_62 rfl ?_
        refine go_aload_n dX0_spoonful_64 rfl ?_
        refine go_aload_n dX0_spoonful_65 rfl ?_
        refine go_iload_n dX0_spoonful_66 rfl ?_
        refine go_iload_n dX0_spoonful_67 rfl ?_
        obtain ⟨hp_18, h⟩ := h
        obtain ⟨hp_19, h⟩ := h
        obtain ⟨hp_20, h⟩ := h
        obtain ⟨hp_21, h⟩ := h
        obtain ⟨hp_22, h⟩ := h
        refine go_callV0 (μ := mX0_spoonful) [.ref x, .int _, .int _] dX0_spoonful_68 YX0_biteOf lX0_50 rfl ⟨_, rfl, rfl⟩ rfl (Nat.le_of_ble_eq_true rfl) (Nat.le_of_ble_eq_true rfl) rfl (k_X0_biteOf hR hx hp_18 hp_19 hp_20 hp_21 hp_22 (fun r_23 I_24 hq => ?_))
        have h := h r_23 I_24 hq
        refine go_mmin dX0_spoonful_71 lX0_44 ns_min ni_J9 nc_min (Nat.le_of_ble_eq_true rfl) (Nat.le_of_ble_eq_true rfl) ?_
        exact go_iret dX0_spoonful_74 rfl rfl h
      · have h := h.2 c
        refine go_iconst (v := 0) dX0_spoonful_58 (by decide) ?_
        refine go_goto 74 dX0_spoonful_59 (by decide) ?_
        exact go_iret dX0_spoonful_74 rfl rfl h
  · have h := h.2 c
    refine go_iconst (v := 0) dX0_spoonful_14 (by decide) ?_
    exact go_iret dX0_spoonful_15 rfl rfl h
theorem th_congr {I I1 : gI} (h3 : I1 3 10 = I 3 10) (h129 : I1 129 = I 129) (h130 : I1 130 = I 130) (hl : ∀ a, 136 ≤ a → a < 164 → I1 a = I a) : thC I1 = thC I ∧ (okI I → okI I1) := by
  have hc : ¬ (I 3 10 < 0 ∨ 4 ≤ I 3 10) → (I 3 10).toNatClampNeg < 4 := by
    intro h
    have : vp_in (I 3 10) 4 := by grind [vi4]
    obtain ⟨j, hj, e⟩ := vp_in_of this (by decide)
    rw [e, nI_clamp (by omega)]
    exact hj
  have hw : lwC I1 = lwC I := by
    funext w
    unfold lwC
    rw [h3]
    by_cases c : I 3 10 < 0 ∨ 4 ≤ I 3 10
    · rw [if_pos c, if_pos c]
    · have := hc c
      rw [if_neg c, if_neg c, hl _ (by omega) (by omega), tkl_congr (hl _ (by omega) (by omega)) (hl _ (by omega) (by omega)) (hl _ (by omega) (by omega))]
  have ht : thC I1 = thC I := by unfold thC; rw [hw, h129, h130]
  refine ⟨ht, fun h => ⟨by rw [ht]; exact h.1, ?_⟩⟩
  intro w hw2 k1 k2
  rw [h3] at k1 k2 ⊢
  have := hc (by grind)
  rw [hl _ (by omega) (by omega), hl _ (by omega) (by omega)]
  exact h.2 w hw2 k1 k2
theorem th_off {I I1 : gI} (h : ∀ a, a ≠ 164 → a ≠ 165 → I1 a = I a) : thC I1 = thC I ∧ (okI I → okI I1) := th_congr (by rw [h 3 (by decide) (by decide)]) (h _ (by decide) (by decide)) (h _ (by decide) (by decide)) (fun a h1 h2 => h a (by omega) (by omega))
theorem dy_congr {I I1 : gI} {x : Nat} (h0 : I1 x 3 = I x 3) (h1 : I1 (x + 1) = I (x + 1)) (h2 : I1 (x + 2) = I (x + 2)) (h3 : I1 (x + 3) = I (x + 3)) : dyC I1 x = dyC I x := by unfold dyC; rw [h0, h1, h2, h3]
theorem dy_off {I I1 : gI} {x : Nat} (hx : g_Sc x) (h : ∀ a, a ≠ 164 → a ≠ 165 → I1 a = I a) : dyC I1 x = dyC I x := by
  obtain ⟨⟨n1, n1'⟩, ⟨n2, n2'⟩, ⟨n3, n3'⟩, ⟨n0, n0'⟩⟩ := Sc_ne hx
  exact dy_congr (by rw [h x n0 n0']) (h _ n1 n1') (h _ n2 n2') (h _ n3 n3')
theorem clp_rng (M v : Int) (h : 0 ≤ M) : 0 ≤ clp 0 M v ∧ clp 0 M v ≤ M := by unfold clp; grind
theorem bit_rng {θ : thy} {δ : dyn} {e : Nat} {k : Int} (h : okT θ) (he : e < 9) : 0 ≤ bit θ δ e k ∧ bit θ δ e k ≤ 99 := by
  unfold bit
  split
  · have := h.1 e he; omega
  · exact clp_rng _ _ (by decide)
theorem hld_rng {θ : thy} {δ : dyn} {e : Nat} (h : okT θ) (hd : okD δ) (he : e < 9) : 0 ≤ hld θ δ e ∧ hld θ δ e ≤ 9999 := by
  have h0 : 0 ≤ hl0 θ δ e ∧ hl0 θ δ e ≤ 9999 := by
    unfold hl0
    split
    · have := h.2.1 e he; omega
    · exact clp_rng _ _ (by decide)
  have := hd.2.2.1 e he
  unfold hld
  split <;> omega
theorem lft_rng {δ : dyn} {e : Nat} {k : Int} (hd : okD δ) (he : e < 9) (hw : ¬ δ.2.1 e = 2) (h0 : 0 ≤ k) (h1 : k ≤ 1) : 0 ≤ lft δ e k ∧ lft δ e k ≤ 999 := by
  have := hd.2.1 e he
  exact hd.1 _ (by omega)
theorem spn_rng {θ : thy} {δ : dyn} {e : Nat} {k : Int} (h : okT θ) (hd : okD δ) (he : e < 9) (h0 : 0 ≤ k) (h1 : k ≤ 1) : 0 ≤ spn θ δ e k ∧ spn θ δ e k ≤ 99 := by
  unfold spn
  split
  · omega
  · rename_i hw
    have a := bit_rng (δ := δ) (k := k) h he
    have b := hld_rng h hd he
    have c := lft_rng hd he hw h0 h1
    omega
theorem min_ti {a b : Int32} : (if a < b then a else b : Int32).toInt = min a.toInt b.toInt := by
  by_cases c : a < b
  · have := ti_lt.mp c; rw [if_pos c]; omega
  · have : ¬ a.toInt < b.toInt := fun q => c (ti_lt.mpr q); rw [if_neg c]; omega
theorem k_X0_spoonful {G : gG} {I : gI} {R : gR} {L : gL} {Q : gQ} {e k : Int32} {x : Nat} (hR : g_Fx R) (hx : g_Sc x) (p0 : vp_in e 9) (p3 : vp_in k 2) (p1 : okI I) (p2 : okD (dyC I x)) (hq : ∀ r : Int32, ∀ I1 : gI, (r.toInt = spn (thC I) (dyC I x) e.toNatClampNeg k.toInt ∧ ∀ a, a ≠ 164 → a ≠ 165 → I1 a = I a) → Q (some (.int r)) SH I1 R L) : Mt G mX0_spoonful 6 0 0 [.ref 2, .ref x, .int e, .int k] SH I R L Q := by
  obtain ⟨⟨n1, n1'⟩, ⟨n2, n2'⟩, ⟨n3, n3'⟩, ⟨n0, n0'⟩⟩ := Sc_ne hx
  obtain ⟨j, hj, ej⟩ := vp_in_of p0 (by decide)
  obtain ⟨κ, hk, ek⟩ := vp_in_of p3 (by decide)
  have cj : e.toNatClampNeg = j := by rw [ej]; exact nI_clamp (by omega)
  have ekt : k.toInt = κ := by rw [ek]; exact nI_toInt (by omega)
  have e2 : (2 : Int32).toInt = 2 := rfl
  have e1 : (1 : Int32).toInt = 1 := rfl
  have z0 : (0 : Int32).toInt = 0 := rfl
  have hd : (dyC I x).2.1 j = (I (x + 2) j).toInt := rfl
  refine e_X0_spoonful hR hx ⟨p0, ?_⟩
  rw [cj]
  intro v4 e4
  rw [e4]
  clear e4 v4
  refine ⟨fun hw => ?_, fun hw => hq _ I ⟨?_, fun _ _ _ => rfl⟩⟩
  · obtain ⟨q1, q2, q3⟩ := pot_in (k := k) hj p2 hw hk ek
    have hw2 : ¬ (dyC I x).2.1 j = 2 := fun q => hw (ti_eq.mpr (by rw [e2]; exact q))
    refine ⟨q1, ?_⟩
    rw [q2]
    have hL : lft (dyC I x) j k.toInt = (I (x + 1) (2 * (dyC I x).2.1 j + κ).toNat).toInt := by unfold lft; rw [ekt]; rfl
    have bL := lft_rng (k := k.toInt) p2 hj hw2 (by omega) (by omega)
    have bB := bit_rng (δ := dyC I x) (k := k.toInt) p1.1 hj
    have bH := hld_rng p1.1 p2 hj
    have hS : spn (thC I) (dyC I x) j k.toInt = min (bit (thC I) (dyC I x) j k.toInt) (min (lft (dyC I x) j k.toInt) (hld (thC I) (dyC I x) j)) := by unfold spn; rw [if_neg hw2]
    intro v5 e5
    rw [e5]
    clear e5 v5
    refine ⟨fun c => ⟨p0, p1, p2, ?_⟩, fun c => ?_⟩
    · rintro r I7 ⟨hr, hI7⟩
      intro v6 e6
      have t6 : v6.toInt = min (hld (thC I) (dyC I x) j) (lft (dyC I x) j k.toInt) := by rw [e6, min_ti, hr, hL]
      obtain ⟨f1, f2⟩ := th_off hI7
      have f3 := dy_off hx hI7
      refine ⟨fun c2 => ⟨p0, p3, by rw [hI7 _ n2 n2']; exact hw, f2 p1, by rw [f3]; exact p2, ?_⟩, fun c2 => hq _ I7 ⟨?_, hI7⟩⟩
      · rintro r2 I15 ⟨hr2, hI15⟩
        refine hq _ I15 ⟨?_, fun a b1 b2 => (hI15 a b1 b2).trans (hI7 a b1 b2)⟩
        rw [f1, f3] at hr2
        rw [min_ti, hr2, t6, cj, hS]
        omega
      · rw [ti_le, e1, t6] at c2
        rw [cj, hS, z0]
        omega
    · intro v6 e6
      rw [ti_le, e1, ← hL] at c
      have t6 : v6.toInt = 0 := by
        rw [e6]
        split
        · rfl
        · rename_i q
          rw [ti_lt, z0, ← hL] at q
          omega
      refine ⟨fun c2 => absurd c2 (by rw [ti_le, e1, t6]; decide), fun c2 => hq _ I ⟨?_, fun _ _ _ => rfl⟩⟩
      rw [cj, hS, z0]
      omega
  · rw [cj]
    unfold spn
    rw [if_pos (by rw [hd, hw]; rfl)]
    rfl
