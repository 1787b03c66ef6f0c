theorem e_X7_eats {G : gG} {I : gI} {R : gR} {L : gL} {Q : gQ} {e k : Int32} (hR : g_Fx R) (h : vp_in e 9 ∧ (vp_in k 2 ∧ (okN I ∧ ((okD (dyM I)) ∧ (∀ r_5 : Int32, ∀ I_6 : gI, ∀ L_7 : gL, (r_5.toInt = spn (thM I) (dyM I) e.toNatClampNeg k.toInt ∧ (∀ a, a ≠ 331 → I_6 a = I a) ∧ ∀ a, a ≠ 332 → L_7 a = L a) → (r_5 ≤ 0 → Q (some (.int r_5)) SH I_6 R L_7) ∧ (¬ r_5 ≤ 0 → vp_in (114 + e) 11120 ∧ (vp_in ((2 * (I_6 311 (114 + e).toNatClampNeg)) + k) 4 ∧ (vp_in ((2 * (I_6 311 (114 + e).toNatClampNeg)) + k) 4 ∧ (∀ I_8 : gI, I_8 = up I_6 333 ((2 * (I_6 311 (114 + e).toNatClampNeg)) + k).toNatClampNeg ((I_6 333 ((2 * (I_6 311 (114 + e).toNatClampNeg)) + k).toNatClampNeg) - r_5) → vp_in e 9 ∧ (vp_in e 9 ∧ (∀ I_9 : gI, I_9 = up I_8 334 e.toNatClampNeg ((I_8 334 e.toNatClampNeg) + r_5) → ∀ I_10 : gI, I_10 = up I_9 310 41 ((I_9 310 41) + 1) → Q (some (.int r_5)) SH I_10 R L_7))))))))))) : Mt G mX7_eats 8 0 0 [.ref 310, .int e, .int k] SH I R L Q := by
  refine go_start rfl (Nat.le_of_ble_eq_true rfl) rfl ?_
  refine go_aload_n dX7_eats_0 rfl ?_
  refine go_iload_n dX7_eats_1 rfl ?_
  refine go_iload_n dX7_eats_2 rfl ?_
  obtain ⟨hp_1, h⟩ := h
  obtain ⟨hp_2, h⟩ := h
  obtain ⟨hp_3, h⟩ := h
  obtain ⟨hp_4, h⟩ := h
  refine go_callV0 (μ := mX7_eats) [.int _, .int _] dX7_eats_3 YX7_spoonOf lX7_337 rfl ⟨_, rfl, rfl⟩ rfl (Nat.le_of_ble_eq_true rfl) (Nat.le_of_ble_eq_true rfl) rfl (k_X7_spoonOf hR hp_1 hp_2 hp_3 hp_4 (fun r_5 I_6 L_7 hq => ?_))
  have h := h r_5 I_6 L_7 hq
  refine go_istore_n dX7_eats_6 (Nat.le_of_ble_eq_true rfl) rfl ?_
  refine go_iload_n dX7_eats_7 rfl ?_
  refine go_if_le 53 dX7_eats_8 (by decide) (fun c => ?_) (fun c => ?_)
  · have h := h.1 c
    refine go_iload_n dX7_eats_53 rfl ?_
    exact go_iret dX7_eats_54 rfl rfl h
  · have h := h.2 c
    refine go_aload_n dX7_eats_11 rfl ?_
    refine go_getR dX7_eats_12 fX7_85 rfl rfl (hR 310 39 333 rfl) ?_
    refine go_iconst (v := 2) dX7_eats_15 (by decide) ?_
    refine go_aload_n dX7_eats_16 rfl ?_
    refine go_getR dX7_eats_17 fX7_7 rfl rfl (hR 310 0 311 rfl) ?_
    refine go_bipush (v := 114) dX7_eats_20 (by decide) ?_
    refine go_iload_n dX7_eats_22 rfl ?_
    refine go_iadd dX7_eats_23 ?_
    obtain ⟨hi, h⟩ := h
    refine go_iald dX7_eats_24 rfl hi ?_
    refine go_imul dX7_eats_25 ?_
    refine go_iload_n dX7_eats_26 rfl ?_
    refine go_iadd dX7_eats_27 ?_
    refine go_dup2 dX7_eats_28 rfl rfl ?_
    obtain ⟨hi, h⟩ := h
    refine go_iald dX7_eats_29 rfl hi ?_
    refine go_iload_n dX7_eats_30 rfl ?_
    refine go_isub dX7_eats_31 ?_
    obtain ⟨hi, h⟩ := h
    refine go_iast dX7_eats_32 rfl hi ?_
    have h := h _ rfl
    refine go_aload_n dX7_eats_33 rfl ?_
    refine go_getR dX7_eats_34 fX7_88 rfl rfl (hR 310 40 334 rfl) ?_
    refine go_iload_n dX7_eats_37 rfl ?_
    refine go_dup2 dX7_eats_38 rfl rfl ?_
    obtain ⟨hi, h⟩ := h
    refine go_iald dX7_eats_39 rfl hi ?_
    refine go_iload_n dX7_eats_40 rfl ?_
    refine go_iadd dX7_eats_41 ?_
    obtain ⟨hi, h⟩ := h
    refine go_iast dX7_eats_42 rfl hi ?_
    have h := h _ rfl
    refine go_aload_n dX7_eats_43 rfl ?_
    refine go_dup dX7_eats_44 rfl ?_
    refine go_getI dX7_eats_45 fX7_314 rfl rfl ?_
    refine go_iconst (v := 1) dX7_eats_48 (by decide) ?_
    refine go_iadd dX7_eats_49 ?_
    refine go_putI dX7_eats_50 fX7_314 rfl rfl rfl rfl ?_
    have h := h _ rfl
    refine go_iload_n dX7_eats_53 rfl ?_
    exact go_iret dX7_eats_54 rfl rfl h
/-- eaten: so many grains out of a pot -/
def eaD (δ : dyn) (e : Nat) (k g : Int) : dyn :=
  if 0 < g then (fun j => if j = (2 * δ.2.1 e + k).toNat then δ.1 j - g else δ.1 j, δ.2.1, fun i => if i = e then δ.2.2.1 i + g else δ.2.2.1 i, δ.2.2.2 + 1) else δ
/-- as in okD, n spoons beyond those that are written -/
def okDn (n : Nat) (δ : dyn) : Prop := (∀ j, j < 4 → 0 ≤ δ.1 j ∧ δ.1 j ≤ 999) ∧ (∀ e, e < 9 → δ.2.1 e = 0 ∨ δ.2.1 e = 1 ∨ δ.2.1 e = 2) ∧ (∀ e, e < 9 → 0 ≤ δ.2.2.1 e ∧ δ.2.2.1 e ≤ 99 * (60 + n)) ∧ 0 ≤ δ.2.2.2 ∧ δ.2.2.2 ≤ 60 + n
theorem okDn.ok {n : Nat} {δ : dyn} (h : okDn n δ) (hn : n ≤ 10) : okD δ := ⟨h.1, h.2.1, fun e he => ⟨(h.2.2.1 e he).1, by have := (h.2.2.1 e he).2; omega⟩, h.2.2.2.1, by have := h.2.2.2.2; omega⟩
theorem okDn.mono {n m : Nat} {δ : dyn} (h : okDn n δ) (hn : n ≤ m) : okDn m δ := ⟨h.1, h.2.1, fun e he => ⟨(h.2.2.1 e he).1, by have := (h.2.2.1 e he).2; omega⟩, h.2.2.2.1, by have := h.2.2.2.2; omega⟩
theorem spn_lft {θ : thy} {δ : dyn} {e : Nat} {k : Int} (h : 0 < spn θ δ e k) : ¬ δ.2.1 e = 2 ∧ spn θ δ e k ≤ lft δ e k := by
  unfold spn at h ⊢
  split at h
  · omega
  · rename_i hw
    rw [if_neg hw]
    exact ⟨hw, by omega⟩
theorem eaD_ok {n : Nat} {θ : thy} {δ : dyn} {e : Nat} {k : Int} (hT : okT θ) (h : okDn n δ) (hn : n ≤ 10) (he : e < 9) (h0 : 0 ≤ k) (h1 : k ≤ 1) : okDn (n + 1) (eaD δ e k (spn θ δ e k)) := by
  have hr := spn_rng hT (h.ok hn) he h0 h1
  unfold eaD
  split
  · rename_i hp
    obtain ⟨hw, hl⟩ := spn_lft hp
    have hwh := h.2.1 e he
    refine ⟨fun j hj => ?_, h.2.1, fun i hi => ?_, by have := h.2.2.2.1; show 0 ≤ δ.2.2.2 + 1; omega, by have := h.2.2.2.2; show δ.2.2.2 + 1 ≤ 60 + ((n + 1 : Nat) : Int); omega⟩
    · have := h.1 j hj
      show 0 ≤ (if j = (2 * δ.2.1 e + k).toNat then δ.1 j - spn θ δ e k else δ.1 j) ∧ (if j = (2 * δ.2.1 e + k).toNat then δ.1 j - spn θ δ e k else δ.1 j) ≤ 999
      by_cases hjj : j = (2 * δ.2.1 e + k).toNat
      · rw [if_pos hjj]
        have hl2 : spn θ δ e k ≤ δ.1 j := by rw [hjj]; exact hl
        omega
      · rw [if_neg hjj]
        exact this
    · have := h.2.2.1 i hi
      show 0 ≤ (if i = e then δ.2.2.1 i + spn θ δ e k else δ.2.2.1 i) ∧ (if i = e then δ.2.2.1 i + spn θ δ e k else δ.2.2.1 i) ≤ 99 * (60 + ((n + 1 : Nat) : Int))
      by_cases hie : i = e
      · rw [if_pos hie]; omega
      · rw [if_neg hie]; omega
  · exact h.mono (by omega)
theorem eaD_w {δ : dyn} {e : Nat} {k g : Int} : (eaD δ e k g).2.1 = δ.2.1 := by unfold eaD; split <;> rfl
theorem k_X7_eats {G : gG} {I : gI} {R : gR} {L : gL} {Q : gQ} {e k : Int32} (hR : g_Fx R) (p0 : vp_in e 9) (p3 : vp_in k 2) (p1 : okN I) (p2 : okD (dyM I)) (hq : ∀ r : Int32, ∀ I1 : gI, ∀ L1 : gL, (r.toInt = spn (thM I) (dyM I) e.toNatClampNeg k.toInt ∧ dyM I1 = eaD (dyM I) e.toNatClampNeg k.toInt (spn (thM I) (dyM I) e.toNatClampNeg k.toInt) ∧ (∀ a, a ≠ 331 → a ≠ 333 → a ≠ 334 → a ≠ 310 → I1 a = I a) ∧ (∀ j, j ≠ 41 → I1 310 j = I 310 j) ∧ ∀ a, a ≠ 332 → L1 a = L a) → Q (some (.int r)) SH I1 R L1) : Mt G mX7_eats 8 0 0 [.ref 310, .int e, .int k] SH I R L Q := by
  obtain ⟨j, hj, ej⟩ := vp_in_of p0 (by decide)
  obtain ⟨κ, hk, ek⟩ := vp_in_of p3 (by decide)
  have cj : e.toNatClampNeg = j := by rw [ej]; exact nI_clamp (by omega)
  have ekt : k.toInt = κ := by rw [ek]; exact nI_toInt (by omega)
  have e2 : (2 : Int32).toInt = 2 := rfl
  have e1 : (1 : Int32).toInt = 1 := rfl
  have z0 : (0 : Int32).toInt = 0 := rfl
  have hd : (dyM I).2.1 j = (I 311 (114 + j)).toInt := rfl
  have e114 : (114 : Int32) + e = nI (114 + j) := by rw [ej]; exact nI_add 114 j
  have hwh := p2.2.1 j hj
  refine e_X7_eats hR ⟨p0, p3, p1, p2, ?_⟩
  rintro r I6 L7 ⟨hr, hI6, hL7⟩
  rw [cj] at hr
  have hb := spn_rng (k := k.toInt) p1.1 p2 hj (by omega) (by omega)
  refine ⟨fun c => hq _ I6 L7 ⟨by rw [cj]; exact hr, ?_, fun a h1 _ _ _ => hI6 a h1, fun i _ => by rw [hI6 310 (by decide)], hL7⟩, fun c => ?_⟩
  · rw [ti_le, hr, z0] at c
    rw [dyM_off hI6, cj]
    unfold eaD
    rw [if_neg (by omega)]
  · rw [ti_le, hr, z0] at c
    obtain ⟨hw, hl⟩ := spn_lft (show 0 < spn (thM I) (dyM I) j k.toInt by omega)
    have s1 : (2 * I 311 (114 + j)).toInt = 2 * (I 311 (114 + j)).toInt := by rw [ti_mul] <;> rw [e2] <;> omega
    have s2 : (2 * I 311 (114 + j) + k).toInt = 2 * (I 311 (114 + j)).toInt + κ := by rw [ti_add] <;> rw [s1, ekt] <;> omega
    have q2 : (2 * I 311 (114 + j) + k).toNatClampNeg = (2 * (dyM I).2.1 j + k.toInt).toNat := by
      show (2 * I 311 (114 + j) + k).toInt.toNat = _
      rw [s2, hd, ekt]
    have hv4 : vp_in (2 * I 311 (114 + j) + k) 4 := vp_in_iff.mpr (by rw [s2]; omega)
    rw [e114, nI_clamp (by omega), hI6 311 (by decide)]
    refine ⟨vp_in_nI (by omega) (by decide), hv4, hv4, ?_⟩
    rintro _ rfl
    refine ⟨p0, p0, ?_⟩
    rintro _ rfl _ rfl
    rw [q2, cj]
    refine hq _ _ L7 ⟨by rw [cj]; exact hr, ?_, fun a h1 h2 h3 h4 => by rw [up_off a h4, up_off a h3, up_off a h2, hI6 a h1], fun i hi => by rw [up_ni hi, up_nc (by decide), up_nc (by decide), hI6 310 (by decide)], hL7⟩
    rw [cj]
    have hlr := lft_rng (k := k.toInt) p2 hj hw (by omega) (by omega)
    have hle : lft (dyM I) j k.toInt = (I 333 (2 * (dyM I).2.1 j + k.toInt).toNat).toInt := rfl
    have hea : 0 ≤ (I 334 j).toInt ∧ (I 334 j).toInt ≤ 7000 := p2.2.2.1 j hj
    have hsp : 0 ≤ (I 310 41).toInt ∧ (I 310 41).toInt ≤ 70 := p2.2.2.2
    unfold eaD
    rw [if_pos (by omega)]
    refine Prod.ext ?_ (Prod.ext ?_ (Prod.ext ?_ ?_))
    · funext i
      show (up _ _ _ _ 333 i).toInt = if i = (2 * (dyM I).2.1 j + k.toInt).toNat then (I 333 i).toInt - spn (thM I) (dyM I) j k.toInt else (I 333 i).toInt
      rw [up_nc (show (333 : Nat) ≠ 310 by decide), up_nc (show (333 : Nat) ≠ 334 by decide)]
      by_cases hi : i = (2 * (dyM I).2.1 j + k.toInt).toNat
      · rw [if_pos hi, hi, up_eq, hI6 333 (by decide), ti_sub] <;> rw [hr] <;> omega
      · rw [if_neg hi, up_ni hi, hI6 333 (by decide)]
    · funext i
      show (up _ _ _ _ 311 (114 + i)).toInt = (I 311 (114 + i)).toInt
      rw [up_nc (show (311 : Nat) ≠ 310 by decide), up_nc (show (311 : Nat) ≠ 334 by decide), up_nc (show (311 : Nat) ≠ 333 by decide), hI6 311 (by decide)]
    · funext i
      show (up _ _ _ _ 334 i).toInt = if i = j then (I 334 i).toInt + spn (thM I) (dyM I) j k.toInt else (I 334 i).toInt
      rw [up_nc (show (334 : Nat) ≠ 310 by decide)]
      by_cases hi : i = j
      · rw [if_pos hi, hi, up_eq, up_nc (show (334 : Nat) ≠ 333 by decide), hI6 334 (by decide), ti_add] <;> rw [hr] <;> omega
      · rw [if_neg hi, up_ni hi, up_nc (show (334 : Nat) ≠ 333 by decide), hI6 334 (by decide)]
    · show (up _ _ _ _ 310 41).toInt = (I 310 41).toInt + 1
      rw [up_eq, up_nc (show (310 : Nat) ≠ 334 by decide), up_nc (show (310 : Nat) ≠ 333 by decide), hI6 310 (by decide), ti_add] <;> rw [e1] <;> omega
/-- the class's scene -/
theorem eatI_dy {I : gI} {x j : Nat} {e k g : Int32} {κ : Nat} {θ : thy} (hx : g_Sc x) (hj : j < 9) (ej : e = nI j) (hk : κ < 2) (ek : k = nI κ) (hT : okT θ) (p2 : okD (dyC I x)) (hg : g.toInt = spn θ (dyC I x) j k.toInt) : dyC (eatI I x e k g) x = eaD (dyC I x) j k.toInt g.toInt ∧ (∀ a, a ≠ x → a ≠ x + 1 → a ≠ x + 3 → eatI I x e k g a = I a) ∧ (∀ i, i ≠ 3 → eatI I x e k g x i = I x i) ∧ vp_in e 9 ∧ (¬ I (x + 2) e.toNatClampNeg = 2 → 0 < g → vp_in (2 * I (x + 2) e.toNatClampNeg + k) 4) := by
  have cj : e.toNatClampNeg = j := by rw [ej]; exact nI_clamp (by omega)
  have ekt : k.toInt = κ := by rw [ek]; exact nI_toInt (by omega)
  have e2 : (2 : Int32).toInt = 2 := rfl
  have e1 : (1 : Int32).toInt = 1 := rfl
  have z0 : (0 : Int32).toInt = 0 := rfl
  have hd : (dyC I x).2.1 j = (I (x + 2) j).toInt := rfl
  have hb := spn_rng (k := k.toInt) hT p2 hj (by omega) (by omega)
  refine ⟨?_, fun a h1 h2 h3 => ?_, fun i hi => ?_, by rw [ej]; exact vp_in_nI hj (by decide), fun hw _ => by rw [cj] at hw ⊢; exact (pot_in hj p2 hw hk ek).1⟩
  · by_cases c : g ≤ 0
    · have c' : ¬ 0 < g.toInt := by rw [ti_le, z0] at c; omega
      unfold eaD
      rw [if_neg c']
      have : eatI I x e k g = I := by
        unfold eatI
        split <;> first | rfl | (rw [if_pos c])
      rw [this]
    · have c' : 0 < g.toInt := by rw [ti_le, z0] at c; omega
      obtain ⟨hw, hl⟩ := spn_lft (show 0 < spn θ (dyC I x) j k.toInt by omega)
      have hw2 : ¬ I (x + 2) j = 2 := fun q => hw (by rw [hd, q]; rfl)
      obtain ⟨q1, q2, q3⟩ := pot_in (k := k) hj p2 hw2 hk ek
      have hlr := lft_rng (k := k.toInt) p2 hj hw (by omega) (by omega)
      have hle : lft (dyC I x) j k.toInt = (I (x + 1) (2 * (dyC I x).2.1 j + k.toInt).toNat).toInt := rfl
      have hea : 0 ≤ (I (x + 3) j).toInt ∧ (I (x + 3) j).toInt ≤ 7000 := p2.2.2.1 j hj
      have hsp : 0 ≤ (I x 3).toInt ∧ (I x 3).toInt ≤ 70 := p2.2.2.2
      rw [← ekt] at q2
      unfold eaD
      rw [if_pos c']
      unfold eatI
      rw [cj, if_neg hw2, if_neg c]
      simp only
      rw [q2]
      refine Prod.ext ?_ (Prod.ext ?_ (Prod.ext ?_ ?_))
      · funext i
        show (up _ _ _ _ (x + 1) i).toInt = if i = (2 * (dyC I x).2.1 j + k.toInt).toNat then (I (x + 1) i).toInt - g.toInt else (I (x + 1) i).toInt
        rw [up_nc (show x + 1 ≠ x by omega), up_nc (show x + 1 ≠ x + 3 by omega)]
        by_cases hi : i = (2 * (dyC I x).2.1 j + k.toInt).toNat
        · rw [if_pos hi, hi, up_eq, ti_sub] <;> omega
        · rw [if_neg hi, up_ni hi]
      · funext i
        show (up _ _ _ _ (x + 2) i).toInt = (I (x + 2) i).toInt
        rw [up_nc (show x + 2 ≠ x by omega), up_nc (show x + 2 ≠ x + 3 by omega), up_nc (show x + 2 ≠ x + 1 by omega)]
      · funext i
        show (up _ _ _ _ (x + 3) i).toInt = if i = j then (I (x + 3) i).toInt + g.toInt else (I (x + 3) i).toInt
        rw [up_nc (show x + 3 ≠ x by omega)]
        by_cases hi : i = j
        · rw [if_pos hi, hi, up_eq, up_nc (show x + 3 ≠ x + 1 by omega), ti_add] <;> omega
        · rw [if_neg hi, up_ni hi, up_nc (show x + 3 ≠ x + 1 by omega)]
      · show (up _ _ _ _ x 3).toInt = (I x 3).toInt + 1
        rw [up_eq, up_nc (show x ≠ x + 3 by omega), up_nc (show x ≠ x + 1 by omega), ti_add] <;> rw [e1] <;> omega
  · unfold eatI
    split
    · rfl
    · split
      · rfl
      · simp only
        rw [up_off a h1, up_off a h3, up_off a h2]
  · unfold eatI
    split
    · rfl
    · split
      · rfl
      · simp only
        rw [up_ni hi, up_nc (show x ≠ x + 3 by omega), up_nc (show x ≠ x + 1 by omega)]
