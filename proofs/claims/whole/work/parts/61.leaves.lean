theorem e_X5_leavesJust {G : gG} {I : gI} {R : gR} {L : gL} {Q : gQ} {a b c : Int32} (hR : g_Fx R) (h : ∀ I_1 : gI, I_1 = cpSc I 4 166 → ∀ v4_2 : Int32, v4_2 = (b &&& 1) → Go G mX5_leavesJust 10 0 0 22 [some (.ref 1), some (.int a), some (.int b), some (.int c), some (.int v4_2), some (.int 0), none] [] SH I_1 R L Q) : Mt G mX5_leavesJust 10 0 0 [.ref 1, .int a, .int b, .int c] SH I R L Q := by
  refine go_start rfl (Nat.le_of_ble_eq_true rfl) rfl ?_
  refine go_aload_n dX5_leavesJust_0 rfl ?_
  refine go_getR dX5_leavesJust_1 fX5_26 rfl rfl (hR 1 2 166 rfl) ?_
  refine go_aload_n dX5_leavesJust_4 rfl ?_
  refine go_getR dX5_leavesJust_5 fX5_22 rfl rfl (hR 1 1 3 rfl) ?_
  refine go_getR dX5_leavesJust_8 fX5_47 rfl rfl (hR 3 0 4 rfl) ?_
  refine go_callV0 (μ := mX5_leavesJust) [.ref 4] dX5_leavesJust_11 YX4_copyFrom lX5_52 rfl ⟨_, rfl, rfl⟩ rfl (Nat.le_of_ble_eq_true rfl) (Nat.le_of_ble_eq_true rfl) rfl (k_X4_copyFrom hR Sc_166 Sc_4 ?_)
  have h := h _ rfl
  refine go_iload_n dX5_leavesJust_14 rfl ?_
  refine go_iconst (v := 1) dX5_leavesJust_15 (by decide) ?_
  refine go_iand dX5_leavesJust_16 ?_
  refine go_istore dX5_leavesJust_17 (Nat.le_of_ble_eq_true rfl) rfl ?_
  have h := h _ rfl
  refine go_iconst (v := 0) dX5_leavesJust_19 (by decide) ?_
  refine go_istore dX5_leavesJust_20 (Nat.le_of_ble_eq_true rfl) rfl ?_
  exact h
theorem b_X5_leavesJust_22 {G : gG} {I : gI} {R : gR} {L : gL} {Q : gQ} {v1 v2 v3 v4 v5 : Int32} (hR : g_Fx R) (h : ((I 3 6) ≤ v5 → vp_in v2 4 ∧ ((¬ (I 167 v2.toNatClampNeg) = v3 → Q (some (.int 0)) SH I R L) ∧ ((I 167 v2.toNatClampNeg) = v3 → Q (some (.int 1)) SH I R L))) ∧ (¬ (I 3 6) ≤ v5 → (¬ ((v1 >>> (v5 &&& 31)) &&& 1) = 1 → ∀ v5_4 : Int32, v5_4 = v5 + 1 → Go G mX5_leavesJust 10 0 0 22 [some (.ref 1), some (.int v1), some (.int v2), some (.int v3), some (.int v4), some (.int v5_4), none] [] SH I R L Q) ∧ (((v1 >>> (v5 &&& 31)) &&& 1) = 1 → vp_in v5 9 ∧ (vp_in v4 2 ∧ (okI I ∧ ((okD (dyC I 166)) ∧ (∀ r_9 : Int32, ∀ I_10 : gI, (r_9.toInt = spn (thC I) (dyC I 166) v5.toNatClampNeg v4.toInt ∧ ∀ a, a ≠ 164 → a ≠ 165 → I_10 a = I a) → (1 ≤ r_9 → vp_in v5 9 ∧ ((¬ I_10 (166 + 2) v5.toNatClampNeg = 2 → 0 < r_9 → vp_in (2 * I_10 (166 + 2) v5.toNatClampNeg + v4) 4) ∧ (∀ I_13 : gI, I_13 = eatI I_10 166 v5 v4 r_9 → ∀ v5_14 : Int32, v5_14 = v5 + 1 → Go G mX5_leavesJust 10 0 0 22 [some (.ref 1), some (.int v1), some (.int v2), some (.int v3), some (.int v4), some (.int v5_14), none] [] SH I_13 R L Q))) ∧ (¬ 1 ≤ r_9 → Q (some (.int 0)) SH I_10 R L)))))))) : Go G mX5_leavesJust 10 0 0 22 [some (.ref 1), some (.int v1), some (.int v2), some (.int v3), some (.int v4), some (.int v5), none] [] SH I R L Q := by
  refine go_iload dX5_leavesJust_22 rfl ?_
  refine go_aload_n dX5_leavesJust_24 rfl ?_
  refine go_getR dX5_leavesJust_25 fX5_22 rfl rfl (hR 1 1 3 rfl) ?_
  refine go_getI dX5_leavesJust_28 fX5_56 rfl rfl ?_
  refine go_icmp_ge 88 dX5_leavesJust_31 (by decide) (fun c => ?_) (fun c => ?_)
  · have h := h.1 c
    refine go_aload_n dX5_leavesJust_88 rfl ?_
    refine go_getR dX5_leavesJust_89 fX5_26 rfl rfl (hR 1 2 166 rfl) ?_
    refine go_getR dX5_leavesJust_92 fX5_67 rfl rfl (hR 166 0 167 rfl) ?_
    refine go_iload_n dX5_leavesJust_95 rfl ?_
    obtain ⟨hi, h⟩ := h
    refine go_iald dX5_leavesJust_96 rfl hi ?_
    refine go_iload_n dX5_leavesJust_97 rfl ?_
    refine go_icmp_ne 105 dX5_leavesJust_98 (by decide) (fun c => ?_) (fun c => ?_)
    · have h := h.1 c
      refine go_iconst (v := 0) dX5_leavesJust_105 (by decide) ?_
      exact go_zret dX5_leavesJust_106 rfl rfl rfl h
    · have h := h.2 c
      refine go_iconst (v := 1) dX5_leavesJust_101 (by decide) ?_
      refine go_goto 106 dX5_leavesJust_102 (by decide) ?_
      exact go_zret dX5_leavesJust_106 rfl rfl rfl h
  · have h := h.2 c
    refine go_iload_n dX5_leavesJust_34 rfl ?_
    refine go_iload dX5_leavesJust_35 rfl ?_
    refine go_ishr dX5_leavesJust_37 ?_
    refine go_iconst (v := 1) dX5_leavesJust_38 (by decide) ?_
    refine go_iand dX5_leavesJust_39 ?_
    refine go_iconst (v := 1) dX5_leavesJust_40 (by decide) ?_
    refine go_icmp_ne 82 dX5_leavesJust_41 (by decide) (fun c => ?_) (fun c => ?_)
    · have h := h.1 c
      refine go_iinc dX5_leavesJust_82 rfl (Nat.le_of_ble_eq_true rfl) rfl ?_
      have h := h _ rfl
      refine go_goto 22 dX5_leavesJust_85 (by decide) ?_
      exact h
    · have h := h.2 c
      refine go_aload_n dX5_leavesJust_44 rfl ?_
      refine go_getR dX5_leavesJust_45 fX5_12 rfl rfl (hR 1 0 2 rfl) ?_
      refine go_aload_n dX5_leavesJust_48 rfl ?_
      refine go_getR dX5_leavesJust_49 fX5_26 rfl rfl (hR 1 2 166 rfl) ?_
      refine go_iload dX5_leavesJust_52 rfl ?_
      refine go_iload dX5_leavesJust_54 rfl ?_
      obtain ⟨hp_5, h⟩ := h
      obtain ⟨hp_6, h⟩ := h
      obtain ⟨hp_7, h⟩ := h
      obtain ⟨hp_8, h⟩ := h
      refine go_callV0 (μ := mX5_leavesJust) [.ref 166, .int _, .int _] dX5_leavesJust_56 YX0_spoonful lX5_59 rfl ⟨_, rfl, rfl⟩ rfl (Nat.le_of_ble_eq_true rfl) (Nat.le_of_ble_eq_true rfl) rfl (k_X0_spoonful hR Sc_166 hp_5 hp_6 hp_7 hp_8 (fun r_9 I_10 hq => ?_))
      have h := h r_9 I_10 hq
      refine go_istore dX5_leavesJust_59 (Nat.le_of_ble_eq_true rfl) rfl ?_
      refine go_iload dX5_leavesJust_61 rfl ?_
      refine go_iconst (v := 1) dX5_leavesJust_63 (by decide) ?_
      refine go_icmp_ge 69 dX5_leavesJust_64 (by decide) (fun c => ?_) (fun c => ?_)
      · have h := h.1 c
        refine go_aload_n dX5_leavesJust_69 rfl ?_
        refine go_getR dX5_leavesJust_70 fX5_26 rfl rfl (hR 1 2 166 rfl) ?_
        refine go_iload dX5_leavesJust_73 rfl ?_
        refine go_iload dX5_leavesJust_75 rfl ?_
        refine go_iload dX5_leavesJust_77 rfl ?_
        obtain ⟨hp_11, h⟩ := h
        obtain ⟨hp_12, h⟩ := h
        refine go_callV0 (μ := mX5_leavesJust) [.int _, .int _, .int _] dX5_leavesJust_79 YX4_eat lX5_63 rfl ⟨_, rfl, rfl⟩ rfl (Nat.le_of_ble_eq_true rfl) (Nat.le_of_ble_eq_true rfl) rfl (k_X4_eat hR Sc_166 hp_11 hp_12 ?_)
        have h := h _ rfl
        refine go_iinc dX5_leavesJust_82 rfl (Nat.le_of_ble_eq_true rfl) rfl ?_
        have h := h _ rfl
        refine go_goto 22 dX5_leavesJust_85 (by decide) ?_
        refine go_drop 6 ?_
        exact h
      · have h := h.2 c
        refine go_iconst (v := 0) dX5_leavesJust_67 (by decide) ?_
        exact go_zret dX5_leavesJust_68 rfl rfl rfl h
/-! a set eats, one by one -/
def rnS (θ : thy) (κ : Int) (k : Nat) : Nat → Nat → dyn → Option dyn
  | 0, _, δ => some δ
  | n + 1, e, δ => if k.testBit e = true then (if 0 < spn θ δ e κ then rnS θ κ k n (e + 1) (eaD δ e κ (spn θ δ e κ)) else none) else rnS θ κ k n (e + 1) δ
def ljR (p : Nat) (g : Int) : Option dyn → Bool
  | none => false
  | some δ => decide (δ.1 p = g)
def ljB (θ : thy) (κ : Int) (k N : Nat) (δ : dyn) (p : Nat) (g : Int) : Bool := ljR p g (rnS θ κ k N 0 δ)
theorem rnS_eq {θ θ' : thy} {κ : Int} {k : Nat} (hT : eqT θ θ') (o : okT θ) (h0 : 0 ≤ κ) (h1 : κ ≤ 1) : ∀ (n e : Nat) {δ δ' : dyn} {m : Nat}, e + n ≤ 9 → m ≤ e → eqD δ δ' → okDn m δ → (rnS θ κ k n e δ = none ∧ rnS θ' κ k n e δ' = none) ∨ ∃ δ1 δ2, rnS θ κ k n e δ = some δ1 ∧ rnS θ' κ k n e δ' = some δ2 ∧ eqD δ1 δ2
  | 0, e, δ, δ', m, _, _, hD, _ => Or.inr ⟨δ, δ', rfl, rfl, hD⟩
  | n + 1, e, δ, δ', m, hn, hm, hD, oD => by
    have he : e < 9 := by omega
    have hs : spn θ δ e κ = spn θ' δ' e κ := spn_eq hT hD o (oD.ok (by omega)) he h0 h1
    simp only [rnS]
    by_cases c : k.testBit e = true
    · rw [if_pos c, if_pos c, ← hs]
      by_cases c2 : 0 < spn θ δ e κ
      · rw [if_pos c2, if_pos c2]
        exact rnS_eq hT o h0 h1 n (e + 1) (m := m + 1) (by omega) (by omega) (eaD_eq hD he) (eaD_ok o oD (by omega) he h0 h1)
      · rw [if_neg c2, if_neg c2]; exact Or.inl ⟨rfl, rfl⟩
    · rw [if_neg c, if_neg c]
      exact rnS_eq hT o h0 h1 n (e + 1) (by omega) (by omega) hD oD
theorem ljB_eq {θ θ' : thy} {δ δ' : dyn} {κ g : Int} {k N p : Nat} (hT : eqT θ θ') (o : okT θ) (h0 : 0 ≤ κ) (h1 : κ ≤ 1) (hN : N ≤ 9) (hp : p < 4) (hD : eqD δ δ') (oD : okDn 0 δ) : ljB θ κ k N δ p g = ljB θ' κ k N δ' p g := by
  unfold ljB
  rcases rnS_eq (k := k) hT o h0 h1 N 0 (by omega) (Nat.le_refl 0) hD oD with ⟨a1, a2⟩ | ⟨δ1, δ2, a1, a2, a3⟩
  · rw [a1, a2]
  · rw [a1, a2]; show decide (δ1.1 p = g) = decide (δ2.1 p = g); rw [a3.1 p hp]
def ljP (I : gI) (a b : Int32) : Prop := okI I ∧ okDn 0 (dyC I 4) ∧ ∃ N k p, I 3 6 = nI N ∧ N ≤ 9 ∧ a = nI k ∧ k < 512 ∧ b = nI p ∧ p < 4
def ljC (I : gI) (a b c : Int32) : Bool := ljB (thC I) ((b.toNatClampNeg % 2 : Nat) : Int) a.toNatClampNeg (I 3 6).toNatClampNeg (dyC I 4) b.toNatClampNeg c.toInt
/-- the trial's scene is the scene that is -/
theorem cp166 (I : gI) : eqD (dyC (cpSc I 4 166) 166) (dyC I 4) ∧ (∀ c, c < 166 ∨ 169 < c → cpSc I 4 166 c = I c) ∧ cpSc I 4 166 166 4 = I 4 4 := by
  obtain ⟨q1, q2, q3, q4, q5, q6⟩ := cpSc_eq (I := I) (z := 4) (x := 166) (Or.inl (by decide))
  refine ⟨⟨fun j hj => ?_, fun e he => ?_, fun e he => ?_, ?_⟩, fun c hc => cpSc_off (by omega), q5⟩
  · show (cpSc I 4 166 (166 + 1) j).toInt = (I (4 + 1) j).toInt; rw [q1 j hj]
  · show (cpSc I 4 166 (166 + 2) e).toInt = (I (4 + 2) e).toInt; rw [q2 e he]
  · show (cpSc I 4 166 (166 + 3) e).toInt = (I (4 + 3) e).toInt; rw [q3 e he]
  · show (cpSc I 4 166 166 3).toInt = (I 4 3).toInt; rw [q4]
/-- a spoon in the trial's scene: what it is, how it is eaten -/
theorem tr_eat {I J J1 : gI} {e : Nat} {κ : Nat} {r : Int32} {δ : dyn} {m : Nat} (oI : okI I) (he : e < 9) (hk : κ < 2) (hm : m ≤ 10) (hD : eqD (dyC J 166) δ) (oD : okDn m δ) (jx : ∀ c, c < 164 → J c = I c) (hr : r.toInt = spn (thC J) (dyC J 166) e (nI κ).toInt) (hx : ∀ a, a ≠ 164 → a ≠ 165 → J1 a = J a) : r.toInt = spn (thC I) δ e κ ∧ eqD (dyC J1 166) δ ∧ (vp_in (nI e) 9 ∧ (¬ J1 (166 + 2) (nI e).toNatClampNeg = 2 → 0 < r → vp_in (2 * J1 (166 + 2) (nI e).toNatClampNeg + nI κ) 4)) ∧ eqD (dyC (eatI J1 166 (nI e) (nI κ) r) 166) (eaD δ e κ (spn (thC I) δ e κ)) ∧ (∀ c, c < 164 ∨ 169 < c → eatI J1 166 (nI e) (nI κ) r c = J c) ∧ eatI J1 166 (nI e) (nI κ) r 166 4 = J 166 4 ∧ eatI J1 166 (nI e) (nI κ) r 168 = J 168 := by
  have kt : (nI κ).toInt = κ := nI_toInt (by omega)
  have tC := th_congr (I := I) (I1 := J) (by rw [jx 3 (by decide)]) (jx _ (by decide)) (jx _ (by decide)) (fun a a1 a2 => jx a a2)
  have oDj : okD (dyC J 166) := okD_eq hD.symm (oD.ok hm)
  have e1 : r.toInt = spn (thC I) δ e κ := by
    rw [hr, tC.1, kt]
    exact spn_eq (eqT.rfl' _) hD oI.1 oDj he (by omega) (by omega)
  have d1 : dyC J1 166 = dyC J 166 := dy_off Sc_166 hx
  have tC1 := th_off (I := J) (I1 := J1) hx
  obtain ⟨w1, w2, w3, w4, w5⟩ := eatI_dy (I := J1) (x := 166) (j := e) (e := nI e) (k := nI κ) (g := r) (κ := κ) (θ := thC I) Sc_166 he rfl hk rfl oI.1 (by rw [d1]; exact oDj) (by rw [d1, ← tC.1]; exact hr)
  refine ⟨e1, by rw [d1]; exact hD, ⟨w4, w5⟩, ?_, fun c hc => ?_, ?_, ?_⟩
  · rw [w1, kt, e1, d1]
    exact eaD_eq hD he
  · rw [w2 c (by omega) (by omega) (by omega), hx c (by omega) (by omega)]
  · rw [w3 4 (by decide), hx 166 (by decide) (by decide)]
  · rw [w2 168 (by decide) (by decide) (by decide), hx 168 (by decide) (by decide)]
def bI (b : Bool) : Int32 := if b = true then 1 else 0
theorem k_X5_leavesJust {G : gG} {I : gI} {R : gR} {L : gL} {Q : gQ} {a b c : Int32} (hR : g_Fx R) (p0 : ljP I a b) (hq : ∀ I1 : gI, (∀ a, (a < 164 ∨ 169 < a) → I1 a = I a) → Q (some (.int (if ljC I a b c = true then 1 else 0))) SH I1 R L) : Mt G mX5_leavesJust 10 0 0 [.ref 1, .int a, .int b, .int c] SH I R L Q := by
  obtain ⟨oI, oD, N, k, p, e1, hN, rfl, hk, rfl, hp⟩ := p0
  obtain ⟨cD, cx, -⟩ := cp166 I
  unfold ljC ljB at hq
  rw [e1, nI_clamp (by omega), nI_clamp (by omega), nI_clamp (by omega)] at hq
  refine e_X5_leavesJust hR ?_
  rintro _ rfl
  rintro _ rfl
  rw [nI_and1]
  have hk2 : p % 2 < 2 := Nat.mod_lt _ (by decide)
  generalize p % 2 = κ at *
  have kt : (nI κ).toInt = κ := nI_toInt (by omega)
  have loop : ∀ n e (J : gI) (δ : dyn) (m : Nat), e + n = N → m ≤ e → eqD (dyC J 166) δ → okDn m δ → (∀ c, (c < 164 ∨ 169 < c) → J c = I c) → (∀ I1 : gI, (∀ a, (a < 164 ∨ 169 < a) → I1 a = I a) → Q (some (.int (bI (ljR p c.toInt (rnS (thC I) κ k n e δ))))) SH I1 R L) → Go G mX5_leavesJust 10 0 0 22 [some (.ref 1), some (.int (nI k)), some (.int (nI p)), some (.int c), some (.int (nI κ)), some (.int (nI e)), none] [] SH J R L Q := by
    intro n
    induction n with
    | zero =>
      intro e J δ m ee hm hD o jx q
      have j6 : J 3 6 = nI N := by rw [jx 3 (by decide)]; exact e1
      refine b_X5_leavesJust_22 hR ⟨fun _ => ⟨vp_in_nI hp (by decide), ?_⟩, fun c => absurd (by rw [j6, show e = N by omega]; exact ti_le.mpr (Int.le_refl _)) c⟩
      rw [nI_clamp (by omega)]
      have ep : (J 167 p).toInt = δ.1 p := hD.1 p hp
      have q' := q J jx
      have eq' : bI (ljR p c.toInt (rnS (thC I) κ k 0 e δ)) = if J 167 p = c then 1 else 0 := by
        show (if decide (δ.1 p = c.toInt) = true then (1 : Int32) else 0) = _
        rw [← ep]
        by_cases hc : J 167 p = c
        · rw [if_pos hc, if_pos (by rw [hc]; simp)]
        · rw [if_neg hc, if_neg (by simp; exact fun q => hc (ti_eq.mpr q))]
      rw [eq'] at q'
      exact ⟨fun c => by rw [if_neg c] at q'; exact q', fun c => by rw [if_pos c] at q'; exact q'⟩
    | succ n ih =>
      intro e J δ m ee hm hD o jx q
      have j6 : J 3 6 = nI N := by rw [jx 3 (by decide)]; exact e1
      have tC := th_congr (I := I) (I1 := J) (by rw [jx 3 (by decide)]) (jx _ (by decide)) (jx _ (by decide)) (fun a a1 a2 => jx a (by omega))
      simp only [rnS] at q
      refine b_X5_leavesJust_22 hR ⟨fun c => absurd c (by rw [j6]; exact nI_ge (by omega) (by omega)), fun _ => ?_⟩
      rw [tb_iff (by omega) (by omega)]
      refine ⟨fun c => ?_, fun c => ⟨vp_in_nI (by omega) (by decide), vp_in_nI hk2 (by decide), tC.2 oI, okD_eq hD.symm (o.ok (by omega)), ?_⟩⟩
      · rintro _ rfl
        rw [if_neg c] at q
        rw [nI_1]; exact ih (e + 1) J δ m (by omega) (by omega) hD o jx q
      · rw [if_pos c] at q
        rintro r J1 ⟨hr, hx⟩
        rw [nI_clamp (by omega)] at hr
        obtain ⟨w1, w2, w3, w4, w5, -, -⟩ := tr_eat oI (show e < 9 by omega) hk2 (show m ≤ 10 by omega) hD o (fun c hc => jx c (by omega)) hr hx
        have z1 : (1 : Int32).toInt = 1 := rfl
        refine ⟨fun c2 => ⟨w3.1, w3.2, ?_⟩, fun c2 => ?_⟩
        · rw [ti_le, z1] at c2
          rw [if_pos (by omega)] at q
          rintro _ rfl _ rfl
          rw [nI_1]
          exact ih (e + 1) _ _ (m + 1) (by omega) (by omega) w4 (eaD_ok oI.1 o (by omega) (by omega) (by omega) (by omega)) (fun c hc => by rw [w5 c hc, jx c hc]) q
        · rw [ti_le, z1] at c2
          rw [if_neg (by omega)] at q
          exact q J1 (fun a ha => by rw [hx a (by omega) (by omega), jx a ha])
  exact loop N 0 _ _ 0 (by omega) (Nat.le_refl 0) cD oD (fun c hc => cx c (by omega)) hq
