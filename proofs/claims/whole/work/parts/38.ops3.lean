theorem e_X6_by {G : gG} {I : gI} {R : gR} {L : gL} {Q : gQ} {a : Int32} (hR : g_Fx R) (h : (a = (-1) → ∀ I_1 : gI, I_1 = up I 0 9 (-1) → ∀ I_2 : gI, I_2 = up I_1 3 10 a → Q (some (.int 1)) SH I_2 R L) ∧ (¬ a = (-1) → (0 ≤ a ∧ a < I 3 9 ∧ a < 4 → ∀ I_3 : gI, I_3 = up I 0 9 (-1) → ∀ I_4 : gI, I_4 = up I_3 3 10 a → Q (some (.int 1)) SH I_4 R L) ∧ (¬ (0 ≤ a ∧ a < I 3 9 ∧ a < 4) → Q (some (.int 0)) SH I R L))) : Mt G mX6_by 30 0 0 [.ref 0, .int a] SH I R L Q := by
  refine go_start rfl (Nat.le_of_ble_eq_true rfl) rfl ?_
  refine go_iload_n dX6_by_0 rfl ?_
  refine go_iconst (v := -1) dX6_by_1 (by decide) ?_
  refine go_icmp_eq 15 dX6_by_2 (by decide) (fun c => ?_) (fun c => ?_)
  · have h := h.1 c
    refine go_aload_n dX6_by_15 rfl ?_
    refine go_callV0 (μ := mX6_by) [] dX6_by_16 YX6_forgetSought lX6_65 rfl ⟨_, rfl, rfl⟩ rfl (Nat.le_of_ble_eq_true rfl) (Nat.le_of_ble_eq_true rfl) rfl (k_X6_forgetSought hR ?_)
    have h := h _ rfl
    refine go_aload_n dX6_by_19 rfl ?_
    refine go_getR dX6_by_20 fX6_27 rfl rfl (hR 0 2 3 rfl) ?_
    refine go_iload_n dX6_by_23 rfl ?_
    refine go_putI dX6_by_24 fX6_154 rfl rfl rfl rfl ?_
    have h := h _ rfl
    refine go_iconst (v := 1) dX6_by_27 (by decide) ?_
    exact go_zret dX6_by_28 rfl rfl rfl h
  · have h := h.2 c
    refine go_aload_n dX6_by_5 rfl ?_
    refine go_iload_n dX6_by_6 rfl ?_
    refine go_callV0 (μ := mX6_by) [.int _] dX6_by_7 YX6_isText lX6_151 rfl ⟨_, rfl, rfl⟩ rfl (Nat.le_of_ble_eq_true rfl) (Nat.le_of_ble_eq_true rfl) rfl (k_X6_isText hR ?_)
    refine go_if_ne 15 dX6_by_10 (by decide) (fun c => ?_) (fun c => ?_)
    · have h := h.1 (b1.mp c)
      refine go_aload_n dX6_by_15 rfl ?_
      refine go_callV0 (μ := mX6_by) [] dX6_by_16 YX6_forgetSought lX6_65 rfl ⟨_, rfl, rfl⟩ rfl (Nat.le_of_ble_eq_true rfl) (Nat.le_of_ble_eq_true rfl) rfl (k_X6_forgetSought hR ?_)
      have h := h _ rfl
      refine go_aload_n dX6_by_19 rfl ?_
      refine go_getR dX6_by_20 fX6_27 rfl rfl (hR 0 2 3 rfl) ?_
      refine go_iload_n dX6_by_23 rfl ?_
      refine go_putI dX6_by_24 fX6_154 rfl rfl rfl rfl ?_
      have h := h _ rfl
      refine go_iconst (v := 1) dX6_by_27 (by decide) ?_
      exact go_zret dX6_by_28 rfl rfl rfl h
    · have h := h.2 (b0.mp c)
      refine go_iconst (v := 0) dX6_by_13 (by decide) ?_
      exact go_zret dX6_by_14 rfl rfl rfl h
theorem e_X7_by {G : gG} {I : gI} {R : gR} {L : gL} {Q : gQ} {a : Int32} (hR : g_Fx R) (h : (a = (-1) → ∀ I_1 : gI, I_1 = up I 311 2 a → Q (some (.int 1)) SH I_1 R L) ∧ (¬ a = (-1) → ((0 : Int32) ≤ a ∧ a ≤ ((I 311 1) - 1) → ∀ I_2 : gI, I_2 = up I 311 2 a → Q (some (.int 1)) SH I_2 R L) ∧ (¬ ((0 : Int32) ≤ a ∧ a ≤ ((I 311 1) - 1)) → Q (some (.int 0)) SH I R L))) : Mt G mX7_by 30 0 0 [.ref 310, .int a] SH I R L Q := by
  refine go_start rfl (Nat.le_of_ble_eq_true rfl) rfl ?_
  refine go_iload_n dX7_by_0 rfl ?_
  refine go_iconst (v := -1) dX7_by_1 (by decide) ?_
  refine go_icmp_eq 23 dX7_by_2 (by decide) (fun c => ?_) (fun c => ?_)
  · have h := h.1 c
    refine go_aload_n dX7_by_23 rfl ?_
    refine go_getR dX7_by_24 fX7_7 rfl rfl (hR 310 0 311 rfl) ?_
    refine go_iconst (v := 2) dX7_by_27 (by decide) ?_
    refine go_iload_n dX7_by_28 rfl ?_
    refine go_iastK dX7_by_29 rfl (vp_in_nI (n := 2) (by decide) (by decide)) (k := 2) (by decide) ?_
    have h := h _ rfl
    refine go_iconst (v := 1) dX7_by_30 (by decide) ?_
    exact go_zret dX7_by_31 rfl rfl rfl h
  · have h := h.2 c
    refine go_iload_n dX7_by_5 rfl ?_
    refine go_iconst (v := 0) dX7_by_6 (by decide) ?_
    refine go_aload_n dX7_by_7 rfl ?_
    refine go_getR dX7_by_8 fX7_7 rfl rfl (hR 310 0 311 rfl) ?_
    refine go_iconst (v := 1) dX7_by_11 (by decide) ?_
    refine go_ialdK dX7_by_12 rfl (vp_in_nI (n := 1) (by decide) (by decide)) (k := 1) (by decide) ?_
    refine go_iconst (v := 1) dX7_by_13 (by decide) ?_
    refine go_isub dX7_by_14 ?_
    refine go_callS0 (μ := mX7_by) [.int _, .int _, .int _] dX7_by_15 YX7_in lX7_110 rfl (Nat.le_of_ble_eq_true rfl) (Nat.le_of_ble_eq_true rfl) rfl (k_X7_in hR ?_)
    refine go_if_ne 23 dX7_by_18 (by decide) (fun c => ?_) (fun c => ?_)
    · have h := h.1 (b1.mp c)
      refine go_aload_n dX7_by_23 rfl ?_
      refine go_getR dX7_by_24 fX7_7 rfl rfl (hR 310 0 311 rfl) ?_
      refine go_iconst (v := 2) dX7_by_27 (by decide) ?_
      refine go_iload_n dX7_by_28 rfl ?_
      refine go_iastK dX7_by_29 rfl (vp_in_nI (n := 2) (by decide) (by decide)) (k := 2) (by decide) ?_
      have h := h _ rfl
      refine go_iconst (v := 1) dX7_by_30 (by decide) ?_
      exact go_zret dX7_by_31 rfl rfl rfl h
    · have h := h.2 (b0.mp c)
      refine go_iconst (v := 0) dX7_by_21 (by decide) ?_
      exact go_zret dX7_by_22 rfl rfl rfl h
theorem e_X6_end {G : gG} {I : gI} {R : gR} {L : gL} {Q : gQ} {a : Int32} (hR : g_Fx R) (h : (a < 0 → Q (some (.int (-1))) SH I R L) ∧ (¬ a < 0 → (a ≤ (I 0 6) → ∀ I_1 : gI, I_1 = up I 0 6 a → Q (some (.int a)) SH I_1 R L) ∧ (¬ a ≤ (I 0 6) → Q (some (.int (-1))) SH I R L))) : Mt G mX6_end 30 0 0 [.ref 0, .int a] SH I R L Q := by
  refine go_start rfl (Nat.le_of_ble_eq_true rfl) rfl ?_
  refine go_iload_n dX6_end_0 rfl ?_
  refine go_if_lt 12 dX6_end_1 (by decide) (fun c => ?_) (fun c => ?_)
  · have h := h.1 c
    refine go_iconst (v := -1) dX6_end_12 (by decide) ?_
    exact go_iret dX6_end_13 rfl rfl h
  · have h := h.2 c
    refine go_iload_n dX6_end_4 rfl ?_
    refine go_aload_n dX6_end_5 rfl ?_
    refine go_getI dX6_end_6 fX6_45 rfl rfl ?_
    refine go_icmp_le 14 dX6_end_9 (by decide) (fun c => ?_) (fun c => ?_)
    · have h := h.1 c
      refine go_aload_n dX6_end_14 rfl ?_
      refine go_iload_n dX6_end_15 rfl ?_
      refine go_putI dX6_end_16 fX6_45 rfl rfl rfl rfl ?_
      have h := h _ rfl
      refine go_iload_n dX6_end_19 rfl ?_
      exact go_iret dX6_end_20 rfl rfl h
    · have h := h.2 c
      refine go_iconst (v := -1) dX6_end_12 (by decide) ?_
      exact go_iret dX6_end_13 rfl rfl h
theorem e_X7_end {G : gG} {I : gI} {R : gR} {L : gL} {Q : gQ} {a : Int32} (hR : g_Fx R) (h : ((0 : Int32) ≤ a ∧ a ≤ (I 310 3) → ∀ I_1 : gI, I_1 = up I 310 3 a → Q (some (.int a)) SH I_1 R L) ∧ (¬ ((0 : Int32) ≤ a ∧ a ≤ (I 310 3)) → Q (some (.int (-1))) SH I R L)) : Mt G mX7_end 30 0 0 [.ref 310, .int a] SH I R L Q := by
  refine go_start rfl (Nat.le_of_ble_eq_true rfl) rfl ?_
  refine go_iload_n dX7_end_0 rfl ?_
  refine go_iconst (v := 0) dX7_end_1 (by decide) ?_
  refine go_aload_n dX7_end_2 rfl ?_
  refine go_getI dX7_end_3 fX7_118 rfl rfl ?_
  refine go_callS0 (μ := mX7_end) [.int _, .int _, .int _] dX7_end_6 YX7_in lX7_110 rfl (Nat.le_of_ble_eq_true rfl) (Nat.le_of_ble_eq_true rfl) rfl (k_X7_in hR ?_)
  refine go_if_ne 14 dX7_end_9 (by decide) (fun c => ?_) (fun c => ?_)
  · have h := h.1 (b1.mp c)
    refine go_aload_n dX7_end_14 rfl ?_
    refine go_iload_n dX7_end_15 rfl ?_
    refine go_putI dX7_end_16 fX7_118 rfl rfl rfl rfl ?_
    have h := h _ rfl
    refine go_iload_n dX7_end_19 rfl ?_
    exact go_iret dX7_end_20 rfl rfl h
  · have h := h.2 (b0.mp c)
    refine go_iconst (v := -1) dX7_end_12 (by decide) ?_
    exact go_iret dX7_end_13 rfl rfl h
theorem ud_eq (f : Nat → Int32) (i : Nat) (v : Int32) : upd f i v i = v := by simp [upd]
theorem ud_ne {f : Nat → Int32} {i j : Nat} {v : Int32} (h : j ≠ i) : upd f i v j = f j := by simp [upd, h]
/-- the numbers ahead of the scenes, changed -/
theorem CR_hd {I I' : gI} {p : Nat → Nat} {f f' : Nat → Int32} (r : CR I 3 p f) (o : okf f) (hp : ∀ i, i < 30 → 9 ≤ p i ∧ p i + 3 ≤ 128) (hf : ∀ k, 110 ≤ k → f' k = f k) (h3 : f' 3 = f 3) (hco : coR I' 3 f') (hI : ∀ a, (4 ≤ a ∧ a ≤ 128) ∨ a = 132 ∨ a = 133 → I' a = I a) : CR I' 3 p f' := by
  obtain ⟨r1, r2, r3⟩ := r
  have o3 := ci o.1.2.2.2.1.1
  have o3' := o.1.2.2.2.1.2
  refine ⟨hco, ?_, fun i hi => ?_⟩
  · exact scR_congr (r := row f 110) (r' := row f' 110) (fun k _ => hf _ (by omega)) o.2.1.2.2.2.1 o.2.1.2.2.2.2.1 (hI _ (by omega)) (hI _ (by omega)) (hI _ (by omega)) (hI _ (by omega)) (fun j _ => by rw [hI _ (by omega)]) (fun j _ => by rw [hI _ (by omega)]) r2
  · rw [h3] at hi
    have hpi := hp i (by omega)
    obtain ⟨ho, -, -⟩ := o.2.2.1 i hi
    exact scR_congr (r := row f (470 + 355 * i)) (r' := row f' (470 + 355 * i)) (fun k _ => hf _ (by omega)) ho.2.2.2.1 ho.2.2.2.2.1 (hI _ (by omega)) (hI _ (by omega)) (hI _ (by omega)) (hI _ (by omega)) (fun j _ => by rw [hI _ (by omega)]) (fun j _ => by rw [hI _ (by omega)]) (r3 i hi)
theorem okr_E {E E' : Nat} {r : Nat → Int32} (h : E ≤ E') (o : okr E r) : okr E' r := ⟨o.1, o.2.1, o.2.2.1, o.2.2.2.1, o.2.2.2.2.1, o.2.2.2.2.2.1, fun e h1 h2 => o.2.2.2.2.2.2 e (by omega) h2⟩
theorem okf_hd {f f' : Nat → Int32} (o : okf f) (oh : okh f') (hf : ∀ k, 110 ≤ k → f' k = f k) (h3 : f' 3 = f 3) (h0 : (f 0).toNatClampNeg ≤ (f' 0).toNatClampNeg) : okf f' := by
  obtain ⟨o1, o2, o3, o4⟩ := o
  have er : ∀ b k, 110 ≤ b → row f' b k = row f b k := fun b k hb => hf _ (by omega)
  refine ⟨oh, ?_⟩
  unfold okst
  rw [h3]
  refine ⟨okr_congr (fun k _ => er 110 k (by omega)) (okr_E h0 o2), fun i hi => ?_, fun i j hij hj => ?_⟩
  · obtain ⟨a1, a2, a3⟩ := o3 i hi
    rw [er _ _ (by omega), er _ _ (by omega), er _ _ (by omega), er _ _ (by omega)]
    exact ⟨okr_congr (fun k _ => er _ k (by omega)) (okr_E h0 a1), a2, a3⟩
  · rw [er _ _ (by omega), er _ _ (by omega), er _ _ (by omega), er _ _ (by omega)]; exact o4 i j hij hj
theorem p_by {G : gG} {I : gI} {R : gR} {L : gL} {Q : gQ} {a : Int32} (h : Rel I R) (hq : ∀ v I1 R1 L1, prom G mX7_by [.ref 310, .int a] (some (.int v)) I1 R1 L1 → Q (some (.int v)) SH I1 R1 L1) : Mt G mX6_by 30 0 0 [.ref 0, .int a] SH I R L Q := by
  have hF := h.1.1
  obtain ⟨⟨c0, c1, c2, c3, c4, c5, c6, c7, c8⟩, -, oh, -⟩ := R_co h
  have o1 : 0 ≤ I 311 1 ∧ I 311 1 ≤ 4 := ⟨ti_le.mpr oh.2.1.1, ti_le.mpr oh.2.1.2⟩
  have good : (a = -1 ∨ (0 ≤ a.toInt ∧ a.toInt < (I 311 1).toInt)) → Rel (up (up (up I 0 9 (-1)) 3 10 a) 311 2 a) R := by
    intro ha
    obtain ⟨⟨h1, ⟨π, g2, g3⟩, h4, h5, h6⟩, hs⟩ := id h
    have ef : up (up (up I 0 9 (-1)) 3 10 a) 311 2 a 311 = upd (I 311) 2 a := by rw [up_row, up_off _ (by decide), up_off _ (by decide)]
    have hx : ∀ x, x ≠ 0 → x ≠ 3 → x ≠ 311 → up (up (up I 0 9 (-1)) 3 10 a) 311 2 a x = I x := fun x x0 x5 x1 => by rw [up_off _ x1, up_off _ x5, up_off _ x0]
    have f3 : ∀ j, j ≠ 10 → up (up (up I 0 9 (-1)) 3 10 a) 311 2 a 3 j = I 3 j := fun j hj => by rw [up_nc (by decide), up_ni hj, up_nc (by decide)]
    have fr : ∀ k, k ≠ 2 → upd (I 311) 2 a k = I 311 k := fun k hk => ud_ne hk
    refine ⟨Rel0_up (ρ := π) h.1 (kp_of (fun x x0 x1 x2 x3 x4 x5 x6 x7 x8 => hx x x0 (by omega) x7) (by rw [up_nc (by decide), up_nc (by decide), up_ni (by decide)]) (by rw [up_nc (by decide), up_nc (by decide), up_ni (by decide)]) (by rw [up_nc (by decide), up_nc (by decide), up_ni (by decide)]) (by rw [hx _ (by decide) (by decide) (by decide)]) (by rw [hx _ (by decide) (by decide) (by decide)]) (by rw [hx _ (by decide) (by decide) (by decide)])) hF g2 ?_ ?_ ?_, sgt_no ?_⟩
    · rw [ef]
      refine CR_hd g3 h5 (p9 g2) (fun k hk => fr k (by omega)) (fr 3 (by decide)) ?_ (fun x hx' => hx x (by omega) (by omega) (by omega))
      have d4 := ci oh.2.2.2.2.1.1
      have d5 := ci oh.2.2.2.2.2.1.1
      have e4 := oh.2.2.2.2.1.2
      have e5 := oh.2.2.2.2.2.1.2
      unfold coR
      rw [f3 6 (by decide), f3 9 (by decide), f3 2 (by decide), f3 12 (by decide), f3 14 (by decide), f3 11 (by decide), fr 0 (by decide), fr 1 (by decide), fr 3 (by decide), fr 4 (by decide), fr 5 (by decide), ud_eq, hx (3 + 126) (by decide) (by decide) (by decide), hx (3 + 127) (by decide) (by decide) (by decide), hx (3 + 128) (by decide) (by decide) (by decide), hx (3 + 131) (by decide) (by decide) (by decide), fitF_congr (fun k hk _ => fr k (by omega)) _ (by omega)]
      refine ⟨c0, c1, by rw [up_nc (by decide), up_eq], c3, c4, c5, fun e he => ?_, c7, fun e he => ?_⟩
      · rw [fr _ (by omega), fr _ (by omega), fr _ (by omega)]; exact c6 e he
      · rw [tolF_congr (fun k hk _ => fr k (by omega)) _ (by omega)]; exact c8 e he
    · rw [ef]
      refine okf_hd h5 ?_ (fun k hk => fr k (by omega)) (fr 3 (by decide)) (by rw [fr 0 (by decide)]; exact Nat.le_refl _)
      obtain ⟨q0, q1, q2, q3, q4, q5, q6, q7⟩ := oh
      unfold okh
      rw [fr 0 (by decide), fr 1 (by decide), fr 3 (by decide), fr 4 (by decide), fr 5 (by decide), ud_eq]
      refine ⟨q0, q1, ha, q3, q4, q5, fun e he => ?_, fun k hk => ?_⟩
      · rw [fr _ (by omega), fr _ (by omega), fr _ (by omega)]; exact q6 e he
      · rw [fr _ (by omega), fr _ (by omega)]; exact q7 k hk
    · rw [ef]; exact fr 1 (by decide)
    · rw [up_nc (by decide), up_nc (by decide), up_eq]
  refine e_X6_by hF ?_
  rw [c1]
  refine ⟨fun d1 => ?_, fun d1 => ⟨fun d2 => ?_, fun d2 => ?_⟩⟩
  · rintro _ rfl _ rfl
    refine hq _ _ R L (fun Q2 h2 => e_X7_by hF ?_)
    have := h2 _ R L (good (Or.inl d1))
    grind
  · rintro _ rfl _ rfl
    refine hq _ _ R L (fun Q2 h2 => e_X7_by hF ?_)
    have := h2 _ R L (good (Or.inr ⟨ti_le.mp d2.1, ti_lt.mp d2.2.1⟩))
    rw [up_nc (show (311 : Nat) ≠ 3 by decide), up_nc (show (311 : Nat) ≠ 0 by decide)]
    grind
  · refine hq _ _ R L (fun Q2 h2 => e_X7_by hF ?_)
    have := h2 _ R L h
    grind
theorem p_end {G : gG} {I : gI} {R : gR} {L : gL} {Q : gQ} {a : Int32} (h : Rel I R) (hq : ∀ v I1 R1 L1, prom G mX7_end [.ref 310, .int a] (some (.int v)) I1 R1 L1 → Q (some (.int v)) SH I1 R1 L1) : Mt G mX6_end 30 0 0 [.ref 0, .int a] SH I R L Q := by
  have hF := h.1.1
  obtain ⟨t1, t2, t3, t4, t5⟩ := h.1.2.2.2.2.2.2.2
  have bad : (∀ Q2 : gQ, Q2 (some (.int (-1))) SH I R L → Mt G mX7_end 30 0 0 [.ref 310, .int a] SH I R L Q2) → Q (some (.int (-1))) SH I R L := fun hv => hq _ I R L (fun Q2 h2 => hv Q2 (h2 I R L h))
  refine e_X6_end hF ⟨fun d1 => bad (fun Q2 h2 => e_X7_end hF (by grind)), fun d1 => ⟨fun d2 => ?_, fun d2 => bad (fun Q2 h2 => e_X7_end hF (by grind))⟩⟩
  rintro _ rfl
  refine hq _ _ R L (fun Q2 h2 => e_X7_end hF ?_)
  have hR : Rel (up (up I 0 6 a) 310 3 a) R := by
    have hx : ∀ x, x ≠ 0 → x ≠ 310 → up (up I 0 6 a) 310 3 a x = I x := fun x x0 x1 => by rw [up_off _ x1, up_off _ x0]
    have h0 : ∀ j, j ≠ 6 → up (up I 0 6 a) 310 3 a 0 j = I 0 j := fun j hj => by rw [up_nc (by decide), up_ni hj]
    have h1 : ∀ j, j ≠ 3 → up (up I 0 6 a) 310 3 a 310 j = I 310 j := fun j hj => by rw [up_ni hj, up_nc (by decide)]
    obtain ⟨⟨k1, ⟨π, g2, g3⟩, k4, k5, k6, k7, k8, k9⟩, hs⟩ := id h
    have o1 := k5.1.2.1
    have e1 := ci o1.1
    refine ⟨⟨k1, ⟨π, g2, ?_⟩, ?_, ?_, ?_, ?_, fun t ht => ?_, ?_⟩, ?_⟩
    · rw [hx 311 (by decide) (by decide)]
      exact CR_congr (fun x x1 x2 => hx _ (by omega) (by omega)) (fun i hi => by have := (g2.1 i hi).1; omega) k5 g3
    · rw [hx 312 (by decide) (by decide)]
      exact CR_congr (fun x x1 x2 => hx _ (by omega) (by omega)) (fun i hi => by omega) k6 k4
    · rw [hx 311 (by decide) (by decide)]; exact k5
    · rw [hx 312 (by decide) (by decide)]; exact k6
    · rw [hx 311 (by decide) (by decide), hx 312 (by decide) (by decide)]; exact k7
    · rw [hx 311 (by decide) (by decide)] at ht
      exact lwR_congr (by omega) (fun x x1 x2 => hx _ (by omega) (by omega)) (fun x x1 x2 => hx _ (by omega) (by omega)) (k8 t ht)
    · unfold tpR
      rw [h0 7 (by decide), h0 8 (by decide), h1 4 (by decide), h1 5 (by decide), hx 307 (by decide) (by decide), hx 313 (by decide) (by decide), up_eq, up_nc (show (0 : Nat) ≠ 310 by decide), up_eq]
      have z0 : (0 : Int32).toInt = 0 := rfl
      rw [ti_lt, z0] at d1
      rw [ti_le, t1] at d2
      have b1 := ci (x := a) (by omega)
      have b2 := ci t2.1
      exact ⟨rfl, ⟨by omega, by omega⟩, fun j hj => t3 j (by omega), t4, t5⟩
    · exact sgt_keep hs (h0 9 (by decide)) (by rw [hx _ (by decide) (by decide)]) (by rw [hx _ (by decide) (by decide)]) (hx _ (by decide) (by decide)) (thC_of (fun x x1 => hx x (by omega) (by omega))) (hx _ (by decide) (by decide)) (hx _ (by decide) (by decide)) (hx _ (by decide) (by decide)) (by rw [hx _ (by decide) (by decide)]) (by rw [hx _ (by decide) (by decide)]) (by rw [hx _ (by decide) (by decide)])
  have := h2 _ R L hR
  rw [up_nc (show (310 : Nat) ≠ 0 by decide)]
  grind
