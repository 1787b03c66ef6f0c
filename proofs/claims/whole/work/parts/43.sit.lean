theorem e_X6_sit {G : gG} {I : gI} {R : gR} {L : gL} {Q : gQ} {a b : Int32} (hR : g_Fx R) (h : (¬ (0 ≤ a ∧ a < I 3 6 ∧ a < 9) → Q (some (.int 0)) SH I R L) ∧ (0 ≤ a ∧ a < I 3 6 ∧ a < 9 → (b = 0 ∨ b = 1 → vp_in a 9 ∧ ((¬ (I 6 a.toNatClampNeg) = b → ∀ I_1 : gI, I_1 = up I 0 9 (-1) → (∃ f, okf f ∧ stp I_1 R f) ∧ (∀ I_3 : gI, ∀ R_4 : gR, (g_Fx R_4 ∧ (∀ f, okf f → stp I_1 R f → stp I_3 R_4 (kstF f)) ∧ (∀ a, a ≠ 3 → (a < 9 ∨ 128 < a) → I_3 a = I_1 a) ∧ ∀ j, j ≠ 2 → I_3 3 j = I_1 3 j) → vp_in a 9 ∧ (∀ I_6 : gI, I_6 = up I_3 6 a.toNatClampNeg b → Q (some (.int 1)) SH I_6 R_4 L))) ∧ ((I 6 a.toNatClampNeg) = b → Q (some (.int 0)) SH I R L))) ∧ (¬ (b = 0 ∨ b = 1) → (¬ b = 2 → Q (some (.int 0)) SH I R L) ∧ (b = 2 → vp_in a 9 ∧ ((¬ (I 6 a.toNatClampNeg) = b → ∀ I_8 : gI, I_8 = up I 0 9 (-1) → (∃ f, okf f ∧ stp I_8 R f) ∧ (∀ I_10 : gI, ∀ R_11 : gR, (g_Fx R_11 ∧ (∀ f, okf f → stp I_8 R f → stp I_10 R_11 (kstF f)) ∧ (∀ a, a ≠ 3 → (a < 9 ∨ 128 < a) → I_10 a = I_8 a) ∧ ∀ j, j ≠ 2 → I_10 3 j = I_8 3 j) → vp_in a 9 ∧ (∀ I_13 : gI, I_13 = up I_10 6 a.toNatClampNeg b → Q (some (.int 1)) SH I_13 R_11 L))) ∧ ((I 6 a.toNatClampNeg) = b → Q (some (.int 0)) SH I R L)))))) : Mt G mX6_sit 30 0 0 [.ref 0, .int a, .int b] SH I R L Q := by
  refine go_start rfl (Nat.le_of_ble_eq_true rfl) rfl ?_
  refine go_aload_n dX6_sit_0 rfl ?_
  refine go_iload_n dX6_sit_1 rfl ?_
  refine go_callV0 (μ := mX6_sit) [.int _] dX6_sit_2 YX6_isEater lX6_92 rfl ⟨_, rfl, rfl⟩ rfl (Nat.le_of_ble_eq_true rfl) (Nat.le_of_ble_eq_true rfl) rfl (k_X6_isEater hR ?_)
  refine go_if_eq 36 dX6_sit_5 (by decide) (fun c => ?_) (fun c => ?_)
  · have h := h.1 (b0.mp c)
    refine go_iconst (v := 0) dX6_sit_36 (by decide) ?_
    exact go_zret dX6_sit_37 rfl rfl rfl h
  · have h := h.2 (b1.mp c)
    refine go_iload_n dX6_sit_8 rfl ?_
    refine go_callS0 (μ := mX6_sit) [.int _] dX6_sit_9 YX6_isSide lX6_58 rfl (Nat.le_of_ble_eq_true rfl) (Nat.le_of_ble_eq_true rfl) rfl (k_X6_isSide hR ?_)
    refine go_if_ne 20 dX6_sit_12 (by decide) (fun c => ?_) (fun c => ?_)
    · have h := h.1 (b1.mp c)
      refine go_aload_n dX6_sit_20 rfl ?_
      refine go_getR dX6_sit_21 fX6_27 rfl rfl (hR 0 2 3 rfl) ?_
      refine go_getR dX6_sit_24 fX6_68 rfl rfl (hR 3 0 4 rfl) ?_
      refine go_getR dX6_sit_27 fX6_95 rfl rfl (hR 4 1 6 rfl) ?_
      refine go_iload_n dX6_sit_30 rfl ?_
      obtain ⟨hi, h⟩ := h
      refine go_iald dX6_sit_31 rfl hi ?_
      refine go_iload_n dX6_sit_32 rfl ?_
      refine go_icmp_ne 38 dX6_sit_33 (by decide) (fun c => ?_) (fun c => ?_)
      · have h := h.1 c
        refine go_aload_n dX6_sit_38 rfl ?_
        refine go_callV0 (μ := mX6_sit) [] dX6_sit_39 YX6_forgetSought lX6_65 rfl ⟨_, rfl, rfl⟩ rfl (Nat.le_of_ble_eq_true rfl) (Nat.le_of_ble_eq_true rfl) rfl (k_X6_forgetSought hR ?_)
        have h := h _ rfl
        refine go_aload_n dX6_sit_42 rfl ?_
        refine go_getR dX6_sit_43 fX6_27 rfl rfl (hR 0 2 3 rfl) ?_
        obtain ⟨hp_2, h⟩ := h
        refine go_callV0 (μ := mX6_sit) [] dX6_sit_46 YX1_keepStep lX6_98 rfl ⟨_, rfl, rfl⟩ rfl (Nat.le_of_ble_eq_true rfl) (Nat.le_of_ble_eq_true rfl) rfl (k_X1_keepStep2 hR hp_2 (fun I_3 R_4 hq => ?_))
        have h := h I_3 R_4 hq
        have hRx_5 := hq.1
        refine go_aload_n dX6_sit_49 rfl ?_
        refine go_getR dX6_sit_50 fX6_27 rfl rfl (hRx_5 0 2 3 rfl) ?_
        refine go_getR dX6_sit_53 fX6_68 rfl rfl (hRx_5 3 0 4 rfl) ?_
        refine go_getR dX6_sit_56 fX6_95 rfl rfl (hRx_5 4 1 6 rfl) ?_
        refine go_iload_n dX6_sit_59 rfl ?_
        refine go_iload_n dX6_sit_60 rfl ?_
        obtain ⟨hi, h⟩ := h
        refine go_iast dX6_sit_61 rfl hi ?_
        have h := h _ rfl
        refine go_iconst (v := 1) dX6_sit_62 (by decide) ?_
        exact go_zret dX6_sit_63 rfl rfl rfl h
      · have h := h.2 c
        refine go_iconst (v := 0) dX6_sit_36 (by decide) ?_
        exact go_zret dX6_sit_37 rfl rfl rfl h
    · have h := h.2 (b0.mp c)
      refine go_iload_n dX6_sit_15 rfl ?_
      refine go_iconst (v := 2) dX6_sit_16 (by decide) ?_
      refine go_icmp_ne 36 dX6_sit_17 (by decide) (fun c => ?_) (fun c => ?_)
      · have h := h.1 c
        refine go_iconst (v := 0) dX6_sit_36 (by decide) ?_
        exact go_zret dX6_sit_37 rfl rfl rfl h
      · have h := h.2 c
        refine go_aload_n dX6_sit_20 rfl ?_
        refine go_getR dX6_sit_21 fX6_27 rfl rfl (hR 0 2 3 rfl) ?_
        refine go_getR dX6_sit_24 fX6_68 rfl rfl (hR 3 0 4 rfl) ?_
        refine go_getR dX6_sit_27 fX6_95 rfl rfl (hR 4 1 6 rfl) ?_
        refine go_iload_n dX6_sit_30 rfl ?_
        obtain ⟨hi, h⟩ := h
        refine go_iald dX6_sit_31 rfl hi ?_
        refine go_iload_n dX6_sit_32 rfl ?_
        refine go_icmp_ne 38 dX6_sit_33 (by decide) (fun c => ?_) (fun c => ?_)
        · have h := h.1 c
          refine go_aload_n dX6_sit_38 rfl ?_
          refine go_callV0 (μ := mX6_sit) [] dX6_sit_39 YX6_forgetSought lX6_65 rfl ⟨_, rfl, rfl⟩ rfl (Nat.le_of_ble_eq_true rfl) (Nat.le_of_ble_eq_true rfl) rfl (k_X6_forgetSought hR ?_)
          have h := h _ rfl
          refine go_aload_n dX6_sit_42 rfl ?_
          refine go_getR dX6_sit_43 fX6_27 rfl rfl (hR 0 2 3 rfl) ?_
          obtain ⟨hp_9, h⟩ := h
          refine go_callV0 (μ := mX6_sit) [] dX6_sit_46 YX1_keepStep lX6_98 rfl ⟨_, rfl, rfl⟩ rfl (Nat.le_of_ble_eq_true rfl) (Nat.le_of_ble_eq_true rfl) rfl (k_X1_keepStep2 hR hp_9 (fun I_10 R_11 hq => ?_))
          have h := h I_10 R_11 hq
          have hRx_12 := hq.1
          refine go_aload_n dX6_sit_49 rfl ?_
          refine go_getR dX6_sit_50 fX6_27 rfl rfl (hRx_12 0 2 3 rfl) ?_
          refine go_getR dX6_sit_53 fX6_68 rfl rfl (hRx_12 3 0 4 rfl) ?_
          refine go_getR dX6_sit_56 fX6_95 rfl rfl (hRx_12 4 1 6 rfl) ?_
          refine go_iload_n dX6_sit_59 rfl ?_
          refine go_iload_n dX6_sit_60 rfl ?_
          obtain ⟨hi, h⟩ := h
          refine go_iast dX6_sit_61 rfl hi ?_
          have h := h _ rfl
          refine go_iconst (v := 1) dX6_sit_62 (by decide) ?_
          exact go_zret dX6_sit_63 rfl rfl rfl h
        · have h := h.2 c
          refine go_iconst (v := 0) dX6_sit_36 (by decide) ?_
          exact go_zret dX6_sit_37 rfl rfl rfl h
theorem e_X7_sit {G : gG} {I : gI} {R : gR} {L : gL} {Q : gQ} {a b : Int32} (hR : g_Fx R) (h : (¬ (0 ≤ a ∧ a ≤ I 311 0 - 1) → Q (some (.int 0)) SH I R L) ∧ (0 ≤ a ∧ a ≤ I 311 0 - 1 → (¬ ((0 : Int32) ≤ b ∧ b ≤ (2 : Int32)) → Q (some (.int 0)) SH I R L) ∧ ((0 : Int32) ≤ b ∧ b ≤ (2 : Int32) → vp_in (114 + a) 11120 ∧ ((¬ (I 311 (114 + a).toNatClampNeg) = b → (0 ≤ (I 311 3).toInt ∧ (I 311 3).toInt ≤ 30) ∧ (∀ I_2 : gI, I_2 = sa I 311 (kstF (I 311)) → vp_in (114 + a) 11120 ∧ (∀ I_3 : gI, I_3 = up I_2 311 (114 + a).toNatClampNeg b → Q (some (.int 1)) SH I_3 R L))) ∧ ((I 311 (114 + a).toNatClampNeg) = b → Q (some (.int 0)) SH I R L))))) : Mt G mX7_sit 30 0 0 [.ref 310, .int a, .int b] SH I R L Q := by
  refine go_start rfl (Nat.le_of_ble_eq_true rfl) rfl ?_
  refine go_aload_n dX7_sit_0 rfl ?_
  refine go_iload_n dX7_sit_1 rfl ?_
  refine go_callV0 (μ := mX7_sit) [.int _] dX7_sit_2 YX7_isEater lX7_343 rfl ⟨_, rfl, rfl⟩ rfl (Nat.le_of_ble_eq_true rfl) (Nat.le_of_ble_eq_true rfl) rfl (k_X7_isEater hR ?_)
  refine go_if_eq 30 dX7_sit_5 (by decide) (fun c => ?_) (fun c => ?_)
  · have h := h.1 (b0.mp c)
    refine go_iconst (v := 0) dX7_sit_30 (by decide) ?_
    exact go_zret dX7_sit_31 rfl rfl rfl h
  · have h := h.2 (b1.mp c)
    refine go_iload_n dX7_sit_8 rfl ?_
    refine go_iconst (v := 0) dX7_sit_9 (by decide) ?_
    refine go_iconst (v := 2) dX7_sit_10 (by decide) ?_
    refine go_callS0 (μ := mX7_sit) [.int _, .int _, .int _] dX7_sit_11 YX7_in lX7_110 rfl (Nat.le_of_ble_eq_true rfl) (Nat.le_of_ble_eq_true rfl) rfl (k_X7_in hR ?_)
    refine go_if_eq 30 dX7_sit_14 (by decide) (fun c => ?_) (fun c => ?_)
    · have h := h.1 (b0.mp c)
      refine go_iconst (v := 0) dX7_sit_30 (by decide) ?_
      exact go_zret dX7_sit_31 rfl rfl rfl h
    · have h := h.2 (b1.mp c)
      refine go_aload_n dX7_sit_17 rfl ?_
      refine go_getR dX7_sit_18 fX7_7 rfl rfl (hR 310 0 311 rfl) ?_
      refine go_bipush (v := 114) dX7_sit_21 (by decide) ?_
      refine go_iload_n dX7_sit_23 rfl ?_
      refine go_iadd dX7_sit_24 ?_
      obtain ⟨hi, h⟩ := h
      refine go_iald dX7_sit_25 rfl hi ?_
      refine go_iload_n dX7_sit_26 rfl ?_
      refine go_icmp_ne 32 dX7_sit_27 (by decide) (fun c => ?_) (fun c => ?_)
      · have h := h.1 c
        refine go_aload_n dX7_sit_32 rfl ?_
        obtain ⟨hp_1, h⟩ := h
        refine go_callV0 (μ := mX7_sit) [] dX7_sit_33 YX7_keepsStep lX7_346 rfl ⟨_, rfl, rfl⟩ rfl (Nat.le_of_ble_eq_true rfl) (Nat.le_of_ble_eq_true rfl) rfl (k_X7_keepsStep hR hp_1 ?_)
        have h := h _ rfl
        refine go_aload_n dX7_sit_36 rfl ?_
        refine go_getR dX7_sit_37 fX7_7 rfl rfl (hR 310 0 311 rfl) ?_
        refine go_bipush (v := 114) dX7_sit_40 (by decide) ?_
        refine go_iload_n dX7_sit_42 rfl ?_
        refine go_iadd dX7_sit_43 ?_
        refine go_iload_n dX7_sit_44 rfl ?_
        obtain ⟨hi, h⟩ := h
        refine go_iast dX7_sit_45 rfl hi ?_
        have h := h _ rfl
        refine go_iconst (v := 1) dX7_sit_46 (by decide) ?_
        exact go_zret dX7_sit_47 rfl rfl rfl h
      · have h := h.2 c
        refine go_iconst (v := 0) dX7_sit_30 (by decide) ?_
        exact go_zret dX7_sit_31 rfl rfl rfl h
/-! deeds: the class's court against a row of numbers, the plain form's row -/
def CI (I : gI) (R : gR) (θ : thy) (f : Nat → Int32) : Prop := okf f ∧ stp I R f ∧ okI I ∧ eqT (thC I) θ
def frC (I I1 : gI) : Prop := (∀ a, 135 ≤ a → a ≠ 164 → a ≠ 165 → I1 a = I a) ∧ (∀ j, j ≠ 9 → I1 0 j = I 0 j) ∧ I1 1 = I 1
def stepC (I I1 : gI) (R1 : gR) (θ : thy) (f f' : Nat → Int32) : Prop := g_Fx R1 ∧ CI I1 R1 θ f' ∧ frC I I1 ∧ (I1 0 9 = -1 ∨ (f' = f ∧ ∀ a, a ≠ 164 → a ≠ 165 → I1 a = I a))
def MI (I : gI) (θ : thy) : Prop := okf (I 311) ∧ okN I ∧ eqT (thM I) θ
def frM (I I1 : gI) : Prop := (∀ a, a ≠ 311 → a ≠ 310 → a ≠ 331 → a ≠ 333 → a ≠ 334 → I1 a = I a) ∧ ∀ j, j ≠ 41 → I1 310 j = I 310 j
def stepM (I I1 : gI) (θ : thy) (f' : Nat → Int32) : Prop := I1 311 = f' ∧ frM I I1 ∧ MI I1 θ
theorem frC_rfl (I : gI) : frC I I := ⟨fun _ _ _ _ => rfl, fun _ _ => rfl, rfl⟩
theorem frC_tr {I I1 I2 : gI} (h : frC I I1) (g : frC I1 I2) : frC I I2 := ⟨fun a h1 h2 h3 => (g.1 a h1 h2 h3).trans (h.1 a h1 h2 h3), fun j hj => (g.2.1 j hj).trans (h.2.1 j hj), g.2.2.trans h.2.2⟩
theorem frM_rfl (I : gI) : frM I I := ⟨fun _ _ _ _ _ _ => rfl, fun _ _ => rfl⟩
theorem frM_tr {I I1 I2 : gI} (h : frM I I1) (g : frM I1 I2) : frM I I2 := ⟨fun a h1 h2 h3 h4 h5 => (g.1 a h1 h2 h3 h4 h5).trans (h.1 a h1 h2 h3 h4 h5), fun j hj => (g.2 j hj).trans (h.2 j hj)⟩
theorem okI_of {I I' : gI} (h10 : I' 3 10 = I 3 10) (h : ∀ a, a = 129 ∨ a = 130 ∨ (136 ≤ a ∧ a ≤ 163) → I' a = I a) (o : okI I) : okI I' := by
  refine ⟨by rw [thC_of2 h10 h]; exact o.1, ?_⟩
  intro w hw k1 k2 k3
  rw [h10] at k1 k2 k3 ⊢
  have z0 : (0 : Int32).toInt = 0 := rfl
  have z4 : (4 : Int32).toInt = 4 := rfl
  rw [ti_le, z0] at k1
  rw [ti_lt, z4] at k2
  have := ci k1
  rw [h _ (by omega)] at k3 ⊢
  rw [h (136 + 7 * (I 3 10).toNatClampNeg + 3) (by omega)]
  exact o.2 w hw (ti_le.mpr (by rw [z0]; exact k1)) (ti_lt.mpr (by rw [z4]; exact k2)) k3
theorem thM_of {I I' : gI} (h2 : I' 311 2 = I 311 2) (h10 : ∀ k, 10 ≤ k → k < 37 → I' 311 k = I 311 k) (h : ∀ a, 314 ≤ a → a ≤ 320 → I' a = I a) : eqT (thM I) (thM I') ∧ (okN I → okN I') := by
  have ev : ∀ w, ordV I' w = ordV I w := fun w => by unfold ordV; rw [h2, h 314 (by decide) (by decide), h 315 (by decide) (by decide), h 316 (by decide) (by decide)]
  have el : ∀ w, lwM I' w = lwM I w := fun w => by unfold lwM; rw [ev]; unfold tkM; rw [h 319 (by decide) (by decide), h 320 (by decide) (by decide)]
  have hE : eqT (thM I) (thM I') := ⟨fun e he => by show (I 311 _).toInt = (I' 311 _).toInt; rw [h10 _ (by omega) (by omega)], fun e he => by show (I 311 _).toInt = (I' 311 _).toInt; rw [h10 _ (by omega) (by omega)], fun w _ => (el w).symm⟩
  refine ⟨hE, fun o => ⟨okT_eq hE o.1, ?_, ?_⟩⟩
  · have := o.2.1
    unfold okR at this ⊢
    rw [h2, h 314 (by decide) (by decide)]
    exact this
  · intro w hw k
    rw [ev] at k ⊢
    rw [h 319 (by decide) (by decide)]
    exact o.2.2 w hw k
theorem MI_keep {I I1 : gI} {θ : thy} {f' : Nat → Int32} (h : MI I θ) (o : okf f') (e : I1 311 = f') (hf : ∀ k, k < 110 → k ≠ 3 → f' k = I 311 k) (fr : frM I I1) : stepM I I1 θ f' := by
  have := thM_of (I := I) (I' := I1) (by rw [e]; exact hf 2 (by decide) (by decide)) (fun k h1 h2 => by rw [e]; exact hf k (by omega) (by omega)) (fun a h1 h2 => fr.1 a (by omega) (by omega) (by omega) (by omega) (by omega))
  exact ⟨e, fr, by rw [e]; exact o, this.2 h.2.1, this.1.symm.trans h.2.2⟩
theorem stp_now {I I' : gI} {R : gR} {f f' : Nat → Int32} (r : stp I R f) (o : okf f) (hf1 : ∀ k, k < 110 → f' k = f k) (hf2 : ∀ k, 470 ≤ k → f' k = f k) (h3 : I' 3 = I 3) (h1 : I' 129 = I 129) (h2 : I' 130 = I 130) (h4 : I' 131 = I 131) (h5 : I' 134 = I 134) (hst : ∀ a, 9 ≤ a → a ≤ 128 → I' a = I a) (hs : ∀ j, j < 4 * (row f 110 22).toNatClampNeg → I' 132 j = I 132 j) (hd : ∀ j, j < 3 * (row f 110 263).toNatClampNeg → I' 133 j = I 133 j) (hsc : scR I 4 132 133 (row f 110) → scR I' 4 132 133 (row f' 110)) : stp I' R f' := by
  obtain ⟨π, h6, h7⟩ := r
  exact ⟨π, h6, CR_now h7 o (p9 h6) hf1 hf2 h3 h1 h2 h4 h5 hst hs hd (hsc h7.2.1)⟩
theorem stp_off {I I' : gI} {R : gR} {f : Nat → Int32} (r : stp I R f) (o : okf f) (h : ∀ a, 3 ≤ a → a ≤ 134 → I' a = I a) : stp I' R f := by
  obtain ⟨π, h6, h7⟩ := r
  exact ⟨π, h6, CR_congr (fun a h1 h2 => h a (by omega) (by omega)) (fun i hi => by have := (h6.1 i hi).1; omega) o h7⟩
theorem CI_off {I I' : gI} {R : gR} {θ : thy} {f : Nat → Int32} (r : CI I R θ f) (h : ∀ a, 3 ≤ a → a ≤ 163 → I' a = I a) : CI I' R θ f := by
  obtain ⟨o, s, k, e⟩ := r
  have e10 : I' 3 10 = I 3 10 := by rw [h 3 (by decide) (by decide)]
  refine ⟨o, stp_off s o (fun a h1 h2 => h a h1 (by omega)), okI_of e10 (fun a ha => h a (by omega) (by omega)) k, ?_⟩
  rw [thC_of2 e10 (fun a ha => h a (by omega) (by omega))]
  exact e
theorem kst_k {f : Nat → Int32} (o : okf f) : ∀ k, k < 470 → k ≠ 3 → kstF f k = f k := by
  have hn : f 3 = nI (f 3).toNatClampNeg := nI_of_toInt o.1.2.2.2.1.1
  have cn := ci o.1.2.2.2.1.1
  have h30 := o.1.2.2.2.1.2
  exact (kst_at hn (by omega) rfl).2.1
/-! sit -/
def sitA (f : Nat → Int32) (a b : Int32) : Prop := 0 ≤ a ∧ a < f 0 ∧ (b = 0 ∨ b = 1 ∨ b = 2) ∧ ¬ f (114 + a.toNatClampNeg) = b
def sitF (f : Nat → Int32) (a b : Int32) : Nat → Int32 := upd (kstF f) (114 + a.toNatClampNeg) b
theorem sit_ok {f : Nat → Int32} {a b : Int32} (o : okf f) (h : sitA f a b) : okf (sitF f a b) ∧ (∀ k, k < 110 → k ≠ 3 → sitF f a b k = f k) := by
  obtain ⟨h1, h2, h3, h4⟩ := h
  have ok := okf_kst o
  have kk := kst_k o
  have z0 : (0 : Int32).toInt = 0 := rfl
  have h0 := o.1.1
  rw [ti_le, z0] at h1
  rw [ti_lt] at h2
  have ca := ci h1
  have c0 := ci h0.1
  have off : ∀ m, m ≠ 4 + a.toNatClampNeg → row (sitF f a b) 110 m = row (kstF f) 110 m := fun m hm => by unfold row sitF; rw [ud_ne (by omega)]
  have at0 : row (sitF f a b) 110 (4 + a.toNatClampNeg) = b := by unfold row sitF; rw [show 110 + (4 + a.toNatClampNeg) = 114 + a.toNatClampNeg by omega, ud_eq]
  refine ⟨?_, fun k hk h3 => by unfold sitF; rw [ud_ne (by omega), kk k (by omega) h3]⟩
  obtain ⟨o1, o2, o3, o4, o5, o6, o7⟩ := ok.2.1
  refine okf_now ok (fun k hk => by unfold sitF; rw [ud_ne (by omega)]) (fun k hk => by unfold sitF; rw [ud_ne (by omega)]) ?_ (by rw [off _ (by omega)]; omega) (by rw [off _ (by omega)]; omega)
  unfold okr
  rw [off 22 (by omega), off 263 (by omega), off 354 (by omega)]
  refine ⟨fun m hm => by rw [off _ (by omega)]; exact o1 m hm, fun m hm => ?_, fun m hm => by rw [off _ (by omega)]; exact o3 m hm, o4, o5, o6, fun m h1 hm => ?_⟩
  · by_cases hma : m = a.toNatClampNeg
    · rw [hma, at0]; rcases h3 with rfl | rfl | rfl <;> decide
    · rw [off _ (by omega)]; exact o2 m hm
  · have hma : m ≠ a.toNatClampNeg := by
      rw [kk 0 (by decide) (by decide)] at h1
      omega
    rw [off _ (by omega), off _ (by omega)]; exact o7 m h1 hm
theorem c_sit {G : gG} {I : gI} {R : gR} {L : gL} {Q : gQ} {a b : Int32} {θ : thy} {f : Nat → Int32} (hF : g_Fx R) (h : CI I R θ f) (hq0 : ¬ sitA f a b → Q (some (.int 0)) SH I R L) (hq1 : ∀ I1 R1, sitA f a b → stepC I I1 R1 θ f (sitF f a b) → Q (some (.int 1)) SH I1 R1 L) : Mt G mX6_sit 30 0 0 [.ref 0, .int a, .int b] SH I R L Q := by
  obtain ⟨o, s, k, e⟩ := h
  obtain ⟨π, g2, g3⟩ := id s
  have c0 : I 3 6 = f 0 := g3.1.1
  have s2 := g3.2.1.2.1
  have o0 : 0 ≤ f 0 ∧ f 0 ≤ 9 := ⟨ti_le.mpr o.1.1.1, ti_le.mpr o.1.1.2⟩
  have good : ∀ (hb : b = 0 ∨ b = 1 ∨ b = 2), 0 ≤ a ∧ a < f 0 ∧ a < 9 → vp_in a 9 ∧ ((¬ (I 6 a.toNatClampNeg) = b → ∀ I_1 : gI, I_1 = up I 0 9 (-1) → (∃ f, okf f ∧ stp I_1 R f) ∧ (∀ I_3 : gI, ∀ R_4 : gR, (g_Fx R_4 ∧ (∀ f, okf f → stp I_1 R f → stp I_3 R_4 (kstF f)) ∧ (∀ a, a ≠ 3 → (a < 9 ∨ 128 < a) → I_3 a = I_1 a) ∧ ∀ j, j ≠ 2 → I_3 3 j = I_1 3 j) → vp_in a 9 ∧ (∀ I_6 : gI, I_6 = up I_3 6 a.toNatClampNeg b → Q (some (.int 1)) SH I_6 R_4 L))) ∧ ((I 6 a.toNatClampNeg) = b → Q (some (.int 0)) SH I R L)) := by
    intro hb d1
    have hv : vp_in a 9 := vi9.mpr (by grind)
    obtain ⟨i, hi, ei⟩ := vp_in_of hv (by decide)
    have ci' : a.toNatClampNeg = i := by rw [ei, nI_clamp (by omega)]
    have s2' : I 6 i = f (114 + i) := by have := s2 i hi; rw [show row f 110 (4 + i) = f (114 + i) from by unfold row; congr 1; omega] at this; exact this
    rw [ci']
    refine ⟨hv, fun d2 => ?_, fun d2 => hq0 (fun q => q.2.2.2 (by rw [ci', ← s2']; exact d2))⟩
    rintro _ rfl
    have s' : stp (up I 0 9 (-1)) R f := stp_off s o (fun x h1 h2 => up_off _ (by omega))
    refine ⟨⟨f, o, s'⟩, ?_⟩
    rintro I3 R4 ⟨k1, k2, k3, k4⟩
    refine ⟨hv, ?_⟩
    rintro _ rfl
    have hA : sitA f a b := ⟨d1.1, d1.2.1, hb, by rw [ci', ← s2']; exact d2⟩
    have sk := k2 f o s'
    have hx : ∀ x, x ≠ 3 → (x < 9 ∨ 128 < x) → x ≠ 6 → x ≠ 0 → up I3 6 i b x = I x := fun x h1 h2 h3 h4 => by rw [up_off _ h3, k3 x h1 h2, up_off _ h4]
    have e10 : up I3 6 i b 3 10 = I 3 10 := by rw [up_nc (by decide), k4 10 (by decide), up_nc (by decide)]
    refine hq1 _ R4 hA ⟨k1, ⟨(sit_ok o hA).1, ?_, okI_of e10 (fun x hx' => hx x (by omega) (by omega) (by omega) (by omega)) k, by rw [thC_of2 e10 (fun x hx' => hx x (by omega) (by omega) (by omega) (by omega))]; exact e⟩, ⟨fun x h1 h2 h3 => hx x (by omega) (by omega) (by omega) (by omega), fun j hj => by rw [up_nc (by decide), k3 0 (by decide) (by decide), up_ni hj], hx 1 (by decide) (by decide) (by decide) (by decide)⟩, Or.inl (by rw [up_nc (by decide), k3 0 (by decide) (by decide), up_eq])⟩
    have off : ∀ m, m ≠ 4 + i → row (sitF f a b) 110 m = row (kstF f) 110 m := fun m hm => by unfold row sitF; rw [ci', ud_ne (by omega)]
    have at0 : row (sitF f a b) 110 (4 + i) = b := by unfold row sitF; rw [ci', show 110 + (4 + i) = 114 + i by omega, ud_eq]
    refine stp_now sk (okf_kst o) (fun k hk => by unfold sitF; rw [ud_ne (by omega)]) (fun k hk => by unfold sitF; rw [ud_ne (by omega)]) (up_off _ (by decide)) (up_off _ (by decide)) (up_off _ (by decide)) (up_off _ (by decide)) (up_off _ (by decide)) (fun x h1 h2 => up_off _ (by omega)) (fun _ _ => by rw [up_off _ (by decide)]) (fun _ _ => by rw [up_off _ (by decide)]) ?_
    rintro ⟨q1, q2, q3, q4, q5, q6, q7, q8⟩
    unfold scR
    rw [off 22 (by omega), off 263 (by omega), off 354 (by omega), up_off 4 (by decide), up_off 132 (by decide), up_off 133 (by decide)]
    have w4 := ci (okf_kst o).2.1.2.2.2.1.1
    have w4' := (okf_kst o).2.1.2.2.2.1.2
    have w5 := ci (okf_kst o).2.1.2.2.2.2.1.1
    have w5' := (okf_kst o).2.1.2.2.2.2.1.2
    refine ⟨fun m hm => by rw [off _ (by omega), up_nc (by decide)]; exact q1 m hm, fun m hm => ?_, fun m hm => by rw [off _ (by omega), up_nc (by decide)]; exact q3 m hm, q4, q5, q6, fun m hm => by rw [off _ (by omega)]; exact q7 m hm, fun m hm => by rw [off _ (by omega)]; exact q8 m hm⟩
    by_cases hmi : m = i
    · rw [hmi, at0, up_eq]
    · rw [off _ (by omega), up_ni hmi]; exact q2 m hm
  refine e_X6_sit hF ?_
  rw [c0]
  exact ⟨fun d1 => hq0 (fun q => d1 ⟨q.1, q.2.1, by have := q.2.1; grind⟩), fun d1 => ⟨fun d2 => good (by grind) d1, fun d2 => ⟨fun d3 => hq0 (fun q => by have := q.2.2.1; grind), fun d3 => good (by grind) d1⟩⟩⟩
theorem m_sit {G : gG} {I : gI} {R : gR} {L : gL} {Q : gQ} {a b : Int32} {θ : thy} (hF : g_Fx R) (h : MI I θ) (hq0 : ¬ sitA (I 311) a b → Q (some (.int 0)) SH I R L) (hq1 : ∀ I1, sitA (I 311) a b → stepM I I1 θ (sitF (I 311) a b) → Q (some (.int 1)) SH I1 R L) : Mt G mX7_sit 30 0 0 [.ref 310, .int a, .int b] SH I R L Q := by
  have o := h.1
  have o0 : 0 ≤ I 311 0 ∧ I 311 0 ≤ 9 := ⟨ti_le.mpr o.1.1.1, ti_le.mpr o.1.1.2⟩
  refine e_X7_sit hF ⟨fun d1 => hq0 (fun q => d1 (by have := q.1; have := q.2.1; grind)), fun d1 => ⟨fun d2 => hq0 (fun q => by have := q.2.2.1; grind), fun d2 => ?_⟩⟩
  have hv : vp_in a 9 := vi9.mpr (by grind)
  obtain ⟨i, hi, ei⟩ := vp_in_of hv (by decide)
  have ci' : a.toNatClampNeg = i := by rw [ei, nI_clamp (by omega)]
  have e1 : 114 + a = nI (114 + i) := by rw [ei]; exact nI_add 114 i
  rw [e1, nI_clamp (by omega)]
  refine ⟨vp_in_nI (by omega) (by decide), fun d3 => ⟨o.1.2.2.2.1, ?_⟩, fun d3 => hq0 (fun q => q.2.2.2 (by rw [ci']; exact d3))⟩
  rintro _ rfl
  refine ⟨vp_in_nI (by omega) (by decide), ?_⟩
  rintro _ rfl
  have hA : sitA (I 311) a b := ⟨d1.1, by grind, by grind, by rw [ci']; exact d3⟩
  have ee : up (sa I 311 (kstF (I 311))) 311 (114 + i) b = sa I 311 (sitF (I 311) a b) := by unfold sitF; rw [ci', up_sa, sa_eq, sa_sa]
  rw [ee]
  exact hq1 _ hA (MI_keep h (sit_ok o hA).1 (sa_eq _ _ _) (sit_ok o hA).2 ⟨fun x x1 _ _ _ _ => sa_off x1, fun j _ => by rw [sa_off (by decide)]⟩)
