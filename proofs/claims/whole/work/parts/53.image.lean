/-! the image -/
theorem okst_ext {f f' : Nat → Int32} (h : ∀ k, k < 11120 → f' k = f k) (o : okf f) : okf f' := by
  obtain ⟨o1, o2, o3, o4⟩ := o
  have c3 := ci o1.2.2.2.1.1
  have c3' := o1.2.2.2.1.2
  have e1 : ∀ k, k < 355 → row f' 110 k = row f 110 k := fun k hk => h _ (by omega)
  have er : ∀ i k, i < (f 3).toNatClampNeg → k < 355 → row f' (470 + 355 * i) k = row f (470 + 355 * i) k := fun i k hi hk => h _ (by omega)
  refine ⟨okh_congr (fun k hk => h k (by omega)) o1, ?_⟩
  unfold okst
  rw [h 0 (by decide), h 3 (by decide)]
  refine ⟨okr_congr e1 o2, fun i hi => ?_, fun i j hij hj => ?_⟩
  · obtain ⟨a1, a2, a3⟩ := o3 i hi
    rw [er i 22 hi (by decide), er i 263 hi (by decide), e1 22 (by decide), e1 263 (by decide)]
    exact ⟨okr_congr (fun k hk => er i k hi hk) a1, a2, a3⟩
  · rw [er i 22 (by omega) (by decide), er i 263 (by omega) (by decide), er j 22 hj (by decide), er j 263 hj (by decide)]
    exact o4 i j hij hj
theorem CR_ext {I : gI} {c : Nat} {p : Nat → Nat} {f f' : Nat → Int32} (h : ∀ k, k < 11120 → f' k = f k) (o : okf f) (r : CR I c p f) : CR I c p f' := by
  obtain ⟨r1, r2, r3⟩ := r
  have c3 := ci o.1.2.2.2.1.1
  have c3' := o.1.2.2.2.1.2
  refine ⟨coR_congr (fun k hk => h k (by omega)) o.1 rfl rfl rfl rfl rfl r1, scR_congr (fun k hk => h _ (by omega)) o.2.1.2.2.2.1 o.2.1.2.2.2.2.1 rfl rfl rfl rfl (fun _ _ => rfl) (fun _ _ => rfl) r2, fun i hi => ?_⟩
  rw [h 3 (by decide)] at hi
  have ho := (o.2.2.1 i hi).1
  exact scR_congr (fun k hk => h _ (by omega)) ho.2.2.2.1 ho.2.2.2.2.1 rfl rfl rfl rfl (fun _ _ => rfl) (fun _ _ => rfl) (r3 i hi)
theorem pm_ps {R : gR} {π : Nat → Nat} (h : pmR R π) : psR R 3 (fun i => 9 + 4 * π i) := by
  refine ⟨fun i hi => ?_, fun i j hi hj hij => ?_⟩
  · obtain ⟨h1, h2⟩ := h.1 i hi
    exact ⟨h2, Sc_9 h1, by show 3 + 6 ≤ 9 + 4 * π i; omega, by show 9 + 4 * π i + 3 ≤ 3 + 125; omega⟩
  · have : π i ≠ π j := fun q => hij (h.2 i j hi hj q)
    show 9 + 4 * π i + 3 < 9 + 4 * π j ∨ 9 + 4 * π j + 3 < 9 + 4 * π i
    omega
theorem fx_ps {R : gR} (h : g_Fx R) : psR R 174 (fun i => 180 + 4 * i) := by
  refine ⟨fun i hi => ⟨h 179 i _ ((by decide +kernel : ∀ j, j < 30 → RF 179 j = some (180 + 4 * j)) i hi), Sc_180 hi, by show 174 + 6 ≤ 180 + 4 * i; omega, by show 180 + 4 * i + 3 ≤ 174 + 125; omega⟩, fun i j hi hj hij => ?_⟩
  show 180 + 4 * i + 3 < 180 + 4 * j ∨ 180 + 4 * j + 3 < 180 + 4 * i
  omega
theorem scR_cp {I I1 : gI} {x z sp de sp' de' : Nat} {r : Nat → Int32} (o4 : 0 ≤ (r 22).toInt ∧ (r 22).toInt ≤ 60) (o5 : 0 ≤ (r 263).toInt ∧ (r 263).toInt ≤ 30) (h : scEq I1 x I z) (hs : ∀ j, j < 240 → I1 sp j = I sp' j) (hd : ∀ j, j < 90 → I1 de j = I de' j) (q : scR I z sp' de' r) : scR I1 x sp de r := by
  obtain ⟨q1, q2, q3, q4, q5, q6, q7, q8⟩ := q
  obtain ⟨h1, h2, h3, h4, h5, h6⟩ := h
  have c4 := ci o4.1
  have c5 := ci o5.1
  exact ⟨fun j hj => (h1 j hj).trans (q1 j hj), fun j hj => (h2 j hj).trans (q2 j hj), fun j hj => (h3 j hj).trans (q3 j hj), h4.trans q4, h5.trans q5, h6.trans q6, fun j hj => (hs j (by omega)).trans (q7 j hj), fun j hj => (hd j (by omega)).trans (q8 j hj)⟩
/-- a court is copied, whatever it stands for -/
theorem k_X1_copyFrom2 {G : gG} {I : gI} {R : gR} {L : gL} {Q : gQ} {c d : Nat} (hR : g_Fx R) (hc : g_Co c) (hd : g_Co d) (p0 : ∃ p q f, psR R c p ∧ psR R d q ∧ (c + 131 < d ∨ d + 131 < c) ∧ okf f ∧ CR I d q f)
    (hq : ∀ I1 : gI, ((∀ a, a < c ∨ c + 131 < a → I1 a = I a) ∧ ∀ p q f, psR R c p → psR R d q → okf f → CR I d q f → CR I1 c p f) → Q none SH I1 R L) : Mt G mX1_copyFrom 4 0 0 [.ref c, .ref d] SH I R L Q := by
  obtain ⟨p, q, f0, hp, hp', hcd, o0, r0⟩ := p0
  have n0 := ci o0.1.2.2.2.1.1
  have n0' := o0.1.2.2.2.1.2
  refine k_X1_copyFrom (n := (f0 3).toNatClampNeg) hR hc hd hp hp' hcd (r0.1.2.2.2.1.trans (nI_of_toInt o0.1.2.2.2.1.1)) (by omega) ?_
  intro I1 h1 h2 h3 h4 h5 h6 h7 h8 h9 h10 h11 h12 h13 h14 h15 h16
  refine hq I1 ⟨h1, fun p' q' f pp pq o r => ?_⟩
  obtain ⟨⟨e0, e1, e2, e3, e4, e5, e6, e7, e8⟩, r2, r3⟩ := r
  have ef : f 3 = f0 3 := e3.symm.trans r0.1.2.2.2.1
  have ep : ∀ i, i < 30 → p' i = p i := fun i hi => by have a1 := (pp.1 i hi).1; rw [(hp.1 i hi).1] at a1; exact (Option.some.inj a1).symm
  have eq' : ∀ i, i < 30 → q' i = q i := fun i hi => by have a1 := (pq.1 i hi).1; rw [(hp'.1 i hi).1] at a1; exact (Option.some.inj a1).symm
  refine ⟨⟨h5.trans e0, h6.trans e1, h7.trans e2, h4.trans e3, h9.trans e4, h10.trans e5, fun e he => ⟨(h11 e he).trans (e6 e he).1, (h12 e he).trans (e6 e he).2.1, (h13 e he).trans (e6 e he).2.2⟩, h8.trans e7, fun e he => (h16 e he).trans (e8 e he)⟩, scR_cp o.2.1.2.2.2.1 o.2.1.2.2.2.2.1 h2 h14 h15 r2, fun i hi => ?_⟩
  have ho := (o.2.2.1 i hi).1
  have r3i := r3 i hi
  rw [ef] at hi
  rw [ep i (by omega)]
  rw [eq' i (by omega)] at r3i
  exact scR_cp ho.2.2.2.1 ho.2.2.2.2.1 (h3 i hi) h14 h15 r3i
theorem e_X6_image {G : gG} {I : gI} {R : gR} {L : gL} {Q : gQ} (hR : g_Fx R) (h : (∃ p q f, psR R 174 p ∧ psR R 3 q ∧ (174 + 131 < 3 ∨ 3 + 131 < 174) ∧ okf f ∧ CR I 3 q f) ∧ (∀ I_2 : gI, ((∀ a, a < 174 ∨ 174 + 131 < a → I_2 a = I a) ∧ ∀ p q f, psR R 174 p → psR R 3 q → okf f → CR I 3 q f → CR I_2 174 p f) → Q (some (.int (I_2 4 3))) SH I_2 R L)) : Mt G mX6_image 30 0 0 [.ref 0] SH I R L Q := by
  refine go_start rfl (Nat.le_of_ble_eq_true rfl) rfl ?_
  refine go_aload_n dX6_image_0 rfl ?_
  refine go_getR dX6_image_1 fX6_31 rfl rfl (hR 0 3 174 rfl) ?_
  refine go_aload_n dX6_image_4 rfl ?_
  refine go_getR dX6_image_5 fX6_27 rfl rfl (hR 0 2 3 rfl) ?_
  obtain ⟨hp_1, h⟩ := h
  refine go_callV0 (μ := mX6_image) [.ref 3] dX6_image_8 YX1_copyFrom lX6_264 rfl ⟨_, rfl, rfl⟩ rfl (Nat.le_of_ble_eq_true rfl) (Nat.le_of_ble_eq_true rfl) rfl (k_X1_copyFrom2 hR Co_174 Co_3 hp_1 (fun I_2 hq => ?_))
  have h := h I_2 hq
  refine go_aload_n dX6_image_11 rfl ?_
  refine go_getR dX6_image_12 fX6_27 rfl rfl (hR 0 2 3 rfl) ?_
  refine go_getR dX6_image_15 fX6_68 rfl rfl (hR 3 0 4 rfl) ?_
  refine go_getI dX6_image_18 fX6_101 rfl rfl ?_
  exact go_iret dX6_image_21 rfl rfl h
theorem e_X7_image {G : gG} {I : gI} {R : gR} {L : gL} {Q : gQ} (hR : g_Fx R) (h : ∀ I_1 : gI, I_1 = (if (1 : Int32) = 0 then cpy I 312 311 0 0 11120 else cpy I 311 312 0 0 11120) → Q (some (.int (I_1 311 132))) SH I_1 R L) : Mt G mX7_image 30 0 0 [.ref 310] SH I R L Q := by
  refine go_start rfl (Nat.le_of_ble_eq_true rfl) rfl ?_
  refine go_aload_n dX7_image_0 rfl ?_
  refine go_iconst (v := 1) dX7_image_1 (by decide) ?_
  refine go_callV0 (μ := mX7_image) [.int _] dX7_image_2 YX7_copies lX7_106 rfl ⟨_, rfl, rfl⟩ rfl (Nat.le_of_ble_eq_true rfl) (Nat.le_of_ble_eq_true rfl) rfl (k_X7_copies hR ?_)
  have h := h _ rfl
  refine go_aload_n dX7_image_5 rfl ?_
  refine go_getR dX7_image_6 fX7_7 rfl rfl (hR 310 0 311 rfl) ?_
  refine go_sipush (v := 132) dX7_image_9 (by decide) ?_
  refine go_ialdK dX7_image_12 rfl (vp_in_nI (n := 132) (by decide) (by decide)) (k := 132) (by decide) ?_
  exact go_iret dX7_image_13 rfl rfl h
theorem e_X6_back {G : gG} {I : gI} {R : gR} {L : gL} {Q : gQ} (hR : g_Fx R) (h : ∀ I_1 : gI, I_1 = up I 0 9 (-1) → (∃ p q f, psR R 3 p ∧ psR R 174 q ∧ (3 + 131 < 174 ∨ 174 + 131 < 3) ∧ okf f ∧ CR I_1 174 q f) ∧ (∀ I_3 : gI, ((∀ a, a < 3 ∨ 3 + 131 < a → I_3 a = I_1 a) ∧ ∀ p q f, psR R 3 p → psR R 174 q → okf f → CR I_1 174 q f → CR I_3 3 p f) → Q (some (.int (I_3 4 3))) SH I_3 R L)) : Mt G mX6_back 30 0 0 [.ref 0] SH I R L Q := by
  refine go_start rfl (Nat.le_of_ble_eq_true rfl) rfl ?_
  refine go_aload_n dX6_back_0 rfl ?_
  refine go_callV0 (μ := mX6_back) [] dX6_back_1 YX6_forgetSought lX6_65 rfl ⟨_, rfl, rfl⟩ rfl (Nat.le_of_ble_eq_true rfl) (Nat.le_of_ble_eq_true rfl) rfl (k_X6_forgetSought hR ?_)
  have h := h _ rfl
  refine go_aload_n dX6_back_4 rfl ?_
  refine go_getR dX6_back_5 fX6_27 rfl rfl (hR 0 2 3 rfl) ?_
  refine go_aload_n dX6_back_8 rfl ?_
  refine go_getR dX6_back_9 fX6_31 rfl rfl (hR 0 3 174 rfl) ?_
  obtain ⟨hp_2, h⟩ := h
  refine go_callV0 (μ := mX6_back) [.ref 174] dX6_back_12 YX1_copyFrom lX6_264 rfl ⟨_, rfl, rfl⟩ rfl (Nat.le_of_ble_eq_true rfl) (Nat.le_of_ble_eq_true rfl) rfl (k_X1_copyFrom2 hR Co_3 Co_174 hp_2 (fun I_3 hq => ?_))
  have h := h I_3 hq
  refine go_aload_n dX6_back_15 rfl ?_
  refine go_getR dX6_back_16 fX6_27 rfl rfl (hR 0 2 3 rfl) ?_
  refine go_getR dX6_back_19 fX6_68 rfl rfl (hR 3 0 4 rfl) ?_
  refine go_getI dX6_back_22 fX6_101 rfl rfl ?_
  exact go_iret dX6_back_25 rfl rfl h
theorem e_X7_back {G : gG} {I : gI} {R : gR} {L : gL} {Q : gQ} (hR : g_Fx R) (h : ∀ I_1 : gI, I_1 = (if (0 : Int32) = 0 then cpy I 312 311 0 0 11120 else cpy I 311 312 0 0 11120) → Q (some (.int (I_1 311 132))) SH I_1 R L) : Mt G mX7_back 30 0 0 [.ref 310] SH I R L Q := by
  refine go_start rfl (Nat.le_of_ble_eq_true rfl) rfl ?_
  refine go_aload_n dX7_back_0 rfl ?_
  refine go_iconst (v := 0) dX7_back_1 (by decide) ?_
  refine go_callV0 (μ := mX7_back) [.int _] dX7_back_2 YX7_copies lX7_106 rfl ⟨_, rfl, rfl⟩ rfl (Nat.le_of_ble_eq_true rfl) (Nat.le_of_ble_eq_true rfl) rfl (k_X7_copies hR ?_)
  have h := h _ rfl
  refine go_aload_n dX7_back_5 rfl ?_
  refine go_getR dX7_back_6 fX7_7 rfl rfl (hR 310 0 311 rfl) ?_
  refine go_sipush (v := 132) dX7_back_9 (by decide) ?_
  refine go_ialdK dX7_back_12 rfl (vp_in_nI (n := 132) (by decide) (by decide)) (k := 132) (by decide) ?_
  exact go_iret dX7_back_13 rfl rfl h
theorem e_X6_undo {G : gG} {I : gI} {R : gR} {L : gL} {Q : gQ} (hR : g_Fx R) (h : ∀ v1_1 : Int32, v1_1 = ((I 3 2) - 1) → (v1_1 < 0 → Q (some (.int (-1))) SH I R L) ∧ (¬ v1_1 < 0 → (v1_1 < 30 → ∀ I_2 : gI, I_2 = up I 0 9 (-1) → vp_in v1_1 30 ∧ (∃ x_3, R 8 v1_1.toNatClampNeg = some x_3 ∧ g_Sc x_3 ∧ (∀ I_4 : gI, I_4 = cpSc I_2 x_3 4 → ∀ I_5 : gI, I_5 = up I_4 3 2 v1_1 → Q (some (.int v1_1)) SH I_5 R L))) ∧ (¬ v1_1 < 30 → Q (some (.int (-1))) SH I R L))) : Mt G mX6_undo 30 0 0 [.ref 0] SH I R L Q := by
  refine go_start rfl (Nat.le_of_ble_eq_true rfl) rfl ?_
  refine go_aload_n dX6_undo_0 rfl ?_
  refine go_getR dX6_undo_1 fX6_27 rfl rfl (hR 0 2 3 rfl) ?_
  refine go_getI dX6_undo_4 fX6_166 rfl rfl ?_
  refine go_iconst (v := 1) dX6_undo_7 (by decide) ?_
  refine go_isub dX6_undo_8 ?_
  refine go_istore_n dX6_undo_9 (Nat.le_of_ble_eq_true rfl) rfl ?_
  have h := h _ rfl
  refine go_iload_n dX6_undo_10 rfl ?_
  refine go_if_lt 20 dX6_undo_11 (by decide) (fun c => ?_) (fun c => ?_)
  · have h := h.1 c
    refine go_iconst (v := -1) dX6_undo_20 (by decide) ?_
    exact go_iret dX6_undo_21 rfl rfl h
  · have h := h.2 c
    refine go_iload_n dX6_undo_14 rfl ?_
    refine go_bipush (v := 30) dX6_undo_15 (by decide) ?_
    refine go_icmp_lt 22 dX6_undo_17 (by decide) (fun c => ?_) (fun c => ?_)
    · have h := h.1 c
      refine go_aload_n dX6_undo_22 rfl ?_
      refine go_callV0 (μ := mX6_undo) [] dX6_undo_23 YX6_forgetSought lX6_65 rfl ⟨_, rfl, rfl⟩ rfl (Nat.le_of_ble_eq_true rfl) (Nat.le_of_ble_eq_true rfl) rfl (k_X6_forgetSought hR ?_)
      have h := h _ rfl
      refine go_aload_n dX6_undo_26 rfl ?_
      refine go_getR dX6_undo_27 fX6_27 rfl rfl (hR 0 2 3 rfl) ?_
      refine go_getR dX6_undo_30 fX6_68 rfl rfl (hR 3 0 4 rfl) ?_
      refine go_aload_n dX6_undo_33 rfl ?_
      refine go_getR dX6_undo_34 fX6_27 rfl rfl (hR 0 2 3 rfl) ?_
      refine go_getR dX6_undo_37 fX6_169 rfl rfl (hR 3 1 8 rfl) ?_
      refine go_iload_n dX6_undo_40 rfl ?_
      obtain ⟨hi, h⟩ := h
      obtain ⟨x_3, hrx_3, hx_3, h⟩ := h
      refine go_aald4 dX6_undo_41 rfl hi hrx_3 ?_
      refine go_callV0 (μ := mX6_undo) [.ref x_3] dX6_undo_42 YX4_copyFrom lX6_173 rfl ⟨_, rfl, rfl⟩ rfl (Nat.le_of_ble_eq_true rfl) (Nat.le_of_ble_eq_true rfl) rfl (k_X4_copyFrom hR Sc_4 hx_3 ?_)
      have h := h _ rfl
      refine go_aload_n dX6_undo_45 rfl ?_
      refine go_getR dX6_undo_46 fX6_27 rfl rfl (hR 0 2 3 rfl) ?_
      refine go_iload_n dX6_undo_49 rfl ?_
      refine go_putI dX6_undo_50 fX6_166 rfl rfl rfl rfl ?_
      have h := h _ rfl
      refine go_iload_n dX6_undo_53 rfl ?_
      exact go_iret dX6_undo_54 rfl rfl h
    · have h := h.2 c
      refine go_iconst (v := -1) dX6_undo_20 (by decide) ?_
      exact go_iret dX6_undo_21 rfl rfl h
theorem tpR_same {I I' : gI} (h7 : I' 307 = I 307) (h13 : I' 313 = I 313) (h6 : I' 0 6 = I 0 6) (h07 : I' 0 7 = I 0 7) (h08 : I' 0 8 = I 0 8) (k : I' 310 = I 310) (r : tpR I) : tpR I' := by
  unfold tpR
  rw [h7, h13, h6, h07, h08, k]
  exact r
theorem p_image {G : gG} {I : gI} {R : gR} {L : gL} {Q : gQ} (h : Rel I R) (hq : ∀ v I1 R1 L1, prom G mX7_image [.ref 310] (some (.int v)) I1 R1 L1 → Q (some (.int v)) SH I1 R1 L1) : Mt G mX6_image 30 0 0 [.ref 0] SH I R L Q := by
  have hF := h.1.1
  obtain ⟨h0, hs⟩ := id h
  obtain ⟨-, ⟨π, g2, g3⟩, g4, o, o', hle, hlw, htp⟩ := h0
  refine e_X6_image hF ⟨⟨_, _, I 311, fx_ps hF, pm_ps g2, Or.inr (by decide), o, g3⟩, ?_⟩
  rintro I2 ⟨k1, k2⟩
  refine hq _ _ _ _ (fun Q2 h2 => e_X7_image hF ?_)
  rintro _ rfl
  rw [if_neg (by decide)]
  generalize hJ : cpy I2 311 312 0 0 11120 = J
  have j0 : ∀ a, a ≠ 312 → J a = I2 a := fun a ha => by rw [← hJ, cpy_off ha]
  have j1 : ∀ a, a ≠ 312 → (a < 174 ∨ 305 < a) → J a = I a := fun a ha h' => by rw [j0 a ha, k1 a (by omega)]
  have j2 : ∀ k, k < 11120 → J 312 k = I 311 k := fun k hk => by rw [← hJ, cpy_at, if_pos (by omega), k1 311 (by decide), Nat.zero_add, Nat.sub_zero]
  have j11 : J 311 = I 311 := j1 311 (by decide) (by decide)
  have e : I2 4 3 = J 311 132 := by rw [k1 4 (by decide), j11]; exact g3.2.1.2.2.2.1
  rw [← e]
  refine h2 _ _ _ ⟨⟨hF, ⟨π, g2, ?_⟩, ?_, by rw [j11]; exact o, okst_ext j2 o, by rw [j2 1 (by decide), j11]; exact Int.le_refl _, fun t ht => ?_, tpR_same (j1 _ (by decide) (by decide)) (j1 _ (by decide) (by decide)) (by rw [j1 0 (by decide) (by decide)]) (by rw [j1 0 (by decide) (by decide)]) (by rw [j1 0 (by decide) (by decide)]) (j1 _ (by decide) (by decide)) htp⟩, ?_⟩
  · rw [j11]
    exact CR_congr (fun a a1 a2 => j1 a (by omega) (by omega)) (fun i hi => by have := (g2.1 i hi).1; omega) o g3
  · have c := k2 _ _ _ (fx_ps hF) (pm_ps g2) o g3
    exact CR_ext j2 o (CR_congr (fun a a1 a2 => j0 a (by omega)) (fun i hi => by omega) o c)
  · rw [j11] at ht
    have c1 := ci o.1.2.1.1
    have c1' := o.1.2.1.2
    exact lwR_congr (by omega) (fun a a1 a2 => j1 a (by omega) (by omega)) (fun a a1 a2 => j1 a (by omega) (by omega)) (hlw t ht)
  · exact sgt_keep hs (by rw [j1 0 (by decide) (by decide)]) (by rw [j1 1 (by decide) (by decide)]) (by rw [j1 1 (by decide) (by decide)]) (j1 _ (by decide) (by decide)) (thC_of (fun a ha => j1 a (by omega) (by omega))) (j1 _ (by decide) (by decide)) (j1 _ (by decide) (by decide)) (j1 _ (by decide) (by decide)) (by rw [j1 4 (by decide) (by decide)]) (by rw [j1 4 (by decide) (by decide)]) (by rw [j1 3 (by decide) (by decide)])
theorem p_back {G : gG} {I : gI} {R : gR} {L : gL} {Q : gQ} (h : Rel I R) (hq : ∀ v I1 R1 L1, prom G mX7_back [.ref 310] (some (.int v)) I1 R1 L1 → Q (some (.int v)) SH I1 R1 L1) : Mt G mX6_back 30 0 0 [.ref 0] SH I R L Q := by
  have hF := h.1.1
  obtain ⟨h0, hs⟩ := id h
  obtain ⟨-, ⟨π, g2, g3⟩, g4, o, o', hle, hlw, htp⟩ := h0
  refine e_X6_back hF ?_
  rintro _ rfl
  have g4' : CR (up I 0 9 (-1)) 174 (fun i => 180 + 4 * i) (I 312) := CR_congr (fun a a1 a2 => up_off _ (by omega)) (fun i hi => by omega) o' g4
  refine ⟨⟨_, _, I 312, pm_ps g2, fx_ps hF, Or.inl (by decide), o', g4'⟩, ?_⟩
  rintro I2 ⟨k1, k2⟩
  refine hq _ _ _ _ (fun Q2 h2 => e_X7_back hF ?_)
  rintro _ rfl
  rw [if_pos (by decide)]
  have c := k2 _ _ _ (pm_ps g2) (fx_ps hF) o' g4'
  generalize hJ : cpy I2 312 311 0 0 11120 = J
  have j0 : ∀ a, a ≠ 311 → J a = I2 a := fun a ha => by rw [← hJ, cpy_off ha]
  have j1 : ∀ a, a ≠ 311 → a ≠ 0 → (a < 3 ∨ 134 < a) → J a = I a := fun a ha hb h' => by rw [j0 a ha, k1 a (by omega), up_off _ hb]
  have j3 : J 0 = up I 0 9 (-1) 0 := by rw [j0 0 (by decide), k1 0 (by decide)]
  have j2 : ∀ k, k < 11120 → J 311 k = I 312 k := fun k hk => by rw [← hJ, cpy_at, if_pos (by omega), k1 312 (by decide), up_off _ (by decide), Nat.zero_add, Nat.sub_zero]
  have j12 : J 312 = I 312 := j1 312 (by decide) (by decide) (by decide)
  have e : I2 4 3 = J 311 132 := by rw [j2 132 (by decide)]; exact c.2.1.2.2.2.1
  rw [← e]
  refine h2 _ _ _ ⟨⟨hF, ⟨π, g2, ?_⟩, ?_, okst_ext j2 o', by rw [j12]; exact o', by rw [j2 1 (by decide), j12]; exact Int.le_refl _, fun t ht => ?_, tpR_same (j1 _ (by decide) (by decide) (by decide)) (j1 _ (by decide) (by decide) (by decide)) (by rw [j3, up_ni (by decide)]) (by rw [j3, up_ni (by decide)]) (by rw [j3, up_ni (by decide)]) (j1 _ (by decide) (by decide) (by decide)) htp⟩, sgt_no (by rw [j3, up_eq])⟩
  · exact CR_ext j2 o' (CR_congr (fun a a1 a2 => j0 a (by omega)) (fun i hi => by have := (g2.1 i hi).1; omega) o' c)
  · rw [j12]
    exact CR_congr (fun a a1 a2 => j1 a (by omega) (by omega) (by omega)) (fun i hi => by omega) o' g4
  · rw [j2 1 (by decide)] at ht
    have c1 := ci o'.1.2.1.1
    have c1' := o'.1.2.1.2
    have c2 := ci o.1.2.1.1
    exact lwR_congr (by omega) (fun a a1 a2 => j1 a (by omega) (by omega) (by omega)) (fun a a1 a2 => j1 a (by omega) (by omega) (by omega)) (hlw t (by omega))
/-- the plain form's step back, number by number -/
theorem und_at {f : Nat → Int32} {n : Nat} (hn : f 3 = nI (n + 1)) (h30 : n < 30) : undF f 3 = nI n ∧ (∀ k, k < 110 → k ≠ 3 → undF f k = f k) ∧ (∀ k, 465 ≤ k → undF f k = f k) ∧ ∀ k, k < 355 → undF f (110 + k) = f (470 + 355 * n + k) := by
  have nz : ¬ f 3 = 0 := by rw [hn]; exact nI_ne0 (by omega) (by omega)
  have e1 : f 3 - 1 = nI n := by rw [hn]; exact nI_pred n
  unfold undF
  rw [if_neg nz, e1, nI_clamp (by omega)]
  refine ⟨?_, fun k hk h3 => ?_, fun k hk => ?_, fun k hk => ?_⟩
  · unfold mv; rw [if_neg (by omega), ud_eq]
  · unfold mv; rw [if_neg (by omega), ud_ne h3]
  · unfold mv; rw [if_neg (by omega), ud_ne (by omega)]
  · unfold mv; rw [if_pos (by omega), ud_ne (by omega)]; congr 1; omega
theorem und_ok {f : Nat → Int32} {n : Nat} (o : okf f) (hn : f 3 = nI (n + 1)) (h30 : n < 30) : okf (undF f) := by
  obtain ⟨k1, k2, k3, k4⟩ := und_at hn h30
  obtain ⟨oh, o2, o3, o4⟩ := o
  have cn : (f 3).toNatClampNeg = n + 1 := by rw [hn, nI_clamp (by omega)]
  refine ⟨?_, ?_, ?_, ?_⟩
  · obtain ⟨q0, q1, q2, q3, q4, q5, q6, q7⟩ := oh
    have c5 := ci q5.1
    unfold okh
    rw [k1, k2 0 (by decide) (by decide), k2 1 (by decide) (by decide), k2 2 (by decide) (by decide), k2 4 (by decide) (by decide), k2 5 (by decide) (by decide), nI_toInt (by omega)]
    refine ⟨q0, q1, q2, ⟨by omega, by omega⟩, q4, q5, fun e he => ?_, fun k hk => ?_⟩
    · rw [k2 _ (by omega) (by omega), k2 _ (by omega) (by omega), k2 _ (by omega) (by omega)]; exact q6 e he
    · rw [k2 _ (by omega) (by omega), k2 _ (by omega) (by omega)]; exact q7 k hk
  · rw [k2 0 (by decide) (by decide)]
    exact okr_congr (r := row f (470 + 355 * n)) (fun k hk => k4 k hk) (o3 n (by omega)).1
  · intro i hi
    rw [k1, nI_clamp (by omega)] at hi
    have er : ∀ k, row (undF f) (470 + 355 * i) k = row f (470 + 355 * i) k := fun k => k3 _ (by omega)
    rw [k2 0 (by decide) (by decide), er, er, show row (undF f) 110 22 = row f (470 + 355 * n) 22 from k4 22 (by decide), show row (undF f) 110 263 = row f (470 + 355 * n) 263 from k4 263 (by decide)]
    exact ⟨okr_congr (fun k _ => er k) (o3 i (by omega)).1, (o4 i n hi (by omega)).1, (o4 i n hi (by omega)).2⟩
  · intro i j hij hj
    rw [k1, nI_clamp (by omega)] at hj
    have er : ∀ i k, row (undF f) (470 + 355 * i) k = row f (470 + 355 * i) k := fun i k => k3 _ (by omega)
    rw [er, er, er, er]
    exact o4 i j hij (by omega)
theorem p_undo {G : gG} {I : gI} {R : gR} {L : gL} {Q : gQ} (h : Rel I R) (hq : ∀ v I1 R1 L1, promD 1 G mX7_undo [.ref 310] (some (.int v)) I1 R1 L1 → Q (some (.int v)) SH I1 R1 L1) : Mt G mX6_undo 30 0 0 [.ref 0] SH I R L Q := by
  have hF := h.1.1
  obtain ⟨h0, hs⟩ := id h
  obtain ⟨-, ⟨π, g2, g3⟩, g4, o, o', hle, hlw, htp⟩ := id h0
  have c3 : I 3 2 = I 311 3 := g3.1.2.2.2.1
  have q3 := o.1.2.2.2.1
  have z1 : (1 : Int32).toInt = 1 := rfl
  have z0 : (0 : Int32).toInt = 0 := rfl
  have z30 : (30 : Int32).toInt = 30 := rfl
  have m1 : (I 311 3 - 1).toInt = (I 311 3).toInt - 1 := by rw [ti_sub] <;> rw [z1] <;> omega
  refine e_X6_undo hF ?_
  rintro _ rfl
  rw [c3]
  refine ⟨fun d => hq _ _ _ _ (fun Q2 h2 => k_X7_undo hF q3 ?_), fun d => ⟨fun d2 => ?_, fun d2 => absurd (ti_lt.mpr (by rw [m1, z30]; omega)) d2⟩⟩
  · rw [ti_lt, m1, z0] at d
    have e : I 311 3 = 0 := ti_eq.mpr (by rw [z0]; omega)
    rw [if_pos e]
    have eu : undF (I 311) = I 311 := by unfold undF; rw [if_pos e]
    rw [eu, sa_self]
    exact h2 _ _ _ h
  · rw [ti_lt, m1, z0] at d
    have cn := ci q3.1
    obtain ⟨n, en⟩ : ∃ n, (I 311 3).toNatClampNeg = n + 1 := ⟨(I 311 3).toNatClampNeg - 1, by omega⟩
    have hn : I 311 3 = nI (n + 1) := by rw [← en]; exact nI_of_toInt q3.1
    have hn30 : n < 30 := by omega
    have e1 : I 311 3 - 1 = nI n := by rw [hn]; exact nI_pred n
    obtain ⟨k1, k2, k3, k4⟩ := und_at hn hn30
    rw [e1]
    rintro _ rfl
    obtain ⟨p1, p2⟩ := g2.1 n hn30
    refine ⟨vp_in_nI hn30 (by decide), 9 + 4 * π n, by rw [nI_clamp (by omega)]; exact p2, Sc_9 p1, ?_⟩
    rintro _ rfl
    rintro _ rfl
    refine hq _ _ _ _ (fun Q2 h2 => ?_)
    generalize hJ : up (cpSc (up I 0 9 (-1)) (9 + 4 * π n) 4) 3 2 (nI n) = J
    have j0 : ∀ a, a ≠ 0 → a ≠ 3 → (a < 4 ∨ 7 < a) → J a = I a := fun a a1 a2 a3 => by rw [← hJ, up_off _ a2, cpSc_off (by omega), up_off _ a1]
    have j00 : J 0 = up I 0 9 (-1) 0 := by rw [← hJ, up_off _ (by decide), cpSc_off (by decide)]
    have j3 : ∀ j, J 3 j = if j = 2 then nI n else I 3 j := fun j => by
      rw [← hJ]
      by_cases hj : j = 2
      · rw [hj, up_eq, if_pos rfl]
      · rw [up_ni hj, if_neg hj, cpSc_off (by decide), up_off _ (by decide)]
    have jsc : scEq J 4 I (9 + 4 * π n) := by
      have := cpSc_eq (I := up I 0 9 (-1)) (z := 9 + 4 * π n) (x := 4) (by omega)
      have t := scEq_tr (J := J) this (fun a a1 a2 => by rw [← hJ, up_off _ (by omega)])
      exact scEq_src t (fun a a1 a2 => (up_off a (by omega)).symm)
    have j11 : J 311 = I 311 := j0 311 (by decide) (by decide) (by decide)
    refine k_X7_undo hF (by rw [j11]; exact q3) ?_
    rw [j11, if_neg (by rw [hn]; exact nI_ne0 (by omega) (by omega)), e1]
    have s0 : ∀ a, a ≠ 311 → sa J 311 (undF (I 311)) a = J a := fun a ha => sa_off ha
    have ou := und_ok o hn hn30
    refine h2 _ _ _ ⟨Rel0_up (ρ := π) h0 (kp_of (fun a a1 a2 a3 a4 a5 a6 a7 a8 a9 => by rw [s0 a a8, j0 a a1 (by omega) (by omega)]) (by rw [s0 0 (by decide), j00, up_ni (by decide)]) (by rw [s0 0 (by decide), j00, up_ni (by decide)]) (by rw [s0 0 (by decide), j00, up_ni (by decide)]) (by rw [s0 310 (by decide), j0 310 (by decide) (by decide) (by decide)]) (by rw [s0 310 (by decide), j0 310 (by decide) (by decide) (by decide)]) (by rw [s0 310 (by decide), j0 310 (by decide) (by decide) (by decide)])) hF g2 ?_ (by rw [sa_eq]; exact ou) (by rw [sa_eq]; exact k2 1 (by decide) (by decide)), sgt_no (by rw [s0 0 (by decide), j00, up_eq])⟩
    rw [sa_eq]
    refine CR_congr (I := J) (fun a a1 a2 => s0 a (by omega)) (fun i hi => by have := (g2.1 i hi).1; omega) ou ?_
    obtain ⟨⟨e0, e1', e2, e3, e4, e5, e6, e7, e8⟩, r2, r3⟩ := g3
    have d4 := ci o.1.2.2.2.2.1.1
    have d5 := ci o.1.2.2.2.2.2.1.1
    have b4 := o.1.2.2.2.2.1.2
    have b5 := o.1.2.2.2.2.2.1.2
    refine ⟨?_, ?_, fun i hi => ?_⟩
    · unfold coR
      rw [j3, j3, j3, j3, j3, j3, j3, if_neg (by decide), if_neg (by decide), if_neg (by decide), if_pos rfl, if_neg (by decide), if_neg (by decide), if_neg (by decide), k1, k2 0 (by decide) (by decide), k2 1 (by decide) (by decide), k2 2 (by decide) (by decide), k2 4 (by decide) (by decide), k2 5 (by decide) (by decide), j0 (3 + 126) (by decide) (by decide) (by decide), j0 (3 + 127) (by decide) (by decide) (by decide), j0 (3 + 128) (by decide) (by decide) (by decide), j0 (3 + 131) (by decide) (by decide) (by decide), fitF_congr (fun k hk hk2 => k2 k (by omega) (by omega)) _ (by omega)]
      refine ⟨e0, e1', e2, rfl, e4, e5, fun e he => ?_, e7, fun e he => ?_⟩
      · rw [k2 _ (by omega) (by omega), k2 _ (by omega) (by omega), k2 _ (by omega) (by omega)]; exact e6 e he
      · rw [tolF_congr (fun k hk hk2 => k2 k (by omega) (by omega)) _ (by omega)]; exact e8 e he
    · have ho := (o.2.2.1 n (by omega)).1
      have rn := scR_of_eq jsc (j0 132 (by decide) (by decide) (by decide)) (j0 133 (by decide) (by decide) (by decide)) (r3 n (by omega))
      exact scR_congr (r := row (I 311) (470 + 355 * n)) (fun k hk => k4 k hk) ho.2.2.2.1 ho.2.2.2.2.1 rfl rfl rfl rfl (fun _ _ => rfl) (fun _ _ => rfl) rn
    · rw [k1, nI_clamp (by omega)] at hi
      have hpi := (g2.1 i (by omega)).1
      have ho := (o.2.2.1 i (by omega)).1
      show scR J (9 + 4 * π i) _ _ _
      exact scR_congr (r := row (I 311) (470 + 355 * i)) (fun k hk => k3 _ (by omega)) ho.2.2.2.1 ho.2.2.2.2.1 (j0 _ (by omega) (by omega) (by omega)) (j0 _ (by omega) (by omega) (by omega)) (j0 _ (by omega) (by omega) (by omega)) (j0 _ (by omega) (by omega) (by omega)) (fun j _ => by rw [j0 132 (by decide) (by decide) (by decide)]) (fun j _ => by rw [j0 133 (by decide) (by decide) (by decide)]) (r3 i (by omega))
