theorem e_X7_works {G : gG} {I : gI} {R : gR} {L : gL} {Q : gQ} {r : Int32} (hR : g_Fx R) (h : Go G mX7_works 2 0 0 0 [some (.ref 310), some (.int r)] [] SH I R L Q) : Mt G mX7_works 2 0 0 [.ref 310, .int r] SH I R L Q := by
  refine go_start rfl (Nat.le_of_ble_eq_true rfl) rfl ?_
  exact h
theorem b_X7_works_0 {G : gG} {I : gI} {R : gR} {L : gL} {Q : gQ} {v1 : Int32} (hR : g_Fx R) (h : ((I 310 24) ≤ 0 → Q none SH I R L) ∧ (¬ (I 310 24) ≤ 0 → vp_in ((I 310 24) - 1) 80 ∧ ((¬ (I 324 ((I 310 24) - 1).toNatClampNeg) = (I 310 21) → Q none SH I R L) ∧ ((I 324 ((I 310 24) - 1).toNatClampNeg) = (I 310 21) → vp_in ((I 310 24) - 1) 80 ∧ (((if (I 323 ((I 310 24) - 1).toNatClampNeg) = 407 then 1 else if (I 323 ((I 310 24) - 1).toNatClampNeg) = 406 then 2 else if (I 323 ((I 310 24) - 1).toNatClampNeg) = 43 ∨ (I 323 ((I 310 24) - 1).toNatClampNeg) = 45 then 3 else 4) < v1 → Q none SH I R L) ∧ (¬ (if (I 323 ((I 310 24) - 1).toNatClampNeg) = 407 then 1 else if (I 323 ((I 310 24) - 1).toNatClampNeg) = 406 then 2 else if (I 323 ((I 310 24) - 1).toNatClampNeg) = 43 ∨ (I 323 ((I 310 24) - 1).toNatClampNeg) = 45 then 3 else 4) < v1 → ∀ I_1 : gI, I_1 = up I 310 24 ((I 310 24) - 1) → vp_in (I_1 310 24) 80 ∧ ((vp_in (I_1 310 34) 400) ∧ (∀ I_3 : gI, I_3 = emM I_1 (I_1 323 (I_1 310 24).toNatClampNeg) (0 : Int32) → Go G mX7_works 2 0 0 0 [some (.ref 310), some (.int v1)] [] SH I_3 R L Q)))))))) : Go G mX7_works 2 0 0 0 [some (.ref 310), some (.int v1)] [] SH I R L Q := by
  refine go_aload_n dX7_works_0 rfl ?_
  refine go_getI dX7_works_1 fX7_222 rfl rfl ?_
  refine go_if_le 70 dX7_works_4 (by decide) (fun c => ?_) (fun c => ?_)
  · have h := h.1 c
    exact go_vret dX7_works_70 rfl rfl h
  · have h := h.2 c
    refine go_aload_n dX7_works_7 rfl ?_
    refine go_getR dX7_works_8 fX7_57 rfl rfl (hR 310 26 324 rfl) ?_
    refine go_aload_n dX7_works_11 rfl ?_
    refine go_getI dX7_works_12 fX7_222 rfl rfl ?_
    refine go_iconst (v := 1) dX7_works_15 (by decide) ?_
    refine go_isub dX7_works_16 ?_
    obtain ⟨hi, h⟩ := h
    refine go_iald dX7_works_17 rfl hi ?_
    refine go_aload_n dX7_works_18 rfl ?_
    refine go_getI dX7_works_19 fX7_207 rfl rfl ?_
    refine go_icmp_ne 70 dX7_works_22 (by decide) (fun c => ?_) (fun c => ?_)
    · have h := h.1 c
      exact go_vret dX7_works_70 rfl rfl h
    · have h := h.2 c
      refine go_aload_n dX7_works_25 rfl ?_
      refine go_getR dX7_works_26 fX7_54 rfl rfl (hR 310 25 323 rfl) ?_
      refine go_aload_n dX7_works_29 rfl ?_
      refine go_getI dX7_works_30 fX7_222 rfl rfl ?_
      refine go_iconst (v := 1) dX7_works_33 (by decide) ?_
      refine go_isub dX7_works_34 ?_
      obtain ⟨hi, h⟩ := h
      refine go_iald dX7_works_35 rfl hi ?_
      refine go_callS0 (μ := mX7_works) [.int _] dX7_works_36 YX7_rank lX7_225 rfl (Nat.le_of_ble_eq_true rfl) (Nat.le_of_ble_eq_true rfl) rfl (k_X7_rank hR ?_)
      refine go_iload_n dX7_works_39 rfl ?_
      refine go_icmp_lt 70 dX7_works_40 (by decide) (fun c => ?_) (fun c => ?_)
      · have h := h.1 c
        exact go_vret dX7_works_70 rfl rfl h
      · have h := h.2 c
        refine go_aload_n dX7_works_43 rfl ?_
        refine go_dup dX7_works_44 rfl ?_
        refine go_getI dX7_works_45 fX7_222 rfl rfl ?_
        refine go_iconst (v := 1) dX7_works_48 (by decide) ?_
        refine go_isub dX7_works_49 ?_
        refine go_putI dX7_works_50 fX7_222 rfl rfl rfl rfl ?_
        have h := h _ rfl
        refine go_aload_n dX7_works_53 rfl ?_
        refine go_aload_n dX7_works_54 rfl ?_
        refine go_getR dX7_works_55 fX7_54 rfl rfl (hR 310 25 323 rfl) ?_
        refine go_aload_n dX7_works_58 rfl ?_
        refine go_getI dX7_works_59 fX7_222 rfl rfl ?_
        obtain ⟨hi, h⟩ := h
        refine go_iald dX7_works_62 rfl hi ?_
        refine go_iconst (v := 0) dX7_works_63 (by decide) ?_
        obtain ⟨hp_2, h⟩ := h
        refine go_callV0 (μ := mX7_works) [.int _, .int _] dX7_works_64 YX7_emits lX7_229 rfl ⟨_, rfl, rfl⟩ rfl (Nat.le_of_ble_eq_true rfl) (Nat.le_of_ble_eq_true rfl) rfl (k_X7_emits hR hp_2 ?_)
        have h := h _ rfl
        refine go_goto 0 dX7_works_67 (by decide) ?_
        exact h
theorem e_X7_oneIsOver {G : gG} {I : gI} {R : gR} {L : gL} {Q : gQ} (hR : g_Fx R) (h : Go G mX7_oneIsOver 2 0 0 0 [some (.ref 310)] [] SH I R L Q) : Mt G mX7_oneIsOver 2 0 0 [.ref 310] SH I R L Q := by
  refine go_start rfl (Nat.le_of_ble_eq_true rfl) rfl ?_
  exact h
theorem b_X7_oneIsOver_0 {G : gG} {I : gI} {R : gR} {L : gL} {Q : gQ} (hR : g_Fx R) (h : (vp_in (I 310 21 - 1) 40) ∧ ((¬ I 321 (I 310 21 - 1).toNatClampNeg = 7 → ∀ I_2 : gI, I_2 = up I 310 27 2 → Q none SH I_2 R L) ∧ (I 321 (I 310 21 - 1).toNatClampNeg = 7 → ∀ I_3 : gI, I_3 = up I 310 21 ((I 310 21) - 1) → ∀ I_4 : gI, I_4 = up I_3 310 20 ((I_3 310 20) - 1) → (vp_in (I_4 310 34) 400) ∧ (∀ I_6 : gI, I_6 = emM I_4 (402 : Int32) (0 : Int32) → Go G mX7_oneIsOver 2 0 0 0 [some (.ref 310)] [] SH I_6 R L Q)))) : Go G mX7_oneIsOver 2 0 0 0 [some (.ref 310)] [] SH I R L Q := by
  refine go_aload_n dX7_oneIsOver_0 rfl ?_
  obtain ⟨hp_1, h⟩ := h
  refine go_callV0 (μ := mX7_oneIsOver) [] dX7_oneIsOver_1 YX7_top lX7_258 rfl ⟨_, rfl, rfl⟩ rfl (Nat.le_of_ble_eq_true rfl) (Nat.le_of_ble_eq_true rfl) rfl (k_X7_top hR hp_1 ?_)
  refine go_bipush (v := 7) dX7_oneIsOver_4 (by decide) ?_
  refine go_icmp_ne 40 dX7_oneIsOver_6 (by decide) (fun c => ?_) (fun c => ?_)
  · have h := h.1 c
    refine go_aload_n dX7_oneIsOver_40 rfl ?_
    refine go_iconst (v := 2) dX7_oneIsOver_41 (by decide) ?_
    refine go_putI dX7_oneIsOver_42 fX7_242 rfl rfl rfl rfl ?_
    have h := h _ rfl
    exact go_vret dX7_oneIsOver_45 rfl rfl h
  · have h := h.2 c
    refine go_aload_n dX7_oneIsOver_9 rfl ?_
    refine go_dup dX7_oneIsOver_10 rfl ?_
    refine go_getI dX7_oneIsOver_11 fX7_207 rfl rfl ?_
    refine go_iconst (v := 1) dX7_oneIsOver_14 (by decide) ?_
    refine go_isub dX7_oneIsOver_15 ?_
    refine go_putI dX7_oneIsOver_16 fX7_207 rfl rfl rfl rfl ?_
    have h := h _ rfl
    refine go_aload_n dX7_oneIsOver_19 rfl ?_
    refine go_dup dX7_oneIsOver_20 rfl ?_
    refine go_getI dX7_oneIsOver_21 fX7_210 rfl rfl ?_
    refine go_iconst (v := 1) dX7_oneIsOver_24 (by decide) ?_
    refine go_isub dX7_oneIsOver_25 ?_
    refine go_putI dX7_oneIsOver_26 fX7_210 rfl rfl rfl rfl ?_
    have h := h _ rfl
    refine go_aload_n dX7_oneIsOver_29 rfl ?_
    refine go_sipush (v := 402) dX7_oneIsOver_30 (by decide) ?_
    refine go_iconst (v := 0) dX7_oneIsOver_33 (by decide) ?_
    obtain ⟨hp_5, h⟩ := h
    refine go_callV0 (μ := mX7_oneIsOver) [.int _, .int _] dX7_oneIsOver_34 YX7_emits lX7_229 rfl ⟨_, rfl, rfl⟩ rfl (Nat.le_of_ble_eq_true rfl) (Nat.le_of_ble_eq_true rfl) rfl (k_X7_emits hR hp_5 ?_)
    have h := h _ rfl
    refine go_goto 0 dX7_oneIsOver_37 (by decide) ?_
    exact h
theorem e_X7_askIsOver {G : gG} {I : gI} {R : gR} {L : gL} {Q : gQ} (hR : g_Fx R) (h : Go G mX7_askIsOver 2 0 0 0 [some (.ref 310)] [] SH I R L Q) : Mt G mX7_askIsOver 2 0 0 [.ref 310] SH I R L Q := by
  refine go_start rfl (Nat.le_of_ble_eq_true rfl) rfl ?_
  exact h
theorem b_X7_askIsOver_0 {G : gG} {I : gI} {R : gR} {L : gL} {Q : gQ} (hR : g_Fx R) (h : (vp_in (I 310 21 - 1) 40) ∧ ((¬ I 321 (I 310 21 - 1).toNatClampNeg = 3 → ∀ I_2 : gI, I_2 = up I 310 27 3 → Q none SH I_2 R L) ∧ (I 321 (I 310 21 - 1).toNatClampNeg = 3 → ∀ I_3 : gI, I_3 = up I 310 21 ((I 310 21) - 1) → ∀ I_4 : gI, I_4 = up I_3 310 20 ((I_3 310 20) - 1) → (vp_in (I_4 310 34) 400) ∧ (∀ I_6 : gI, I_6 = emM I_4 (405 : Int32) (0 : Int32) → Go G mX7_askIsOver 2 0 0 0 [some (.ref 310)] [] SH I_6 R L Q)))) : Go G mX7_askIsOver 2 0 0 0 [some (.ref 310)] [] SH I R L Q := by
  refine go_aload_n dX7_askIsOver_0 rfl ?_
  obtain ⟨hp_1, h⟩ := h
  refine go_callV0 (μ := mX7_askIsOver) [] dX7_askIsOver_1 YX7_top lX7_258 rfl ⟨_, rfl, rfl⟩ rfl (Nat.le_of_ble_eq_true rfl) (Nat.le_of_ble_eq_true rfl) rfl (k_X7_top hR hp_1 ?_)
  refine go_iconst (v := 3) dX7_askIsOver_4 (by decide) ?_
  refine go_icmp_ne 39 dX7_askIsOver_5 (by decide) (fun c => ?_) (fun c => ?_)
  · have h := h.1 c
    refine go_aload_n dX7_askIsOver_39 rfl ?_
    refine go_iconst (v := 3) dX7_askIsOver_40 (by decide) ?_
    refine go_putI dX7_askIsOver_41 fX7_242 rfl rfl rfl rfl ?_
    have h := h _ rfl
    exact go_vret dX7_askIsOver_44 rfl rfl h
  · have h := h.2 c
    refine go_aload_n dX7_askIsOver_8 rfl ?_
    refine go_dup dX7_askIsOver_9 rfl ?_
    refine go_getI dX7_askIsOver_10 fX7_207 rfl rfl ?_
    refine go_iconst (v := 1) dX7_askIsOver_13 (by decide) ?_
    refine go_isub dX7_askIsOver_14 ?_
    refine go_putI dX7_askIsOver_15 fX7_207 rfl rfl rfl rfl ?_
    have h := h _ rfl
    refine go_aload_n dX7_askIsOver_18 rfl ?_
    refine go_dup dX7_askIsOver_19 rfl ?_
    refine go_getI dX7_askIsOver_20 fX7_210 rfl rfl ?_
    refine go_iconst (v := 1) dX7_askIsOver_23 (by decide) ?_
    refine go_isub dX7_askIsOver_24 ?_
    refine go_putI dX7_askIsOver_25 fX7_210 rfl rfl rfl rfl ?_
    have h := h _ rfl
    refine go_aload_n dX7_askIsOver_28 rfl ?_
    refine go_sipush (v := 405) dX7_askIsOver_29 (by decide) ?_
    refine go_iconst (v := 0) dX7_askIsOver_32 (by decide) ?_
    obtain ⟨hp_5, h⟩ := h
    refine go_callV0 (μ := mX7_askIsOver) [.int _, .int _] dX7_askIsOver_33 YX7_emits lX7_229 rfl ⟨_, rfl, rfl⟩ rfl (Nat.le_of_ble_eq_true rfl) (Nat.le_of_ble_eq_true rfl) rfl (k_X7_emits hR hp_5 ?_)
    have h := h _ rfl
    refine go_goto 0 dX7_askIsOver_36 (by decide) ?_
    exact h
/-! the plain form's frames F, what waits in it (order, frame), what it has put out (order, value), how many are open -/
def mK (I : gI) (F : List Nat) (Wt out : List (Nat × Nat)) (op : Nat) : Prop := (I 310 21 = nI F.length ∧ stN (I 321) F) ∧ (I 310 24 = nI Wt.length ∧ stN (I 323) (Wt.map (·.1)) ∧ stN (I 324) (Wt.map (·.2))) ∧ I 310 20 = nI op ∧ I 310 34 = nI out.length ∧ lsN (I 329) (out.map (·.1)) ∧ lsN (I 330) (out.map (·.2))
def frN (I I' : gI) : Prop := (∀ c, c ≠ 310 → c ≠ 321 → c ≠ 323 → c ≠ 324 → c ≠ 329 → c ≠ 330 → I' c = I c) ∧ ∀ j, j ≠ 20 → j ≠ 21 → j ≠ 24 → j ≠ 27 → j ≠ 34 → I' 310 j = I 310 j
theorem frN.refl (I : gI) : frN I I := ⟨fun _ _ _ _ _ _ _ => rfl, fun _ _ _ _ _ _ => rfl⟩
theorem frN.trans {I J K : gI} (h : frN I J) (g : frN J K) : frN I K := ⟨fun c a b d e f i => (g.1 c a b d e f i).trans (h.1 c a b d e f i), fun j a b d e f => (g.2 j a b d e f).trans (h.2 j a b d e f)⟩
theorem frN_up {I J : gI} {c j : Nat} {x : Int32} (h : frN I J) (hc : (c = 310 ∧ (j = 20 ∨ j = 21 ∨ j = 24 ∨ j = 27 ∨ j = 34)) ∨ c = 321 ∨ c = 323 ∨ c = 324 ∨ c = 329 ∨ c = 330) : frN I (up J c j x) := by
  refine ⟨fun a b d e f g i => ?_, fun k b d e f g => ?_⟩
  · rw [up_off a (by omega)]; exact h.1 a b d e f g i
  · rw [up_ne (by omega)]; exact h.2 k b d e f g
theorem mK_up {I : gI} {F : List Nat} {Wt out : List (Nat × Nat)} {op j : Nat} {x : Int32} (h : mK I F Wt out op) (h1 : j ≠ 20) (h2 : j ≠ 21) (h3 : j ≠ 24) (h4 : j ≠ 34) : mK (up I 310 j x) F Wt out op := by
  obtain ⟨⟨a1, a2⟩, ⟨b1, b2, b3⟩, c1, d1, d2, d3⟩ := h
  exact ⟨⟨by rw [up_ni (Ne.symm h2)]; exact a1, stN_of (fun k _ => up_nc (by decide)) a2⟩, ⟨by rw [up_ni (Ne.symm h3)]; exact b1, stN_of (fun k _ => up_nc (by decide)) b2, stN_of (fun k _ => up_nc (by decide)) b3⟩, by rw [up_ni (Ne.symm h1)]; exact c1, by rw [up_ni (Ne.symm h4)]; exact d1, lsN_of (fun k _ => up_nc (by decide)) d2, lsN_of (fun k _ => up_nc (by decide)) d3⟩
theorem mK_em {I : gI} {F : List Nat} {Wt out : List (Nat × Nat)} {op o v : Nat} (h : mK I F Wt out op) (ho : out.length < 400) : mK (emM I (nI o) (nI v)) F Wt (out ++ [(o, v)]) op ∧ frN I (emM I (nI o) (nI v)) := by
  obtain ⟨⟨a1, a2⟩, ⟨b1, b2, b3⟩, c1, d1, d2, d3⟩ := h
  have e : emM I (nI o) (nI v) = up (up (up I 329 out.length (nI o)) 330 out.length (nI v)) 310 34 (nI (out.length + 1)) := by
    unfold emM
    simp only
    rw [d1, nI_clamp (by omega), up_nc (by decide), d1, nI_clamp (by omega), up_nc (by decide), up_nc (by decide), d1, nI_1]
  rw [e]
  refine ⟨⟨⟨?_, stN_of (fun k _ => ?_) a2⟩, ⟨?_, stN_of (fun k _ => ?_) b2, stN_of (fun k _ => ?_) b3⟩, ?_, ?_, ?_, ?_⟩, frN_up (frN_up (frN_up (frN.refl _) (by omega)) (by omega)) (by omega)⟩
  · rw [up_ni (by decide), up_nc (by decide), up_nc (by decide)]; exact a1
  · rw [up_nc (by decide), up_nc (by decide), up_nc (by decide)]
  · rw [up_ni (by decide), up_nc (by decide), up_nc (by decide)]; exact b1
  · rw [up_nc (by decide), up_nc (by decide), up_nc (by decide)]
  · rw [up_nc (by decide), up_nc (by decide), up_nc (by decide)]
  · rw [up_ni (by decide), up_nc (by decide), up_nc (by decide)]; exact c1
  · rw [up_eq]; simp
  · rw [List.map_append]
    refine lsN_snoc (fun j hj => ?_) ?_ d2
    · rw [List.length_map] at hj
      rw [up_nc (by decide), up_nc (by decide), up_ni (by omega)]
    · rw [List.length_map, up_nc (by decide), up_nc (by decide), up_eq]
  · rw [List.map_append]
    refine lsN_snoc (fun j hj => ?_) ?_ d3
    · rw [List.length_map] at hj
      rw [up_nc (by decide), up_ni (by omega), up_nc (by decide)]
    · rw [List.length_map, up_nc (by decide), up_eq]
/-- a frame is opened -/
theorem mK_opF {I : gI} {F : List Nat} {Wt out : List (Nat × Nat)} {op f : Nat} (h : mK I F Wt out op) (hF : F.length < 40) : mK (opF I (nI f)) (f :: F) Wt out op ∧ frN I (opF I (nI f)) := by
  obtain ⟨⟨a1, a2⟩, ⟨b1, b2, b3⟩, c1, d1, d2, d3⟩ := h
  have e : opF I (nI f) = up (up I 321 F.length (nI f)) 310 21 (nI (F.length + 1)) := by
    unfold opF
    simp only
    rw [a1, nI_clamp (by omega), up_nc (by decide), a1, nI_1]
  rw [e]
  refine ⟨⟨⟨?_, ?_, stN_of (fun k hk => ?_) a2⟩, ⟨?_, stN_of (fun k _ => ?_) b2, stN_of (fun k _ => ?_) b3⟩, ?_, ?_, lsN_of (fun k _ => ?_) d2, lsN_of (fun k _ => ?_) d3⟩, frN_up (frN_up (frN.refl _) (by omega)) (by omega)⟩
  · rw [up_eq]; rfl
  · rw [up_nc (by decide), up_eq]
  · rw [up_nc (by decide), up_ni (by omega)]
  · rw [up_ni (by decide), up_nc (by decide)]; exact b1
  · rw [up_nc (by decide), up_nc (by decide)]
  · rw [up_nc (by decide), up_nc (by decide)]
  · rw [up_ni (by decide), up_nc (by decide)]; exact c1
  · rw [up_ni (by decide), up_nc (by decide)]; exact d1
  · rw [up_nc (by decide), up_nc (by decide)]
  · rw [up_nc (by decide), up_nc (by decide)]
/-- a frame is closed, with what was open -/
theorem mK_cl {I : gI} {F : List Nat} {Wt out : List (Nat × Nat)} {op f : Nat} (h : mK I (f :: F) Wt out (op + 1)) : mK (up (up I 310 21 (I 310 21 - 1)) 310 20 (up I 310 21 (I 310 21 - 1) 310 20 - 1)) F Wt out op ∧ frN I (up (up I 310 21 (I 310 21 - 1)) 310 20 (up I 310 21 (I 310 21 - 1) 310 20 - 1)) := by
  obtain ⟨⟨a1, a2⟩, ⟨b1, b2, b3⟩, c1, d1, d2, d3⟩ := h
  rw [up_ni (by decide), a1, c1, List.length_cons, nI_pred, nI_pred]
  refine ⟨⟨⟨?_, stN_of (fun k hk => ?_) a2.2⟩, ⟨?_, stN_of (fun k _ => ?_) b2, stN_of (fun k _ => ?_) b3⟩, ?_, ?_, lsN_of (fun k _ => ?_) d2, lsN_of (fun k _ => ?_) d3⟩, frN_up (frN_up (frN.refl _) (by omega)) (by omega)⟩
  · rw [up_ni (by decide), up_eq]
  · rw [up_nc (by decide), up_nc (by decide)]
  · rw [up_ni (by decide), up_ni (by decide)]; exact b1
  · rw [up_nc (by decide), up_nc (by decide)]
  · rw [up_nc (by decide), up_nc (by decide)]
  · rw [up_eq]
  · rw [up_ni (by decide), up_ni (by decide)]; exact d1
  · rw [up_nc (by decide), up_nc (by decide)]
  · rw [up_nc (by decide), up_nc (by decide)]
def rkO (o : Nat) : Nat := if o = 407 then 1 else if o = 406 then 2 else if o = 43 ∨ o = 45 then 3 else 4
def rkI (o : Int32) : Int32 := if o = 407 then 1 else if o = 406 then 2 else if o = 43 ∨ o = 45 then 3 else 4
theorem rk_i {o : Nat} (h : o < 500) : rkI (nI o) = nI (rkO o) := by
  have e1 : nI o = 407 ↔ o = 407 := nI_eq (b := 407) (by omega) (by decide)
  have e2 : nI o = 406 ↔ o = 406 := nI_eq (b := 406) (by omega) (by decide)
  have e3 : nI o = 43 ↔ o = 43 := nI_eq (b := 43) (by omega) (by decide)
  have e4 : nI o = 45 ↔ o = 45 := nI_eq (b := 45) (by omega) (by decide)
  unfold rkI rkO
  simp only [e1, e2, e3, e4]
  repeat' split <;> first | rfl | skip
def wpP (r f : Nat) (w : Nat × Nat) : Bool := decide (w.2 = f ∧ r ≤ rkO w.1)
theorem k_X7_works {G : gG} {I : gI} {R : gR} {L : gL} {Q : gQ} {F : List Nat} {Wt out : List (Nat × Nat)} {op r : Nat} (hR : g_Fx R) (h : mK I F Wt out op) (hW : Wt.length ≤ 80) (hw : ∀ w ∈ Wt, w.1 < 500 ∧ w.2 < 100) (hF : F.length < 100) (ho : out.length + Wt.length ≤ 400) (hr : r < 10)
    (hq : ∀ I', mK I' F (Wt.dropWhile (wpP r F.length)) (out ++ (Wt.takeWhile (wpP r F.length)).map (fun w => (w.1, 0))) op → frN I I' → Q none SH I' R L) : Mt G mX7_works 2 0 0 [.ref 310, .int (nI r)] SH I R L Q := by
  refine e_X7_works hR ?_
  have main : ∀ (Wt : List (Nat × Nat)) (J : gI) (o : List (Nat × Nat)), mK J F Wt o op → Wt.length ≤ 80 → (∀ w ∈ Wt, w.1 < 500 ∧ w.2 < 100) → o.length + Wt.length ≤ 400 → (∀ I', mK I' F (Wt.dropWhile (wpP r F.length)) (o ++ (Wt.takeWhile (wpP r F.length)).map (fun w => (w.1, 0))) op → frN J I' → Q none SH I' R L) → Go G mX7_works 2 0 0 0 [some (.ref 310), some (.int (nI r))] [] SH J R L Q := by
    intro Wt
    induction Wt with
    | nil =>
      intro J o h _ _ _ hq
      refine b_X7_works_0 hR ?_
      rw [h.2.1.1]
      exact ⟨fun _ => hq J (by simpa using h) (frN.refl _), fun c => absurd (by decide) c⟩
    | cons w Wt ih =>
      intro J o h hW hw ho hq
      rw [List.length_cons] at hW ho
      obtain ⟨w1, w2⟩ := hw w (by simp)
      have hrk : rkO w.1 ≤ 4 := by unfold rkO; repeat' split <;> first | omega | skip
      have stop : wpP r F.length w = false → Q none SH J R L := fun e => hq J (by simpa [List.dropWhile_cons, List.takeWhile_cons, e] using h) (frN.refl _)
      have h23 : J 323 Wt.length = nI w.1 := by have := h.2.1.2.1.1; rwa [List.length_map] at this
      have h24 : J 324 Wt.length = nI w.2 := by have := h.2.1.2.2.1; rwa [List.length_map] at this
      refine b_X7_works_0 hR ?_
      rw [h.2.1.1, List.length_cons, nI_pred, nI_clamp (by omega), h23, h24, h.1.1, nI_eq (by omega) (by omega)]
      refine ⟨fun c => absurd c (nI_nle (by omega) (by omega)), fun _ => ⟨vp_in_nI (by omega) (by decide), fun c => stop (by simp [wpP, c]), fun c => ⟨vp_in_nI (by omega) (by decide), ?_⟩⟩⟩
      show (rkI (nI w.1) < nI r → _) ∧ (¬ rkI (nI w.1) < nI r → _)
      rw [rk_i w1, nltI (by omega) (by omega)]
      refine ⟨fun c2 => stop (by simp [wpP]; omega), fun c2 => ?_⟩
      rintro _ rfl
      have hP : wpP r F.length w = true := by simp [wpP]; omega
      have k0 : mK (up J 310 24 (nI Wt.length)) F Wt o op := by
        obtain ⟨⟨a1, a2⟩, ⟨b1, b2, b3⟩, c1, d1, d2, d3⟩ := h
        exact ⟨⟨by rw [up_ni (by decide)]; exact a1, stN_of (fun k _ => up_nc (by decide)) a2⟩, ⟨up_eq _ _ _ _, stN_of (fun k _ => up_nc (by decide)) b2.2, stN_of (fun k _ => up_nc (by decide)) b3.2⟩, by rw [up_ni (by decide)]; exact c1, by rw [up_ni (by decide)]; exact d1, lsN_of (fun k _ => up_nc (by decide)) d2, lsN_of (fun k _ => up_nc (by decide)) d3⟩
      rw [up_eq, nI_clamp (by omega), k0.2.2.2.1, up_nc (by decide), h23]
      refine ⟨vp_in_nI (by omega) (by decide), vp_in_nI (by omega) (by decide), ?_⟩
      rintro _ rfl
      have k1 := mK_em (o := w.1) (v := 0) k0 (by omega)
      refine ih _ _ k1.1 (by omega) (fun z hz => hw z (by simp [hz])) (by simp; omega) (fun I' g1 g2 => hq I' ?_ (((frN_up (frN.refl _) (by omega)).trans k1.2).trans g2))
      simpa [List.dropWhile_cons, List.takeWhile_cons, hP] using g1
  exact main Wt I out h hW hw ho hq
theorem k_X7_oneIsOver {G : gG} {I : gI} {R : gR} {L : gL} {Q : gQ} {F : List Nat} {Wt out : List (Nat × Nat)} {op j : Nat} (hR : g_Fx R) (h : mK I (List.replicate j 7 ++ F) Wt out (op + j)) (hF : j + F.length ≤ 40) (hne : ∃ f F', F = f :: F' ∧ f ≠ 7 ∧ f < 10) (ho : out.length + j ≤ 400)
    (hq : ∀ I', mK I' F Wt (out ++ List.replicate j (402, 0)) op → frN I I' → Q none SH (up I' 310 27 2) R L) : Mt G mX7_oneIsOver 2 0 0 [.ref 310] SH I R L Q := by
  refine e_X7_oneIsOver hR ?_
  obtain ⟨f, F', rfl, hf, hf2⟩ := hne
  rw [List.length_cons] at hF
  have main : ∀ (j : Nat) (J : gI) (o : List (Nat × Nat)), mK J (List.replicate j 7 ++ f :: F') Wt o (op + j) → j + (F'.length + 1) ≤ 40 → o.length + j ≤ 400 → (∀ I', mK I' (f :: F') Wt (o ++ List.replicate j (402, 0)) op → frN J I' → Q none SH (up I' 310 27 2) R L) → Go G mX7_oneIsOver 2 0 0 0 [some (.ref 310)] [] SH J R L Q := by
    intro j
    induction j with
    | zero =>
      intro J o h hF ho hq
      have h : mK J (f :: F') Wt o op := h
      have ef : nI f = 7 ↔ f = 7 := nI_eq (b := 7) (by omega) (by decide)
      refine b_X7_oneIsOver_0 hR ?_
      rw [h.1.1, List.length_cons, nI_pred, nI_clamp (by omega), h.1.2.1, ef]
      refine ⟨vp_in_nI (by omega) (by decide), fun _ => ?_, fun c => absurd c hf⟩
      rintro _ rfl
      exact hq J (by simpa using h) (frN.refl _)
    | succ j ih =>
      intro J o h hF ho hq
      have h : mK J (7 :: (List.replicate j 7 ++ f :: F')) Wt o (op + j + 1) := h
      have hl : (List.replicate j 7 ++ f :: F').length = j + (F'.length + 1) := by simp
      refine b_X7_oneIsOver_0 hR ?_
      have e7 : J 321 (J 310 21 - 1).toNatClampNeg = 7 := by rw [h.1.1, List.length_cons, nI_pred, nI_clamp (by omega), h.1.2.1]; rfl
      rw [e7]
      refine ⟨by rw [h.1.1, List.length_cons, nI_pred]; exact vp_in_nI (by omega) (by decide), fun c => absurd rfl c, fun _ => ?_⟩
      rintro _ rfl _ rfl
      have k1 := mK_cl h
      refine ⟨by rw [k1.1.2.2.2.1]; exact vp_in_nI (by omega) (by decide), ?_⟩
      rintro _ rfl
      have k2 := mK_em (o := 402) (v := 0) k1.1 (by omega)
      refine ih _ _ k2.1 (by omega) (by simp; omega) (fun I' g1 g2 => hq I' ?_ ((k1.2.trans k2.2).trans g2))
      simpa [List.replicate_succ] using g1
  exact main j I out h hF ho hq
theorem k_X7_askIsOver {G : gG} {I : gI} {R : gR} {L : gL} {Q : gQ} {F : List Nat} {Wt out : List (Nat × Nat)} {op j : Nat} (hR : g_Fx R) (h : mK I (List.replicate j 3 ++ F) Wt out (op + j)) (hF : j + F.length ≤ 40) (hne : ∃ f F', F = f :: F' ∧ f ≠ 3 ∧ f < 10) (ho : out.length + j ≤ 400)
    (hq : ∀ I', mK I' F Wt (out ++ List.replicate j (405, 0)) op → frN I I' → Q none SH (up I' 310 27 3) R L) : Mt G mX7_askIsOver 2 0 0 [.ref 310] SH I R L Q := by
  refine e_X7_askIsOver hR ?_
  obtain ⟨f, F', rfl, hf, hf2⟩ := hne
  rw [List.length_cons] at hF
  have main : ∀ (j : Nat) (J : gI) (o : List (Nat × Nat)), mK J (List.replicate j 3 ++ f :: F') Wt o (op + j) → j + (F'.length + 1) ≤ 40 → o.length + j ≤ 400 → (∀ I', mK I' (f :: F') Wt (o ++ List.replicate j (405, 0)) op → frN J I' → Q none SH (up I' 310 27 3) R L) → Go G mX7_askIsOver 2 0 0 0 [some (.ref 310)] [] SH J R L Q := by
    intro j
    induction j with
    | zero =>
      intro J o h hF ho hq
      have h : mK J (f :: F') Wt o op := h
      have ef : nI f = 3 ↔ f = 3 := nI_eq (b := 3) (by omega) (by decide)
      refine b_X7_askIsOver_0 hR ?_
      rw [h.1.1, List.length_cons, nI_pred, nI_clamp (by omega), h.1.2.1, ef]
      refine ⟨vp_in_nI (by omega) (by decide), fun _ => ?_, fun c => absurd c hf⟩
      rintro _ rfl
      exact hq J (by simpa using h) (frN.refl _)
    | succ j ih =>
      intro J o h hF ho hq
      have h : mK J (3 :: (List.replicate j 3 ++ f :: F')) Wt o (op + j + 1) := h
      have hl : (List.replicate j 3 ++ f :: F').length = j + (F'.length + 1) := by simp
      refine b_X7_askIsOver_0 hR ?_
      have e7 : J 321 (J 310 21 - 1).toNatClampNeg = 3 := by rw [h.1.1, List.length_cons, nI_pred, nI_clamp (by omega), h.1.2.1]; rfl
      rw [e7]
      refine ⟨by rw [h.1.1, List.length_cons, nI_pred]; exact vp_in_nI (by omega) (by decide), fun c => absurd rfl c, fun _ => ?_⟩
      rintro _ rfl _ rfl
      have k1 := mK_cl h
      refine ⟨by rw [k1.1.2.2.2.1]; exact vp_in_nI (by omega) (by decide), ?_⟩
      rintro _ rfl
      have k2 := mK_em (o := 405) (v := 0) k1.1 (by omega)
      refine ih _ _ k2.1 (by omega) (by simp; omega) (fun I' g1 g2 => hq I' ?_ ((k1.2.trans k2.2).trans g2))
      simpa [List.replicate_succ] using g1
  exact main j I out h hF ho hq
