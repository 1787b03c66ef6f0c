theorem frs_of {n : Nat} {I I' : gI} {R R' : gR} {L : gL} (h : frs n I R L) (hi : ∀ a, n ≤ a → I' a = I a) (hr : ∀ a, n ≤ a → R' a = R a) : frs n I' R' L := fun a ha => by
  rw [hi a ha, hr a ha]; exact h a ha
theorem c_wipe {G : gG} {S : gS} {I : gI} {R : gR} {L : gL} {Q : gQ} {b : Nat} (h0 : S[b]? = some (0, 2)) (h2 : S[b + 2]? = some (1, 3)) (h3 : S[b + 3]? = some (1, 3)) (r2 : R b 2 = some (b + 2)) (r3 : R b 3 = some (b + 3)) (hq : ∀ I', (∀ a, a ≠ b → a ≠ b + 2 → a ≠ b + 3 → I' a = I a) → Q none S I' R L) : Mt G mX2_wipe 1 0 0 [.ref b] S I R L Q := by
  refine go_start rfl (Nat.le_of_ble_eq_true rfl) rfl ?_
  refine go_aload_n dX2_wipe_0 rfl ?_
  refine go_iconst (v := 0) dX2_wipe_1 (by decide) ?_
  refine go_putI dX2_wipe_2 fX2_33 rfl rfl rfl h0 ?_
  refine go_aload_n dX2_wipe_5 rfl ?_
  refine go_iconst (v := 0) dX2_wipe_6 (by decide) ?_
  refine go_putI dX2_wipe_7 fX2_37 rfl rfl rfl h0 ?_
  refine go_iconst (v := 0) dX2_wipe_10 (by decide) ?_
  refine go_istore_n dX2_wipe_11 (Nat.le_of_ble_eq_true rfl) rfl ?_
  have main : ∀ (m k : Nat) (J : gI), k + m = 3 → (∀ a, a ≠ b → a ≠ b + 2 → a ≠ b + 3 → J a = I a) → Go G mX2_wipe 1 0 0 12 [some (.ref b), some (.int (nI k))] [] S J R L Q := by
    intro m
    induction m with
    | zero =>
      intro k J hk hj
      refine go_iload_n dX2_wipe_12 rfl ?_
      refine go_iconst (v := 2) dX2_wipe_13 (by decide) ?_
      refine go_icmp_gt 37 dX2_wipe_14 (by decide) (fun c => ?_) (fun c => absurd (nI_lt (a := 2) (by omega) (by omega)) c)
      exact go_vret dX2_wipe_37 rfl rfl (hq J hj)
    | succ m ih =>
      intro k J hk hj
      refine go_iload_n dX2_wipe_12 rfl ?_
      refine go_iconst (v := 2) dX2_wipe_13 (by decide) ?_
      refine go_icmp_gt 37 dX2_wipe_14 (by decide) (fun c => absurd c (nI_nlt (a := 2) (by omega) (by omega))) (fun c => ?_)
      refine go_aload_n dX2_wipe_17 rfl ?_
      refine go_getR dX2_wipe_18 fX2_15 rfl h0 r2 ?_
      refine go_iload_n dX2_wipe_21 rfl ?_
      refine go_iconst (v := -1) dX2_wipe_22 (by decide) ?_
      refine go_iast dX2_wipe_23 h2 (vp_in_nI (by omega) (by decide)) ?_
      refine go_aload_n dX2_wipe_24 rfl ?_
      refine go_getR dX2_wipe_25 fX2_18 rfl h0 r3 ?_
      refine go_iload_n dX2_wipe_28 rfl ?_
      refine go_iconst (v := -1) dX2_wipe_29 (by decide) ?_
      refine go_iast dX2_wipe_30 h3 (vp_in_nI (by omega) (by decide)) ?_
      refine go_iinc dX2_wipe_31 rfl (Nat.le_of_ble_eq_true rfl) rfl ?_
      refine go_goto 12 dX2_wipe_34 (by decide) ?_
      rw [show nI k + Int32.ofInt 1 = nI (k + 1) from nI_1 k]
      exact ih (k + 1) _ (by omega) (fun a a1 a2 a3 => by rw [up_off a a3, up_off a a2]; exact hj a a1 a2 a3)
  exact main 3 0 _ (by omega) (fun a a1 _ _ => by rw [up_off a a1, up_off a a1])
def laS : gS := [(1, 300), (1, 3), (1, 3), (1, 24), (1, 24), (1, 24)]
def laF (b : Nat) (R' : gR) : Prop := R' b 0 = some (b + 1) ∧ R' b 2 = some (b + 2) ∧ R' b 3 = some (b + 3) ∧ R' b 4 = some (b + 4) ∧ R' b 5 = some (b + 5) ∧ R' b 6 = some (b + 6)
theorem c_X2 {G : gG} {S : gS} {I : gI} {R : gR} {L : gL} {Q : gQ} {b : Nat} (hS : S.length = b + 1) (hb : S[b]? = some (0, 2)) (hf : frs (b + 1) I R L) (hq : ∀ I' R', (∀ a, a < b → I' a = I a) → (∀ a, a ≠ b → R' a = R a) → laF b R' → frs (b + 7) I' R' L → Q none (S ++ laS) I' R' L) : Mt G mX2_init 2 6 378 [.ref b] S I R L Q := by
  refine go_start rfl (Nat.le_of_ble_eq_true rfl) rfl ?_
  refine go_aload_n dX2_init_0 rfl ?_
  refine go_objInit dX2_init_1 lX2_3 ns_obj nc_obj (Nat.le_of_ble_eq_true rfl) (Nat.le_of_ble_eq_true rfl) ?_
  refine go_aload_n dX2_init_4 rfl ?_
  refine go_sipush (v := 300) dX2_init_5 (by decide) ?_
  refine go_newI' (N := 300) (q := (b + 1)) (rc := 5) (rs := 78) dX2_init_8 na_int (by decide) rfl (by decide) hS hf ?_
  have hf := frs_s hf
  refine go_putF dX2_init_10 fX2_9 rfl (fun z => ⟨rfl, rfl⟩) rfl (fun r h => by cases h; rfl) (at_l hb) ?_
  have hf := frs_upR (c := b) (i := 0) (x := some (b + 1)) hf (by omega)
  refine go_aload_n dX2_init_13 rfl ?_
  refine go_iconst (v := 3) dX2_init_14 (by decide) ?_
  refine go_newI' (N := 3) (q := (b + 2)) (rc := 4) (rs := 75) dX2_init_15 na_int (by decide) rfl (by decide) (len_s hS) hf ?_
  have hf := frs_s hf
  refine go_putF dX2_init_17 fX2_15 rfl (fun z => ⟨rfl, rfl⟩) rfl (fun r h => by cases h; rfl) (at_l (at_l hb)) ?_
  have hf := frs_upR (c := b) (i := 2) (x := some (b + 2)) hf (by omega)
  refine go_aload_n dX2_init_20 rfl ?_
  refine go_iconst (v := 3) dX2_init_21 (by decide) ?_
  refine go_newI' (N := 3) (q := (b + 3)) (rc := 3) (rs := 72) dX2_init_22 na_int (by decide) rfl (by decide) (len_s (len_s hS)) hf ?_
  have hf := frs_s hf
  refine go_putF dX2_init_24 fX2_18 rfl (fun z => ⟨rfl, rfl⟩) rfl (fun r h => by cases h; rfl) (at_l (at_l (at_l hb))) ?_
  have hf := frs_upR (c := b) (i := 3) (x := some (b + 3)) hf (by omega)
  refine go_aload_n dX2_init_27 rfl ?_
  refine go_bipush (v := 24) dX2_init_28 (by decide) ?_
  refine go_newI' (N := 24) (q := (b + 4)) (rc := 2) (rs := 48) dX2_init_30 na_int (by decide) rfl (by decide) (len_s (len_s (len_s hS))) hf ?_
  have hf := frs_s hf
  refine go_putF dX2_init_32 fX2_21 rfl (fun z => ⟨rfl, rfl⟩) rfl (fun r h => by cases h; rfl) (at_l (at_l (at_l (at_l hb)))) ?_
  have hf := frs_upR (c := b) (i := 4) (x := some (b + 4)) hf (by omega)
  refine go_aload_n dX2_init_35 rfl ?_
  refine go_bipush (v := 24) dX2_init_36 (by decide) ?_
  refine go_newI' (N := 24) (q := (b + 5)) (rc := 1) (rs := 24) dX2_init_38 na_int (by decide) rfl (by decide) (len_s (len_s (len_s (len_s hS)))) hf ?_
  have hf := frs_s hf
  refine go_putF dX2_init_40 fX2_24 rfl (fun z => ⟨rfl, rfl⟩) rfl (fun r h => by cases h; rfl) (at_l (at_l (at_l (at_l (at_l hb))))) ?_
  have hf := frs_upR (c := b) (i := 5) (x := some (b + 5)) hf (by omega)
  refine go_aload_n dX2_init_43 rfl ?_
  refine go_bipush (v := 24) dX2_init_44 (by decide) ?_
  refine go_newI' (N := 24) (q := (b + 6)) (rc := 0) (rs := 0) dX2_init_46 na_int (by decide) rfl (by decide) (len_s (len_s (len_s (len_s (len_s hS))))) hf ?_
  have hf := frs_s hf
  refine go_putF dX2_init_48 fX2_27 rfl (fun z => ⟨rfl, rfl⟩) rfl (fun r h => by cases h; rfl) (at_l (at_l (at_l (at_l (at_l (at_l hb)))))) ?_
  have hf := frs_upR (c := b) (i := 6) (x := some (b + 6)) hf (by omega)
  refine go_aload_n dX2_init_51 rfl ?_
  refine go_callV (μ := mX2_init) (ci := 2) (dd := 1) (rc := 0) (rs := 0) (rc2 := 0) (rs2 := 0) [] dX2_init_52 YX2_wipe lX2_30 (at_l (at_l (at_l (at_l (at_l (at_l hb)))))) ⟨_, rfl, rfl⟩ rfl (Nat.le_of_ble_eq_true rfl) (Nat.le_of_ble_eq_true rfl) rfl (c_wipe (at_l (at_l (at_l (at_l (at_l (at_l hb)))))) (at_l (at_l (at_l (at_l (at_n (len_s hS)))))) (at_l (at_l (at_l (at_n (len_s (len_s hS)))))) (by simp [upR]) (by simp [upR]) (fun I' hi => ?_))
  refine go_vret dX2_init_55 rfl rfl ?_
  rw [show S ++ [(1, 300)] ++ [(1, 3)] ++ [(1, 3)] ++ [(1, 24)] ++ [(1, 24)] ++ [(1, 24)] = S ++ laS by simp [laS]]
  refine hq _ _ (fun a ha => hi a (by omega) (by omega) (by omega)) (fun a ha => by rw [upR_off a ha, upR_off a ha, upR_off a ha, upR_off a ha, upR_off a ha, upR_off a ha]) ⟨?_, ?_, ?_, ?_, ?_, ?_⟩ (frs_of hf (fun a ha => hi a (by omega) (by omega) (by omega)) (fun a ha => rfl)) <;> simp [upR]
def reS : gS := [(1, 300), (1, 64)]
theorem c_X3 {G : gG} {S : gS} {I : gI} {R : gR} {L : gL} {Q : gQ} {b : Nat} (hS : S.length = b + 1) (hb : S[b]? = some (0, 3)) (hf : frs (b + 1) I R L) (hq : ∀ R', (∀ a, a ≠ b → R' a = R a) → R' b 0 = some (b + 1) → R' b 9 = some (b + 2) → frs (b + 3) I R' L → Q none (S ++ reS) I R' L) : Mt G mX3_init 2 2 364 [.ref b] S I R L Q := by
  refine go_start rfl (Nat.le_of_ble_eq_true rfl) rfl ?_
  refine go_aload_n dX3_init_0 rfl ?_
  refine go_objInit dX3_init_1 lX3_3 ns_obj nc_obj (Nat.le_of_ble_eq_true rfl) (Nat.le_of_ble_eq_true rfl) ?_
  refine go_aload_n dX3_init_4 rfl ?_
  refine go_sipush (v := 300) dX3_init_5 (by decide) ?_
  refine go_newI' (N := 300) (q := (b + 1)) (rc := 1) (rs := 64) dX3_init_8 na_int (by decide) rfl (by decide) hS hf ?_
  have hf := frs_s hf
  refine go_putF dX3_init_10 fX3_9 rfl (fun z => ⟨rfl, rfl⟩) rfl (fun r h => by cases h; rfl) (at_l hb) ?_
  have hf := frs_upR (c := b) (i := 0) (x := some (b + 1)) hf (by omega)
  refine go_aload_n dX3_init_13 rfl ?_
  refine go_bipush (v := 64) dX3_init_14 (by decide) ?_
  refine go_newI' (N := 64) (q := (b + 2)) (rc := 0) (rs := 0) dX3_init_16 na_int (by decide) rfl (by decide) (len_s hS) hf ?_
  have hf := frs_s hf
  refine go_putF dX3_init_18 fX3_15 rfl (fun z => ⟨rfl, rfl⟩) rfl (fun r h => by cases h; rfl) (at_l (at_l hb)) ?_
  have hf := frs_upR (c := b) (i := 9) (x := some (b + 2)) hf (by omega)
  refine go_vret dX3_init_21 rfl rfl ?_
  rw [show S ++ [(1, 300)] ++ [(1, 64)] = S ++ reS by simp [reS]]
  exact hq _ (fun a ha => by rw [upR_off a ha, upR_off a ha]) (by simp [upR]) (by simp [upR]) hf
