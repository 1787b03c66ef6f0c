theorem law_start {G : gG} {Q : gQ} (hb : G.2.2.2.2.1 ≤ 3072) (hq : ∀ I R L, Q (some (.int 1)) SH I R L) : Go G mL_law 40 340 32210 0 [some (.float 0), none, none, none] [] [] (fun _ _ => 0) (fun _ _ => none) (fun _ _ => 0) Q := by
  have hf : frs 0 (fun _ _ => 0) (fun _ _ => none) (fun _ _ => 0) := fun a _ => ⟨fun _ => rfl, fun _ => rfl, fun _ => rfl⟩
  refine go_new' (ci := 6) (N := 10) (q := 0) (rc := 339) (rs := 32200) dL_law_0 ⟨_, rfl⟩ nL_7 nw_X6 ni_X6 df6 rfl hf ?_
  refine go_dup dL_law_3 rfl ?_
  refine go_callI (μ := mL_law) (dd := 6) (rc := 30) (rs := 27564) (rc2 := 309) (rs2 := 4636) [] dL_law_4 YX6_init lL_9 rfl (Nat.le_of_ble_eq_true rfl) (Nat.le_of_ble_eq_true rfl) rfl (c_X6 (b := 0) rfl rfl (frs_s hf) (fun I1 R1 n1 hf1 => ?_))
  refine go_astore_n dL_law_7 (Nat.le_of_ble_eq_true rfl) rfl ?_
  have hS1 : ([] ++ [(0, 6)] ++ spmS : gS).length = 310 := by simp [spmS, trS_len, coS_len, reS]
  refine go_new' (ci := 7) (N := 48) (q := 310) (rc := 29) (rs := 27516) dL_law_8 ⟨_, rfl⟩ nL_10 nw_X7 ni_X7 df7 hS1 hf1 ?_
  refine go_dup dL_law_11 rfl ?_
  refine go_callI (μ := mL_law) (dd := 2) (rc := 0) (rs := 0) (rc2 := 29) (rs2 := 27516) [] dL_law_12 YX7_init lL_12 rfl (Nat.le_of_ble_eq_true rfl) (Nat.le_of_ble_eq_true rfl) rfl (c_X7 (len_s hS1) (at_n hS1) (by decide +kernel) (hf1 310 (by omega)).1 (frs_s hf1) n1 (fun I2 R2 hF o2 j3 j4 j5 j11 j12 => ?_))
  refine go_astore_n dL_law_15 (Nat.le_of_ble_eq_true rfl) rfl ?_
  refine go_iconst (v := 0) dL_law_16 (by decide) ?_
  refine go_istore_n dL_law_17 (Nat.le_of_ble_eq_true rfl) rfl ?_
  have hX : spmF 0 I2 R2 := by
    obtain ⟨h1, h2, h3, h4, h5⟩ := n1
    refine ⟨?_, trF_c h2 (fun a a1 a2 => (o2 a (by omega)).1) (fun a a1 a2 => (o2 a (by omega)).2), coF_c h3 (fun a a1 a2 => (o2 a (by omega)).1) (fun a a1 a2 => (o2 a (by omega)).2), ?_, ?_⟩
    · rw [(o2 0 (by decide)).1]; exact h1
    · rw [(o2 0 (by decide)).2]; exact h4
    · rw [(o2 (0 + 306) (by decide)).2]; exact h5
  exact law_loop hb hq (G.2.2.2.2.1 + 1) 0 I2 R2 _ (by omega) (by omega) (Rel_init hF hX j3 j4 j5 j11 j12)
