def coF (b : Nat) (I' : gI) (R' : gR) : Prop := (I' b 2 = 0 ∧ I' b 6 = 0 ∧ I' b 9 = 0 ∧ I' b 10 = -1 ∧ I' b 11 = 1023 ∧ I' b 12 = 0 ∧ I' b 14 = 0) ∧ ((∀ j, I' (b + 2) j = 0) ∧ (∀ e, e < 9 → I' (b + 3) e = 2) ∧ (∀ j, I' (b + 4) j = 0) ∧ I' (b + 1) 3 = 0 ∧ I' (b + 1) 4 = 0 ∧ I' (b + 1) 5 = 3) ∧ (∀ a, 126 ≤ a → a ≤ 131 → ∀ j, I' (b + a) j = 0) ∧ (R' b 0 = some (b + 1) ∧ R' b 1 = some (b + 5) ∧ R' b 3 = some (b + 126) ∧ R' b 4 = some (b + 127) ∧ R' b 5 = some (b + 128) ∧ R' b 7 = some (b + 129) ∧ R' b 8 = some (b + 130) ∧ R' b 13 = some (b + 131)) ∧ (R' (b + 1) 0 = some (b + 2) ∧ R' (b + 1) 1 = some (b + 3) ∧ R' (b + 1) 2 = some (b + 4)) ∧ ∀ i, i < 30 → R' (b + 5) i = some (b + 6 + 4 * i) ∧ R' (b + 6 + 4 * i) 0 = some (b + 6 + 4 * i + 1) ∧ R' (b + 6 + 4 * i) 1 = some (b + 6 + 4 * i + 2) ∧ R' (b + 6 + 4 * i) 2 = some (b + 6 + 4 * i + 3)
theorem coF_c {b : Nat} {I I' : gI} {R R' : gR} (h : coF b I R) (hi : ∀ a, b ≤ a → a ≤ b + 131 → I' a = I a) (hr : ∀ a, b ≤ a → a ≤ b + 131 → R' a = R a) : coF b I' R' := by
  unfold coF at h ⊢
  rw [hi b (by omega) (by omega), hi (b + 1) (by omega) (by omega), hi (b + 2) (by omega) (by omega), hi (b + 3) (by omega) (by omega), hi (b + 4) (by omega) (by omega), hr b (by omega) (by omega), hr (b + 1) (by omega) (by omega), hr (b + 5) (by omega) (by omega)]
  refine ⟨h.1, h.2.1, fun a a1 a2 j => by rw [hi _ (by omega) (by omega)]; exact h.2.2.1 a a1 a2 j, h.2.2.2.1, h.2.2.2.2.1, fun i q => ?_⟩
  rw [hr (b + 6 + 4 * i) (by omega) (by omega)]
  exact h.2.2.2.2.2 i q
theorem coS_len : coS.length = 131 := by simp [coS, sc4_len, scS]
/-- a Bench was made at b -/
def beF (b : Nat) (I' : gI) (R' : gR) : Prop := coF (b + 1) I' R' ∧ R' b 0 = some (b + 1) ∧ R' b 1 = some (b + 133) ∧ R' b 2 = some (b + 162) ∧ R' b 3 = some (b + 163) ∧ ∀ i, i < 4 → R' (b + 133) i = some (b + 134 + 7 * i) ∧ laF (b + 134 + 7 * i) R'
theorem beF_c {b : Nat} {I I' : gI} {R R' : gR} (h : beF b I R) (hi : ∀ a, b ≤ a → a ≤ b + 163 → I' a = I a) (hr : ∀ a, b ≤ a → a ≤ b + 163 → R' a = R a) : beF b I' R' := by
  obtain ⟨h1, h2, h3, h4, h5, h6⟩ := h
  refine ⟨coF_c h1 (fun a a1 a2 => hi a (by omega) (by omega)) (fun a a1 a2 => hr a (by omega) (by omega)), by rw [hr b (by omega) (by omega)]; exact h2, by rw [hr b (by omega) (by omega)]; exact h3, by rw [hr b (by omega) (by omega)]; exact h4, by rw [hr b (by omega) (by omega)]; exact h5, fun i q => ?_⟩
  unfold laF
  rw [hr (b + 133) (by omega) (by omega), hr (b + 134 + 7 * i) (by omega) (by omega)]
  exact h6 i q
def la7 (i : Nat) : gS := (List.replicate i ((0, 2) :: laS)).flatten
theorem la7_len : ∀ i, (la7 i).length = 7 * i
  | 0 => rfl
  | i + 1 => by
    have := la7_len i
    unfold la7 at this ⊢
    rw [List.replicate_succ, List.flatten_cons, List.length_append, this]
    simp [laS]; omega
theorem la7_s (i : Nat) : la7 (i + 1) = la7 i ++ ((0, 2) :: laS) := by
  unfold la7
  rw [List.replicate_succ', List.flatten_append]
  simp
def beS : gS := [(0, 1)] ++ coS ++ [(5, 4)] ++ la7 4 ++ [(1, 12), (1, 64)]
theorem c_X0 {G : gG} {S : gS} {I : gI} {R : gR} {L : gL} {Q : gQ} {b : Nat} (hS : S.length = b + 1) (hb : S[b]? = some (0, 0)) (hf : frs (b + 1) I R L) (hq : ∀ I' R', (∀ a, a < b → I' a = I a ∧ R' a = R a) → beF b I' R' → frs (b + 164) I' R' L → Q none (S ++ beS) I' R' L) : Mt G mX0_init 4 163 2903 [.ref b] S I R L Q := by
  have hf0 := hf
  refine go_start rfl (Nat.le_of_ble_eq_true rfl) rfl ?_
  refine go_aload_n dX0_init_0 rfl ?_
  refine go_objInit dX0_init_1 lX0_3 ns_obj nc_obj (Nat.le_of_ble_eq_true rfl) (Nat.le_of_ble_eq_true rfl) ?_
  refine go_aload_n dX0_init_4 rfl ?_
  refine go_new' (ci := 1) (N := 15) (q := b + 1) (rc := 162) (rs := 2888) dX0_init_5 ⟨_, rfl⟩ nX0_9 nw_X1 ni_X1 df1 hS hf ?_
  refine go_dup dX0_init_8 rfl ?_
  refine go_callI (μ := mX0_init) (dd := 3) (rc := 31) (rs := 1624) (rc2 := 131) (rs2 := 1264) [] dX0_init_9 YX1_init lX0_11 rfl (Nat.le_of_ble_eq_true rfl) (Nat.le_of_ble_eq_true rfl) rfl (c_X1 (b := b + 1) (len_s hS) (at_n hS) (hf (b + 1) (by omega)).1 (frs_s hf) (fun I1 R1 n1 hf1 => ?_))
  refine go_putF dX0_init_12 fX0_12 rfl (fun z => ⟨rfl, rfl⟩) rfl (fun r h => by cases h; rfl) (at_l (at_l hb)) ?_
  refine go_aload_n dX0_init_15 rfl ?_
  refine go_iconst (v := 4) dX0_init_16 (by decide) ?_
  have hf2 := frs_upR (c := b) (i := 0) (x := some (b + 1)) hf1 (by omega)
  refine go_newA' (κ := 1) (C := "SpoonScales$Law") (N := 4) (q := b + 133) (rc := 30) (rs := 1620) dX0_init_17 nX0_18 (fun G => rfl) (fun G U h => h.2.2.2.2.2.2.2.2.2.2.2.2.1) (by decide) rfl (by decide) (len_a (q := b + 2) (k := 131) (len_s hS) coS_len) hf2 ?_
  refine go_putF dX0_init_20 fX0_20 rfl (fun z => ⟨rfl, rfl⟩) rfl (fun r h => by cases h; rfl) (at_l (at_l (at_l hb))) ?_
  refine go_iconst (v := 0) dX0_init_23 (by decide) ?_
  refine go_istore_n dX0_init_24 (Nat.le_of_ble_eq_true rfl) rfl ?_
  have hf3 : frs (b + 134) I1 (upR (upR R1 b 0 (some (b + 1))) b 1 (some (b + 133))) L := frs_upR (frs_s hf2) (by omega)
  have q0 : upR (upR R1 b 0 (some (b + 1))) b 1 (some (b + 133)) b 0 = some (b + 1) := by rw [upR_ni (by decide), upR_eq]
  have q1 : upR (upR R1 b 0 (some (b + 1))) b 1 (some (b + 133)) b 1 = some (b + 133) := upR_eq _ _ _ _
  have qo : ∀ a, a ≠ b → upR (upR R1 b 0 (some (b + 1))) b 1 (some (b + 133)) a = R1 a := fun a ha => by rw [upR_off a ha, upR_off a ha]
  generalize upR (upR R1 b 0 (some (b + 1))) b 1 (some (b + 133)) = R2 at *
  have hS1 : (S ++ [(0, 1)] ++ coS ++ [(5, 4)]).length = b + 134 := len_s (len_a (q := b + 2) (k := 131) (len_s hS) coS_len)
  have hb1 : (S ++ [(0, 1)] ++ coS ++ [(5, 4)])[b]? = some (0, 0) := at_l (at_l (at_l hb))
  have ha1 : (S ++ [(0, 1)] ++ coS ++ [(5, 4)])[b + 133]? = some (5, 4) := at_n (len_a (q := b + 2) (k := 131) (len_s hS) coS_len)
  have hSe : S ++ [(0, 1)] ++ coS ++ [(5, 4)] ++ la7 4 ++ [(1, 12)] ++ [(1, 64)] = S ++ beS := by simp [beS]
  show Go G mX0_init 4 (7 * 4 + 2) (386 * 4 + 76) 25 [some (.ref b), some (.int (nI 0))] [] (S ++ [(0, 1)] ++ coS ++ [(5, 4)]) I1 R2 L Q
  generalize S ++ [(0, 1)] ++ coS ++ [(5, 4)] = S1 at *
  have main : ∀ (m i : Nat) (J : gI) (RJ : gR), i + m = 4 → (∀ a, a < b + 134 → J a = I1 a) → (∀ a, a < b + 133 → RJ a = R2 a) → (∀ k, k < i → RJ (b + 133) k = some (b + 134 + 7 * k) ∧ laF (b + 134 + 7 * k) RJ) → frs (b + 134 + 7 * i) J RJ L → Go G mX0_init 4 (7 * m + 2) (386 * m + 76) 25 [some (.ref b), some (.int (nI i))] [] (S1 ++ la7 i) J RJ L Q := by
    intro m
    induction m with
    | zero =>
      intro i J RJ hi j1 j2 j3 jf
      have ei : i = 4 := by omega
      subst ei
      have hbX : (S1 ++ la7 4)[b]? = some (0, 0) := at_l hb1
      have haX : (S1 ++ la7 4)[b + 133]? = some (5, 4) := at_l ha1
      have hSX : (S1 ++ la7 4).length = b + 162 := len_a (q := b + 134) (k := 7 * 4) hS1 (la7_len 4)
      refine go_iload_n dX0_init_25 rfl ?_
      refine go_aload_n dX0_init_26 rfl ?_
      refine go_getR dX0_init_27 fX0_20 rfl hbX (by rw [j2 b (by omega)]; exact q1) ?_
      refine go_alen (n := 4) 4 dX0_init_30 haX (by decide) (v := 4) rfl ?_
      refine go_icmp_ge 53 dX0_init_31 (by decide) (fun c => ?_) (fun c => absurd (nI_le (a := 4) (by omega) (by omega)) c)
      have jf : frs (b + 162) J RJ L := jf
      rw [show 7 * 0 + 2 = 2 from rfl, show 386 * 0 + 76 = 76 from rfl]
      refine go_aload_n dX0_init_53 rfl ?_
      refine go_bipush (v := 12) dX0_init_54 (by decide) ?_
      refine go_newI' (N := 12) (q := (b + 162)) (rc := 1) (rs := 64) dX0_init_56 na_int (by decide) rfl (by decide) hSX jf ?_
      have hf := frs_s jf
      refine go_putF dX0_init_58 fX0_25 rfl (fun z => ⟨rfl, rfl⟩) rfl (fun r h => by cases h; rfl) (at_l hbX) ?_
      have hf := frs_upR (c := b) (i := 2) (x := some (b + 162)) hf (by omega)
      refine go_aload_n dX0_init_61 rfl ?_
      refine go_bipush (v := 64) dX0_init_62 (by decide) ?_
      refine go_newI' (N := 64) (q := (b + 163)) (rc := 0) (rs := 0) dX0_init_64 na_int (by decide) rfl (by decide) (len_s hSX) hf ?_
      have hf := frs_s hf
      refine go_putF dX0_init_66 fX0_29 rfl (fun z => ⟨rfl, rfl⟩) rfl (fun r h => by cases h; rfl) (at_l (at_l hbX)) ?_
      have hf := frs_upR (c := b) (i := 3) (x := some (b + 163)) hf (by omega)
      refine go_vret dX0_init_69 rfl rfl ?_
      rw [hSe]
      have e : ∀ a, a ≠ b → upR (upR RJ b 2 (some (b + 162))) b 3 (some (b + 163)) a = RJ a := fun a ha => by rw [upR_off a ha, upR_off a ha]
      have n2 : coF (b + 1) I1 R1 := n1.2
      refine hq _ _ (fun a ha => ⟨?_, ?_⟩) ⟨coF_c n2 (fun a a1 a2 => j1 a (by omega)) (fun a a1 a2 => by rw [e a (by omega), j2 a (by omega), qo a (by omega)]), ?_, ?_, ?_, ?_, fun i hi' => ?_⟩ hf
      · rw [j1 a (by omega)]; exact (n1.1 a (by omega)).1
      · rw [e a (by omega), j2 a (by omega), qo a (by omega)]; exact (n1.1 a (by omega)).2
      · rw [upR_ni (by decide), upR_ni (by decide), j2 b (by omega)]; exact q0
      · rw [upR_ni (by decide), upR_ni (by decide), j2 b (by omega)]; exact q1
      · rw [upR_ni (by decide), upR_eq]
      · rw [upR_eq]
      · unfold laF
        rw [e (b + 133) (by omega), e (b + 134 + 7 * i) (by omega)]
        exact j3 i hi'
    | succ m ih =>
      intro i J RJ hi j1 j2 j3 jf
      have hbX : (S1 ++ la7 i)[b]? = some (0, 0) := at_l hb1
      have haX : (S1 ++ la7 i)[b + 133]? = some (5, 4) := at_l ha1
      have hSX : (S1 ++ la7 i).length = b + 134 + 7 * i := len_a (q := b + 134) (k := 7 * i) hS1 (la7_len i)
      have qR : RJ b 1 = some (b + 133) := by rw [j2 b (by omega)]; exact q1
      refine go_iload_n dX0_init_25 rfl ?_
      refine go_aload_n dX0_init_26 rfl ?_
      refine go_getR dX0_init_27 fX0_20 rfl hbX qR ?_
      refine go_alen (n := 4) 4 dX0_init_30 haX (by decide) (v := 4) rfl ?_
      refine go_icmp_ge 53 dX0_init_31 (by decide) (fun c => absurd c (nI_ge (b := 4) (by omega) (by omega))) (fun c => ?_)
      refine go_aload_n dX0_init_34 rfl ?_
      refine go_getR dX0_init_35 fX0_20 rfl hbX qR ?_
      refine go_iload_n dX0_init_38 rfl ?_
      rw [show 7 * (m + 1) + 2 = (7 * m + 2) + 6 + 1 by omega, show 386 * (m + 1) + 76 = (386 * m + 76) + 378 + 8 by omega]
      refine go_new' (ci := 2) (N := 8) (q := b + 134 + 7 * i) (rc := (7 * m + 2) + 6) (rs := (386 * m + 76) + 378) dX0_init_39 ⟨_, rfl⟩ nX0_18 nw_X2 ni_X2 df2 hSX jf ?_
      refine go_dup dX0_init_42 rfl ?_
      refine go_callI (μ := mX0_init) (dd := 2) (rc := 7 * m + 2) (rs := 386 * m + 76) (rc2 := 6) (rs2 := 378) [] dX0_init_43 YX2_init lX0_24 rfl (Nat.le_of_ble_eq_true rfl) (Nat.le_of_ble_eq_true rfl) rfl (c_X2 (b := b + 134 + 7 * i) (len_s hSX) (at_n hSX) (frs_s jf) (fun J1 RJ1 p1 p2 p3 jf1 => ?_))
      refine go_aast (t := 0) (κ := 1) (ci := 2) (C := "SpoonScales$Law") dX0_init_46 (at_l (at_l haX)) (fun G => rfl) (at_l (at_n hSX)) ⟨_, rfl, rfl⟩ (vp_in_nI (by omega) (by decide)) ?_
      rw [nI_clamp (by omega)]
      refine go_iinc dX0_init_47 rfl (Nat.le_of_ble_eq_true rfl) rfl ?_
      refine go_goto 25 dX0_init_50 (by decide) ?_
      rw [show nI i + Int32.ofInt 1 = nI (i + 1) from nI_1 i]
      rw [show S1 ++ la7 i ++ [(0, 2)] ++ laS = S1 ++ la7 (i + 1) by rw [la7_s]; simp]
      refine ih (i + 1) J1 (upR RJ1 (b + 133) i (some (b + 134 + 7 * i))) (by omega) (fun a ha => by rw [p1 a (by omega)]; exact j1 a ha) (fun a ha => by rw [upR_off a (by omega), p2 a (by omega)]; exact j2 a ha) (fun k hk => ?_) (frs_upR (frs_m jf1 (by omega)) (by omega))
      unfold laF
      by_cases e : k = i
      · subst e
        refine ⟨upR_eq _ _ _ _, ?_⟩
        rw [upR_off _ (show b + 134 + 7 * k ≠ b + 133 by omega)]
        exact p3
      · rw [upR_ni e, upR_off _ (show b + 134 + 7 * k ≠ b + 133 by omega), p2 _ (by omega), p2 _ (by omega)]
        exact j3 k (by omega)
  have hm := main 4 0 I1 R2 (by omega) (fun _ _ => rfl) (fun _ _ => rfl) (fun k hk => by omega) hf3
  rwa [show S1 ++ la7 0 = S1 by simp [la7]] at hm
