/-- a Trial was made at b -/
def trF (b : Nat) (I' : gI) (R' : gR) : Prop := beF (b + 1) I' R' ∧ (R' b 0 = some (b + 1) ∧ R' b 1 = some (b + 2) ∧ R' b 2 = some (b + 165) ∧ R' b 3 = some (b + 169) ∧ R' b 4 = some (b + 170) ∧ R' b 5 = some (b + 171) ∧ R' b 7 = some (b + 172)) ∧ R' (b + 165) 0 = some (b + 166) ∧ R' (b + 165) 1 = some (b + 167) ∧ R' (b + 165) 2 = some (b + 168)
theorem trF_c {b : Nat} {I I' : gI} {R R' : gR} (h : trF b I R) (hi : ∀ a, b ≤ a → a ≤ b + 172 → I' a = I a) (hr : ∀ a, b ≤ a → a ≤ b + 172 → R' a = R a) : trF b I' R' := by
  obtain ⟨h1, h2, h3⟩ := h
  refine ⟨beF_c h1 (fun a a1 a2 => hi a (by omega) (by omega)) (fun a a1 a2 => hr a (by omega) (by omega)), ?_⟩
  rw [hr b (by omega) (by omega), hr (b + 165) (by omega) (by omega)]
  exact ⟨h2, h3⟩
theorem beS_len : beS.length = 163 := by simp [beS, coS_len, la7_len]
def trS : gS := [(0, 0)] ++ beS ++ [(0, 4)] ++ scS ++ [(1, 6), (1, 6), (1, 6), (1, 4)]
theorem c_X5 {G : gG} {S : gS} {I : gI} {R : gR} {L : gL} {Q : gQ} {b : Nat} (hS : S.length = b + 1) (hb : S[b]? = some (0, 5)) (hf : frs (b + 1) I R L) (hq : ∀ I' R', (∀ a, a < b → I' a = I a ∧ R' a = R a) → trF b I' R' → frs (b + 173) I' R' L → Q none (S ++ trS) I' R' L) : Mt G mX5_init 5 172 2957 [.ref b] S I R L Q := by
  refine go_start rfl (Nat.le_of_ble_eq_true rfl) rfl ?_
  refine go_aload_n dX5_init_0 rfl ?_
  refine go_objInit dX5_init_1 lX5_3 ns_obj nc_obj (Nat.le_of_ble_eq_true rfl) (Nat.le_of_ble_eq_true rfl) ?_
  refine go_aload_n dX5_init_4 rfl ?_
  refine go_new' (ci := 0) (N := 4) (q := b + 1) (rc := 171) (rs := 2953) dX5_init_5 ⟨_, rfl⟩ nX5_9 nw_X0 ni_X0 df0 hS hf ?_
  refine go_dup dX5_init_8 rfl ?_
  refine go_callI (μ := mX5_init) (dd := 4) (rc := 8) (rs := 50) (rc2 := 163) (rs2 := 2903) [] dX5_init_9 YX0_init lX5_11 rfl (Nat.le_of_ble_eq_true rfl) (Nat.le_of_ble_eq_true rfl) rfl (c_X0 (b := b + 1) (len_s hS) (at_n hS) (frs_s hf) (fun I1 R1 o1 n1 hf1 => ?_))
  have hS1 : (S ++ [(0, 0)] ++ beS).length = b + 165 := len_a (q := b + 2) (k := 163) (len_s hS) beS_len
  have hb1 : (S ++ [(0, 0)] ++ beS)[b]? = some (0, 5) := at_l (at_l hb)
  have hc1 : (S ++ [(0, 0)] ++ beS)[b + 1]? = some (0, 0) := at_l (at_n hS)
  have hSe : S ++ [(0, 0)] ++ beS ++ [(0, 4)] ++ scS ++ [(1, 6)] ++ [(1, 6)] ++ [(1, 6)] ++ [(1, 4)] = S ++ trS := by simp [trS]
  generalize S ++ [(0, 0)] ++ beS = S1 at *
  refine go_putF dX5_init_12 fX5_12 rfl (fun z => ⟨rfl, rfl⟩) rfl (fun r h => by cases h; rfl) hb1 ?_
  refine go_aload_n dX5_init_15 rfl ?_
  refine go_aload_n dX5_init_16 rfl ?_
  refine go_getR dX5_init_17 fX5_12 rfl hb1 (upR_eq _ _ _ _) ?_
  refine go_getR dX5_init_20 fX5_18 rfl hc1 (v := b + 2) (by rw [upR_nc (by omega)]; exact n1.2.1) ?_
  refine go_putF dX5_init_23 fX5_22 rfl (fun z => ⟨rfl, rfl⟩) rfl (fun r h => by cases h; rfl) hb1 ?_
  have hf2 : frs (b + 165) I1 (upR (upR R1 b 0 (some (b + 1))) b 1 (some (b + 2))) L := frs_upR (frs_upR hf1 (by omega)) (by omega)
  have q0 : upR (upR R1 b 0 (some (b + 1))) b 1 (some (b + 2)) b 0 = some (b + 1) := by rw [upR_ni (by decide), upR_eq]
  have q1 : upR (upR R1 b 0 (some (b + 1))) b 1 (some (b + 2)) b 1 = some (b + 2) := upR_eq _ _ _ _
  have qo : ∀ a, a ≠ b → upR (upR R1 b 0 (some (b + 1))) b 1 (some (b + 2)) a = R1 a := fun a ha => by rw [upR_off a ha, upR_off a ha]
  generalize upR (upR R1 b 0 (some (b + 1))) b 1 (some (b + 2)) = R2 at *
  refine go_aload_n dX5_init_26 rfl ?_
  refine go_new' (ci := 4) (N := 6) (q := b + 165) (rc := 7) (rs := 44) dX5_init_27 ⟨_, rfl⟩ nX5_23 nw_X4 ni_X4 df4 hS1 hf2 ?_
  refine go_dup dX5_init_30 rfl ?_
  refine go_callI (μ := mX5_init) (dd := 2) (rc := 4) (rs := 22) (rc2 := 3) (rs2 := 22) [] dX5_init_31 YX4_init lX5_25 rfl (Nat.le_of_ble_eq_true rfl) (Nat.le_of_ble_eq_true rfl) rfl (c_X4 (b := b + 165) (len_s hS1) (at_n hS1) (frs_s hf2) (fun I3 R3 n3 hf3 => ?_))
  obtain ⟨p1, p2, p3, p4, p5, p6, p7⟩ := n3
  have hSX : (S1 ++ [(0, 4)] ++ scS).length = b + 169 := len_a (q := b + 166) (k := 3) (len_s hS1) rfl
  have hbX : (S1 ++ [(0, 4)] ++ scS)[b]? = some (0, 5) := at_l (at_l hb1)
  refine go_putF dX5_init_34 fX5_26 rfl (fun z => ⟨rfl, rfl⟩) rfl (fun r h => by cases h; rfl) hbX ?_
  have jf : frs (b + 169) I3 (upR R3 b 2 (some (b + 165))) L := frs_upR hf3 (by omega)
  refine go_aload_n dX5_init_37 rfl ?_
  refine go_bipush (v := 6) dX5_init_38 (by decide) ?_
  refine go_newI' (N := 6) (q := (b + 169)) (rc := 3) (rs := 16) dX5_init_40 na_int (by decide) rfl (by decide) hSX jf ?_
  have hf := frs_s jf
  refine go_putF dX5_init_42 fX5_30 rfl (fun z => ⟨rfl, rfl⟩) rfl (fun r h => by cases h; rfl) (at_l hbX) ?_
  have hf := frs_upR (c := b) (i := 3) (x := some (b + 169)) hf (by omega)
  refine go_aload_n dX5_init_45 rfl ?_
  refine go_bipush (v := 6) dX5_init_46 (by decide) ?_
  refine go_newI' (N := 6) (q := (b + 170)) (rc := 2) (rs := 10) dX5_init_48 na_int (by decide) rfl (by decide) (len_s hSX) hf ?_
  have hf := frs_s hf
  refine go_putF dX5_init_50 fX5_34 rfl (fun z => ⟨rfl, rfl⟩) rfl (fun r h => by cases h; rfl) (at_l (at_l hbX)) ?_
  have hf := frs_upR (c := b) (i := 4) (x := some (b + 170)) hf (by omega)
  refine go_aload_n dX5_init_53 rfl ?_
  refine go_bipush (v := 6) dX5_init_54 (by decide) ?_
  refine go_newI' (N := 6) (q := (b + 171)) (rc := 1) (rs := 4) dX5_init_56 na_int (by decide) rfl (by decide) (len_s (len_s hSX)) hf ?_
  have hf := frs_s hf
  refine go_putF dX5_init_58 fX5_37 rfl (fun z => ⟨rfl, rfl⟩) rfl (fun r h => by cases h; rfl) (at_l (at_l (at_l hbX))) ?_
  have hf := frs_upR (c := b) (i := 5) (x := some (b + 171)) hf (by omega)
  refine go_aload_n dX5_init_61 rfl ?_
  refine go_iconst (v := 4) dX5_init_62 (by decide) ?_
  refine go_newI' (N := 4) (q := (b + 172)) (rc := 0) (rs := 0) dX5_init_63 na_int (by decide) rfl (by decide) (len_s (len_s (len_s hSX))) hf ?_
  have hf := frs_s hf
  refine go_putF dX5_init_65 fX5_40 rfl (fun z => ⟨rfl, rfl⟩) rfl (fun r h => by cases h; rfl) (at_l (at_l (at_l (at_l hbX)))) ?_
  have hf := frs_upR (c := b) (i := 7) (x := some (b + 172)) hf (by omega)
  refine go_aload_n dX5_init_68 rfl ?_
  refine go_iconst (v := -1) dX5_init_69 (by decide) ?_
  refine go_putI dX5_init_70 fX5_43 rfl rfl rfl (at_l (at_l (at_l (at_l hbX)))) ?_
  have hf := frs_up (c := b) (i := 8) (x := (-1)) hf (by omega)
  refine go_vret dX5_init_73 rfl rfl ?_
  rw [hSe]
  have e : ∀ a, a ≠ b → a ≠ b + 165 → upR (upR (upR (upR (upR R3 b 2 (some (b + 165))) b 3 (some (b + 169))) b 4 (some (b + 170))) b 5 (some (b + 171))) b 7 (some (b + 172)) a = R1 a := fun a h1 h2 => by rw [upR_off a h1, upR_off a h1, upR_off a h1, upR_off a h1, upR_off a h1, p4 a h2, qo a h1]
  have e2 : ∀ j, upR (upR (upR (upR (upR R3 b 2 (some (b + 165))) b 3 (some (b + 169))) b 4 (some (b + 170))) b 5 (some (b + 171))) b 7 (some (b + 172)) (b + 165) j = R3 (b + 165) j := fun j => by rw [upR_nc (by omega), upR_nc (by omega), upR_nc (by omega), upR_nc (by omega), upR_nc (by omega)]
  have ei : ∀ a, a ≠ b → a < b + 165 → up I3 b 8 (-1) a = I1 a := fun a h1 h2 => by rw [up_off a h1, p1 a (by omega) (by omega)]
  refine hq _ _ (fun a ha => ⟨?_, ?_⟩) ⟨beF_c n1 (fun a a1 a2 => ei a (by omega) (by omega)) (fun a a1 a2 => e a (by omega) (by omega)), ⟨?_, ?_, ?_, ?_, ?_, ?_, ?_⟩, ?_, ?_, ?_⟩ hf
  · rw [ei a (by omega) (by omega)]; exact (o1 a (by omega)).1
  · rw [e a (by omega) (by omega)]; exact (o1 a (by omega)).2
  · rw [upR_ni (by decide), upR_ni (by decide), upR_ni (by decide), upR_ni (by decide), upR_ni (by decide), p4 b (by omega)]; exact q0
  · rw [upR_ni (by decide), upR_ni (by decide), upR_ni (by decide), upR_ni (by decide), upR_ni (by decide), p4 b (by omega)]; exact q1
  · simp [upR]
  · simp [upR]
  · simp [upR]
  · simp [upR]
  · simp [upR]
  · rw [e2]; exact p5
  · rw [e2]; exact p6
  · rw [e2]; exact p7
theorem trS_len : trS.length = 172 := by simp [trS, beS_len, scS]
def spmS : gS := [(0, 5)] ++ trS ++ [(0, 1)] ++ coS ++ [(0, 3)] ++ reS ++ [(1, 9)]
/-- a SpoonScales was made at b -/
def spmF (b : Nat) (I' : gI) (R' : gR) : Prop := (I' b 6 = 0 ∧ I' b 7 = -1 ∧ I' b 8 = -1 ∧ I' b 9 = -1) ∧ trF (b + 1) I' R' ∧ coF (b + 174) I' R' ∧ (R' b 0 = some (b + 1) ∧ R' b 1 = some (b + 2) ∧ R' b 2 = some (b + 3) ∧ R' b 3 = some (b + 174) ∧ R' b 4 = some (b + 306) ∧ R' b 5 = some (b + 309)) ∧ R' (b + 306) 0 = some (b + 307) ∧ R' (b + 306) 9 = some (b + 308)
theorem c_X6 {G : gG} {S : gS} {I : gI} {R : gR} {L : gL} {Q : gQ} {b : Nat} (hS : S.length = b + 1) (hb : S[b]? = some (0, 6)) (hf : frs (b + 1) I R L) (hq : ∀ I' R', spmF b I' R' → frs (b + 310) I' R' L → Q none (S ++ spmS) I' R' L) : Mt G mX6_init 6 309 4636 [.ref b] S I R L Q := by
  refine go_start rfl (Nat.le_of_ble_eq_true rfl) rfl ?_
  refine go_aload_n dX6_init_0 rfl ?_
  refine go_objInit dX6_init_1 lX6_1 ns_obj nc_obj (Nat.le_of_ble_eq_true rfl) (Nat.le_of_ble_eq_true rfl) ?_
  refine go_aload_n dX6_init_4 rfl ?_
  refine go_new' (ci := 5) (N := 12) (q := b + 1) (rc := 308) (rs := 4624) dX6_init_5 ⟨_, rfl⟩ nX6_7 nw_X5 ni_X5 df5 hS hf ?_
  refine go_dup dX6_init_8 rfl ?_
  refine go_callI (μ := mX6_init) (dd := 5) (rc := 136) (rs := 1667) (rc2 := 172) (rs2 := 2957) [] dX6_init_9 YX5_init lX6_9 rfl (Nat.le_of_ble_eq_true rfl) (Nat.le_of_ble_eq_true rfl) rfl (c_X5 (b := b + 1) (len_s hS) (at_n hS) (frs_s hf) (fun I1 R1 o1 n1 hf1 => ?_))
  have hS1 : (S ++ [(0, 5)] ++ trS).length = b + 174 := len_a (q := b + 2) (k := 172) (len_s hS) trS_len
  have hb1 : (S ++ [(0, 5)] ++ trS)[b]? = some (0, 6) := at_l (at_l hb)
  have hc1 : (S ++ [(0, 5)] ++ trS)[b + 1]? = some (0, 5) := at_l (at_n hS)
  have hd1 : (S ++ [(0, 5)] ++ trS)[b + 2]? = some (0, 0) := at_a (q := b + 2) (k := 0) (len_s hS) (by simp [trS])
  have hSe : S ++ [(0, 5)] ++ trS ++ [(0, 1)] ++ coS ++ [(0, 3)] ++ reS ++ [(1, 9)] = S ++ spmS := by simp [spmS]
  generalize S ++ [(0, 5)] ++ trS = S1 at *
  refine go_putF dX6_init_12 fX6_10 rfl (fun z => ⟨rfl, rfl⟩) rfl (fun r h => by cases h; rfl) hb1 ?_
  refine go_aload_n dX6_init_15 rfl ?_
  refine go_aload_n dX6_init_16 rfl ?_
  refine go_getR dX6_init_17 fX6_10 rfl hb1 (upR_eq _ _ _ _) ?_
  refine go_getR dX6_init_20 fX6_16 rfl hc1 (v := b + 2) (by rw [upR_nc (by omega)]; exact n1.2.1.1) ?_
  refine go_putF dX6_init_23 fX6_20 rfl (fun z => ⟨rfl, rfl⟩) rfl (fun r h => by cases h; rfl) hb1 ?_
  refine go_aload_n dX6_init_26 rfl ?_
  refine go_aload_n dX6_init_27 rfl ?_
  refine go_getR dX6_init_28 fX6_20 rfl hb1 (upR_eq _ _ _ _) ?_
  refine go_getR dX6_init_31 fX6_21 rfl hd1 (v := b + 3) (by rw [upR_nc (by omega), upR_nc (by omega)]; exact n1.1.2.1) ?_
  refine go_putF dX6_init_34 fX6_27 rfl (fun z => ⟨rfl, rfl⟩) rfl (fun r h => by cases h; rfl) hb1 ?_
  have hf2 : frs (b + 174) I1 (upR (upR (upR R1 b 0 (some (b + 1))) b 1 (some (b + 2))) b 2 (some (b + 3))) L := frs_upR (frs_upR (frs_upR hf1 (by omega)) (by omega)) (by omega)
  have q0 : upR (upR (upR R1 b 0 (some (b + 1))) b 1 (some (b + 2))) b 2 (some (b + 3)) b 0 = some (b + 1) := by rw [upR_ni (by decide), upR_ni (by decide), upR_eq]
  have q1 : upR (upR (upR R1 b 0 (some (b + 1))) b 1 (some (b + 2))) b 2 (some (b + 3)) b 1 = some (b + 2) := by rw [upR_ni (by decide), upR_eq]
  have q2 : upR (upR (upR R1 b 0 (some (b + 1))) b 1 (some (b + 2))) b 2 (some (b + 3)) b 2 = some (b + 3) := upR_eq _ _ _ _
  have qo : ∀ a, a ≠ b → upR (upR (upR R1 b 0 (some (b + 1))) b 1 (some (b + 2))) b 2 (some (b + 3)) a = R1 a := fun a ha => by rw [upR_off a ha, upR_off a ha, upR_off a ha]
  generalize upR (upR (upR R1 b 0 (some (b + 1))) b 1 (some (b + 2))) b 2 (some (b + 3)) = R2 at *
  refine go_aload_n dX6_init_37 rfl ?_
  refine go_new' (ci := 1) (N := 15) (q := b + 174) (rc := 135) (rs := 1652) dX6_init_38 ⟨_, rfl⟩ nX6_28 nw_X1 ni_X1 df1 hS1 hf2 ?_
  refine go_dup dX6_init_41 rfl ?_
  refine go_callI (μ := mX6_init) (dd := 3) (rc := 4) (rs := 388) (rc2 := 131) (rs2 := 1264) [] dX6_init_42 YX1_init lX6_30 rfl (Nat.le_of_ble_eq_true rfl) (Nat.le_of_ble_eq_true rfl) rfl (c_X1 (b := b + 174) (len_s hS1) (at_n hS1) (hf2 (b + 174) (by omega)).1 (frs_s hf2) (fun I3 R3 n3 hf3 => ?_))
  have m3 : coF (b + 174) I3 R3 := n3.2
  have hS2 : (S1 ++ [(0, 1)] ++ coS).length = b + 306 := len_a (q := b + 175) (k := 131) (len_s hS1) coS_len
  have hb2 : (S1 ++ [(0, 1)] ++ coS)[b]? = some (0, 6) := at_l (at_l hb1)
  refine go_putF dX6_init_45 fX6_31 rfl (fun z => ⟨rfl, rfl⟩) rfl (fun r h => by cases h; rfl) hb2 ?_
  have hf4 : frs (b + 306) I3 (upR R3 b 3 (some (b + 174))) L := frs_upR hf3 (by omega)
  generalize S1 ++ [(0, 1)] ++ coS = S2 at *
  refine go_aload_n dX6_init_48 rfl ?_
  refine go_new' (ci := 3) (N := 15) (q := b + 306) (rc := 3) (rs := 373) dX6_init_49 ⟨_, rfl⟩ nX6_34 nw_X3 ni_X3 df3 hS2 hf4 ?_
  refine go_dup dX6_init_52 rfl ?_
  refine go_callI (μ := mX6_init) (dd := 2) (rc := 1) (rs := 9) (rc2 := 2) (rs2 := 364) [] dX6_init_53 YX3_init lX6_36 rfl (Nat.le_of_ble_eq_true rfl) (Nat.le_of_ble_eq_true rfl) rfl (c_X3 (b := b + 306) (len_s hS2) (at_n hS2) (frs_s hf4) (fun R5 o5 r5 r6 hf5 => ?_))
  have hSX : (S2 ++ [(0, 3)] ++ reS).length = b + 309 := len_a (q := b + 307) (k := 2) (len_s hS2) rfl
  have hbX : (S2 ++ [(0, 3)] ++ reS)[b]? = some (0, 6) := at_l (at_l hb2)
  refine go_putF dX6_init_56 fX6_37 rfl (fun z => ⟨rfl, rfl⟩) rfl (fun r h => by cases h; rfl) hbX ?_
  have jf : frs (b + 309) I3 (upR R5 b 4 (some (b + 306))) L := frs_upR hf5 (by omega)
  refine go_aload_n dX6_init_59 rfl ?_
  refine go_bipush (v := 9) dX6_init_60 (by decide) ?_
  refine go_newI' (N := 9) (q := (b + 309)) (rc := 0) (rs := 0) dX6_init_62 na_int (by decide) rfl (by decide) hSX jf ?_
  have hf := frs_s jf
  refine go_putF dX6_init_64 fX6_41 rfl (fun z => ⟨rfl, rfl⟩) rfl (fun r h => by cases h; rfl) (at_l hbX) ?_
  have hf := frs_upR (c := b) (i := 5) (x := some (b + 309)) hf (by omega)
  refine go_aload_n dX6_init_67 rfl ?_
  refine go_iconst (v := 0) dX6_init_68 (by decide) ?_
  refine go_putI dX6_init_69 fX6_45 rfl rfl rfl (at_l hbX) ?_
  have hf := frs_up (c := b) (i := 6) (x := 0) hf (by omega)
  refine go_aload_n dX6_init_72 rfl ?_
  refine go_iconst (v := -1) dX6_init_73 (by decide) ?_
  refine go_putI dX6_init_74 fX6_49 rfl rfl rfl (at_l hbX) ?_
  have hf := frs_up (c := b) (i := 7) (x := (-1)) hf (by omega)
  refine go_aload_n dX6_init_77 rfl ?_
  refine go_iconst (v := -1) dX6_init_78 (by decide) ?_
  refine go_putI dX6_init_79 fX6_52 rfl rfl rfl (at_l hbX) ?_
  have hf := frs_up (c := b) (i := 8) (x := (-1)) hf (by omega)
  refine go_aload_n dX6_init_82 rfl ?_
  refine go_iconst (v := -1) dX6_init_83 (by decide) ?_
  refine go_putI dX6_init_84 fX6_55 rfl rfl rfl (at_l hbX) ?_
  have hf := frs_up (c := b) (i := 9) (x := (-1)) hf (by omega)
  refine go_vret dX6_init_87 rfl rfl ?_
  rw [hSe]
  have e : ∀ a, a ≠ b → a ≠ b + 306 → upR (upR R5 b 4 (some (b + 306))) b 5 (some (b + 309)) a = R3 a := fun a h1 h2 => by rw [upR_off a h1, upR_off a h1, o5 a h2, upR_off a h1]
  have eb : ∀ j, j ≠ 3 → j ≠ 4 → j ≠ 5 → upR (upR R5 b 4 (some (b + 306))) b 5 (some (b + 309)) b j = R2 b j := fun j h1 h2 h3 => by rw [upR_ni h3, upR_ni h2, o5 b (by omega), upR_ni h1, (n3.1 b (by omega)).2]
  have ei : ∀ a, a ≠ b → up (up (up (up I3 b 6 0) b 7 (-1)) b 8 (-1)) b 9 (-1) a = I3 a := fun a h1 => by rw [up_off a h1, up_off a h1, up_off a h1, up_off a h1]
  refine hq _ _ ⟨⟨?_, ?_, ?_, ?_⟩, trF_c n1 (fun a a1 a2 => ?_) (fun a a1 a2 => ?_), coF_c m3 (fun a a1 a2 => ei a (by omega)) (fun a a1 a2 => e a (by omega) (by omega)), ⟨?_, ?_, ?_, ?_, ?_, ?_⟩, ?_, ?_⟩ hf
  · rw [up_ni (by decide), up_ni (by decide), up_ni (by decide), up_eq]
  · rw [up_ni (by decide), up_ni (by decide), up_eq]
  · rw [up_ni (by decide), up_eq]
  · rw [up_eq]
  · rw [ei a (by omega)]; exact (n3.1 a (by omega)).1
  · rw [e a (by omega) (by omega), (n3.1 a (by omega)).2, qo a (by omega)]
  · rw [eb 0 (by decide) (by decide) (by decide)]; exact q0
  · rw [eb 1 (by decide) (by decide) (by decide)]; exact q1
  · rw [eb 2 (by decide) (by decide) (by decide)]; exact q2
  · rw [upR_ni (by decide), upR_ni (by decide), o5 b (by omega), upR_eq]
  · rw [upR_ni (by decide), upR_eq]
  · rw [upR_eq]
  · rw [upR_nc (by omega), upR_nc (by omega)]; exact r5
  · rw [upR_nc (by omega), upR_nc (by omega)]; exact r6
