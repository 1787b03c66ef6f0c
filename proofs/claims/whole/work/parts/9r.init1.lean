theorem df0 : ∀ j, j < 4 → defaultValue (g_ty 0 j) = if g_rt (g_ty 0 j) = true then .null else .int 0
  | 0, _ => rfl
  | 1, _ => rfl
  | 2, _ => rfl
  | 3, _ => rfl
  | j + 4, h => absurd h (by omega)
theorem df1 : ∀ j, j < 15 → defaultValue (g_ty 1 j) = if g_rt (g_ty 1 j) = true then .null else .int 0
  | 0, _ => rfl
  | 1, _ => rfl
  | 2, _ => rfl
  | 3, _ => rfl
  | 4, _ => rfl
  | 5, _ => rfl
  | 6, _ => rfl
  | 7, _ => rfl
  | 8, _ => rfl
  | 9, _ => rfl
  | 10, _ => rfl
  | 11, _ => rfl
  | 12, _ => rfl
  | 13, _ => rfl
  | 14, _ => rfl
  | j + 15, h => absurd h (by omega)
theorem df2 : ∀ j, j < 8 → defaultValue (g_ty 2 j) = if g_rt (g_ty 2 j) = true then .null else .int 0
  | 0, _ => rfl
  | 1, _ => rfl
  | 2, _ => rfl
  | 3, _ => rfl
  | 4, _ => rfl
  | 5, _ => rfl
  | 6, _ => rfl
  | 7, _ => rfl
  | j + 8, h => absurd h (by omega)
theorem df3 : ∀ j, j < 15 → defaultValue (g_ty 3 j) = if g_rt (g_ty 3 j) = true then .null else .int 0
  | 0, _ => rfl
  | 1, _ => rfl
  | 2, _ => rfl
  | 3, _ => rfl
  | 4, _ => rfl
  | 5, _ => rfl
  | 6, _ => rfl
  | 7, _ => rfl
  | 8, _ => rfl
  | 9, _ => rfl
  | 10, _ => rfl
  | 11, _ => rfl
  | 12, _ => rfl
  | 13, _ => rfl
  | 14, _ => rfl
  | j + 15, h => absurd h (by omega)
theorem df4 : ∀ j, j < 6 → defaultValue (g_ty 4 j) = if g_rt (g_ty 4 j) = true then .null else .int 0
  | 0, _ => rfl
  | 1, _ => rfl
  | 2, _ => rfl
  | 3, _ => rfl
  | 4, _ => rfl
  | 5, _ => rfl
  | j + 6, h => absurd h (by omega)
theorem df5 : ∀ j, j < 12 → defaultValue (g_ty 5 j) = if g_rt (g_ty 5 j) = true then .null else .int 0
  | 0, _ => rfl
  | 1, _ => rfl
  | 2, _ => rfl
  | 3, _ => rfl
  | 4, _ => rfl
  | 5, _ => rfl
  | 6, _ => rfl
  | 7, _ => rfl
  | 8, _ => rfl
  | 9, _ => rfl
  | 10, _ => rfl
  | 11, _ => rfl
  | j + 12, h => absurd h (by omega)
theorem df6 : ∀ j, j < 10 → defaultValue (g_ty 6 j) = if g_rt (g_ty 6 j) = true then .null else .int 0
  | 0, _ => rfl
  | 1, _ => rfl
  | 2, _ => rfl
  | 3, _ => rfl
  | 4, _ => rfl
  | 5, _ => rfl
  | 6, _ => rfl
  | 7, _ => rfl
  | 8, _ => rfl
  | 9, _ => rfl
  | j + 10, h => absurd h (by omega)
theorem df7 : ∀ j, j < 48 → defaultValue (g_ty 7 j) = if g_rt (g_ty 7 j) = true then .null else .int 0
  | 0, _ => rfl
  | 1, _ => rfl
  | 2, _ => rfl
  | 3, _ => rfl
  | 4, _ => rfl
  | 5, _ => rfl
  | 6, _ => rfl
  | 7, _ => rfl
  | 8, _ => rfl
  | 9, _ => rfl
  | 10, _ => rfl
  | 11, _ => rfl
  | 12, _ => rfl
  | 13, _ => rfl
  | 14, _ => rfl
  | 15, _ => rfl
  | 16, _ => rfl
  | 17, _ => rfl
  | 18, _ => rfl
  | 19, _ => rfl
  | 20, _ => rfl
  | 21, _ => rfl
  | 22, _ => rfl
  | 23, _ => rfl
  | 24, _ => rfl
  | 25, _ => rfl
  | 26, _ => rfl
  | 27, _ => rfl
  | 28, _ => rfl
  | 29, _ => rfl
  | 30, _ => rfl
  | 31, _ => rfl
  | 32, _ => rfl
  | 33, _ => rfl
  | 34, _ => rfl
  | 35, _ => rfl
  | 36, _ => rfl
  | 37, _ => rfl
  | 38, _ => rfl
  | 39, _ => rfl
  | 40, _ => rfl
  | 41, _ => rfl
  | 42, _ => rfl
  | 43, _ => rfl
  | 44, _ => rfl
  | 45, _ => rfl
  | 46, _ => rfl
  | 47, _ => rfl
  | j + 48, h => absurd h (by omega)
/-- a Court was made at b -/
def coN (b : Nat) (I I' : gI) (R R' : gR) : Prop := (∀ a, a < b → I' a = I a ∧ R' a = R a) ∧ (I' b 2 = 0 ∧ I' b 6 = 0 ∧ I' b 9 = 0 ∧ I' b 10 = -1 ∧ I' b 11 = 1023 ∧ I' b 12 = 0 ∧ I' b 14 = 0) ∧ ((∀ j, I' (b + 2) j = 0) ∧ (∀ e, e < 9 → I' (b + 3) e = 2) ∧ (∀ j, I' (b + 4) j = 0) ∧ I' (b + 1) 3 = 0 ∧ I' (b + 1) 4 = 0 ∧ I' (b + 1) 5 = 3) ∧ (∀ a, 126 ≤ a → a ≤ 131 → ∀ j, I' (b + a) j = 0) ∧ (R' b 0 = some (b + 1) ∧ R' b 1 = some (b + 5) ∧ R' b 3 = some (b + 126) ∧ R' b 4 = some (b + 127) ∧ R' b 5 = some (b + 128) ∧ R' b 7 = some (b + 129) ∧ R' b 8 = some (b + 130) ∧ R' b 13 = some (b + 131)) ∧ (R' (b + 1) 0 = some (b + 2) ∧ R' (b + 1) 1 = some (b + 3) ∧ R' (b + 1) 2 = some (b + 4)) ∧ ∀ i, i < 30 → R' (b + 5) i = some (b + 6 + 4 * i) ∧ R' (b + 6 + 4 * i) 0 = some (b + 6 + 4 * i + 1) ∧ R' (b + 6 + 4 * i) 1 = some (b + 6 + 4 * i + 2) ∧ R' (b + 6 + 4 * i) 2 = some (b + 6 + 4 * i + 3)
def sc4 (i : Nat) : gS := (List.replicate i ((0, 4) :: scS)).flatten
theorem sc4_len : ∀ i, (sc4 i).length = 4 * i
  | 0 => rfl
  | i + 1 => by
    have := sc4_len i
    unfold sc4 at this ⊢
    rw [List.replicate_succ, List.flatten_cons, List.length_append, this]
    simp [scS]; omega
theorem sc4_s (i : Nat) : sc4 (i + 1) = sc4 i ++ ((0, 4) :: scS) := by
  unfold sc4
  rw [List.replicate_succ', List.flatten_append]
  simp
def coS : gS := [(0, 4)] ++ scS ++ [(4, 30)] ++ sc4 30 ++ [(1, 9), (1, 9), (1, 9), (1, 240), (1, 90), (1, 9)]
theorem c_X1 {G : gG} {S : gS} {I : gI} {R : gR} {L : gL} {Q : gQ} {b : Nat} (hS : S.length = b + 1) (hb : S[b]? = some (0, 1)) (hz : ∀ j, I b j = 0) (hf : frs (b + 1) I R L) (hq : ∀ I' R', coN b I I' R R' → frs (b + 132) I' R' L → Q none (S ++ coS) I' R' L) : Mt G mX1_init 3 131 1264 [.ref b] S I R L Q := by
  have hf0 := hf
  refine go_start rfl (Nat.le_of_ble_eq_true rfl) rfl ?_
  refine go_aload_n dX1_init_0 rfl ?_
  refine go_objInit dX1_init_1 lX1_3 ns_obj nc_obj (Nat.le_of_ble_eq_true rfl) (Nat.le_of_ble_eq_true rfl) ?_
  refine go_aload_n dX1_init_4 rfl ?_
  refine go_new' (ci := 4) (N := 6) (q := b + 1) (rc := 130) (rs := 1258) dX1_init_5 ⟨_, rfl⟩ nX1_9 nw_X4 ni_X4 df4 hS hf ?_
  refine go_dup dX1_init_8 rfl ?_
  refine go_callI (μ := mX1_init) (dd := 2) (rc := 127) (rs := 1236) (rc2 := 3) (rs2 := 22) [] dX1_init_9 YX4_init lX1_11 rfl (Nat.le_of_ble_eq_true rfl) (Nat.le_of_ble_eq_true rfl) rfl (c_X4 (b := b + 1) (len_s hS) (at_n hS) (frs_s hf) (fun I1 R1 n1 hf1 => ?_))
  refine go_putF dX1_init_12 fX1_12 rfl (fun z => ⟨rfl, rfl⟩) rfl (fun r h => by cases h; rfl) (at_l (at_l hb)) ?_
  refine go_aload_n dX1_init_15 rfl ?_
  refine go_bipush (v := 30) dX1_init_16 (by decide) ?_
  have hf2 := frs_upR (c := b) (i := 0) (x := some (b + 1)) hf1 (by omega)
  refine go_newA' (κ := 0) (C := "SpoonScales$Scene") (N := 30) (q := b + 5) (rc := 126) (rs := 1206) dX1_init_18 nX1_9 (fun G => rfl) (fun G U h => h.2.2.2.2.2.2.2.2.2.2.2.1) (by decide) rfl (by decide) (len_a (q := b + 2) (k := 3) (len_s hS) rfl) hf2 ?_
  refine go_putF dX1_init_21 fX1_18 rfl (fun z => ⟨rfl, rfl⟩) rfl (fun r h => by cases h; rfl) (at_l (at_l (at_l hb))) ?_
  refine go_iconst (v := 0) dX1_init_24 (by decide) ?_
  refine go_istore_n dX1_init_25 (Nat.le_of_ble_eq_true rfl) rfl ?_
  have hf3 : frs (b + 6) I1 (upR (upR R1 b 0 (some (b + 1))) b 1 (some (b + 5))) L := frs_upR (frs_s hf2) (by omega)
  have q0 : upR (upR R1 b 0 (some (b + 1))) b 1 (some (b + 5)) b 0 = some (b + 1) := by rw [upR_ni (by decide), upR_eq]
  have q1 : upR (upR R1 b 0 (some (b + 1))) b 1 (some (b + 5)) b 1 = some (b + 5) := upR_eq _ _ _ _
  have qo : ∀ a, a ≠ b → upR (upR R1 b 0 (some (b + 1))) b 1 (some (b + 5)) a = R1 a := fun a ha => by rw [upR_off a ha, upR_off a ha]
  generalize upR (upR R1 b 0 (some (b + 1))) b 1 (some (b + 5)) = R2 at *
  have hS1 : (S ++ [(0, 4)] ++ scS ++ [(4, 30)]).length = b + 6 := len_s (len_a (q := b + 2) (k := 3) (len_s hS) rfl)
  have hb1 : (S ++ [(0, 4)] ++ scS ++ [(4, 30)])[b]? = some (0, 1) := at_l (at_l (at_l hb))
  have ha1 : (S ++ [(0, 4)] ++ scS ++ [(4, 30)])[b + 5]? = some (4, 30) := at_n (len_a (q := b + 2) (k := 3) (len_s hS) rfl)
  have hSe : S ++ [(0, 4)] ++ scS ++ [(4, 30)] ++ sc4 30 ++ [(1, 9)] ++ [(1, 9)] ++ [(1, 9)] ++ [(1, 240)] ++ [(1, 90)] ++ [(1, 9)] = S ++ coS := by simp [coS]
  show Go G mX1_init 3 (4 * 30 + 6) (28 * 30 + 366) 26 [some (.ref b), some (.int (nI 0))] [] (S ++ [(0, 4)] ++ scS ++ [(4, 30)]) I1 R2 L Q
  generalize S ++ [(0, 4)] ++ scS ++ [(4, 30)] = S1 at *
  have main : ∀ (m i : Nat) (J : gI) (RJ : gR), i + m = 30 → (∀ a, a < b + 6 → J a = I1 a) → (∀ a, a < b + 5 → RJ a = R2 a) → (∀ k, k < i → RJ (b + 5) k = some (b + 6 + 4 * k) ∧ RJ (b + 6 + 4 * k) 0 = some (b + 6 + 4 * k + 1) ∧ RJ (b + 6 + 4 * k) 1 = some (b + 6 + 4 * k + 2) ∧ RJ (b + 6 + 4 * k) 2 = some (b + 6 + 4 * k + 3)) → frs (b + 6 + 4 * i) J RJ L → Go G mX1_init 3 (4 * m + 6) (28 * m + 366) 26 [some (.ref b), some (.int (nI i))] [] (S1 ++ sc4 i) J RJ L Q := by
    intro m
    induction m with
    | zero =>
      intro i J RJ hi j1 j2 j3 jf
      have ei : i = 30 := by omega
      subst ei
      have hbX : (S1 ++ sc4 30)[b]? = some (0, 1) := at_l hb1
      have haX : (S1 ++ sc4 30)[b + 5]? = some (4, 30) := at_l ha1
      have hSX : (S1 ++ sc4 30).length = b + 126 := len_a (q := b + 6) (k := 4 * 30) hS1 (sc4_len 30)
      refine go_iload_n dX1_init_26 rfl ?_
      refine go_aload_n dX1_init_27 rfl ?_
      refine go_getR dX1_init_28 fX1_18 rfl hbX (by rw [j2 b (by omega)]; exact q1) ?_
      refine go_alen (n := 30) 3 dX1_init_31 haX (by decide) (v := 30) rfl ?_
      refine go_icmp_ge 54 dX1_init_32 (by decide) (fun c => ?_) (fun c => absurd (nI_le (a := 30) (by omega) (by omega)) c)
      have jf : frs (b + 126) J RJ L := jf
      have jf0 := jf
      rw [show 4 * 0 + 6 = 6 from rfl, show 28 * 0 + 366 = 366 from rfl]
      refine go_aload_n dX1_init_54 rfl ?_
      refine go_bipush (v := 9) dX1_init_55 (by decide) ?_
      refine go_newI' (N := 9) (q := (b + 126)) (rc := 5) (rs := 357) dX1_init_57 na_int (by decide) rfl (by decide) hSX jf ?_
      have hf := frs_s jf
      refine go_putF dX1_init_59 fX1_22 rfl (fun z => ⟨rfl, rfl⟩) rfl (fun r h => by cases h; rfl) (at_l hbX) ?_
      have hf := frs_upR (c := b) (i := 3) (x := some (b + 126)) hf (by omega)
      refine go_aload_n dX1_init_62 rfl ?_
      refine go_bipush (v := 9) dX1_init_63 (by decide) ?_
      refine go_newI' (N := 9) (q := (b + 127)) (rc := 4) (rs := 348) dX1_init_65 na_int (by decide) rfl (by decide) (len_s hSX) hf ?_
      have hf := frs_s hf
      refine go_putF dX1_init_67 fX1_26 rfl (fun z => ⟨rfl, rfl⟩) rfl (fun r h => by cases h; rfl) (at_l (at_l hbX)) ?_
      have hf := frs_upR (c := b) (i := 4) (x := some (b + 127)) hf (by omega)
      refine go_aload_n dX1_init_70 rfl ?_
      refine go_bipush (v := 9) dX1_init_71 (by decide) ?_
      refine go_newI' (N := 9) (q := (b + 128)) (rc := 3) (rs := 339) dX1_init_73 na_int (by decide) rfl (by decide) (len_s (len_s hSX)) hf ?_
      have hf := frs_s hf
      refine go_putF dX1_init_75 fX1_29 rfl (fun z => ⟨rfl, rfl⟩) rfl (fun r h => by cases h; rfl) (at_l (at_l (at_l hbX))) ?_
      have hf := frs_upR (c := b) (i := 5) (x := some (b + 128)) hf (by omega)
      refine go_aload_n dX1_init_78 rfl ?_
      refine go_sipush (v := 240) dX1_init_79 (by decide) ?_
      refine go_newI' (N := 240) (q := (b + 129)) (rc := 2) (rs := 99) dX1_init_82 na_int (by decide) rfl (by decide) (len_s (len_s (len_s hSX))) hf ?_
      have hf := frs_s hf
      refine go_putF dX1_init_84 fX1_32 rfl (fun z => ⟨rfl, rfl⟩) rfl (fun r h => by cases h; rfl) (at_l (at_l (at_l (at_l hbX)))) ?_
      have hf := frs_upR (c := b) (i := 7) (x := some (b + 129)) hf (by omega)
      refine go_aload_n dX1_init_87 rfl ?_
      refine go_bipush (v := 90) dX1_init_88 (by decide) ?_
      refine go_newI' (N := 90) (q := (b + 130)) (rc := 1) (rs := 9) dX1_init_90 na_int (by decide) rfl (by decide) (len_s (len_s (len_s (len_s hSX)))) hf ?_
      have hf := frs_s hf
      refine go_putF dX1_init_92 fX1_35 rfl (fun z => ⟨rfl, rfl⟩) rfl (fun r h => by cases h; rfl) (at_l (at_l (at_l (at_l (at_l hbX))))) ?_
      have hf := frs_upR (c := b) (i := 8) (x := some (b + 130)) hf (by omega)
      refine go_aload_n dX1_init_95 rfl ?_
      refine go_iconst (v := -1) dX1_init_96 (by decide) ?_
      refine go_putI dX1_init_97 fX1_38 rfl rfl rfl (at_l (at_l (at_l (at_l (at_l hbX))))) ?_
      have hf := frs_up (c := b) (i := 10) (x := (-1)) hf (by omega)
      refine go_aload_n dX1_init_100 rfl ?_
      refine go_sipush (v := 1023) dX1_init_101 (by decide) ?_
      refine go_putI dX1_init_104 fX1_42 rfl rfl rfl (at_l (at_l (at_l (at_l (at_l hbX))))) ?_
      have hf := frs_up (c := b) (i := 11) (x := 1023) hf (by omega)
      refine go_aload_n dX1_init_107 rfl ?_
      refine go_bipush (v := 9) dX1_init_108 (by decide) ?_
      refine go_newI' (N := 9) (q := (b + 131)) (rc := 0) (rs := 0) dX1_init_110 na_int (by decide) rfl (by decide) (len_s (len_s (len_s (len_s (len_s hSX))))) hf ?_
      have hf := frs_s hf
      refine go_putF dX1_init_112 fX1_45 rfl (fun z => ⟨rfl, rfl⟩) rfl (fun r h => by cases h; rfl) (at_l (at_l (at_l (at_l (at_l (at_l hbX)))))) ?_
      have hf := frs_upR (c := b) (i := 13) (x := some (b + 131)) hf (by omega)
      refine go_vret dX1_init_115 rfl rfl ?_
      rw [hSe]
      refine hq _ _ ⟨fun a ha => ⟨?_, ?_⟩, ⟨?_, ?_, ?_, ?_, ?_, ?_, ?_⟩, ⟨fun j => ?_, fun e he => ?_, fun j => ?_, ?_, ?_, ?_⟩, fun a a1 a2 j => ?_, ⟨?_, ?_, ?_, ?_, ?_, ?_, ?_, ?_⟩, ⟨?_, ?_, ?_⟩, fun k hk => ?_⟩ hf
      · rw [up_off a (by omega), up_off a (by omega), j1 a (by omega)]; exact n1.1 a (by omega) (by omega)
      · rw [upR_off a (by omega), upR_off a (by omega), upR_off a (by omega), upR_off a (by omega), upR_off a (by omega), upR_off a (by omega), j2 a (by omega), qo a (by omega)]; exact n1.2.2.2.1 a (by omega)
      · rw [up_ni (by decide), up_ni (by decide), j1 b (by omega), n1.1 b (by omega) (by omega)]; exact hz 2
      · rw [up_ni (by decide), up_ni (by decide), j1 b (by omega), n1.1 b (by omega) (by omega)]; exact hz 6
      · rw [up_ni (by decide), up_ni (by decide), j1 b (by omega), n1.1 b (by omega) (by omega)]; exact hz 9
      · rw [up_ni (by decide), up_eq]
      · rw [up_eq]
      · rw [up_ni (by decide), up_ni (by decide), j1 b (by omega), n1.1 b (by omega) (by omega)]; exact hz 12
      · rw [up_ni (by decide), up_ni (by decide), j1 b (by omega), n1.1 b (by omega) (by omega)]; exact hz 14
      · rw [up_nc (by omega), up_nc (by omega), j1 _ (by omega), n1.1 (b + 2) (by omega) (by omega)]; exact (hf0 (b + 2) (by omega)).1 j
      · rw [up_nc (by omega), up_nc (by omega), j1 _ (by omega)]; exact n1.2.2.1 e he
      · rw [up_nc (by omega), up_nc (by omega), j1 _ (by omega), n1.1 (b + 4) (by omega) (by omega)]; exact (hf0 (b + 4) (by omega)).1 j
      · rw [up_nc (by omega), up_nc (by omega), j1 _ (by omega)]; exact n1.2.1.1
      · rw [up_nc (by omega), up_nc (by omega), j1 _ (by omega)]; exact n1.2.1.2.1
      · rw [up_nc (by omega), up_nc (by omega), j1 _ (by omega)]; exact n1.2.1.2.2
      · rw [up_nc (by omega), up_nc (by omega)]; exact (jf0 (b + a) (by omega)).1 j
      · simp only [upR_ni (show (0 : Nat) ≠ 3 by decide), upR_ni (show (0 : Nat) ≠ 4 by decide), upR_ni (show (0 : Nat) ≠ 5 by decide), upR_ni (show (0 : Nat) ≠ 7 by decide), upR_ni (show (0 : Nat) ≠ 8 by decide), upR_ni (show (0 : Nat) ≠ 13 by decide)]; rw [j2 b (by omega)]; exact q0
      · simp only [upR_ni (show (1 : Nat) ≠ 3 by decide), upR_ni (show (1 : Nat) ≠ 4 by decide), upR_ni (show (1 : Nat) ≠ 5 by decide), upR_ni (show (1 : Nat) ≠ 7 by decide), upR_ni (show (1 : Nat) ≠ 8 by decide), upR_ni (show (1 : Nat) ≠ 13 by decide)]; rw [j2 b (by omega)]; exact q1
      · rw [upR_ni (by decide), upR_ni (by decide), upR_ni (by decide), upR_ni (by decide), upR_ni (by decide), upR_eq]
      · rw [upR_ni (by decide), upR_ni (by decide), upR_ni (by decide), upR_ni (by decide), upR_eq]
      · rw [upR_ni (by decide), upR_ni (by decide), upR_ni (by decide), upR_eq]
      · rw [upR_ni (by decide), upR_ni (by decide), upR_eq]
      · rw [upR_ni (by decide), upR_eq]
      · rw [upR_eq]
      · rw [upR_nc (by omega), upR_nc (by omega), upR_nc (by omega), upR_nc (by omega), upR_nc (by omega), upR_nc (by omega), j2 _ (by omega), qo _ (by omega)]; exact n1.2.2.2.2.1
      · rw [upR_nc (by omega), upR_nc (by omega), upR_nc (by omega), upR_nc (by omega), upR_nc (by omega), upR_nc (by omega), j2 _ (by omega), qo _ (by omega)]; exact n1.2.2.2.2.2.1
      · rw [upR_nc (by omega), upR_nc (by omega), upR_nc (by omega), upR_nc (by omega), upR_nc (by omega), upR_nc (by omega), j2 _ (by omega), qo _ (by omega)]; exact n1.2.2.2.2.2.2
      · have e : ∀ a j, a ≠ b → upR (upR (upR (upR (upR (upR RJ b 3 (some (b + 126))) b 4 (some (b + 127))) b 5 (some (b + 128))) b 7 (some (b + 129))) b 8 (some (b + 130))) b 13 (some (b + 131)) a j = RJ a j := fun a j ha => by
          rw [upR_nc ha, upR_nc ha, upR_nc ha, upR_nc ha, upR_nc ha, upR_nc ha]
        rw [e _ _ (by omega), e _ _ (by omega), e _ _ (by omega), e _ _ (by omega)]
        exact j3 k hk
    | succ m ih =>
      intro i J RJ hi j1 j2 j3 jf
      have hbX : (S1 ++ sc4 i)[b]? = some (0, 1) := at_l hb1
      have haX : (S1 ++ sc4 i)[b + 5]? = some (4, 30) := at_l ha1
      have hSX : (S1 ++ sc4 i).length = b + 6 + 4 * i := len_a (q := b + 6) (k := 4 * i) hS1 (sc4_len i)
      have qR : RJ b 1 = some (b + 5) := by rw [j2 b (by omega)]; exact q1
      refine go_iload_n dX1_init_26 rfl ?_
      refine go_aload_n dX1_init_27 rfl ?_
      refine go_getR dX1_init_28 fX1_18 rfl hbX qR ?_
      refine go_alen (n := 30) 3 dX1_init_31 haX (by decide) (v := 30) rfl ?_
      refine go_icmp_ge 54 dX1_init_32 (by decide) (fun c => absurd c (nI_ge (b := 30) (by omega) (by omega))) (fun c => ?_)
      refine go_aload_n dX1_init_35 rfl ?_
      refine go_getR dX1_init_36 fX1_18 rfl hbX qR ?_
      refine go_iload_n dX1_init_39 rfl ?_
      rw [show 4 * (m + 1) + 6 = (4 * m + 6) + 3 + 1 by omega, show 28 * (m + 1) + 366 = (28 * m + 366) + 22 + 6 by omega]
      refine go_new' (ci := 4) (N := 6) (q := b + 6 + 4 * i) (rc := (4 * m + 6) + 3) (rs := (28 * m + 366) + 22) dX1_init_40 ⟨_, rfl⟩ nX1_9 nw_X4 ni_X4 df4 hSX jf ?_
      refine go_dup dX1_init_43 rfl ?_
      refine go_callI (μ := mX1_init) (dd := 2) (rc := 4 * m + 6) (rs := 28 * m + 366) (rc2 := 3) (rs2 := 22) [] dX1_init_44 YX4_init lX1_11 rfl (Nat.le_of_ble_eq_true rfl) (Nat.le_of_ble_eq_true rfl) rfl (c_X4 (b := b + 6 + 4 * i) (len_s hSX) (at_n hSX) (frs_s jf) (fun J1 RJ1 n2 jf1 => ?_))
      refine go_aast (t := 0) (κ := 0) (ci := 4) (C := "SpoonScales$Scene") dX1_init_47 (at_l (at_l haX)) (fun G => rfl) (at_l (at_n hSX)) ⟨_, rfl, rfl⟩ (vp_in_nI (by omega) (by decide)) ?_
      rw [nI_clamp (by omega)]
      refine go_iinc dX1_init_48 rfl (Nat.le_of_ble_eq_true rfl) rfl ?_
      refine go_goto 26 dX1_init_51 (by decide) ?_
      rw [show nI i + Int32.ofInt 1 = nI (i + 1) from nI_1 i]
      rw [show S1 ++ sc4 i ++ [(0, 4)] ++ scS = S1 ++ sc4 (i + 1) by rw [sc4_s]; simp]
      obtain ⟨p1, p2, p3, p4, p5, p6, p7⟩ := n2
      refine ih (i + 1) J1 (upR RJ1 (b + 5) i (some (b + 6 + 4 * i))) (by omega) (fun a ha => by rw [p1 a (by omega) (by omega)]; exact j1 a ha) (fun a ha => by rw [upR_off a (by omega), p4 a (by omega)]; exact j2 a ha) (fun k hk => ?_) (frs_upR (frs_m jf1 (by omega)) (by omega))
      by_cases e : k = i
      · subst e
        refine ⟨upR_eq _ _ _ _, ?_, ?_, ?_⟩
        · rw [upR_nc (by omega)]; exact p5
        · rw [upR_nc (by omega)]; exact p6
        · rw [upR_nc (by omega)]; exact p7
      · rw [upR_ni e, upR_nc (by omega), upR_nc (by omega), upR_nc (by omega), p4 _ (by omega), p4 _ (by omega)]
        exact j3 k (by omega)
  have hm := main 30 0 I1 R2 (by omega) (fun _ _ => rfl) (fun _ _ => rfl) (fun k hk => by omega) hf3
  rwa [show S1 ++ sc4 0 = S1 by simp [sc4]] at hm
