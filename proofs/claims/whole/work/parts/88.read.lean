theorem e_X2_wipe {G : gG} {I : gI} {R : gR} {L : gL} {Q : gQ} {y : Nat} (hR : g_Fx R) (hy : g_La y) (h : ∀ I_1 : gI, I_1 = up I y 1 0 → ∀ I_2 : gI, I_2 = up I_1 y 7 0 → Go G mX2_wipe 2 0 0 12 [some (.ref y), some (.int 0)] [] SH I_2 R L Q) : Mt G mX2_wipe 2 0 0 [.ref y] SH I R L Q := by
  refine go_start rfl (Nat.le_of_ble_eq_true rfl) rfl ?_
  refine go_aload_n dX2_wipe_0 rfl ?_
  refine go_iconst (v := 0) dX2_wipe_1 (by decide) ?_
  refine go_putI dX2_wipe_2 fX2_33 rfl rfl rfl (La_s0 hy) ?_
  have h := h _ rfl
  refine go_aload_n dX2_wipe_5 rfl ?_
  refine go_iconst (v := 0) dX2_wipe_6 (by decide) ?_
  refine go_putI dX2_wipe_7 fX2_37 rfl rfl rfl (La_s0 hy) ?_
  have h := h _ rfl
  refine go_iconst (v := 0) dX2_wipe_10 (by decide) ?_
  refine go_istore_n dX2_wipe_11 (Nat.le_of_ble_eq_true rfl) rfl ?_
  exact h
theorem b_X2_wipe_12 {G : gG} {I : gI} {R : gR} {L : gL} {Q : gQ} {v1 : Int32} {y : Nat} (hR : g_Fx R) (hy : g_La y) (h : (2 < v1 → Q none SH I R L) ∧ (¬ 2 < v1 → vp_in v1 3 ∧ (∀ I_3 : gI, I_3 = up I (y + 2) v1.toNatClampNeg (-1) → vp_in v1 3 ∧ (∀ I_4 : gI, I_4 = up I_3 (y + 3) v1.toNatClampNeg (-1) → ∀ v1_5 : Int32, v1_5 = v1 + 1 → Go G mX2_wipe 2 0 0 12 [some (.ref y), some (.int v1_5)] [] SH I_4 R L Q)))) : Go G mX2_wipe 2 0 0 12 [some (.ref y), some (.int v1)] [] SH I R L Q := by
  refine go_iload_n dX2_wipe_12 rfl ?_
  refine go_iconst (v := 2) dX2_wipe_13 (by decide) ?_
  refine go_icmp_gt 37 dX2_wipe_14 (by decide) (fun c => ?_) (fun c => ?_)
  · have h := h.1 c
    exact go_vret dX2_wipe_37 rfl rfl h
  · have h := h.2 c
    refine go_aload_n dX2_wipe_17 rfl ?_
    refine go_getR dX2_wipe_18 fX2_15 rfl (La_s0 hy) (hR _ _ _ (La_r0_2 hy)) ?_
    refine go_iload_n dX2_wipe_21 rfl ?_
    refine go_iconst (v := -1) dX2_wipe_22 (by decide) ?_
    obtain ⟨hi, h⟩ := h
    refine go_iast dX2_wipe_23 (La_s2 hy) hi ?_
    have h := h _ rfl
    refine go_aload_n dX2_wipe_24 rfl ?_
    refine go_getR dX2_wipe_25 fX2_18 rfl (La_s0 hy) (hR _ _ _ (La_r0_3 hy)) ?_
    refine go_iload_n dX2_wipe_28 rfl ?_
    refine go_iconst (v := -1) dX2_wipe_29 (by decide) ?_
    obtain ⟨hi, h⟩ := h
    refine go_iast dX2_wipe_30 (La_s3 hy) hi ?_
    have h := h _ rfl
    refine go_iinc dX2_wipe_31 rfl (Nat.le_of_ble_eq_true rfl) rfl ?_
    have h := h _ rfl
    refine go_goto 12 dX2_wipe_34 (by decide) ?_
    exact h
theorem e_X3_read {G : gG} {I : gI} {R : gR} {L : gL} {Q : gQ} {a : Int32} {y : Nat} (hR : g_Fx R) (hy : g_La y) (h : ∀ I_1 : gI, I_1 = up I 306 1 (if 300 < a then 300 else a) → ∀ I_2 : gI, I_2 = up I_1 306 2 0 → ∀ I_3 : gI, I_3 = up I_2 306 7 0 → ∀ I_4 : gI, I_4 = up I_3 306 8 (-1) → ∀ R_5 : gR, R_5 = upR R 306 6 (some y) → ∃ y_6, R_5 306 6 = some y_6 ∧ g_La y_6 ∧ (Mt G mX2_wipe 2 0 0 [.ref y_6] SH I_4 R_5 L (fun r S' I' R' L' => Go G mX3_read 13 0 0 40 [some (.ref 306), none, none, none] (r.toList ++ []) S' I' R' L' Q))) : Mt G mX3_read 13 0 0 [.ref 306, .int a, .ref y] SH I R L Q := by
  refine go_start rfl (Nat.le_of_ble_eq_true rfl) rfl ?_
  refine go_aload_n dX3_read_0 rfl ?_
  refine go_iload_n dX3_read_1 rfl ?_
  refine go_aload_n dX3_read_2 rfl ?_
  refine go_getR dX3_read_3 fX3_9 rfl rfl (hR 306 0 307 rfl) ?_
  refine go_alen (v := 300) 0 dX3_read_6 rfl (by decide) (by decide) ?_
  refine go_mmin dX3_read_7 lX3_18 ns_min ni_J9 nc_min (Nat.le_of_ble_eq_true rfl) (Nat.le_of_ble_eq_true rfl) ?_
  refine go_putI dX3_read_10 fX3_24 rfl rfl rfl rfl ?_
  have h := h _ rfl
  refine go_aload_n dX3_read_13 rfl ?_
  refine go_iconst (v := 0) dX3_read_14 (by decide) ?_
  refine go_putI dX3_read_15 fX3_28 rfl rfl rfl rfl ?_
  have h := h _ rfl
  refine go_aload_n dX3_read_18 rfl ?_
  refine go_iconst (v := 0) dX3_read_19 (by decide) ?_
  refine go_putI dX3_read_20 fX3_31 rfl rfl rfl rfl ?_
  have h := h _ rfl
  refine go_aload_n dX3_read_23 rfl ?_
  refine go_iconst (v := -1) dX3_read_24 (by decide) ?_
  refine go_putI dX3_read_25 fX3_34 rfl rfl rfl rfl ?_
  have h := h _ rfl
  refine go_aload_n dX3_read_28 rfl ?_
  refine go_aload_n dX3_read_29 rfl ?_
  refine go_putR dX3_read_30 fX3_37 rfl (fun _ => ⟨rfl, rfl⟩) rfl ?_
  have h := h _ rfl
  have hR_5 := g_Fx_up (c := 306) (i := 6) (x := some y) rfl hR
  refine go_aload_n dX3_read_33 rfl ?_
  obtain ⟨y_6, hry_6, hy_6, h⟩ := h
  refine go_getR dX3_read_34 fX3_37 rfl rfl hry_6 ?_
  refine go_drop 1 ?_
  refine go_drop 2 ?_
  refine go_callV0 (μ := mX3_read) [] dX3_read_37 YX2_wipe lX3_41 (La_s0 hy_6) ⟨_, rfl, rfl⟩ rfl (Nat.le_of_ble_eq_true rfl) (Nat.le_of_ble_eq_true rfl) rfl h
theorem b_X3_read_40 {G : gG} {I : gI} {R : gR} {L : gL} {Q : gQ} (hR : g_Fx R) (h : Mt G mX3_advance 9 0 0 [.ref 306] SH I R L (fun r S' I' R' L' => Go G mX3_read 13 0 0 44 [some (.ref 306), none, none, none] (r.toList ++ []) S' I' R' L' Q)) : Go G mX3_read 13 0 0 40 [some (.ref 306), none, none, none] [] SH I R L Q := by
  refine go_aload_n dX3_read_40 rfl ?_
  refine go_callV0 (μ := mX3_read) [] dX3_read_41 YX3_advance lX3_46 rfl ⟨_, rfl, rfl⟩ rfl (Nat.le_of_ble_eq_true rfl) (Nat.le_of_ble_eq_true rfl) rfl h
theorem b_X3_read_44 {G : gG} {I : gI} {R : gR} {L : gL} {Q : gQ} (hR : g_Fx R) (h : Go G mX3_read 13 0 0 46 [some (.ref 306), none, none, some (.int 0)] [] SH I R L Q) : Go G mX3_read 13 0 0 44 [some (.ref 306), none, none, none] [] SH I R L Q := by
  refine go_iconst (v := 0) dX3_read_44 (by decide) ?_
  refine go_istore_n dX3_read_45 (Nat.le_of_ble_eq_true rfl) rfl ?_
  exact h
theorem b_X3_read_46 {G : gG} {I : gI} {R : gR} {L : gL} {Q : gQ} {v3 : Int32} (hR : g_Fx R) (h : (24 < v3 → Q none SH I R L) ∧ (¬ 24 < v3 → (¬ (I 306 7) = 0 → Q none SH I R L) ∧ ((I 306 7) = 0 → ((I 306 3) = 38 → Q none SH I R L) ∧ (¬ (I 306 3) = 38 → Mt G mX3_readClause 12 0 0 [.ref 306, .int v3] SH I R L (fun r S' I' R' L' => Go G mX3_read 13 0 0 73 [some (.ref 306), none, none, some (.int v3)] (r.toList ++ []) S' I' R' L' Q))))) : Go G mX3_read 13 0 0 46 [some (.ref 306), none, none, some (.int v3)] [] SH I R L Q := by
  refine go_iload_n dX3_read_46 rfl ?_
  refine go_bipush (v := 24) dX3_read_47 (by decide) ?_
  refine go_icmp_gt 79 dX3_read_49 (by decide) (fun c => ?_) (fun c => ?_)
  · have h := h.1 c
    exact go_vret dX3_read_79 rfl rfl h
  · have h := h.2 c
    refine go_aload_n dX3_read_52 rfl ?_
    refine go_getI dX3_read_53 fX3_31 rfl rfl ?_
    refine go_if_ne 79 dX3_read_56 (by decide) (fun c => ?_) (fun c => ?_)
    · have h := h.1 c
      exact go_vret dX3_read_79 rfl rfl h
    · have h := h.2 c
      refine go_aload_n dX3_read_59 rfl ?_
      refine go_getI dX3_read_60 fX3_49 rfl rfl ?_
      refine go_bipush (v := 38) dX3_read_63 (by decide) ?_
      refine go_icmp_eq 79 dX3_read_65 (by decide) (fun c => ?_) (fun c => ?_)
      · have h := h.1 c
        exact go_vret dX3_read_79 rfl rfl h
      · have h := h.2 c
        refine go_aload_n dX3_read_68 rfl ?_
        refine go_iload_n dX3_read_69 rfl ?_
        refine go_callV0 (μ := mX3_read) [.int _] dX3_read_70 YX3_readClause lX3_52 rfl ⟨_, rfl, rfl⟩ rfl (Nat.le_of_ble_eq_true rfl) (Nat.le_of_ble_eq_true rfl) rfl h
theorem b_X3_read_73 {G : gG} {I : gI} {R : gR} {L : gL} {Q : gQ} {v3 : Int32} (hR : g_Fx R) (h : ∀ v3_10 : Int32, v3_10 = v3 + 1 → Go G mX3_read 13 0 0 46 [some (.ref 306), none, none, some (.int v3_10)] [] SH I R L Q) : Go G mX3_read 13 0 0 73 [some (.ref 306), none, none, some (.int v3)] [] SH I R L Q := by
  refine go_iinc dX3_read_73 rfl (Nat.le_of_ble_eq_true rfl) rfl ?_
  have h := h _ rfl
  refine go_goto 46 dX3_read_76 (by decide) ?_
  exact h
theorem e_X6_text {G : gG} {I : gI} {R : gR} {L : gL} {Q : gQ} (hR : g_Fx R) (h : ∀ v1_1 : Int32, v1_1 = (I 3 9) → (v1_1 < 0 → Q (some (.int (-1))) SH I R L) ∧ (¬ v1_1 < 0 → (v1_1 < 4 → vp_in v1_1 4 ∧ (∃ y_2, R 135 v1_1.toNatClampNeg = some y_2 ∧ g_La y_2 ∧ (Mt G mX3_read 13 0 0 [.ref 306, .int (I 0 6), .ref y_2] SH I R L (fun r S' I' R' L' => Go G mX6_text 14 0 0 39 [some (.ref 0), some (.int v1_1)] (r.toList ++ []) S' I' R' L' Q)))) ∧ (¬ v1_1 < 4 → Q (some (.int (-1))) SH I R L))) : Mt G mX6_text 14 0 0 [.ref 0] SH I R L Q := by
  refine go_start rfl (Nat.le_of_ble_eq_true rfl) rfl ?_
  refine go_aload_n dX6_text_0 rfl ?_
  refine go_getR dX6_text_1 fX6_27 rfl rfl (hR 0 2 3 rfl) ?_
  refine go_getI dX6_text_4 fX6_134 rfl rfl ?_
  refine go_istore_n dX6_text_7 (Nat.le_of_ble_eq_true rfl) rfl ?_
  have h := h _ rfl
  refine go_iload_n dX6_text_8 rfl ?_
  refine go_if_lt 17 dX6_text_9 (by decide) (fun c => ?_) (fun c => ?_)
  · have h := h.1 c
    refine go_iconst (v := -1) dX6_text_17 (by decide) ?_
    exact go_iret dX6_text_18 rfl rfl h
  · have h := h.2 c
    refine go_iload_n dX6_text_12 rfl ?_
    refine go_iconst (v := 4) dX6_text_13 (by decide) ?_
    refine go_icmp_lt 19 dX6_text_14 (by decide) (fun c => ?_) (fun c => ?_)
    · have h := h.1 c
      refine go_aload_n dX6_text_19 rfl ?_
      refine go_getR dX6_text_20 fX6_37 rfl rfl (hR 0 4 306 rfl) ?_
      refine go_aload_n dX6_text_23 rfl ?_
      refine go_getI dX6_text_24 fX6_45 rfl rfl ?_
      refine go_aload_n dX6_text_27 rfl ?_
      refine go_getR dX6_text_28 fX6_20 rfl rfl (hR 0 1 2 rfl) ?_
      refine go_getR dX6_text_31 fX6_137 rfl rfl (hR 2 1 135 rfl) ?_
      refine go_iload_n dX6_text_34 rfl ?_
      obtain ⟨hi, h⟩ := h
      obtain ⟨y_2, hry_2, hy_2, h⟩ := h
      refine go_aald5 dX6_text_35 rfl hi hry_2 ?_
      refine go_callV0 (μ := mX6_text) [.int _, .ref y_2] dX6_text_36 YX3_read lX6_141 rfl ⟨_, rfl, rfl⟩ rfl (Nat.le_of_ble_eq_true rfl) (Nat.le_of_ble_eq_true rfl) rfl h
    · have h := h.2 c
      refine go_iconst (v := -1) dX6_text_17 (by decide) ?_
      exact go_iret dX6_text_18 rfl rfl h
theorem b_X6_text_39 {G : gG} {I : gI} {R : gR} {L : gL} {Q : gQ} {v1 : Int32} (hR : g_Fx R) (h : ∀ I_5 : gI, I_5 = up I 0 6 0 → ∀ I_6 : gI, I_6 = up I_5 0 7 (I_5 306 7) → ∀ I_7 : gI, I_7 = up I_6 0 8 (I_6 306 8) → ((I_7 0 7) = 0 → ∀ I_8 : gI, I_8 = up I_7 3 9 (v1 + 1) → Q (some (.int v1)) SH I_8 R L) ∧ (¬ (I_7 0 7) = 0 → Q (some (.int (-1))) SH I_7 R L)) : Go G mX6_text 14 0 0 39 [some (.ref 0), some (.int v1)] [] SH I R L Q := by
  refine go_aload_n dX6_text_39 rfl ?_
  refine go_iconst (v := 0) dX6_text_40 (by decide) ?_
  refine go_putI dX6_text_41 fX6_45 rfl rfl rfl rfl ?_
  have h := h _ rfl
  refine go_aload_n dX6_text_44 rfl ?_
  refine go_aload_n dX6_text_45 rfl ?_
  refine go_getR dX6_text_46 fX6_37 rfl rfl (hR 0 4 306 rfl) ?_
  refine go_getI dX6_text_49 fX6_145 rfl rfl ?_
  refine go_putI dX6_text_52 fX6_49 rfl rfl rfl rfl ?_
  have h := h _ rfl
  refine go_aload_n dX6_text_55 rfl ?_
  refine go_aload_n dX6_text_56 rfl ?_
  refine go_getR dX6_text_57 fX6_37 rfl rfl (hR 0 4 306 rfl) ?_
  refine go_getI dX6_text_60 fX6_148 rfl rfl ?_
  refine go_putI dX6_text_63 fX6_52 rfl rfl rfl rfl ?_
  have h := h _ rfl
  refine go_aload_n dX6_text_66 rfl ?_
  refine go_getI dX6_text_67 fX6_49 rfl rfl ?_
  refine go_if_eq 75 dX6_text_70 (by decide) (fun c => ?_) (fun c => ?_)
  · have h := h.1 c
    refine go_aload_n dX6_text_75 rfl ?_
    refine go_getR dX6_text_76 fX6_27 rfl rfl (hR 0 2 3 rfl) ?_
    refine go_iload_n dX6_text_79 rfl ?_
    refine go_iconst (v := 1) dX6_text_80 (by decide) ?_
    refine go_iadd dX6_text_81 ?_
    refine go_putI dX6_text_82 fX6_134 rfl rfl rfl rfl ?_
    have h := h _ rfl
    refine go_iload_n dX6_text_85 rfl ?_
    exact go_iret dX6_text_86 rfl rfl h
  · have h := h.2 c
    refine go_iconst (v := -1) dX6_text_73 (by decide) ?_
    exact go_iret dX6_text_74 rfl rfl h
/-- a text's clauses, one behind the other -/
def TRw (T : Nat → Nat) (n : Nat) : Nat → rds → List cls → Nat × Nat ⊕ List cls → Prop
  | 0, σ, cl, r => (∃ f, σ = .inl f ∧ r = .inl f) ∨ ∃ pl v a, σ = .inr (pl, 38, v, a) ∧ r = .inr cl
  | m + 1, σ, cl, r => ∃ pl tk v a σ' cl', σ = .inr (pl, tk, v, a) ∧ tk ≠ 38 ∧ CW T n pl tk v a cl σ' cl' ∧ TRw T n m σ' cl' r
theorem k_X2_wipe {G : gG} {I : gI} {R : gR} {L : gL} {Q : gQ} {y : Nat} (hR : g_Fx R) (hy : g_La y) (hq : ∀ I', rpL I' y [] → (∀ c, ¬ (y ≤ c ∧ c ≤ y + 6) → I' c = I c) → Q none SH I' R L) : Mt G mX2_wipe 2 0 0 [.ref y] SH I R L Q := by
  have hr2 := La_rng hy
  refine e_X2_wipe hR hy ?_
  rintro _ rfl _ rfl
  have main : ∀ (m k : Nat) (J : gI), k + m = 3 → J y 7 = 0 → J y 1 = 0 → (∀ w, w < k → J (y + 2) w = -1) → (∀ c, ¬ (y ≤ c ∧ c ≤ y + 6) → J c = I c) → Go G mX2_wipe 2 0 0 12 [some (.ref y), some (.int (nI k))] [] SH J R L Q := by
    intro m
    induction m with
    | zero =>
      intro k J hk h7 h1 hw hf
      refine b_X2_wipe_12 hR hy ⟨fun _ => hq J ⟨h7, h1, fun k hk => absurd hk (by simp [catN]), fun k c hc => by simp at hc, fun w hw3 => Or.inl ⟨hw w (by omega), fun ⟨c, hc, _⟩ => by simp at hc⟩⟩ hf, fun c => absurd (nI_lt (a := 2) (by omega) (by omega)) c⟩
    | succ m ih =>
      intro k J hk h7 h1 hw hf
      refine b_X2_wipe_12 hR hy ⟨fun c => absurd c (nI_nlt (a := 2) (by omega) (by decide)), fun _ => ⟨vp_in_nI (by omega) (by decide), ?_⟩⟩
      rintro _ rfl
      refine ⟨vp_in_nI (by omega) (by decide), ?_⟩
      rintro _ rfl _ rfl
      rw [nI_clamp (by omega), nI_1]
      refine ih (k + 1) _ (by omega) ?_ ?_ (fun w hwk => ?_) (fun c hc => ?_)
      · rw [up_nc (by omega), up_nc (by omega)]; exact h7
      · rw [up_nc (by omega), up_nc (by omega)]; exact h1
      · rw [up_nc (by omega)]
        by_cases e : w = k
        · subst e; exact up_eq _ _ _ _
        · rw [up_ni e]; exact hw w (by omega)
      · rw [up_off c (by omega), up_off c (by omega)]; exact hf c hc
  exact main 3 0 _ rfl (up_eq _ _ _ _) (by rw [up_ni (by decide), up_eq]) (fun w hw => by omega) (fun c hc => by rw [up_off c (by omega), up_off c (by omega)])
/-- what a reading of the tape brings -/
def rdO (T : Nat → Nat) (n y : Nat) (I' : gI) : Prop := ∃ pl tk v a m, Lx T n 0 pl tk v a ∧
  ((∃ k p, TRw T n m (.inr (pl, tk, v, a)) [] (.inl (k, p)) ∧ k ≠ 0 ∧ k ≤ 6 ∧ p ≤ n ∧ I' 306 7 = nI k ∧ I' 306 8 = nI p) ∨
   ∃ cl, TRw T n m (.inr (pl, tk, v, a)) [] (.inr cl) ∧ I' 306 7 = 0 ∧ I' 306 8 = -1 ∧ rpL I' y cl ∧ cl.length ≤ 24 ∧ (catN cl).length ≤ 300)
theorem k_X3_read {G : gG} {I : gI} {R : gR} {L : gL} {Q : gQ} {T : Nat → Nat} {n y : Nat} (hR : g_Fx R) (hy : g_La y) (hT : tpT I T n)
    (hq : ∀ I', rdO T n y I' → (∀ c, c ≠ 306 → c ≠ 308 → ¬ (y ≤ c ∧ c ≤ y + 6) → I' c = I c) → Q none SH I' (upR R 306 6 (some y)) L) : Mt G mX3_read 13 0 0 [.ref 306, .int (nI n), .ref y] SH I R L Q := by
  have hr2 := La_rng hy
  have hn := hT.1
  refine e_X3_read hR hy ?_
  rw [show (if (300 : Int32) < nI n then 300 else nI n) = nI n from if_neg (nI_nlt (a := 300) hn (by decide))]
  rintro _ rfl _ rfl _ rfl _ rfl _ rfl
  have hR2 : g_Fx (upR R 306 6 (some y)) := g_Fx_up (c := 306) (i := 6) (x := some y) rfl hR
  have hr : upR R 306 6 (some y) 306 6 = some y := upR_eq _ _ _ _
  refine ⟨y, hr, hy, ?_⟩
  refine k_X2_wipe hR2 hy (fun I1 w1 w2 => b_X3_read_40 hR2 ?_)
  have e306 : I1 306 = up (up (up (up I 306 1 (nI n)) 306 2 0) 306 7 0) 306 8 (-1) 306 := w2 306 (by omega)
  have a1 : I1 306 1 = nI n := by rw [e306, up_ni (by decide), up_ni (by decide), up_ni (by decide), up_eq]
  have a2 : I1 306 2 = nI 0 := by rw [e306, up_ni (by decide), up_ni (by decide), up_eq]; rfl
  have a7 : I1 306 7 = 0 := by rw [e306, up_ni (by decide), up_eq]
  have a8 : I1 306 8 = -1 := by rw [e306, up_eq]
  have fI : ∀ c, c ≠ 306 → ¬ (y ≤ c ∧ c ≤ y + 6) → I1 c = I c := fun c q1 q2 => by rw [w2 c q2, up_off c q1, up_off c q1, up_off c q1, up_off c q1]
  have t1 : tpT I1 T n := ⟨hn, fun j hj => by rw [fI 307 (by decide) (by omega)]; exact hT.2 j hj⟩
  refine k_X3_advance (p := 0) hR2 t1 a1 a2 (by omega) (fun pl0 tk0 v0 a0 x hL hx => b_X3_read_44 hR2 ?_)
  have main : ∀ (m : Nat) (cl : List cls) (σ : rds) (J : gI), 24 - cl.length < m → cl.length ≤ 25 → rdS J T n σ → (∀ q, σ = .inr q → rpL J y cl ∧ (catN cl).length ≤ q.1 ∧ cl.length ≤ 24) → tpT J T n → (∀ c, c ≠ 306 → c ≠ 308 → ¬ (y ≤ c ∧ c ≤ y + 6) → J c = I c) → (∀ r, (∃ m, TRw T n m σ cl r) → ∃ m, TRw T n m (.inr (pl0, tk0, v0, a0)) [] r) → ∀ z : Int32, (∀ q, σ = .inr q → z = nI cl.length) →
      Go G mX3_read 13 0 0 46 [some (.ref 306), none, none, some (.int z)] [] SH J (upR R 306 6 (some y)) L Q := by
    intro m
    induction m with
    | zero => intro cl σ J hm; omega
    | succ m ih =>
      intro cl σ J hm hc25 hS hP tJ fJ lift z hz
      rcases hS with ⟨k, p, e1, h1, h2, h3, h4, h5⟩ | ⟨pl, tk, v, a, e1, h1, h8, hx, p, hp⟩
      · subst e1
        have hk0 : ¬ J 306 7 = 0 := by rw [h4]; exact nI_ne0 (by omega) (by omega)
        obtain ⟨q, hq2⟩ := lift (.inl (k, p)) ⟨0, Or.inl ⟨_, rfl, rfl⟩⟩
        have hfin : Q none SH J (upR R 306 6 (some y)) L := hq J ⟨pl0, tk0, v0, a0, q, hL, Or.inl ⟨k, p, hq2, h1, h2, h3, h4, h5⟩⟩ fJ
        exact b_X3_read_46 hR2 ⟨fun _ => hfin, fun _ => ⟨fun _ => hfin, fun c => absurd c hk0⟩⟩
      · subst e1
        obtain ⟨c1, c2, c3⟩ := hP _ rfl
        rw [hz _ rfl]
        obtain ⟨x1, x2, x3, x4, x5, x6, x7, x8⟩ := Lx_adv hp
        have e38 : nI tk = 38 ↔ tk = 38 := tkE (k := 38) (by omega) (by decide)
        refine b_X3_read_46 hR2 ⟨fun c => absurd c (nI_nlt (a := 24) c3 (by decide)), fun _ => ⟨fun c => absurd h1 c, fun _ => ?_⟩⟩
        rw [hx.2.2.1, e38]
        refine ⟨fun c => ?_, fun c => ?_⟩
        · subst c
          obtain ⟨q, hq2⟩ := lift (.inr cl) ⟨0, Or.inr ⟨pl, v, a, rfl, rfl⟩⟩
          exact hq J ⟨pl0, tk0, v0, a0, q, hL, Or.inr ⟨cl, hq2, h1, h8, c1, c3, by simp only at c2; omega⟩⟩ fJ
        · refine k_X3_readClause hR2 hr hy tJ h1 h8 hx ⟨p, hp⟩ c c1 c3 c2 (fun I' σ' cl' hC hS' hR' hF => b_X3_read_73 hR2 ?_)
          rintro _ rfl
          rw [nI_1]
          have tI : tpT I' T n := ⟨hn, fun j hj => by rw [hF.1 307 (by decide) (by decide) (by omega)]; exact tJ.2 j hj⟩
          have fI' : ∀ c, c ≠ 306 → c ≠ 308 → ¬ (y ≤ c ∧ c ≤ y + 6) → I' c = I c := fun c q1 q2 q3 => (hF.1 c q1 q2 q3).trans (fJ c q1 q2 q3)
          have lift' : ∀ r, (∃ m, TRw T n m σ' cl' r) → ∃ m, TRw T n m (.inr (pl0, tk0, v0, a0)) [] r := fun r ⟨q, hq2⟩ => lift r ⟨q + 1, pl, tk, v, a, σ', cl', rfl, c, hC, hq2⟩
          rcases hS' with ⟨k, p', e1, g1, g2, g3, g4, g5⟩ | ⟨pl', tk', v', a', e1, g⟩
          · -- a fault: the end
            subst e1
            have hk0 : ¬ I' 306 7 = 0 := by rw [g4]; exact nI_ne0 (by omega) (by omega)
            obtain ⟨q, hq2⟩ := lift' (.inl (k, p')) ⟨0, Or.inl ⟨_, rfl, rfl⟩⟩
            have hfin : Q none SH I' (upR R 306 6 (some y)) L := hq I' ⟨pl0, tk0, v0, a0, q, hL, Or.inl ⟨k, p', hq2, g1, g2, g3, g4, g5⟩⟩ fI'
            exact b_X3_read_46 hR2 ⟨fun _ => hfin, fun _ => ⟨fun _ => hfin, fun c => absurd c hk0⟩⟩
          · subst e1
            obtain ⟨d1, d2, d3⟩ := hR' _ rfl
            have hlt : cl.length < 24 := by
              rcases hC with ⟨k, -, e⟩ | ⟨-, -, h, -⟩ | ⟨-, -, h, -⟩
              · cases e
              · exact h
              · exact h
            exact ih cl' (.inr (pl', tk', v', a')) I' (by omega) (by omega) (Or.inr ⟨pl', tk', v', a', rfl, g⟩) (fun q e => by cases e; exact ⟨d1, d2, by omega⟩) tI fI' lift' _ (fun q e => by rw [d3])
  have w1' : rpL (avI I1 pl0 tk0 x a0) y [] := by
    obtain ⟨q1, q2, q3, q4, q5⟩ := w1
    refine ⟨by rw [av_o (by omega)]; exact q1, by rw [av_o (by omega)]; exact q2, lsN_of (fun k _ => av_o (by omega)) q3, fun k c hc => by simp at hc, fun w hw => ?_⟩
    rw [av_o (by omega), av_o (by omega)]
    exact q5 w hw
  exact main 25 [] (.inr (pl0, tk0, v0, a0)) _ (by simp) (by simp) (Or.inr ⟨pl0, tk0, v0, a0, rfl, by rw [av_o (by omega)]; exact a7, by rw [av_o (by omega)]; exact a8, lxR_av a1 hx, _, hL⟩) (fun q e => ⟨w1', by simp [catN], by simp⟩) (tpT_av t1) (fun c q1 q2 q3 => by funext j; rw [av_o (Or.inl q1), fI c q1 q3]) (fun r h => h) 0 (fun q e => rfl)
