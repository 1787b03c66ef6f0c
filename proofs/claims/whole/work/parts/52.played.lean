theorem dd_no {θ : thy} {f : Nat → Int32} {v x y : Int32} (h : ¬ v = 3 ∧ ¬ v = 4 ∧ ¬ v = 5 ∧ ¬ v = 6) : ¬ ddN θ f v x y ∧ ddF θ f v x y = f := by
  obtain ⟨h1, h2, h3, h4⟩ := h
  refine ⟨fun q => ?_, by unfold ddF; rw [if_neg h1, if_neg h2, if_neg h3, if_neg h4]⟩
  rcases q with q | q | q | q
  · exact h1 q.1
  · exact h2 q.1
  · exact h3 q.1
  · exact h4 q.1
theorem dd_3 {θ : thy} {f : Nat → Int32} {v x y : Int32} (h : v = 3) : (ddN θ f v x y ↔ ¬ sitA f x y) ∧ ddF θ f v x y = sitF f x y := by
  subst h; exact ⟨by unfold ddN; simp, rfl⟩
theorem dd_4 {θ : thy} {f : Nat → Int32} {v x y : Int32} (h : v = 4) : (ddN θ f v x y ↔ ¬ spA θ f x y) ∧ ddF θ f v x y = spF f x y (Int32.ofInt (spG θ f x y)) := by
  subst h; exact ⟨by unfold ddN; simp, rfl⟩
theorem dd_5 {θ : thy} {f : Nat → Int32} {v x y : Int32} (h : v = 5) : (ddN θ f v x y ↔ ¬ jdA f x) ∧ ddF θ f v x y = jdF f x (jdV θ f x) := by
  subst h; exact ⟨by unfold ddN; simp, rfl⟩
theorem dd_6 {θ : thy} {f : Nat → Int32} {v x y : Int32} (h : v = 6) : (ddN θ f v x y ↔ ¬ flA x) ∧ ddF θ f v x y = flF f x := by
  subst h; exact ⟨by unfold ddN; simp, rfl⟩
theorem k_X6_playClause {G : gG} {I : gI} {R : gR} {L : gL} {Q : gQ} {i : Int32} {y : Nat} {θ : thy} {f : Nat → Int32} (hF : g_Fx R) (hy : g_La y) (p0 : vp_in i 24) (h : CI I R θ f) (hq : ∀ r I1 R1, (g_Fx R1 ∧ pcC I θ f (I (y + 4) i.toNatClampNeg) (I (y + 5) i.toNatClampNeg) (I (y + 6) i.toNatClampNeg) r I1 R1) → Q (some (.int r)) SH I1 R1 L) : Mt G mX6_playClause 31 0 0 [.ref 0, .ref y, .int i] SH I R L Q := by
  refine e_X6_playClause (θ := θ) (f := f) hF hy ⟨p0, ?_⟩
  rintro _ rfl
  refine ⟨p0, ?_⟩
  rintro _ rfl
  refine ⟨p0, fun d => ⟨h, ?_⟩, fun d => ⟨h, ?_⟩, fun d => ⟨h, ?_⟩, fun d => ⟨h, ?_⟩, fun d => ?_⟩
  · rintro r I1 R1 ⟨g, k⟩
    refine ⟨?_, hq _ _ _ ⟨g, ?_⟩⟩
    · rcases k with k | k
      · exact Or.inl k.2.1
      · exact Or.inr k.2.1
    · obtain ⟨e1, e2⟩ := dd_3 (θ := θ) (f := f) (x := I (y + 5) i.toNatClampNeg) (y := I (y + 6) i.toNatClampNeg) d
      unfold pcC
      rw [e1, e2]
      rcases k with k | k
      · exact Or.inl k
      · exact Or.inr ⟨fun q => q k.1, k.2⟩
  · rintro r I1 R1 ⟨g, k⟩
    obtain ⟨e1, e2⟩ := dd_4 (θ := θ) (f := f) (x := I (y + 5) i.toNatClampNeg) (y := I (y + 6) i.toNatClampNeg) d
    unfold pcC at hq
    rw [e1, e2] at hq
    rcases k with k | k
    · exact ⟨fun _ => hq _ _ _ ⟨g, Or.inl ⟨k.1, rfl, k.2.2⟩⟩, fun q => absurd k.2.1 q⟩
    · exact ⟨fun q => absurd q k.2.1, fun _ => hq _ _ _ ⟨g, Or.inr ⟨fun q => q k.1, rfl, k.2.2⟩⟩⟩
  · rintro r I1 R1 ⟨g, k⟩
    obtain ⟨e1, e2⟩ := dd_5 (θ := θ) (f := f) (x := I (y + 5) i.toNatClampNeg) (y := I (y + 6) i.toNatClampNeg) d
    unfold pcC at hq
    rw [e1, e2] at hq
    rcases k with k | k
    · exact ⟨fun _ => hq _ _ _ ⟨g, Or.inl ⟨k.1, rfl, k.2.2⟩⟩, fun q => absurd k.2.1 q⟩
    · exact ⟨fun q => absurd q k.2.1, fun _ => hq _ _ _ ⟨g, Or.inr ⟨fun q => q k.1, rfl, k.2.2⟩⟩⟩
  · rintro r I1 R1 ⟨g, k⟩
    obtain ⟨e1, e2⟩ := dd_6 (θ := θ) (f := f) (x := I (y + 5) i.toNatClampNeg) (y := I (y + 6) i.toNatClampNeg) d
    unfold pcC at hq
    rw [e1, e2] at hq
    rcases k with k | k
    · exact ⟨fun _ => hq _ _ _ ⟨g, Or.inl ⟨k.1, rfl, k.2.2⟩⟩, fun q => absurd k.2.1 q⟩
    · exact ⟨fun q => absurd q k.2.1, fun _ => hq _ _ _ ⟨g, Or.inr ⟨fun q => q k.1, rfl, k.2.2⟩⟩⟩
  · obtain ⟨e1, e2⟩ := dd_no (θ := θ) (f := f) (x := I (y + 5) i.toNatClampNeg) (y := I (y + 6) i.toNatClampNeg) d
    refine hq _ _ _ ⟨hF, Or.inr ⟨e1, rfl, ?_⟩⟩
    rw [e2]
    exact stepC_rfl hF h
theorem e_X6_played {G : gG} {I : gI} {R : gR} {L : gL} {Q : gQ} {θ : thy} {f : Nat → Int32} {a : Int32} (hR : g_Fx R) (h : (0 ≤ a ∧ a < I 3 9 ∧ a < 4 → vp_in a 4 ∧ (∃ y_1, R 135 a.toNatClampNeg = some y_1 ∧ g_La y_1 ∧ (Go G mX6_played 32 0 0 23 [some (.ref 0), none, some (.ref y_1), some (.int 0)] [] SH I R L Q))) ∧ (¬ (0 ≤ a ∧ a < I 3 9 ∧ a < 4) → Q (some (.int (-2))) SH I R L)) : Mt G mX6_played 32 0 0 [.ref 0, .int a] SH I R L Q := by
  refine go_start rfl (Nat.le_of_ble_eq_true rfl) rfl ?_
  refine go_aload_n dX6_played_0 rfl ?_
  refine go_iload_n dX6_played_1 rfl ?_
  refine go_callV0 (μ := mX6_played) [.int _] dX6_played_2 YX6_isText lX6_151 rfl ⟨_, rfl, rfl⟩ rfl (Nat.le_of_ble_eq_true rfl) (Nat.le_of_ble_eq_true rfl) rfl (k_X6_isText hR ?_)
  refine go_if_ne 11 dX6_played_5 (by decide) (fun c => ?_) (fun c => ?_)
  · have h := h.1 (b1.mp c)
    refine go_aload_n dX6_played_11 rfl ?_
    refine go_getR dX6_played_12 fX6_20 rfl rfl (hR 0 1 2 rfl) ?_
    refine go_getR dX6_played_15 fX6_137 rfl rfl (hR 2 1 135 rfl) ?_
    refine go_iload_n dX6_played_18 rfl ?_
    obtain ⟨hi, h⟩ := h
    obtain ⟨y_1, hry_1, hy_1, h⟩ := h
    refine go_aald5 dX6_played_19 rfl hi hry_1 ?_
    refine go_astore_n dX6_played_20 (Nat.le_of_ble_eq_true rfl) rfl ?_
    refine go_iconst (v := 0) dX6_played_21 (by decide) ?_
    refine go_istore_n dX6_played_22 (Nat.le_of_ble_eq_true rfl) rfl ?_
    refine go_drop 1 ?_
    exact h
  · have h := h.2 (b0.mp c)
    refine go_bipush (v := -2) dX6_played_8 (by decide) ?_
    exact go_iret dX6_played_10 rfl rfl h
theorem b_X6_played_23 {G : gG} {I : gI} {R : gR} {L : gL} {Q : gQ} {θ : thy} {f : Nat → Int32} {v3 : Int32} {r2 : Nat} (hR : g_Fx R) (hr2 : g_La r2) (h : ((I r2 7) ≤ v3 → Q (some (.int (-1))) SH I R L) ∧ (¬ (I r2 7) ≤ v3 → (24 ≤ v3 → Q (some (.int (-1))) SH I R L) ∧ (¬ 24 ≤ v3 → vp_in v3 24 ∧ (CI I R θ f ∧ (∀ r_5 : Int32, ∀ I_6 : gI, ∀ R_7 : gR, (g_Fx R_7 ∧ pcC I θ f (I (r2 + 4) v3.toNatClampNeg) (I (r2 + 5) v3.toNatClampNeg) (I (r2 + 6) v3.toNatClampNeg) r_5 I_6 R_7) → (¬ r_5 = 0 → ∀ v3_9 : Int32, v3_9 = v3 + 1 → Go G mX6_played 32 0 0 23 [some (.ref 0), none, some (.ref r2), some (.int v3_9)] [] SH I_6 R_7 L Q) ∧ (r_5 = 0 → Q (some (.int v3)) SH I_6 R_7 L)))))) : Go G mX6_played 32 0 0 23 [some (.ref 0), none, some (.ref r2), some (.int v3)] [] SH I R L Q := by
  refine go_iload_n dX6_played_23 rfl ?_
  refine go_aload_n dX6_played_24 rfl ?_
  refine go_getI dX6_played_25 fX6_157 rfl (La_s0 hr2) ?_
  refine go_icmp_ge 54 dX6_played_28 (by decide) (fun c => ?_) (fun c => ?_)
  · have h := h.1 c
    refine go_iconst (v := -1) dX6_played_54 (by decide) ?_
    exact go_iret dX6_played_55 rfl rfl h
  · have h := h.2 c
    refine go_iload_n dX6_played_31 rfl ?_
    refine go_bipush (v := 24) dX6_played_32 (by decide) ?_
    refine go_icmp_ge 54 dX6_played_34 (by decide) (fun c => ?_) (fun c => ?_)
    · have h := h.1 c
      refine go_iconst (v := -1) dX6_played_54 (by decide) ?_
      exact go_iret dX6_played_55 rfl rfl h
    · have h := h.2 c
      refine go_aload_n dX6_played_37 rfl ?_
      refine go_aload_n dX6_played_38 rfl ?_
      refine go_iload_n dX6_played_39 rfl ?_
      obtain ⟨hp_3, h⟩ := h
      obtain ⟨hp_4, h⟩ := h
      refine go_callV0 (μ := mX6_played) [.ref r2, .int _] dX6_played_40 YX6_playClause lX6_162 rfl ⟨_, rfl, rfl⟩ rfl (Nat.le_of_ble_eq_true rfl) (Nat.le_of_ble_eq_true rfl) rfl (k_X6_playClause hR hr2 hp_3 hp_4 (fun r_5 I_6 R_7 hq => ?_))
      have h := h r_5 I_6 R_7 hq
      have hRx_8 := hq.1
      refine go_if_ne 48 dX6_played_43 (by decide) (fun c => ?_) (fun c => ?_)
      · have h := h.1 c
        refine go_iinc dX6_played_48 rfl (Nat.le_of_ble_eq_true rfl) rfl ?_
        have h := h _ rfl
        refine go_goto 23 dX6_played_51 (by decide) ?_
        exact h
      · have h := h.2 c
        refine go_iload_n dX6_played_46 rfl ?_
        exact go_iret dX6_played_47 rfl rfl h
theorem e_X7_played {G : gG} {I : gI} {R : gR} {L : gL} {Q : gQ} {θ : thy} {a : Int32} (hR : g_Fx R) (h : ((0 : Int32) ≤ a ∧ a ≤ ((I 311 1) - 1) → Go G mX7_played 31 0 0 21 [some (.ref 310), some (.int a), some (.int 0), none, none] [] SH I R L Q) ∧ (¬ ((0 : Int32) ≤ a ∧ a ≤ ((I 311 1) - 1)) → Q (some (.int (-2))) SH I R L)) : Mt G mX7_played 31 0 0 [.ref 310, .int a] SH I R L Q := by
  refine go_start rfl (Nat.le_of_ble_eq_true rfl) rfl ?_
  refine go_iload_n dX7_played_0 rfl ?_
  refine go_iconst (v := 0) dX7_played_1 (by decide) ?_
  refine go_aload_n dX7_played_2 rfl ?_
  refine go_getR dX7_played_3 fX7_7 rfl rfl (hR 310 0 311 rfl) ?_
  refine go_iconst (v := 1) dX7_played_6 (by decide) ?_
  refine go_ialdK dX7_played_7 rfl (vp_in_nI (n := 1) (by decide) (by decide)) (k := 1) (by decide) ?_
  refine go_iconst (v := 1) dX7_played_8 (by decide) ?_
  refine go_isub dX7_played_9 ?_
  refine go_callS0 (μ := mX7_played) [.int _, .int _, .int _] dX7_played_10 YX7_in lX7_110 rfl (Nat.le_of_ble_eq_true rfl) (Nat.le_of_ble_eq_true rfl) rfl (k_X7_in hR ?_)
  refine go_if_ne 19 dX7_played_13 (by decide) (fun c => ?_) (fun c => ?_)
  · have h := h.1 (b1.mp c)
    refine go_iconst (v := 0) dX7_played_19 (by decide) ?_
    refine go_istore_n dX7_played_20 (Nat.le_of_ble_eq_true rfl) rfl ?_
    exact h
  · have h := h.2 (b0.mp c)
    refine go_bipush (v := -2) dX7_played_16 (by decide) ?_
    exact go_iret dX7_played_18 rfl rfl h
theorem b_X7_played_21 {G : gG} {I : gI} {R : gR} {L : gL} {Q : gQ} {θ : thy} {v1 v2 : Int32} (hR : g_Fx R) (h : vp_in v1 4 ∧ (((I 314 v1.toNatClampNeg) ≤ v2 → Q (some (.int (-1))) SH I R L) ∧ (¬ (I 314 v1.toNatClampNeg) ≤ v2 → ∀ v3_2 : Int32, v3_2 = ((24 * v1) + v2) → vp_in v3_2 96 ∧ (((I 315 v3_2.toNatClampNeg) = 3 → vp_in v3_2 96 ∧ (vp_in v3_2 96 ∧ (MI I θ ∧ (∀ r_4 : Int32, ∀ I_5 : gI, ∀ L_6 : gL, (dsM I θ (I 317 v3_2.toNatClampNeg) (I 318 v3_2.toNatClampNeg) r_4 I_5) → (¬ r_4 = 0 → ∀ v2_7 : Int32, v2_7 = v2 + 1 → Go G mX7_played 31 0 0 21 [some (.ref 310), some (.int v1), some (.int v2_7), none, none] [] SH I_5 R L_6 Q) ∧ (r_4 = 0 → Q (some (.int v2)) SH I_5 R L_6))))) ∧ ((I 315 v3_2.toNatClampNeg) = 4 → vp_in v3_2 96 ∧ (vp_in v3_2 96 ∧ (MI I θ ∧ (∀ r_10 : Int32, ∀ I_11 : gI, ∀ L_12 : gL, (dpM I θ (I 317 v3_2.toNatClampNeg) (I 318 v3_2.toNatClampNeg) r_10 I_11) → (r_10 = (-1) → Q (some (.int v2)) SH I_11 R L_12) ∧ (¬ r_10 = (-1) → ∀ v2_13 : Int32, v2_13 = v2 + 1 → Go G mX7_played 31 0 0 21 [some (.ref 310), some (.int v1), some (.int v2_13), none, none] [] SH I_11 R L_12 Q))))) ∧ ((I 315 v3_2.toNatClampNeg) = 5 → vp_in v3_2 96 ∧ (MI I θ ∧ (∀ r_16 : Int32, ∀ I_17 : gI, ∀ L_18 : gL, (djM I θ (I 317 v3_2.toNatClampNeg) r_16 I_17) → (r_16 = (-1) → Q (some (.int v2)) SH I_17 R L_18) ∧ (¬ r_16 = (-1) → ∀ v2_19 : Int32, v2_19 = v2 + 1 → Go G mX7_played 31 0 0 21 [some (.ref 310), some (.int v1), some (.int v2_19), none, none] [] SH I_17 R L_18 Q)))) ∧ ((I 315 v3_2.toNatClampNeg) = 6 → vp_in v3_2 96 ∧ (MI I θ ∧ (∀ r_22 : Int32, ∀ I_23 : gI, ∀ L_24 : gL, (dfM I θ (I 317 v3_2.toNatClampNeg) r_22 I_23) → (r_22 = (-1) → Q (some (.int v2)) SH I_23 R L_24) ∧ (¬ r_22 = (-1) → ∀ v2_25 : Int32, v2_25 = v2 + 1 → Go G mX7_played 31 0 0 21 [some (.ref 310), some (.int v1), some (.int v2_25), none, none] [] SH I_23 R L_24 Q)))) ∧ (¬ (I 315 v3_2.toNatClampNeg) = 3 ∧ ¬ (I 315 v3_2.toNatClampNeg) = 4 ∧ ¬ (I 315 v3_2.toNatClampNeg) = 5 ∧ ¬ (I 315 v3_2.toNatClampNeg) = 6 → ∀ v2_27 : Int32, v2_27 = v2 + 1 → Go G mX7_played 31 0 0 21 [some (.ref 310), some (.int v1), some (.int v2_27), none, none] [] SH I R L Q))))) : Go G mX7_played 31 0 0 21 [some (.ref 310), some (.int v1), some (.int v2), none, none] [] SH I R L Q := by
  refine go_iload_n dX7_played_21 rfl ?_
  refine go_aload_n dX7_played_22 rfl ?_
  refine go_getR dX7_played_23 fX7_27 rfl rfl (hR 310 6 314 rfl) ?_
  refine go_iload_n dX7_played_26 rfl ?_
  obtain ⟨hi, h⟩ := h
  refine go_iald dX7_played_27 rfl hi ?_
  refine go_icmp_ge 188 dX7_played_28 (by decide) (fun c => ?_) (fun c => ?_)
  · have h := h.1 c
    refine go_iconst (v := -1) dX7_played_188 (by decide) ?_
    exact go_iret dX7_played_189 rfl rfl h
  · have h := h.2 c
    refine go_bipush (v := 24) dX7_played_31 (by decide) ?_
    refine go_iload_n dX7_played_33 rfl ?_
    refine go_imul dX7_played_34 ?_
    refine go_iload_n dX7_played_35 rfl ?_
    refine go_iadd dX7_played_36 ?_
    refine go_istore_n dX7_played_37 (Nat.le_of_ble_eq_true rfl) rfl ?_
    have h := h _ rfl
    refine go_iconst (v := 1) dX7_played_38 (by decide) ?_
    refine go_istore dX7_played_39 (Nat.le_of_ble_eq_true rfl) rfl ?_
    refine go_aload_n dX7_played_41 rfl ?_
    refine go_getR dX7_played_42 fX7_30 rfl rfl (hR 310 7 315 rfl) ?_
    refine go_iload_n dX7_played_45 rfl ?_
    obtain ⟨hi, h⟩ := h
    refine go_iald dX7_played_46 rfl hi ?_
    by_cases c0 : (I 315 (((24 * v1) + v2)).toNatClampNeg) = 3
    · have h := h.1 c0
      refine go_tsIn 76 dX7_played_47 (by rw [c0]; decide) (by rw [c0]; decide) (by rw [c0]; rfl) (by decide) ?_
      refine go_aload_n dX7_played_76 rfl ?_
      refine go_aload_n dX7_played_77 rfl ?_
      refine go_getR dX7_played_78 fX7_36 rfl rfl (hR 310 9 317 rfl) ?_
      refine go_iload_n dX7_played_81 rfl ?_
      obtain ⟨hi, h⟩ := h
      refine go_iald dX7_played_82 rfl hi ?_
      refine go_aload_n dX7_played_83 rfl ?_
      refine go_getR dX7_played_84 fX7_39 rfl rfl (hR 310 10 318 rfl) ?_
      refine go_iload_n dX7_played_87 rfl ?_
      obtain ⟨hi, h⟩ := h
      refine go_iald dX7_played_88 rfl hi ?_
      obtain ⟨hp_3, h⟩ := h
      refine go_callV0 (μ := mX7_played) [.int _, .int _] dX7_played_89 YX7_sit lX7_358 rfl ⟨_, rfl, rfl⟩ rfl (Nat.le_of_ble_eq_true rfl) (Nat.le_of_ble_eq_true rfl) rfl (k_X7_sit2 hR hp_3 (fun r_4 I_5 L_6 hq => ?_))
      have h := h r_4 I_5 L_6 hq
      refine go_istore dX7_played_92 (Nat.le_of_ble_eq_true rfl) rfl ?_
      refine go_goto 175 dX7_played_94 (by decide) ?_
      refine go_iload dX7_played_175 rfl ?_
      refine go_if_ne 182 dX7_played_177 (by decide) (fun c => ?_) (fun c => ?_)
      · have h := h.1 c
        refine go_iinc dX7_played_182 rfl (Nat.le_of_ble_eq_true rfl) rfl ?_
        have h := h _ rfl
        refine go_goto 21 dX7_played_185 (by decide) ?_
        refine go_drop 3 ?_
        refine go_drop 4 ?_
        exact h
      · have h := h.2 c
        refine go_iload_n dX7_played_180 rfl ?_
        exact go_iret dX7_played_181 rfl rfl h
    by_cases c1 : (I 315 (((24 * v1) + v2)).toNatClampNeg) = 4
    · have h := h.2.1 c1
      refine go_tsIn 97 dX7_played_47 (by rw [c1]; decide) (by rw [c1]; decide) (by rw [c1]; rfl) (by decide) ?_
      refine go_aload_n dX7_played_97 rfl ?_
      refine go_aload_n dX7_played_98 rfl ?_
      refine go_getR dX7_played_99 fX7_36 rfl rfl (hR 310 9 317 rfl) ?_
      refine go_iload_n dX7_played_102 rfl ?_
      obtain ⟨hi, h⟩ := h
      refine go_iald dX7_played_103 rfl hi ?_
      refine go_aload_n dX7_played_104 rfl ?_
      refine go_getR dX7_played_105 fX7_39 rfl rfl (hR 310 10 318 rfl) ?_
      refine go_iload_n dX7_played_108 rfl ?_
      obtain ⟨hi, h⟩ := h
      refine go_iald dX7_played_109 rfl hi ?_
      obtain ⟨hp_9, h⟩ := h
      refine go_callV0 (μ := mX7_played) [.int _, .int _] dX7_played_110 YX7_spoon lX7_361 rfl ⟨_, rfl, rfl⟩ rfl (Nat.le_of_ble_eq_true rfl) (Nat.le_of_ble_eq_true rfl) rfl (k_X7_spoon2 hR hp_9 (fun r_10 I_11 L_12 hq => ?_))
      have h := h r_10 I_11 L_12 hq
      refine go_iconst (v := -1) dX7_played_113 (by decide) ?_
      refine go_icmp_eq 121 dX7_played_114 (by decide) (fun c => ?_) (fun c => ?_)
      · have h := h.1 c
        refine go_iconst (v := 0) dX7_played_121 (by decide) ?_
        refine go_istore dX7_played_122 (Nat.le_of_ble_eq_true rfl) rfl ?_
        refine go_goto 175 dX7_played_124 (by decide) ?_
        refine go_iload dX7_played_175 rfl ?_
        refine go_if_ne 182 dX7_played_177 (by decide) (fun c => absurd c (by decide)) (fun _ => ?_)
        refine go_iload_n dX7_played_180 rfl ?_
        exact go_iret dX7_played_181 rfl rfl h
      · have h := h.2 c
        refine go_iconst (v := 1) dX7_played_117 (by decide) ?_
        refine go_goto 122 dX7_played_118 (by decide) ?_
        refine go_istore dX7_played_122 (Nat.le_of_ble_eq_true rfl) rfl ?_
        refine go_goto 175 dX7_played_124 (by decide) ?_
        refine go_iload dX7_played_175 rfl ?_
        refine go_if_ne 182 dX7_played_177 (by decide) (fun _ => ?_) (fun c => absurd c (by decide))
        refine go_iinc dX7_played_182 rfl (Nat.le_of_ble_eq_true rfl) rfl ?_
        have h := h _ rfl
        refine go_goto 21 dX7_played_185 (by decide) ?_
        refine go_drop 3 ?_
        refine go_drop 4 ?_
        exact h
    by_cases c2 : (I 315 (((24 * v1) + v2)).toNatClampNeg) = 5
    · have h := h.2.2.1 c2
      refine go_tsIn 127 dX7_played_47 (by rw [c2]; decide) (by rw [c2]; decide) (by rw [c2]; rfl) (by decide) ?_
      refine go_aload_n dX7_played_127 rfl ?_
      refine go_aload_n dX7_played_128 rfl ?_
      refine go_getR dX7_played_129 fX7_36 rfl rfl (hR 310 9 317 rfl) ?_
      refine go_iload_n dX7_played_132 rfl ?_
      obtain ⟨hi, h⟩ := h
      refine go_iald dX7_played_133 rfl hi ?_
      obtain ⟨hp_15, h⟩ := h
      refine go_callV0 (μ := mX7_played) [.int _] dX7_played_134 YX7_judge lX7_364 rfl ⟨_, rfl, rfl⟩ rfl (Nat.le_of_ble_eq_true rfl) (Nat.le_of_ble_eq_true rfl) rfl (k_X7_judge2 hR hp_15 (fun r_16 I_17 L_18 hq => ?_))
      have h := h r_16 I_17 L_18 hq
      refine go_iconst (v := -1) dX7_played_137 (by decide) ?_
      refine go_icmp_eq 145 dX7_played_138 (by decide) (fun c => ?_) (fun c => ?_)
      · have h := h.1 c
        refine go_iconst (v := 0) dX7_played_145 (by decide) ?_
        refine go_istore dX7_played_146 (Nat.le_of_ble_eq_true rfl) rfl ?_
        refine go_goto 175 dX7_played_148 (by decide) ?_
        refine go_iload dX7_played_175 rfl ?_
        refine go_if_ne 182 dX7_played_177 (by decide) (fun c => absurd c (by decide)) (fun _ => ?_)
        refine go_iload_n dX7_played_180 rfl ?_
        exact go_iret dX7_played_181 rfl rfl h
      · have h := h.2 c
        refine go_iconst (v := 1) dX7_played_141 (by decide) ?_
        refine go_goto 146 dX7_played_142 (by decide) ?_
        refine go_istore dX7_played_146 (Nat.le_of_ble_eq_true rfl) rfl ?_
        refine go_goto 175 dX7_played_148 (by decide) ?_
        refine go_iload dX7_played_175 rfl ?_
        refine go_if_ne 182 dX7_played_177 (by decide) (fun _ => ?_) (fun c => absurd c (by decide))
        refine go_iinc dX7_played_182 rfl (Nat.le_of_ble_eq_true rfl) rfl ?_
        have h := h _ rfl
        refine go_goto 21 dX7_played_185 (by decide) ?_
        refine go_drop 3 ?_
        refine go_drop 4 ?_
        exact h
    by_cases c3 : (I 315 (((24 * v1) + v2)).toNatClampNeg) = 6
    · have h := h.2.2.2.1 c3
      refine go_tsIn 151 dX7_played_47 (by rw [c3]; decide) (by rw [c3]; decide) (by rw [c3]; rfl) (by decide) ?_
      refine go_aload_n dX7_played_151 rfl ?_
      refine go_aload_n dX7_played_152 rfl ?_
      refine go_getR dX7_played_153 fX7_36 rfl rfl (hR 310 9 317 rfl) ?_
      refine go_iload_n dX7_played_156 rfl ?_
      obtain ⟨hi, h⟩ := h
      refine go_iald dX7_played_157 rfl hi ?_
      obtain ⟨hp_21, h⟩ := h
      refine go_callV0 (μ := mX7_played) [.int _] dX7_played_158 YX7_flies lX7_367 rfl ⟨_, rfl, rfl⟩ rfl (Nat.le_of_ble_eq_true rfl) (Nat.le_of_ble_eq_true rfl) rfl (k_X7_flies2 hR hp_21 (fun r_22 I_23 L_24 hq => ?_))
      have h := h r_22 I_23 L_24 hq
      refine go_iconst (v := -1) dX7_played_161 (by decide) ?_
      refine go_icmp_eq 169 dX7_played_162 (by decide) (fun c => ?_) (fun c => ?_)
      · have h := h.1 c
        refine go_iconst (v := 0) dX7_played_169 (by decide) ?_
        refine go_istore dX7_played_170 (Nat.le_of_ble_eq_true rfl) rfl ?_
        refine go_goto 175 dX7_played_172 (by decide) ?_
        refine go_iload dX7_played_175 rfl ?_
        refine go_if_ne 182 dX7_played_177 (by decide) (fun c => absurd c (by decide)) (fun _ => ?_)
        refine go_iload_n dX7_played_180 rfl ?_
        exact go_iret dX7_played_181 rfl rfl h
      · have h := h.2 c
        refine go_iconst (v := 1) dX7_played_165 (by decide) ?_
        refine go_goto 170 dX7_played_166 (by decide) ?_
        refine go_istore dX7_played_170 (Nat.le_of_ble_eq_true rfl) rfl ?_
        refine go_goto 175 dX7_played_172 (by decide) ?_
        refine go_iload dX7_played_175 rfl ?_
        refine go_if_ne 182 dX7_played_177 (by decide) (fun _ => ?_) (fun c => absurd c (by decide))
        refine go_iinc dX7_played_182 rfl (Nat.le_of_ble_eq_true rfl) rfl ?_
        have h := h _ rfl
        refine go_goto 21 dX7_played_185 (by decide) ?_
        refine go_drop 3 ?_
        refine go_drop 4 ?_
        exact h
    have h := h.2.2.2.2 ⟨c0, c1, c2, c3⟩
    have e0 : ¬ Int32.toInt (I 315 (((24 * v1) + v2)).toNatClampNeg) = 3 := fun q => c0 (Int32.toInt_inj.mp (q.trans (by decide)))
    have e1 : ¬ Int32.toInt (I 315 (((24 * v1) + v2)).toNatClampNeg) = 4 := fun q => c1 (Int32.toInt_inj.mp (q.trans (by decide)))
    have e2 : ¬ Int32.toInt (I 315 (((24 * v1) + v2)).toNatClampNeg) = 5 := fun q => c2 (Int32.toInt_inj.mp (q.trans (by decide)))
    have e3 : ¬ Int32.toInt (I 315 (((24 * v1) + v2)).toNatClampNeg) = 6 := fun q => c3 (Int32.toInt_inj.mp (q.trans (by decide)))
    refine go_tsOut 175 dX7_played_47 (by omega) (by decide) ?_
    refine go_iload dX7_played_175 rfl ?_
    refine go_if_ne 182 dX7_played_177 (by decide) (fun _ => ?_) (fun c => absurd c (by decide))
    refine go_iinc dX7_played_182 rfl (Nat.le_of_ble_eq_true rfl) rfl ?_
    have h := h _ rfl
    refine go_goto 21 dX7_played_185 (by decide) ?_
    refine go_drop 3 ?_
    refine go_drop 4 ?_
    exact h
noncomputable def plF (θ : thy) (cl : Nat → Int32 × Int32 × Int32) : Nat → Nat → (Nat → Int32) → (Nat → Int32) × Int32
  | 0, _, f => (f, -1)
  | n + 1, i, f => @ite _ (ddN θ f (cl i).1 (cl i).2.1 (cl i).2.2) (Classical.propDecidable _) (f, nI i) (plF θ cl n (i + 1) (ddF θ f (cl i).1 (cl i).2.1 (cl i).2.2))
theorem plF_t {θ : thy} {cl : Nat → Int32 × Int32 × Int32} {n i : Nat} {f : Nat → Int32} (h : ddN θ f (cl i).1 (cl i).2.1 (cl i).2.2) : plF θ cl (n + 1) i f = (f, nI i) := by
  unfold plF; exact @if_pos _ (Classical.propDecidable _) h _ _ _
theorem plF_f {θ : thy} {cl : Nat → Int32 × Int32 × Int32} {n i : Nat} {f : Nat → Int32} (h : ¬ ddN θ f (cl i).1 (cl i).2.1 (cl i).2.2) : plF θ cl (n + 1) i f = plF θ cl n (i + 1) (ddF θ f (cl i).1 (cl i).2.1 (cl i).2.2) := by
  rw [plF]; exact @if_neg _ (Classical.propDecidable _) h _ _ _
/-- clauses that do the same -/
def clE (c d : Int32 × Int32 × Int32) : Prop := c.1 = d.1 ∧ ((c.1 = 3 ∨ c.1 = 4) → c.2 = d.2) ∧ ((c.1 = 5 ∨ c.1 = 6) → c.2.1 = d.2.1)
theorem dd_E {θ : thy} {f : Nat → Int32} {c d : Int32 × Int32 × Int32} (h : clE c d) : (ddN θ f c.1 c.2.1 c.2.2 ↔ ddN θ f d.1 d.2.1 d.2.2) ∧ ddF θ f c.1 c.2.1 c.2.2 = ddF θ f d.1 d.2.1 d.2.2 := by
  obtain ⟨v, x, y⟩ := c
  obtain ⟨v', x', y'⟩ := d
  obtain ⟨rfl, h2, h3⟩ := h
  simp only at h2 h3 ⊢
  by_cases c3 : v = 3
  · have e := h2 (Or.inl c3)
    simp only [Prod.mk.injEq] at e
    rw [e.1, e.2]; exact ⟨Iff.rfl, rfl⟩
  by_cases c4 : v = 4
  · have e := h2 (Or.inr c4)
    simp only [Prod.mk.injEq] at e
    rw [e.1, e.2]; exact ⟨Iff.rfl, rfl⟩
  by_cases c5 : v = 5
  · have e := h3 (Or.inl c5)
    subst e
    rw [(dd_5 c5).1, (dd_5 c5).1, (dd_5 c5).2, (dd_5 c5).2]; exact ⟨Iff.rfl, rfl⟩
  by_cases c6 : v = 6
  · have e := h3 (Or.inr c6)
    subst e
    rw [(dd_6 c6).1, (dd_6 c6).1, (dd_6 c6).2, (dd_6 c6).2]; exact ⟨Iff.rfl, rfl⟩
  have n := fun x y => dd_no (θ := θ) (f := f) (x := x) (y := y) ⟨c3, c4, c5, c6⟩
  exact ⟨⟨fun q => absurd q (n _ _).1, fun q => absurd q (n _ _).1⟩, (n _ _).2.trans (n _ _).2.symm⟩
theorem plF_E {θ : thy} {cl cl' : Nat → Int32 × Int32 × Int32} {N : Nat} (h : ∀ i, i < N → clE (cl i) (cl' i)) : ∀ (n i : Nat) (f : Nat → Int32), i + n = N → plF θ cl n i f = plF θ cl' n i f
  | 0, _, _, _ => rfl
  | n + 1, i, f, e => by
    have k := dd_E (θ := θ) (f := f) (h i (by omega))
    by_cases c : ddN θ f (cl i).1 (cl i).2.1 (cl i).2.2
    · rw [plF_t c, plF_t (k.1.mp c)]
    · rw [plF_f c, plF_f (fun q => c (k.1.mpr q)), k.2]
      exact plF_E h n (i + 1) _ (by omega)
/-- texts stay told -/
theorem dd_1 {θ : thy} {f : Nat → Int32} {v x y : Int32} (o : okf f) (hθ : okT θ) (h : ¬ ddN θ f v x y) : ddF θ f v x y 1 = f 1 := by
  by_cases c3 : v = 3
  · rw [(dd_3 c3).1] at h
    rw [(dd_3 c3).2]; exact (sit_ok o (Classical.not_not.mp h)).2 1 (by decide) (by decide)
  by_cases c4 : v = 4
  · rw [(dd_4 c4).1] at h
    have h' := Classical.not_not.mp h
    have hr : (Int32.ofInt (spG θ f x y)).toInt = spG θ f x y := by
      have hx : x.toNatClampNeg < 9 := by
        have o0 : 0 ≤ f 0 ∧ f 0 ≤ 9 := ⟨ti_le.mpr o.1.1.1, ti_le.mpr o.1.1.2⟩
        have hv : vp_in x 9 := vi9.mpr (by have := h'.1; have := h'.2.1; grind)
        obtain ⟨i, hi, ei⟩ := vp_in_of hv (by decide)
        rw [ei, nI_clamp (by omega)]; exact hi
      have hy : 0 ≤ y.toInt ∧ y.toInt ≤ 1 := by rcases h'.2.2.1 with rfl | rfl <;> decide
      have r : 0 ≤ spG θ f x y ∧ spG θ f x y ≤ 99 := spn_rng hθ ((okr_okD o.2.1).ok (by decide)) hx hy.1 hy.2
      rw [Int32.toInt_ofInt]
      exact bm_id (by omega) (by omega)
    rw [(dd_4 c4).2]; exact (sp_ok o hθ h' hr).2 1 (by decide) (by decide)
  by_cases c5 : v = 5
  · rw [(dd_5 c5).1] at h
    rw [(dd_5 c5).2]; exact (jd_ok o (Classical.not_not.mp h)).2 1 (by decide) (by decide)
  by_cases c6 : v = 6
  · rw [(dd_6 c6).2]; exact (fl_fin o).2 1 (by decide) (by decide)
  rw [(dd_no ⟨c3, c4, c5, c6⟩).2]
theorem pl_cls {G : gG} {L : gL} {Q : gQ} {θ : thy} {y N : Nat} (hy : g_La y) (h136 : 136 ≤ y ∧ y + 6 ≤ 163) (hN : N ≤ 24) {I0 : gI} {f0 : Nat → Int32} {cl : Nat → Int32 × Int32 × Int32} (hcl : ∀ i, cl i = (I0 (y + 4) i, I0 (y + 5) i, I0 (y + 6) i)) (h7 : I0 y 7 = nI N) : ∀ (n i : Nat) (I : gI) (R : gR) (f : Nat → Int32), i + n = N → f 1 = f0 1 → stepC I0 I R θ f0 f → (∀ I1 R1, (plF θ cl n i f).1 1 = f0 1 → stepC I0 I1 R1 θ f0 (plF θ cl n i f).1 → Q (some (.int (plF θ cl n i f).2)) SH I1 R1 L) → Go G mX6_played 32 0 0 23 [some (.ref 0), none, some (.ref y), some (.int (nI i))] [] SH I R L Q
  | 0, i, I, R, f, e, e1, s, hq => by
    have e7 : I y 7 = nI N := by rw [s.2.2.1.1 y (by omega) (by omega) (by omega), h7]
    refine b_X6_played_23 (θ := θ) (f := f) s.1 hy ⟨fun _ => hq I R e1 s, fun c => absurd ?_ c⟩
    rw [e7, show i = N by omega]; exact ti_le.mpr (Int.le_refl _)
  | n + 1, i, I, R, f, e, e1, s, hq => by
    have off : ∀ k, k ≤ 6 → I (y + k) = I0 (y + k) := fun k hk => s.2.2.1.1 _ (by omega) (by omega) (by omega)
    have e7 : I y 7 = nI N := by rw [show I y = I0 y from off 0 (by omega), h7]
    refine b_X6_played_23 (θ := θ) (f := f) s.1 hy ⟨fun c => absurd c (by rw [e7]; exact nI_ge (by omega) (by omega)), fun _ => ⟨fun c => absurd c (nI_ge (b := 24) (by omega) (by decide)), fun _ => ⟨vp_in_nI (by omega) (by decide), s.2.1, ?_⟩⟩⟩
    rw [nI_clamp (by omega), off 4 (by omega), off 5 (by omega), off 6 (by omega)]
    have ec : I0 (y + 4) i = (cl i).1 ∧ I0 (y + 5) i = (cl i).2.1 ∧ I0 (y + 6) i = (cl i).2.2 := by rw [hcl]; exact ⟨rfl, rfl, rfl⟩
    rw [ec.1, ec.2.1, ec.2.2]
    rintro r I6 R7 ⟨g, k⟩
    rcases k with ⟨k1, k2, k3⟩ | ⟨k1, k2, k3⟩
    · rw [plF_t k1] at hq
      exact ⟨fun c => absurd k2 c, fun _ => hq I6 R7 e1 (stepC_tr s k3)⟩
    · rw [plF_f k1] at hq
      refine ⟨fun _ => ?_, fun c => absurd (k2.symm.trans c) (by decide)⟩
      rintro _ rfl
      rw [nI_1]
      exact pl_cls hy h136 hN hcl h7 n (i + 1) I6 R7 _ (by omega) ((dd_1 s.2.1.1 (CI_dy s.2.1).2.2 k1).trans e1) (stepC_tr s k3) hq
theorem pl_mod {G : gG} {R : gR} {Q : gQ} {θ : thy} {t N : Nat} (hF : g_Fx R) (ht : t < 4) (hN : N ≤ 24) {I0 : gI} {cl : Nat → Int32 × Int32 × Int32} (hcl : ∀ i, cl i = (I0 315 (24 * t + i), I0 317 (24 * t + i), I0 318 (24 * t + i))) (h4 : I0 314 t = nI N) : ∀ (n i : Nat) (I : gI) (L : gL), i + n = N → MI I θ → frM I0 I → (∀ I1 L1, stepM I0 I1 θ (plF θ cl n i (I 311)).1 → Q (some (.int (plF θ cl n i (I 311)).2)) SH I1 R L1) → Go G mX7_played 31 0 0 21 [some (.ref 310), some (.int (nI t)), some (.int (nI i)), none, none] [] SH I R L Q
  | 0, i, I, L, e, m, s, hq => by
    have e4 : I 314 t = nI N := by rw [s.1 314 (by decide) (by decide) (by decide) (by decide) (by decide), h4]
    refine b_X7_played_21 (θ := θ) hF ⟨vp_in_nI ht (by decide), fun _ => hq I L ⟨rfl, s, m⟩, fun c => absurd ?_ c⟩
    rw [nI_clamp (by omega), e4, show i = N by omega]; exact ti_le.mpr (Int.le_refl _)
  | n + 1, i, I, L, e, m, s, hq => by
    have e4 : I 314 t = nI N := by rw [s.1 314 (by decide) (by decide) (by decide) (by decide) (by decide), h4]
    refine b_X7_played_21 (θ := θ) hF ⟨vp_in_nI ht (by decide), fun c => absurd c (by rw [nI_clamp (by omega), e4]; exact nI_ge (by omega) (by omega)), fun _ => ?_⟩
    rintro _ rfl
    have ei : 24 * nI t + nI i = nI (24 * t + i) := by rw [show (24 : Int32) = nI 24 from rfl, nI_mul]; exact nI_add _ _
    have hv : vp_in (nI (24 * t + i)) 96 := vp_in_nI (by omega) (by decide)
    rw [ei, nI_clamp (by omega)]
    have ec : I 315 (24 * t + i) = (cl i).1 ∧ I 317 (24 * t + i) = (cl i).2.1 ∧ I 318 (24 * t + i) = (cl i).2.2 := by
      rw [hcl, s.1 315 (by decide) (by decide) (by decide) (by decide) (by decide), s.1 317 (by decide) (by decide) (by decide) (by decide) (by decide), s.1 318 (by decide) (by decide) (by decide) (by decide) (by decide)]; exact ⟨rfl, rfl, rfl⟩
    rw [ec.1, ec.2.1, ec.2.2]
    have no : ddN θ (I 311) (cl i).1 (cl i).2.1 (cl i).2.2 → ∀ I1 L1, stepM I I1 θ (I 311) → Q (some (.int (nI i))) SH I1 R L1 := fun d I1 L1 k => by
      rw [plF_t d] at hq
      exact hq I1 L1 (stepM_tr ⟨rfl, s, m⟩ k)
    have yes : ¬ ddN θ (I 311) (cl i).1 (cl i).2.1 (cl i).2.2 → ∀ I1 L1, stepM I I1 θ (ddF θ (I 311) (cl i).1 (cl i).2.1 (cl i).2.2) → ∀ v : Int32, v = nI i + 1 → Go G mX7_played 31 0 0 21 [some (.ref 310), some (.int (nI t)), some (.int v), none, none] [] SH I1 R L1 Q := fun d I1 L1 k v ev => by
      rw [plF_f d] at hq
      rw [ev, nI_1]
      refine pl_mod hF ht hN hcl h4 n (i + 1) I1 L1 (by omega) k.2.2 (frM_tr s k.2.1) ?_
      rw [k.1]
      exact hq
    refine ⟨hv, fun d => ⟨hv, hv, m, ?_⟩, fun d => ⟨hv, hv, m, ?_⟩, fun d => ⟨hv, m, ?_⟩, fun d => ⟨hv, m, ?_⟩, fun d => ?_⟩
    · rintro r I1 L1 k
      obtain ⟨e1, e2⟩ := dd_3 (θ := θ) (f := I 311) (x := (cl i).2.1) (y := (cl i).2.2) d
      rw [e1] at no yes
      rw [e2] at yes
      rcases k with k | k
      · exact ⟨fun c => absurd k.2.1 c, fun _ => no k.1 _ _ k.2.2⟩
      · exact ⟨fun _ => yes (fun q => q k.1) _ _ k.2.2, fun c => absurd (k.2.1.symm.trans c) (by decide)⟩
    · rintro r I1 L1 k
      obtain ⟨e1, e2⟩ := dd_4 (θ := θ) (f := I 311) (x := (cl i).2.1) (y := (cl i).2.2) d
      rw [e1] at no yes
      rw [e2] at yes
      rcases k with k | k
      · exact ⟨fun _ => no k.1 _ _ k.2.2, fun c => absurd k.2.1 c⟩
      · exact ⟨fun c => absurd c k.2.1, fun _ => yes (fun q => q k.1) _ _ k.2.2⟩
    · rintro r I1 L1 k
      obtain ⟨e1, e2⟩ := dd_5 (θ := θ) (f := I 311) (x := (cl i).2.1) (y := (cl i).2.2) d
      rw [e1] at no yes
      rw [e2] at yes
      rcases k with k | k
      · exact ⟨fun _ => no k.1 _ _ k.2.2, fun c => absurd k.2.1 c⟩
      · exact ⟨fun c => absurd c k.2.1, fun _ => yes (fun q => q k.1) _ _ k.2.2⟩
    · rintro r I1 L1 k
      obtain ⟨e1, e2⟩ := dd_6 (θ := θ) (f := I 311) (x := (cl i).2.1) (y := (cl i).2.2) d
      rw [e1] at no yes
      rw [e2] at yes
      rcases k with k | k
      · exact ⟨fun _ => no k.1 _ _ k.2.2, fun c => absurd k.2.1 c⟩
      · exact ⟨fun c => absurd c k.2.1, fun _ => yes (fun q => q k.1) _ _ k.2.2⟩
    · obtain ⟨e1, e2⟩ := dd_no (θ := θ) (f := I 311) (x := (cl i).2.1) (y := (cl i).2.2) d
      rw [e2] at yes
      exact yes e1 I L (stepM_rfl m)
def promD (d : Nat) (G : gG) (ν : gm) (as : List Value) (r : Option Value) (I1 : gI) (R1 : gR) (L1 : gL) : Prop := ∀ Q2 : gQ, (∀ I2 R2 L2, Rel I2 R2 → Q2 r SH I2 R2 L2) → Mt G ν d 0 0 as SH I1 R1 L1 Q2
theorem p_played {G : gG} {I : gI} {R : gR} {L : gL} {Q : gQ} {a : Int32} (h : Rel I R) (hq : ∀ v I1 R1 L1, promD 31 G mX7_played [.ref 310, .int a] (some (.int v)) I1 R1 L1 → Q (some (.int v)) SH I1 R1 L1) : Mt G mX6_played 32 0 0 [.ref 0, .int a] SH I R L Q := by
  have hF := h.1.1
  have hC := Rel_CI h
  obtain ⟨h0, hs⟩ := id h
  obtain ⟨-, ⟨π, g2, g3⟩, -, o, -, -, hlw, -⟩ := h0
  have c1 : I 3 9 = I 311 1 := g3.1.2.1
  have o1 := o.1.2.1
  have z0 : (0 : Int32).toInt = 0 := rfl
  have z1 : (1 : Int32).toInt = 1 := rfl
  have z4 : (4 : Int32).toInt = 4 := rfl
  have s0 := stepC_rfl hF hC
  have m1 : (I 311 1 - 1).toInt = (I 311 1).toInt - 1 := by rw [ti_sub] <;> rw [z1] <;> omega
  refine e_X6_played (θ := thM I) (f := I 311) hF ?_
  rw [c1]
  refine ⟨fun d => ?_, fun d => hq _ _ _ _ (fun Q2 h2 => e_X7_played (θ := thM I) hF ⟨fun d' => absurd ?_ d, fun _ => h2 _ _ _ h⟩)⟩
  · obtain ⟨d1, d2, d3⟩ := d
    rw [ti_le, z0] at d1
    rw [ti_lt] at d2
    rw [ti_lt, z4] at d3
    have ca := ci d1
    have c11 := ci o1.1
    have ea : a = nI a.toNatClampNeg := nI_of_toInt d1
    generalize hN : a.toNatClampNeg = t at *
    have ht : t < 4 := by omega
    obtain ⟨⟨l1, l2, l3⟩, l4, -⟩ := hlw t (by omega)
    have cN := ci l2
    have eN : I 314 t = nI (I 314 t).toNatClampNeg := nI_of_toInt l2
    refine ⟨by rw [ea]; exact vp_in_nI ht (by decide), 136 + 7 * t, hF 135 t (136 + 7 * t) ((by decide +kernel : ∀ j, j < 4 → RF 135 j = some (136 + 7 * j)) t ht), La_136 ht, ?_⟩
    · refine pl_cls (θ := thM I) (N := (I 314 t).toNatClampNeg) (I0 := I) (f0 := I 311) (cl := fun i => (I (136 + 7 * t + 4) i, I (136 + 7 * t + 5) i, I (136 + 7 * t + 6) i)) (La_136 ht) (by omega) (by omega) (fun i => rfl) (l1.trans eN) (I 314 t).toNatClampNeg 0 I R (I 311) (by omega) rfl s0 ?_
      intro I1 R1 e1 s
      have hE : plF (thM I) (fun i => (I (136 + 7 * t + 4) i, I (136 + 7 * t + 5) i, I (136 + 7 * t + 6) i)) (I 314 t).toNatClampNeg 0 (I 311) = plF (thM I) (fun i => (I 315 (24 * t + i), I 317 (24 * t + i), I 318 (24 * t + i))) (I 314 t).toNatClampNeg 0 (I 311) := by
        refine plF_E (N := (I 314 t).toNatClampNeg) (fun i hi => ?_) _ _ _ (by omega)
        obtain ⟨q1, q2, q3, q4⟩ := l4 i hi
        refine ⟨q1, fun c => ?_, fun c => ?_⟩
        · simp only at c ⊢
          rw [q1] at c
          have c' : (I 315 (24 * t + i)).toInt = 3 ∨ (I 315 (24 * t + i)).toInt = 4 := by rcases c with c | c <;> rw [c] <;> decide
          rw [q3 (by omega), q4 c']
        · simp only at c ⊢
          rw [q1] at c
          have c' : (I 315 (24 * t + i)).toInt = 5 ∨ (I 315 (24 * t + i)).toInt = 6 := by rcases c with c | c <;> rw [c] <;> decide
          rw [q3 (by omega)]
      rw [hE] at e1 s ⊢
      · refine hq _ _ _ _ (fun Q2 h2 => ?_)
        obtain ⟨hM, e⟩ := Rel_MI h s
        refine e_X7_played (θ := thM I) s.1 ⟨fun _ => ?_, fun d' => absurd ⟨ti_le.mpr (by rw [z0]; exact d1), ?_⟩ d'⟩
        · rw [ea]
          have off : ∀ x, 312 ≤ x → x < 331 → I1 x = I x := fun x x1 x2 => s.2.2.1.1 x (by omega) (by omega) (by omega)
          refine pl_mod (θ := thM I) (N := (I 314 t).toNatClampNeg) (I0 := I1) (cl := fun i => (I 315 (24 * t + i), I 317 (24 * t + i), I 318 (24 * t + i))) s.1 ht (by omega) (fun i => by rw [off 315 (by decide) (by decide), off 317 (by decide) (by decide), off 318 (by decide) (by decide)]) (by rw [off 314 (by decide) (by decide)]; exact eN) (I 314 t).toNatClampNeg 0 I1 _ (by omega) hM (frM_rfl I1) ?_
          rw [e]
          intro I2 L2 t2
          exact h2 _ _ _ (Rel_deed h s t2 e1)
        · rw [e, ti_le, m1]; omega
  · obtain ⟨d1, d2⟩ := d'
    rw [ti_le, z0] at d1
    rw [ti_le, m1] at d2
    exact ⟨ti_le.mpr (by rw [z0]; exact d1), ti_lt.mpr (by omega), ti_lt.mpr (by rw [z4]; omega)⟩
