theorem e_X5_seekAcquittal {G : gG} {I : gI} {R : gR} {L : gL} {Q : gQ} {s : Int32} (hR : g_Fx R) (h : ∀ I_1 : gI, I_1 = cpSc I 4 166 → ∀ I_2 : gI, I_2 = up I_1 1 10 s → ∀ I_3 : gI, I_3 = up I_2 1 8 (-1) → ∀ I_4 : gI, I_4 = up I_3 1 9 0 → vp_in s 2 ∧ (okI I_4 ∧ ((okD (dyC I_4 166)) ∧ ((0 ≤ (I_4 166 4).toInt ∧ (I_4 166 4).toInt ≤ 30) ∧ (∀ I_9 : gI, (∀ a, a ≠ 164 → a ≠ 165 → I_9 a = I_4 a) → (gui (thC I_4) (dyC I_4 166) s.toInt (I_4 166 4).toInt = true → Go G mX5_seekAcquittal 21 0 0 52 [some (.ref 1), none, some (.int 1)] [] SH I_9 R L Q) ∧ (¬ (gui (thC I_4) (dyC I_4 166) s.toInt (I_4 166 4).toInt = true) → ∀ I_10 : gI, I_10 = up I_9 1 8 0 → Q none SH I_10 R L)))))) : Mt G mX5_seekAcquittal 21 0 0 [.ref 1, .int s] SH I R L Q := by
  refine go_start rfl (Nat.le_of_ble_eq_true rfl) rfl ?_
  refine go_aload_n dX5_seekAcquittal_0 rfl ?_
  refine go_getR dX5_seekAcquittal_1 fX5_26 rfl rfl (hR 1 2 166 rfl) ?_
  refine go_aload_n dX5_seekAcquittal_4 rfl ?_
  refine go_getR dX5_seekAcquittal_5 fX5_22 rfl rfl (hR 1 1 3 rfl) ?_
  refine go_getR dX5_seekAcquittal_8 fX5_47 rfl rfl (hR 3 0 4 rfl) ?_
  refine go_callV0 (μ := mX5_seekAcquittal) [.ref 4] dX5_seekAcquittal_11 YX4_copyFrom lX5_52 rfl ⟨_, rfl, rfl⟩ rfl (Nat.le_of_ble_eq_true rfl) (Nat.le_of_ble_eq_true rfl) rfl (k_X4_copyFrom hR Sc_166 Sc_4 ?_)
  have h := h _ rfl
  refine go_aload_n dX5_seekAcquittal_14 rfl ?_
  refine go_iload_n dX5_seekAcquittal_15 rfl ?_
  refine go_putI dX5_seekAcquittal_16 fX5_95 rfl rfl rfl rfl ?_
  have h := h _ rfl
  refine go_aload_n dX5_seekAcquittal_19 rfl ?_
  refine go_iconst (v := -1) dX5_seekAcquittal_20 (by decide) ?_
  refine go_putI dX5_seekAcquittal_21 fX5_43 rfl rfl rfl rfl ?_
  have h := h _ rfl
  refine go_aload_n dX5_seekAcquittal_24 rfl ?_
  refine go_iconst (v := 0) dX5_seekAcquittal_25 (by decide) ?_
  refine go_putI dX5_seekAcquittal_26 fX5_98 rfl rfl rfl rfl ?_
  have h := h _ rfl
  refine go_aload_n dX5_seekAcquittal_29 rfl ?_
  refine go_getR dX5_seekAcquittal_30 fX5_12 rfl rfl (hR 1 0 2 rfl) ?_
  refine go_aload_n dX5_seekAcquittal_33 rfl ?_
  refine go_getR dX5_seekAcquittal_34 fX5_26 rfl rfl (hR 1 2 166 rfl) ?_
  refine go_iload_n dX5_seekAcquittal_37 rfl ?_
  obtain ⟨hp_5, h⟩ := h
  obtain ⟨hp_6, h⟩ := h
  obtain ⟨hp_7, h⟩ := h
  obtain ⟨hp_8, h⟩ := h
  refine go_callV0 (μ := mX5_seekAcquittal) [.ref 166, .int _] dX5_seekAcquittal_38 YX0_isGuilty lX5_101 rfl ⟨_, rfl, rfl⟩ rfl (Nat.le_of_ble_eq_true rfl) (Nat.le_of_ble_eq_true rfl) rfl (k_X0_isGuilty hR Sc_166 hp_5 hp_6 hp_7 hp_8 (fun I_9 hq => ?_))
  have h := h I_9 hq
  refine go_if_ne 50 dX5_seekAcquittal_41 (by decide) (fun c => ?_) (fun c => ?_)
  · have h := h.1 (b1.mp c)
    refine go_iconst (v := 1) dX5_seekAcquittal_50 (by decide) ?_
    refine go_istore_n dX5_seekAcquittal_51 (Nat.le_of_ble_eq_true rfl) rfl ?_
    refine go_drop 1 ?_
    exact h
  · have h := h.2 (b0.mp c)
    refine go_aload_n dX5_seekAcquittal_44 rfl ?_
    refine go_iconst (v := 0) dX5_seekAcquittal_45 (by decide) ?_
    refine go_putI dX5_seekAcquittal_46 fX5_43 rfl rfl rfl rfl ?_
    have h := h _ rfl
    exact go_vret dX5_seekAcquittal_49 rfl rfl h
theorem b_X5_seekAcquittal_52 {G : gG} {I : gI} {R : gR} {L : gL} {Q : gQ} {v2 : Int32} (hR : g_Fx R) (h : (4 < v2 → Q none SH I R L) ∧ (¬ 4 < v2 → (¬ (I 1 8) = (-1) → Q none SH I R L) ∧ ((I 1 8) = (-1) → ∀ I_12 : gI, I_12 = up I 1 11 v2 → Mt G mX5_trySpoons 20 0 0 [.ref 1, .int 0, .int 0] SH I_12 R L (fun r S' I' R' L' => Go G mX5_seekAcquittal 21 0 0 76 [some (.ref 1), none, some (.int v2)] (r.toList ++ []) S' I' R' L' Q)))) : Go G mX5_seekAcquittal 21 0 0 52 [some (.ref 1), none, some (.int v2)] [] SH I R L Q := by
  refine go_iload_n dX5_seekAcquittal_52 rfl ?_
  refine go_iconst (v := 4) dX5_seekAcquittal_53 (by decide) ?_
  refine go_icmp_gt 82 dX5_seekAcquittal_54 (by decide) (fun c => ?_) (fun c => ?_)
  · have h := h.1 c
    exact go_vret dX5_seekAcquittal_82 rfl rfl h
  · have h := h.2 c
    refine go_aload_n dX5_seekAcquittal_57 rfl ?_
    refine go_getI dX5_seekAcquittal_58 fX5_43 rfl rfl ?_
    refine go_iconst (v := -1) dX5_seekAcquittal_61 (by decide) ?_
    refine go_icmp_ne 82 dX5_seekAcquittal_62 (by decide) (fun c => ?_) (fun c => ?_)
    · have h := h.1 c
      exact go_vret dX5_seekAcquittal_82 rfl rfl h
    · have h := h.2 c
      refine go_aload_n dX5_seekAcquittal_65 rfl ?_
      refine go_iload_n dX5_seekAcquittal_66 rfl ?_
      refine go_putI dX5_seekAcquittal_67 fX5_105 rfl rfl rfl rfl ?_
      have h := h _ rfl
      refine go_aload_n dX5_seekAcquittal_70 rfl ?_
      refine go_iconst (v := 0) dX5_seekAcquittal_71 (by decide) ?_
      refine go_iconst (v := 0) dX5_seekAcquittal_72 (by decide) ?_
      refine go_callV0 (μ := mX5_seekAcquittal) [.int _, .int _] dX5_seekAcquittal_73 YX5_trySpoons lX5_108 rfl ⟨_, rfl, rfl⟩ rfl (Nat.le_of_ble_eq_true rfl) (Nat.le_refl _) rfl h
theorem b_X5_seekAcquittal_76 {G : gG} {I : gI} {R : gR} {L : gL} {Q : gQ} {v2 : Int32} (hR : g_Fx R) (h : ∀ v2_15 : Int32, v2_15 = v2 + 1 → Go G mX5_seekAcquittal 21 0 0 52 [some (.ref 1), none, some (.int v2_15)] [] SH I R L Q) : Go G mX5_seekAcquittal 21 0 0 76 [some (.ref 1), none, some (.int v2)] [] SH I R L Q := by
  refine go_iinc dX5_seekAcquittal_76 rfl (Nat.le_of_ble_eq_true rfl) rfl ?_
  have h := h _ rfl
  refine go_goto 52 dX5_seekAcquittal_79 (by decide) ?_
  exact h
def skP (I : gI) (s : Int32) : Prop := okI I ∧ okDn 0 (dyC I 4) ∧ (0 ≤ (I 4 4).toInt ∧ (I 4 4).toInt ≤ 30) ∧ ∃ E σ, I 3 6 = nI E ∧ E ≤ 9 ∧ s = nI σ ∧ σ < 2
def skQ (I : gI) (s : Int32) (I1 : gI) : Prop := (∀ c, c ≠ 1 → (c < 164 ∨ 173 < c) → I1 c = I c) ∧ (∀ j, (j < 8 ∨ 11 < j) → I1 1 j = I 1 j) ∧ aqA (thC I) (dyC I 4) (I 3 6).toInt s.toInt (I 4 4).toInt (I1 1 8).toInt (I1 1 9).toInt (fun k => (I1 173 k).toInt)
theorem map_range {l : List Int} {f : Nat → Int} {n : Nat} (hl : l.length = n) (h : ∀ i, i < n → f i = l.getD i 0) : (List.range n).map f = l := by
  apply List.ext_getElem?
  intro i
  by_cases hi : i < n
  · rw [List.getElem?_map, List.getElem?_range hi]
    have hi' : i < l.length := by omega
    simp [h i hi, List.getD_eq_getElem?_getD, hi']
  · rw [List.getElem?_eq_none (by simp; omega), List.getElem?_eq_none (by omega)]
theorem k_X5_seekAcquittal {G : gG} {I : gI} {R : gR} {L : gL} {Q : gQ} {s : Int32} (hR : g_Fx R) (p0 : skP I s) (hq : ∀ I1 : gI, skQ I s I1 → Q none SH I1 R L) : Mt G mX5_seekAcquittal 21 0 0 [.ref 1, .int s] SH I R L Q := by
  obtain ⟨oI, oD0, hdn, E, σ, e6, hE, rfl, hσ⟩ := p0
  unfold skQ at hq
  rw [e6, nI_toInt (by omega), nI_toInt (by omega)] at hq
  obtain ⟨cD, cx, c4⟩ := cp166 I
  refine e_X5_seekAcquittal hR ?_
  rintro _ rfl _ rfl _ rfl _ rfl
  generalize hJ : up (up (up (cpSc I 4 166) 1 10 (nI σ)) 1 8 (-1)) 1 9 0 = J
  have jo : ∀ c, c ≠ 1 → J c = cpSc I 4 166 c := fun c c1 => by rw [← hJ, up_off _ c1, up_off _ c1, up_off _ c1]
  have jx : ∀ c, c ≠ 1 → (c < 166 ∨ 169 < c) → J c = I c := fun c c1 c2 => by rw [jo c c1, cx c c2]
  have j1 : ∀ j, J 1 j = if j = 9 then 0 else if j = 8 then -1 else if j = 10 then nI σ else I 1 j := fun j => by
    rw [← hJ]
    by_cases z9 : j = 9
    · rw [z9, up_eq, if_pos rfl]
    rw [up_ni z9, if_neg z9]
    by_cases z8 : j = 8
    · rw [z8, up_eq, if_pos rfl]
    rw [up_ni z8, if_neg z8]
    by_cases z10 : j = 10
    · rw [z10, up_eq, if_pos rfl]
    rw [up_ni z10, if_neg z10, cx 1 (by decide)]
  have dJ : dyC J 166 = dyC (cpSc I 4 166) 166 := dyC_at (fun x x1 x2 => jo x (by omega))
  have D0 : eqD (dyC J 166) (dyC I 4) := by rw [dJ]; exact cD
  have tJ := th_at (I := I) (J := J) (fun c c1 c2 => jx c c2 (by omega))
  have d4 : J 166 4 = I 4 4 := by rw [jo 166 (by decide)]; exact c4
  refine ⟨vp_in_nI hσ (by decide), tJ.2 oI, okD_eq D0.symm (oD0.ok (by decide)), by rw [d4]; exact hdn, ?_⟩
  intro J9 j9
  have eg : gui (thC J) (dyC J 166) (nI σ).toInt (J 166 4).toInt = gui (thC I) (dyC I 4) σ (I 4 4).toInt := by
    rw [tJ.1, d4, nI_toInt (by omega)]
    exact gui_eq (eqT.rfl' _) D0 oI.1 (by omega) (by omega)
  rw [eg]
  refine ⟨fun cg => ?_, fun cg => ?_⟩
  · -- guilty now
    have no0 : ∀ l' h', l'.length < 1 → ¬ gdA (thC I) (dyC I 4) E σ (I 4 4).toInt l' h' := by
      rintro l' h' hl ⟨-, δ', g1, g2⟩
      have : l' = [] := List.eq_nil_of_length_eq_zero (by omega)
      subst this
      simp only [rnA, Option.some.injEq, Prod.mk.injEq] at g1
      rw [← g1.1, cg] at g2; cases g2
    have loop : ∀ n g (K : gI), g + n = 5 → 1 ≤ g → (∀ c, c ≠ 1 → (c < 164 ∨ 173 < c ∨ (166 ≤ c ∧ c ≤ 169)) → K c = J c) → (∀ j, (j < 8 ∨ 11 < j ∨ j = 10) → K 1 j = J 1 j) → K 1 8 = -1 → (∀ l' h', l'.length < g → ¬ gdA (thC I) (dyC I 4) E σ (I 4 4).toInt l' h') → Go G mX5_seekAcquittal 21 0 0 52 [some (.ref 1), none, some (.int (nI g))] [] SH K R L Q := by
      intro n
      induction n with
      | zero =>
        intro g K e h1 kx k1 k8 no
        refine b_X5_seekAcquittal_52 hR ⟨fun _ => hq K ⟨fun c c1 c2 => by rw [kx c c1 (by omega), jx c c1 (by omega)], fun j hj => by rw [k1 j (by omega), j1, if_neg (by omega), if_neg (by omega), if_neg (by omega)], Or.inl ⟨by rw [k8]; rfl, fun l' h' hl => no l' h' (by omega)⟩⟩, fun c => absurd (show (4 : Int32) < nI g by rw [show (4 : Int32) = nI 4 from rfl]; exact nI_lt (by omega) (by omega)) c⟩
      | succ n ih =>
        intro g K e h1 kx k1 k8 no
        refine b_X5_seekAcquittal_52 hR ⟨fun c => absurd c (by rw [show (4 : Int32) = nI 4 from rfl]; exact nI_nlt (by omega) (by decide)), fun _ => ⟨fun c => absurd k8 c, fun _ => ?_⟩⟩
        rintro _ rfl
        generalize hK2 : up K 1 11 (nI g) = K2
        have k2 : ∀ c, c ≠ 1 → K2 c = K c := fun c c1 => by rw [← hK2, up_off _ c1]
        have k21 : ∀ j, j ≠ 11 → K2 1 j = K 1 j := fun j hj => by rw [← hK2, up_ni hj]
        have dK : dyC K2 166 = dyC J 166 := dyC_at (fun x x1 x2 => by rw [k2 x (by omega), kx x (by omega) (by omega)])
        refine k_trySpoons (I0 := I) (E := E) (g := g) (σ := σ) (dn := I 4 4) (δ0 := dyC I 4) hR oI hE e6 (by omega) hσ hdn oD0 (g - 1) 19 [] K2 none L _ K2 0 (dyC I 4) 0 (by omega) (by simp; omega) (fun c hc => by simp at hc) rfl (by rw [dK]; exact D0) (fun c c1 c2 => by rw [k2 c c2, kx c c2 (by omega), jx c c2 (by omega)]) (by rw [← hK2, up_eq]) (by rw [k21 10 (by decide), k1 10 (by omega), j1, if_neg (by decide), if_neg (by decide), if_pos rfl]) (by rw [k2 166 (by decide), kx 166 (by decide) (by omega)]; exact d4) (fun i hi => by simp at hi) (fun z => by simp at z) (fun l h _ _ => plt_nil l) (by show K2 1 8 = -1; rw [k21 8 (by decide)]; exact k8) (fun K3 S3 fr as3 iv3 => ?_)
        show Go G mX5_seekAcquittal 21 0 0 76 _ [] SH K3 R L Q
        refine b_X5_seekAcquittal_76 hR ?_
        rintro _ rfl
        rw [nI_1]
        rw [List.nil_append] at iv3
        have k3x : ∀ c, c ≠ 1 → (c < 164 ∨ 173 < c ∨ (166 ≤ c ∧ c ≤ 169)) → K3 c = J c := fun c c1 c2 => by rw [fr.1 c c1 (by omega) (by omega) (by omega) (by omega) (by omega), k2 c c1, kx c c1 c2]
        have k31 : ∀ j, (j < 8 ∨ 11 < j ∨ j = 10) → K3 1 j = J 1 j := fun j hj => by rw [fr.2.1 j (by omega) (by omega), k21 j (by omega), k1 j hj]
        match S3, as3, iv3 with
        | none, as3, iv3 =>
          refine ih (g + 1) K3 (by omega) (by omega) k3x k31 as3 (fun l' h' hl hg => ?_)
          rcases Nat.lt_or_ge l'.length g with z | z
          · exact no l' h' z hg
          · exact iv3 l' h' (by omega) hg (plt_all hg.1 (by omega))
        | some (h, l), as3, iv3 =>
          obtain ⟨x1, x2, x3⟩ := as3
          obtain ⟨y1, y2, y3, y4⟩ := iv3
          have ne : ¬ K3 1 8 = -1 := fun z => by
            rw [x1] at z
            have := congrArg Int32.toInt z
            rw [nI_toInt (by omega)] at this
            exact absurd this (by show ¬ ((g : Int) = -1); omega)
          have fin : Q none SH K3 R L := by
            refine hq K3 ⟨fun c c1 c2 => by rw [k3x c c1 (by omega), jx c c1 (by omega)], fun j hj => by rw [k31 j (by omega), j1, if_neg (by omega), if_neg (by omega), if_neg (by omega)], Or.inr ?_⟩
            rw [x1, nI_toInt (by omega), x2]
            refine ⟨by omega, by omega, ?_, fun l' h' hl => no l' h' (by simpa using hl)⟩
            have em : (List.range ((g : Int).toNat)).map (fun k => (K3 173 k).toInt) = l := map_range (by rw [y1]; rfl) (fun i hi => x3 i (by rw [y1]; exact hi))
            rw [em]
            exact ⟨y1, y2, fun l' h' hl hg => y4 l' h' hl hg (plt_all hg.1 (by rw [hl]; exact h1))⟩
          exact b_X5_seekAcquittal_52 hR ⟨fun _ => fin, fun _ => ⟨fun _ => fin, fun z => absurd z ne⟩⟩
    exact loop 4 1 J9 rfl (Nat.le_refl 1) (fun c c1 c2 => j9 c (by omega) (by omega)) (fun j _ => by rw [j9 1 (by decide) (by decide)]) (by rw [j9 1 (by decide) (by decide), j1, if_neg (by decide), if_pos rfl]) no0
  · -- not guilty
    have cg' : gui (thC I) (dyC I 4) σ (I 4 4).toInt = false := by simpa using cg
    rintro _ rfl
    have y8 : up J9 1 8 0 1 8 = 0 := up_eq _ _ _ _
    have y9 : up J9 1 8 0 1 9 = 0 := by rw [up_ni (by decide), j9 1 (by decide) (by decide), j1, if_pos rfl]
    refine hq _ ⟨fun c c1 c2 => by rw [up_off _ c1, j9 c (by omega) (by omega), jx c c1 (by omega)], fun j hj => by rw [up_ni (by omega), j9 1 (by decide) (by decide), j1, if_neg (by omega), if_neg (by omega), if_neg (by omega)], Or.inr ?_⟩
    rw [y8, y9]
    refine ⟨by decide, by decide, ⟨rfl, ⟨fun c hc => by simp at hc, dyC I 4, rfl, cg'⟩, fun l' h' hl hg => ?_⟩, fun l' h' hl => absurd hl (by simp)⟩
    have : l' = [] := List.eq_nil_of_length_eq_zero hl
    subst this
    obtain ⟨-, δ', g1, -⟩ := hg
    simp only [rnA, Option.some.injEq, Prod.mk.injEq] at g1
    exact Or.inr ⟨g1.2, by simp [lxl]⟩
theorem e_X6_acquitted {G : gG} {I : gI} {R : gR} {L : gL} {Q : gQ} {a b : Int32} (hR : g_Fx R) (h : (a = 0 ∨ a = 1 → ((I 0 9) = a → ∀ v3_1 : Int32, v3_1 = (I 1 8) → (¬ v3_1 = (-1) → (¬ b = (-1) → (¬ b = (-2) → (b < 0 → Q (some (.int (-3))) SH I R L) ∧ (¬ b < 0 → (v3_1 ≤ b → Q (some (.int (-3))) SH I R L) ∧ (¬ v3_1 ≤ b → (4 ≤ b → Q (some (.int (-3))) SH I R L) ∧ (¬ 4 ≤ b → vp_in b 4 ∧ (Q (some (.int (I 173 b.toNatClampNeg))) SH I R L))))) ∧ (b = (-2) → Q (some (.int (I 1 9))) SH I R L)) ∧ (b = (-1) → Q (some (.int v3_1)) SH I R L)) ∧ (v3_1 = (-1) → Q (some (.int (-3))) SH I R L)) ∧ (¬ (I 0 9) = a → skP I a ∧ (∀ I_9 : gI, skQ I a I_9 → ∀ I_10 : gI, I_10 = up I_9 0 9 a → ∀ v3_11 : Int32, v3_11 = (I_10 1 8) → (¬ v3_11 = (-1) → (¬ b = (-1) → (¬ b = (-2) → (b < 0 → Q (some (.int (-3))) SH I_10 R L) ∧ (¬ b < 0 → (v3_11 ≤ b → Q (some (.int (-3))) SH I_10 R L) ∧ (¬ v3_11 ≤ b → (4 ≤ b → Q (some (.int (-3))) SH I_10 R L) ∧ (¬ 4 ≤ b → vp_in b 4 ∧ (Q (some (.int (I_10 173 b.toNatClampNeg))) SH I_10 R L))))) ∧ (b = (-2) → Q (some (.int (I_10 1 9))) SH I_10 R L)) ∧ (b = (-1) → Q (some (.int v3_11)) SH I_10 R L)) ∧ (v3_11 = (-1) → Q (some (.int (-3))) SH I_10 R L)))) ∧ (¬ (a = 0 ∨ a = 1) → Q (some (.int (-3))) SH I R L)) : Mt G mX6_acquitted 30 0 0 [.ref 0, .int a, .int b] SH I R L Q := by
  refine go_start rfl (Nat.le_of_ble_eq_true rfl) rfl ?_
  refine go_iload_n dX6_acquitted_0 rfl ?_
  refine go_callS0 (μ := mX6_acquitted) [.int _] dX6_acquitted_1 YX6_isSide lX6_58 rfl (Nat.le_of_ble_eq_true rfl) (Nat.le_of_ble_eq_true rfl) rfl (k_X6_isSide hR ?_)
  refine go_if_ne 10 dX6_acquitted_4 (by decide) (fun c => ?_) (fun c => ?_)
  · have h := h.1 (b1.mp c)
    refine go_aload_n dX6_acquitted_10 rfl ?_
    refine go_getI dX6_acquitted_11 fX6_55 rfl rfl ?_
    refine go_iload_n dX6_acquitted_14 rfl ?_
    refine go_icmp_eq 31 dX6_acquitted_15 (by decide) (fun c => ?_) (fun c => ?_)
    · have h := h.1 c
      refine go_aload_n dX6_acquitted_31 rfl ?_
      refine go_getR dX6_acquitted_32 fX6_10 rfl rfl (hR 0 0 1 rfl) ?_
      refine go_getI dX6_acquitted_35 fX6_211 rfl rfl ?_
      refine go_istore_n dX6_acquitted_38 (Nat.le_of_ble_eq_true rfl) rfl ?_
      have h := h _ rfl
      refine go_iload_n dX6_acquitted_39 rfl ?_
      refine go_iconst (v := -1) dX6_acquitted_40 (by decide) ?_
      refine go_icmp_ne 47 dX6_acquitted_41 (by decide) (fun c => ?_) (fun c => ?_)
      · have h := h.1 c
        refine go_iload_n dX6_acquitted_47 rfl ?_
        refine go_iconst (v := -1) dX6_acquitted_48 (by decide) ?_
        refine go_icmp_ne 54 dX6_acquitted_49 (by decide) (fun c => ?_) (fun c => ?_)
        · have h := h.1 c
          refine go_iload_n dX6_acquitted_54 rfl ?_
          refine go_bipush (v := -2) dX6_acquitted_55 (by decide) ?_
          refine go_icmp_ne 68 dX6_acquitted_57 (by decide) (fun c => ?_) (fun c => ?_)
          · have h := h.1 c
            refine go_iload_n dX6_acquitted_68 rfl ?_
            refine go_if_lt 94 dX6_acquitted_69 (by decide) (fun c => ?_) (fun c => ?_)
            · have h := h.1 c
              refine go_bipush (v := -3) dX6_acquitted_94 (by decide) ?_
              exact go_iret dX6_acquitted_96 rfl rfl h
            · have h := h.2 c
              refine go_iload_n dX6_acquitted_72 rfl ?_
              refine go_iload_n dX6_acquitted_73 rfl ?_
              refine go_icmp_ge 94 dX6_acquitted_74 (by decide) (fun c => ?_) (fun c => ?_)
              · have h := h.1 c
                refine go_bipush (v := -3) dX6_acquitted_94 (by decide) ?_
                exact go_iret dX6_acquitted_96 rfl rfl h
              · have h := h.2 c
                refine go_iload_n dX6_acquitted_77 rfl ?_
                refine go_iconst (v := 4) dX6_acquitted_78 (by decide) ?_
                refine go_icmp_ge 94 dX6_acquitted_79 (by decide) (fun c => ?_) (fun c => ?_)
                · have h := h.1 c
                  refine go_bipush (v := -3) dX6_acquitted_94 (by decide) ?_
                  exact go_iret dX6_acquitted_96 rfl rfl h
                · have h := h.2 c
                  refine go_aload_n dX6_acquitted_82 rfl ?_
                  refine go_getR dX6_acquitted_83 fX6_10 rfl rfl (hR 0 0 1 rfl) ?_
                  refine go_getR dX6_acquitted_86 fX6_217 rfl rfl (hR 1 7 173 rfl) ?_
                  refine go_iload_n dX6_acquitted_89 rfl ?_
                  obtain ⟨hi, h⟩ := h
                  refine go_iald dX6_acquitted_90 rfl hi ?_
                  refine go_goto 96 dX6_acquitted_91 (by decide) ?_
                  exact go_iret dX6_acquitted_96 rfl rfl h
          · have h := h.2 c
            refine go_aload_n dX6_acquitted_60 rfl ?_
            refine go_getR dX6_acquitted_61 fX6_10 rfl rfl (hR 0 0 1 rfl) ?_
            refine go_getI dX6_acquitted_64 fX6_214 rfl rfl ?_
            exact go_iret dX6_acquitted_67 rfl rfl h
        · have h := h.2 c
          refine go_iload_n dX6_acquitted_52 rfl ?_
          exact go_iret dX6_acquitted_53 rfl rfl h
      · have h := h.2 c
        refine go_bipush (v := -3) dX6_acquitted_44 (by decide) ?_
        exact go_iret dX6_acquitted_46 rfl rfl h
    · have h := h.2 c
      refine go_aload_n dX6_acquitted_18 rfl ?_
      refine go_getR dX6_acquitted_19 fX6_10 rfl rfl (hR 0 0 1 rfl) ?_
      refine go_iload_n dX6_acquitted_22 rfl ?_
      obtain ⟨hp_8, h⟩ := h
      refine go_callV0 (μ := mX6_acquitted) [.int _] dX6_acquitted_23 YX5_seekAcquittal lX6_208 rfl ⟨_, rfl, rfl⟩ rfl (Nat.le_of_ble_eq_true rfl) (Nat.le_of_ble_eq_true rfl) rfl (k_X5_seekAcquittal hR hp_8 (fun I_9 hq => ?_))
      have h := h I_9 hq
      refine go_aload_n dX6_acquitted_26 rfl ?_
      refine go_iload_n dX6_acquitted_27 rfl ?_
      refine go_putI dX6_acquitted_28 fX6_55 rfl rfl rfl rfl ?_
      have h := h _ rfl
      refine go_aload_n dX6_acquitted_31 rfl ?_
      refine go_getR dX6_acquitted_32 fX6_10 rfl rfl (hR 0 0 1 rfl) ?_
      refine go_getI dX6_acquitted_35 fX6_211 rfl rfl ?_
      refine go_istore_n dX6_acquitted_38 (Nat.le_of_ble_eq_true rfl) rfl ?_
      have h := h _ rfl
      refine go_iload_n dX6_acquitted_39 rfl ?_
      refine go_iconst (v := -1) dX6_acquitted_40 (by decide) ?_
      refine go_icmp_ne 47 dX6_acquitted_41 (by decide) (fun c => ?_) (fun c => ?_)
      · have h := h.1 c
        refine go_iload_n dX6_acquitted_47 rfl ?_
        refine go_iconst (v := -1) dX6_acquitted_48 (by decide) ?_
        refine go_icmp_ne 54 dX6_acquitted_49 (by decide) (fun c => ?_) (fun c => ?_)
        · have h := h.1 c
          refine go_iload_n dX6_acquitted_54 rfl ?_
          refine go_bipush (v := -2) dX6_acquitted_55 (by decide) ?_
          refine go_icmp_ne 68 dX6_acquitted_57 (by decide) (fun c => ?_) (fun c => ?_)
          · have h := h.1 c
            refine go_iload_n dX6_acquitted_68 rfl ?_
            refine go_if_lt 94 dX6_acquitted_69 (by decide) (fun c => ?_) (fun c => ?_)
            · have h := h.1 c
              refine go_bipush (v := -3) dX6_acquitted_94 (by decide) ?_
              exact go_iret dX6_acquitted_96 rfl rfl h
            · have h := h.2 c
              refine go_iload_n dX6_acquitted_72 rfl ?_
              refine go_iload_n dX6_acquitted_73 rfl ?_
              refine go_icmp_ge 94 dX6_acquitted_74 (by decide) (fun c => ?_) (fun c => ?_)
              · have h := h.1 c
                refine go_bipush (v := -3) dX6_acquitted_94 (by decide) ?_
                exact go_iret dX6_acquitted_96 rfl rfl h
              · have h := h.2 c
                refine go_iload_n dX6_acquitted_77 rfl ?_
                refine go_iconst (v := 4) dX6_acquitted_78 (by decide) ?_
                refine go_icmp_ge 94 dX6_acquitted_79 (by decide) (fun c => ?_) (fun c => ?_)
                · have h := h.1 c
                  refine go_bipush (v := -3) dX6_acquitted_94 (by decide) ?_
                  exact go_iret dX6_acquitted_96 rfl rfl h
                · have h := h.2 c
                  refine go_aload_n dX6_acquitted_82 rfl ?_
                  refine go_getR dX6_acquitted_83 fX6_10 rfl rfl (hR 0 0 1 rfl) ?_
                  refine go_getR dX6_acquitted_86 fX6_217 rfl rfl (hR 1 7 173 rfl) ?_
                  refine go_iload_n dX6_acquitted_89 rfl ?_
                  obtain ⟨hi, h⟩ := h
                  refine go_iald dX6_acquitted_90 rfl hi ?_
                  refine go_goto 96 dX6_acquitted_91 (by decide) ?_
                  exact go_iret dX6_acquitted_96 rfl rfl h
          · have h := h.2 c
            refine go_aload_n dX6_acquitted_60 rfl ?_
            refine go_getR dX6_acquitted_61 fX6_10 rfl rfl (hR 0 0 1 rfl) ?_
            refine go_getI dX6_acquitted_64 fX6_214 rfl rfl ?_
            exact go_iret dX6_acquitted_67 rfl rfl h
        · have h := h.2 c
          refine go_iload_n dX6_acquitted_52 rfl ?_
          exact go_iret dX6_acquitted_53 rfl rfl h
      · have h := h.2 c
        refine go_bipush (v := -3) dX6_acquitted_44 (by decide) ?_
        exact go_iret dX6_acquitted_46 rfl rfl h
  · have h := h.2 (b0.mp c)
    refine go_bipush (v := -3) dX6_acquitted_7 (by decide) ?_
    exact go_iret dX6_acquitted_9 rfl rfl h
theorem e_X7_acquits {G : gG} {I : gI} {R : gR} {L : gL} {Q : gQ} {a b : Int32} (hR : g_Fx R) (h : ∀ v3_1 : Int32, v3_1 = (2 * (I 311 0)) → Go G mX7_acquits 20 0 0 15 [some (.ref 310), some (.int a), some (.int b), some (.int v3_1), some (.int 1), some (.int 0), none, none, none, none] [] SH I R L Q) : Mt G mX7_acquits 20 0 0 [.ref 310, .int a, .int b] SH I R L Q := by
  refine go_start rfl (Nat.le_of_ble_eq_true rfl) rfl ?_
  refine go_iconst (v := 2) dX7_acquits_0 (by decide) ?_
  refine go_aload_n dX7_acquits_1 rfl ?_
  refine go_getR dX7_acquits_2 fX7_7 rfl rfl (hR 310 0 311 rfl) ?_
  refine go_iconst (v := 0) dX7_acquits_5 (by decide) ?_
  refine go_ialdK dX7_acquits_6 rfl (vp_in_nI (n := 0) (by decide) (by decide)) (k := 0) (by decide) ?_
  refine go_imul dX7_acquits_7 ?_
  refine go_istore_n dX7_acquits_8 (Nat.le_of_ble_eq_true rfl) rfl ?_
  have h := h _ rfl
  refine go_iconst (v := 1) dX7_acquits_9 (by decide) ?_
  refine go_istore dX7_acquits_10 (Nat.le_of_ble_eq_true rfl) rfl ?_
  refine go_iconst (v := 0) dX7_acquits_12 (by decide) ?_
  refine go_istore dX7_acquits_13 (Nat.le_of_ble_eq_true rfl) rfl ?_
  exact h
theorem b_X7_acquits_15 {G : gG} {I : gI} {R : gR} {L : gL} {Q : gQ} {v1 v2 v3 v4 v5 : Int32} (hR : g_Fx R) (h : (v2 ≤ v5 → ∀ I_2 : gI, I_2 = up I 310 47 (-1) → Go G mX7_acquits 20 0 0 41 [some (.ref 310), some (.int v1), some (.int v2), some (.int v3), some (.int v4), some (.int 0), none, none, none, none] [] SH I_2 R L Q) ∧ (¬ v2 ≤ v5 → ∀ v4_3 : Int32, v4_3 = (v4 * v3) → ∀ v5_4 : Int32, v5_4 = v5 + 1 → Go G mX7_acquits 20 0 0 15 [some (.ref 310), some (.int v1), some (.int v2), some (.int v3), some (.int v4_3), some (.int v5_4), none, none, none, none] [] SH I R L Q)) : Go G mX7_acquits 20 0 0 15 [some (.ref 310), some (.int v1), some (.int v2), some (.int v3), some (.int v4), some (.int v5), none, none, none, none] [] SH I R L Q := by
  refine go_iload dX7_acquits_15 rfl ?_
  refine go_iload_n dX7_acquits_17 rfl ?_
  refine go_icmp_ge 33 dX7_acquits_18 (by decide) (fun c => ?_) (fun c => ?_)
  · have h := h.1 c
    refine go_aload_n dX7_acquits_33 rfl ?_
    refine go_iconst (v := -1) dX7_acquits_34 (by decide) ?_
    refine go_putI dX7_acquits_35 fX7_382 rfl rfl rfl rfl ?_
    have h := h _ rfl
    refine go_iconst (v := 0) dX7_acquits_38 (by decide) ?_
    refine go_istore dX7_acquits_39 (Nat.le_of_ble_eq_true rfl) rfl ?_
    exact h
  · have h := h.2 c
    refine go_iload dX7_acquits_21 rfl ?_
    refine go_iload_n dX7_acquits_23 rfl ?_
    refine go_imul dX7_acquits_24 ?_
    refine go_istore dX7_acquits_25 (Nat.le_of_ble_eq_true rfl) rfl ?_
    have h := h _ rfl
    refine go_iinc dX7_acquits_27 rfl (Nat.le_of_ble_eq_true rfl) rfl ?_
    have h := h _ rfl
    refine go_goto 15 dX7_acquits_30 (by decide) ?_
    exact h
theorem b_X7_acquits_41 {G : gG} {I : gI} {R : gR} {L : gL} {Q : gQ} {v1 v2 v3 v4 v5 : Int32} (hR : g_Fx R) (h : (v4 ≤ v5 → ((I 310 47) = (-1) → Q (some (.int 0)) SH I R L) ∧ (¬ (I 310 47) = (-1) → Q (some (.int 1)) SH I R L)) ∧ (¬ v4 ≤ v5 → ∀ v7_7 : Int32, v7_7 = (v2 - 1) → Go G mX7_acquits 20 0 0 57 [some (.ref 310), some (.int v1), some (.int v2), some (.int v3), some (.int v4), some (.int v5), some (.int v5), some (.int v7_7), none, none] [] SH I R L Q)) : Go G mX7_acquits 20 0 0 41 [some (.ref 310), some (.int v1), some (.int v2), some (.int v3), some (.int v4), some (.int v5), none, none, none, none] [] SH I R L Q := by
  refine go_iload dX7_acquits_41 rfl ?_
  refine go_iload dX7_acquits_43 rfl ?_
  refine go_icmp_ge 248 dX7_acquits_45 (by decide) (fun c => ?_) (fun c => ?_)
  · have h := h.1 c
    refine go_aload_n dX7_acquits_248 rfl ?_
    refine go_getI dX7_acquits_249 fX7_382 rfl rfl ?_
    refine go_iconst (v := -1) dX7_acquits_252 (by decide) ?_
    refine go_icmp_eq 260 dX7_acquits_253 (by decide) (fun c => ?_) (fun c => ?_)
    · have h := h.1 c
      refine go_iconst (v := 0) dX7_acquits_260 (by decide) ?_
      exact go_zret dX7_acquits_261 rfl rfl rfl h
    · have h := h.2 c
      refine go_iconst (v := 1) dX7_acquits_256 (by decide) ?_
      refine go_goto 261 dX7_acquits_257 (by decide) ?_
      exact go_zret dX7_acquits_261 rfl rfl rfl h
  · have h := h.2 c
    refine go_iload dX7_acquits_48 rfl ?_
    refine go_istore dX7_acquits_50 (Nat.le_of_ble_eq_true rfl) rfl ?_
    refine go_iload_n dX7_acquits_52 rfl ?_
    refine go_iconst (v := 1) dX7_acquits_53 (by decide) ?_
    refine go_isub dX7_acquits_54 ?_
    refine go_istore dX7_acquits_55 (Nat.le_of_ble_eq_true rfl) rfl ?_
    have h := h _ rfl
    exact h
theorem b_X7_acquits_57 {G : gG} {I : gI} {R : gR} {L : gL} {Q : gQ} {v1 v2 v3 v4 v5 v6 v7 : Int32} (hR : g_Fx R) (h : (v7 < 0 → ∀ I_9 : gI, I_9 = layI I → ∀ v7_10 : Int32, v7_10 = ((I_9 333 0) + (I_9 333 2)) → Go G mX7_acquits 20 0 0 110 [some (.ref 310), some (.int v1), some (.int v2), some (.int v3), some (.int v4), some (.int v5), none, some (.int v7_10), some (.int 1), some (.int 0)] [] SH I_9 R L Q) ∧ (¬ v7 < 0 → ¬ v3 = 0 ∧ (vp_in v7 4 ∧ (∀ I_11 : gI, I_11 = up I 338 v7.toNatClampNeg (v6 - v6 / v3 * v3) → ¬ v3 = 0 ∧ (∀ v6_12 : Int32, v6_12 = (v6 / v3) → ∀ v7_13 : Int32, v7_13 = v7 + (-1) → Go G mX7_acquits 20 0 0 57 [some (.ref 310), some (.int v1), some (.int v2), some (.int v3), some (.int v4), some (.int v5), some (.int v6_12), some (.int v7_13), none, none] [] SH I_11 R L Q))))) : Go G mX7_acquits 20 0 0 57 [some (.ref 310), some (.int v1), some (.int v2), some (.int v3), some (.int v4), some (.int v5), some (.int v6), some (.int v7), none, none] [] SH I R L Q := by
  refine go_iload dX7_acquits_57 rfl ?_
  refine go_if_lt 85 dX7_acquits_59 (by decide) (fun c => ?_) (fun c => ?_)
  · have h := h.1 c
    refine go_aload_n dX7_acquits_85 rfl ?_
    refine go_callV0 (μ := mX7_acquits) [] dX7_acquits_86 YX7_laysWorld lX7_349 rfl ⟨_, rfl, rfl⟩ rfl (Nat.le_of_ble_eq_true rfl) (Nat.le_of_ble_eq_true rfl) rfl (k_X7_laysWorld hR ?_)
    have h := h _ rfl
    refine go_aload_n dX7_acquits_89 rfl ?_
    refine go_getR dX7_acquits_90 fX7_85 rfl rfl (hR 310 39 333 rfl) ?_
    refine go_iconst (v := 0) dX7_acquits_93 (by decide) ?_
    refine go_ialdK dX7_acquits_94 rfl (vp_in_nI (n := 0) (by decide) (by decide)) (k := 0) (by decide) ?_
    refine go_aload_n dX7_acquits_95 rfl ?_
    refine go_getR dX7_acquits_96 fX7_85 rfl rfl (hR 310 39 333 rfl) ?_
    refine go_iconst (v := 2) dX7_acquits_99 (by decide) ?_
    refine go_ialdK dX7_acquits_100 rfl (vp_in_nI (n := 2) (by decide) (by decide)) (k := 2) (by decide) ?_
    refine go_iadd dX7_acquits_101 ?_
    refine go_istore dX7_acquits_102 (Nat.le_of_ble_eq_true rfl) rfl ?_
    have h := h _ rfl
    refine go_iconst (v := 1) dX7_acquits_104 (by decide) ?_
    refine go_istore dX7_acquits_105 (Nat.le_of_ble_eq_true rfl) rfl ?_
    refine go_iconst (v := 0) dX7_acquits_107 (by decide) ?_
    refine go_istore dX7_acquits_108 (Nat.le_of_ble_eq_true rfl) rfl ?_
    refine go_drop 6 ?_
    exact h
  · have h := h.2 c
    refine go_aload_n dX7_acquits_62 rfl ?_
    refine go_getR dX7_acquits_63 fX7_100 rfl rfl (hR 310 45 338 rfl) ?_
    refine go_iload dX7_acquits_66 rfl ?_
    refine go_iload dX7_acquits_68 rfl ?_
    refine go_iload_n dX7_acquits_70 rfl ?_
    obtain ⟨hn, h⟩ := h
    refine go_irem dX7_acquits_71 hn ?_
    obtain ⟨hi, h⟩ := h
    refine go_iast dX7_acquits_72 rfl hi ?_
    have h := h _ rfl
    refine go_iload dX7_acquits_73 rfl ?_
    refine go_iload_n dX7_acquits_75 rfl ?_
    obtain ⟨hn, h⟩ := h
    refine go_idiv dX7_acquits_76 hn ?_
    refine go_istore dX7_acquits_77 (Nat.le_of_ble_eq_true rfl) rfl ?_
    have h := h _ rfl
    refine go_iinc dX7_acquits_79 rfl (Nat.le_of_ble_eq_true rfl) rfl ?_
    have h := h _ rfl
    refine go_goto 57 dX7_acquits_82 (by decide) ?_
    exact h
theorem b_X7_acquits_110 {G : gG} {I : gI} {R : gR} {L : gL} {Q : gQ} {v1 v2 v3 v4 v5 v7 v8 v9 : Int32} (hR : g_Fx R) (h : (v2 ≤ v9 → Go G mX7_acquits 20 0 0 159 [some (.ref 310), some (.int v1), some (.int v2), some (.int v3), some (.int v4), some (.int v5), none, some (.int v7), some (.int v8), none] [] SH I R L Q) ∧ (¬ v2 ≤ v9 → (v8 = 0 → Go G mX7_acquits 20 0 0 159 [some (.ref 310), some (.int v1), some (.int v2), some (.int v3), some (.int v4), some (.int v5), none, some (.int v7), some (.int v8), none] [] SH I R L Q) ∧ (¬ v8 = 0 → vp_in v9 4 ∧ (vp_in v9 4 ∧ ((vp_in ((I 338 v9.toNatClampNeg) / 2) 9) ∧ ((vp_in ((I 338 v9.toNatClampNeg) - (I 338 v9.toNatClampNeg) / 2 * 2) 2) ∧ (okN I ∧ ((okD (dyM I)) ∧ (∀ r_19 : Int32, ∀ I_20 : gI, ∀ L_21 : gL, (r_19.toInt = spn (thM I) (dyM I) ((I 338 v9.toNatClampNeg) / 2).toNatClampNeg ((I 338 v9.toNatClampNeg) - (I 338 v9.toNatClampNeg) / 2 * 2).toInt ∧ dyM I_20 = eaD (dyM I) ((I 338 v9.toNatClampNeg) / 2).toNatClampNeg ((I 338 v9.toNatClampNeg) - (I 338 v9.toNatClampNeg) / 2 * 2).toInt (spn (thM I) (dyM I) ((I 338 v9.toNatClampNeg) / 2).toNatClampNeg ((I 338 v9.toNatClampNeg) - (I 338 v9.toNatClampNeg) / 2 * 2).toInt) ∧ (∀ a, a ≠ 331 → a ≠ 333 → a ≠ 334 → a ≠ 310 → I_20 a = I a) ∧ (∀ j, j ≠ 41 → I_20 310 j = I 310 j) ∧ ∀ a, a ≠ 332 → L_21 a = L a) → (r_19 ≤ 0 → ∀ v9_22 : Int32, v9_22 = v9 + 1 → Go G mX7_acquits 20 0 0 110 [some (.ref 310), some (.int v1), some (.int v2), some (.int v3), some (.int v4), some (.int v5), none, some (.int v7), some (.int 0), some (.int v9_22)] [] SH I_20 R L_21 Q) ∧ (¬ r_19 ≤ 0 → ∀ v9_23 : Int32, v9_23 = v9 + 1 → Go G mX7_acquits 20 0 0 110 [some (.ref 310), some (.int v1), some (.int v2), some (.int v3), some (.int v4), some (.int v5), none, some (.int v7), some (.int 1), some (.int v9_23)] [] SH I_20 R L_21 Q)))))))))) : Go G mX7_acquits 20 0 0 110 [some (.ref 310), some (.int v1), some (.int v2), some (.int v3), some (.int v4), some (.int v5), none, some (.int v7), some (.int v8), some (.int v9)] [] SH I R L Q := by
  refine go_iload dX7_acquits_110 rfl ?_
  refine go_iload_n dX7_acquits_112 rfl ?_
  refine go_icmp_ge 159 dX7_acquits_113 (by decide) (fun c => ?_) (fun c => ?_)
  · have h := h.1 c
    refine go_drop 9 ?_
    exact h
  · have h := h.2 c
    refine go_iload dX7_acquits_116 rfl ?_
    refine go_if_eq 159 dX7_acquits_118 (by decide) (fun c => ?_) (fun c => ?_)
    · have h := h.1 c
      refine go_drop 9 ?_
      exact h
    · have h := h.2 c
      refine go_aload_n dX7_acquits_121 rfl ?_
      refine go_aload_n dX7_acquits_122 rfl ?_
      refine go_getR dX7_acquits_123 fX7_100 rfl rfl (hR 310 45 338 rfl) ?_
      refine go_iload dX7_acquits_126 rfl ?_
      obtain ⟨hi, h⟩ := h
      refine go_iald dX7_acquits_128 rfl hi ?_
      refine go_iconst (v := 2) dX7_acquits_129 (by decide) ?_
      refine go_idiv dX7_acquits_130 (by decide) ?_
      refine go_aload_n dX7_acquits_131 rfl ?_
      refine go_getR dX7_acquits_132 fX7_100 rfl rfl (hR 310 45 338 rfl) ?_
      refine go_iload dX7_acquits_135 rfl ?_
      obtain ⟨hi, h⟩ := h
      refine go_iald dX7_acquits_137 rfl hi ?_
      refine go_iconst (v := 2) dX7_acquits_138 (by decide) ?_
      refine go_irem dX7_acquits_139 (by decide) ?_
      obtain ⟨hp_15, h⟩ := h
      obtain ⟨hp_16, h⟩ := h
      obtain ⟨hp_17, h⟩ := h
      obtain ⟨hp_18, h⟩ := h
      refine go_callV0 (μ := mX7_acquits) [.int _, .int _] dX7_acquits_140 YX7_eats lX7_376 rfl ⟨_, rfl, rfl⟩ rfl (Nat.le_of_ble_eq_true rfl) (Nat.le_of_ble_eq_true rfl) rfl (k_X7_eats hR hp_15 hp_16 hp_17 hp_18 (fun r_19 I_20 L_21 hq => ?_))
      have h := h r_19 I_20 L_21 hq
      refine go_if_le 150 dX7_acquits_143 (by decide) (fun c => ?_) (fun c => ?_)
      · have h := h.1 c
        refine go_iconst (v := 0) dX7_acquits_150 (by decide) ?_
        refine go_istore dX7_acquits_151 (Nat.le_of_ble_eq_true rfl) rfl ?_
        refine go_iinc dX7_acquits_153 rfl (Nat.le_of_ble_eq_true rfl) rfl ?_
        have h := h _ rfl
        refine go_goto 110 dX7_acquits_156 (by decide) ?_
        exact h
      · have h := h.2 c
        refine go_iconst (v := 1) dX7_acquits_146 (by decide) ?_
        refine go_goto 151 dX7_acquits_147 (by decide) ?_
        refine go_istore dX7_acquits_151 (Nat.le_of_ble_eq_true rfl) rfl ?_
        refine go_iinc dX7_acquits_153 rfl (Nat.le_of_ble_eq_true rfl) rfl ?_
        have h := h _ rfl
        refine go_goto 110 dX7_acquits_156 (by decide) ?_
        exact h
theorem b_X7_acquits_159 {G : gG} {I : gI} {R : gR} {L : gL} {Q : gQ} {v1 v2 v3 v4 v5 v7 v8 : Int32} (hR : g_Fx R) (h : ∀ v7_27 : Int32, v7_27 = (v7 - ((I 333 0) + (I 333 2))) → (v8 = 0 → ∀ v5_28 : Int32, v5_28 = v5 + 1 → Go G mX7_acquits 20 0 0 41 [some (.ref 310), some (.int v1), some (.int v2), some (.int v3), some (.int v4), some (.int v5_28), none, none, none, none] [] SH I R L Q) ∧ (¬ v8 = 0 → ((I 310 47) = (-1) → Go G mX7_acquits 20 0 0 199 [some (.ref 310), some (.int v1), some (.int v2), some (.int v3), some (.int v4), some (.int v5), none, some (.int v7_27), none, none] [] SH I R L Q) ∧ (¬ (I 310 47) = (-1) → ((I 310 47) ≤ v7_27 → ∀ v5_29 : Int32, v5_29 = v5 + 1 → Go G mX7_acquits 20 0 0 41 [some (.ref 310), some (.int v1), some (.int v2), some (.int v3), some (.int v4), some (.int v5_29), none, none, none, none] [] SH I R L Q) ∧ (¬ (I 310 47) ≤ v7_27 → Go G mX7_acquits 20 0 0 199 [some (.ref 310), some (.int v1), some (.int v2), some (.int v3), some (.int v4), some (.int v5), none, some (.int v7_27), none, none] [] SH I R L Q)))) : Go G mX7_acquits 20 0 0 159 [some (.ref 310), some (.int v1), some (.int v2), some (.int v3), some (.int v4), some (.int v5), none, some (.int v7), some (.int v8), none] [] SH I R L Q := by
  refine go_iload dX7_acquits_159 rfl ?_
  refine go_aload_n dX7_acquits_161 rfl ?_
  refine go_getR dX7_acquits_162 fX7_85 rfl rfl (hR 310 39 333 rfl) ?_
  refine go_iconst (v := 0) dX7_acquits_165 (by decide) ?_
  refine go_ialdK dX7_acquits_166 rfl (vp_in_nI (n := 0) (by decide) (by decide)) (k := 0) (by decide) ?_
  refine go_aload_n dX7_acquits_167 rfl ?_
  refine go_getR dX7_acquits_168 fX7_85 rfl rfl (hR 310 39 333 rfl) ?_
  refine go_iconst (v := 2) dX7_acquits_171 (by decide) ?_
  refine go_ialdK dX7_acquits_172 rfl (vp_in_nI (n := 2) (by decide) (by decide)) (k := 2) (by decide) ?_
  refine go_iadd dX7_acquits_173 ?_
  refine go_isub dX7_acquits_174 ?_
  refine go_istore dX7_acquits_175 (Nat.le_of_ble_eq_true rfl) rfl ?_
  have h := h _ rfl
  refine go_iload dX7_acquits_177 rfl ?_
  refine go_if_eq 242 dX7_acquits_179 (by decide) (fun c => ?_) (fun c => ?_)
  · have h := h.1 c
    refine go_iinc dX7_acquits_242 rfl (Nat.le_of_ble_eq_true rfl) rfl ?_
    have h := h _ rfl
    refine go_goto 41 dX7_acquits_245 (by decide) ?_
    refine go_drop 7 ?_
    refine go_drop 8 ?_
    exact h
  · have h := h.2 c
    refine go_aload_n dX7_acquits_182 rfl ?_
    refine go_getI dX7_acquits_183 fX7_382 rfl rfl ?_
    refine go_iconst (v := -1) dX7_acquits_186 (by decide) ?_
    refine go_icmp_eq 199 dX7_acquits_187 (by decide) (fun c => ?_) (fun c => ?_)
    · have h := h.1 c
      refine go_drop 8 ?_
      exact h
    · have h := h.2 c
      refine go_iload dX7_acquits_190 rfl ?_
      refine go_aload_n dX7_acquits_192 rfl ?_
      refine go_getI dX7_acquits_193 fX7_382 rfl rfl ?_
      refine go_icmp_ge 242 dX7_acquits_196 (by decide) (fun c => ?_) (fun c => ?_)
      · have h := h.1 c
        refine go_iinc dX7_acquits_242 rfl (Nat.le_of_ble_eq_true rfl) rfl ?_
        have h := h _ rfl
        refine go_goto 41 dX7_acquits_245 (by decide) ?_
        refine go_drop 7 ?_
        refine go_drop 8 ?_
        exact h
      · have h := h.2 c
        refine go_drop 8 ?_
        exact h
theorem b_X7_acquits_199 {G : gG} {I : gI} {R : gR} {L : gL} {Q : gQ} {v1 v2 v3 v4 v5 v7 : Int32} (hR : g_Fx R) (h : vp_in v1 2 ∧ (okN I ∧ ((okD (dyM I)) ∧ ((0 ≤ (I 311 373).toInt ∧ (I 311 373).toInt ≤ 30) ∧ (∀ I_37 : gI, ∀ L_38 : gL, ((∀ a, a ≠ 331 → I_37 a = I a) ∧ ∀ a, a ≠ 332 → L_38 a = L a) → (gui (thM I) (dyM I) v1.toInt (I 311 373).toInt = true → ∀ v5_39 : Int32, v5_39 = v5 + 1 → Go G mX7_acquits 20 0 0 41 [some (.ref 310), some (.int v1), some (.int v2), some (.int v3), some (.int v4), some (.int v5_39), none, none, none, none] [] SH I_37 R L_38 Q) ∧ (¬ (gui (thM I) (dyM I) v1.toInt (I 311 373).toInt = true) → ∀ I_40 : gI, I_40 = up I_37 310 47 v7 → Go G mX7_acquits 20 0 0 216 [some (.ref 310), some (.int v1), some (.int v2), some (.int v3), some (.int v4), some (.int v5), none, none, none, some (.int 0)] [] SH I_40 R L_38 Q)))))) : Go G mX7_acquits 20 0 0 199 [some (.ref 310), some (.int v1), some (.int v2), some (.int v3), some (.int v4), some (.int v5), none, some (.int v7), none, none] [] SH I R L Q := by
  refine go_aload_n dX7_acquits_199 rfl ?_
  refine go_iload_n dX7_acquits_200 rfl ?_
  obtain ⟨hp_33, h⟩ := h
  obtain ⟨hp_34, h⟩ := h
  obtain ⟨hp_35, h⟩ := h
  obtain ⟨hp_36, h⟩ := h
  refine go_callV0 (μ := mX7_acquits) [.int _] dX7_acquits_201 YX7_isGuilty lX7_352 rfl ⟨_, rfl, rfl⟩ rfl (Nat.le_of_ble_eq_true rfl) (Nat.le_of_ble_eq_true rfl) rfl (k_X7_isGuilty hR hp_33 hp_34 hp_35 hp_36 (fun I_37 L_38 hq => ?_))
  have h := h I_37 L_38 hq
  refine go_if_ne 242 dX7_acquits_204 (by decide) (fun c => ?_) (fun c => ?_)
  · have h := h.1 (b1.mp c)
    refine go_iinc dX7_acquits_242 rfl (Nat.le_of_ble_eq_true rfl) rfl ?_
    have h := h _ rfl
    refine go_goto 41 dX7_acquits_245 (by decide) ?_
    refine go_drop 7 ?_
    exact h
  · have h := h.2 (b0.mp c)
    refine go_aload_n dX7_acquits_207 rfl ?_
    refine go_iload dX7_acquits_208 rfl ?_
    refine go_putI dX7_acquits_210 fX7_382 rfl rfl rfl rfl ?_
    have h := h _ rfl
    refine go_iconst (v := 0) dX7_acquits_213 (by decide) ?_
    refine go_istore dX7_acquits_214 (Nat.le_of_ble_eq_true rfl) rfl ?_
    refine go_drop 7 ?_
    exact h
theorem b_X7_acquits_216 {G : gG} {I : gI} {R : gR} {L : gL} {Q : gQ} {v1 v2 v3 v4 v5 v9 : Int32} (hR : g_Fx R) (h : (v2 ≤ v9 → ∀ v5_42 : Int32, v5_42 = v5 + 1 → Go G mX7_acquits 20 0 0 41 [some (.ref 310), some (.int v1), some (.int v2), some (.int v3), some (.int v4), some (.int v5_42), none, none, none, none] [] SH I R L Q) ∧ (¬ v2 ≤ v9 → vp_in v9 4 ∧ (vp_in v9 4 ∧ (∀ I_43 : gI, I_43 = up I 339 v9.toNatClampNeg (I 338 v9.toNatClampNeg) → ∀ v9_44 : Int32, v9_44 = v9 + 1 → Go G mX7_acquits 20 0 0 216 [some (.ref 310), some (.int v1), some (.int v2), some (.int v3), some (.int v4), some (.int v5), none, none, none, some (.int v9_44)] [] SH I_43 R L Q)))) : Go G mX7_acquits 20 0 0 216 [some (.ref 310), some (.int v1), some (.int v2), some (.int v3), some (.int v4), some (.int v5), none, none, none, some (.int v9)] [] SH I R L Q := by
  refine go_iload dX7_acquits_216 rfl ?_
  refine go_iload_n dX7_acquits_218 rfl ?_
  refine go_icmp_ge 242 dX7_acquits_219 (by decide) (fun c => ?_) (fun c => ?_)
  · have h := h.1 c
    refine go_iinc dX7_acquits_242 rfl (Nat.le_of_ble_eq_true rfl) rfl ?_
    have h := h _ rfl
    refine go_goto 41 dX7_acquits_245 (by decide) ?_
    refine go_drop 9 ?_
    exact h
  · have h := h.2 c
    refine go_aload_n dX7_acquits_222 rfl ?_
    refine go_getR dX7_acquits_223 fX7_103 rfl rfl (hR 310 46 339 rfl) ?_
    refine go_iload dX7_acquits_226 rfl ?_
    refine go_aload_n dX7_acquits_228 rfl ?_
    refine go_getR dX7_acquits_229 fX7_100 rfl rfl (hR 310 45 338 rfl) ?_
    refine go_iload dX7_acquits_232 rfl ?_
    obtain ⟨hi, h⟩ := h
    refine go_iald dX7_acquits_234 rfl hi ?_
    obtain ⟨hi, h⟩ := h
    refine go_iast dX7_acquits_235 rfl hi ?_
    have h := h _ rfl
    refine go_iinc dX7_acquits_236 rfl (Nat.le_of_ble_eq_true rfl) rfl ?_
    have h := h _ rfl
    refine go_goto 216 dX7_acquits_239 (by decide) ?_
    exact h

