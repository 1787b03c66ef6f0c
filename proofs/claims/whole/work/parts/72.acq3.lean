theorem e_X5_seekAcquittal {G : gG} {I : gI} {R : gR} {L : gL} {Q : gQ} {s : Int32} (hR : g_Fx R) (h : ∀ I_1 : gI, I_1 = cpSc I 4 166 → ∀ I_2 : gI, I_2 = up I_1 1 10 s → ∀ I_3 : gI, I_3 = up I_2 1 8 (-1) → ∀ I_4 : gI, I_4 = up I_3 1 9 0 → vp_in s 2 ∧ (okI I_4 ∧ ((okD (dyC I_4 166)) ∧ ((0 ≤ (I_4 166 4).toInt ∧ (I_4 166 4).toInt ≤ 30) ∧ (∀ I_9 : gI, (∀ a, a ≠ 164 → a ≠ 165 → I_9 a = I_4 a) → (gui (thC I_4) (dyC I_4 166) s.toInt (I_4 166 4).toInt = true → Go G mX5_seekAcquittal 21 0 0 52 [some (.ref 1), none, some (.int 1)] [] SH I_9 R L Q) ∧ (¬ (gui (thC I_4) (dyC I_4 166) s.toInt (I_4 166 4).toInt = true) → ∀ I_10 : gI, I_10 = up I_9 1 8 0 → Q none SH I_10 R L)))))) : Mt G mX5_seekAcquittal 21 0 0 [.ref 1, .int s] SH I R L Q := by
  refine go_start rfl (Nat.le_of_ble_eq_true rfl) rfl ?_
  refine go_aload_n dX5_seekAcquittal_0 rfl ?_
  refine go_getR dX5_seekAcquittal_1 fX5_26 rfl rfl (hR 1 2 166 rfl) ?_
  refine go_aload_n dX5_seekAcquittal_4 rfl ?_
  refine go_getR dX5_seekAcquittal_5 fX5_22 rfl rfl (hR 1 1 3 rfl) ?_
  refine go_getR dX5_seekAcquittal_8 fX5_47 rfl rfl (hR 3 0 4 rfl) ?_
  refine go_callV0 (μ := mX5_seekAcquittal) [.ref 4] dX5_seekAcquittal_11 YX4_copyFrom lX5_52 rfl ⟨_, rfl, rfl⟩ rfl (Nat.le_of_ble_eq_true rfl) (Nat.le_of_ble_eq_true rfl) rfl (k_X4_copyFrom hR Sc_166 Sc_4 ?_)
  have h := h _ rfl
  refine go_aload_n dX5_seekAcquittal_14 rfl ?_
  refine go_iload_n dX5_seekAcquittal_15 rfl ?_
  refine go_putI dX5_seekAcquittal_16 fX5_95 rfl rfl rfl rfl ?_
  have h := h _ rfl
  refine go_aload_n dX5_seekAcquittal_19 rfl ?_
  refine go_iconst (v := -1) dX5_seekAcquittal_20 (by decide) ?_
  refine go_putI dX5_seekAcquittal_21 fX5_43 rfl rfl rfl rfl ?_
  have h := h _ rfl
  refine go_aload_n dX5_seekAcquittal_24 rfl ?_
  refine go_iconst (v := 0) dX5_seekAcquittal_25 (by decide) ?_
  refine go_putI dX5_seekAcquittal_26 fX5_98 rfl rfl rfl rfl ?_
  have h := h _ rfl
  refine go_aload_n dX5_seekAcquittal_29 rfl ?_
  refine go_getR dX5_seekAcquittal_30 fX5_12 rfl rfl (hR 1 0 2 rfl) ?_
  refine go_aload_n dX5_seekAcquittal_33 rfl ?_
  refine go_getR dX5_seekAcquittal_34 fX5_26 rfl rfl (hR 1 2 166 rfl) ?_
  refine go_iload_n dX5_seekAcquittal_37 rfl ?_
  obtain ⟨hp_5, h⟩ := h
  obtain ⟨hp_6, h⟩ := h
  obtain ⟨hp_7, h⟩ := h
  obtain ⟨hp_8, h⟩ := h
  refine go_callV0 (μ := mX5_seekAcquittal) [.ref 166, .int _] dX5_seekAcquittal_38 YX0_isGuilty lX5_101 rfl ⟨_, rfl, rfl⟩ rfl (Nat.le_of_ble_eq_true rfl) (Nat.le_of_ble_eq_true rfl) rfl (k_X0_isGuilty hR Sc_166 hp_5 hp_6 hp_7 hp_8 (fun I_9 hq => ?_))
  have h := h I_9 hq
  refine go_if_ne 50 dX5_seekAcquittal_41 (by decide) (fun c => ?_) (fun c => ?_)
  · have h := h.1 (b1.mp c)
    refine go_iconst (v := 1) dX5_seekAcquittal_50 (by decide) ?_
    refine go_istore_n dX5_seekAcquittal_51 (Nat.le_of_ble_eq_true rfl) rfl ?_
    refine go_drop 1 ?_
    exact h
  · have h := h.2 (b0.mp c)
    refine go_aload_n dX5_seekAcquittal_44 rfl ?_
    refine go_iconst (v := 0) dX5_seekAcquittal_45 (by decide) ?_
    refine go_putI dX5_seekAcquittal_46 fX5_43 rfl rfl rfl rfl ?_
    have h := h _ rfl
    exact go_vret dX5_seekAcquittal_49 rfl rfl h
theorem b_X5_seekAcquittal_52 {G : gG} {I : gI} {R : gR} {L : gL} {Q : gQ} {v2 : Int32} (hR : g_Fx R) (h : (4 < v2 → Q none SH I R L) ∧ (¬ 4 < v2 → (¬ (I 1 8) = (-1) → Q none SH I R L) ∧ ((I 1 8) = (-1) → ∀ I_12 : gI, I_12 = up I 1 11 v2 → Mt G mX5_trySpoons 20 0 0 [.ref 1, .int 0, .int 0] SH I_12 R L (fun r S' I' R' L' => Go G mX5_seekAcquittal 21 0 0 76 [some (.ref 1), none, some (.int v2)] (r.toList ++ []) S' I' R' L' Q)))) : Go G mX5_seekAcquittal 21 0 0 52 [some (.ref 1), none, some (.int v2)] [] SH I R L Q := by
  refine go_iload_n dX5_seekAcquittal_52 rfl ?_
  refine go_iconst (v := 4) dX5_seekAcquittal_53 (by decide) ?_
  refine go_icmp_gt 82 dX5_seekAcquittal_54 (by decide) (fun c => ?_) (fun c => ?_)
  · have h := h.1 c
    exact go_vret dX5_seekAcquittal_82 rfl rfl h
  · have h := h.2 c
    refine go_aload_n dX5_seekAcquittal_57 rfl ?_
    refine go_getI dX5_seekAcquittal_58 fX5_43 rfl rfl ?_
    refine go_iconst (v := -1) dX5_seekAcquittal_61 (by decide) ?_
    refine go_icmp_ne 82 dX5_seekAcquittal_62 (by decide) (fun c => ?_) (fun c => ?_)
    · have h := h.1 c
      exact go_vret dX5_seekAcquittal_82 rfl rfl h
    · have h := h.2 c
      refine go_aload_n dX5_seekAcquittal_65 rfl ?_
      refine go_iload_n dX5_seekAcquittal_66 rfl ?_
      refine go_putI dX5_seekAcquittal_67 fX5_105 rfl rfl rfl rfl ?_
      have h := h _ rfl
      refine go_aload_n dX5_seekAcquittal_70 rfl ?_
      refine go_iconst (v := 0) dX5_seekAcquittal_71 (by decide) ?_
      refine go_iconst (v := 0) dX5_seekAcquittal_72 (by decide) ?_
      refine go_callV0 (μ := mX5_seekAcquittal) [.int _, .int _] dX5_seekAcquittal_73 YX5_trySpoons lX5_108 rfl ⟨_, rfl, rfl⟩ rfl (Nat.le_of_ble_eq_true rfl) (Nat.le_refl _) rfl h
theorem b_X5_seekAcquittal_76 {G : gG} {I : gI} {R : gR} {L : gL} {Q : gQ} {v2 : Int32} (hR : g_Fx R) (h : ∀ v2_15 : Int32, v2_15 = v2 + 1 → Go G mX5_seekAcquittal 21 0 0 52 [some (.ref 1), none, some (.int v2_15)] [] SH I R L Q) : Go G mX5_seekAcquittal 21 0 0 76 [some (.ref 1), none, some (.int v2)] [] SH I R L Q := by
  refine go_iinc dX5_seekAcquittal_76 rfl (Nat.le_of_ble_eq_true rfl) rfl ?_
  have h := h _ rfl
  refine go_goto 52 dX5_seekAcquittal_79 (by decide) ?_
  exact h
def skP (I : gI) (s : Int32) : Prop := okI I ∧ okDn 0 (dyC I 4) ∧ (0 ≤ (I 4 4).toInt ∧ (I 4 4).toInt ≤ 30) ∧ ∃ E σ, I 3 6 = nI E ∧ E ≤ 9 ∧ s = nI σ ∧ σ < 2
def skQ (I : gI) (s : Int32) (I1 : gI) : Prop := (∀ c, c ≠ 1 → (c < 164 ∨ 173 < c) → I1 c = I c) ∧ (∀ j, (j < 8 ∨ 11 < j) → I1 1 j = I 1 j) ∧ aqA (thC I) (dyC I 4) (I 3 6).toInt s.toInt (I 4 4).toInt (I1 1 8).toInt (I1 1 9).toInt (fun k => (I1 173 k).toInt)
theorem map_range {l : List Int} {f : Nat → Int} {n : Nat} (hl : l.length = n) (h : ∀ i, i < n → f i = l.getD i 0) : (List.range n).map f = l := by
  apply List.ext_getElem?
  intro i
  by_cases hi : i < n
  · rw [List.getElem?_map, List.getElem?_range hi]
    have hi' : i < l.length := by omega
    simp [h i hi, List.getD_eq_getElem?_getD, hi']
  · rw [List.getElem?_eq_none (by simp; omega), List.getElem?_eq_none (by omega)]
theorem k_X5_seekAcquittal {G : gG} {I : gI} {R : gR} {L : gL} {Q : gQ} {s : Int32} (hR : g_Fx R) (p0 : skP I s) (hq : ∀ I1 : gI, skQ I s I1 → Q none SH I1 R L) : Mt G mX5_seekAcquittal 21 0 0 [.ref 1, .int s] SH I R L Q := by
  obtain ⟨oI, oD0, hdn, E, σ, e6, hE, rfl, hσ⟩ := p0
  unfold skQ at hq
  rw [e6, nI_toInt (by omega), nI_toInt (by omega)] at hq
  obtain ⟨cD, cx, c4⟩ := cp166 I
  refine e_X5_seekAcquittal hR ?_
  rintro _ rfl _ rfl _ rfl _ rfl
  generalize hJ : up (up (up (cpSc I 4 166) 1 10 (nI σ)) 1 8 (-1)) 1 9 0 = J
  have jo : ∀ c, c ≠ 1 → J c = cpSc I 4 166 c := fun c c1 => by rw [← hJ, up_off _ c1, up_off _ c1, up_off _ c1]
  have jx : ∀ c, c ≠ 1 → (c < 166 ∨ 169 < c) → J c = I c := fun c c1 c2 => by rw [jo c c1, cx c c2]
  have j1 : ∀ j, J 1 j = if j = 9 then 0 else if j = 8 then -1 else if j = 10 then nI σ else I 1 j := fun j => by
    rw [← hJ]
    by_cases z9 : j = 9
    · rw [z9, up_eq, if_pos rfl]
    rw [up_ni z9, if_neg z9]
    by_cases z8 : j = 8
    · rw [z8, up_eq, if_pos rfl]
    rw [up_ni z8, if_neg z8]
    by_cases z10 : j = 10
    · rw [z10, up_eq, if_pos rfl]
    rw [up_ni z10, if_neg z10, cx 1 (by decide)]
  have dJ : dyC J 166 = dyC (cpSc I 4 166) 166 := dyC_at (fun x x1 x2 => jo x (by omega))
  have D0 : eqD (dyC J 166) (dyC I 4) := by rw [dJ]; exact cD
  have tJ := th_at (I := I) (J := J) (fun c c1 c2 => jx c c2 (by omega))
  have d4 : J 166 4 = I 4 4 := by rw [jo 166 (by decide)]; exact c4
  refine ⟨vp_in_nI hσ (by decide), tJ.2 oI, okD_eq D0.symm (oD0.ok (by decide)), by rw [d4]; exact hdn, ?_⟩
  intro J9 j9
  have eg : gui (thC J) (dyC J 166) (nI σ).toInt (J 166 4).toInt = gui (thC I) (dyC I 4) σ (I 4 4).toInt := by
    rw [tJ.1, d4, nI_toInt (by omega)]
    exact gui_eq (eqT.rfl' _) D0 oI.1 (by omega) (by omega)
  rw [eg]
  refine ⟨fun cg => ?_, fun cg => ?_⟩
  · -- guilty now
    have no0 : ∀ l' h', l'.length < 1 → ¬ gdA (thC I) (dyC I 4) E σ (I 4 4).toInt l' h' := by
      rintro l' h' hl ⟨-, δ', g1, g2⟩
      have : l' = [] := List.eq_nil_of_length_eq_zero (by omega)
      subst this
      simp only [rnA, Option.some.injEq, Prod.mk.injEq] at g1
      rw [← g1.1, cg] at g2; cases g2
    have loop : ∀ n g (K : gI), g + n = 5 → 1 ≤ g → (∀ c, c ≠ 1 → (c < 164 ∨ 173 < c ∨ (166 ≤ c ∧ c ≤ 169)) → K c = J c) → (∀ j, (j < 8 ∨ 11 < j ∨ j = 10) → K 1 j = J 1 j) → K 1 8 = -1 → (∀ l' h', l'.length < g → ¬ gdA (thC I) (dyC I 4) E σ (I 4 4).toInt l' h') → Go G mX5_seekAcquittal 21 0 0 52 [some (.ref 1), none, some (.int (nI g))] [] SH K R L Q := by
      intro n
      induction n with
      | zero =>
        intro g K e h1 kx k1 k8 no
        refine b_X5_seekAcquittal_52 hR ⟨fun _ => hq K ⟨fun c c1 c2 => by rw [kx c c1 (by omega), jx c c1 (by omega)], fun j hj => by rw [k1 j (by omega), j1, if_neg (by omega), if_neg (by omega), if_neg (by omega)], Or.inl ⟨by rw [k8]; rfl, fun l' h' hl => no l' h' (by omega)⟩⟩, fun c => absurd (show (4 : Int32) < nI g by rw [show (4 : Int32) = nI 4 from rfl]; exact nI_lt (by omega) (by omega)) c⟩
      | succ n ih =>
        intro g K e h1 kx k1 k8 no
        refine b_X5_seekAcquittal_52 hR ⟨fun c => absurd c (by rw [show (4 : Int32) = nI 4 from rfl]; exact nI_nlt (by omega) (by decide)), fun _ => ⟨fun c => absurd k8 c, fun _ => ?_⟩⟩
        rintro _ rfl
        generalize hK2 : up K 1 11 (nI g) = K2
        have k2 : ∀ c, c ≠ 1 → K2 c = K c := fun c c1 => by rw [← hK2, up_off _ c1]
        have k21 : ∀ j, j ≠ 11 → K2 1 j = K 1 j := fun j hj => by rw [← hK2, up_ni hj]
        have dK : dyC K2 166 = dyC J 166 := dyC_at (fun x x1 x2 => by rw [k2 x (by omega), kx x (by omega) (by omega)])
        refine k_trySpoons (I0 := I) (E := E) (g := g) (σ := σ) (dn := I 4 4) (δ0 := dyC I 4) hR oI hE e6 (by omega) hσ hdn oD0 (g - 1) 19 [] K2 none L _ K2 0 (dyC I 4) 0 (by omega) (by simp; omega) (fun c hc => by simp at hc) rfl (by rw [dK]; exact D0) (fun c c1 c2 => by rw [k2 c c2, kx c c2 (by omega), jx c c2 (by omega)]) (by rw [← hK2, up_eq]) (by rw [k21 10 (by decide), k1 10 (by omega), j1, if_neg (by decide), if_neg (by decide), if_pos rfl]) (by rw [k2 166 (by decide), kx 166 (by decide) (by omega)]; exact d4) (fun i hi => by simp at hi) (fun z => by simp at z) (fun l h _ _ => plt_nil l) (by show K2 1 8 = -1; rw [k21 8 (by decide)]; exact k8) (fun K3 S3 fr as3 iv3 => ?_)
        show Go G mX5_seekAcquittal 21 0 0 76 _ [] SH K3 R L Q
        refine b_X5_seekAcquittal_76 hR ?_
        rintro _ rfl
        rw [nI_1]
        rw [List.nil_append] at iv3
        have k3x : ∀ c, c ≠ 1 → (c < 164 ∨ 173 < c ∨ (166 ≤ c ∧ c ≤ 169)) → K3 c = J c := fun c c1 c2 => by rw [fr.1 c c1 (by omega) (by omega) (by omega) (by omega) (by omega), k2 c c1, kx c c1 c2]
        have k31 : ∀ j, (j < 8 ∨ 11 < j ∨ j = 10) → K3 1 j = J 1 j := fun j hj => by rw [fr.2.1 j (by omega) (by omega), k21 j (by omega), k1 j hj]
        match S3, as3, iv3 with
        | none, as3, iv3 =>
          refine ih (g + 1) K3 (by omega) (by omega) k3x k31 as3 (fun l' h' hl hg => ?_)
          rcases Nat.lt_or_ge l'.length g with z | z
          · exact no l' h' z hg
          · exact iv3 l' h' (by omega) hg (plt_all hg.1 (by omega))
        | some (h, l), as3, iv3 =>
          obtain ⟨x1, x2, x3⟩ := as3
          obtain ⟨y1, y2, y3, y4⟩ := iv3
          have ne : ¬ K3 1 8 = -1 := fun z => by
            rw [x1] at z
            have := congrArg Int32.toInt z
            rw [nI_toInt (by omega)] at this
            exact absurd this (by show ¬ ((g : Int) = -1); omega)
          have fin : Q none SH K3 R L := by
            refine hq K3 ⟨fun c c1 c2 => by rw [k3x c c1 (by omega), jx c c1 (by omega)], fun j hj => by rw [k31 j (by omega), j1, if_neg (by omega), if_neg (by omega), if_neg (by omega)], Or.inr ?_⟩
            rw [x1, nI_toInt (by omega), x2]
            refine ⟨by omega, by omega, ?_, fun l' h' hl => no l' h' (by simpa using hl)⟩
            have em : (List.range ((g : Int).toNat)).map (fun k => (K3 173 k).toInt) = l := map_range (by rw [y1]; rfl) (fun i hi => x3 i (by rw [y1]; exact hi))
            rw [em]
            exact ⟨y1, y2, fun l' h' hl hg => y4 l' h' hl hg (plt_all hg.1 (by rw [hl]; exact h1))⟩
          exact b_X5_seekAcquittal_52 hR ⟨fun _ => fin, fun _ => ⟨fun _ => fin, fun z => absurd z ne⟩⟩
    exact loop 4 1 J9 rfl (Nat.le_refl 1) (fun c c1 c2 => j9 c (by omega) (by omega)) (fun j _ => by rw [j9 1 (by decide) (by decide)]) (by rw [j9 1 (by decide) (by decide), j1, if_neg (by decide), if_pos rfl]) no0
  · -- not guilty
    have cg' : gui (thC I) (dyC I 4) σ (I 4 4).toInt = false := by simpa using cg
    rintro _ rfl
    have y8 : up J9 1 8 0 1 8 = 0 := up_eq _ _ _ _
    have y9 : up J9 1 8 0 1 9 = 0 := by rw [up_ni (by decide), j9 1 (by decide) (by decide), j1, if_pos rfl]
    refine hq _ ⟨fun c c1 c2 => by rw [up_off _ c1, j9 c (by omega) (by omega), jx c c1 (by omega)], fun j hj => by rw [up_ni (by omega), j9 1 (by decide) (by decide), j1, if_neg (by omega), if_neg (by omega), if_neg (by omega)], Or.inr ?_⟩
    rw [y8, y9]
    refine ⟨by decide, by decide, ⟨rfl, ⟨fun c hc => by simp at hc, dyC I 4, rfl, cg'⟩, fun l' h' hl hg => ?_⟩, fun l' h' hl => absurd hl (by simp)⟩
    have : l' = [] := List.eq_nil_of_length_eq_zero hl
    subst this
    obtain ⟨-, δ', g1, -⟩ := hg
    simp only [rnA, Option.some.injEq, Prod.mk.injEq] at g1
    exact Or.inr ⟨g1.2, by simp [lxl]⟩

