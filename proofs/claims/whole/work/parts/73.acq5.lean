/-! rows by number -/
def dg (M : Nat) : Nat → Nat → List Int
  | 0, _ => []
  | n + 1, w => dg M n (w / M) ++ [((w % M : Nat) : Int)]
theorem dg_len (M : Nat) : ∀ n w, (dg M n w).length = n
  | 0, _ => rfl
  | n + 1, w => by simp [dg, dg_len M n]
theorem dg_at (M : Nat) : ∀ n w i, i < n → (dg M n w).getD i 0 = ((w / M ^ (n - 1 - i) % M : Nat) : Int)
  | 0, _, _, h => by omega
  | n + 1, w, i, h => by
    simp only [dg]
    by_cases hi : i = n
    · rw [hi, show n + 1 - 1 - n = 0 by omega, Nat.pow_zero, Nat.div_one]
      simp [List.getD_eq_getElem?_getD, dg_len]
    · have hl : i < (dg M n (w / M)).length := by rw [dg_len]; omega
      have e : (dg M n (w / M) ++ [((w % M : Nat) : Int)]).getD i 0 = (dg M n (w / M)).getD i 0 := by
        simp [List.getD_eq_getElem?_getD, List.getElem?_append_left hl]
      rw [e, dg_at M n (w / M) i (by omega), Nat.div_div_eq_div_mul, show n + 1 - 1 - i = (n - 1 - i) + 1 by omega, Nat.pow_succ, Nat.mul_comm]
theorem dg_cds {E : Nat} (hE : 0 < E) : ∀ n w, cds E (dg (2 * E) n w)
  | 0, _ => fun c hc => by simp [dg] at hc
  | n + 1, w => fun c hc => by
    simp only [dg] at hc
    rcases List.mem_append.mp hc with z | z
    · exact dg_cds hE n _ c z
    · rw [List.mem_singleton.mp z]
      have := Nat.mod_lt w (show 2 * E > 0 by omega)
      omega
theorem dg_sur {E : Nat} : ∀ (n : Nat) (l : List Int), l.length = n → cds E l → ∃ w, w < (2 * E) ^ n ∧ l = dg (2 * E) n w
  | 0, l, hl, _ => ⟨0, by simp, by rw [List.eq_nil_of_length_eq_zero hl]; rfl⟩
  | n + 1, l, hl, hc => by
    have hne : l ≠ [] := fun z => by rw [z] at hl; simp at hl
    have e := List.dropLast_concat_getLast hne
    obtain ⟨w, hw, ew⟩ := dg_sur n l.dropLast (by rw [List.length_dropLast]; omega) (fun c hc' => hc c (List.dropLast_subset _ hc'))
    have hx := hc (l.getLast hne) (List.getLast_mem hne)
    generalize l.getLast hne = x at *
    obtain ⟨y, rfl⟩ : ∃ y : Nat, x = (y : Int) := ⟨x.toNat, by omega⟩
    have hy : y < 2 * E := by omega
    refine ⟨w * (2 * E) + y, ?_, ?_⟩
    · rw [Nat.pow_succ]
      have : (w + 1) * (2 * E) ≤ (2 * E) ^ n * (2 * E) := Nat.mul_le_mul_right _ hw
      rw [Nat.succ_mul] at this
      omega
    · have e1 : (w * (2 * E) + y) / (2 * E) = w := by rw [Nat.mul_comm, Nat.mul_add_div (by omega), Nat.div_eq_of_lt hy, Nat.add_zero]
      have e2 : (w * (2 * E) + y) % (2 * E) = y := by rw [Nat.mul_comm, Nat.mul_add_mod, Nat.mod_eq_of_lt hy]
      simp only [dg, e1, e2]
      rw [← ew]; exact e.symm
theorem plt_app2 : ∀ {l q : List Int} (s t : List Int), plt l q → plt (l ++ s) (q ++ t)
  | [], _, _, _, h => by simp [plt] at h
  | _ :: _, [], _, _, h => by simp [plt] at h
  | a :: r, b :: q, s, t, h => by
    simp only [List.cons_append, plt] at h ⊢
    rcases h with h | ⟨h1, h2⟩
    · exact Or.inl h
    · exact Or.inr ⟨h1, plt_app2 s t h2⟩
theorem dg_lt {M : Nat} (hM : 0 < M) : ∀ (n w v : Nat), w < v → v < M ^ n → plt (dg M n w) (dg M n v)
  | 0, w, v, h, h2 => by simp at h2; omega
  | n + 1, w, v, h, h2 => by
    simp only [dg]
    rcases Nat.lt_or_ge (w / M) (v / M) with z | z
    · exact plt_app2 _ _ (dg_lt hM n _ _ z (Nat.div_lt_of_lt_mul (by rw [Nat.mul_comm, ← Nat.pow_succ]; exact h2)))
    · have e : w / M = v / M := Nat.le_antisymm (Nat.div_le_div_right (Nat.le_of_lt h)) z
      have w1 := Nat.div_add_mod w M
      have v1 := Nat.div_add_mod v M
      rw [e] at w1 ⊢
      exact (plt_snoc _ _ _).mpr (Or.inr ⟨((w % M : Nat) : Int), [], rfl, by omega⟩)
/-- honey is what is gone out of its pots -/
theorem rnA_honey {θ : thy} {E : Int} (o : okT θ) (hE : E ≤ 9) : ∀ (p : List Int) {δ δ' : dyn} {h h' : Int} {n : Nat}, cds E p → n + p.length ≤ 10 → okDn n δ → rnA θ p δ h = some (δ', h') → h' - h = (δ.1 0 + δ.1 2) - (δ'.1 0 + δ'.1 2)
  | [], δ, δ', h, h', n, _, _, oD, e => by
    simp only [rnA, Option.some.injEq, Prod.mk.injEq] at e
    rw [← e.1, ← e.2]; omega
  | c :: p, δ, δ', h, h', n, hc, hn, oD, e => by
    simp only [List.length_cons] at hn
    have hc0 := hc c (by simp)
    have he : (c / 2).toNat < 9 := by omega
    simp only [rnA] at e
    split at e
    · rename_i hp
      have ih := rnA_honey o hE p (n := n + 1) (fun x hx => hc x (by simp [hx])) (by omega) (eaD_ok o oD (by omega) he (by omega) (by omega)) e
      obtain ⟨hw, -⟩ := spn_lft hp
      have hw2 := oD.2.1 _ he
      generalize hgd : spn θ δ (c / 2).toNat (c % 2) = g at *
      generalize (c / 2).toNat = i at *
      have e0 : (eaD δ i (c % 2) g).1 0 = if 0 = (2 * δ.2.1 i + c % 2).toNat then δ.1 0 - g else δ.1 0 := by unfold eaD; rw [if_pos hp]
      have e2 : (eaD δ i (c % 2) g).1 2 = if 2 = (2 * δ.2.1 i + c % 2).toNat then δ.1 2 - g else δ.1 2 := by unfold eaD; rw [if_pos hp]
      rw [e0, e2] at ih
      by_cases ck : c % 2 = 0
      · rw [if_pos ck, ck] at ih
        rcases hw2 with z | z | z
        · rw [z, if_pos (by decide), if_neg (by decide)] at ih; omega
        · rw [z, if_neg (by decide), if_pos (by decide)] at ih; omega
        · exact absurd z hw
      · rw [if_neg ck, show c % 2 = 1 by omega] at ih
        rcases hw2 with z | z | z
        · rw [z, if_neg (by decide), if_neg (by decide)] at ih; omega
        · rw [z, if_neg (by decide), if_neg (by decide)] at ih; omega
        · exact absurd z hw
    · cases e
/-- the best of the first w rows -/
def ivM (θ : thy) (δ : dyn) (E : Nat) (s d : Int) (n : Nat) (S : Option (Int × Nat)) (w : Nat) : Prop := match S with
  | none => ∀ v h, v < w → ¬ gdA θ δ E s d (dg (2 * E) n v) h
  | some (h, v) => v < w ∧ gdA θ δ E s d (dg (2 * E) n v) h ∧ ∀ v' h', v' < w → gdA θ δ E s d (dg (2 * E) n v') h' → h < h' ∨ (h = h' ∧ v ≤ v')
theorem ivM_end {θ : thy} {δ : dyn} {E n : Nat} {s d h : Int} {v : Nat} (hE : 0 < E ∨ n = 0) (iv : ivM θ δ E s d n (some (h, v)) ((2 * E) ^ n)) : bsA θ δ E s d n h (dg (2 * E) n v) := by
  obtain ⟨i1, i2, i3⟩ := iv
  refine ⟨dg_len _ _ _, i2, fun l' h' hl hg => ?_⟩
  obtain ⟨v', hv', rfl⟩ := dg_sur n l' hl hg.1
  rcases i3 v' h' hv' hg with z | ⟨z1, z2⟩
  · exact Or.inl z
  · refine Or.inr ⟨z1, ?_⟩
    rcases Nat.lt_or_ge v v' with y | y
    · have hM : 0 < 2 * E := by
        rcases hE with a | a
        · omega
        · subst a; simp at hv'; omega
      have := plt_lxl [] (dg_lt hM n v v' y hv')
      rw [List.append_nil] at this
      exact this
    · rw [show v' = v by omega]; exact lxl_rfl _
def mo3 (I K : gI) : Prop := (∀ a, a < 321 → a ≠ 310 → K a = I a) ∧ ∀ j, j ≠ 41 → j ≠ 47 → K 310 j = I 310 j
theorem mo3_rfl (I : gI) : mo3 I I := ⟨fun _ _ _ => rfl, fun _ _ _ => rfl⟩
theorem mo3_tr {I J K : gI} (h : mo3 I J) (g : mo3 J K) : mo3 I K := ⟨fun a h1 h2 => (g.1 a h1 h2).trans (h.1 a h1 h2), fun j hj h4 => (g.2 j hj h4).trans (h.2 j hj h4)⟩
theorem mo3_of {I K : gI} (h : mo2 I K) : mo3 I K := ⟨h.1, fun j hj _ => h.2 j hj⟩
theorem mo3_47 (I : gI) (v : Int32) : mo3 I (up I 310 47 v) := ⟨fun a _ h2 => up_off _ h2, fun j _ h4 => up_ni h4⟩
theorem mo3_th {I K : gI} (h : mo3 I K) : thM K = thM I ∧ (okN I → okN K) := (thM_congr (h.1 _ (by decide) (by decide)) (h.1 _ (by decide) (by decide)) (h.1 _ (by decide) (by decide)) (h.1 _ (by decide) (by decide)) (h.1 _ (by decide) (by decide)) (h.1 _ (by decide) (by decide))).2
theorem mo3_Rel {I K : gI} {R : gR} (r : Rel I R) (h : mo3 I K) : Rel K R := Rel_scr r (fun a _ a2 => h.1 a (by omega) (by omega)) (by rw [h.1 1 (by decide) (by decide)]) (by rw [h.1 1 (by decide) (by decide)]) (h.2 3 (by decide) (by decide)) (h.2 4 (by decide) (by decide)) (h.2 5 (by decide) (by decide))
theorem mo3_dy {I K : gI} (h : mo3 I K) : eqD (dyM (layI K)) (dyF (I 311)) := by
  have := lay_dy K
  rw [h.1 311 (by decide) (by decide)] at this
  exact this
theorem e_X7_acquits {G : gG} {I : gI} {R : gR} {L : gL} {Q : gQ} {a b : Int32} (hR : g_Fx R) (h : ∀ v3_1 : Int32, v3_1 = (2 * (I 311 0)) → Go G mX7_acquits 20 0 0 15 [some (.ref 310), some (.int a), some (.int b), some (.int v3_1), some (.int 1), some (.int 0), none, none, none, none] [] SH I R L Q) : Mt G mX7_acquits 20 0 0 [.ref 310, .int a, .int b] SH I R L Q := by
  refine go_start rfl (Nat.le_of_ble_eq_true rfl) rfl ?_
  refine go_iconst (v := 2) dX7_acquits_0 (by decide) ?_
  refine go_aload_n dX7_acquits_1 rfl ?_
  refine go_getR dX7_acquits_2 fX7_7 rfl rfl (hR 310 0 311 rfl) ?_
  refine go_iconst (v := 0) dX7_acquits_5 (by decide) ?_
  refine go_ialdK dX7_acquits_6 rfl (vp_in_nI (n := 0) (by decide) (by decide)) (k := 0) (by decide) ?_
  refine go_imul dX7_acquits_7 ?_
  refine go_istore_n dX7_acquits_8 (Nat.le_of_ble_eq_true rfl) rfl ?_
  have h := h _ rfl
  refine go_iconst (v := 1) dX7_acquits_9 (by decide) ?_
  refine go_istore dX7_acquits_10 (Nat.le_of_ble_eq_true rfl) rfl ?_
  refine go_iconst (v := 0) dX7_acquits_12 (by decide) ?_
  refine go_istore dX7_acquits_13 (Nat.le_of_ble_eq_true rfl) rfl ?_
  exact h
theorem b_X7_acquits_15 {G : gG} {I : gI} {R : gR} {L : gL} {Q : gQ} {v1 v2 v3 v4 v5 : Int32} (hR : g_Fx R) (h : (v2 ≤ v5 → ∀ I_2 : gI, I_2 = up I 310 47 (-1) → Go G mX7_acquits 20 0 0 41 [some (.ref 310), some (.int v1), some (.int v2), some (.int v3), some (.int v4), some (.int 0), none, none, none, none] [] SH I_2 R L Q) ∧ (¬ v2 ≤ v5 → ∀ v4_3 : Int32, v4_3 = (v4 * v3) → ∀ v5_4 : Int32, v5_4 = v5 + 1 → Go G mX7_acquits 20 0 0 15 [some (.ref 310), some (.int v1), some (.int v2), some (.int v3), some (.int v4_3), some (.int v5_4), none, none, none, none] [] SH I R L Q)) : Go G mX7_acquits 20 0 0 15 [some (.ref 310), some (.int v1), some (.int v2), some (.int v3), some (.int v4), some (.int v5), none, none, none, none] [] SH I R L Q := by
  refine go_iload dX7_acquits_15 rfl ?_
  refine go_iload_n dX7_acquits_17 rfl ?_
  refine go_icmp_ge 33 dX7_acquits_18 (by decide) (fun c => ?_) (fun c => ?_)
  · have h := h.1 c
    refine go_aload_n dX7_acquits_33 rfl ?_
    refine go_iconst (v := -1) dX7_acquits_34 (by decide) ?_
    refine go_putI dX7_acquits_35 fX7_382 rfl rfl rfl rfl ?_
    have h := h _ rfl
    refine go_iconst (v := 0) dX7_acquits_38 (by decide) ?_
    refine go_istore dX7_acquits_39 (Nat.le_of_ble_eq_true rfl) rfl ?_
    exact h
  · have h := h.2 c
    refine go_iload dX7_acquits_21 rfl ?_
    refine go_iload_n dX7_acquits_23 rfl ?_
    refine go_imul dX7_acquits_24 ?_
    refine go_istore dX7_acquits_25 (Nat.le_of_ble_eq_true rfl) rfl ?_
    have h := h _ rfl
    refine go_iinc dX7_acquits_27 rfl (Nat.le_of_ble_eq_true rfl) rfl ?_
    have h := h _ rfl
    refine go_goto 15 dX7_acquits_30 (by decide) ?_
    exact h
theorem b_X7_acquits_41 {G : gG} {I : gI} {R : gR} {L : gL} {Q : gQ} {v1 v2 v3 v4 v5 : Int32} (hR : g_Fx R) (h : (v4 ≤ v5 → ((I 310 47) = (-1) → Q (some (.int 0)) SH I R L) ∧ (¬ (I 310 47) = (-1) → Q (some (.int 1)) SH I R L)) ∧ (¬ v4 ≤ v5 → ∀ v7_7 : Int32, v7_7 = (v2 - 1) → Go G mX7_acquits 20 0 0 57 [some (.ref 310), some (.int v1), some (.int v2), some (.int v3), some (.int v4), some (.int v5), some (.int v5), some (.int v7_7), none, none] [] SH I R L Q)) : Go G mX7_acquits 20 0 0 41 [some (.ref 310), some (.int v1), some (.int v2), some (.int v3), some (.int v4), some (.int v5), none, none, none, none] [] SH I R L Q := by
  refine go_iload dX7_acquits_41 rfl ?_
  refine go_iload dX7_acquits_43 rfl ?_
  refine go_icmp_ge 248 dX7_acquits_45 (by decide) (fun c => ?_) (fun c => ?_)
  · have h := h.1 c
    refine go_aload_n dX7_acquits_248 rfl ?_
    refine go_getI dX7_acquits_249 fX7_382 rfl rfl ?_
    refine go_iconst (v := -1) dX7_acquits_252 (by decide) ?_
    refine go_icmp_eq 260 dX7_acquits_253 (by decide) (fun c => ?_) (fun c => ?_)
    · have h := h.1 c
      refine go_iconst (v := 0) dX7_acquits_260 (by decide) ?_
      exact go_zret dX7_acquits_261 rfl rfl rfl h
    · have h := h.2 c
      refine go_iconst (v := 1) dX7_acquits_256 (by decide) ?_
      refine go_goto 261 dX7_acquits_257 (by decide) ?_
      exact go_zret dX7_acquits_261 rfl rfl rfl h
  · have h := h.2 c
    refine go_iload dX7_acquits_48 rfl ?_
    refine go_istore dX7_acquits_50 (Nat.le_of_ble_eq_true rfl) rfl ?_
    refine go_iload_n dX7_acquits_52 rfl ?_
    refine go_iconst (v := 1) dX7_acquits_53 (by decide) ?_
    refine go_isub dX7_acquits_54 ?_
    refine go_istore dX7_acquits_55 (Nat.le_of_ble_eq_true rfl) rfl ?_
    have h := h _ rfl
    exact h
theorem b_X7_acquits_57 {G : gG} {I : gI} {R : gR} {L : gL} {Q : gQ} {v1 v2 v3 v4 v5 v6 v7 : Int32} (hR : g_Fx R) (h : (v7 < 0 → ∀ I_9 : gI, I_9 = layI I → ∀ v7_10 : Int32, v7_10 = ((I_9 333 0) + (I_9 333 2)) → Go G mX7_acquits 20 0 0 110 [some (.ref 310), some (.int v1), some (.int v2), some (.int v3), some (.int v4), some (.int v5), none, some (.int v7_10), some (.int 1), some (.int 0)] [] SH I_9 R L Q) ∧ (¬ v7 < 0 → ¬ v3 = 0 ∧ (vp_in v7 4 ∧ (∀ I_11 : gI, I_11 = up I 338 v7.toNatClampNeg (v6 - v6 / v3 * v3) → ¬ v3 = 0 ∧ (∀ v6_12 : Int32, v6_12 = (v6 / v3) → ∀ v7_13 : Int32, v7_13 = v7 + (-1) → Go G mX7_acquits 20 0 0 57 [some (.ref 310), some (.int v1), some (.int v2), some (.int v3), some (.int v4), some (.int v5), some (.int v6_12), some (.int v7_13), none, none] [] SH I_11 R L Q))))) : Go G mX7_acquits 20 0 0 57 [some (.ref 310), some (.int v1), some (.int v2), some (.int v3), some (.int v4), some (.int v5), some (.int v6), some (.int v7), none, none] [] SH I R L Q := by
  refine go_iload dX7_acquits_57 rfl ?_
  refine go_if_lt 85 dX7_acquits_59 (by decide) (fun c => ?_) (fun c => ?_)
  · have h := h.1 c
    refine go_aload_n dX7_acquits_85 rfl ?_
    refine go_callV0 (μ := mX7_acquits) [] dX7_acquits_86 YX7_laysWorld lX7_349 rfl ⟨_, rfl, rfl⟩ rfl (Nat.le_of_ble_eq_true rfl) (Nat.le_of_ble_eq_true rfl) rfl (k_X7_laysWorld hR ?_)
    have h := h _ rfl
    refine go_aload_n dX7_acquits_89 rfl ?_
    refine go_getR dX7_acquits_90 fX7_85 rfl rfl (hR 310 39 333 rfl) ?_
    refine go_iconst (v := 0) dX7_acquits_93 (by decide) ?_
    refine go_ialdK dX7_acquits_94 rfl (vp_in_nI (n := 0) (by decide) (by decide)) (k := 0) (by decide) ?_
    refine go_aload_n dX7_acquits_95 rfl ?_
    refine go_getR dX7_acquits_96 fX7_85 rfl rfl (hR 310 39 333 rfl) ?_
    refine go_iconst (v := 2) dX7_acquits_99 (by decide) ?_
    refine go_ialdK dX7_acquits_100 rfl (vp_in_nI (n := 2) (by decide) (by decide)) (k := 2) (by decide) ?_
    refine go_iadd dX7_acquits_101 ?_
    refine go_istore dX7_acquits_102 (Nat.le_of_ble_eq_true rfl) rfl ?_
    have h := h _ rfl
    refine go_iconst (v := 1) dX7_acquits_104 (by decide) ?_
    refine go_istore dX7_acquits_105 (Nat.le_of_ble_eq_true rfl) rfl ?_
    refine go_iconst (v := 0) dX7_acquits_107 (by decide) ?_
    refine go_istore dX7_acquits_108 (Nat.le_of_ble_eq_true rfl) rfl ?_
    refine go_drop 6 ?_
    exact h
  · have h := h.2 c
    refine go_aload_n dX7_acquits_62 rfl ?_
    refine go_getR dX7_acquits_63 fX7_100 rfl rfl (hR 310 45 338 rfl) ?_
    refine go_iload dX7_acquits_66 rfl ?_
    refine go_iload dX7_acquits_68 rfl ?_
    refine go_iload_n dX7_acquits_70 rfl ?_
    obtain ⟨hn, h⟩ := h
    refine go_irem dX7_acquits_71 hn ?_
    obtain ⟨hi, h⟩ := h
    refine go_iast dX7_acquits_72 rfl hi ?_
    have h := h _ rfl
    refine go_iload dX7_acquits_73 rfl ?_
    refine go_iload_n dX7_acquits_75 rfl ?_
    obtain ⟨hn, h⟩ := h
    refine go_idiv dX7_acquits_76 hn ?_
    refine go_istore dX7_acquits_77 (Nat.le_of_ble_eq_true rfl) rfl ?_
    have h := h _ rfl
    refine go_iinc dX7_acquits_79 rfl (Nat.le_of_ble_eq_true rfl) rfl ?_
    have h := h _ rfl
    refine go_goto 57 dX7_acquits_82 (by decide) ?_
    exact h
theorem b_X7_acquits_110 {G : gG} {I : gI} {R : gR} {L : gL} {Q : gQ} {v1 v2 v3 v4 v5 v7 v8 v9 : Int32} (hR : g_Fx R) (h : (v2 ≤ v9 → Go G mX7_acquits 20 0 0 159 [some (.ref 310), some (.int v1), some (.int v2), some (.int v3), some (.int v4), some (.int v5), none, some (.int v7), some (.int v8), none] [] SH I R L Q) ∧ (¬ v2 ≤ v9 → (v8 = 0 → Go G mX7_acquits 20 0 0 159 [some (.ref 310), some (.int v1), some (.int v2), some (.int v3), some (.int v4), some (.int v5), none, some (.int v7), some (.int v8), none] [] SH I R L Q) ∧ (¬ v8 = 0 → vp_in v9 4 ∧ (vp_in v9 4 ∧ ((vp_in ((I 338 v9.toNatClampNeg) / 2) 9) ∧ ((vp_in ((I 338 v9.toNatClampNeg) - (I 338 v9.toNatClampNeg) / 2 * 2) 2) ∧ (okN I ∧ ((okD (dyM I)) ∧ (∀ r_19 : Int32, ∀ I_20 : gI, ∀ L_21 : gL, (r_19.toInt = spn (thM I) (dyM I) ((I 338 v9.toNatClampNeg) / 2).toNatClampNeg ((I 338 v9.toNatClampNeg) - (I 338 v9.toNatClampNeg) / 2 * 2).toInt ∧ dyM I_20 = eaD (dyM I) ((I 338 v9.toNatClampNeg) / 2).toNatClampNeg ((I 338 v9.toNatClampNeg) - (I 338 v9.toNatClampNeg) / 2 * 2).toInt (spn (thM I) (dyM I) ((I 338 v9.toNatClampNeg) / 2).toNatClampNeg ((I 338 v9.toNatClampNeg) - (I 338 v9.toNatClampNeg) / 2 * 2).toInt) ∧ (∀ a, a ≠ 331 → a ≠ 333 → a ≠ 334 → a ≠ 310 → I_20 a = I a) ∧ (∀ j, j ≠ 41 → I_20 310 j = I 310 j) ∧ ∀ a, a ≠ 332 → L_21 a = L a) → (r_19 ≤ 0 → ∀ v9_22 : Int32, v9_22 = v9 + 1 → Go G mX7_acquits 20 0 0 110 [some (.ref 310), some (.int v1), some (.int v2), some (.int v3), some (.int v4), some (.int v5), none, some (.int v7), some (.int 0), some (.int v9_22)] [] SH I_20 R L_21 Q) ∧ (¬ r_19 ≤ 0 → ∀ v9_23 : Int32, v9_23 = v9 + 1 → Go G mX7_acquits 20 0 0 110 [some (.ref 310), some (.int v1), some (.int v2), some (.int v3), some (.int v4), some (.int v5), none, some (.int v7), some (.int 1), some (.int v9_23)] [] SH I_20 R L_21 Q)))))))))) : Go G mX7_acquits 20 0 0 110 [some (.ref 310), some (.int v1), some (.int v2), some (.int v3), some (.int v4), some (.int v5), none, some (.int v7), some (.int v8), some (.int v9)] [] SH I R L Q := by
  refine go_iload dX7_acquits_110 rfl ?_
  refine go_iload_n dX7_acquits_112 rfl ?_
  refine go_icmp_ge 159 dX7_acquits_113 (by decide) (fun c => ?_) (fun c => ?_)
  · have h := h.1 c
    refine go_drop 9 ?_
    exact h
  · have h := h.2 c
    refine go_iload dX7_acquits_116 rfl ?_
    refine go_if_eq 159 dX7_acquits_118 (by decide) (fun c => ?_) (fun c => ?_)
    · have h := h.1 c
      refine go_drop 9 ?_
      exact h
    · have h := h.2 c
      refine go_aload_n dX7_acquits_121 rfl ?_
      refine go_aload_n dX7_acquits_122 rfl ?_
      refine go_getR dX7_acquits_123 fX7_100 rfl rfl (hR 310 45 338 rfl) ?_
      refine go_iload dX7_acquits_126 rfl ?_
      obtain ⟨hi, h⟩ := h
      refine go_iald dX7_acquits_128 rfl hi ?_
      refine go_iconst (v := 2) dX7_acquits_129 (by decide) ?_
      refine go_idiv dX7_acquits_130 (by decide) ?_
      refine go_aload_n dX7_acquits_131 rfl ?_
      refine go_getR dX7_acquits_132 fX7_100 rfl rfl (hR 310 45 338 rfl) ?_
      refine go_iload dX7_acquits_135 rfl ?_
      obtain ⟨hi, h⟩ := h
      refine go_iald dX7_acquits_137 rfl hi ?_
      refine go_iconst (v := 2) dX7_acquits_138 (by decide) ?_
      refine go_irem dX7_acquits_139 (by decide) ?_
      obtain ⟨hp_15, h⟩ := h
      obtain ⟨hp_16, h⟩ := h
      obtain ⟨hp_17, h⟩ := h
      obtain ⟨hp_18, h⟩ := h
      refine go_callV0 (μ := mX7_acquits) [.int _, .int _] dX7_acquits_140 YX7_eats lX7_376 rfl ⟨_, rfl, rfl⟩ rfl (Nat.le_of_ble_eq_true rfl) (Nat.le_of_ble_eq_true rfl) rfl (k_X7_eats hR hp_15 hp_16 hp_17 hp_18 (fun r_19 I_20 L_21 hq => ?_))
      have h := h r_19 I_20 L_21 hq
      refine go_if_le 150 dX7_acquits_143 (by decide) (fun c => ?_) (fun c => ?_)
      · have h := h.1 c
        refine go_iconst (v := 0) dX7_acquits_150 (by decide) ?_
        refine go_istore dX7_acquits_151 (Nat.le_of_ble_eq_true rfl) rfl ?_
        refine go_iinc dX7_acquits_153 rfl (Nat.le_of_ble_eq_true rfl) rfl ?_
        have h := h _ rfl
        refine go_goto 110 dX7_acquits_156 (by decide) ?_
        exact h
      · have h := h.2 c
        refine go_iconst (v := 1) dX7_acquits_146 (by decide) ?_
        refine go_goto 151 dX7_acquits_147 (by decide) ?_
        refine go_istore dX7_acquits_151 (Nat.le_of_ble_eq_true rfl) rfl ?_
        refine go_iinc dX7_acquits_153 rfl (Nat.le_of_ble_eq_true rfl) rfl ?_
        have h := h _ rfl
        refine go_goto 110 dX7_acquits_156 (by decide) ?_
        exact h
theorem b_X7_acquits_159 {G : gG} {I : gI} {R : gR} {L : gL} {Q : gQ} {v1 v2 v3 v4 v5 v7 v8 : Int32} (hR : g_Fx R) (h : ∀ v7_27 : Int32, v7_27 = (v7 - ((I 333 0) + (I 333 2))) → (v8 = 0 → ∀ v5_28 : Int32, v5_28 = v5 + 1 → Go G mX7_acquits 20 0 0 41 [some (.ref 310), some (.int v1), some (.int v2), some (.int v3), some (.int v4), some (.int v5_28), none, none, none, none] [] SH I R L Q) ∧ (¬ v8 = 0 → ((I 310 47) = (-1) → Go G mX7_acquits 20 0 0 199 [some (.ref 310), some (.int v1), some (.int v2), some (.int v3), some (.int v4), some (.int v5), none, some (.int v7_27), none, none] [] SH I R L Q) ∧ (¬ (I 310 47) = (-1) → ((I 310 47) ≤ v7_27 → ∀ v5_29 : Int32, v5_29 = v5 + 1 → Go G mX7_acquits 20 0 0 41 [some (.ref 310), some (.int v1), some (.int v2), some (.int v3), some (.int v4), some (.int v5_29), none, none, none, none] [] SH I R L Q) ∧ (¬ (I 310 47) ≤ v7_27 → Go G mX7_acquits 20 0 0 199 [some (.ref 310), some (.int v1), some (.int v2), some (.int v3), some (.int v4), some (.int v5), none, some (.int v7_27), none, none] [] SH I R L Q)))) : Go G mX7_acquits 20 0 0 159 [some (.ref 310), some (.int v1), some (.int v2), some (.int v3), some (.int v4), some (.int v5), none, some (.int v7), some (.int v8), none] [] SH I R L Q := by
  refine go_iload dX7_acquits_159 rfl ?_
  refine go_aload_n dX7_acquits_161 rfl ?_
  refine go_getR dX7_acquits_162 fX7_85 rfl rfl (hR 310 39 333 rfl) ?_
  refine go_iconst (v := 0) dX7_acquits_165 (by decide) ?_
  refine go_ialdK dX7_acquits_166 rfl (vp_in_nI (n := 0) (by decide) (by decide)) (k := 0) (by decide) ?_
  refine go_aload_n dX7_acquits_167 rfl ?_
  refine go_getR dX7_acquits_168 fX7_85 rfl rfl (hR 310 39 333 rfl) ?_
  refine go_iconst (v := 2) dX7_acquits_171 (by decide) ?_
  refine go_ialdK dX7_acquits_172 rfl (vp_in_nI (n := 2) (by decide) (by decide)) (k := 2) (by decide) ?_
  refine go_iadd dX7_acquits_173 ?_
  refine go_isub dX7_acquits_174 ?_
  refine go_istore dX7_acquits_175 (Nat.le_of_ble_eq_true rfl) rfl ?_
  have h := h _ rfl
  refine go_iload dX7_acquits_177 rfl ?_
  refine go_if_eq 242 dX7_acquits_179 (by decide) (fun c => ?_) (fun c => ?_)
  · have h := h.1 c
    refine go_iinc dX7_acquits_242 rfl (Nat.le_of_ble_eq_true rfl) rfl ?_
    have h := h _ rfl
    refine go_goto 41 dX7_acquits_245 (by decide) ?_
    refine go_drop 7 ?_
    refine go_drop 8 ?_
    exact h
  · have h := h.2 c
    refine go_aload_n dX7_acquits_182 rfl ?_
    refine go_getI dX7_acquits_183 fX7_382 rfl rfl ?_
    refine go_iconst (v := -1) dX7_acquits_186 (by decide) ?_
    refine go_icmp_eq 199 dX7_acquits_187 (by decide) (fun c => ?_) (fun c => ?_)
    · have h := h.1 c
      refine go_drop 8 ?_
      exact h
    · have h := h.2 c
      refine go_iload dX7_acquits_190 rfl ?_
      refine go_aload_n dX7_acquits_192 rfl ?_
      refine go_getI dX7_acquits_193 fX7_382 rfl rfl ?_
      refine go_icmp_ge 242 dX7_acquits_196 (by decide) (fun c => ?_) (fun c => ?_)
      · have h := h.1 c
        refine go_iinc dX7_acquits_242 rfl (Nat.le_of_ble_eq_true rfl) rfl ?_
        have h := h _ rfl
        refine go_goto 41 dX7_acquits_245 (by decide) ?_
        refine go_drop 7 ?_
        refine go_drop 8 ?_
        exact h
      · have h := h.2 c
        refine go_drop 8 ?_
        exact h
theorem b_X7_acquits_199 {G : gG} {I : gI} {R : gR} {L : gL} {Q : gQ} {v1 v2 v3 v4 v5 v7 : Int32} (hR : g_Fx R) (h : vp_in v1 2 ∧ (okN I ∧ ((okD (dyM I)) ∧ ((0 ≤ (I 311 373).toInt ∧ (I 311 373).toInt ≤ 30) ∧ (∀ I_37 : gI, ∀ L_38 : gL, ((∀ a, a ≠ 331 → I_37 a = I a) ∧ ∀ a, a ≠ 332 → L_38 a = L a) → (gui (thM I) (dyM I) v1.toInt (I 311 373).toInt = true → ∀ v5_39 : Int32, v5_39 = v5 + 1 → Go G mX7_acquits 20 0 0 41 [some (.ref 310), some (.int v1), some (.int v2), some (.int v3), some (.int v4), some (.int v5_39), none, none, none, none] [] SH I_37 R L_38 Q) ∧ (¬ (gui (thM I) (dyM I) v1.toInt (I 311 373).toInt = true) → ∀ I_40 : gI, I_40 = up I_37 310 47 v7 → Go G mX7_acquits 20 0 0 216 [some (.ref 310), some (.int v1), some (.int v2), some (.int v3), some (.int v4), some (.int v5), none, none, none, some (.int 0)] [] SH I_40 R L_38 Q)))))) : Go G mX7_acquits 20 0 0 199 [some (.ref 310), some (.int v1), some (.int v2), some (.int v3), some (.int v4), some (.int v5), none, some (.int v7), none, none] [] SH I R L Q := by
  refine go_aload_n dX7_acquits_199 rfl ?_
  refine go_iload_n dX7_acquits_200 rfl ?_
  obtain ⟨hp_33, h⟩ := h
  obtain ⟨hp_34, h⟩ := h
  obtain ⟨hp_35, h⟩ := h
  obtain ⟨hp_36, h⟩ := h
  refine go_callV0 (μ := mX7_acquits) [.int _] dX7_acquits_201 YX7_isGuilty lX7_352 rfl ⟨_, rfl, rfl⟩ rfl (Nat.le_of_ble_eq_true rfl) (Nat.le_of_ble_eq_true rfl) rfl (k_X7_isGuilty hR hp_33 hp_34 hp_35 hp_36 (fun I_37 L_38 hq => ?_))
  have h := h I_37 L_38 hq
  refine go_if_ne 242 dX7_acquits_204 (by decide) (fun c => ?_) (fun c => ?_)
  · have h := h.1 (b1.mp c)
    refine go_iinc dX7_acquits_242 rfl (Nat.le_of_ble_eq_true rfl) rfl ?_
    have h := h _ rfl
    refine go_goto 41 dX7_acquits_245 (by decide) ?_
    refine go_drop 7 ?_
    exact h
  · have h := h.2 (b0.mp c)
    refine go_aload_n dX7_acquits_207 rfl ?_
    refine go_iload dX7_acquits_208 rfl ?_
    refine go_putI dX7_acquits_210 fX7_382 rfl rfl rfl rfl ?_
    have h := h _ rfl
    refine go_iconst (v := 0) dX7_acquits_213 (by decide) ?_
    refine go_istore dX7_acquits_214 (Nat.le_of_ble_eq_true rfl) rfl ?_
    refine go_drop 7 ?_
    exact h
theorem b_X7_acquits_216 {G : gG} {I : gI} {R : gR} {L : gL} {Q : gQ} {v1 v2 v3 v4 v5 v9 : Int32} (hR : g_Fx R) (h : (v2 ≤ v9 → ∀ v5_42 : Int32, v5_42 = v5 + 1 → Go G mX7_acquits 20 0 0 41 [some (.ref 310), some (.int v1), some (.int v2), some (.int v3), some (.int v4), some (.int v5_42), none, none, none, none] [] SH I R L Q) ∧ (¬ v2 ≤ v9 → vp_in v9 4 ∧ (vp_in v9 4 ∧ (∀ I_43 : gI, I_43 = up I 339 v9.toNatClampNeg (I 338 v9.toNatClampNeg) → ∀ v9_44 : Int32, v9_44 = v9 + 1 → Go G mX7_acquits 20 0 0 216 [some (.ref 310), some (.int v1), some (.int v2), some (.int v3), some (.int v4), some (.int v5), none, none, none, some (.int v9_44)] [] SH I_43 R L Q)))) : Go G mX7_acquits 20 0 0 216 [some (.ref 310), some (.int v1), some (.int v2), some (.int v3), some (.int v4), some (.int v5), none, none, none, some (.int v9)] [] SH I R L Q := by
  refine go_iload dX7_acquits_216 rfl ?_
  refine go_iload_n dX7_acquits_218 rfl ?_
  refine go_icmp_ge 242 dX7_acquits_219 (by decide) (fun c => ?_) (fun c => ?_)
  · have h := h.1 c
    refine go_iinc dX7_acquits_242 rfl (Nat.le_of_ble_eq_true rfl) rfl ?_
    have h := h _ rfl
    refine go_goto 41 dX7_acquits_245 (by decide) ?_
    refine go_drop 9 ?_
    exact h
  · have h := h.2 c
    refine go_aload_n dX7_acquits_222 rfl ?_
    refine go_getR dX7_acquits_223 fX7_103 rfl rfl (hR 310 46 339 rfl) ?_
    refine go_iload dX7_acquits_226 rfl ?_
    refine go_aload_n dX7_acquits_228 rfl ?_
    refine go_getR dX7_acquits_229 fX7_100 rfl rfl (hR 310 45 338 rfl) ?_
    refine go_iload dX7_acquits_232 rfl ?_
    obtain ⟨hi, h⟩ := h
    refine go_iald dX7_acquits_234 rfl hi ?_
    obtain ⟨hi, h⟩ := h
    refine go_iast dX7_acquits_235 rfl hi ?_
    have h := h _ rfl
    refine go_iinc dX7_acquits_236 rfl (Nat.le_of_ble_eq_true rfl) rfl ?_
    have h := h _ rfl
    refine go_goto 216 dX7_acquits_239 (by decide) ?_
    exact h
theorem m_acquits {G : gG} {I J : gI} {R : gR} {L : gL} {Q : gQ} {E n σ : Nat} (h : Rel J R) (hE : E ≤ 9) (e1 : J 311 0 = nI E) (hn : n ≤ 4) (hσ : σ < 2) (oDn : okDn 0 (dyC I 4)) (oI : okI I) (hT : eqT (thC I) (thM J)) (hD : eqD (dyC I 4) (dyF (J 311)))
    (no : (∀ l hh, l.length = n → ¬ gdA (thC I) (dyC I 4) E σ (J 311 373).toInt l hh) → ∀ K L1, mo3 J K → Q (some (.int 0)) SH K R L1)
    (yes : ∀ hh l, bsA (thC I) (dyC I 4) E σ (J 311 373).toInt n hh l → ∀ K L1, mo3 J K → (K 310 47).toInt = hh → (∀ i, i < n → (K 339 i).toInt = l.getD i 0) → Q (some (.int 1)) SH K R L1) :
    Mt G mX7_acquits 20 0 0 [.ref 310, .int (nI σ), .int (nI n)] SH J R L Q := by
  have hF := h.1.1
  have oN := (R_dn h).2.2.1
  obtain ⟨co, sc, oh, ok⟩ := R_co h
  have hdn : 0 ≤ (J 311 373).toInt ∧ (J 311 373).toInt ≤ 30 := ok.2.2.2.2.1
  have eM : 2 * J 311 0 = nI (2 * E) := by rw [e1, show (2 : Int32) = nI 2 from rfl, nI_mul]
  generalize hMd : 2 * E = M at *
  have hM18 : M ≤ 18 := by omega
  have pw : ∀ k, k ≤ 4 → M ^ k ≤ 104976 := fun k hk => Nat.le_trans (Nat.pow_le_pow_left hM18 k) (Nat.le_trans (Nat.pow_le_pow_right (n := 18) (by decide) hk) (by decide))
  have st : (nI σ).toInt = σ := nI_toInt (by omega)
  -- what is kept
  have enc : ∀ (K : gI) (S : Option (Int × Nat)), Prop := fun K S => match S with
    | none => K 310 47 = -1
    | some (hh, v) => (K 310 47).toInt = hh ∧ 0 ≤ hh ∧ ∀ i, i < n → (K 339 i).toInt = (dg M n v).getD i 0
  clear enc
  have rows : ∀ w, w < M ^ n → ∀ (S : Option (Int × Nat)), True := fun _ _ _ => trivial
  clear rows
  -- a whole scan
  have scan : ∀ z w (K : gI) (L1 : gL) (S : Option (Int × Nat)), w + z = M ^ n → mo3 J K → ivM (thC I) (dyC I 4) E σ (J 311 373).toInt n S w → (match S with | none => K 310 47 = -1 | some (hh, v) => (K 310 47).toInt = hh ∧ 0 ≤ hh ∧ ∀ i, i < n → (K 339 i).toInt = (dg M n v).getD i 0) → Go G mX7_acquits 20 0 0 41 [some (.ref 310), some (.int (nI σ)), some (.int (nI n)), some (.int (nI M)), some (.int (nI (M ^ n))), some (.int (nI w)), none, none, none, none] [] SH K R L1 Q := by
    intro z
    induction z with
    | zero =>
      intro w K L1 S e kx iv en
      have hw : w = M ^ n := by omega
      subst hw
      refine b_X7_acquits_41 hF ⟨fun _ => ⟨fun c => ?_, fun c => ?_⟩, fun c => absurd (ti_le.mpr (Int.le_refl _)) c⟩
      · match S, iv, en with
        | none, iv, en =>
          refine no (fun l hh hl hg => ?_) K L1 kx
          obtain ⟨v, hv, rfl⟩ := dg_sur n l hl hg.1
          rw [hMd] at hv hg
          exact iv v hh hv (by rw [hMd]; exact hg)
        | some (hh, v), iv, en =>
          have := en.1
          rw [c] at this
          have e' : (-1 : Int32).toInt = -1 := rfl
          have := en.2.1
          omega
      · match S, iv, en with
        | none, iv, en => exact absurd en c
        | some (hh, v), iv, en =>
          have hE0 : 0 < E ∨ n = 0 := by
            rcases Nat.eq_zero_or_pos n with a | a
            · exact Or.inr a
            · left
              have := iv.1
              rcases Nat.eq_zero_or_pos E with b | b
              · rw [← hMd, b, Nat.mul_zero, Nat.zero_pow a] at this; omega
              · exact b
          have bs := ivM_end hE0 (by rw [hMd]; exact iv)
          rw [hMd] at bs
          exact yes hh _ bs K L1 kx en.1 en.2.2
    | succ z ih =>
      intro w K L1 S e kx iv en
      have hw : w < M ^ n := by omega
      have hpn := pw n hn
      have hEp : n = 0 ∨ 0 < E := by
        rcases Nat.eq_zero_or_pos n with a | a
        · exact Or.inl a
        · right
          rcases Nat.eq_zero_or_pos E with b | b
          · rw [← hMd, b, Nat.mul_zero, Nat.zero_pow a] at hw; omega
          · exact b
      -- on to the next row
      have nxt : ∀ (K' : gI) (L' : gL), mo3 J K' → K' 310 47 = K 310 47 → K' 339 = K 339 → (∀ hh, gdA (thC I) (dyC I 4) E σ (J 311 373).toInt (dg M n w) hh → ∃ h1 v1, S = some (h1, v1) ∧ h1 ≤ hh) → ∀ v : Int32, v = nI w + 1 → Go G mX7_acquits 20 0 0 41 [some (.ref 310), some (.int (nI σ)), some (.int (nI n)), some (.int (nI M)), some (.int (nI (M ^ n))), some (.int v), none, none, none, none] [] SH K' R L' Q := by
        intro K' L' kx' e47 e339 nb v ev
        rw [ev, nI_1]
        refine ih (w + 1) K' L' S (by omega) kx' ?_ ?_
        · match S, iv, nb with
          | none, iv, nb =>
            intro v' h' hv' hg
            rcases Nat.lt_or_ge v' w with y | y
            · exact iv v' h' y hg
            · rw [show v' = w by omega, hMd] at hg
              obtain ⟨_, _, q, _⟩ := nb h' hg
              cases q
          | some (h1, v1), iv, nb =>
            refine ⟨by have := iv.1; omega, iv.2.1, fun v' h' hv' hg => ?_⟩
            rcases Nat.lt_or_ge v' w with y | y
            · exact iv.2.2 v' h' y hg
            · rw [show v' = w by omega, hMd] at hg
              obtain ⟨a, b, q, q2⟩ := nb h' hg
              cases q
              have := iv.1
              by_cases c : h1 < h'
              · exact Or.inl c
              · exact Or.inr ⟨by omega, by omega⟩
        · match S, en with
          | none, en => show K' 310 47 = -1; rw [e47]; exact en
          | some (h1, v1), en => show (K' 310 47).toInt = h1 ∧ 0 ≤ h1 ∧ ∀ i, i < n → (K' 339 i).toInt = (dg M n v1).getD i 0; rw [e47, e339]; exact en
      refine b_X7_acquits_41 hF ⟨fun c => absurd c (nI_ge hw (by omega)), fun _ => ?_⟩
      rintro _ rfl
      -- the row laid out
      have lay : ∀ k (X : gI), k ≤ n → mo3 J X → X 310 47 = K 310 47 → X 339 = K 339 → (∀ i, k ≤ i → i < n → X 338 i = nI (w / M ^ (n - 1 - i) % M)) → (∀ X' L', mo3 J X' → X' 310 47 = K 310 47 → X' 339 = K 339 → (∀ i, i < n → X' 338 i = nI (w / M ^ (n - 1 - i) % M)) → Go G mX7_acquits 20 0 0 57 [some (.ref 310), some (.int (nI σ)), some (.int (nI n)), some (.int (nI M)), some (.int (nI (M ^ n))), some (.int (nI w)), some (.int (nI (w / M ^ n))), some (.int (nI 0 - 1)), none, none] [] SH X' R L' Q) → Go G mX7_acquits 20 0 0 57 [some (.ref 310), some (.int (nI σ)), some (.int (nI n)), some (.int (nI M)), some (.int (nI (M ^ n))), some (.int (nI w)), some (.int (nI (w / M ^ (n - k)))), some (.int (nI k - 1)), none, none] [] SH X R L1 Q := by
        intro k
        induction k with
        | zero =>
          intro X hk mx x47 x339 xr nx
          rw [Nat.sub_zero]
          exact nx X L1 mx x47 x339 (fun i hi => xr i (Nat.zero_le _) hi)
        | succ k ihk =>
          intro X hk mx x47 x339 xr nx
          have hE1 : 0 < E := by
            rcases hEp with a | a
            · omega
            · exact a
          have nz : ¬ nI M = 0 := nI_ne0 (by omega) (by omega)
          have ek : nI (k + 1) - 1 = nI k := nI_pred k
          have hwd : w / M ^ (n - (k + 1)) ≤ w := Nat.div_le_self _ _
          rw [ek]
          refine b_X7_acquits_57 hF ⟨fun c => absurd c (nI_pos (by omega)), fun _ => ⟨nz, vp_in_nI (by omega) (by decide), ?_⟩⟩
          rintro _ rfl
          refine ⟨nz, ?_⟩
          rintro _ rfl _ rfl
          rw [nI_mod (by omega) (by omega), nI_div (by omega) (by omega), nI_clamp (by omega), show nI k + (-1 : Int32) = nI k - 1 from (Int32.sub_eq_add_neg _ _).symm]
          have ed : w / M ^ (n - (k + 1)) / M = w / M ^ (n - k) := by rw [Nat.div_div_eq_div_mul, ← Nat.pow_succ, show (n - (k + 1)).succ = n - k by omega]
          rw [ed]
          refine ihk _ (by omega) (mo3_tr mx ⟨fun a a1 _ => up_off _ (by omega), fun j _ _ => by rw [up_nc (by decide)]⟩) (by rw [up_nc (by decide), x47]) (by rw [up_off _ (by decide), x339]) (fun i h1 h2 => ?_) nx
          by_cases y : i = k
          · rw [y, up_eq, show n - 1 - k = n - (k + 1) by omega]
          · rw [up_ni y]; exact xr i (by omega) h2
      have lay' := lay n K (Nat.le_refl _) kx rfl rfl (fun i h1 h2 => by omega)
      rw [Nat.sub_self, Nat.pow_zero, Nat.div_one] at lay'
      refine lay' (fun X L2 mx x47 x339 xr => ?_)
      refine b_X7_acquits_57 hF ⟨fun _ => ?_, fun c => absurd (by rw [show nI 0 - 1 = (-1 : Int32) from by decide]; decide) c⟩
      rintro _ rfl _ rfl
      generalize hl : dg M n w = l at *
      have hll : l.length = n := by rw [← hl]; exact dg_len _ _ _
      have hcl : cds E l := by
        rcases hEp with a | a
        · intro c hc
          rw [List.eq_nil_of_length_eq_zero (hll.trans a)] at hc; simp at hc
        · rw [← hl, ← hMd]; exact dg_cds a n w
      have hat : ∀ i, i < n → l.getD i 0 = ((w / M ^ (n - 1 - i) % M : Nat) : Int) := fun i hi => by rw [← hl]; exact dg_at M n w i hi
      have lx : mo3 J (layI X) := mo3_tr mx (mo3_of (mo2_of (mo_lay X)))
      have dl : eqD (dyC I 4) (dyM (layI X)) := hD.trans (mo3_dy mx).symm
      have l47 : layI X 310 47 = K 310 47 := by rw [layI_310 (by decide)]; exact x47
      have l339 : layI X 339 = K 339 := by rw [layI_off (by decide) (by decide) (by decide)]; exact x339
      have l338 : layI X 338 = X 338 := layI_off (by decide) (by decide) (by decide)
      -- the spoons of the row
      have eat : ∀ k i (Y : gI) (L3 : gL) (δ : dyn) (hh : Int), i + k = n → mo3 J Y → Y 310 47 = K 310 47 → Y 339 = K 339 → Y 338 = X 338 → rnA (thC I) (l.take i) (dyC I 4) 0 = some (δ, hh) → eqD δ (dyM Y) →
          (∀ Y' L', mo3 J Y' → Y' 310 47 = K 310 47 → Y' 339 = K 339 → Y' 338 = X 338 → rnA (thC I) l (dyC I 4) 0 = none → Go G mX7_acquits 20 0 0 159 [some (.ref 310), some (.int (nI σ)), some (.int (nI n)), some (.int (nI M)), some (.int (nI (M ^ n))), some (.int (nI w)), none, some (.int (layI X 333 0 + layI X 333 2)), some (.int 0), none] [] SH Y' R L' Q) →
          (∀ Y' L' δ' h', mo3 J Y' → Y' 310 47 = K 310 47 → Y' 339 = K 339 → Y' 338 = X 338 → rnA (thC I) l (dyC I 4) 0 = some (δ', h') → eqD δ' (dyM Y') → Go G mX7_acquits 20 0 0 159 [some (.ref 310), some (.int (nI σ)), some (.int (nI n)), some (.int (nI M)), some (.int (nI (M ^ n))), some (.int (nI w)), none, some (.int (layI X 333 0 + layI X 333 2)), some (.int 1), none] [] SH Y' R L' Q) →
          Go G mX7_acquits 20 0 0 110 [some (.ref 310), some (.int (nI σ)), some (.int (nI n)), some (.int (nI M)), some (.int (nI (M ^ n))), some (.int (nI w)), none, some (.int (layI X 333 0 + layI X 333 2)), some (.int 1), some (.int (nI i))] [] SH Y R L3 Q := by
        intro k
        induction k with
        | zero =>
          intro i Y L3 δ hh ei my y47 y339 y338 er ed f1 f2
          rw [List.take_of_length_le (by omega)] at er
          exact b_X7_acquits_110 hF ⟨fun _ => f2 Y L3 δ hh my y47 y339 y338 er ed, fun c => absurd (by rw [show i = n by omega]; exact ti_le.mpr (Int.le_refl _)) c⟩
        | succ k ihk =>
          intro i Y L3 δ hh ei my y47 y339 y338 er ed f1 f2
          obtain ⟨tM, nM⟩ := mo3_th my
          have hi : i < n := by omega
          have hM0 : 0 < M := by
            rcases hEp with a | a
            · omega
            · omega
          have hdg := Nat.mod_lt (w / M ^ (n - 1 - i)) hM0
          have yi : Y 338 i = nI (w / M ^ (n - 1 - i) % M) := by rw [y338]; exact xr i hi
          generalize hcc : w / M ^ (n - 1 - i) % M = c at *
          have hli : l.getD i 0 = (c : Int) := by rw [hat i hi, hcc]
          have hi' : i < l.length := by omega
          have etk : l.take (i + 1) = l.take i ++ [(c : Int)] := by
            rw [List.take_add_one]
            simp only [List.getElem?_eq_getElem hi', Option.toList_some]
            congr 2
            rw [← hli]
            simp [List.getD_eq_getElem?_getD, hi']
          have esp : l = l.take i ++ (c : Int) :: l.drop (i + 1) := by
            have := (List.take_append_drop (i + 1) l).symm
            rw [etk, List.append_assoc] at this
            exact this
          have hck : cds E (l.take i) := fun x hx => hcl x (List.mem_of_mem_take hx)
          have ltk : (l.take i).length = i := by rw [List.length_take]; omega
          have oT := (rnA_ok oI.1 (show (E : Int) ≤ 9 by omega) (l.take i) (n := 0) hck (by omega) oDn er).1
          rw [ltk, Nat.zero_add] at oT
          have c9 : c / 2 < 9 := by omega
          have kt : ((nI (c % 2)).toInt) = ((c % 2 : Nat) : Int) := nI_toInt (by omega)
          refine b_X7_acquits_110 hF ⟨fun q => absurd q (nI_ge (by omega) (by omega)), fun _ => ⟨fun q => absurd q (by decide), fun _ => ?_⟩⟩
          rw [nI_clamp (by omega), yi, show (2 : Int32) = nI 2 from rfl, nI_mod (by omega) (by decide), nI_div (by omega) (by decide), nI_clamp (by omega), kt, tM]
          have es : spn (thM J) (dyM Y) (c / 2) ((c % 2 : Nat) : Int) = spn (thC I) δ (c / 2) ((c % 2 : Nat) : Int) := (spn_eq hT ed oI.1 (oT.ok (by omega)) c9 (by omega) (by omega)).symm
          rw [es]
          refine ⟨vp_in_nI (by omega) (by decide), vp_in_nI (by omega) (by decide), vp_in_nI c9 (by decide), vp_in_nI (by omega) (by decide), nM oN, okD_eq ed (oT.ok (by omega)), ?_⟩
          rintro r Y2 L4 ⟨hr, hy, hx1, hx2, -⟩
          have z0 : (0 : Int32).toInt = 0 := rfl
          have my2 : mo3 J Y2 := mo3_tr my (mo3_of (mo2_of ⟨hx1, hx2⟩))
          have y2a : Y2 310 47 = K 310 47 := by rw [hx2 47 (by decide)]; exact y47
          have y2b : Y2 339 = K 339 := by rw [hx1 339 (by decide) (by decide) (by decide) (by decide)]; exact y339
          have y2c : Y2 338 = X 338 := by rw [hx1 338 (by decide) (by decide) (by decide) (by decide)]; exact y338
          refine ⟨fun q => ?_, fun q => ?_⟩
          · rw [ti_le, z0, hr] at q
            rintro _ rfl
            have en2 : rnA (thC I) l (dyC I 4) 0 = none := by
              rw [esp, rnA_app, er]
              show rnA (thC I) ((c : Int) :: l.drop (i + 1)) δ hh = none
              cases hh2 : rnA (thC I) ((c : Int) :: l.drop (i + 1)) δ hh with
              | none => rfl
              | some x =>
                obtain ⟨x1, x2⟩ := x
                have := (rnA_cons hh2).1
                omega
            have g1 := f1 Y2 L4 my2 y2a y2b y2c en2
            exact b_X7_acquits_110 hF ⟨fun _ => g1, fun _ => ⟨fun _ => g1, fun c => absurd rfl c⟩⟩
          · rw [ti_le, z0, hr] at q
            rintro _ rfl
            rw [nI_1]
            refine ihk (i + 1) Y2 L4 _ (if c % 2 = 0 then hh + spn (thC I) δ (c / 2) ((c % 2 : Nat) : Int) else hh) (by omega) my2 y2a y2b y2c ?_ (by rw [hy]; exact eaD_eq ed c9) f1 f2
            rw [etk, rnA_app, er]
            show rnA (thC I) ((c : Int) :: []) δ hh = _
            rw [rnA_one (by omega)]; rfl
      have e48 : layI X 310 47 = K 310 47 := l47
      refine eat n 0 (layI X) L2 (dyC I 4) 0 (by omega) lx e48 l339 l338 rfl dl (fun Y L' my y47 y339 y338 er => ?_) (fun Y L' δ' h' my y47 y339 y338 er ed => ?_)
      · refine b_X7_acquits_159 hF ?_
        rintro _ rfl
        refine ⟨fun _ => nxt Y L' my y47 y339 (fun hh hg => ?_), fun c => absurd rfl c⟩
        obtain ⟨-, δ', g1, -⟩ := hg
        rw [er] at g1; cases g1
      · obtain ⟨tM, nM⟩ := mo3_th my
        obtain ⟨oF, hub⟩ := rnA_ok oI.1 (show (E : Int) ≤ 9 by omega) l (n := 0) hcl (by omega) oDn er
        rw [Nat.zero_add] at oF
        have hon := rnA_honey oI.1 (show (E : Int) ≤ 9 by omega) l (n := 0) hcl (by omega) oDn er
        have hm0 := rnA_mono _ _ er
        have oM := okD_eq ed (oF.ok (by omega))
        have oX := okD_eq dl (oDn.ok (by decide))
        have p0 : 0 ≤ (Y 333 0).toInt ∧ (Y 333 0).toInt ≤ 999 := oM.1 0 (by decide)
        have p2 : 0 ≤ (Y 333 2).toInt ∧ (Y 333 2).toInt ≤ 999 := oM.1 2 (by decide)
        have q0 : 0 ≤ (layI X 333 0).toInt ∧ (layI X 333 0).toInt ≤ 999 := oX.1 0 (by decide)
        have q2 : 0 ≤ (layI X 333 2).toInt ∧ (layI X 333 2).toInt ≤ 999 := oX.1 2 (by decide)
        have r0 : δ'.1 0 = (Y 333 0).toInt := ed.1 0 (by decide)
        have r2 : δ'.1 2 = (Y 333 2).toInt := ed.1 2 (by decide)
        have s0 : (dyC I 4).1 0 = (layI X 333 0).toInt := dl.1 0 (by decide)
        have s2 : (dyC I 4).1 2 = (layI X 333 2).toInt := dl.1 2 (by decide)
        have a1 : (layI X 333 0 + layI X 333 2).toInt = (layI X 333 0).toInt + (layI X 333 2).toInt := by rw [ti_add] <;> omega
        have a2 : (Y 333 0 + Y 333 2).toInt = (Y 333 0).toInt + (Y 333 2).toInt := by rw [ti_add] <;> omega
        have eh : (layI X 333 0 + layI X 333 2 - (Y 333 0 + Y 333 2)).toInt = h' := by
          rw [ti_sub] <;> rw [a1, a2] <;> omega
        have onlyh : ∀ hh, gdA (thC I) (dyC I 4) E σ (J 311 373).toInt l hh → hh = h' ∧ gui (thC I) δ' σ (J 311 373).toInt = false := fun hh hg => by
          obtain ⟨-, δ2, g1, g2⟩ := hg
          rw [er] at g1
          simp only [Option.some.injEq, Prod.mk.injEq] at g1
          rw [← g1.1] at g2
          exact ⟨g1.2.symm, g2⟩
        refine b_X7_acquits_159 hF ?_
        rintro _ rfl
        refine ⟨fun c => absurd c (by decide), fun _ => ?_⟩
        generalize hv : layI X 333 0 + layI X 333 2 - (Y 333 0 + Y 333 2) = v at *
        have i9 : ∀ (S0 : Option (Int × Nat)), S0 = S → (∀ h1 v1, S = some (h1, v1) → h' < h1) → Go G mX7_acquits 20 0 0 199 [some (.ref 310), some (.int (nI σ)), some (.int (nI n)), some (.int (nI M)), some (.int (nI (M ^ n))), some (.int (nI w)), none, some (.int v), none, none] [] SH Y R L' Q := by
          intro S0 _ hless
          refine b_X7_acquits_199 hF ?_
          have y11 : Y 311 = J 311 := my.1 311 (by decide) (by decide)
          rw [tM, st, y11]
          have eg : gui (thM J) (dyM Y) σ (J 311 373).toInt = gui (thC I) δ' σ (J 311 373).toInt := (gui_eq hT ed oI.1 (by omega) (by omega)).symm
          rw [eg]
          refine ⟨vp_in_nI hσ (by decide), nM oN, oM, hdn, ?_⟩
          rintro Y2 L4 ⟨k1, -⟩
          have my2 : mo3 J Y2 := mo3_tr my (mo3_of (mo2_off (c := 331) (by decide) k1))
          refine ⟨fun cg => nxt Y2 L4 my2 (by rw [k1 310 (by decide)]; exact y47) (by rw [k1 339 (by decide)]; exact y339) (fun hh hg => ?_), fun cg => ?_⟩
          · have := (onlyh hh hg).2
            rw [cg] at this; cases this
          · have cg' : gui (thC I) δ' σ (J 311 373).toInt = false := by simpa using cg
            rintro _ rfl
            -- the row is kept
            have cp : ∀ k i (Z : gI), i + k = n → mo3 J Z → Z 310 47 = v → Z 338 = X 338 → (∀ x, x < i → Z 339 x = X 338 x) → Go G mX7_acquits 20 0 0 216 [some (.ref 310), some (.int (nI σ)), some (.int (nI n)), some (.int (nI M)), some (.int (nI (M ^ n))), some (.int (nI w)), none, none, none, some (.int (nI i))] [] SH Z R L4 Q := by
              intro k
              induction k with
              | zero =>
                intro i Z ei mz z47 z338 z339
                refine b_X7_acquits_216 hF ⟨fun _ => ?_, fun c => absurd (by rw [show i = n by omega]; exact ti_le.mpr (Int.le_refl _)) c⟩
                rintro _ rfl
                rw [nI_1]
                refine ih (w + 1) Z L4 (some (h', w)) (by omega) mz ⟨by omega, by rw [hMd, hl]; exact ⟨hcl, δ', er, cg'⟩, fun v' h2 hv' hg => ?_⟩ ⟨by rw [z47]; exact eh, by omega, fun x hx => ?_⟩
                · rcases Nat.lt_or_ge v' w with y | y
                  · left
                    match S, iv, hless with
                    | none, iv, _ => exact absurd hg (iv v' h2 y)
                    | some (h1, v1), iv, hless =>
                      have := hless h1 v1 rfl
                      rcases iv.2.2 v' h2 y hg with q | q
                      · omega
                      · omega
                  · rw [show v' = w by omega, hMd, hl] at hg
                    exact Or.inr ⟨(onlyh h2 hg).1.symm, by omega⟩
                · rw [z339 x (by omega), xr x hx, hl, hat x hx]
                  have hM0 : 0 < M := by
                    rcases hEp with a | a
                    · omega
                    · omega
                  have := Nat.mod_lt (w / M ^ (n - 1 - x)) hM0
                  rw [nI_toInt (by omega)]
              | succ k ihk =>
                intro i Z ei mz z47 z338 z339
                refine b_X7_acquits_216 hF ⟨fun c => absurd c (nI_ge (by omega) (by omega)), fun _ => ⟨vp_in_nI (by omega) (by decide), vp_in_nI (by omega) (by decide), ?_⟩⟩
                rintro _ rfl _ rfl
                rw [nI_1, nI_clamp (by omega)]
                refine ihk (i + 1) _ (by omega) (mo3_tr mz ⟨fun a a1 _ => up_off _ (by omega), fun j _ _ => by rw [up_nc (by decide)]⟩) (by rw [up_nc (by decide)]; exact z47) (by rw [up_off _ (by decide)]; exact z338) (fun x hx => ?_)
                by_cases y : x = i
                · rw [y, up_eq, z338]
                · rw [up_ni y]; exact z339 x (by omega)
            exact cp n 0 _ (by omega) (mo3_tr my2 (mo3_47 Y2 v)) (up_eq _ _ _ _) (by rw [up_off _ (by decide), k1 338 (by decide)]; exact y338) (fun x hx => by omega)
        rw [y47]
        match S, en, iv, nxt, i9 with
        | none, en, iv, nxt, i9 => exact ⟨fun _ => i9 none rfl (fun h1 v1 q => by cases q), fun c => absurd en c⟩
        | some (h1, v1), en, iv, nxt, i9 =>
          refine ⟨fun c => ?_, fun _ => ⟨fun c => nxt Y L' my y47 y339 (fun hh hg => ⟨h1, v1, rfl, ?_⟩), fun c => i9 _ rfl (fun h2 v2 q => ?_)⟩⟩
          · exfalso
            have := en.1
            rw [c] at this
            have e' : (-1 : Int32).toInt = -1 := rfl
            have := en.2.1
            omega
          · rw [ti_le, en.1, eh] at c
            rw [(onlyh hh hg).1]; exact c
          · cases q
            rw [ti_le, en.1, eh] at c; omega
  -- how many ways
  refine e_X7_acquits hF ?_
  rintro _ rfl
  rw [eM]
  have ways : ∀ k i, i + k = n → Go G mX7_acquits 20 0 0 15 [some (.ref 310), some (.int (nI σ)), some (.int (nI n)), some (.int (nI M)), some (.int (nI (M ^ i))), some (.int (nI i)), none, none, none, none] [] SH J R L Q := by
    intro k
    induction k with
    | zero =>
      intro i ei
      refine b_X7_acquits_15 hF ⟨fun _ => ?_, fun c => absurd (by rw [show i = n by omega]; exact ti_le.mpr (Int.le_refl _)) c⟩
      rintro _ rfl
      rw [show i = n by omega]
      exact scan (M ^ n) 0 (up J 310 47 (-1)) L none (by omega) (mo3_47 J (-1)) (fun v hh hv => by omega) (up_eq _ _ _ _)
    | succ k ihk =>
      intro i ei
      refine b_X7_acquits_15 hF ⟨fun c => absurd c (nI_ge (by omega) (by omega)), fun _ => ?_⟩
      rintro _ rfl _ rfl
      rw [nI_1, nI_mul, ← Nat.pow_succ]
      exact ihk (i + 1) (by omega)
  exact ways n 0 (by omega)
