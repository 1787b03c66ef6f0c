theorem e_X3_wordAt {G : gG} {I : gI} {R : gR} {L : gL} {Q : gQ} {a b : Int32} (hR : g_Fx R) (h : Go G mX3_wordAt 8 0 0 11 [some (.ref 306), some (.int a), some (.int b), some (.int 0), some (.int a), some (.int 1), some (.int 0), none] [] SH I R L Q) : Mt G mX3_wordAt 8 0 0 [.ref 306, .int a, .int b] SH I R L Q := by
  refine go_start rfl (Nat.le_of_ble_eq_true rfl) rfl ?_
  refine go_iconst (v := 0) dX3_wordAt_0 (by decide) ?_
  refine go_istore_n dX3_wordAt_1 (Nat.le_of_ble_eq_true rfl) rfl ?_
  refine go_iload_n dX3_wordAt_2 rfl ?_
  refine go_istore dX3_wordAt_3 (Nat.le_of_ble_eq_true rfl) rfl ?_
  refine go_iconst (v := 1) dX3_wordAt_5 (by decide) ?_
  refine go_istore dX3_wordAt_6 (Nat.le_of_ble_eq_true rfl) rfl ?_
  refine go_iconst (v := 0) dX3_wordAt_8 (by decide) ?_
  refine go_istore dX3_wordAt_9 (Nat.le_of_ble_eq_true rfl) rfl ?_
  exact h
theorem b_X3_wordAt_11 {G : gG} {I : gI} {R : gR} {L : gL} {Q : gQ} {v1 v2 v3 v4 v5 v6 : Int32} (hR : g_Fx R) (h : (129 ≤ v6 → Q (some (.int 39)) SH I R L) ∧ (¬ 129 ≤ v6 → vp_in v6 129 ∧ (∀ v7_2 : Int32, v7_2 = g_tx5 v6.toNatClampNeg → (¬ v7_2 = 32 → (v5 = 0 → ∀ v6_3 : Int32, v6_3 = v6 + 1 → Go G mX3_wordAt 8 0 0 11 [some (.ref 306), some (.int v1), some (.int v2), some (.int v3), some (.int v4), some (.int 0), some (.int v6_3), none] [] SH I R L Q) ∧ (¬ v5 = 0 → (v2 ≤ v4 → ∀ v6_4 : Int32, v6_4 = v6 + 1 → Go G mX3_wordAt 8 0 0 11 [some (.ref 306), some (.int v1), some (.int v2), some (.int v3), some (.int v4), some (.int 0), some (.int v6_4), none] [] SH I R L Q) ∧ (¬ v2 ≤ v4 → vp_in v4 300 ∧ ((¬ (I 307 v4.toNatClampNeg) = v7_2 → ∀ v6_5 : Int32, v6_5 = v6 + 1 → Go G mX3_wordAt 8 0 0 11 [some (.ref 306), some (.int v1), some (.int v2), some (.int v3), some (.int v4), some (.int 0), some (.int v6_5), none] [] SH I R L Q) ∧ ((I 307 v4.toNatClampNeg) = v7_2 → ∀ v4_6 : Int32, v4_6 = v4 + 1 → ∀ v6_7 : Int32, v6_7 = v6 + 1 → Go G mX3_wordAt 8 0 0 11 [some (.ref 306), some (.int v1), some (.int v2), some (.int v3), some (.int v4_6), some (.int v5), some (.int v6_7), none] [] SH I R L Q))))) ∧ (v7_2 = 32 → (v5 = 0 → ∀ v3_11 : Int32, v3_11 = v3 + 1 → ∀ v6_12 : Int32, v6_12 = v6 + 1 → Go G mX3_wordAt 8 0 0 11 [some (.ref 306), some (.int v1), some (.int v2), some (.int v3_11), some (.int v1), some (.int 1), some (.int v6_12), none] [] SH I R L Q) ∧ (¬ v5 = 0 → (¬ v4 = v2 → ∀ v3_13 : Int32, v3_13 = v3 + 1 → ∀ v6_14 : Int32, v6_14 = v6 + 1 → Go G mX3_wordAt 8 0 0 11 [some (.ref 306), some (.int v1), some (.int v2), some (.int v3_13), some (.int v1), some (.int 1), some (.int v6_14), none] [] SH I R L Q) ∧ (v4 = v2 → Q (some (.int v3)) SH I R L)))))) : Go G mX3_wordAt 8 0 0 11 [some (.ref 306), some (.int v1), some (.int v2), some (.int v3), some (.int v4), some (.int v5), some (.int v6), none] [] SH I R L Q := by
  refine go_iload dX3_wordAt_11 rfl ?_
  refine go_ldcS75 rfl dX3_wordAt_13 ?_
  refine go_callX3 (μ := mX3_wordAt) [] dX3_wordAt_15 YJ0_length_8abf5 lX3_77 rfl rfl (Nat.le_of_ble_eq_true rfl) (Nat.le_of_ble_eq_true rfl) rfl (k3_J0_length_8abf5 hR ?_)
  refine go_icmp_ge 100 dX3_wordAt_18 (by decide) (fun c => ?_) (fun c => ?_)
  · have h := h.1 c
    refine go_bipush (v := 39) dX3_wordAt_100 (by decide) ?_
    exact go_iret dX3_wordAt_102 rfl rfl h
  · have h := h.2 c
    refine go_ldcS75 rfl dX3_wordAt_21 ?_
    refine go_iload dX3_wordAt_23 rfl ?_
    obtain ⟨hp_1, h⟩ := h
    refine go_callX3 (μ := mX3_wordAt) [.int _] dX3_wordAt_25 YJ0_charAt_5068e lX3_83 rfl rfl (Nat.le_of_ble_eq_true rfl) (Nat.le_of_ble_eq_true rfl) rfl (k3_J0_charAt_5068e hR hp_1 ?_)
    refine go_istore dX3_wordAt_28 (Nat.le_of_ble_eq_true rfl) rfl ?_
    have h := h _ rfl
    refine go_iload dX3_wordAt_30 rfl ?_
    refine go_bipush (v := 32) dX3_wordAt_32 (by decide) ?_
    refine go_icmp_ne 62 dX3_wordAt_34 (by decide) (fun c => ?_) (fun c => ?_)
    · have h := h.1 c
      refine go_iload dX3_wordAt_62 rfl ?_
      refine go_if_eq 91 dX3_wordAt_64 (by decide) (fun c => ?_) (fun c => ?_)
      · have h := h.1 c
        refine go_iconst (v := 0) dX3_wordAt_91 (by decide) ?_
        refine go_istore dX3_wordAt_92 (Nat.le_of_ble_eq_true rfl) rfl ?_
        refine go_iinc dX3_wordAt_94 rfl (Nat.le_of_ble_eq_true rfl) rfl ?_
        have h := h _ rfl
        refine go_goto 11 dX3_wordAt_97 (by decide) ?_
        refine go_drop 7 ?_
        exact h
      · have h := h.2 c
        refine go_iload dX3_wordAt_67 rfl ?_
        refine go_iload_n dX3_wordAt_69 rfl ?_
        refine go_icmp_ge 91 dX3_wordAt_70 (by decide) (fun c => ?_) (fun c => ?_)
        · have h := h.1 c
          refine go_iconst (v := 0) dX3_wordAt_91 (by decide) ?_
          refine go_istore dX3_wordAt_92 (Nat.le_of_ble_eq_true rfl) rfl ?_
          refine go_iinc dX3_wordAt_94 rfl (Nat.le_of_ble_eq_true rfl) rfl ?_
          have h := h _ rfl
          refine go_goto 11 dX3_wordAt_97 (by decide) ?_
          refine go_drop 7 ?_
          exact h
        · have h := h.2 c
          refine go_aload_n dX3_wordAt_73 rfl ?_
          refine go_getR dX3_wordAt_74 fX3_9 rfl rfl (hR 306 0 307 rfl) ?_
          refine go_iload dX3_wordAt_77 rfl ?_
          obtain ⟨hi, h⟩ := h
          refine go_iald dX3_wordAt_79 rfl hi ?_
          refine go_iload dX3_wordAt_80 rfl ?_
          refine go_icmp_ne 91 dX3_wordAt_82 (by decide) (fun c => ?_) (fun c => ?_)
          · have h := h.1 c
            refine go_iconst (v := 0) dX3_wordAt_91 (by decide) ?_
            refine go_istore dX3_wordAt_92 (Nat.le_of_ble_eq_true rfl) rfl ?_
            refine go_iinc dX3_wordAt_94 rfl (Nat.le_of_ble_eq_true rfl) rfl ?_
            have h := h _ rfl
            refine go_goto 11 dX3_wordAt_97 (by decide) ?_
            refine go_drop 7 ?_
            exact h
          · have h := h.2 c
            refine go_iinc dX3_wordAt_85 rfl (Nat.le_of_ble_eq_true rfl) rfl ?_
            have h := h _ rfl
            refine go_goto 94 dX3_wordAt_88 (by decide) ?_
            refine go_iinc dX3_wordAt_94 rfl (Nat.le_of_ble_eq_true rfl) rfl ?_
            have h := h _ rfl
            refine go_goto 11 dX3_wordAt_97 (by decide) ?_
            refine go_drop 7 ?_
            exact h
    · have h := h.2 c
      refine go_iload dX3_wordAt_37 rfl ?_
      refine go_if_eq 50 dX3_wordAt_39 (by decide) (fun c => ?_) (fun c => ?_)
      · have h := h.1 c
        refine go_iinc dX3_wordAt_50 rfl (Nat.le_of_ble_eq_true rfl) rfl ?_
        have h := h _ rfl
        refine go_iload_n dX3_wordAt_53 rfl ?_
        refine go_istore dX3_wordAt_54 (Nat.le_of_ble_eq_true rfl) rfl ?_
        refine go_iconst (v := 1) dX3_wordAt_56 (by decide) ?_
        refine go_istore dX3_wordAt_57 (Nat.le_of_ble_eq_true rfl) rfl ?_
        refine go_goto 94 dX3_wordAt_59 (by decide) ?_
        refine go_iinc dX3_wordAt_94 rfl (Nat.le_of_ble_eq_true rfl) rfl ?_
        have h := h _ rfl
        refine go_goto 11 dX3_wordAt_97 (by decide) ?_
        refine go_drop 7 ?_
        exact h
      · have h := h.2 c
        refine go_iload dX3_wordAt_42 rfl ?_
        refine go_iload_n dX3_wordAt_44 rfl ?_
        refine go_icmp_ne 50 dX3_wordAt_45 (by decide) (fun c => ?_) (fun c => ?_)
        · have h := h.1 c
          refine go_iinc dX3_wordAt_50 rfl (Nat.le_of_ble_eq_true rfl) rfl ?_
          have h := h _ rfl
          refine go_iload_n dX3_wordAt_53 rfl ?_
          refine go_istore dX3_wordAt_54 (Nat.le_of_ble_eq_true rfl) rfl ?_
          refine go_iconst (v := 1) dX3_wordAt_56 (by decide) ?_
          refine go_istore dX3_wordAt_57 (Nat.le_of_ble_eq_true rfl) rfl ?_
          refine go_goto 94 dX3_wordAt_59 (by decide) ?_
          refine go_iinc dX3_wordAt_94 rfl (Nat.le_of_ble_eq_true rfl) rfl ?_
          have h := h _ rfl
          refine go_goto 11 dX3_wordAt_97 (by decide) ?_
          refine go_drop 7 ?_
          exact h
        · have h := h.2 c
          refine go_iload_n dX3_wordAt_48 rfl ?_
          exact go_iret dX3_wordAt_49 rfl rfl h
theorem nleI {a b : Nat} (ha : a < 2 ^ 31) (hb : b < 2 ^ 31) : nI a ≤ nI b ↔ a ≤ b := ⟨fun h => Nat.le_of_not_lt fun c => nI_ge c ha h, fun h => nI_le h hb⟩
theorem nltI {a b : Nat} (ha : a < 2 ^ 31) (hb : b < 2 ^ 31) : nI a < nI b ↔ a < b := ⟨fun h => Nat.lt_of_not_le fun c => nI_nlt c ha h, fun h => nI_lt h hb⟩
/-- the tape, as far as it goes -/
def tpT (I : gI) (T : Nat → Nat) (n : Nat) : Prop := n ≤ 300 ∧ ∀ j, j < n → I 307 j = nI (T j) ∧ T j ≤ 255
def wlN : List Nat := wds.flatMap (· ++ [32])
theorem tx5_wl : ∀ i, i < 129 → g_tx5 i = nI (wlN.getD i 0) ∧ wlN.getD i 0 < 128 := by decide +kernel
theorem wl_len : wlN.length = 129 := by decide +kernel
theorem wl_drop {i : Nat} (h : i < 129) : wlN.drop i = wlN.getD i 0 :: wlN.drop (i + 1) := by
  rw [List.drop_eq_getElem_cons (by rw [wl_len]; exact h)]
  simp [List.getD, wl_len, h]
theorem k_X3_wordAt {G : gG} {I : gI} {R : gR} {L : gL} {Q : gQ} {T : Nat → Nat} {n p q : Nat} (hR : g_Fx R) (hT : tpT I T n) (hq : q ≤ n) (hp : p ≤ q) (hQ : Q (some (.int (nI (wix (sgm T p q) wds 0)))) SH I R L) : Mt G mX3_wordAt 8 0 0 [.ref 306, .int (nI p), .int (nI q)] SH I R L Q := by
  have h3 := hT.1
  rw [← wa_all (sgm T p q) wds 0 (by decide)] at hQ
  refine e_X3_wordAt hR ?_
  have main : ∀ (m i w k : Nat) (b : Int32) (r : Option (List Nat)), i + m = 129 → w ≤ i → p ≤ k → k ≤ q → ((b = 1 ∧ r = some (sgm T k q)) ∨ (b = 0 ∧ r = none)) → Q (some (.int (nI (wa (sgm T p q) (wlN.drop i) w r)))) SH I R L →
      Go G mX3_wordAt 8 0 0 11 [some (.ref 306), some (.int (nI p)), some (.int (nI q)), some (.int (nI w)), some (.int (nI k)), some (.int b), some (.int (nI i)), none] [] SH I R L Q := by
    intro m
    induction m with
    | zero =>
      intro i w k b r hi hw h1 h2 hb K
      rw [show i = 129 by omega, show wlN.drop 129 = [] by decide +kernel] at K
      refine b_X3_wordAt_11 hR ⟨fun _ => K, fun c => absurd (nI_le (a := 129) (by omega) (by omega)) c⟩
    | succ m ih =>
      intro i w k b r hi hw h1 h2 hb K
      have ht := tx5_wl i (by omega)
      rw [wl_drop (by omega)] at K
      refine b_X3_wordAt_11 hR ⟨fun c => absurd c (nI_ge (b := 129) (by omega) (by decide)), fun _ => ⟨vp_in_nI (by omega) (by decide), ?_⟩⟩
      rw [nI_clamp (by omega), ht.1]
      rintro _ rfl
      generalize wlN.getD i 0 = c at ht K
      have h32 : nI c = 32 ↔ c = 32 := nI_eq (b := 32) (by omega) (by decide)
      refine ⟨fun c1 => ?_, fun c1 => ?_⟩
      · have hc : c ≠ 32 := fun q => c1 (h32.mpr q)
        rw [wa, if_neg hc] at K
        refine ⟨fun c2 => ?_, fun c2 => ?_⟩
        · rintro _ rfl
          rw [nI_1]
          rcases hb with ⟨b1, b2⟩ | ⟨b1, b2⟩
          · rw [b1] at c2; exact absurd c2 (by decide)
          · subst b2
            exact ih (i + 1) w k 0 none (by omega) (by omega) h1 h2 (Or.inr ⟨rfl, rfl⟩) K
        · have hb1 : b = 1 ∧ r = some (sgm T k q) := by
            rcases hb with h | ⟨b1, b2⟩
            · exact h
            · exact absurd b1 c2
          obtain ⟨b1, b2⟩ := hb1
          subst b1
          subst b2
          refine ⟨fun c3 => ?_, fun c3 => ?_⟩
          · rintro _ rfl
            rw [nI_1]
            have hk : k = q := by have := (nleI (by omega) (by omega)).mp c3; omega
            subst hk
            rw [sgm_nil] at K
            exact ih (i + 1) w k 0 none (by omega) (by omega) h1 h2 (Or.inr ⟨rfl, rfl⟩) K
          · have hk : k < q := by
              rcases Nat.lt_or_ge k q with h | h
              · exact h
              · exact absurd (nI_le h (by omega)) c3
            have hj := hT.2 k (by omega)
            rw [sgm_cons hk] at K
            refine ⟨vp_in_nI (by omega) (by decide), ?_⟩
            rw [nI_clamp (by omega), hj.1]
            have hce : nI (T k) = nI c ↔ T k = c := nI_eq (by omega) (by omega)
            refine ⟨fun c4 => ?_, fun c4 => ?_⟩
            · rintro _ rfl
              rw [nI_1]
              rw [show wst (some (T k :: sgm T (k + 1) q)) c = none from if_neg (fun q => c4 (hce.mpr q))] at K
              exact ih (i + 1) w k 0 none (by omega) (by omega) h1 h2 (Or.inr ⟨rfl, rfl⟩) K
            · rintro _ rfl _ rfl
              rw [nI_1, nI_1]
              rw [show wst (some (T k :: sgm T (k + 1) q)) c = some (sgm T (k + 1) q) from if_pos (hce.mp c4)] at K
              exact ih (i + 1) w (k + 1) 1 _ (by omega) (by omega) (by omega) (by omega) (Or.inl ⟨rfl, rfl⟩) K
      · have hc : c = 32 := h32.mp c1
        rw [wa, if_pos hc] at K
        refine ⟨fun c2 => ?_, fun c2 => ?_⟩
        · rintro _ rfl _ rfl
          rw [nI_1, nI_1]
          rcases hb with ⟨b1, b2⟩ | ⟨b1, b2⟩
          · rw [b1] at c2; exact absurd c2 (by decide)
          · subst b2
            rw [if_neg (by simp)] at K
            exact ih (i + 1) (w + 1) p 1 _ (by omega) (by omega) (by omega) hp (Or.inl ⟨rfl, rfl⟩) K
        · have hb1 : b = 1 ∧ r = some (sgm T k q) := by
            rcases hb with h | ⟨b1, b2⟩
            · exact h
            · exact absurd b1 c2
          obtain ⟨b1, b2⟩ := hb1
          subst b1
          subst b2
          refine ⟨fun c3 => ?_, fun c3 => ?_⟩
          · rintro _ rfl _ rfl
            rw [nI_1, nI_1]
            have hk : k < q := by
              rcases Nat.lt_or_ge k q with h | h
              · exact h
              · exact absurd (by rw [show k = q by omega]) c3
            rw [sgm_cons hk, if_neg (by simp)] at K
            exact ih (i + 1) (w + 1) p 1 _ (by omega) (by omega) (by omega) hp (Or.inl ⟨rfl, rfl⟩) K
          · have hk : k = q := (nI_eq (by omega) (by omega)).mp c3
            subst hk
            rw [sgm_nil, if_pos rfl] at K
            exact K
  exact main 129 0 0 p 1 (some (sgm T p q)) (by omega) (by omega) (by omega) hp (Or.inl ⟨rfl, rfl⟩) hQ
