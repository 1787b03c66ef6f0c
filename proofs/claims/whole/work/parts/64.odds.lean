theorem e_X6_chosen {G : gG} {I : gI} {R : gR} {L : gL} {Q : gQ} {a b : Int32} (hR : g_Fx R) (h : (a < 0 → Q (some (.int 0)) SH I R L) ∧ (¬ a < 0 → (6 < a → Q (some (.int 0)) SH I R L) ∧ (¬ 6 < a → (b < 0 → Q (some (.int 0)) SH I R L) ∧ (¬ b < 0 → (b ≤ a → vp_in ((7 * a) + b) 49 ∧ (Q (some (.int (g_ch.getD ((7 * a) + b).toNatClampNeg 0))) SH I R L)) ∧ (¬ b ≤ a → Q (some (.int 0)) SH I R L))))) : Mt G mX6_chosen 1 0 0 [.int a, .int b] SH I R L Q := by
  refine go_start rfl (Nat.le_of_ble_eq_true rfl) rfl ?_
  refine go_iload_n dX6_chosen_0 rfl ?_
  refine go_if_lt 19 dX6_chosen_1 (by decide) (fun c => ?_) (fun c => ?_)
  · have h := h.1 c
    refine go_iconst (v := 0) dX6_chosen_19 (by decide) ?_
    exact go_iret dX6_chosen_20 rfl rfl h
  · have h := h.2 c
    refine go_iload_n dX6_chosen_4 rfl ?_
    refine go_bipush (v := 6) dX6_chosen_5 (by decide) ?_
    refine go_icmp_gt 19 dX6_chosen_7 (by decide) (fun c => ?_) (fun c => ?_)
    · have h := h.1 c
      refine go_iconst (v := 0) dX6_chosen_19 (by decide) ?_
      exact go_iret dX6_chosen_20 rfl rfl h
    · have h := h.2 c
      refine go_iload_n dX6_chosen_10 rfl ?_
      refine go_if_lt 19 dX6_chosen_11 (by decide) (fun c => ?_) (fun c => ?_)
      · have h := h.1 c
        refine go_iconst (v := 0) dX6_chosen_19 (by decide) ?_
        exact go_iret dX6_chosen_20 rfl rfl h
      · have h := h.2 c
        refine go_iload_n dX6_chosen_14 rfl ?_
        refine go_iload_n dX6_chosen_15 rfl ?_
        refine go_icmp_le 21 dX6_chosen_16 (by decide) (fun c => ?_) (fun c => ?_)
        · have h := h.1 c
          refine go_choose dX6_chosen_21 sX6_305 ?_
          refine go_bipush (v := 7) dX6_chosen_24 (by decide) ?_
          refine go_iload_n dX6_chosen_26 rfl ?_
          refine go_imul dX6_chosen_27 ?_
          refine go_iload_n dX6_chosen_28 rfl ?_
          refine go_iadd dX6_chosen_29 ?_
          obtain ⟨hi, h⟩ := h
          refine go_choose_ld dX6_chosen_30 hi ?_
          exact go_iret dX6_chosen_31 rfl rfl h
        · have h := h.2 c
          refine go_iconst (v := 0) dX6_chosen_19 (by decide) ?_
          exact go_iret dX6_chosen_20 rfl rfl h
theorem e_X7_common {G : gG} {I : gI} {R : gR} {L : gL} {Q : gQ} {x y : Int64} (hR : g_Fx R) (h : Go G mX7_common 1 0 0 6 [none, none, none, none, some (.long x), none, some (.long y), none, none, none] [] SH I R L Q) : Mt G mX7_common 1 0 0 [.long x, .long y] SH I R L Q := by
  refine go_start rfl (Nat.le_of_ble_eq_true rfl) rfl ?_
  refine go_lload_n dX7_common_0 rfl ?_
  refine go_lstore dX7_common_1 (Nat.le_of_ble_eq_true rfl) rfl ?_
  refine go_lload_n dX7_common_3 rfl ?_
  refine go_lstore dX7_common_4 (Nat.le_of_ble_eq_true rfl) rfl ?_
  refine go_drop 0 ?_
  refine go_drop 2 ?_
  exact h
theorem b_X7_common_6 {G : gG} {I : gI} {R : gR} {L : gL} {Q : gQ} {w4 w6 : Int64} (hR : g_Fx R) (h : (w6 = 0 → Q (some (.long w4)) SH I R L) ∧ (¬ w6 = 0 → ¬ w6 = 0 ∧ (∀ v8_1 : Int64, v8_1 = (w4 - w4 / w6 * w6) → Go G mX7_common 1 0 0 6 [none, none, none, none, some (.long w6), none, some (.long v8_1), none, none, none] [] SH I R L Q))) : Go G mX7_common 1 0 0 6 [none, none, none, none, some (.long w4), none, some (.long w6), none, none, none] [] SH I R L Q := by
  refine go_lload dX7_common_6 rfl ?_
  refine go_lconst (v := 0) dX7_common_8 (by decide) ?_
  refine go_lcmp dX7_common_9 ?_
  refine go_if_eq 31 dX7_common_10 (by decide) (fun c => ?_) (fun c => ?_)
  · have h := h.1 (lc_eq.mp c)
    refine go_lload dX7_common_31 rfl ?_
    exact go_lret dX7_common_33 rfl rfl h
  · have h := h.2 (lc_eq_n.mp c)
    refine go_lload dX7_common_13 rfl ?_
    refine go_lload dX7_common_15 rfl ?_
    obtain ⟨hn, h⟩ := h
    refine go_lrem dX7_common_17 hn ?_
    refine go_lstore dX7_common_18 (Nat.le_of_ble_eq_true rfl) rfl ?_
    have h := h _ rfl
    refine go_lload dX7_common_20 rfl ?_
    refine go_lstore dX7_common_22 (Nat.le_of_ble_eq_true rfl) rfl ?_
    refine go_lload dX7_common_24 rfl ?_
    refine go_lstore dX7_common_26 (Nat.le_of_ble_eq_true rfl) rfl ?_
    refine go_goto 6 dX7_common_28 (by decide) ?_
    refine go_drop 8 ?_
    exact h
def chI (a b : Int32) : Int32 := if a < 0 then 0 else if 6 < a then 0 else if b < 0 then 0 else if b ≤ a then g_ch.getD (7 * a + b).toNatClampNeg 0 else 0
theorem k_X6_chosen {G : gG} {I : gI} {R : gR} {L : gL} {Q : gQ} {a b : Int32} (hR : g_Fx R) (hq : Q (some (.int (chI a b))) SH I R L) : Mt G mX6_chosen 1 0 0 [.int a, .int b] SH I R L Q := by
  unfold chI at hq
  refine e_X6_chosen hR ⟨fun c => by rw [if_pos c] at hq; exact hq, fun c => ⟨fun c2 => by rw [if_neg c, if_pos c2] at hq; exact hq, fun c2 => ⟨fun c3 => by rw [if_neg c, if_neg c2, if_pos c3] at hq; exact hq, fun c3 => ⟨fun c4 => ⟨?_, by rw [if_neg c, if_neg c2, if_neg c3, if_pos c4] at hq; exact hq⟩, fun c4 => by rw [if_neg c, if_neg c2, if_neg c3, if_neg c4] at hq; exact hq⟩⟩⟩⟩
  have z0 : (0 : Int32).toInt = 0 := rfl
  have z6 : (6 : Int32).toInt = 6 := rfl
  have z7 : (7 : Int32).toInt = 7 := rfl
  rw [ti_lt, z0] at c c3
  rw [ti_lt, z6] at c2
  rw [ti_le] at c4
  have m : (7 * a).toInt = 7 * a.toInt := by rw [ti_mul] <;> rw [z7] <;> omega
  have s : (7 * a + b).toInt = 7 * a.toInt + b.toInt := by rw [ti_add] <;> rw [m] <;> omega
  exact vp_in_iff.mpr ⟨by omega, by rw [s]; show 7 * a.toInt + b.toInt < (49 : Int); omega⟩
theorem chI_n : ∀ n, n < 7 → ∀ k, k < 7 → k ≤ n → chI (nI n) (nI k) = nI (chN n k) := by decide +kernel
/-- the greatest common -/
theorem k_X7_common {G : gG} {I : gI} {R : gR} {L : gL} {Q : gQ} {x y : Int64} (hR : g_Fx R) (p0 : 0 ≤ x.toInt ∧ 0 ≤ y.toInt) (hq : Q (some (.long (lN (Nat.gcd x.toInt.toNat y.toInt.toNat)))) SH I R L) : Mt G mX7_common 1 0 0 [.long x, .long y] SH I R L Q := by
  refine e_X7_common hR ?_
  have z0 : (0 : Int64).toInt = 0 := rfl
  have l64 : ∀ z : Int64, 0 ≤ z.toInt → lN z.toInt.toNat = z := fun z hz => by
    apply tl_eq.mpr
    have := z.toInt_lt
    show (Int64.ofNat z.toInt.toNat).toInt = z.toInt
    rw [Int64.toInt_ofNat']
    rw [show ((z.toInt.toNat : Nat) : Int) = z.toInt by omega]
    exact bl_id (by omega) (by omega)
  have loop : ∀ (m : Nat) (p q : Int64), q.toInt.toNat < m → 0 ≤ p.toInt → 0 ≤ q.toInt → Nat.gcd p.toInt.toNat q.toInt.toNat = Nat.gcd x.toInt.toNat y.toInt.toNat → Go G mX7_common 1 0 0 6 [none, none, none, none, some (.long p), none, some (.long q), none, none, none] [] SH I R L Q := by
    intro m
    induction m with
    | zero => intro p q h; omega
    | succ m ih =>
      intro p q hm hp hq' e
      refine b_X7_common_6 hR ⟨fun c => ?_, fun c => ⟨c, ?_⟩⟩
      · rw [c, z0] at e
        have : lN (Nat.gcd x.toInt.toNat y.toInt.toNat) = p := by rw [← e]; show lN (Nat.gcd p.toInt.toNat 0) = p; rw [Nat.gcd_zero_right]; exact l64 p hp
        rw [this] at hq; exact hq
      · rintro _ rfl
        have hq0 : 0 < q.toInt := by
          have : ¬ q.toInt = 0 := fun z => c (tl_eq.mpr (z.trans z0.symm))
          omega
        have d1 : (p / q).toInt = p.toInt / q.toInt := by
          rw [tl_div (fun z => by rw [z] at hq0; exact absurd hq0 (by decide))]
          exact Int.tdiv_eq_ediv_of_nonneg hp
        have f1 := Int.emod_add_mul_ediv p.toInt q.toInt
        have f2 := Int.emod_nonneg p.toInt (show q.toInt ≠ 0 by omega)
        have f3 := Int.emod_lt_of_pos p.toInt hq0
        have f4 : q.toInt * (p.toInt / q.toInt) = p.toInt / q.toInt * q.toInt := Int.mul_comm _ _
        have f5 := p.toInt_lt
        have f6 : 0 ≤ p.toInt / q.toInt := Int.ediv_nonneg hp hq'
        have f7 : 0 ≤ p.toInt / q.toInt * q.toInt := Int.mul_nonneg f6 hq'
        have m1 : (p / q * q).toInt = p.toInt / q.toInt * q.toInt := by rw [tl_mul] <;> rw [d1] <;> omega
        have s1 : (p - p / q * q).toInt = p.toInt % q.toInt := by rw [tl_sub] <;> rw [m1] <;> omega
        have tn : (p.toInt % q.toInt).toNat = p.toInt.toNat % q.toInt.toNat := by
          rw [Int.toNat_emod hp hq']
        refine ih q (p - p / q * q) (by rw [s1]; omega) hq' (by rw [s1]; exact f2) ?_
        rw [s1, tn, ← e, Nat.gcd_comm p.toInt.toNat, Nat.gcd_rec q.toInt.toNat p.toInt.toNat, Nat.gcd_comm]
  exact loop _ x y (Nat.lt_succ_self _) p0.1 p0.2 rfl
theorem e_X6_waysTo {G : gG} {I : gI} {R : gR} {L : gL} {Q : gQ} {t n : Int32} (hR : g_Fx R) (h : Go G mX6_waysTo 5 0 0 17 [some (.ref 0), some (.int t), some (.int n), some (.ref 5), some (.int 0), some (.int 0), none, none, none, none, none] [] SH I R L Q) : Mt G mX6_waysTo 5 0 0 [.ref 0, .int t, .int n] SH I R L Q := by
  refine go_start rfl (Nat.le_of_ble_eq_true rfl) rfl ?_
  refine go_aload_n dX6_waysTo_0 rfl ?_
  refine go_getR dX6_waysTo_1 fX6_27 rfl rfl (hR 0 2 3 rfl) ?_
  refine go_getR dX6_waysTo_4 fX6_68 rfl rfl (hR 3 0 4 rfl) ?_
  refine go_getR dX6_waysTo_7 fX6_72 rfl rfl (hR 4 0 5 rfl) ?_
  refine go_astore_n dX6_waysTo_10 (Nat.le_of_ble_eq_true rfl) rfl ?_
  refine go_iconst (v := 0) dX6_waysTo_11 (by decide) ?_
  refine go_istore dX6_waysTo_12 (Nat.le_of_ble_eq_true rfl) rfl ?_
  refine go_iconst (v := 0) dX6_waysTo_14 (by decide) ?_
  refine go_istore dX6_waysTo_15 (Nat.le_of_ble_eq_true rfl) rfl ?_
  exact h
theorem b_X6_waysTo_17 {G : gG} {I : gI} {R : gR} {L : gL} {Q : gQ} {v1 v2 v4 v5 : Int32} (hR : g_Fx R) (h : (v2 < v5 → Q (some (.int v4)) SH I R L) ∧ (¬ v2 < v5 → Go G mX6_waysTo 5 0 0 26 [some (.ref 0), some (.int v1), some (.int v2), some (.ref 5), some (.int v4), some (.int v5), some (.int 0), none, none, none, none] [] SH I R L Q)) : Go G mX6_waysTo 5 0 0 17 [some (.ref 0), some (.int v1), some (.int v2), some (.ref 5), some (.int v4), some (.int v5), none, none, none, none, none] [] SH I R L Q := by
  refine go_iload dX6_waysTo_17 rfl ?_
  refine go_iload_n dX6_waysTo_19 rfl ?_
  refine go_icmp_gt 172 dX6_waysTo_20 (by decide) (fun c => ?_) (fun c => ?_)
  · have h := h.1 c
    refine go_iload dX6_waysTo_172 rfl ?_
    exact go_iret dX6_waysTo_174 rfl rfl h
  · have h := h.2 c
    refine go_iconst (v := 0) dX6_waysTo_23 (by decide) ?_
    refine go_istore dX6_waysTo_24 (Nat.le_of_ble_eq_true rfl) rfl ?_
    exact h
theorem b_X6_waysTo_26 {G : gG} {I : gI} {R : gR} {L : gL} {Q : gQ} {v1 v2 v4 v5 v6 : Int32} (hR : g_Fx R) (h : (v2 < (v5 + v6) → ∀ v5_2 : Int32, v5_2 = v5 + 1 → Go G mX6_waysTo 5 0 0 17 [some (.ref 0), some (.int v1), some (.int v2), some (.ref 5), some (.int v4), some (.int v5_2), none, none, none, none, none] [] SH I R L Q) ∧ (¬ v2 < (v5 + v6) → Go G mX6_waysTo 5 0 0 38 [some (.ref 0), some (.int v1), some (.int v2), some (.ref 5), some (.int v4), some (.int v5), some (.int v6), some (.int 0), none, none, none] [] SH I R L Q)) : Go G mX6_waysTo 5 0 0 26 [some (.ref 0), some (.int v1), some (.int v2), some (.ref 5), some (.int v4), some (.int v5), some (.int v6), none, none, none, none] [] SH I R L Q := by
  refine go_iload dX6_waysTo_26 rfl ?_
  refine go_iload dX6_waysTo_28 rfl ?_
  refine go_iadd dX6_waysTo_30 ?_
  refine go_iload_n dX6_waysTo_31 rfl ?_
  refine go_icmp_gt 166 dX6_waysTo_32 (by decide) (fun c => ?_) (fun c => ?_)
  · have h := h.1 c
    refine go_iinc dX6_waysTo_166 rfl (Nat.le_of_ble_eq_true rfl) rfl ?_
    have h := h _ rfl
    refine go_goto 17 dX6_waysTo_169 (by decide) ?_
    refine go_drop 6 ?_
    exact h
  · have h := h.2 c
    refine go_iconst (v := 0) dX6_waysTo_35 (by decide) ?_
    refine go_istore dX6_waysTo_36 (Nat.le_of_ble_eq_true rfl) rfl ?_
    exact h
theorem b_X6_waysTo_38 {G : gG} {I : gI} {R : gR} {L : gL} {Q : gQ} {v1 v2 v4 v5 v6 v7 : Int32} (hR : g_Fx R) (h : (v2 < ((v5 + v6) + v7) → ∀ v6_4 : Int32, v6_4 = v6 + 1 → Go G mX6_waysTo 5 0 0 26 [some (.ref 0), some (.int v1), some (.int v2), some (.ref 5), some (.int v4), some (.int v5), some (.int v6_4), none, none, none, none] [] SH I R L Q) ∧ (¬ v2 < ((v5 + v6) + v7) → ∀ v8_5 : Int32, v8_5 = (((v2 - v5) - v6) - v7) → ∀ v9_6 : Int32, v9_6 = ((if (I 5 0) < v5 then (I 5 0) else v5) + (if (I 5 1) < v6 then (I 5 1) else v6)) → ∀ v10_7 : Int32, v10_7 = ((if (I 5 2) < v7 then (I 5 2) else v7) + (if (I 5 3) < v8_5 then (I 5 3) else v8_5)) → (¬ (((I (4 + 1) 0 + I (4 + 1) 1 - I (4 + 1) 2 - I (4 + 1) 3) - v9_6) + v10_7) = v1 → ∀ v7_8 : Int32, v7_8 = v7 + 1 → Go G mX6_waysTo 5 0 0 38 [some (.ref 0), some (.int v1), some (.int v2), some (.ref 5), some (.int v4), some (.int v5), some (.int v6), some (.int v7_8), none, none, none] [] SH I R L Q) ∧ ((((I (4 + 1) 0 + I (4 + 1) 1 - I (4 + 1) 2 - I (4 + 1) 3) - v9_6) + v10_7) = v1 → ∀ v4_9 : Int32, v4_9 = (v4 + (((chI v2 v5) * (chI (v2 - v5) v6)) * (chI ((v2 - v5) - v6) v7))) → ∀ v7_10 : Int32, v7_10 = v7 + 1 → Go G mX6_waysTo 5 0 0 38 [some (.ref 0), some (.int v1), some (.int v2), some (.ref 5), some (.int v4_9), some (.int v5), some (.int v6), some (.int v7_10), none, none, none] [] SH I R L Q))) : Go G mX6_waysTo 5 0 0 38 [some (.ref 0), some (.int v1), some (.int v2), some (.ref 5), some (.int v4), some (.int v5), some (.int v6), some (.int v7), none, none, none] [] SH I R L Q := by
  refine go_iload dX6_waysTo_38 rfl ?_
  refine go_iload dX6_waysTo_40 rfl ?_
  refine go_iadd dX6_waysTo_42 ?_
  refine go_iload dX6_waysTo_43 rfl ?_
  refine go_iadd dX6_waysTo_45 ?_
  refine go_iload_n dX6_waysTo_46 rfl ?_
  refine go_icmp_gt 160 dX6_waysTo_47 (by decide) (fun c => ?_) (fun c => ?_)
  · have h := h.1 c
    refine go_iinc dX6_waysTo_160 rfl (Nat.le_of_ble_eq_true rfl) rfl ?_
    have h := h _ rfl
    refine go_goto 26 dX6_waysTo_163 (by decide) ?_
    refine go_drop 7 ?_
    exact h
  · have h := h.2 c
    refine go_iload_n dX6_waysTo_50 rfl ?_
    refine go_iload dX6_waysTo_51 rfl ?_
    refine go_isub dX6_waysTo_53 ?_
    refine go_iload dX6_waysTo_54 rfl ?_
    refine go_isub dX6_waysTo_56 ?_
    refine go_iload dX6_waysTo_57 rfl ?_
    refine go_isub dX6_waysTo_59 ?_
    refine go_istore dX6_waysTo_60 (Nat.le_of_ble_eq_true rfl) rfl ?_
    have h := h _ rfl
    refine go_iload dX6_waysTo_62 rfl ?_
    refine go_aload_n dX6_waysTo_64 rfl ?_
    refine go_iconst (v := 0) dX6_waysTo_65 (by decide) ?_
    refine go_ialdK dX6_waysTo_66 rfl (vp_in_nI (n := 0) (by decide) (by decide)) (k := 0) (by decide) ?_
    refine go_mmin dX6_waysTo_67 lX6_299 ns_min ni_J9 nc_min (Nat.le_of_ble_eq_true rfl) (Nat.le_of_ble_eq_true rfl) ?_
    refine go_iload dX6_waysTo_70 rfl ?_
    refine go_aload_n dX6_waysTo_72 rfl ?_
    refine go_iconst (v := 1) dX6_waysTo_73 (by decide) ?_
    refine go_ialdK dX6_waysTo_74 rfl (vp_in_nI (n := 1) (by decide) (by decide)) (k := 1) (by decide) ?_
    refine go_mmin dX6_waysTo_75 lX6_299 ns_min ni_J9 nc_min (Nat.le_of_ble_eq_true rfl) (Nat.le_of_ble_eq_true rfl) ?_
    refine go_iadd dX6_waysTo_78 ?_
    refine go_istore dX6_waysTo_79 (Nat.le_of_ble_eq_true rfl) rfl ?_
    have h := h _ rfl
    refine go_iload dX6_waysTo_81 rfl ?_
    refine go_aload_n dX6_waysTo_83 rfl ?_
    refine go_iconst (v := 2) dX6_waysTo_84 (by decide) ?_
    refine go_ialdK dX6_waysTo_85 rfl (vp_in_nI (n := 2) (by decide) (by decide)) (k := 2) (by decide) ?_
    refine go_mmin dX6_waysTo_86 lX6_299 ns_min ni_J9 nc_min (Nat.le_of_ble_eq_true rfl) (Nat.le_of_ble_eq_true rfl) ?_
    refine go_iload dX6_waysTo_89 rfl ?_
    refine go_aload_n dX6_waysTo_91 rfl ?_
    refine go_iconst (v := 3) dX6_waysTo_92 (by decide) ?_
    refine go_ialdK dX6_waysTo_93 rfl (vp_in_nI (n := 3) (by decide) (by decide)) (k := 3) (by decide) ?_
    refine go_mmin dX6_waysTo_94 lX6_299 ns_min ni_J9 nc_min (Nat.le_of_ble_eq_true rfl) (Nat.le_of_ble_eq_true rfl) ?_
    refine go_iadd dX6_waysTo_97 ?_
    refine go_istore dX6_waysTo_98 (Nat.le_of_ble_eq_true rfl) rfl ?_
    have h := h _ rfl
    refine go_aload_n dX6_waysTo_100 rfl ?_
    refine go_getR dX6_waysTo_101 fX6_27 rfl rfl (hR 0 2 3 rfl) ?_
    refine go_getR dX6_waysTo_104 fX6_68 rfl rfl (hR 3 0 4 rfl) ?_
    refine go_callV0 (μ := mX6_waysTo) [] dX6_waysTo_107 YX4_tilt lX6_267 rfl ⟨_, rfl, rfl⟩ rfl (Nat.le_of_ble_eq_true rfl) (Nat.le_of_ble_eq_true rfl) rfl (k_X4_tilt hR Sc_4 ?_)
    refine go_iload dX6_waysTo_110 rfl ?_
    refine go_isub dX6_waysTo_112 ?_
    refine go_iload dX6_waysTo_113 rfl ?_
    refine go_iadd dX6_waysTo_115 ?_
    refine go_iload_n dX6_waysTo_116 rfl ?_
    refine go_icmp_ne 154 dX6_waysTo_117 (by decide) (fun c => ?_) (fun c => ?_)
    · have h := h.1 c
      refine go_iinc dX6_waysTo_154 rfl (Nat.le_of_ble_eq_true rfl) rfl ?_
      have h := h _ rfl
      refine go_goto 38 dX6_waysTo_157 (by decide) ?_
      refine go_drop 8 ?_
      refine go_drop 9 ?_
      refine go_drop 10 ?_
      exact h
    · have h := h.2 c
      refine go_iload dX6_waysTo_120 rfl ?_
      refine go_iload_n dX6_waysTo_122 rfl ?_
      refine go_iload dX6_waysTo_123 rfl ?_
      refine go_callS0 (μ := mX6_waysTo) [.int _, .int _] dX6_waysTo_125 YX6_chosen lX6_302 rfl (Nat.le_of_ble_eq_true rfl) (Nat.le_of_ble_eq_true rfl) rfl (k_X6_chosen hR ?_)
      refine go_iload_n dX6_waysTo_128 rfl ?_
      refine go_iload dX6_waysTo_129 rfl ?_
      refine go_isub dX6_waysTo_131 ?_
      refine go_iload dX6_waysTo_132 rfl ?_
      refine go_callS0 (μ := mX6_waysTo) [.int _, .int _] dX6_waysTo_134 YX6_chosen lX6_302 rfl (Nat.le_of_ble_eq_true rfl) (Nat.le_of_ble_eq_true rfl) rfl (k_X6_chosen hR ?_)
      refine go_imul dX6_waysTo_137 ?_
      refine go_iload_n dX6_waysTo_138 rfl ?_
      refine go_iload dX6_waysTo_139 rfl ?_
      refine go_isub dX6_waysTo_141 ?_
      refine go_iload dX6_waysTo_142 rfl ?_
      refine go_isub dX6_waysTo_144 ?_
      refine go_iload dX6_waysTo_145 rfl ?_
      refine go_callS0 (μ := mX6_waysTo) [.int _, .int _] dX6_waysTo_147 YX6_chosen lX6_302 rfl (Nat.le_of_ble_eq_true rfl) (Nat.le_of_ble_eq_true rfl) rfl (k_X6_chosen hR ?_)
      refine go_imul dX6_waysTo_150 ?_
      refine go_iadd dX6_waysTo_151 ?_
      refine go_istore dX6_waysTo_152 (Nat.le_of_ble_eq_true rfl) rfl ?_
      have h := h _ rfl
      refine go_iinc dX6_waysTo_154 rfl (Nat.le_of_ble_eq_true rfl) rfl ?_
      have h := h _ rfl
      refine go_goto 38 dX6_waysTo_157 (by decide) ?_
      refine go_drop 8 ?_
      refine go_drop 9 ?_
      refine go_drop 10 ?_
      exact h
/-- whether the tilt is t behind so many flies in each pot -/
def cdB (x : Nat → Nat) (t : Int) (a b c d : Nat) : Bool := decide (((x 0 - a : Nat) : Int) + ((x 1 - b : Nat) : Int) - ((x 2 - c : Nat) : Int) - ((x 3 - d : Nat) : Int) = t)
def wyP (I : gI) (n : Int32) : Prop := (∀ j, j < 4 → 0 ≤ (I 5 j).toInt ∧ (I 5 j).toInt ≤ 999) ∧ 0 ≤ n.toInt ∧ n.toInt ≤ 6
def wyI (I : gI) (t n : Int32) : Int32 := nI (Tg (cdB (fun j => (I 5 j).toNatClampNeg) t.toInt) n.toNatClampNeg)
theorem nI_min {a b : Nat} (ha : a < 2 ^ 31) (hb : b < 2 ^ 31) : (if nI a < nI b then nI a else nI b : Int32) = nI (min a b) := by
  by_cases c : a < b
  · rw [if_pos (nI_lt c hb), Nat.min_eq_left (by omega)]
  · rw [if_neg (nI_nlt (by omega) ha), Nat.min_eq_right (by omega)]
theorem cd_eq {x : Nat → Nat} {a b c d : Nat} {t : Int32} (hx : ∀ j, j < 4 → x j ≤ 999) (ha : a ≤ 6) (hb : b ≤ 6) (hc : c ≤ 6) (hd : d ≤ 6) : ((nI (x 0) + nI (x 1) - nI (x 2) - nI (x 3)) - (nI (min (x 0) a) + nI (min (x 1) b))) + (nI (min (x 2) c) + nI (min (x 3) d)) = t ↔ cdB x t.toInt a b c d = true := by
  have x0 := hx 0 (by decide)
  have x1 := hx 1 (by decide)
  have x2 := hx 2 (by decide)
  have x3 := hx 3 (by decide)
  have m0 := Nat.min_le_left (x 0) a
  have m1 := Nat.min_le_left (x 1) b
  have m2 := Nat.min_le_left (x 2) c
  have m3 := Nat.min_le_left (x 3) d
  have e1 : (nI (x 0) + nI (x 1)).toInt = x 0 + x 1 := by rw [nI_add, nI_toInt (by omega)]; omega
  have e2 : (nI (x 0) + nI (x 1) - nI (x 2)).toInt = (x 0 + x 1 : Int) - x 2 := by rw [ti_sub] <;> rw [e1, nI_toInt (by omega)] <;> omega
  have e3 : (nI (x 0) + nI (x 1) - nI (x 2) - nI (x 3)).toInt = (x 0 + x 1 : Int) - x 2 - x 3 := by rw [ti_sub] <;> rw [e2, nI_toInt (by omega)] <;> omega
  have e4 : (nI (min (x 0) a) + nI (min (x 1) b)).toInt = ((min (x 0) a : Nat) : Int) + ((min (x 1) b : Nat) : Int) := by rw [nI_add, nI_toInt (by omega)]; omega
  have e5 : (nI (min (x 2) c) + nI (min (x 3) d)).toInt = ((min (x 2) c : Nat) : Int) + ((min (x 3) d : Nat) : Int) := by rw [nI_add, nI_toInt (by omega)]; omega
  have e6 : ((nI (x 0) + nI (x 1) - nI (x 2) - nI (x 3)) - (nI (min (x 0) a) + nI (min (x 1) b))).toInt = (x 0 + x 1 : Int) - x 2 - x 3 - (((min (x 0) a : Nat) : Int) + ((min (x 1) b : Nat) : Int)) := by rw [ti_sub] <;> rw [e3, e4] <;> omega
  have e7 : (((nI (x 0) + nI (x 1) - nI (x 2) - nI (x 3)) - (nI (min (x 0) a) + nI (min (x 1) b))) + (nI (min (x 2) c) + nI (min (x 3) d))).toInt = (x 0 + x 1 : Int) - x 2 - x 3 - (((min (x 0) a : Nat) : Int) + ((min (x 1) b : Nat) : Int)) + (((min (x 2) c : Nat) : Int) + ((min (x 3) d : Nat) : Int)) := by rw [ti_add] <;> rw [e6, e5] <;> omega
  rw [ti_eq, e7]
  unfold cdB
  rw [decide_eq_true_iff]
  have n0 : ((x 0 - a : Nat) : Int) = (x 0 : Int) - ((min (x 0) a : Nat) : Int) := by omega
  have n1 : ((x 1 - b : Nat) : Int) = (x 1 : Int) - ((min (x 1) b : Nat) : Int) := by omega
  have n2 : ((x 2 - c : Nat) : Int) = (x 2 : Int) - ((min (x 2) c : Nat) : Int) := by omega
  have n3 : ((x 3 - d : Nat) : Int) = (x 3 : Int) - ((min (x 3) d : Nat) : Int) := by omega
  rw [n0, n1, n2, n3]
  constructor <;> intro q <;> omega
theorem k_X6_waysTo {G : gG} {I : gI} {R : gR} {L : gL} {Q : gQ} {t n : Int32} (hR : g_Fx R) (p0 : wyP I n) (hq : Q (some (.int (wyI I t n))) SH I R L) : Mt G mX6_waysTo 5 0 0 [.ref 0, .int t, .int n] SH I R L Q := by
  obtain ⟨p1, p2, p3⟩ := p0
  unfold wyI at hq
  have cn := ci p2
  have en : n = nI n.toNatClampNeg := nI_of_toInt p2
  generalize hm : n.toNatClampNeg = m at *
  generalize hxd : (fun j => (I 5 j).toNatClampNeg) = x at *
  have hx : ∀ j, j < 4 → I 5 j = nI (x j) ∧ x j ≤ 999 := fun j hj => by
    have := p1 j hj
    have c := ci this.1
    rw [← hxd]
    exact ⟨nI_of_toInt this.1, by show (I 5 j).toNatClampNeg ≤ 999; omega⟩
  have hx' : ∀ j, j < 4 → x j ≤ 999 := fun j hj => (hx j hj).2
  generalize hFd : cdB x t.toInt = F at *
  subst en
  have hm6 : m ≤ 6 := by omega
  -- c
  have lc : ∀ (a b : Nat), a + b ≤ m → ∀ k c (s : Nat), c + k = m - a - b + 1 → Go G mX6_waysTo 5 0 0 26 [some (.ref 0), some (.int t), some (.int (nI m)), some (.ref 5), some (.int (nI (s + sumR (Tc F m a b) (m - a - b + 1)))), some (.int (nI a)), some (.int (nI (b + 1))), none, none, none, none] [] SH I R L Q → Go G mX6_waysTo 5 0 0 38 [some (.ref 0), some (.int t), some (.int (nI m)), some (.ref 5), some (.int (nI (s + sumR (Tc F m a b) c))), some (.int (nI a)), some (.int (nI b)), some (.int (nI c)), none, none, none] [] SH I R L Q := by
    intro a b hab k
    induction k with
    | zero =>
      intro c s e g
      refine b_X6_waysTo_38 hR ⟨fun _ => ?_, fun q => absurd ?_ q⟩
      · rintro _ rfl
        rw [nI_1, show c = m - a - b + 1 by omega]; exact g
      · rw [nI_add, nI_add]; exact nI_lt (by omega) (by omega)
    | succ k ih =>
      intro c s e g
      have ih' := ih (c + 1) s (by omega) g
      refine b_X6_waysTo_38 hR ⟨fun q => absurd q (by rw [nI_add, nI_add]; exact nI_nlt (by omega) (by omega)), fun _ => ?_⟩
      have s1 : nI m - nI a = nI (m - a) := nI_sub (by omega) (by omega)
      have s2 : nI m - nI a - nI b = nI (m - a - b) := by rw [s1]; exact nI_sub (by omega) (by omega)
      have s3 : nI m - nI a - nI b - nI c = nI (m - a - b - c) := by rw [s2]; exact nI_sub (by omega) (by omega)
      rintro _ rfl _ rfl _ rfl
      have h0 := (hx 0 (by decide)).1
      have h1 := (hx 1 (by decide)).1
      have h2 := (hx 2 (by decide)).1
      have h3 := (hx 3 (by decide)).1
      have b0 := hx' 0 (by decide)
      have b1 := hx' 1 (by decide)
      have b2 := hx' 2 (by decide)
      have b3 := hx' 3 (by decide)
      rw [s3, s2, s1, show I (4 + 1) 0 = I 5 0 from rfl, show I (4 + 1) 1 = I 5 1 from rfl, show I (4 + 1) 2 = I 5 2 from rfl, show I (4 + 1) 3 = I 5 3 from rfl, h0, h1, h2, h3, nI_min (by omega) (by omega), nI_min (by omega) (by omega), nI_min (by omega) (by omega), nI_min (by omega) (by omega), cd_eq hx' (by omega) (by omega) (by omega) (by omega), hFd]
      simp only [sumR] at ih'
      refine ⟨fun q => ?_, fun q => ?_⟩
      · rintro _ rfl
        have e0 : Tc F m a b c = 0 := by unfold Tc bn; rw [if_neg q, Nat.mul_zero]
        rw [e0, Nat.add_zero] at ih'
        rw [nI_1]; exact ih'
      · rintro _ rfl _ rfl
        have e0 : Tc F m a b c = chN m a * chN (m - a) b * chN (m - a - b) c := by unfold Tc bn; rw [if_pos q, Nat.mul_one]
        rw [e0, ← Nat.add_assoc] at ih'
        rw [nI_1, chI_n m (by omega) a (by omega) (by omega), chI_n (m - a) (by omega) b (by omega) (by omega), chI_n (m - a - b) (by omega) c (by omega) (by omega), nI_mul, nI_mul, nI_add]; exact ih'
  -- b
  have lb : ∀ (a : Nat), a ≤ m → ∀ k b (s : Nat), b + k = m - a + 1 → Go G mX6_waysTo 5 0 0 17 [some (.ref 0), some (.int t), some (.int (nI m)), some (.ref 5), some (.int (nI (s + sumR (Tb F m a) (m - a + 1)))), some (.int (nI (a + 1))), none, none, none, none, none] [] SH I R L Q → Go G mX6_waysTo 5 0 0 26 [some (.ref 0), some (.int t), some (.int (nI m)), some (.ref 5), some (.int (nI (s + sumR (Tb F m a) b))), some (.int (nI a)), some (.int (nI b)), none, none, none, none] [] SH I R L Q := by
    intro a ha k
    induction k with
    | zero =>
      intro b s e g
      refine b_X6_waysTo_26 hR ⟨fun _ => ?_, fun q => absurd (by rw [nI_add]; exact nI_lt (by omega) (by omega)) q⟩
      rintro _ rfl
      rw [nI_1, show b = m - a + 1 by omega]; exact g
    | succ k ih =>
      intro b s e g
      have ih' := ih (b + 1) s (by omega) g
      simp only [sumR] at ih'
      rw [← Nat.add_assoc] at ih'
      exact b_X6_waysTo_26 hR ⟨fun q => absurd q (by rw [nI_add]; exact nI_nlt (by omega) (by omega)), fun _ => lc a b (by omega) (m - a - b + 1) 0 _ (by omega) ih'⟩
  -- a
  have la : ∀ k a, a + k = m + 1 → Go G mX6_waysTo 5 0 0 17 [some (.ref 0), some (.int t), some (.int (nI m)), some (.ref 5), some (.int (nI (sumR (Ta F m) a))), some (.int (nI a)), none, none, none, none, none] [] SH I R L Q := by
    intro k
    induction k with
    | zero =>
      intro a e
      exact b_X6_waysTo_17 hR ⟨fun _ => by rw [show a = m + 1 by omega]; exact hq, fun q => absurd (nI_lt (by omega) (by omega)) q⟩
    | succ k ih =>
      intro a e
      have ih' := ih (a + 1) (by omega)
      simp only [sumR] at ih'
      exact b_X6_waysTo_17 hR ⟨fun q => absurd q (nI_nlt (by omega) (by omega)), fun _ => lb a (by omega) (m - a + 1) 0 _ (by omega) ih'⟩
  exact e_X6_waysTo hR (la (m + 1) 0 (by omega))
theorem e_X6_odds {G : gG} {I : gI} {R : gR} {L : gL} {Q : gQ} {t n b : Int32} (hR : g_Fx R) (h : (t < (-9999) → Q (some (.long (-1))) SH I R L) ∧ (¬ t < (-9999) → (9999 < t → Q (some (.long (-1))) SH I R L) ∧ (¬ 9999 < t → (n < 0 → Q (some (.long (-1))) SH I R L) ∧ (¬ n < 0 → (n ≤ 6 → wyP I n ∧ (∀ v4_2 : Int32, v4_2 = (wyI I t n) → ∀ v5_3 : Int32, v5_3 = (1 <<< ((2 * n) &&& 31)) → Go G mX6_odds 30 0 0 46 [none, none, some (.int n), some (.int b), some (.int v4_2), some (.int v5_3), some (.int 0)] [] SH I R L Q)) ∧ (¬ n ≤ 6 → Q (some (.long (-1))) SH I R L))))) : Mt G mX6_odds 30 0 0 [.ref 0, .int t, .int n, .int b] SH I R L Q := by
  refine go_start rfl (Nat.le_of_ble_eq_true rfl) rfl ?_
  refine go_iload_n dX6_odds_0 rfl ?_
  refine go_sipush (v := -9999) dX6_odds_1 (by decide) ?_
  refine go_icmp_lt 24 dX6_odds_4 (by decide) (fun c => ?_) (fun c => ?_)
  · have h := h.1 c
    refine go_ldc2 kX6_246 dX6_odds_24 ?_
    exact go_lret dX6_odds_27 rfl rfl h
  · have h := h.2 c
    refine go_iload_n dX6_odds_7 rfl ?_
    refine go_sipush (v := 9999) dX6_odds_8 (by decide) ?_
    refine go_icmp_gt 24 dX6_odds_11 (by decide) (fun c => ?_) (fun c => ?_)
    · have h := h.1 c
      refine go_ldc2 kX6_246 dX6_odds_24 ?_
      exact go_lret dX6_odds_27 rfl rfl h
    · have h := h.2 c
      refine go_iload_n dX6_odds_14 rfl ?_
      refine go_if_lt 24 dX6_odds_15 (by decide) (fun c => ?_) (fun c => ?_)
      · have h := h.1 c
        refine go_ldc2 kX6_246 dX6_odds_24 ?_
        exact go_lret dX6_odds_27 rfl rfl h
      · have h := h.2 c
        refine go_iload_n dX6_odds_18 rfl ?_
        refine go_bipush (v := 6) dX6_odds_19 (by decide) ?_
        refine go_icmp_le 28 dX6_odds_21 (by decide) (fun c => ?_) (fun c => ?_)
        · have h := h.1 c
          refine go_aload_n dX6_odds_28 rfl ?_
          refine go_iload_n dX6_odds_29 rfl ?_
          refine go_iload_n dX6_odds_30 rfl ?_
          obtain ⟨hp_1, h⟩ := h
          refine go_callV0 (μ := mX6_odds) [.int _, .int _] dX6_odds_31 YX6_waysTo lX6_248 rfl ⟨_, rfl, rfl⟩ rfl (Nat.le_of_ble_eq_true rfl) (Nat.le_of_ble_eq_true rfl) rfl (k_X6_waysTo hR hp_1 ?_)
          refine go_istore dX6_odds_34 (Nat.le_of_ble_eq_true rfl) rfl ?_
          have h := h _ rfl
          refine go_iconst (v := 1) dX6_odds_36 (by decide) ?_
          refine go_iconst (v := 2) dX6_odds_37 (by decide) ?_
          refine go_iload_n dX6_odds_38 rfl ?_
          refine go_imul dX6_odds_39 ?_
          refine go_ishl dX6_odds_40 ?_
          refine go_istore dX6_odds_41 (Nat.le_of_ble_eq_true rfl) rfl ?_
          have h := h _ rfl
          refine go_iconst (v := 0) dX6_odds_43 (by decide) ?_
          refine go_istore dX6_odds_44 (Nat.le_of_ble_eq_true rfl) rfl ?_
          refine go_drop 0 ?_
          refine go_drop 1 ?_
          exact h
        · have h := h.2 c
          refine go_ldc2 kX6_246 dX6_odds_24 ?_
          exact go_lret dX6_odds_27 rfl rfl h
theorem b_X6_odds_46 {G : gG} {I : gI} {R : gR} {L : gL} {Q : gQ} {v2 v3 v4 v5 v6 : Int32} (hR : g_Fx R) (h : ((2 * v2) ≤ v6 → (v3 = 0 → Q (some (.long (Int32.toInt64 v4))) SH I R L) ∧ (¬ v3 = 0 → Q (some (.long (Int32.toInt64 v5))) SH I R L)) ∧ (¬ (2 * v2) ≤ v6 → (¬ (v4 &&& 1) = 0 → (v3 = 0 → Q (some (.long (Int32.toInt64 v4))) SH I R L) ∧ (¬ v3 = 0 → Q (some (.long (Int32.toInt64 v5))) SH I R L)) ∧ ((v4 &&& 1) = 0 → ∀ v4_10 : Int32, v4_10 = (v4 >>> (1 &&& 31)) → ∀ v5_11 : Int32, v5_11 = (v5 >>> (1 &&& 31)) → ∀ v6_12 : Int32, v6_12 = v6 + 1 → Go G mX6_odds 30 0 0 46 [none, none, some (.int v2), some (.int v3), some (.int v4_10), some (.int v5_11), some (.int v6_12)] [] SH I R L Q))) : Go G mX6_odds 30 0 0 46 [none, none, some (.int v2), some (.int v3), some (.int v4), some (.int v5), some (.int v6)] [] SH I R L Q := by
  refine go_iload dX6_odds_46 rfl ?_
  refine go_iconst (v := 2) dX6_odds_48 (by decide) ?_
  refine go_iload_n dX6_odds_49 rfl ?_
  refine go_imul dX6_odds_50 ?_
  refine go_icmp_ge 79 dX6_odds_51 (by decide) (fun c => ?_) (fun c => ?_)
  · have h := h.1 c
    refine go_iload_n dX6_odds_79 rfl ?_
    refine go_if_eq 89 dX6_odds_80 (by decide) (fun c => ?_) (fun c => ?_)
    · have h := h.1 c
      refine go_iload dX6_odds_89 rfl ?_
      refine go_i2l dX6_odds_91 ?_
      exact go_lret dX6_odds_92 rfl rfl h
    · have h := h.2 c
      refine go_iload dX6_odds_83 rfl ?_
      refine go_i2l dX6_odds_85 ?_
      refine go_goto 92 dX6_odds_86 (by decide) ?_
      exact go_lret dX6_odds_92 rfl rfl h
  · have h := h.2 c
    refine go_iload dX6_odds_54 rfl ?_
    refine go_iconst (v := 1) dX6_odds_56 (by decide) ?_
    refine go_iand dX6_odds_57 ?_
    refine go_if_ne 79 dX6_odds_58 (by decide) (fun c => ?_) (fun c => ?_)
    · have h := h.1 c
      refine go_iload_n dX6_odds_79 rfl ?_
      refine go_if_eq 89 dX6_odds_80 (by decide) (fun c => ?_) (fun c => ?_)
      · have h := h.1 c
        refine go_iload dX6_odds_89 rfl ?_
        refine go_i2l dX6_odds_91 ?_
        exact go_lret dX6_odds_92 rfl rfl h
      · have h := h.2 c
        refine go_iload dX6_odds_83 rfl ?_
        refine go_i2l dX6_odds_85 ?_
        refine go_goto 92 dX6_odds_86 (by decide) ?_
        exact go_lret dX6_odds_92 rfl rfl h
    · have h := h.2 c
      refine go_iload dX6_odds_61 rfl ?_
      refine go_iconst (v := 1) dX6_odds_63 (by decide) ?_
      refine go_ishr dX6_odds_64 ?_
      refine go_istore dX6_odds_65 (Nat.le_of_ble_eq_true rfl) rfl ?_
      have h := h _ rfl
      refine go_iload dX6_odds_67 rfl ?_
      refine go_iconst (v := 1) dX6_odds_69 (by decide) ?_
      refine go_ishr dX6_odds_70 ?_
      refine go_istore dX6_odds_71 (Nat.le_of_ble_eq_true rfl) rfl ?_
      have h := h _ rfl
      refine go_iinc dX6_odds_73 rfl (Nat.le_of_ble_eq_true rfl) rfl ?_
      have h := h _ rfl
      refine go_goto 46 dX6_odds_76 (by decide) ?_
      exact h
theorem e_X7_odds {G : gG} {I : gI} {R : gR} {L : gL} {Q : gQ} {t n b : Int32} (hR : g_Fx R) (h : (¬ ((-9999 : Int32) ≤ t ∧ t ≤ (9999 : Int32)) → Q (some (.long (-1))) SH I R L) ∧ ((-9999 : Int32) ≤ t ∧ t ≤ (9999 : Int32) → ((0 : Int32) ≤ n ∧ n ≤ (6 : Int32) → ∀ v4_1 : Int32, v4_1 = (1 <<< ((2 * n) &&& 31)) → Go G mX7_odds 30 0 0 40 [some (.ref 310), some (.int t), some (.int n), some (.int b), some (.int v4_1), some (.int 0), some (.int 0), none, none] [] SH I R L Q) ∧ (¬ ((0 : Int32) ≤ n ∧ n ≤ (6 : Int32)) → Q (some (.long (-1))) SH I R L))) : Mt G mX7_odds 30 0 0 [.ref 310, .int t, .int n, .int b] SH I R L Q := by
  refine go_start rfl (Nat.le_of_ble_eq_true rfl) rfl ?_
  refine go_iload_n dX7_odds_0 rfl ?_
  refine go_sipush (v := -9999) dX7_odds_1 (by decide) ?_
  refine go_sipush (v := 9999) dX7_odds_4 (by decide) ?_
  refine go_callS0 (μ := mX7_odds) [.int _, .int _, .int _] dX7_odds_7 YX7_in lX7_110 rfl (Nat.le_of_ble_eq_true rfl) (Nat.le_of_ble_eq_true rfl) rfl (k_X7_in hR ?_)
  refine go_if_eq 23 dX7_odds_10 (by decide) (fun c => ?_) (fun c => ?_)
  · have h := h.1 (b0.mp c)
    refine go_ldc2 kX7_397 dX7_odds_23 ?_
    exact go_lret dX7_odds_26 rfl rfl h
  · have h := h.2 (b1.mp c)
    refine go_iload_n dX7_odds_13 rfl ?_
    refine go_iconst (v := 0) dX7_odds_14 (by decide) ?_
    refine go_bipush (v := 6) dX7_odds_15 (by decide) ?_
    refine go_callS0 (μ := mX7_odds) [.int _, .int _, .int _] dX7_odds_17 YX7_in lX7_110 rfl (Nat.le_of_ble_eq_true rfl) (Nat.le_of_ble_eq_true rfl) rfl (k_X7_in hR ?_)
    refine go_if_ne 27 dX7_odds_20 (by decide) (fun c => ?_) (fun c => ?_)
    · have h := h.1 (b1.mp c)
      refine go_iconst (v := 1) dX7_odds_27 (by decide) ?_
      refine go_iconst (v := 2) dX7_odds_28 (by decide) ?_
      refine go_iload_n dX7_odds_29 rfl ?_
      refine go_imul dX7_odds_30 ?_
      refine go_ishl dX7_odds_31 ?_
      refine go_istore dX7_odds_32 (Nat.le_of_ble_eq_true rfl) rfl ?_
      have h := h _ rfl
      refine go_iconst (v := 0) dX7_odds_34 (by decide) ?_
      refine go_istore dX7_odds_35 (Nat.le_of_ble_eq_true rfl) rfl ?_
      refine go_iconst (v := 0) dX7_odds_37 (by decide) ?_
      refine go_istore dX7_odds_38 (Nat.le_of_ble_eq_true rfl) rfl ?_
      exact h
    · have h := h.2 (b0.mp c)
      refine go_ldc2 kX7_397 dX7_odds_23 ?_
      exact go_lret dX7_odds_26 rfl rfl h
theorem b_X7_odds_40 {G : gG} {I : gI} {R : gR} {L : gL} {Q : gQ} {v1 v2 v3 v4 v5 v6 : Int32} (hR : g_Fx R) (h : (v4 ≤ v6 → (0 ≤ (Int32.toInt64 v4).toInt ∧ 0 ≤ (Int32.toInt64 v5).toInt) ∧ (∀ v6_5 : Int64, v6_5 = (lN (Nat.gcd (Int32.toInt64 v4).toInt.toNat (Int32.toInt64 v5).toInt.toNat)) → (v3 = 0 → ¬ v6_5 = 0 ∧ (Q (some (.long ((Int32.toInt64 v5) / v6_5))) SH I R L)) ∧ (¬ v3 = 0 → ¬ v6_5 = 0 ∧ (Q (some (.long ((Int32.toInt64 v4) / v6_5))) SH I R L)))) ∧ (¬ v4 ≤ v6 → ∀ I_7 : gI, I_7 = layI I → Go G mX7_odds 30 0 0 54 [some (.ref 310), some (.int v1), some (.int v2), some (.int v3), some (.int v4), some (.int v5), some (.int v6), some (.int 0), none] [] SH I_7 R L Q)) : Go G mX7_odds 30 0 0 40 [some (.ref 310), some (.int v1), some (.int v2), some (.int v3), some (.int v4), some (.int v5), some (.int v6), none, none] [] SH I R L Q := by
  refine go_iload dX7_odds_40 rfl ?_
  refine go_iload dX7_odds_42 rfl ?_
  refine go_icmp_ge 126 dX7_odds_44 (by decide) (fun c => ?_) (fun c => ?_)
  · have h := h.1 c
    refine go_iload dX7_odds_126 rfl ?_
    refine go_i2l dX7_odds_128 ?_
    refine go_iload dX7_odds_129 rfl ?_
    refine go_i2l dX7_odds_131 ?_
    obtain ⟨hp_4, h⟩ := h
    refine go_callS0 (μ := mX7_odds) [.long _, .long _] dX7_odds_132 YX7_common lX7_399 rfl (Nat.le_of_ble_eq_true rfl) (Nat.le_of_ble_eq_true rfl) rfl (k_X7_common hR hp_4 ?_)
    refine go_lstore dX7_odds_135 (Nat.le_of_ble_eq_true rfl) rfl ?_
    have h := h _ rfl
    refine go_iload_n dX7_odds_137 rfl ?_
    refine go_if_eq 150 dX7_odds_138 (by decide) (fun c => ?_) (fun c => ?_)
    · have h := h.1 c
      refine go_iload dX7_odds_150 rfl ?_
      refine go_i2l dX7_odds_152 ?_
      refine go_lload dX7_odds_153 rfl ?_
      obtain ⟨hn, h⟩ := h
      refine go_ldiv dX7_odds_155 hn ?_
      exact go_lret dX7_odds_156 rfl rfl h
    · have h := h.2 c
      refine go_iload dX7_odds_141 rfl ?_
      refine go_i2l dX7_odds_143 ?_
      refine go_lload dX7_odds_144 rfl ?_
      obtain ⟨hn, h⟩ := h
      refine go_ldiv dX7_odds_146 hn ?_
      refine go_goto 156 dX7_odds_147 (by decide) ?_
      exact go_lret dX7_odds_156 rfl rfl h
  · have h := h.2 c
    refine go_aload_n dX7_odds_47 rfl ?_
    refine go_callV0 (μ := mX7_odds) [] dX7_odds_48 YX7_laysWorld lX7_349 rfl ⟨_, rfl, rfl⟩ rfl (Nat.le_of_ble_eq_true rfl) (Nat.le_of_ble_eq_true rfl) rfl (k_X7_laysWorld hR ?_)
    have h := h _ rfl
    refine go_iconst (v := 0) dX7_odds_51 (by decide) ?_
    refine go_istore dX7_odds_52 (Nat.le_of_ble_eq_true rfl) rfl ?_
    exact h
theorem b_X7_odds_54 {G : gG} {I : gI} {R : gR} {L : gL} {Q : gQ} {v1 v2 v3 v4 v5 v6 v7 : Int32} (hR : g_Fx R) (h : (v2 ≤ v7 → (¬ I 333 0 + I 333 1 - I 333 2 - I 333 3 = v1 → ∀ v5_9 : Int32, v5_9 = (v5 + 0) → ∀ v6_10 : Int32, v6_10 = v6 + 1 → Go G mX7_odds 30 0 0 40 [some (.ref 310), some (.int v1), some (.int v2), some (.int v3), some (.int v4), some (.int v5_9), some (.int v6_10), none, none] [] SH I R L Q) ∧ (I 333 0 + I 333 1 - I 333 2 - I 333 3 = v1 → ∀ v5_11 : Int32, v5_11 = (v5 + 1) → ∀ v6_12 : Int32, v6_12 = v6 + 1 → Go G mX7_odds 30 0 0 40 [some (.ref 310), some (.int v1), some (.int v2), some (.int v3), some (.int v4), some (.int v5_11), some (.int v6_12), none, none] [] SH I R L Q)) ∧ (¬ v2 ≤ v7 → ∀ v8_14 : Int32, v8_14 = ((v6 >>> ((2 * v7) &&& 31)) &&& 3) → vp_in v8_14 4 ∧ (vp_in v8_14 4 ∧ (((I 333 v8_14.toNatClampNeg) ≤ 0 → vp_in v8_14 4 ∧ (∀ I_15 : gI, I_15 = up I 333 v8_14.toNatClampNeg ((I 333 v8_14.toNatClampNeg) - 0) → ∀ v7_16 : Int32, v7_16 = v7 + 1 → Go G mX7_odds 30 0 0 54 [some (.ref 310), some (.int v1), some (.int v2), some (.int v3), some (.int v4), some (.int v5), some (.int v6), some (.int v7_16), none] [] SH I_15 R L Q)) ∧ (¬ (I 333 v8_14.toNatClampNeg) ≤ 0 → vp_in v8_14 4 ∧ (∀ I_17 : gI, I_17 = up I 333 v8_14.toNatClampNeg ((I 333 v8_14.toNatClampNeg) - 1) → ∀ v7_18 : Int32, v7_18 = v7 + 1 → Go G mX7_odds 30 0 0 54 [some (.ref 310), some (.int v1), some (.int v2), some (.int v3), some (.int v4), some (.int v5), some (.int v6), some (.int v7_18), none] [] SH I_17 R L Q)))))) : Go G mX7_odds 30 0 0 54 [some (.ref 310), some (.int v1), some (.int v2), some (.int v3), some (.int v4), some (.int v5), some (.int v6), some (.int v7), none] [] SH I R L Q := by
  refine go_iload dX7_odds_54 rfl ?_
  refine go_iload_n dX7_odds_56 rfl ?_
  refine go_icmp_ge 102 dX7_odds_57 (by decide) (fun c => ?_) (fun c => ?_)
  · have h := h.1 c
    refine go_iload dX7_odds_102 rfl ?_
    refine go_aload_n dX7_odds_104 rfl ?_
    refine go_callV0 (μ := mX7_odds) [] dX7_odds_105 YX7_tilt lX7_340 rfl ⟨_, rfl, rfl⟩ rfl (Nat.le_of_ble_eq_true rfl) (Nat.le_of_ble_eq_true rfl) rfl (k_X7_tilt hR ?_)
    refine go_iload_n dX7_odds_108 rfl ?_
    refine go_icmp_ne 116 dX7_odds_109 (by decide) (fun c => ?_) (fun c => ?_)
    · have h := h.1 c
      refine go_iconst (v := 0) dX7_odds_116 (by decide) ?_
      refine go_iadd dX7_odds_117 ?_
      refine go_istore dX7_odds_118 (Nat.le_of_ble_eq_true rfl) rfl ?_
      have h := h _ rfl
      refine go_iinc dX7_odds_120 rfl (Nat.le_of_ble_eq_true rfl) rfl ?_
      have h := h _ rfl
      refine go_goto 40 dX7_odds_123 (by decide) ?_
      refine go_drop 7 ?_
      exact h
    · have h := h.2 c
      refine go_iconst (v := 1) dX7_odds_112 (by decide) ?_
      refine go_goto 117 dX7_odds_113 (by decide) ?_
      refine go_iadd dX7_odds_117 ?_
      refine go_istore dX7_odds_118 (Nat.le_of_ble_eq_true rfl) rfl ?_
      have h := h _ rfl
      refine go_iinc dX7_odds_120 rfl (Nat.le_of_ble_eq_true rfl) rfl ?_
      have h := h _ rfl
      refine go_goto 40 dX7_odds_123 (by decide) ?_
      refine go_drop 7 ?_
      exact h
  · have h := h.2 c
    refine go_iload dX7_odds_60 rfl ?_
    refine go_iconst (v := 2) dX7_odds_62 (by decide) ?_
    refine go_iload dX7_odds_63 rfl ?_
    refine go_imul dX7_odds_65 ?_
    refine go_ishr dX7_odds_66 ?_
    refine go_iconst (v := 3) dX7_odds_67 (by decide) ?_
    refine go_iand dX7_odds_68 ?_
    refine go_istore dX7_odds_69 (Nat.le_of_ble_eq_true rfl) rfl ?_
    have h := h _ rfl
    refine go_aload_n dX7_odds_71 rfl ?_
    refine go_getR dX7_odds_72 fX7_85 rfl rfl (hR 310 39 333 rfl) ?_
    refine go_iload dX7_odds_75 rfl ?_
    refine go_dup2 dX7_odds_77 rfl rfl ?_
    obtain ⟨hi, h⟩ := h
    refine go_iald dX7_odds_78 rfl hi ?_
    refine go_aload_n dX7_odds_79 rfl ?_
    refine go_getR dX7_odds_80 fX7_85 rfl rfl (hR 310 39 333 rfl) ?_
    refine go_iload dX7_odds_83 rfl ?_
    obtain ⟨hi, h⟩ := h
    refine go_iald dX7_odds_85 rfl hi ?_
    refine go_if_le 93 dX7_odds_86 (by decide) (fun c => ?_) (fun c => ?_)
    · have h := h.1 c
      refine go_iconst (v := 0) dX7_odds_93 (by decide) ?_
      refine go_isub dX7_odds_94 ?_
      obtain ⟨hi, h⟩ := h
      refine go_iast dX7_odds_95 rfl hi ?_
      have h := h _ rfl
      refine go_iinc dX7_odds_96 rfl (Nat.le_of_ble_eq_true rfl) rfl ?_
      have h := h _ rfl
      refine go_goto 54 dX7_odds_99 (by decide) ?_
      refine go_drop 8 ?_
      exact h
    · have h := h.2 c
      refine go_iconst (v := 1) dX7_odds_89 (by decide) ?_
      refine go_goto 94 dX7_odds_90 (by decide) ?_
      refine go_isub dX7_odds_94 ?_
      obtain ⟨hi, h⟩ := h
      refine go_iast dX7_odds_95 rfl hi ?_
      have h := h _ rfl
      refine go_iinc dX7_odds_96 rfl (Nat.le_of_ble_eq_true rfl) rfl ?_
      have h := h _ rfl
      refine go_goto 54 dX7_odds_99 (by decide) ?_
      refine go_drop 8 ?_
      exact h
theorem nI_64 {a : Nat} (h : a < 2 ^ 31) : Int32.toInt64 (nI a) = lN a := nI_l h
theorem lN_div {a b : Nat} (ha : a < 2 ^ 31) (hb : b < 2 ^ 31) : lN a / lN b = lN (a / b) := by
  have h2 : a / b ≤ a := Nat.div_le_self _ _
  rw [tl_eq, tl_div (fun q => by have := congrArg Int64.toInt q; rw [lN_toInt hb] at this; exact absurd this (by show ¬ ((b : Int) = -1); omega)), lN_toInt ha, lN_toInt hb, lN_toInt (by omega)]
  rfl
theorem sumR_le {g : Nat → Nat} (h : ∀ i, g i ≤ 1) : ∀ n, sumR g n ≤ n
  | 0 => Nat.le_refl _
  | n + 1 => by have := sumR_le h n; have := h n; simp only [sumR]; omega
theorem bn_le (b : Bool) : bn b ≤ 1 := by unfold bn; split <;> omega
theorem p_odds {G : gG} {I : gI} {R : gR} {L : gL} {Q : gQ} {t n b : Int32} (h : Rel I R) (hq : ∀ v I1 R1 L1, prom G mX7_odds [.ref 310, .int t, .int n, .int b] (some (.long v)) I1 R1 L1 → Q (some (.long v)) SH I1 R1 L1) : Mt G mX6_odds 30 0 0 [.ref 0, .int t, .int n, .int b] SH I R L Q := by
  have hF := h.1.1
  obtain ⟨co, sc, oh, ok⟩ := R_co h
  have z0 : (0 : Int32).toInt = 0 := rfl
  have z6 : (6 : Int32).toInt = 6 := rfl
  have l1 : ∀ x y : Int32, ¬ x < y ↔ y ≤ x := fun x y => li_nlt
  have bad : ¬ (((-9999 : Int32) ≤ t ∧ t ≤ (9999 : Int32)) ∧ ((0 : Int32) ≤ n ∧ n ≤ (6 : Int32))) → Q (some (.long (-1))) SH I R L := fun c => hq _ _ _ _ (fun Q2 h2 => e_X7_odds hF ⟨fun _ => h2 _ _ _ h, fun q1 => ⟨fun q2 => absurd ⟨q1, q2⟩ c, fun _ => h2 _ _ _ h⟩⟩)
  refine e_X6_odds hF ⟨fun d => bad (fun q => (l1 _ _).mpr q.1.1 d), fun d1 => ⟨fun d => bad (fun q => (l1 _ _).mpr q.1.2 d), fun d2 => ⟨fun d => bad (fun q => (l1 _ _).mpr q.2.1 d), fun d3 => ⟨fun d4 => ?_, fun d => bad (fun q => d q.2.2)⟩⟩⟩⟩
  have d1' := (l1 _ _).mp d1
  have d2' := (l1 _ _).mp d2
  have d3' := (l1 _ _).mp d3
  have n0 := d3'
  have n6 := d4
  rw [ti_le, z0] at n0
  rw [ti_le, z6] at n6
  have pots : ∀ j, j < 4 → 0 ≤ (I 5 j).toInt ∧ (I 5 j).toInt ≤ 999 := fun j hj => by
    have e : I 5 j = row (I 311) 110 j := sc.1 j hj
    rw [e]; exact ok.1 j hj
  refine ⟨⟨pots, n0, n6⟩, ?_⟩
  unfold wyI
  have cn := ci n0
  have en : n = nI n.toNatClampNeg := nI_of_toInt n0
  generalize hm : n.toNatClampNeg = m at *
  generalize hxd : (fun j => (I 5 j).toNatClampNeg) = x at *
  have hx : ∀ j, j < 4 → I 5 j = nI (x j) ∧ x j ≤ 999 := fun j hj => by
    have := pots j hj
    have c := ci this.1
    rw [← hxd]
    exact ⟨nI_of_toInt this.1, by show (I 5 j).toNatClampNeg ≤ 999; omega⟩
  generalize hFd : cdB x t.toInt = F at *
  have hm6 : m ≤ 6 := by omega
  have p4 : 4 ^ m ≤ 4096 := Nat.pow_le_pow_right (n := 4) (by decide) hm6
  have p22 : 2 ^ (2 * m) = 4 ^ m := by rw [Nat.pow_mul]
  have e2m : 2 * n = nI (2 * m) := by rw [en, show (2 : Int32) = nI 2 from rfl, nI_mul]
  have esh : (1 : Int32) <<< (2 * n &&& 31) = nI (4 ^ m) := by rw [e2m, nI_shl1 _ (by omega), p22]
  rw [Tg_S m hm6]
  have hW : Sg F m ≤ 4 ^ m := sumR_le (fun i => bn_le _) _
  generalize hWd : Sg F m = W at *
  rw [esh]
  rintro _ rfl _ rfl
  have gpos : 0 < Nat.gcd (4 ^ m) W := Nat.gcd_pos_of_pos_left _ (Nat.pow_pos (by decide))
  have fin : (b = 0 → Q (some (.long (lN (W / Nat.gcd (4 ^ m) W)))) SH I R L) ∧ (¬ b = 0 → Q (some (.long (lN (4 ^ m / Nat.gcd (4 ^ m) W)))) SH I R L) := by
    have key : ∀ v : Int64, (b = 0 → v = lN (W / Nat.gcd (4 ^ m) W)) → (¬ b = 0 → v = lN (4 ^ m / Nat.gcd (4 ^ m) W)) → Q (some (.long v)) SH I R L := by
      intro v v0 v1
      refine hq _ _ _ _ (fun Q2 h2 => e_X7_odds hF ⟨fun q => absurd ⟨d1', d2'⟩ q, fun _ => ⟨fun _ => ?_, fun q => absurd ⟨d3', d4⟩ q⟩⟩)
      rw [esh]
      rintro _ rfl
      generalize hgd : (fun w => bn (F (cnD w 0 m) (cnD w 1 m) (cnD w 2 m) (cnD w 3 m))) = g
      have eS : sumR g (4 ^ m) = W := by rw [← hgd]; exact hWd
      have inner : ∀ w, w < 4 ^ m → ∀ k i (K : gI), i + k = m → mo I K → (∀ p, p < 4 → K 333 p = nI (x p - cnD w p i)) → (∀ K', mo I K' → Go G mX7_odds 30 0 0 40 [some (.ref 310), some (.int t), some (.int n), some (.int b), some (.int (nI (4 ^ m))), some (.int (nI (sumR g w + g w))), some (.int (nI (w + 1))), none, none] [] SH K' R L Q2) → Go G mX7_odds 30 0 0 54 [some (.ref 310), some (.int t), some (.int n), some (.int b), some (.int (nI (4 ^ m))), some (.int (nI (sumR g w))), some (.int (nI w)), some (.int (nI i)), none] [] SH K R L Q2 := by
        intro w hw k
        induction k with
        | zero =>
          intro i K e kx kp nx
          have hi : i = m := by omega
          subst hi
          have q := nx K kx
          have c0 := cnD_le w 0 i
          have c1 := cnD_le w 1 i
          have c2 := cnD_le w 2 i
          have c3 := cnD_le w 3 i
          have b0 := (hx 0 (by decide)).2
          have b1 := (hx 1 (by decide)).2
          have b2 := (hx 2 (by decide)).2
          have b3 := (hx 3 (by decide)).2
          have e1 : (nI (x 0 - cnD w 0 i) + nI (x 1 - cnD w 1 i)).toInt = ((x 0 - cnD w 0 i : Nat) : Int) + ((x 1 - cnD w 1 i : Nat) : Int) := by rw [nI_add, nI_toInt (by omega)]; omega
          have e2 : (nI (x 0 - cnD w 0 i) + nI (x 1 - cnD w 1 i) - nI (x 2 - cnD w 2 i)).toInt = ((x 0 - cnD w 0 i : Nat) : Int) + ((x 1 - cnD w 1 i : Nat) : Int) - ((x 2 - cnD w 2 i : Nat) : Int) := by rw [ti_sub] <;> rw [e1, nI_toInt (by omega)] <;> omega
          have e3 : (nI (x 0 - cnD w 0 i) + nI (x 1 - cnD w 1 i) - nI (x 2 - cnD w 2 i) - nI (x 3 - cnD w 3 i)).toInt = ((x 0 - cnD w 0 i : Nat) : Int) + ((x 1 - cnD w 1 i : Nat) : Int) - ((x 2 - cnD w 2 i : Nat) : Int) - ((x 3 - cnD w 3 i : Nat) : Int) := by rw [ti_sub] <;> rw [e2, nI_toInt (by omega)] <;> omega
          have ec : nI (x 0 - cnD w 0 i) + nI (x 1 - cnD w 1 i) - nI (x 2 - cnD w 2 i) - nI (x 3 - cnD w 3 i) = t ↔ F (cnD w 0 i) (cnD w 1 i) (cnD w 2 i) (cnD w 3 i) = true := by
            rw [ti_eq, e3, ← hFd]; unfold cdB; rw [decide_eq_true_iff]
          have eg : g w = bn (F (cnD w 0 i) (cnD w 1 i) (cnD w 2 i) (cnD w 3 i)) := by rw [← hgd]
          refine b_X7_odds_54 hF ⟨fun _ => ?_, fun c => absurd (by rw [en]; exact ti_le.mpr (Int.le_refl _)) c⟩
          rw [kp 0 (by decide), kp 1 (by decide), kp 2 (by decide), kp 3 (by decide), ec]
          refine ⟨fun c => ?_, fun c => ?_⟩
          · rintro _ rfl _ rfl
            rw [show g w = 0 by rw [eg]; unfold bn; rw [if_neg c], Nat.add_zero] at q
            rw [nI_1, Int32.add_zero]; exact q
          · rintro _ rfl _ rfl
            rw [show g w = 1 by rw [eg]; unfold bn; rw [if_pos c]] at q
            rw [nI_1, nI_1]; exact q
        | succ k ih =>
          intro i K e kx kp nx
          have hdg : w / 4 ^ i % 4 < 4 := Nat.mod_lt _ (by decide)
          have ed : (nI w >>> ((2 * nI i) &&& 31)) &&& 3 = nI (w / 4 ^ i % 4) := by
            rw [show (2 : Int32) * nI i = nI (2 * i) from by rw [show (2 : Int32) = nI 2 from rfl, nI_mul], nI_shr (by omega) (by omega), nI_and3, Nat.pow_mul]
          refine b_X7_odds_54 hF ⟨fun c => absurd c (by rw [en]; exact nI_ge (by omega) (by omega)), fun _ => ?_⟩
          rintro _ rfl
          rw [ed, nI_clamp (by omega)]
          have hv := vp_in_nI hdg (show 4 < 2 ^ 31 by decide)
          have bx := (hx _ hdg).2
          have nk : ∀ v, v = nI (x (w / 4 ^ i % 4) - (cnD w (w / 4 ^ i % 4) i + 1)) → Go G mX7_odds 30 0 0 54 [some (.ref 310), some (.int t), some (.int n), some (.int b), some (.int (nI (4 ^ m))), some (.int (nI (sumR g w))), some (.int (nI w)), some (.int (nI (i + 1))), none] [] SH (up K 333 (w / 4 ^ i % 4) v) R L Q2 := fun v hv => by
            refine ih (i + 1) _ (by omega) ⟨fun a a1 a2 a3 a4 => by rw [up_off _ a2, kx.1 a a1 a2 a3 a4], fun j hj => by rw [up_nc (by decide), kx.2 j hj]⟩ (fun p hp => ?_) nx
            simp only [cnD]
            by_cases c : p = w / 4 ^ i % 4
            · rw [c, up_eq, if_pos rfl, hv]
            · rw [up_ni c, if_neg (fun q => c q.symm), Nat.add_zero]; exact kp p hp
          rw [kp _ hdg]
          have q0 : nI (x (w / 4 ^ i % 4) - cnD w (w / 4 ^ i % 4) i) ≤ 0 ↔ x (w / 4 ^ i % 4) - cnD w (w / 4 ^ i % 4) i = 0 := by rw [show (0 : Int32) = nI 0 from rfl, nI_leI (by omega) (by decide)]; omega
          rw [q0]
          refine ⟨hv, hv, fun c => ⟨hv, ?_⟩, fun c => ⟨hv, ?_⟩⟩
          · rintro _ rfl _ rfl
            rw [nI_1]
            refine nk _ ?_
            rw [Int32.sub_zero, show x (w / 4 ^ i % 4) - (cnD w (w / 4 ^ i % 4) i + 1) = x (w / 4 ^ i % 4) - cnD w (w / 4 ^ i % 4) i by omega]
          · rintro _ rfl _ rfl
            rw [nI_1]
            refine nk _ ?_
            rw [show (1 : Int32) = nI 1 from rfl, nI_sub (by omega) (by omega)]
            congr 1
      have gb : ∀ i, g i ≤ 1 := fun i => by rw [← hgd]; exact bn_le _
      have outer : ∀ k w (K : gI), w + k = 4 ^ m → mo I K → Go G mX7_odds 30 0 0 40 [some (.ref 310), some (.int t), some (.int n), some (.int b), some (.int (nI (4 ^ m))), some (.int (nI (sumR g w))), some (.int (nI w)), none, none] [] SH K R L Q2 := by
        intro k
        induction k with
        | zero =>
          intro w K e kx
          have hw : w = 4 ^ m := by omega
          subst hw
          rw [eS]
          have gl : Nat.gcd (4 ^ m) W ≤ 4 ^ m := Nat.gcd_le_left _ (Nat.pow_pos (by decide))
          have ne : ¬ lN (Nat.gcd (4 ^ m) W) = 0 := fun q => by
            have := congrArg Int64.toInt q
            rw [lN_toInt (by omega)] at this
            have z : (0 : Int64).toInt = 0 := rfl
            omega
          refine b_X7_odds_40 hF ⟨fun _ => ?_, fun c => absurd (ti_le.mpr (Int.le_refl _)) c⟩
          rw [nI_64 (by omega), nI_64 (by omega), lN_toInt (by omega), lN_toInt (by omega)]
          refine ⟨⟨by omega, by omega⟩, ?_⟩
          rw [show ((4 ^ m : Nat) : Int).toNat = 4 ^ m from rfl, show ((W : Nat) : Int).toNat = W from rfl]
          rintro _ rfl
          refine ⟨fun c => ⟨ne, ?_⟩, fun c => ⟨ne, ?_⟩⟩
          · rw [lN_div (by omega) (by omega), ← v0 c]; exact h2 _ _ _ (mo_Rel h kx)
          · rw [lN_div (by omega) (by omega), ← v1 c]; exact h2 _ _ _ (mo_Rel h kx)
        | succ k ih =>
          intro w K e kx
          refine b_X7_odds_40 hF ⟨fun c => absurd c (nI_ge (by omega) (by omega)), fun _ => ?_⟩
          rintro _ rfl
          refine inner w (by omega) m 0 (layI K) (by omega) (mo_tr kx (mo_lay K)) (fun p hp => ?_) (fun K' kx' => ?_)
          · show layI K 333 p = _
            unfold layI
            rw [up_nc (by decide), cpy_off (by decide), cpy_at, if_pos (by omega), kx.1 311 (by decide) (by decide) (by decide) (by decide)]
            show I 311 (110 + p) = nI (x p - 0)
            rw [Nat.sub_zero, ← (hx p hp).1]
            exact (sc.1 p hp).symm
          · exact ih (w + 1) K' (by omega) kx'
      exact outer (4 ^ m) 0 I (by omega) (mo_rfl I)
    exact ⟨fun c => key _ (fun _ => rfl) (fun c' => absurd c c'), fun c => key _ (fun c' => absurd c' c) (fun _ => rfl)⟩
  have hvg := hv_gcd (2 * m) W
  rw [p22] at hvg
  have loop : ∀ k i w A, i + k = 2 * m → w ≤ 4096 → A ≤ 4096 → hv k w A = (W / Nat.gcd (4 ^ m) W, 4 ^ m / Nat.gcd (4 ^ m) W) → Go G mX6_odds 30 0 0 46 [none, none, some (.int n), some (.int b), some (.int (nI w)), some (.int (nI A)), some (.int (nI i))] [] SH I R L Q := by
    intro k
    induction k with
    | zero =>
      intro i w A e hw hA g
      simp only [hv, Prod.mk.injEq] at g
      refine b_X6_odds_46 hF ⟨fun _ => ?_, fun c => absurd (by rw [e2m, show i = 2 * m by omega]; exact ti_le.mpr (Int.le_refl _)) c⟩
      rw [nI_64 (by omega), nI_64 (by omega), g.1, g.2]; exact fin
    | succ k ih =>
      intro i w A e hw hA g
      simp only [hv] at g
      have ev : nI w &&& 1 = 0 ↔ w % 2 = 0 := by rw [nI_and1, show (0 : Int32) = nI 0 from rfl, nI_eq (by omega) (by decide)]
      refine b_X6_odds_46 hF ⟨fun c => absurd c (by rw [e2m]; exact nI_ge (by omega) (by omega)), fun _ => ?_⟩
      rw [ev]
      refine ⟨fun c => ?_, fun c => ?_⟩
      · rw [if_neg c] at g
        simp only [Prod.mk.injEq] at g
        rw [nI_64 (by omega), nI_64 (by omega), g.1, g.2]; exact fin
      · rw [if_pos c] at g
        rintro _ rfl _ rfl _ rfl
        rw [show nI w >>> ((1 : Int32) &&& 31) = nI (w / 2) from nI_shr (e := 1) (by omega) (by decide), show nI A >>> ((1 : Int32) &&& 31) = nI (A / 2) from nI_shr (e := 1) (by omega) (by decide), nI_1]
        exact ih (i + 1) _ _ (by omega) (by omega) (by omega) g
  exact loop (2 * m) 0 W (4 ^ m) (by omega) (by omega) p4 hvg
