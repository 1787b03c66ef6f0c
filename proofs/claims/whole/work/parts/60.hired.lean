/-! sums over a set -/
def psm (g : Nat → Int32) (a : Int32) : Nat → Int32
  | 0 => 0
  | e + 1 => if (a >>> (nI e &&& 31)) &&& 1 = 1 then psm g a e + g e else psm g a e
def sm (w : Nat → Nat) (k : Nat) : Nat → Nat
  | 0 => 0
  | e + 1 => if k.testBit e = true then sm w k e + w e else sm w k e
theorem sm_le {w : Nat → Nat} {k M n : Nat} (h : ∀ e, e < n → w e ≤ M) : ∀ e, e ≤ n → sm w k e ≤ M * e
  | 0, _ => Nat.zero_le _
  | e + 1, he => by
    have := sm_le (w := w) (k := k) h e (by omega)
    have := h e (by omega)
    have h2 : M * (e + 1) = M * e + M := Nat.mul_succ M e
    simp only [sm]; split <;> omega
theorem psm_sm {g : Nat → Int32} {w : Nat → Nat} {k : Nat} (hk : k < 2 ^ 31) : ∀ e, e ≤ 9 → (∀ i, i < e → k.testBit i = true → g i = nI (w i)) → psm g (nI k) e = nI (sm w k e)
  | 0, _, _ => rfl
  | e + 1, he, h => by
    have ih := psm_sm (g := g) (w := w) hk e (by omega) (fun i hi => h i (by omega))
    simp only [psm, sm]
    by_cases c : k.testBit e = true
    · rw [if_pos ((tb_iff hk (by omega)).mpr c), if_pos c, ih, h e (by omega) c]; exact nI_add _ _
    · rw [if_neg (fun q => c ((tb_iff hk (by omega)).mp q)), if_neg c, ih]
/-- bits beyond -/
theorem sm_far {w : Nat → Nat} {k N : Nat} (hk : k < 2 ^ N) : ∀ e, N ≤ e → sm w k e = sm w k N
  | 0, h => by rw [show N = 0 by omega]
  | e + 1, h => by
    by_cases c : N = e + 1
    · rw [c]
    · simp only [sm]
      rw [if_neg (by rw [Nat.testBit_lt_two_pow (Nat.lt_of_lt_of_le hk (Nat.pow_le_pow_right (n := 2) (by decide) (by omega)))]; decide)]
      exact sm_far hk e (by omega)
theorem bc_sm : ∀ k, k < 512 → bcI (nI k) = nI (sm (fun _ => 1) k 9) := by decide +kernel
theorem e_X6_priceOf {G : gG} {I : gI} {R : gR} {L : gL} {Q : gQ} {a : Int32} (hR : g_Fx R) (h : Go G mX6_priceOf 1 0 0 4 [some (.ref 0), some (.int a), some (.int 0), some (.int 0)] [] SH I R L Q) : Mt G mX6_priceOf 1 0 0 [.ref 0, .int a] SH I R L Q := by
  refine go_start rfl (Nat.le_of_ble_eq_true rfl) rfl ?_
  refine go_iconst (v := 0) dX6_priceOf_0 (by decide) ?_
  refine go_istore_n dX6_priceOf_1 (Nat.le_of_ble_eq_true rfl) rfl ?_
  refine go_iconst (v := 0) dX6_priceOf_2 (by decide) ?_
  refine go_istore_n dX6_priceOf_3 (Nat.le_of_ble_eq_true rfl) rfl ?_
  exact h
theorem b_X6_priceOf_4 {G : gG} {I : gI} {R : gR} {L : gL} {Q : gQ} {v1 v2 v3 : Int32} (hR : g_Fx R) (h : (9 ≤ v3 → Q (some (.int v2)) SH I R L) ∧ (¬ 9 ≤ v3 → (¬ ((v1 >>> (v3 &&& 31)) &&& 1) = 1 → ∀ v2_1 : Int32, v2_1 = (v2 + 0) → ∀ v3_2 : Int32, v3_2 = v3 + 1 → Go G mX6_priceOf 1 0 0 4 [some (.ref 0), some (.int v1), some (.int v2_1), some (.int v3_2)] [] SH I R L Q) ∧ (((v1 >>> (v3 &&& 31)) &&& 1) = 1 → vp_in v3 9 ∧ (∀ v2_3 : Int32, v2_3 = (v2 + (I 131 v3.toNatClampNeg)) → ∀ v3_4 : Int32, v3_4 = v3 + 1 → Go G mX6_priceOf 1 0 0 4 [some (.ref 0), some (.int v1), some (.int v2_3), some (.int v3_4)] [] SH I R L Q)))) : Go G mX6_priceOf 1 0 0 4 [some (.ref 0), some (.int v1), some (.int v2), some (.int v3)] [] SH I R L Q := by
  refine go_iload_n dX6_priceOf_4 rfl ?_
  refine go_bipush (v := 9) dX6_priceOf_5 (by decide) ?_
  refine go_icmp_ge 41 dX6_priceOf_7 (by decide) (fun c => ?_) (fun c => ?_)
  · have h := h.1 c
    refine go_iload_n dX6_priceOf_41 rfl ?_
    exact go_iret dX6_priceOf_42 rfl rfl h
  · have h := h.2 c
    refine go_iload_n dX6_priceOf_10 rfl ?_
    refine go_iload_n dX6_priceOf_11 rfl ?_
    refine go_iload_n dX6_priceOf_12 rfl ?_
    refine go_ishr dX6_priceOf_13 ?_
    refine go_iconst (v := 1) dX6_priceOf_14 (by decide) ?_
    refine go_iand dX6_priceOf_15 ?_
    refine go_iconst (v := 1) dX6_priceOf_16 (by decide) ?_
    refine go_icmp_ne 32 dX6_priceOf_17 (by decide) (fun c => ?_) (fun c => ?_)
    · have h := h.1 c
      refine go_iconst (v := 0) dX6_priceOf_32 (by decide) ?_
      refine go_iadd dX6_priceOf_33 ?_
      refine go_istore_n dX6_priceOf_34 (Nat.le_of_ble_eq_true rfl) rfl ?_
      have h := h _ rfl
      refine go_iinc dX6_priceOf_35 rfl (Nat.le_of_ble_eq_true rfl) rfl ?_
      have h := h _ rfl
      refine go_goto 4 dX6_priceOf_38 (by decide) ?_
      exact h
    · have h := h.2 c
      refine go_aload_n dX6_priceOf_20 rfl ?_
      refine go_getR dX6_priceOf_21 fX6_27 rfl rfl (hR 0 2 3 rfl) ?_
      refine go_getR dX6_priceOf_24 fX6_86 rfl rfl (hR 3 5 131 rfl) ?_
      refine go_iload_n dX6_priceOf_27 rfl ?_
      obtain ⟨hi, h⟩ := h
      refine go_iald dX6_priceOf_28 rfl hi ?_
      refine go_goto 33 dX6_priceOf_29 (by decide) ?_
      refine go_iadd dX6_priceOf_33 ?_
      refine go_istore_n dX6_priceOf_34 (Nat.le_of_ble_eq_true rfl) rfl ?_
      have h := h _ rfl
      refine go_iinc dX6_priceOf_35 rfl (Nat.le_of_ble_eq_true rfl) rfl ?_
      have h := h _ rfl
      refine go_goto 4 dX6_priceOf_38 (by decide) ?_
      exact h
theorem e_X6_roomOf {G : gG} {I : gI} {R : gR} {L : gL} {Q : gQ} {a : Int32} (hR : g_Fx R) (h : Go G mX6_roomOf 1 0 0 4 [some (.ref 0), some (.int a), some (.int 0), some (.int 0)] [] SH I R L Q) : Mt G mX6_roomOf 1 0 0 [.ref 0, .int a] SH I R L Q := by
  refine go_start rfl (Nat.le_of_ble_eq_true rfl) rfl ?_
  refine go_iconst (v := 0) dX6_roomOf_0 (by decide) ?_
  refine go_istore_n dX6_roomOf_1 (Nat.le_of_ble_eq_true rfl) rfl ?_
  refine go_iconst (v := 0) dX6_roomOf_2 (by decide) ?_
  refine go_istore_n dX6_roomOf_3 (Nat.le_of_ble_eq_true rfl) rfl ?_
  exact h
theorem b_X6_roomOf_4 {G : gG} {I : gI} {R : gR} {L : gL} {Q : gQ} {v1 v2 v3 : Int32} (hR : g_Fx R) (h : (9 ≤ v3 → Q (some (.int v2)) SH I R L) ∧ (¬ 9 ≤ v3 → (¬ ((v1 >>> (v3 &&& 31)) &&& 1) = 1 → ∀ v2_1 : Int32, v2_1 = (v2 + 0) → ∀ v3_2 : Int32, v3_2 = v3 + 1 → Go G mX6_roomOf 1 0 0 4 [some (.ref 0), some (.int v1), some (.int v2_1), some (.int v3_2)] [] SH I R L Q) ∧ (((v1 >>> (v3 &&& 31)) &&& 1) = 1 → vp_in v3 9 ∧ (∀ v2_3 : Int32, v2_3 = (v2 + (I 309 v3.toNatClampNeg)) → ∀ v3_4 : Int32, v3_4 = v3 + 1 → Go G mX6_roomOf 1 0 0 4 [some (.ref 0), some (.int v1), some (.int v2_3), some (.int v3_4)] [] SH I R L Q)))) : Go G mX6_roomOf 1 0 0 4 [some (.ref 0), some (.int v1), some (.int v2), some (.int v3)] [] SH I R L Q := by
  refine go_iload_n dX6_roomOf_4 rfl ?_
  refine go_bipush (v := 9) dX6_roomOf_5 (by decide) ?_
  refine go_icmp_ge 38 dX6_roomOf_7 (by decide) (fun c => ?_) (fun c => ?_)
  · have h := h.1 c
    refine go_iload_n dX6_roomOf_38 rfl ?_
    exact go_iret dX6_roomOf_39 rfl rfl h
  · have h := h.2 c
    refine go_iload_n dX6_roomOf_10 rfl ?_
    refine go_iload_n dX6_roomOf_11 rfl ?_
    refine go_iload_n dX6_roomOf_12 rfl ?_
    refine go_ishr dX6_roomOf_13 ?_
    refine go_iconst (v := 1) dX6_roomOf_14 (by decide) ?_
    refine go_iand dX6_roomOf_15 ?_
    refine go_iconst (v := 1) dX6_roomOf_16 (by decide) ?_
    refine go_icmp_ne 29 dX6_roomOf_17 (by decide) (fun c => ?_) (fun c => ?_)
    · have h := h.1 c
      refine go_iconst (v := 0) dX6_roomOf_29 (by decide) ?_
      refine go_iadd dX6_roomOf_30 ?_
      refine go_istore_n dX6_roomOf_31 (Nat.le_of_ble_eq_true rfl) rfl ?_
      have h := h _ rfl
      refine go_iinc dX6_roomOf_32 rfl (Nat.le_of_ble_eq_true rfl) rfl ?_
      have h := h _ rfl
      refine go_goto 4 dX6_roomOf_35 (by decide) ?_
      exact h
    · have h := h.2 c
      refine go_aload_n dX6_roomOf_20 rfl ?_
      refine go_getR dX6_roomOf_21 fX6_41 rfl rfl (hR 0 5 309 rfl) ?_
      refine go_iload_n dX6_roomOf_24 rfl ?_
      obtain ⟨hi, h⟩ := h
      refine go_iald dX6_roomOf_25 rfl hi ?_
      refine go_goto 30 dX6_roomOf_26 (by decide) ?_
      refine go_iadd dX6_roomOf_30 ?_
      refine go_istore_n dX6_roomOf_31 (Nat.le_of_ble_eq_true rfl) rfl ?_
      have h := h _ rfl
      refine go_iinc dX6_roomOf_32 rfl (Nat.le_of_ble_eq_true rfl) rfl ?_
      have h := h _ rfl
      refine go_goto 4 dX6_roomOf_35 (by decide) ?_
      exact h
theorem k_X6_priceOf {G : gG} {I : gI} {R : gR} {L : gL} {Q : gQ} {a : Int32} (hR : g_Fx R) (hq : Q (some (.int (psm (I 131) a 9))) SH I R L) : Mt G mX6_priceOf 1 0 0 [.ref 0, .int a] SH I R L Q := by
  refine e_X6_priceOf hR ?_
  refine cnt (P := fun e => Go G mX6_priceOf 1 0 0 4 [some (.ref 0), some (.int a), some (.int (psm (I 131) a e)), some (.int (nI e))] [] SH I R L Q) 9 (fun e he ih => ?_) ?_
  · simp only [psm] at ih
    refine b_X6_priceOf_4 hR ⟨fun c => absurd c (nI_ge (b := 9) he (by decide)), fun _ => ⟨fun c => ?_, fun c => ⟨vp_in_nI he (by decide), ?_⟩⟩⟩
    · rintro _ rfl _ rfl
      rw [if_neg c] at ih
      rw [nI_1, Int32.add_zero]; exact ih
    · rintro _ rfl _ rfl
      rw [if_pos c] at ih
      rw [nI_1, nI_clamp (by omega)]; exact ih
  · exact b_X6_priceOf_4 hR ⟨fun _ => hq, fun c => absurd (by decide) c⟩
theorem k_X6_roomOf {G : gG} {I : gI} {R : gR} {L : gL} {Q : gQ} {a : Int32} (hR : g_Fx R) (hq : Q (some (.int (psm (I 309) a 9))) SH I R L) : Mt G mX6_roomOf 1 0 0 [.ref 0, .int a] SH I R L Q := by
  refine e_X6_roomOf hR ?_
  refine cnt (P := fun e => Go G mX6_roomOf 1 0 0 4 [some (.ref 0), some (.int a), some (.int (psm (I 309) a e)), some (.int (nI e))] [] SH I R L Q) 9 (fun e he ih => ?_) ?_
  · simp only [psm] at ih
    refine b_X6_roomOf_4 hR ⟨fun c => absurd c (nI_ge (b := 9) he (by decide)), fun _ => ⟨fun c => ?_, fun c => ⟨vp_in_nI he (by decide), ?_⟩⟩⟩
    · rintro _ rfl _ rfl
      rw [if_neg c] at ih
      rw [nI_1, Int32.add_zero]; exact ih
    · rintro _ rfl _ rfl
      rw [if_pos c] at ih
      rw [nI_1, nI_clamp (by omega)]; exact ih
  · exact b_X6_roomOf_4 hR ⟨fun _ => hq, fun c => absurd (by decide) c⟩
theorem e_X6_hired {G : gG} {I : gI} {R : gR} {L : gL} {Q : gQ} {a : Int32} (hR : g_Fx R) (h : (a < 1 → Q (some (.int (-1))) SH I R L) ∧ (¬ a < 1 → (a ≤ 9999 → Go G mX6_hired 30 0 0 16 [some (.ref 0), some (.int a), some (.int 0), none, none, none] [] SH I R L Q) ∧ (¬ a ≤ 9999 → Q (some (.int (-1))) SH I R L))) : Mt G mX6_hired 30 0 0 [.ref 0, .int a] SH I R L Q := by
  refine go_start rfl (Nat.le_of_ble_eq_true rfl) rfl ?_
  refine go_iload_n dX6_hired_0 rfl ?_
  refine go_iconst (v := 1) dX6_hired_1 (by decide) ?_
  refine go_icmp_lt 12 dX6_hired_2 (by decide) (fun c => ?_) (fun c => ?_)
  · have h := h.1 c
    refine go_iconst (v := -1) dX6_hired_12 (by decide) ?_
    exact go_iret dX6_hired_13 rfl rfl h
  · have h := h.2 c
    refine go_iload_n dX6_hired_5 rfl ?_
    refine go_sipush (v := 9999) dX6_hired_6 (by decide) ?_
    refine go_icmp_le 14 dX6_hired_9 (by decide) (fun c => ?_) (fun c => ?_)
    · have h := h.1 c
      refine go_iconst (v := 0) dX6_hired_14 (by decide) ?_
      refine go_istore_n dX6_hired_15 (Nat.le_of_ble_eq_true rfl) rfl ?_
      exact h
    · have h := h.2 c
      refine go_iconst (v := -1) dX6_hired_12 (by decide) ?_
      exact go_iret dX6_hired_13 rfl rfl h
theorem b_X6_hired_16 {G : gG} {I : gI} {R : gR} {L : gL} {Q : gQ} {v1 v2 : Int32} (hR : g_Fx R) (h : ((I 3 6) ≤ v2 → Go G mX6_hired 30 0 0 70 [some (.ref 0), some (.int v1), some (.int (-1)), some (.int 0), some (.int 1), none] [] SH I R L Q) ∧ (¬ (I 3 6) ≤ v2 → (9 ≤ v2 → Go G mX6_hired 30 0 0 70 [some (.ref 0), some (.int v1), some (.int (-1)), some (.int 0), some (.int 1), none] [] SH I R L Q) ∧ (¬ 9 ≤ v2 → vp_in v2 9 ∧ (okI I ∧ ((okD (dyC I 4)) ∧ (∀ r_6 : Int32, ∀ I_7 : gI, (r_6.toInt = hld (thC I) (dyC I 4) v2.toNatClampNeg ∧ ∀ a, a ≠ 164 → a ≠ 165 → I_7 a = I a) → vp_in v2 9 ∧ (∀ I_8 : gI, I_8 = up I_7 309 v2.toNatClampNeg r_6 → ∀ v2_9 : Int32, v2_9 = v2 + 1 → Go G mX6_hired 30 0 0 16 [some (.ref 0), some (.int v1), some (.int v2_9), none, none, none] [] SH I_8 R L Q))))))) : Go G mX6_hired 30 0 0 16 [some (.ref 0), some (.int v1), some (.int v2), none, none, none] [] SH I R L Q := by
  refine go_iload_n dX6_hired_16 rfl ?_
  refine go_aload_n dX6_hired_17 rfl ?_
  refine go_getR dX6_hired_18 fX6_27 rfl rfl (hR 0 2 3 rfl) ?_
  refine go_getI dX6_hired_21 fX6_77 rfl rfl ?_
  refine go_icmp_ge 63 dX6_hired_24 (by decide) (fun c => ?_) (fun c => ?_)
  · have h := h.1 c
    refine go_iconst (v := -1) dX6_hired_63 (by decide) ?_
    refine go_istore_n dX6_hired_64 (Nat.le_of_ble_eq_true rfl) rfl ?_
    refine go_iconst (v := 0) dX6_hired_65 (by decide) ?_
    refine go_istore_n dX6_hired_66 (Nat.le_of_ble_eq_true rfl) rfl ?_
    refine go_iconst (v := 1) dX6_hired_67 (by decide) ?_
    refine go_istore dX6_hired_68 (Nat.le_of_ble_eq_true rfl) rfl ?_
    exact h
  · have h := h.2 c
    refine go_iload_n dX6_hired_27 rfl ?_
    refine go_aload_n dX6_hired_28 rfl ?_
    refine go_getR dX6_hired_29 fX6_41 rfl rfl (hR 0 5 309 rfl) ?_
    refine go_alen (v := 9) 0 dX6_hired_32 rfl (by decide) (by decide) ?_
    refine go_icmp_ge 63 dX6_hired_33 (by decide) (fun c => ?_) (fun c => ?_)
    · have h := h.1 c
      refine go_iconst (v := -1) dX6_hired_63 (by decide) ?_
      refine go_istore_n dX6_hired_64 (Nat.le_of_ble_eq_true rfl) rfl ?_
      refine go_iconst (v := 0) dX6_hired_65 (by decide) ?_
      refine go_istore_n dX6_hired_66 (Nat.le_of_ble_eq_true rfl) rfl ?_
      refine go_iconst (v := 1) dX6_hired_67 (by decide) ?_
      refine go_istore dX6_hired_68 (Nat.le_of_ble_eq_true rfl) rfl ?_
      exact h
    · have h := h.2 c
      refine go_aload_n dX6_hired_36 rfl ?_
      refine go_getR dX6_hired_37 fX6_41 rfl rfl (hR 0 5 309 rfl) ?_
      refine go_iload_n dX6_hired_40 rfl ?_
      refine go_aload_n dX6_hired_41 rfl ?_
      refine go_getR dX6_hired_42 fX6_20 rfl rfl (hR 0 1 2 rfl) ?_
      refine go_aload_n dX6_hired_45 rfl ?_
      refine go_getR dX6_hired_46 fX6_27 rfl rfl (hR 0 2 3 rfl) ?_
      refine go_getR dX6_hired_49 fX6_68 rfl rfl (hR 3 0 4 rfl) ?_
      refine go_iload_n dX6_hired_52 rfl ?_
      obtain ⟨hp_3, h⟩ := h
      obtain ⟨hp_4, h⟩ := h
      obtain ⟨hp_5, h⟩ := h
      refine go_callV0 (μ := mX6_hired) [.ref 4, .int _] dX6_hired_53 YX0_roomIn lX6_180 rfl ⟨_, rfl, rfl⟩ rfl (Nat.le_of_ble_eq_true rfl) (Nat.le_of_ble_eq_true rfl) rfl (k_X0_roomIn hR Sc_4 hp_3 hp_4 hp_5 (fun r_6 I_7 hq => ?_))
      have h := h r_6 I_7 hq
      obtain ⟨hi, h⟩ := h
      refine go_iast dX6_hired_56 rfl hi ?_
      have h := h _ rfl
      refine go_iinc dX6_hired_57 rfl (Nat.le_of_ble_eq_true rfl) rfl ?_
      have h := h _ rfl
      refine go_goto 16 dX6_hired_60 (by decide) ?_
      exact h
theorem b_X6_hired_70 {G : gG} {I : gI} {R : gR} {L : gL} {Q : gQ} {v1 v2 v3 v4 : Int32} (hR : g_Fx R) (h : ((1 <<< ((I 3 6) &&& 31)) ≤ v4 → Q (some (.int v2)) SH I R L) ∧ (¬ (1 <<< ((I 3 6) &&& 31)) ≤ v4 → ∀ v5_12 : Int32, v5_12 = (((psm (I 131) v4 9) * 10) + (bcI v4)) → ((psm (I 309) v4 9) < v1 → ∀ v4_13 : Int32, v4_13 = v4 + 1 → Go G mX6_hired 30 0 0 70 [some (.ref 0), some (.int v1), some (.int v2), some (.int v3), some (.int v4_13), none] [] SH I R L Q) ∧ (¬ (psm (I 309) v4 9) < v1 → (v2 = (-1) → ∀ v4_14 : Int32, v4_14 = v4 + 1 → Go G mX6_hired 30 0 0 70 [some (.ref 0), some (.int v1), some (.int v4), some (.int v5_12), some (.int v4_14), none] [] SH I R L Q) ∧ (¬ v2 = (-1) → (v3 ≤ v5_12 → ∀ v4_15 : Int32, v4_15 = v4 + 1 → Go G mX6_hired 30 0 0 70 [some (.ref 0), some (.int v1), some (.int v2), some (.int v3), some (.int v4_15), none] [] SH I R L Q) ∧ (¬ v3 ≤ v5_12 → ∀ v4_16 : Int32, v4_16 = v4 + 1 → Go G mX6_hired 30 0 0 70 [some (.ref 0), some (.int v1), some (.int v4), some (.int v5_12), some (.int v4_16), none] [] SH I R L Q))))) : Go G mX6_hired 30 0 0 70 [some (.ref 0), some (.int v1), some (.int v2), some (.int v3), some (.int v4), none] [] SH I R L Q := by
  refine go_iload dX6_hired_70 rfl ?_
  refine go_iconst (v := 1) dX6_hired_72 (by decide) ?_
  refine go_aload_n dX6_hired_73 rfl ?_
  refine go_getR dX6_hired_74 fX6_27 rfl rfl (hR 0 2 3 rfl) ?_
  refine go_getI dX6_hired_77 fX6_77 rfl rfl ?_
  refine go_ishl dX6_hired_80 ?_
  refine go_icmp_ge 134 dX6_hired_81 (by decide) (fun c => ?_) (fun c => ?_)
  · have h := h.1 c
    refine go_iload_n dX6_hired_134 rfl ?_
    exact go_iret dX6_hired_135 rfl rfl h
  · have h := h.2 c
    refine go_aload_n dX6_hired_84 rfl ?_
    refine go_iload dX6_hired_85 rfl ?_
    refine go_callV0 (μ := mX6_hired) [.int _] dX6_hired_87 YX6_priceOf lX6_236 rfl ⟨_, rfl, rfl⟩ rfl (Nat.le_of_ble_eq_true rfl) (Nat.le_of_ble_eq_true rfl) rfl (k_X6_priceOf hR ?_)
    refine go_bipush (v := 10) dX6_hired_90 (by decide) ?_
    refine go_imul dX6_hired_92 ?_
    refine go_iload dX6_hired_93 rfl ?_
    refine go_callS0 (μ := mX6_hired) [.int _] dX6_hired_95 YJ6_bitCount_0f7a4 lX6_193 rfl (Nat.le_of_ble_eq_true rfl) (Nat.le_of_ble_eq_true rfl) rfl (k_J6_bitCount_0f7a4 hR ?_)
    refine go_iadd dX6_hired_98 ?_
    refine go_istore dX6_hired_99 (Nat.le_of_ble_eq_true rfl) rfl ?_
    have h := h _ rfl
    refine go_aload_n dX6_hired_101 rfl ?_
    refine go_iload dX6_hired_102 rfl ?_
    refine go_callV0 (μ := mX6_hired) [.int _] dX6_hired_104 YX6_roomOf lX6_239 rfl ⟨_, rfl, rfl⟩ rfl (Nat.le_of_ble_eq_true rfl) (Nat.le_of_ble_eq_true rfl) rfl (k_X6_roomOf hR ?_)
    refine go_iload_n dX6_hired_107 rfl ?_
    refine go_icmp_lt 128 dX6_hired_108 (by decide) (fun c => ?_) (fun c => ?_)
    · have h := h.1 c
      refine go_iinc dX6_hired_128 rfl (Nat.le_of_ble_eq_true rfl) rfl ?_
      have h := h _ rfl
      refine go_goto 70 dX6_hired_131 (by decide) ?_
      refine go_drop 5 ?_
      exact h
    · have h := h.2 c
      refine go_iload_n dX6_hired_111 rfl ?_
      refine go_iconst (v := -1) dX6_hired_112 (by decide) ?_
      refine go_icmp_eq 122 dX6_hired_113 (by decide) (fun c => ?_) (fun c => ?_)
      · have h := h.1 c
        refine go_iload dX6_hired_122 rfl ?_
        refine go_istore_n dX6_hired_124 (Nat.le_of_ble_eq_true rfl) rfl ?_
        refine go_iload dX6_hired_125 rfl ?_
        refine go_istore_n dX6_hired_127 (Nat.le_of_ble_eq_true rfl) rfl ?_
        refine go_iinc dX6_hired_128 rfl (Nat.le_of_ble_eq_true rfl) rfl ?_
        have h := h _ rfl
        refine go_goto 70 dX6_hired_131 (by decide) ?_
        refine go_drop 5 ?_
        exact h
      · have h := h.2 c
        refine go_iload dX6_hired_116 rfl ?_
        refine go_iload_n dX6_hired_118 rfl ?_
        refine go_icmp_ge 128 dX6_hired_119 (by decide) (fun c => ?_) (fun c => ?_)
        · have h := h.1 c
          refine go_iinc dX6_hired_128 rfl (Nat.le_of_ble_eq_true rfl) rfl ?_
          have h := h _ rfl
          refine go_goto 70 dX6_hired_131 (by decide) ?_
          refine go_drop 5 ?_
          exact h
        · have h := h.2 c
          refine go_iload dX6_hired_122 rfl ?_
          refine go_istore_n dX6_hired_124 (Nat.le_of_ble_eq_true rfl) rfl ?_
          refine go_iload dX6_hired_125 rfl ?_
          refine go_istore_n dX6_hired_127 (Nat.le_of_ble_eq_true rfl) rfl ?_
          refine go_iinc dX6_hired_128 rfl (Nat.le_of_ble_eq_true rfl) rfl ?_
          have h := h _ rfl
          refine go_goto 70 dX6_hired_131 (by decide) ?_
          refine go_drop 5 ?_
          exact h
theorem e_X7_hired {G : gG} {I : gI} {R : gR} {L : gL} {Q : gQ} {a : Int32} (hR : g_Fx R) (h : ((1 : Int32) ≤ a ∧ a ≤ (9999 : Int32) → ∀ I_1 : gI, I_1 = layI I → Go G mX7_hired 30 0 0 27 [some (.ref 310), some (.int a), some (.int (-1)), some (.int 0), some (.int 0), some (.int 1), none, none, none, none] [] SH I_1 R L Q) ∧ (¬ ((1 : Int32) ≤ a ∧ a ≤ (9999 : Int32)) → Q (some (.int (-1))) SH I R L)) : Mt G mX7_hired 30 0 0 [.ref 310, .int a] SH I R L Q := by
  refine go_start rfl (Nat.le_of_ble_eq_true rfl) rfl ?_
  refine go_iload_n dX7_hired_0 rfl ?_
  refine go_iconst (v := 1) dX7_hired_1 (by decide) ?_
  refine go_sipush (v := 9999) dX7_hired_2 (by decide) ?_
  refine go_callS0 (μ := mX7_hired) [.int _, .int _, .int _] dX7_hired_5 YX7_in lX7_110 rfl (Nat.le_of_ble_eq_true rfl) (Nat.le_of_ble_eq_true rfl) rfl (k_X7_in hR ?_)
  refine go_if_ne 13 dX7_hired_8 (by decide) (fun c => ?_) (fun c => ?_)
  · have h := h.1 (b1.mp c)
    refine go_aload_n dX7_hired_13 rfl ?_
    refine go_callV0 (μ := mX7_hired) [] dX7_hired_14 YX7_laysWorld lX7_349 rfl ⟨_, rfl, rfl⟩ rfl (Nat.le_of_ble_eq_true rfl) (Nat.le_of_ble_eq_true rfl) rfl (k_X7_laysWorld hR ?_)
    have h := h _ rfl
    refine go_iconst (v := -1) dX7_hired_17 (by decide) ?_
    refine go_istore_n dX7_hired_18 (Nat.le_of_ble_eq_true rfl) rfl ?_
    refine go_iconst (v := 0) dX7_hired_19 (by decide) ?_
    refine go_istore_n dX7_hired_20 (Nat.le_of_ble_eq_true rfl) rfl ?_
    refine go_iconst (v := 0) dX7_hired_21 (by decide) ?_
    refine go_istore dX7_hired_22 (Nat.le_of_ble_eq_true rfl) rfl ?_
    refine go_iconst (v := 1) dX7_hired_24 (by decide) ?_
    refine go_istore dX7_hired_25 (Nat.le_of_ble_eq_true rfl) rfl ?_
    exact h
  · have h := h.2 (b0.mp c)
    refine go_iconst (v := -1) dX7_hired_11 (by decide) ?_
    exact go_iret dX7_hired_12 rfl rfl h
theorem b_X7_hired_27 {G : gG} {I : gI} {R : gR} {L : gL} {Q : gQ} {v1 v2 v3 v4 v5 : Int32} (hR : g_Fx R) (h : ((1 <<< ((I 311 0) &&& 31)) ≤ v5 → Q (some (.int v2)) SH I R L) ∧ (¬ (1 <<< ((I 311 0) &&& 31)) ≤ v5 → Go G mX7_hired 30 0 0 52 [some (.ref 310), some (.int v1), some (.int v2), some (.int v3), some (.int v4), some (.int v5), some (.int 0), some (.int 0), some (.int 0), some (.int 0)] [] SH I R L Q)) : Go G mX7_hired 30 0 0 27 [some (.ref 310), some (.int v1), some (.int v2), some (.int v3), some (.int v4), some (.int v5), none, none, none, none] [] SH I R L Q := by
  refine go_iload dX7_hired_27 rfl ?_
  refine go_iconst (v := 1) dX7_hired_29 (by decide) ?_
  refine go_aload_n dX7_hired_30 rfl ?_
  refine go_getR dX7_hired_31 fX7_7 rfl rfl (hR 310 0 311 rfl) ?_
  refine go_iconst (v := 0) dX7_hired_34 (by decide) ?_
  refine go_ialdK dX7_hired_35 rfl (vp_in_nI (n := 0) (by decide) (by decide)) (k := 0) (by decide) ?_
  refine go_ishl dX7_hired_36 ?_
  refine go_icmp_ge 159 dX7_hired_37 (by decide) (fun c => ?_) (fun c => ?_)
  · have h := h.1 c
    refine go_iload_n dX7_hired_159 rfl ?_
    exact go_iret dX7_hired_160 rfl rfl h
  · have h := h.2 c
    refine go_iconst (v := 0) dX7_hired_40 (by decide) ?_
    refine go_istore dX7_hired_41 (Nat.le_of_ble_eq_true rfl) rfl ?_
    refine go_iconst (v := 0) dX7_hired_43 (by decide) ?_
    refine go_istore dX7_hired_44 (Nat.le_of_ble_eq_true rfl) rfl ?_
    refine go_iconst (v := 0) dX7_hired_46 (by decide) ?_
    refine go_istore dX7_hired_47 (Nat.le_of_ble_eq_true rfl) rfl ?_
    refine go_iconst (v := 0) dX7_hired_49 (by decide) ?_
    refine go_istore dX7_hired_50 (Nat.le_of_ble_eq_true rfl) rfl ?_
    exact h
theorem b_X7_hired_52 {G : gG} {I : gI} {R : gR} {L : gL} {Q : gQ} {v1 v2 v3 v4 v5 v6 v7 v8 v9 : Int32} (hR : g_Fx R) (h : ((I 311 0) ≤ v9 → (v6 < v1 → ∀ v5_4 : Int32, v5_4 = v5 + 1 → Go G mX7_hired 30 0 0 27 [some (.ref 310), some (.int v1), some (.int v2), some (.int v3), some (.int v4), some (.int v5_4), none, none, none, none] [] SH I R L Q) ∧ (¬ v6 < v1 → (v2 = (-1) → ∀ v5_5 : Int32, v5_5 = v5 + 1 → Go G mX7_hired 30 0 0 27 [some (.ref 310), some (.int v1), some (.int v5), some (.int v7), some (.int v8), some (.int v5_5), none, none, none, none] [] SH I R L Q) ∧ (¬ v2 = (-1) → (v7 < v3 → ∀ v5_6 : Int32, v5_6 = v5 + 1 → Go G mX7_hired 30 0 0 27 [some (.ref 310), some (.int v1), some (.int v5), some (.int v7), some (.int v8), some (.int v5_6), none, none, none, none] [] SH I R L Q) ∧ (¬ v7 < v3 → (¬ v7 = v3 → ∀ v5_7 : Int32, v5_7 = v5 + 1 → Go G mX7_hired 30 0 0 27 [some (.ref 310), some (.int v1), some (.int v2), some (.int v3), some (.int v4), some (.int v5_7), none, none, none, none] [] SH I R L Q) ∧ (v7 = v3 → (v4 ≤ v8 → ∀ v5_8 : Int32, v5_8 = v5 + 1 → Go G mX7_hired 30 0 0 27 [some (.ref 310), some (.int v1), some (.int v2), some (.int v3), some (.int v4), some (.int v5_8), none, none, none, none] [] SH I R L Q) ∧ (¬ v4 ≤ v8 → ∀ v5_9 : Int32, v5_9 = v5 + 1 → Go G mX7_hired 30 0 0 27 [some (.ref 310), some (.int v1), some (.int v5), some (.int v7), some (.int v8), some (.int v5_9), none, none, none, none] [] SH I R L Q)))))) ∧ (¬ (I 311 0) ≤ v9 → (¬ ((v5 >>> (v9 &&& 31)) &&& 1) = 1 → ∀ v9_15 : Int32, v9_15 = v9 + 1 → Go G mX7_hired 30 0 0 52 [some (.ref 310), some (.int v1), some (.int v2), some (.int v3), some (.int v4), some (.int v5), some (.int v6), some (.int v7), some (.int v8), some (.int v9_15)] [] SH I R L Q) ∧ (((v5 >>> (v9 &&& 31)) &&& 1) = 1 → vp_in v9 9 ∧ (okN I ∧ ((okD (dyM I)) ∧ (∀ r_19 : Int32, ∀ I_20 : gI, ∀ L_21 : gL, (r_19.toInt = hld (thM I) (dyM I) v9.toNatClampNeg ∧ (∀ a, a ≠ 331 → I_20 a = I a) ∧ ∀ a, a ≠ 332 → L_21 a = L a) → ∀ v6_22 : Int32, v6_22 = (v6 + r_19) → vp_in ((10 + (3 * v9)) + 2) 11120 ∧ (∀ v7_23 : Int32, v7_23 = (v7 + (I_20 311 ((10 + (3 * v9)) + 2).toNatClampNeg)) → ∀ v8_24 : Int32, v8_24 = v8 + 1 → ∀ v9_25 : Int32, v9_25 = v9 + 1 → Go G mX7_hired 30 0 0 52 [some (.ref 310), some (.int v1), some (.int v2), some (.int v3), some (.int v4), some (.int v5), some (.int v6_22), some (.int v7_23), some (.int v8_24), some (.int v9_25)] [] SH I_20 R L_21 Q))))))) : Go G mX7_hired 30 0 0 52 [some (.ref 310), some (.int v1), some (.int v2), some (.int v3), some (.int v4), some (.int v5), some (.int v6), some (.int v7), some (.int v8), some (.int v9)] [] SH I R L Q := by
  refine go_iload dX7_hired_52 rfl ?_
  refine go_aload_n dX7_hired_54 rfl ?_
  refine go_getR dX7_hired_55 fX7_7 rfl rfl (hR 310 0 311 rfl) ?_
  refine go_iconst (v := 0) dX7_hired_58 (by decide) ?_
  refine go_ialdK dX7_hired_59 rfl (vp_in_nI (n := 0) (by decide) (by decide)) (k := 0) (by decide) ?_
  refine go_icmp_ge 113 dX7_hired_60 (by decide) (fun c => ?_) (fun c => ?_)
  · have h := h.1 c
    refine go_iload dX7_hired_113 rfl ?_
    refine go_iload_n dX7_hired_115 rfl ?_
    refine go_icmp_lt 153 dX7_hired_116 (by decide) (fun c => ?_) (fun c => ?_)
    · have h := h.1 c
      refine go_iinc dX7_hired_153 rfl (Nat.le_of_ble_eq_true rfl) rfl ?_
      have h := h _ rfl
      refine go_goto 27 dX7_hired_156 (by decide) ?_
      refine go_drop 6 ?_
      refine go_drop 7 ?_
      refine go_drop 8 ?_
      refine go_drop 9 ?_
      exact h
    · have h := h.2 c
      refine go_iload_n dX7_hired_119 rfl ?_
      refine go_iconst (v := -1) dX7_hired_120 (by decide) ?_
      refine go_icmp_eq 143 dX7_hired_121 (by decide) (fun c => ?_) (fun c => ?_)
      · have h := h.1 c
        refine go_iload dX7_hired_143 rfl ?_
        refine go_istore_n dX7_hired_145 (Nat.le_of_ble_eq_true rfl) rfl ?_
        refine go_iload dX7_hired_146 rfl ?_
        refine go_istore_n dX7_hired_148 (Nat.le_of_ble_eq_true rfl) rfl ?_
        refine go_iload dX7_hired_149 rfl ?_
        refine go_istore dX7_hired_151 (Nat.le_of_ble_eq_true rfl) rfl ?_
        refine go_iinc dX7_hired_153 rfl (Nat.le_of_ble_eq_true rfl) rfl ?_
        have h := h _ rfl
        refine go_goto 27 dX7_hired_156 (by decide) ?_
        refine go_drop 6 ?_
        refine go_drop 7 ?_
        refine go_drop 8 ?_
        refine go_drop 9 ?_
        exact h
      · have h := h.2 c
        refine go_iload dX7_hired_124 rfl ?_
        refine go_iload_n dX7_hired_126 rfl ?_
        refine go_icmp_lt 143 dX7_hired_127 (by decide) (fun c => ?_) (fun c => ?_)
        · have h := h.1 c
          refine go_iload dX7_hired_143 rfl ?_
          refine go_istore_n dX7_hired_145 (Nat.le_of_ble_eq_true rfl) rfl ?_
          refine go_iload dX7_hired_146 rfl ?_
          refine go_istore_n dX7_hired_148 (Nat.le_of_ble_eq_true rfl) rfl ?_
          refine go_iload dX7_hired_149 rfl ?_
          refine go_istore dX7_hired_151 (Nat.le_of_ble_eq_true rfl) rfl ?_
          refine go_iinc dX7_hired_153 rfl (Nat.le_of_ble_eq_true rfl) rfl ?_
          have h := h _ rfl
          refine go_goto 27 dX7_hired_156 (by decide) ?_
          refine go_drop 6 ?_
          refine go_drop 7 ?_
          refine go_drop 8 ?_
          refine go_drop 9 ?_
          exact h
        · have h := h.2 c
          refine go_iload dX7_hired_130 rfl ?_
          refine go_iload_n dX7_hired_132 rfl ?_
          refine go_icmp_ne 153 dX7_hired_133 (by decide) (fun c => ?_) (fun c => ?_)
          · have h := h.1 c
            refine go_iinc dX7_hired_153 rfl (Nat.le_of_ble_eq_true rfl) rfl ?_
            have h := h _ rfl
            refine go_goto 27 dX7_hired_156 (by decide) ?_
            refine go_drop 6 ?_
            refine go_drop 7 ?_
            refine go_drop 8 ?_
            refine go_drop 9 ?_
            exact h
          · have h := h.2 c
            refine go_iload dX7_hired_136 rfl ?_
            refine go_iload dX7_hired_138 rfl ?_
            refine go_icmp_ge 153 dX7_hired_140 (by decide) (fun c => ?_) (fun c => ?_)
            · have h := h.1 c
              refine go_iinc dX7_hired_153 rfl (Nat.le_of_ble_eq_true rfl) rfl ?_
              have h := h _ rfl
              refine go_goto 27 dX7_hired_156 (by decide) ?_
              refine go_drop 6 ?_
              refine go_drop 7 ?_
              refine go_drop 8 ?_
              refine go_drop 9 ?_
              exact h
            · have h := h.2 c
              refine go_iload dX7_hired_143 rfl ?_
              refine go_istore_n dX7_hired_145 (Nat.le_of_ble_eq_true rfl) rfl ?_
              refine go_iload dX7_hired_146 rfl ?_
              refine go_istore_n dX7_hired_148 (Nat.le_of_ble_eq_true rfl) rfl ?_
              refine go_iload dX7_hired_149 rfl ?_
              refine go_istore dX7_hired_151 (Nat.le_of_ble_eq_true rfl) rfl ?_
              refine go_iinc dX7_hired_153 rfl (Nat.le_of_ble_eq_true rfl) rfl ?_
              have h := h _ rfl
              refine go_goto 27 dX7_hired_156 (by decide) ?_
              refine go_drop 6 ?_
              refine go_drop 7 ?_
              refine go_drop 8 ?_
              refine go_drop 9 ?_
              exact h
  · have h := h.2 c
    refine go_iload dX7_hired_63 rfl ?_
    refine go_iload dX7_hired_65 rfl ?_
    refine go_ishr dX7_hired_67 ?_
    refine go_iconst (v := 1) dX7_hired_68 (by decide) ?_
    refine go_iand dX7_hired_69 ?_
    refine go_iconst (v := 1) dX7_hired_70 (by decide) ?_
    refine go_icmp_ne 107 dX7_hired_71 (by decide) (fun c => ?_) (fun c => ?_)
    · have h := h.1 c
      refine go_iinc dX7_hired_107 rfl (Nat.le_of_ble_eq_true rfl) rfl ?_
      have h := h _ rfl
      refine go_goto 52 dX7_hired_110 (by decide) ?_
      exact h
    · have h := h.2 c
      refine go_iload dX7_hired_74 rfl ?_
      refine go_aload_n dX7_hired_76 rfl ?_
      refine go_iload dX7_hired_77 rfl ?_
      obtain ⟨hp_16, h⟩ := h
      obtain ⟨hp_17, h⟩ := h
      obtain ⟨hp_18, h⟩ := h
      refine go_callV0 (μ := mX7_hired) [.int _] dX7_hired_79 YX7_stillHolds lX7_331 rfl ⟨_, rfl, rfl⟩ rfl (Nat.le_of_ble_eq_true rfl) (Nat.le_of_ble_eq_true rfl) rfl (k_X7_stillHolds hR hp_16 hp_17 hp_18 (fun r_19 I_20 L_21 hq => ?_))
      have h := h r_19 I_20 L_21 hq
      refine go_iadd dX7_hired_82 ?_
      refine go_istore dX7_hired_83 (Nat.le_of_ble_eq_true rfl) rfl ?_
      have h := h _ rfl
      refine go_iload dX7_hired_85 rfl ?_
      refine go_aload_n dX7_hired_87 rfl ?_
      refine go_getR dX7_hired_88 fX7_7 rfl rfl (hR 310 0 311 rfl) ?_
      refine go_bipush (v := 10) dX7_hired_91 (by decide) ?_
      refine go_iconst (v := 3) dX7_hired_93 (by decide) ?_
      refine go_iload dX7_hired_94 rfl ?_
      refine go_imul dX7_hired_96 ?_
      refine go_iadd dX7_hired_97 ?_
      refine go_iconst (v := 2) dX7_hired_98 (by decide) ?_
      refine go_iadd dX7_hired_99 ?_
      obtain ⟨hi, h⟩ := h
      refine go_iald dX7_hired_100 rfl hi ?_
      refine go_iadd dX7_hired_101 ?_
      refine go_istore dX7_hired_102 (Nat.le_of_ble_eq_true rfl) rfl ?_
      have h := h _ rfl
      refine go_iinc dX7_hired_104 rfl (Nat.le_of_ble_eq_true rfl) rfl ?_
      have h := h _ rfl
      refine go_iinc dX7_hired_107 rfl (Nat.le_of_ble_eq_true rfl) rfl ?_
      have h := h _ rfl
      refine go_goto 52 dX7_hired_110 (by decide) ?_
      exact h
/-- the cheapest of the sets up to k: the set (0: none), its price, how many -/
def hiS (H P : Nat → Nat) (N n : Nat) : Nat → Nat × Nat × Nat
  | 0 => (0, 0, 0)
  | k + 1 => if n ≤ sm H (k + 1) N ∧ ((hiS H P N n k).1 = 0 ∨ sm P (k + 1) N < (hiS H P N n k).2.1 ∨ (sm P (k + 1) N = (hiS H P N n k).2.1 ∧ sm (fun _ => 1) (k + 1) N < (hiS H P N n k).2.2)) then (k + 1, sm P (k + 1) N, sm (fun _ => 1) (k + 1) N) else hiS H P N n k
def hiV (b : Nat) : Int32 := if b = 0 then -1 else nI b
theorem hiS_b {H P : Nat → Nat} {N n : Nat} (hP : ∀ e, e < N → P e ≤ 99) (hN : N ≤ 9) : ∀ k, (hiS H P N n k).1 ≤ k ∧ (hiS H P N n k).2.1 ≤ 99 * 9 ∧ (hiS H P N n k).2.2 ≤ 9 ∧ ((hiS H P N n k).1 = 0 → (hiS H P N n k).2 = (0, 0))
  | 0 => ⟨Nat.le_refl _, Nat.zero_le _, Nat.zero_le _, fun _ => rfl⟩
  | k + 1 => by
    obtain ⟨a1, a2, a3, a4⟩ := hiS_b (H := H) (n := n) hP hN k
    have b1 := sm_le (w := P) (k := k + 1) hP N (Nat.le_refl _)
    have b2 := sm_le (w := fun _ => 1) (k := k + 1) (M := 1) (n := N) (fun _ _ => Nat.le_refl _) N (Nat.le_refl _)
    simp only [hiS]
    split
    · exact ⟨Nat.le_refl _, by show sm P (k + 1) N ≤ 99 * 9; omega, by show sm (fun _ => 1) (k + 1) N ≤ 9; omega, fun q => absurd q (by show ¬ k + 1 = 0; omega)⟩
    · exact ⟨by omega, a2, a3, a4⟩
theorem hiV_m1 {b : Nat} (h : b < 2 ^ 31) : hiV b = -1 ↔ b = 0 := by
  unfold hiV
  by_cases c : b = 0
  · simp [c]
  · rw [if_neg c]
    exact ⟨fun q => by have := congrArg Int32.toInt q; rw [nI_toInt h] at this; exact absurd this (by show ¬ ((b : Int) = -1); omega), fun q => absurd q c⟩
theorem pow_le9 {N : Nat} (h : N ≤ 9) : 2 ^ N ≤ 512 := by
  have := Nat.pow_le_pow_right (n := 2) (by decide) h
  exact this
theorem p_hired {G : gG} {I : gI} {R : gR} {L : gL} {Q : gQ} {a : Int32} (h : Rel I R) (hq : ∀ v I1 R1 L1, prom G mX7_hired [.ref 310, .int a] (some (.int v)) I1 R1 L1 → Q (some (.int v)) SH I1 R1 L1) : Mt G mX6_hired 30 0 0 [.ref 0, .int a] SH I R L Q := by
  have hF := h.1.1
  obtain ⟨N, hN, e1, e2⟩ := R_n h
  obtain ⟨co, sc, oh, ok⟩ := R_co h
  obtain ⟨-, m1, m2, m3, m4, kI, kD⟩ := Rel_ask h (I1 := I) (fun _ _ _ => rfl)
  have z1 : (1 : Int32).toInt = 1 := rfl
  have z9 : (9999 : Int32).toInt = 9999 := rfl
  refine e_X6_hired hF ⟨fun d => hq _ _ _ _ (fun Q2 h2 => e_X7_hired hF ⟨fun d' => absurd d (fun q => by rw [ti_lt, z1] at q; have := d'.1; rw [ti_le, z1] at this; omega), fun _ => h2 _ _ _ h⟩), fun d => ⟨fun d2 => ?_, fun d2 => hq _ _ _ _ (fun Q2 h2 => e_X7_hired hF ⟨fun d' => absurd d'.2 d2, fun _ => h2 _ _ _ h⟩)⟩⟩
  rw [ti_lt, z1] at d
  have d2' := d2
  rw [ti_le, z9] at d2
  have ca := ci (x := a) (by omega)
  have ea : a = nI a.toNatClampNeg := nI_of_toInt (by omega)
  generalize hn : a.toNatClampNeg = n at *
  generalize hHd : (fun e => (hld (thC I) (dyC I 4) e).toNat) = H
  generalize hPd : (fun e => (I 131 e).toNatClampNeg) = P
  have hH : ∀ e, e < 9 → (H e : Int) = hld (thC I) (dyC I 4) e ∧ H e ≤ 9999 := fun e he => by
    have := hld_rng kI.1 kD he
    rw [← hHd]
    show ((hld (thC I) (dyC I 4) e).toNat : Int) = _ ∧ (hld (thC I) (dyC I 4) e).toNat ≤ 9999
    omega
  have hP : ∀ e, e < 9 → I 131 e = nI (P e) ∧ P e ≤ 99 := fun e he => by
    have r1 : I 131 e = I 311 (10 + 3 * e + 2) := (co.2.2.2.2.2.2.1 e he).2.2
    have r2 := (oh.2.2.2.2.2.2.1 e he).2.2
    rw [← r1] at r2
    rw [← hPd]
    have := ci r2.1
    exact ⟨nI_of_toInt r2.1, by show (I 131 e).toNatClampNeg ≤ 99; omega⟩
  have hp2 := pow_le9 hN
  have es : ∀ x : Int32, x = nI N → (1 : Int32) <<< (x &&& 31) = nI (2 ^ N) := fun x ex => by rw [ex]; exact nI_shl1 N (by omega)
  have hb := hiS_b (H := H) (P := P) (n := n) (fun e he => (hP e (by omega)).2) hN
  have bH : ∀ k, sm H k N ≤ 9999 * 9 := fun k => Nat.le_trans (sm_le (fun e he => (hH e (by omega)).2) N (Nat.le_refl _)) (by omega)
  have bP : ∀ k, sm P k N ≤ 99 * 9 := fun k => Nat.le_trans (sm_le (fun e he => (hP e (by omega)).2) N (Nat.le_refl _)) (by omega)
  have bC : ∀ k, sm (fun _ => 1) k N ≤ 9 := fun k => Nat.le_trans (sm_le (M := 1) (n := N) (fun _ _ => Nat.le_refl _) N (Nat.le_refl _)) (by omega)
  -- the class: the scan
  have scan : ∀ (J : gI), (∀ c, c ≠ 164 → c ≠ 165 → c ≠ 309 → J c = I c) → (∀ e, e < N → J 309 e = nI (H e)) → ∀ m k, k + m + 1 = 2 ^ N → Q (some (.int (hiV (hiS H P N n (2 ^ N - 1)).1))) SH J R L → Go G mX6_hired 30 0 0 70 [some (.ref 0), some (.int a), some (.int (hiV (hiS H P N n k).1)), some (.int (nI ((hiS H P N n k).2.1 * 10 + (hiS H P N n k).2.2))), some (.int (nI (k + 1))), none] [] SH J R L Q := by
    intro J jx j9 m
    have j6 : J 3 6 = nI N := by rw [jx 3 (by decide) (by decide) (by decide)]; exact e2
    induction m with
    | zero =>
      intro k e q
      refine b_X6_hired_70 hF ⟨fun _ => by rw [show 2 ^ N - 1 = k by omega] at q; exact q, fun c => absurd (by rw [es _ j6]; exact nI_le (by omega) (by omega)) c⟩
    | succ m ih =>
      intro k e q
      have ih' := ih (k + 1) (by omega) q
      obtain ⟨q1, q2, q3, q4⟩ := hb k
      have hk2 : k + 1 < 2 ^ N := by omega
      have vP : psm (J 131) (nI (k + 1)) 9 = nI (sm P (k + 1) N) := by
        rw [psm_sm (w := P) (by omega) 9 (by omega) (fun i hi _ => by rw [jx 131 (by decide) (by decide) (by decide)]; exact (hP i hi).1), sm_far hk2 9 hN]
      have tlt : ∀ i, (k + 1).testBit i = true → i < N := fun i hi => by
        rcases Nat.lt_or_ge i N with q | q
        · exact q
        · rw [Nat.testBit_lt_two_pow (Nat.lt_of_lt_of_le hk2 (Nat.pow_le_pow_right (n := 2) (by decide) q))] at hi; cases hi
      have vH : psm (J 309) (nI (k + 1)) 9 = nI (sm H (k + 1) N) := by
        rw [psm_sm (w := H) (by omega) 9 (by omega) (fun i _ hi => j9 i (tlt i hi)), sm_far hk2 9 hN]
      have vC : bcI (nI (k + 1)) = nI (sm (fun _ => 1) (k + 1) N) := by rw [bc_sm _ (by omega), sm_far hk2 9 hN]
      have c1 := bH (k + 1)
      have c2 := bP (k + 1)
      have c3 := bC (k + 1)
      refine b_X6_hired_70 hF ⟨fun c => absurd c (by rw [es _ j6]; exact nI_ge hk2 (by omega)), fun _ => ?_⟩
      rintro _ rfl
      have cost : psm (J 131) (nI (k + 1)) 9 * 10 + bcI (nI (k + 1)) = nI (sm P (k + 1) N * 10 + sm (fun _ => 1) (k + 1) N) := by
        rw [vP, vC, show (10 : Int32) = nI 10 from rfl, nI_mul, nI_add]
      rw [cost, vH, ea, nI_ltI (by omega) (by omega), hiV_m1 (by omega), nI_leI (by omega) (by omega)]
      rw [ea] at ih'
      simp only [hiS] at ih'
      refine ⟨fun c => ?_, fun c => ⟨fun c4 => ?_, fun c4 => ⟨fun c5 => ?_, fun c5 => ?_⟩⟩⟩
      · rintro _ rfl
        rw [if_neg (fun q => by have := q.1; omega)] at ih'
        rw [nI_1]; exact ih'
      · rintro _ rfl
        rw [if_pos ⟨by omega, Or.inl c4⟩] at ih'
        rw [nI_1]
        have : hiV (k + 1) = nI (k + 1) := by unfold hiV; rw [if_neg (by omega)]
        simp only [this] at ih'; exact ih'
      · rintro _ rfl
        rw [if_neg (fun q => by have := q.2; omega)] at ih'
        rw [nI_1]; exact ih'
      · rintro _ rfl
        rw [if_pos ⟨by omega, by omega⟩] at ih'
        rw [nI_1]
        have : hiV (k + 1) = nI (k + 1) := by unfold hiV; rw [if_neg (by omega)]
        simp only [this] at ih'; exact ih'
  -- the class: what each holds
  have hold : ∀ m e (J : gI), e + m = N → (∀ c, c ≠ 164 → c ≠ 165 → c ≠ 309 → J c = I c) → (∀ i, i < e → J 309 i = nI (H i)) → (∀ J' : gI, (∀ c, c ≠ 164 → c ≠ 165 → c ≠ 309 → J' c = I c) → Q (some (.int (hiV (hiS H P N n (2 ^ N - 1)).1))) SH J' R L) → Go G mX6_hired 30 0 0 16 [some (.ref 0), some (.int a), some (.int (nI e)), none, none, none] [] SH J R L Q := by
    intro m
    induction m with
    | zero =>
      intro e J ee jx j9 q
      have j6 : J 3 6 = nI N := by rw [jx 3 (by decide) (by decide) (by decide)]; exact e2
      have p1 : 1 ≤ 2 ^ N := Nat.one_le_two_pow
      have := scan J jx (fun i hi => j9 i (by omega)) (2 ^ N - 1) 0 (by omega) (q J jx)
      exact b_X6_hired_16 hF ⟨fun _ => this, fun c => absurd (by rw [j6, show e = N by omega]; exact ti_le.mpr (Int.le_refl _)) c⟩
    | succ m ih =>
      intro e J ee jx j9 q
      have j6 : J 3 6 = nI N := by rw [jx 3 (by decide) (by decide) (by decide)]; exact e2
      have tC : thC J = thC I ∧ (okI I → okI J) := th_congr (by rw [jx 3 (by decide) (by decide) (by decide)]) (jx _ (by decide) (by decide) (by decide)) (jx _ (by decide) (by decide) (by decide)) (fun c c1 c2 => jx c (by omega) (by omega) (by omega))
      have tD : dyC J 4 = dyC I 4 := dy_congr (by rw [jx 4 (by decide) (by decide) (by decide)]) (jx _ (by decide) (by decide) (by decide)) (jx _ (by decide) (by decide) (by decide)) (jx _ (by decide) (by decide) (by decide))
      refine b_X6_hired_16 hF ⟨fun c => absurd c (by rw [j6]; exact nI_ge (by omega) (by omega)), fun _ => ⟨fun c => absurd c (nI_ge (b := 9) (by omega) (by decide)), fun _ => ⟨vp_in_nI (by omega) (by decide), tC.2 kI, by rw [tD]; exact kD, ?_⟩⟩⟩
      rw [nI_clamp (by omega), tC.1, tD]
      rintro r J7 ⟨hr, hx⟩
      refine ⟨vp_in_nI (by omega) (by decide), ?_⟩
      rintro _ rfl
      rintro _ rfl
      rw [nI_1]
      refine ih (e + 1) _ (by omega) (fun c c1 c2 c3 => by rw [up_off _ c3, hx c c1 c2, jx c c1 c2 c3]) (fun i hi => ?_) q
      by_cases hie : i = e
      · rw [hie, up_eq]
        have := hH e (by omega)
        exact ti_eq.mpr (by rw [hr, nI_toInt (by omega), this.1])
      · rw [up_ni hie, hx 309 (by decide) (by decide)]; exact j9 i (by omega)
  refine hold N 0 I (by omega) (fun _ _ _ _ => rfl) (fun i hi => by omega) (fun J jx => hq _ _ _ _ (fun Q2 h2 => e_X7_hired hF ⟨fun _ => ?_, fun c => absurd ⟨ti_le.mpr (by rw [z1]; omega), d2'⟩ c⟩))
  -- the plain form
  rintro _ rfl
  have RJ : Rel J R := Rel_scr h (fun c c1 c2 => jx c (by omega) (by omega) (by omega)) (by rw [jx 1 (by decide) (by decide) (by decide)]) (by rw [jx 1 (by decide) (by decide) (by decide)]) (by rw [jx 310 (by decide) (by decide) (by decide)]) (by rw [jx 310 (by decide) (by decide) (by decide)]) (by rw [jx 310 (by decide) (by decide) (by decide)])
  obtain ⟨-, n1, n2, n3, n4, kI', kD'⟩ := Rel_ask RJ (I1 := J) (fun _ _ _ => rfl)
  have tC : thC J = thC I ∧ (okI I → okI J) := th_congr (by rw [jx 3 (by decide) (by decide) (by decide)]) (jx _ (by decide) (by decide) (by decide)) (jx _ (by decide) (by decide) (by decide)) (fun c c1 c2 => jx c (by omega) (by omega) (by omega))
  have tD : dyC J 4 = dyC I 4 := dy_congr (by rw [jx 4 (by decide) (by decide) (by decide)]) (jx _ (by decide) (by decide) (by decide)) (jx _ (by decide) (by decide) (by decide)) (jx _ (by decide) (by decide) (by decide))
  have l11 : layI J 311 = I 311 := by rw [layI_off (by decide) (by decide) (by decide), jx 311 (by decide) (by decide) (by decide)]
  have inner : ∀ (k : Nat) (v2 v3 v4 : Int32), k < 2 ^ N → (∀ (K : gI) (L1 : gL), (∀ c, c ≠ 331 → K c = layI J c) → (sm H k N < n → Go G mX7_hired 30 0 0 27 [some (.ref 310), some (.int a), some (.int v2), some (.int v3), some (.int v4), some (.int (nI (k + 1))), none, none, none, none] [] SH K R L1 Q2) ∧ (¬ sm H k N < n → (v2 = (-1) → Go G mX7_hired 30 0 0 27 [some (.ref 310), some (.int a), some (.int (nI k)), some (.int (nI (sm P k N))), some (.int (nI (sm (fun _ => 1) k N))), some (.int (nI (k + 1))), none, none, none, none] [] SH K R L1 Q2) ∧ (¬ v2 = (-1) → (nI (sm P k N) < v3 → Go G mX7_hired 30 0 0 27 [some (.ref 310), some (.int a), some (.int (nI k)), some (.int (nI (sm P k N))), some (.int (nI (sm (fun _ => 1) k N))), some (.int (nI (k + 1))), none, none, none, none] [] SH K R L1 Q2) ∧ (¬ nI (sm P k N) < v3 → (¬ nI (sm P k N) = v3 → Go G mX7_hired 30 0 0 27 [some (.ref 310), some (.int a), some (.int v2), some (.int v3), some (.int v4), some (.int (nI (k + 1))), none, none, none, none] [] SH K R L1 Q2) ∧ (nI (sm P k N) = v3 → (v4 ≤ nI (sm (fun _ => 1) k N) → Go G mX7_hired 30 0 0 27 [some (.ref 310), some (.int a), some (.int v2), some (.int v3), some (.int v4), some (.int (nI (k + 1))), none, none, none, none] [] SH K R L1 Q2) ∧ (¬ v4 ≤ nI (sm (fun _ => 1) k N) → Go G mX7_hired 30 0 0 27 [some (.ref 310), some (.int a), some (.int (nI k)), some (.int (nI (sm P k N))), some (.int (nI (sm (fun _ => 1) k N))), some (.int (nI (k + 1))), none, none, none, none] [] SH K R L1 Q2)))))) → ∀ m e (K : gI) (L1 : gL), e + m = N → (∀ c, c ≠ 331 → K c = layI J c) → Go G mX7_hired 30 0 0 52 [some (.ref 310), some (.int a), some (.int v2), some (.int v3), some (.int v4), some (.int (nI k)), some (.int (nI (sm H k e))), some (.int (nI (sm P k e))), some (.int (nI (sm (fun _ => 1) k e))), some (.int (nI e))] [] SH K R L1 Q2 := by
    intro k v2 v3 v4 hk fin m
    induction m with
    | zero =>
      intro e K L1 ee kx
      have k0 : K 311 0 = nI N := by rw [kx 311 (by decide), l11]; exact e1
      have hee : e = N := by omega
      subst hee
      obtain ⟨f1, f2⟩ := fin K L1 kx
      refine b_X7_hired_52 hF ⟨fun _ => ?_, fun c => absurd (by rw [k0]; exact ti_le.mpr (Int.le_refl _)) c⟩
      have bh := bH k
      rw [ea, nI_ltI (by omega) (by omega)]
      rw [ea] at f1 f2
      refine ⟨fun c => ?_, fun c => ⟨fun c2 => ?_, fun c2 => ⟨fun c3 => ?_, fun c3 => ⟨fun c4 => ?_, fun c4 => ⟨fun c5 => ?_, fun c5 => ?_⟩⟩⟩⟩⟩
      · rintro _ rfl; rw [nI_1]; exact f1 c
      · rintro _ rfl; rw [nI_1]; exact (f2 c).1 c2
      · rintro _ rfl; rw [nI_1]; exact ((f2 c).2 c2).1 c3
      · rintro _ rfl; rw [nI_1]; exact (((f2 c).2 c2).2 c3).1 c4
      · rintro _ rfl; rw [nI_1]; exact ((((f2 c).2 c2).2 c3).2 c4).1 c5
      · rintro _ rfl; rw [nI_1]; exact ((((f2 c).2 c2).2 c3).2 c4).2 c5
    | succ m ih =>
      intro e K L1 ee kx
      have k0 : K 311 0 = nI N := by rw [kx 311 (by decide), l11]; exact e1
      have he9 : e < 9 := by omega
      obtain ⟨-, tM, oN⟩ := thM_off (I := layI J) (I1 := K) kx
      have dM := dyM_off (I := layI J) (I1 := K) kx
      have i3 : 10 + 3 * nI e + 2 = nI (10 + 3 * e + 2) := by rw [show (3 : Int32) = nI 3 from rfl, nI_mul, show (10 : Int32) = nI 10 from rfl, nI_add, show (2 : Int32) = nI 2 from rfl, nI_add]
      refine b_X7_hired_52 hF ⟨fun c => absurd c (by rw [k0]; exact nI_ge (by omega) (by omega)), fun _ => ?_⟩
      rw [tb_iff (by omega) (by omega)]
      refine ⟨fun c => ?_, fun c => ⟨vp_in_nI he9 (by decide), oN n1, by rw [dM]; exact n2, ?_⟩⟩
      · rintro _ rfl
        have := ih (e + 1) K L1 (by omega) kx
        simp only [sm, if_neg c] at this
        rw [nI_1]; exact this
      · rw [nI_clamp (by omega), tM, dM]
        rintro r K2 L2 ⟨hr, hx, -⟩
        rintro _ rfl
        refine ⟨by rw [i3]; exact vp_in_nI (by omega) (by decide), ?_⟩
        rintro _ rfl _ rfl _ rfl
        have k2x : ∀ c, c ≠ 331 → K2 c = layI J c := fun c hc => by rw [hx c hc, kx c hc]
        have := ih (e + 1) K2 L2 (by omega) k2x
        simp only [sm, if_pos c] at this
        have er : r = nI (H e) := ti_eq.mpr (by
          rw [hr, nI_toInt (by have := (hH e he9).2; omega), (hH e he9).1, ← hld_eq n3 n4 kI'.1 he9, tC.1, tD])
        have ep : K2 311 (10 + 3 * e + 2) = nI (P e) := by
          rw [k2x 311 (by decide), l11, ← (hP e he9).1]
          exact (co.2.2.2.2.2.2.1 e he9).2.2.symm
        rw [i3, nI_clamp (by omega), er, ep, nI_add, nI_add, nI_1, nI_1]
        exact this
  have outer : ∀ m k (K : gI) (L1 : gL), k + m + 1 = 2 ^ N → (∀ c, c ≠ 331 → K c = layI J c) → Go G mX7_hired 30 0 0 27 [some (.ref 310), some (.int a), some (.int (hiV (hiS H P N n k).1)), some (.int (nI (hiS H P N n k).2.1)), some (.int (nI (hiS H P N n k).2.2)), some (.int (nI (k + 1))), none, none, none, none] [] SH K R L1 Q2 := by
    intro m
    induction m with
    | zero =>
      intro k K L1 e kx
      have k0 : K 311 0 = nI N := by rw [kx 311 (by decide), l11]; exact e1
      refine b_X7_hired_27 hF ⟨fun _ => ?_, fun c => absurd (by rw [es _ k0]; exact nI_le (by omega) (by omega)) c⟩
      rw [show k = 2 ^ N - 1 by omega]
      exact h2 _ _ _ (Rel_lay RJ (fun c c1 c2 c3 c4 => by rw [kx c c1, layI_off c2 c3 c4]) (fun j hj => by rw [kx 310 (by decide), layI_310 hj]))
    | succ m ih =>
      intro k K L1 e kx
      have k0 : K 311 0 = nI N := by rw [kx 311 (by decide), l11]; exact e1
      obtain ⟨q1, q2, q3, q4⟩ := hb k
      have hk2 : k + 1 < 2 ^ N := by omega
      have c1 := bH (k + 1)
      have c2 := bP (k + 1)
      have c3 := bC (k + 1)
      refine b_X7_hired_27 hF ⟨fun c => absurd c (by rw [es _ k0]; exact nI_ge hk2 (by omega)), fun _ => ?_⟩
      refine inner (k + 1) _ _ _ hk2 (fun K' L' kx' => ?_) N 0 K L1 (by omega) kx
      have ih' := ih (k + 1) K' L' (by omega) kx'
      simp only [hiS] at ih'
      have hv : hiV (k + 1) = nI (k + 1) := by unfold hiV; rw [if_neg (by omega)]
      rw [hiV_m1 (by omega), nI_ltI (by omega) (by omega), nI_eq (by omega) (by omega), nI_leI (by omega) (by omega)]
      refine ⟨fun c => ?_, fun c => ⟨fun c4 => ?_, fun c4 => ⟨fun c5 => ?_, fun c5 => ⟨fun c6 => ?_, fun c6 => ⟨fun c7 => ?_, fun c7 => ?_⟩⟩⟩⟩⟩
      · rw [if_neg (fun q => by have := q.1; omega)] at ih'; exact ih'
      · rw [if_pos ⟨by omega, Or.inl c4⟩] at ih'; simp only [hv] at ih'; exact ih'
      · rw [if_pos ⟨by omega, Or.inr (Or.inl c5)⟩] at ih'; simp only [hv] at ih'; exact ih'
      · rw [if_neg (fun q => by have := q.2; omega)] at ih'; exact ih'
      · rw [if_neg (fun q => by have := q.2; omega)] at ih'; exact ih'
      · rw [if_pos ⟨by omega, Or.inr (Or.inr ⟨c6, by omega⟩)⟩] at ih'; simp only [hv] at ih'; exact ih'
  have p1 : 1 ≤ 2 ^ N := Nat.one_le_two_pow
  exact outer (2 ^ N - 1) 0 (layI J) L (by omega) (fun _ _ => rfl)
