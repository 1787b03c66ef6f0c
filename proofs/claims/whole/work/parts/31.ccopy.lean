theorem e_X1_copyFrom {G : gG} {I : gI} {R : gR} {L : gL} {Q : gQ} {c d : Nat} (hR : g_Fx R) (hc : g_Co c) (hd : g_Co d) (h : ∀ I_1 : gI, I_1 = cpSc I (d + 1) (c + 1) → ∀ I_2 : gI, I_2 = up I_1 c 2 (I_1 d 2) → Go G mX1_copyFrom 4 0 0 21 [some (.ref c), some (.ref d), some (.int 0)] [] SH I_2 R L Q) : Mt G mX1_copyFrom 4 0 0 [.ref c, .ref d] SH I R L Q := by
  refine go_start rfl (Nat.le_of_ble_eq_true rfl) rfl ?_
  refine go_aload_n dX1_copyFrom_0 rfl ?_
  refine go_getR dX1_copyFrom_1 fX1_12 rfl (Co_s0 hc) (hR _ _ _ (Co_r0_0 hc)) ?_
  refine go_aload_n dX1_copyFrom_4 rfl ?_
  refine go_getR dX1_copyFrom_5 fX1_12 rfl (Co_s0 hd) (hR _ _ _ (Co_r0_0 hd)) ?_
  refine go_callV0 (μ := mX1_copyFrom) [.ref (d + 1)] dX1_copyFrom_8 YX4_copyFrom lX1_48 (Co_s1 hc) ⟨_, rfl, rfl⟩ rfl (Nat.le_of_ble_eq_true rfl) (Nat.le_of_ble_eq_true rfl) rfl (k_X4_copyFrom hR (Co_x1 hc) (Co_x1 hd) ?_)
  have h := h _ rfl
  refine go_aload_n dX1_copyFrom_11 rfl ?_
  refine go_aload_n dX1_copyFrom_12 rfl ?_
  refine go_getI dX1_copyFrom_13 fX1_52 rfl (Co_s0 hd) ?_
  refine go_putI dX1_copyFrom_16 fX1_52 rfl rfl rfl (Co_s0 hc) ?_
  have h := h _ rfl
  refine go_iconst (v := 0) dX1_copyFrom_19 (by decide) ?_
  refine go_istore_n dX1_copyFrom_20 (Nat.le_of_ble_eq_true rfl) rfl ?_
  exact h
theorem b_X1_copyFrom_21 {G : gG} {I : gI} {R : gR} {L : gL} {Q : gQ} {v2 : Int32} {c d : Nat} (hR : g_Fx R) (hc : g_Co c) (hd : g_Co d) (h : ((I c 2) ≤ v2 → Go G mX1_copyFrom 4 0 0 59 [some (.ref c), some (.ref d), none] [] SH I R L Q) ∧ (¬ (I c 2) ≤ v2 → (30 ≤ v2 → Go G mX1_copyFrom 4 0 0 59 [some (.ref c), some (.ref d), none] [] SH I R L Q) ∧ (¬ 30 ≤ v2 → vp_in v2 30 ∧ (∃ x_3, R (c + 5) v2.toNatClampNeg = some x_3 ∧ g_Sc x_3 ∧ (vp_in v2 30 ∧ (∃ x_4, R (d + 5) v2.toNatClampNeg = some x_4 ∧ g_Sc x_4 ∧ (∀ I_5 : gI, I_5 = cpSc I x_4 x_3 → ∀ v2_6 : Int32, v2_6 = v2 + 1 → Go G mX1_copyFrom 4 0 0 21 [some (.ref c), some (.ref d), some (.int v2_6)] [] SH I_5 R L Q))))))) : Go G mX1_copyFrom 4 0 0 21 [some (.ref c), some (.ref d), some (.int v2)] [] SH I R L Q := by
  refine go_iload_n dX1_copyFrom_21 rfl ?_
  refine go_aload_n dX1_copyFrom_22 rfl ?_
  refine go_getI dX1_copyFrom_23 fX1_52 rfl (Co_s0 hc) ?_
  refine go_icmp_ge 59 dX1_copyFrom_26 (by decide) (fun c => ?_) (fun c => ?_)
  · have h := h.1 c
    refine go_drop 2 ?_
    exact h
  · have h := h.2 c
    refine go_iload_n dX1_copyFrom_29 rfl ?_
    refine go_aload_n dX1_copyFrom_30 rfl ?_
    refine go_getR dX1_copyFrom_31 fX1_18 rfl (Co_s0 hc) (hR _ _ _ (Co_r0_1 hc)) ?_
    refine go_alen (v := 30) 3 dX1_copyFrom_34 (Co_s5 hc) (by decide) (by decide) ?_
    refine go_icmp_ge 59 dX1_copyFrom_35 (by decide) (fun c => ?_) (fun c => ?_)
    · have h := h.1 c
      refine go_drop 2 ?_
      exact h
    · have h := h.2 c
      refine go_aload_n dX1_copyFrom_38 rfl ?_
      refine go_getR dX1_copyFrom_39 fX1_18 rfl (Co_s0 hc) (hR _ _ _ (Co_r0_1 hc)) ?_
      refine go_iload_n dX1_copyFrom_42 rfl ?_
      obtain ⟨hi, h⟩ := h
      obtain ⟨x_3, hrx_3, hx_3, h⟩ := h
      refine go_aald4 dX1_copyFrom_43 (Co_s5 hc) hi hrx_3 ?_
      refine go_aload_n dX1_copyFrom_44 rfl ?_
      refine go_getR dX1_copyFrom_45 fX1_18 rfl (Co_s0 hd) (hR _ _ _ (Co_r0_1 hd)) ?_
      refine go_iload_n dX1_copyFrom_48 rfl ?_
      obtain ⟨hi, h⟩ := h
      obtain ⟨x_4, hrx_4, hx_4, h⟩ := h
      refine go_aald4 dX1_copyFrom_49 (Co_s5 hd) hi hrx_4 ?_
      refine go_callV0 (μ := mX1_copyFrom) [.ref x_4] dX1_copyFrom_50 YX4_copyFrom lX1_48 (Sc_s0 hx_3) ⟨_, rfl, rfl⟩ rfl (Nat.le_of_ble_eq_true rfl) (Nat.le_of_ble_eq_true rfl) rfl (k_X4_copyFrom hR hx_3 hx_4 ?_)
      have h := h _ rfl
      refine go_iinc dX1_copyFrom_53 rfl (Nat.le_of_ble_eq_true rfl) rfl ?_
      have h := h _ rfl
      refine go_goto 21 dX1_copyFrom_56 (by decide) ?_
      exact h
theorem b_X1_copyFrom_59 {G : gG} {I : gI} {R : gR} {L : gL} {Q : gQ} {c d : Nat} (hR : g_Fx R) (hc : g_Co c) (hd : g_Co d) (h : ∀ I_9 : gI, I_9 = cpy I (d + 126) (c + 126) 0 0 9 → ∀ I_10 : gI, I_10 = cpy I_9 (d + 127) (c + 127) 0 0 9 → ∀ I_11 : gI, I_11 = cpy I_10 (d + 128) (c + 128) 0 0 9 → ∀ I_12 : gI, I_12 = up I_11 c 6 (I_11 d 6) → ∀ I_13 : gI, I_13 = cpy I_12 (d + 129) (c + 129) 0 0 240 → ∀ I_14 : gI, I_14 = cpy I_13 (d + 130) (c + 130) 0 0 90 → ∀ I_15 : gI, I_15 = up I_14 c 9 (I_14 d 9) → ∀ I_16 : gI, I_16 = up I_15 c 10 (I_15 d 10) → ∀ I_17 : gI, I_17 = up I_16 c 11 (I_16 d 11) → ∀ I_18 : gI, I_18 = up I_17 c 12 (I_17 d 12) → ∀ I_19 : gI, I_19 = cpy I_18 (d + 131) (c + 131) 0 0 9 → ∀ I_20 : gI, I_20 = up I_19 c 14 (I_19 d 14) → Q none SH I_20 R L) : Go G mX1_copyFrom 4 0 0 59 [some (.ref c), some (.ref d), none] [] SH I R L Q := by
  refine go_aload_n dX1_copyFrom_59 rfl ?_
  refine go_getR dX1_copyFrom_60 fX1_22 rfl (Co_s0 hd) (hR _ _ _ (Co_r0_3 hd)) ?_
  refine go_iconst (v := 0) dX1_copyFrom_63 (by decide) ?_
  refine go_aload_n dX1_copyFrom_64 rfl ?_
  refine go_getR dX1_copyFrom_65 fX1_22 rfl (Co_s0 hc) (hR _ _ _ (Co_r0_3 hc)) ?_
  refine go_iconst (v := 0) dX1_copyFrom_68 (by decide) ?_
  refine go_bipush (v := 9) dX1_copyFrom_69 (by decide) ?_
  refine go_copyK dX1_copyFrom_71 lX1_55 nn_copy ns_copy ni_J10 (Co_s126 hd) (Co_s126 hc) (sk := 0) (dk := 0) (nk := 9) (by decide) (by decide) (by decide) (by decide) (by decide) (by decide) (by decide) (by decide) (Nat.le_of_ble_eq_true rfl) (Nat.le_of_ble_eq_true rfl) ?_
  have h := h _ rfl
  refine go_aload_n dX1_copyFrom_74 rfl ?_
  refine go_getR dX1_copyFrom_75 fX1_26 rfl (Co_s0 hd) (hR _ _ _ (Co_r0_4 hd)) ?_
  refine go_iconst (v := 0) dX1_copyFrom_78 (by decide) ?_
  refine go_aload_n dX1_copyFrom_79 rfl ?_
  refine go_getR dX1_copyFrom_80 fX1_26 rfl (Co_s0 hc) (hR _ _ _ (Co_r0_4 hc)) ?_
  refine go_iconst (v := 0) dX1_copyFrom_83 (by decide) ?_
  refine go_bipush (v := 9) dX1_copyFrom_84 (by decide) ?_
  refine go_copyK dX1_copyFrom_86 lX1_55 nn_copy ns_copy ni_J10 (Co_s127 hd) (Co_s127 hc) (sk := 0) (dk := 0) (nk := 9) (by decide) (by decide) (by decide) (by decide) (by decide) (by decide) (by decide) (by decide) (Nat.le_of_ble_eq_true rfl) (Nat.le_of_ble_eq_true rfl) ?_
  have h := h _ rfl
  refine go_aload_n dX1_copyFrom_89 rfl ?_
  refine go_getR dX1_copyFrom_90 fX1_29 rfl (Co_s0 hd) (hR _ _ _ (Co_r0_5 hd)) ?_
  refine go_iconst (v := 0) dX1_copyFrom_93 (by decide) ?_
  refine go_aload_n dX1_copyFrom_94 rfl ?_
  refine go_getR dX1_copyFrom_95 fX1_29 rfl (Co_s0 hc) (hR _ _ _ (Co_r0_5 hc)) ?_
  refine go_iconst (v := 0) dX1_copyFrom_98 (by decide) ?_
  refine go_bipush (v := 9) dX1_copyFrom_99 (by decide) ?_
  refine go_copyK dX1_copyFrom_101 lX1_55 nn_copy ns_copy ni_J10 (Co_s128 hd) (Co_s128 hc) (sk := 0) (dk := 0) (nk := 9) (by decide) (by decide) (by decide) (by decide) (by decide) (by decide) (by decide) (by decide) (Nat.le_of_ble_eq_true rfl) (Nat.le_of_ble_eq_true rfl) ?_
  have h := h _ rfl
  refine go_aload_n dX1_copyFrom_104 rfl ?_
  refine go_aload_n dX1_copyFrom_105 rfl ?_
  refine go_getI dX1_copyFrom_106 fX1_61 rfl (Co_s0 hd) ?_
  refine go_putI dX1_copyFrom_109 fX1_61 rfl rfl rfl (Co_s0 hc) ?_
  have h := h _ rfl
  refine go_aload_n dX1_copyFrom_112 rfl ?_
  refine go_getR dX1_copyFrom_113 fX1_32 rfl (Co_s0 hd) (hR _ _ _ (Co_r0_7 hd)) ?_
  refine go_iconst (v := 0) dX1_copyFrom_116 (by decide) ?_
  refine go_aload_n dX1_copyFrom_117 rfl ?_
  refine go_getR dX1_copyFrom_118 fX1_32 rfl (Co_s0 hc) (hR _ _ _ (Co_r0_7 hc)) ?_
  refine go_iconst (v := 0) dX1_copyFrom_121 (by decide) ?_
  refine go_sipush (v := 240) dX1_copyFrom_122 (by decide) ?_
  refine go_copyK dX1_copyFrom_125 lX1_55 nn_copy ns_copy ni_J10 (Co_s129 hd) (Co_s129 hc) (sk := 0) (dk := 0) (nk := 240) (by decide) (by decide) (by decide) (by decide) (by decide) (by decide) (by decide) (by decide) (Nat.le_of_ble_eq_true rfl) (Nat.le_of_ble_eq_true rfl) ?_
  have h := h _ rfl
  refine go_aload_n dX1_copyFrom_128 rfl ?_
  refine go_getR dX1_copyFrom_129 fX1_35 rfl (Co_s0 hd) (hR _ _ _ (Co_r0_8 hd)) ?_
  refine go_iconst (v := 0) dX1_copyFrom_132 (by decide) ?_
  refine go_aload_n dX1_copyFrom_133 rfl ?_
  refine go_getR dX1_copyFrom_134 fX1_35 rfl (Co_s0 hc) (hR _ _ _ (Co_r0_8 hc)) ?_
  refine go_iconst (v := 0) dX1_copyFrom_137 (by decide) ?_
  refine go_bipush (v := 90) dX1_copyFrom_138 (by decide) ?_
  refine go_copyK dX1_copyFrom_140 lX1_55 nn_copy ns_copy ni_J10 (Co_s130 hd) (Co_s130 hc) (sk := 0) (dk := 0) (nk := 90) (by decide) (by decide) (by decide) (by decide) (by decide) (by decide) (by decide) (by decide) (Nat.le_of_ble_eq_true rfl) (Nat.le_of_ble_eq_true rfl) ?_
  have h := h _ rfl
  refine go_aload_n dX1_copyFrom_143 rfl ?_
  refine go_aload_n dX1_copyFrom_144 rfl ?_
  refine go_getI dX1_copyFrom_145 fX1_64 rfl (Co_s0 hd) ?_
  refine go_putI dX1_copyFrom_148 fX1_64 rfl rfl rfl (Co_s0 hc) ?_
  have h := h _ rfl
  refine go_aload_n dX1_copyFrom_151 rfl ?_
  refine go_aload_n dX1_copyFrom_152 rfl ?_
  refine go_getI dX1_copyFrom_153 fX1_38 rfl (Co_s0 hd) ?_
  refine go_putI dX1_copyFrom_156 fX1_38 rfl rfl rfl (Co_s0 hc) ?_
  have h := h _ rfl
  refine go_aload_n dX1_copyFrom_159 rfl ?_
  refine go_aload_n dX1_copyFrom_160 rfl ?_
  refine go_getI dX1_copyFrom_161 fX1_42 rfl (Co_s0 hd) ?_
  refine go_putI dX1_copyFrom_164 fX1_42 rfl rfl rfl (Co_s0 hc) ?_
  have h := h _ rfl
  refine go_aload_n dX1_copyFrom_167 rfl ?_
  refine go_aload_n dX1_copyFrom_168 rfl ?_
  refine go_getI dX1_copyFrom_169 fX1_67 rfl (Co_s0 hd) ?_
  refine go_putI dX1_copyFrom_172 fX1_67 rfl rfl rfl (Co_s0 hc) ?_
  have h := h _ rfl
  refine go_aload_n dX1_copyFrom_175 rfl ?_
  refine go_getR dX1_copyFrom_176 fX1_45 rfl (Co_s0 hd) (hR _ _ _ (Co_r0_13 hd)) ?_
  refine go_iconst (v := 0) dX1_copyFrom_179 (by decide) ?_
  refine go_aload_n dX1_copyFrom_180 rfl ?_
  refine go_getR dX1_copyFrom_181 fX1_45 rfl (Co_s0 hc) (hR _ _ _ (Co_r0_13 hc)) ?_
  refine go_iconst (v := 0) dX1_copyFrom_184 (by decide) ?_
  refine go_bipush (v := 9) dX1_copyFrom_185 (by decide) ?_
  refine go_copyK dX1_copyFrom_187 lX1_55 nn_copy ns_copy ni_J10 (Co_s131 hd) (Co_s131 hc) (sk := 0) (dk := 0) (nk := 9) (by decide) (by decide) (by decide) (by decide) (by decide) (by decide) (by decide) (by decide) (Nat.le_of_ble_eq_true rfl) (Nat.le_of_ble_eq_true rfl) ?_
  have h := h _ rfl
  refine go_aload_n dX1_copyFrom_190 rfl ?_
  refine go_aload_n dX1_copyFrom_191 rfl ?_
  refine go_getI dX1_copyFrom_192 fX1_70 rfl (Co_s0 hd) ?_
  refine go_putI dX1_copyFrom_195 fX1_70 rfl rfl rfl (Co_s0 hc) ?_
  have h := h _ rfl
  exact go_vret dX1_copyFrom_198 rfl rfl h
/-- step scenes of a court: where they lie -/
def psR (R : gR) (c : Nat) (p : Nat → Nat) : Prop := (∀ i, i < 30 → R (c + 5) i = some (p i) ∧ g_Sc (p i) ∧ c + 6 ≤ p i ∧ p i + 3 ≤ c + 125) ∧ ∀ i j, i < 30 → j < 30 → i ≠ j → p i + 3 < p j ∨ p j + 3 < p i
theorem scEq_tr {I I' J : gI} {x z : Nat} (h : scEq I' x I z) (h0 : ∀ a, x ≤ a → a ≤ x + 3 → J a = I' a) : scEq J x I z := by
  obtain ⟨q1, q2, q3, q4, q5, q6⟩ := h
  refine ⟨fun j hj => ?_, fun e he => ?_, fun e he => ?_, ?_, ?_, ?_⟩
  · rw [h0 _ (by omega) (by omega), q1 j hj]
  · rw [h0 _ (by omega) (by omega), q2 e he]
  · rw [h0 _ (by omega) (by omega), q3 e he]
  · rw [h0 _ (by omega) (by omega), q4]
  · rw [h0 _ (by omega) (by omega), q5]
  · rw [h0 _ (by omega) (by omega), q6]
theorem scEq_src {I I' J : gI} {x z : Nat} (h : scEq I' x I z) (h0 : ∀ a, z ≤ a → a ≤ z + 3 → J a = I a) : scEq I' x J z := by
  obtain ⟨q1, q2, q3, q4, q5, q6⟩ := h
  refine ⟨fun j hj => ?_, fun e he => ?_, fun e he => ?_, ?_, ?_, ?_⟩
  · rw [h0 _ (by omega) (by omega), q1 j hj]
  · rw [h0 _ (by omega) (by omega), q2 e he]
  · rw [h0 _ (by omega) (by omega), q3 e he]
  · rw [h0 _ (by omega) (by omega), q4]
  · rw [h0 _ (by omega) (by omega), q5]
  · rw [h0 _ (by omega) (by omega), q6]
theorem k_X1_copyFrom {G : gG} {I : gI} {R : gR} {L : gL} {Q : gQ} {c d n : Nat} {p q : Nat → Nat} (hR : g_Fx R) (hc : g_Co c) (hd : g_Co d) (hp : psR R c p) (hp' : psR R d q) (hcd : c + 131 < d ∨ d + 131 < c) (hn : I d 2 = nI n) (hn30 : n ≤ 30)
    (hq : ∀ I1 : gI, (∀ a, a < c ∨ c + 131 < a → I1 a = I a) → scEq I1 (c + 1) I (d + 1) → (∀ i, i < n → scEq I1 (p i) I (q i)) → I1 c 2 = I d 2 → I1 c 6 = I d 6 → I1 c 9 = I d 9 → I1 c 10 = I d 10 → I1 c 11 = I d 11 → I1 c 12 = I d 12 → I1 c 14 = I d 14 → (∀ e, e < 9 → I1 (c + 126) e = I (d + 126) e) → (∀ e, e < 9 → I1 (c + 127) e = I (d + 127) e) → (∀ e, e < 9 → I1 (c + 128) e = I (d + 128) e) → (∀ j, j < 240 → I1 (c + 129) j = I (d + 129) j) → (∀ j, j < 90 → I1 (c + 130) j = I (d + 130) j) → (∀ e, e < 9 → I1 (c + 131) e = I (d + 131) e) → Q none SH I1 R L) : Mt G mX1_copyFrom 4 0 0 [.ref c, .ref d] SH I R L Q := by
  have z30 : (30 : Int32) = nI 30 := rfl
  have tail : ∀ I0 : gI, (∀ a, a < c ∨ c + 131 < a → I0 a = I a) → scEq I0 (c + 1) I (d + 1) → (∀ i, i < n → scEq I0 (p i) I (q i)) → I0 c 2 = I d 2 → Go G mX1_copyFrom 4 0 0 59 [some (.ref c), some (.ref d), none] [] SH I0 R L Q := by
    intro I0 h1 h2 h3 h4
    refine b_X1_copyFrom_59 hR hc hd ?_
    rintro _ rfl _ rfl _ rfl _ rfl _ rfl _ rfl _ rfl _ rfl _ rfl _ rfl _ rfl _ rfl
    have off : ∀ (I1 I2 I3 : gI), (∀ a, a < c ∨ c + 131 < a → I1 a = I a) → True := fun _ _ _ _ => trivial
    clear off
    have ed : ∀ k, (k ≤ 131) → I0 (d + k) = I (d + k) := fun k hk => h1 _ (by omega)
    have ed0 : I0 d = I d := h1 _ (by omega)
    refine hq _ (fun a ha => ?_) (scEq_tr h2 (fun a h5 h6 => ?_)) (fun i hi => scEq_tr (h3 i hi) (fun a h5 h6 => ?_)) ?_ ?_ ?_ ?_ ?_ ?_ ?_ (fun e he => ?_) (fun e he => ?_) (fun e he => ?_) (fun e he => ?_) (fun e he => ?_) (fun e he => ?_)
    · simp only [up_off a (show a ≠ c by omega), cpy_off (show a ≠ c + 126 by omega), cpy_off (show a ≠ c + 127 by omega), cpy_off (show a ≠ c + 128 by omega), cpy_off (show a ≠ c + 129 by omega), cpy_off (show a ≠ c + 130 by omega), cpy_off (show a ≠ c + 131 by omega), h1 a ha]
    · simp only [up_off a (show a ≠ c by omega), cpy_off (show a ≠ c + 126 by omega), cpy_off (show a ≠ c + 127 by omega), cpy_off (show a ≠ c + 128 by omega), cpy_off (show a ≠ c + 129 by omega), cpy_off (show a ≠ c + 130 by omega), cpy_off (show a ≠ c + 131 by omega)]
    · have := hp.1 i (by omega)
      simp only [up_off a (show a ≠ c by omega), cpy_off (show a ≠ c + 126 by omega), cpy_off (show a ≠ c + 127 by omega), cpy_off (show a ≠ c + 128 by omega), cpy_off (show a ≠ c + 129 by omega), cpy_off (show a ≠ c + 130 by omega), cpy_off (show a ≠ c + 131 by omega)]
    · simp only [up_ni (show (2 : Nat) ≠ 14 by decide), up_ni (show (2 : Nat) ≠ 12 by decide), up_ni (show (2 : Nat) ≠ 11 by decide), up_ni (show (2 : Nat) ≠ 10 by decide), up_ni (show (2 : Nat) ≠ 9 by decide), up_ni (show (2 : Nat) ≠ 6 by decide), cpy_off (show c ≠ c + 126 by omega), cpy_off (show c ≠ c + 127 by omega), cpy_off (show c ≠ c + 128 by omega), cpy_off (show c ≠ c + 129 by omega), cpy_off (show c ≠ c + 130 by omega), cpy_off (show c ≠ c + 131 by omega), h4]
    all_goals (try simp only [up_eq, up_ni (show (6 : Nat) ≠ 14 by decide), up_ni (show (6 : Nat) ≠ 12 by decide), up_ni (show (6 : Nat) ≠ 11 by decide), up_ni (show (6 : Nat) ≠ 10 by decide), up_ni (show (6 : Nat) ≠ 9 by decide), up_ni (show (9 : Nat) ≠ 14 by decide), up_ni (show (9 : Nat) ≠ 12 by decide), up_ni (show (9 : Nat) ≠ 11 by decide), up_ni (show (9 : Nat) ≠ 10 by decide), up_ni (show (10 : Nat) ≠ 14 by decide), up_ni (show (10 : Nat) ≠ 12 by decide), up_ni (show (10 : Nat) ≠ 11 by decide), up_ni (show (11 : Nat) ≠ 14 by decide), up_ni (show (11 : Nat) ≠ 12 by decide), up_ni (show (12 : Nat) ≠ 14 by decide), cpy_off (show c ≠ c + 126 by omega), cpy_off (show c ≠ c + 127 by omega), cpy_off (show c ≠ c + 128 by omega), cpy_off (show c ≠ c + 129 by omega), cpy_off (show c ≠ c + 130 by omega), cpy_off (show c ≠ c + 131 by omega), up_nc (show d ≠ c by omega), cpy_off (show d ≠ c + 126 by omega), cpy_off (show d ≠ c + 127 by omega), cpy_off (show d ≠ c + 128 by omega), cpy_off (show d ≠ c + 129 by omega), cpy_off (show d ≠ c + 130 by omega), cpy_off (show d ≠ c + 131 by omega), ed0])
    · rw [up_nc (by omega), cpy_off (by omega), up_nc (by omega), up_nc (by omega), up_nc (by omega), up_nc (by omega), cpy_off (by omega), cpy_off (by omega), up_nc (by omega), cpy_off (by omega), cpy_off (by omega), cpy_at, if_pos (by omega), ed 126 (by omega)]; congr 1; omega
    · rw [up_nc (by omega), cpy_off (by omega), up_nc (by omega), up_nc (by omega), up_nc (by omega), up_nc (by omega), cpy_off (by omega), cpy_off (by omega), up_nc (by omega), cpy_off (by omega), cpy_at, if_pos (by omega), cpy_off (by omega), ed 127 (by omega)]; congr 1; omega
    · rw [up_nc (by omega), cpy_off (by omega), up_nc (by omega), up_nc (by omega), up_nc (by omega), up_nc (by omega), cpy_off (by omega), cpy_off (by omega), up_nc (by omega), cpy_at, if_pos (by omega), cpy_off (by omega), cpy_off (by omega), ed 128 (by omega)]; congr 1; omega
    · rw [up_nc (by omega), cpy_off (by omega), up_nc (by omega), up_nc (by omega), up_nc (by omega), up_nc (by omega), cpy_off (by omega), cpy_at, if_pos (by omega), up_nc (by omega), cpy_off (by omega), cpy_off (by omega), cpy_off (by omega), ed 129 (by omega)]; congr 1; omega
    · rw [up_nc (by omega), cpy_off (by omega), up_nc (by omega), up_nc (by omega), up_nc (by omega), up_nc (by omega), cpy_at, if_pos (by omega), cpy_off (by omega), up_nc (by omega), cpy_off (by omega), cpy_off (by omega), cpy_off (by omega), ed 130 (by omega)]; congr 1; omega
    · rw [up_nc (by omega), cpy_at, if_pos (by omega), up_nc (by omega), up_nc (by omega), up_nc (by omega), up_nc (by omega), cpy_off (by omega), cpy_off (by omega), up_nc (by omega), cpy_off (by omega), cpy_off (by omega), cpy_off (by omega), ed 131 (by omega)]; congr 1; omega
  refine e_X1_copyFrom hR hc hd ?_
  rintro _ rfl _ rfl
  have h := cnt (P := fun i => ∀ I0 : gI, (∀ a, a < c ∨ c + 131 < a → I0 a = I a) → scEq I0 (c + 1) I (d + 1) → (∀ k, k < i → scEq I0 (p k) I (q k)) → I0 c 2 = I d 2 → Go G mX1_copyFrom 4 0 0 21 [some (.ref c), some (.ref d), some (.int (nI i))] [] SH I0 R L Q) n (fun i hi hP => ?_) ?_
  · refine h _ (fun a ha => ?_) (scEq_tr (cpSc_eq (by omega)) (fun a h1 h2 => up_off a (by omega))) (fun k hk => by omega) ?_
    · rw [up_off a (by omega), cpSc_off (by omega)]
    · rw [up_eq, cpSc_off (by omega)]
  · intro I0 h1 h2 h3 h4
    have a1 := hp.1 i (by omega)
    have a2 := hp'.1 i (by omega)
    refine b_X1_copyFrom_21 hR hc hd ⟨fun c1 => ?_, fun _ => ⟨fun c1 => absurd c1 (nI_ge (b := 30) (by omega) (by decide)), fun _ => ⟨vp_in_nI (by omega) (by decide), p i, ?_, a1.2.1, vp_in_nI (by omega) (by decide), q i, ?_, a2.2.1, ?_⟩⟩⟩
    · rw [h4, hn] at c1
      exact absurd c1 (nI_ge hi (by omega))
    · rw [nI_clamp (by omega)]; exact a1.1
    · rw [nI_clamp (by omega)]; exact a2.1
    · rintro _ rfl _ rfl
      rw [nI_1]
      refine hP _ (fun a ha => by rw [cpSc_off (by omega), h1 a ha]) (scEq_tr h2 (fun a h5 h6 => cpSc_off (by omega))) (fun k hk => ?_) (by rw [cpSc_off (by omega), h4])
      by_cases hki : k = i
      · rw [hki]
        exact scEq_src (cpSc_eq (by omega)) (fun a h5 h6 => (h1 a (by omega)).symm)
      · have := hp.2 k i (by omega) (by omega) hki
        exact scEq_tr (h3 k (by omega)) (fun a h5 h6 => cpSc_off (by omega))
  · intro I0 h1 h2 h3 h4
    have := tail I0 h1 h2 h3 h4
    refine b_X1_copyFrom_21 hR hc hd ⟨fun _ => this, fun c1 => ?_⟩
    rw [h4, hn] at c1
    exact absurd (nI_le (Nat.le_refl n) (by omega)) c1
