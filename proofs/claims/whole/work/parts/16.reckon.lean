theorem e_X0_reckon {G : gG} {I : gI} {R : gR} {L : gL} {Q : gQ} {v : Int32} {y : Nat} (hR : g_Fx R) (hy : g_La y) (h : vp_in v 3 ∧ (∀ v4_1 : Int32, v4_1 = (I (y + 2) v.toNatClampNeg) → Go G mX0_reckon 2 0 0 10 [some (.ref 2), some (.ref y), some (.int v), some (.int 0), some (.int v4_1), none, none] [] SH I R L Q)) : Mt G mX0_reckon 2 0 0 [.ref 2, .ref y, .int v] SH I R L Q := by
  refine go_start rfl (Nat.le_of_ble_eq_true rfl) rfl ?_
  refine go_iconst (v := 0) dX0_reckon_0 (by decide) ?_
  refine go_istore_n dX0_reckon_1 (Nat.le_of_ble_eq_true rfl) rfl ?_
  refine go_aload_n dX0_reckon_2 rfl ?_
  refine go_getR dX0_reckon_3 fX0_95 rfl (La_s0 hy) (hR _ _ _ (La_r0_2 hy)) ?_
  refine go_iload_n dX0_reckon_6 rfl ?_
  obtain ⟨hi, h⟩ := h
  refine go_iald dX0_reckon_7 (La_s2 hy) hi ?_
  refine go_istore dX0_reckon_8 (Nat.le_of_ble_eq_true rfl) rfl ?_
  have h := h _ rfl
  exact h
theorem b_X0_reckon_10 {G : gG} {I : gI} {R : gR} {L : gL} {Q : gQ} {v2 v3 v4 : Int32} {y : Nat} (hR : g_Fx R) (hy : g_La y) (h : (v4 < 0 → (1 ≤ v3 → Q (some (.int (I 165 0))) SH I R L) ∧ (¬ 1 ≤ v3 → Q (some (.int 0)) SH I R L)) ∧ (¬ v4 < 0 → vp_in v2 3 ∧ (((I (y + 3) v2.toNatClampNeg) ≤ v4 → (1 ≤ v3 → Q (some (.int (I 165 0))) SH I R L) ∧ (¬ 1 ≤ v3 → Q (some (.int 0)) SH I R L)) ∧ (¬ (I (y + 3) v2.toNatClampNeg) ≤ v4 → (300 ≤ v4 → (1 ≤ v3 → Q (some (.int (I 165 0))) SH I R L) ∧ (¬ 1 ≤ v3 → Q (some (.int 0)) SH I R L)) ∧ (¬ 300 ≤ v4 → vp_in v4 300 ∧ (∀ v5_5 : Int32, v5_5 = (I (y + 1) v4.toNatClampNeg) → ∀ v6_6 : Int32, v6_6 = (v5_5 - 10000) → (¬ (v5_5 < 10000 ∨ (10012 ≤ v5_5 ∧ v5_5 < 10024)) → Go G mX0_reckon 2 0 0 105 [some (.ref 2), some (.ref y), some (.int v2), some (.int v3), some (.int v4), none, some (.int v6_6)] [] SH I R L Q) ∧ (v5_5 < 10000 ∨ (10012 ≤ v5_5 ∧ v5_5 < 10024) → (64 ≤ v3 → Go G mX0_reckon 2 0 0 105 [some (.ref 2), some (.ref y), some (.int v2), some (.int v3), some (.int v4), none, some (.int v6_6)] [] SH I R L Q) ∧ (¬ 64 ≤ v3 → (10000 ≤ v5_5 → vp_in (v6_6 - 12) 12 ∧ (vp_in v3 64 ∧ (∀ I_7 : gI, I_7 = up I 165 v3.toNatClampNeg (I 164 (v6_6 - 12).toNatClampNeg) → ∀ v3_8 : Int32, v3_8 = v3 + 1 → ∀ v4_9 : Int32, v4_9 = v4 + 1 → Go G mX0_reckon 2 0 0 10 [some (.ref 2), some (.ref y), some (.int v2), some (.int v3_8), some (.int v4_9), none, none] [] SH I_7 R L Q))) ∧ (¬ 10000 ≤ v5_5 → vp_in v3 64 ∧ (∀ I_10 : gI, I_10 = up I 165 v3.toNatClampNeg v5_5 → ∀ v3_11 : Int32, v3_11 = v3 + 1 → ∀ v4_12 : Int32, v4_12 = v4 + 1 → Go G mX0_reckon 2 0 0 10 [some (.ref 2), some (.ref y), some (.int v2), some (.int v3_11), some (.int v4_12), none, none] [] SH I_10 R L Q)))))))))) : Go G mX0_reckon 2 0 0 10 [some (.ref 2), some (.ref y), some (.int v2), some (.int v3), some (.int v4), none, none] [] SH I R L Q := by
  refine go_iload dX0_reckon_10 rfl ?_
  refine go_if_lt 211 dX0_reckon_12 (by decide) (fun c => ?_) (fun c => ?_)
  · have h := h.1 c
    refine go_iload_n dX0_reckon_211 rfl ?_
    refine go_iconst (v := 1) dX0_reckon_212 (by decide) ?_
    refine go_icmp_ge 220 dX0_reckon_213 (by decide) (fun c => ?_) (fun c => ?_)
    · have h := h.1 c
      refine go_aload_n dX0_reckon_220 rfl ?_
      refine go_getR dX0_reckon_221 fX0_29 rfl rfl (hR 2 3 165 rfl) ?_
      refine go_iconst (v := 0) dX0_reckon_224 (by decide) ?_
      refine go_ialdK dX0_reckon_225 rfl (vp_in_nI (n := 0) (by decide) (by decide)) (k := 0) (by decide) ?_
      exact go_iret dX0_reckon_226 rfl rfl h
    · have h := h.2 c
      refine go_iconst (v := 0) dX0_reckon_216 (by decide) ?_
      refine go_goto 226 dX0_reckon_217 (by decide) ?_
      exact go_iret dX0_reckon_226 rfl rfl h
  · have h := h.2 c
    refine go_iload dX0_reckon_15 rfl ?_
    refine go_aload_n dX0_reckon_17 rfl ?_
    refine go_getR dX0_reckon_18 fX0_98 rfl (La_s0 hy) (hR _ _ _ (La_r0_3 hy)) ?_
    refine go_iload_n dX0_reckon_21 rfl ?_
    obtain ⟨hi, h⟩ := h
    refine go_iald dX0_reckon_22 (La_s3 hy) hi ?_
    refine go_icmp_ge 211 dX0_reckon_23 (by decide) (fun c => ?_) (fun c => ?_)
    · have h := h.1 c
      refine go_iload_n dX0_reckon_211 rfl ?_
      refine go_iconst (v := 1) dX0_reckon_212 (by decide) ?_
      refine go_icmp_ge 220 dX0_reckon_213 (by decide) (fun c => ?_) (fun c => ?_)
      · have h := h.1 c
        refine go_aload_n dX0_reckon_220 rfl ?_
        refine go_getR dX0_reckon_221 fX0_29 rfl rfl (hR 2 3 165 rfl) ?_
        refine go_iconst (v := 0) dX0_reckon_224 (by decide) ?_
        refine go_ialdK dX0_reckon_225 rfl (vp_in_nI (n := 0) (by decide) (by decide)) (k := 0) (by decide) ?_
        exact go_iret dX0_reckon_226 rfl rfl h
      · have h := h.2 c
        refine go_iconst (v := 0) dX0_reckon_216 (by decide) ?_
        refine go_goto 226 dX0_reckon_217 (by decide) ?_
        exact go_iret dX0_reckon_226 rfl rfl h
    · have h := h.2 c
      refine go_iload dX0_reckon_26 rfl ?_
      refine go_aload_n dX0_reckon_28 rfl ?_
      refine go_getR dX0_reckon_29 fX0_101 rfl (La_s0 hy) (hR _ _ _ (La_r0_0 hy)) ?_
      refine go_alen (v := 300) 0 dX0_reckon_32 (La_s1 hy) (by decide) (by decide) ?_
      refine go_icmp_ge 211 dX0_reckon_33 (by decide) (fun c => ?_) (fun c => ?_)
      · have h := h.1 c
        refine go_iload_n dX0_reckon_211 rfl ?_
        refine go_iconst (v := 1) dX0_reckon_212 (by decide) ?_
        refine go_icmp_ge 220 dX0_reckon_213 (by decide) (fun c => ?_) (fun c => ?_)
        · have h := h.1 c
          refine go_aload_n dX0_reckon_220 rfl ?_
          refine go_getR dX0_reckon_221 fX0_29 rfl rfl (hR 2 3 165 rfl) ?_
          refine go_iconst (v := 0) dX0_reckon_224 (by decide) ?_
          refine go_ialdK dX0_reckon_225 rfl (vp_in_nI (n := 0) (by decide) (by decide)) (k := 0) (by decide) ?_
          exact go_iret dX0_reckon_226 rfl rfl h
        · have h := h.2 c
          refine go_iconst (v := 0) dX0_reckon_216 (by decide) ?_
          refine go_goto 226 dX0_reckon_217 (by decide) ?_
          exact go_iret dX0_reckon_226 rfl rfl h
      · have h := h.2 c
        refine go_aload_n dX0_reckon_36 rfl ?_
        refine go_getR dX0_reckon_37 fX0_101 rfl (La_s0 hy) (hR _ _ _ (La_r0_0 hy)) ?_
        refine go_iload dX0_reckon_40 rfl ?_
        obtain ⟨hi, h⟩ := h
        refine go_iald dX0_reckon_42 (La_s1 hy) hi ?_
        refine go_istore dX0_reckon_43 (Nat.le_of_ble_eq_true rfl) rfl ?_
        have h := h _ rfl
        refine go_iload dX0_reckon_45 rfl ?_
        refine go_sipush (v := 10000) dX0_reckon_47 (by decide) ?_
        refine go_isub dX0_reckon_50 ?_
        refine go_istore dX0_reckon_51 (Nat.le_of_ble_eq_true rfl) rfl ?_
        have h := h _ rfl
        refine go_iload dX0_reckon_53 rfl ?_
        refine go_callS0 (μ := mX0_reckon) [.int _] dX0_reckon_55 YX0_isValue lX0_104 rfl (Nat.le_of_ble_eq_true rfl) (Nat.le_of_ble_eq_true rfl) rfl (k_X0_isValue hR ?_)
        refine go_if_eq 105 dX0_reckon_58 (by decide) (fun c => ?_) (fun c => ?_)
        · have h := h.1 (b0.mp c)
          refine go_drop 5 ?_
          exact h
        · have h := h.2 (b1.mp c)
          refine go_iload_n dX0_reckon_61 rfl ?_
          refine go_aload_n dX0_reckon_62 rfl ?_
          refine go_getR dX0_reckon_63 fX0_29 rfl rfl (hR 2 3 165 rfl) ?_
          refine go_alen (v := 64) 0 dX0_reckon_66 rfl (by decide) (by decide) ?_
          refine go_icmp_ge 105 dX0_reckon_67 (by decide) (fun c => ?_) (fun c => ?_)
          · have h := h.1 c
            refine go_drop 5 ?_
            exact h
          · have h := h.2 c
            refine go_aload_n dX0_reckon_70 rfl ?_
            refine go_getR dX0_reckon_71 fX0_29 rfl rfl (hR 2 3 165 rfl) ?_
            refine go_iload_n dX0_reckon_74 rfl ?_
            refine go_iload dX0_reckon_75 rfl ?_
            refine go_sipush (v := 10000) dX0_reckon_77 (by decide) ?_
            refine go_icmp_ge 88 dX0_reckon_80 (by decide) (fun c => ?_) (fun c => ?_)
            · have h := h.1 c
              refine go_aload_n dX0_reckon_88 rfl ?_
              refine go_getR dX0_reckon_89 fX0_25 rfl rfl (hR 2 2 164 rfl) ?_
              refine go_iload dX0_reckon_92 rfl ?_
              refine go_bipush (v := 12) dX0_reckon_94 (by decide) ?_
              refine go_isub dX0_reckon_96 ?_
              obtain ⟨hi, h⟩ := h
              refine go_iald dX0_reckon_97 rfl hi ?_
              obtain ⟨hi, h⟩ := h
              refine go_iast dX0_reckon_98 rfl hi ?_
              have h := h _ rfl
              refine go_iinc dX0_reckon_99 rfl (Nat.le_of_ble_eq_true rfl) rfl ?_
              have h := h _ rfl
              refine go_goto 205 dX0_reckon_102 (by decide) ?_
              refine go_iinc dX0_reckon_205 rfl (Nat.le_of_ble_eq_true rfl) rfl ?_
              have h := h _ rfl
              refine go_goto 10 dX0_reckon_208 (by decide) ?_
              refine go_drop 5 ?_
              refine go_drop 6 ?_
              exact h
            · have h := h.2 c
              refine go_iload dX0_reckon_83 rfl ?_
              refine go_goto 98 dX0_reckon_85 (by decide) ?_
              obtain ⟨hi, h⟩ := h
              refine go_iast dX0_reckon_98 rfl hi ?_
              have h := h _ rfl
              refine go_iinc dX0_reckon_99 rfl (Nat.le_of_ble_eq_true rfl) rfl ?_
              have h := h _ rfl
              refine go_goto 205 dX0_reckon_102 (by decide) ?_
              refine go_iinc dX0_reckon_205 rfl (Nat.le_of_ble_eq_true rfl) rfl ?_
              have h := h _ rfl
              refine go_goto 10 dX0_reckon_208 (by decide) ?_
              refine go_drop 5 ?_
              refine go_drop 6 ?_
              exact h
theorem b_X0_reckon_105 {G : gG} {I : gI} {R : gR} {L : gL} {Q : gQ} {v2 v3 v4 v6 : Int32} {y : Nat} (hR : g_Fx R) (hy : g_La y) (h : (¬ v6 = 40 → Go G mX0_reckon 2 0 0 137 [some (.ref 2), some (.ref y), some (.int v2), some (.int v3), some (.int v4), none, some (.int v6)] [] SH I R L Q) ∧ (v6 = 40 → (v3 < 1 → Go G mX0_reckon 2 0 0 137 [some (.ref 2), some (.ref y), some (.int v2), some (.int v3), some (.int v4), none, some (.int v6)] [] SH I R L Q) ∧ (¬ v3 < 1 → vp_in (v3 - 1) 64 ∧ (vp_in (v3 - 1) 64 ∧ (∀ I_19 : gI, I_19 = up I 165 (v3 - 1).toNatClampNeg (-(I 165 (v3 - 1).toNatClampNeg)) → ∀ v4_20 : Int32, v4_20 = v4 + 1 → Go G mX0_reckon 2 0 0 10 [some (.ref 2), some (.ref y), some (.int v2), some (.int v3), some (.int v4_20), none, none] [] SH I_19 R L Q))))) : Go G mX0_reckon 2 0 0 105 [some (.ref 2), some (.ref y), some (.int v2), some (.int v3), some (.int v4), none, some (.int v6)] [] SH I R L Q := by
  refine go_iload dX0_reckon_105 rfl ?_
  refine go_bipush (v := 40) dX0_reckon_107 (by decide) ?_
  refine go_icmp_ne 137 dX0_reckon_109 (by decide) (fun c => ?_) (fun c => ?_)
  · have h := h.1 c
    exact h
  · have h := h.2 c
    refine go_iload_n dX0_reckon_112 rfl ?_
    refine go_iconst (v := 1) dX0_reckon_113 (by decide) ?_
    refine go_icmp_lt 137 dX0_reckon_114 (by decide) (fun c => ?_) (fun c => ?_)
    · have h := h.1 c
      exact h
    · have h := h.2 c
      refine go_aload_n dX0_reckon_117 rfl ?_
      refine go_getR dX0_reckon_118 fX0_29 rfl rfl (hR 2 3 165 rfl) ?_
      refine go_iload_n dX0_reckon_121 rfl ?_
      refine go_iconst (v := 1) dX0_reckon_122 (by decide) ?_
      refine go_isub dX0_reckon_123 ?_
      refine go_aload_n dX0_reckon_124 rfl ?_
      refine go_getR dX0_reckon_125 fX0_29 rfl rfl (hR 2 3 165 rfl) ?_
      refine go_iload_n dX0_reckon_128 rfl ?_
      refine go_iconst (v := 1) dX0_reckon_129 (by decide) ?_
      refine go_isub dX0_reckon_130 ?_
      obtain ⟨hi, h⟩ := h
      refine go_iald dX0_reckon_131 rfl hi ?_
      refine go_ineg dX0_reckon_132 ?_
      obtain ⟨hi, h⟩ := h
      refine go_iast dX0_reckon_133 rfl hi ?_
      have h := h _ rfl
      refine go_goto 205 dX0_reckon_134 (by decide) ?_
      refine go_iinc dX0_reckon_205 rfl (Nat.le_of_ble_eq_true rfl) rfl ?_
      have h := h _ rfl
      refine go_goto 10 dX0_reckon_208 (by decide) ?_
      refine go_drop 6 ?_
      exact h
theorem b_X0_reckon_137 {G : gG} {I : gI} {R : gR} {L : gL} {Q : gQ} {v2 v3 v4 v6 : Int32} {y : Nat} (hR : g_Fx R) (hy : g_La y) (h : (¬ v6 = 11 → Go G mX0_reckon 2 0 0 170 [some (.ref 2), some (.ref y), some (.int v2), some (.int v3), some (.int v4), none, some (.int v6)] [] SH I R L Q) ∧ (v6 = 11 → (v3 < 1 → Go G mX0_reckon 2 0 0 170 [some (.ref 2), some (.ref y), some (.int v2), some (.int v3), some (.int v4), none, some (.int v6)] [] SH I R L Q) ∧ (¬ v3 < 1 → vp_in (v3 - 1) 64 ∧ (vp_in (v3 - 1) 64 ∧ (∀ I_23 : gI, I_23 = up I 165 (v3 - 1).toNatClampNeg (1 - (I 165 (v3 - 1).toNatClampNeg)) → ∀ v4_24 : Int32, v4_24 = v4 + 1 → Go G mX0_reckon 2 0 0 10 [some (.ref 2), some (.ref y), some (.int v2), some (.int v3), some (.int v4_24), none, none] [] SH I_23 R L Q))))) : Go G mX0_reckon 2 0 0 137 [some (.ref 2), some (.ref y), some (.int v2), some (.int v3), some (.int v4), none, some (.int v6)] [] SH I R L Q := by
  refine go_iload dX0_reckon_137 rfl ?_
  refine go_bipush (v := 11) dX0_reckon_139 (by decide) ?_
  refine go_icmp_ne 170 dX0_reckon_141 (by decide) (fun c => ?_) (fun c => ?_)
  · have h := h.1 c
    exact h
  · have h := h.2 c
    refine go_iload_n dX0_reckon_144 rfl ?_
    refine go_iconst (v := 1) dX0_reckon_145 (by decide) ?_
    refine go_icmp_lt 170 dX0_reckon_146 (by decide) (fun c => ?_) (fun c => ?_)
    · have h := h.1 c
      exact h
    · have h := h.2 c
      refine go_aload_n dX0_reckon_149 rfl ?_
      refine go_getR dX0_reckon_150 fX0_29 rfl rfl (hR 2 3 165 rfl) ?_
      refine go_iload_n dX0_reckon_153 rfl ?_
      refine go_iconst (v := 1) dX0_reckon_154 (by decide) ?_
      refine go_isub dX0_reckon_155 ?_
      refine go_iconst (v := 1) dX0_reckon_156 (by decide) ?_
      refine go_aload_n dX0_reckon_157 rfl ?_
      refine go_getR dX0_reckon_158 fX0_29 rfl rfl (hR 2 3 165 rfl) ?_
      refine go_iload_n dX0_reckon_161 rfl ?_
      refine go_iconst (v := 1) dX0_reckon_162 (by decide) ?_
      refine go_isub dX0_reckon_163 ?_
      obtain ⟨hi, h⟩ := h
      refine go_iald dX0_reckon_164 rfl hi ?_
      refine go_isub dX0_reckon_165 ?_
      obtain ⟨hi, h⟩ := h
      refine go_iast dX0_reckon_166 rfl hi ?_
      have h := h _ rfl
      refine go_goto 205 dX0_reckon_167 (by decide) ?_
      refine go_iinc dX0_reckon_205 rfl (Nat.le_of_ble_eq_true rfl) rfl ?_
      have h := h _ rfl
      refine go_goto 10 dX0_reckon_208 (by decide) ?_
      refine go_drop 6 ?_
      exact h
theorem b_X0_reckon_170 {G : gG} {I : gI} {R : gR} {L : gL} {Q : gQ} {v2 v3 v4 v6 : Int32} {y : Nat} (hR : g_Fx R) (hy : g_La y) (h : (v3 < 2 → ∀ v4_27 : Int32, v4_27 = v4 + 1 → Go G mX0_reckon 2 0 0 10 [some (.ref 2), some (.ref y), some (.int v2), some (.int v3), some (.int v4_27), none, none] [] SH I R L Q) ∧ (¬ v3 < 2 → ∀ v3_28 : Int32, v3_28 = v3 + (-1) → vp_in (v3_28 - 1) 64 ∧ (vp_in v3_28 64 ∧ (vp_in (v3_28 - 1) 64 ∧ (∀ I_29 : gI, I_29 = up I 165 (v3_28 - 1).toNatClampNeg (cmbI v6 (I 165 (v3_28 - 1).toNatClampNeg) (I 165 v3_28.toNatClampNeg)) → ∀ v4_30 : Int32, v4_30 = v4 + 1 → Go G mX0_reckon 2 0 0 10 [some (.ref 2), some (.ref y), some (.int v2), some (.int v3_28), some (.int v4_30), none, none] [] SH I_29 R L Q))))) : Go G mX0_reckon 2 0 0 170 [some (.ref 2), some (.ref y), some (.int v2), some (.int v3), some (.int v4), none, some (.int v6)] [] SH I R L Q := by
  refine go_iload_n dX0_reckon_170 rfl ?_
  refine go_iconst (v := 2) dX0_reckon_171 (by decide) ?_
  refine go_icmp_lt 205 dX0_reckon_172 (by decide) (fun c => ?_) (fun c => ?_)
  · have h := h.1 c
    refine go_iinc dX0_reckon_205 rfl (Nat.le_of_ble_eq_true rfl) rfl ?_
    have h := h _ rfl
    refine go_goto 10 dX0_reckon_208 (by decide) ?_
    refine go_drop 6 ?_
    exact h
  · have h := h.2 c
    refine go_iinc dX0_reckon_175 rfl (Nat.le_of_ble_eq_true rfl) rfl ?_
    have h := h _ rfl
    refine go_aload_n dX0_reckon_178 rfl ?_
    refine go_getR dX0_reckon_179 fX0_29 rfl rfl (hR 2 3 165 rfl) ?_
    refine go_iload_n dX0_reckon_182 rfl ?_
    refine go_iconst (v := 1) dX0_reckon_183 (by decide) ?_
    refine go_isub dX0_reckon_184 ?_
    refine go_iload dX0_reckon_185 rfl ?_
    refine go_aload_n dX0_reckon_187 rfl ?_
    refine go_getR dX0_reckon_188 fX0_29 rfl rfl (hR 2 3 165 rfl) ?_
    refine go_iload_n dX0_reckon_191 rfl ?_
    refine go_iconst (v := 1) dX0_reckon_192 (by decide) ?_
    refine go_isub dX0_reckon_193 ?_
    obtain ⟨hi, h⟩ := h
    refine go_iald dX0_reckon_194 rfl hi ?_
    refine go_aload_n dX0_reckon_195 rfl ?_
    refine go_getR dX0_reckon_196 fX0_29 rfl rfl (hR 2 3 165 rfl) ?_
    refine go_iload_n dX0_reckon_199 rfl ?_
    obtain ⟨hi, h⟩ := h
    refine go_iald dX0_reckon_200 rfl hi ?_
    refine go_callS0 (μ := mX0_reckon) [.int _, .int _, .int _] dX0_reckon_201 YX0_combine lX0_107 rfl (Nat.le_of_ble_eq_true rfl) (Nat.le_of_ble_eq_true rfl) rfl (k_X0_combine hR ?_)
    obtain ⟨hi, h⟩ := h
    refine go_iast dX0_reckon_204 rfl hi ?_
    have h := h _ rfl
    refine go_iinc dX0_reckon_205 rfl (Nat.le_of_ble_eq_true rfl) rfl ?_
    have h := h _ rfl
    refine go_goto 10 dX0_reckon_208 (by decide) ?_
    refine go_drop 6 ?_
    exact h
def tksC (g : Nat → Int32) : Nat → Nat → List tok
  | _, 0 => []
  | i, n + 1 => tkC (g i).toInt :: tksC g (i + 1) n
theorem tkO_cases (t : Int) : tkO t = 0 ∨ tkO t = 407 ∨ tkO t = 406 ∨ tkO t = 60 ∨ tkO t = 62 ∨ tkO t = 61 ∨ tkO t = 35 ∨ tkO t = 43 ∨ tkO t = 45 ∨ tkO t = 42 ∨ tkO t = 47 ∨ tkO t = 300 ∨ tkO t = 301 := by
  unfold tkO; grind (splits := 20)
theorem La_165 {y : Nat} (h : g_La y) : y + 1 ≠ 165 ∧ y + 2 ≠ 165 ∧ y + 3 ≠ 165 := by
  refine ⟨fun e => ?_, fun e => ?_, fun e => ?_⟩
  · have := La_s1 h; rw [e] at this; exact absurd this (by decide)
  · have := La_s2 h; rw [e] at this; exact absurd this (by decide)
  · have := La_s3 h; rw [e] at this; exact absurd this (by decide)
theorem stk_push {I : gI} {st : List Int} {x : Int32} (hs : stk (fun j => (I 165 j).toInt) st) : stk (fun j => (up I 165 st.length x 165 j).toInt) (x.toInt :: st) := by
  refine ⟨by simp [up], stk_of (fun j hj => ?_) hs⟩
  have : j ≠ st.length := by omega
  simp [up, this]
theorem stk_set {I : gI} {st : List Int} {v : Int} {x : Int32} (hs : stk (fun j => (I 165 j).toInt) (v :: st)) : stk (fun j => (up I 165 st.length x 165 j).toInt) (x.toInt :: st) := stk_push hs.2
theorem up_keep {I I0 : gI} {c k : Nat} {x : Int32} (h : ∀ a, a ≠ c → I a = I0 a) : ∀ a, a ≠ c → up I c k x a = I0 a := fun a ha => (up_off a ha).trans (h a ha)
set_option maxHeartbeats 1000000 in
theorem reck_loop {G : gG} {R : gR} {L : gL} {Q : gQ} {y : Nat} {v2 : Int32} (hR : g_Fx R) (hy : g_La y) {g : Nat → Int32} {nm : Nat → Int} {till : Nat} (ht : till ≤ 300) (hv2 : vp_in v2 3) {I0 : gI} (hg : I0 (y + 1) = g) (hnm : ∀ n, (I0 164 n).toInt = nm n) (htl : I0 (y + 3) v2.toNatClampNeg = nI till) {b : Bool} :
    ∀ (n i : Nat) (st : List Int) (bs : List Bool) (I : gI), i + n = till → (∀ a, a ≠ 165 → I a = I0 a) → stk (fun j => (I 165 j).toInt) st → oks bs st → bs.length ≤ 60 → tyc (tksC g i n) bs = some [b] → (∀ t ∈ tksC g i n, okn nm t) →
    (∀ (I' : gI) (z : Int), (∀ a, a ≠ 165 → I' a = I0 a) → ev nm (tksC g i n) st = [z] → (I' 165 0).toInt = z → Q (some (.int (I' 165 0))) SH I' R L) →
    Go G mX0_reckon 2 0 0 10 [some (.ref 2), some (.ref y), some (.int v2), some (.int (nI st.length)), some (.int (nI i)), none, none] [] SH I R L Q := by
  obtain ⟨ny1, -, ny3⟩ := La_165 hy
  intro n
  induction n with
  | zero =>
    intro i st bs I hi hI hs ho hl hty _ hq
    have hb : bs = [b] := Option.some.inj hty
    subst hb
    have hlen := oks_len ho
    match st, hlen with
    | [z], _ =>
      refine b_X0_reckon_10 hR hy ⟨fun c => absurd c (nI_pos (by omega)), fun _ => ⟨hv2, fun _ => ⟨fun _ => hq I z hI rfl hs.1, fun c => absurd (show (1 : Int32) ≤ nI 1 by decide) c⟩, fun c => absurd ?_ c⟩⟩
      rw [hI _ ny3, htl, show till = i by omega]
      exact ti_le.mpr (Int.le_refl _)
  | succ n ih =>
    intro i st bs I hi hI hs ho hl hty hok hq
    have hlen := oks_len ho
    have e3 : I (y + 3) v2.toNatClampNeg = nI till := by rw [hI _ ny3, htl]
    have eg : I (y + 1) (nI i).toNatClampNeg = g i := by rw [hI _ ny1, hg, nI_clamp (by omega)]
    obtain ⟨bs1, h1, h2⟩ : ∃ bs1, ty1 (tkC (g i).toInt) bs = some bs1 ∧ tyc (tksC g (i + 1) n) bs1 = some [b] := by
      simp only [tksC, tyc] at hty
      cases h : ty1 (tkC (g i).toInt) bs with
      | none => rw [h] at hty; cases hty
      | some bs1 => rw [h] at hty; exact ⟨bs1, rfl, hty⟩
    have hok1 : okn nm (tkC (g i).toInt) := hok _ (by simp [tksC])
    have hok2 : ∀ t ∈ tksC g (i + 1) n, okn nm t := fun t h => hok t (by simp [tksC, h])
    have hl1 := ty1_len h1 hl
    have ho1 := ev1_ok h1 ho hok1
    have next : ∀ (I2 : gI), (∀ a, a ≠ 165 → I2 a = I0 a) → stk (fun j => (I2 165 j).toInt) (ev1 nm (tkC (g i).toInt) st) → Go G mX0_reckon 2 0 0 10 [some (.ref 2), some (.ref y), some (.int v2), some (.int (nI (ev1 nm (tkC (g i).toInt) st).length)), some (.int (nI (i + 1))), none, none] [] SH I2 R L Q := fun I2 k1 k2 => ih (i + 1) _ bs1 I2 (by omega) k1 k2 ho1 hl1 h2 hok2 hq
    refine b_X0_reckon_10 hR hy ⟨fun c => absurd c (nI_pos (by omega)), fun _ => ⟨hv2, fun c => absurd c (by rw [e3]; exact nI_ge (by omega) (by omega)), fun _ => ⟨fun c => absurd c (nI_ge (b := 300) (by omega) (by decide)), fun _ => ⟨vp_in_nI (by omega) (by decide), ?_⟩⟩⟩⟩
    rw [eg]
    generalize hc : g i = c at h1 hok1 ho1 next hok
    have e10 : (10000 : Int32).toInt = 10000 := rfl
    have e12 : (10012 : Int32).toInt = 10012 := rfl
    have e24 : (10024 : Int32).toInt = 10024 := rfl
    have hrg := ti_rng c
    intro v5 e5
    rw [e5]
    rintro _ rfl
    clear e5 v5
    have hh : st.length ≤ 60 := by omega
    by_cases cA : c < 10000
    · have tA : tkC c.toInt = (400, c.toInt) := by simp [tkC, ti_lt.mp cA, e10]; rw [ti_lt, e10] at cA; omega
      rw [tA] at h1 next
      have hlt : bs.length < 60 := by
        simp only [ty1, if_true] at h1
        split at h1
        · rename_i q; exact q.2.2
        · cases h1
      refine ⟨fun c => absurd (Or.inl cA) c, fun _ => ⟨fun c => absurd c (nI_ge (b := 64) (by omega) (by decide)), fun _ => ⟨fun c => absurd cA (by rw [ti_lt]; rw [ti_le] at c; omega), fun _ => ⟨vp_in_nI (by omega) (by decide), ?_⟩⟩⟩⟩
      rintro _ rfl _ rfl _ rfl
      rw [nI_1, nI_1, nI_clamp (by omega)]
      exact next _ (up_keep hI) (stk_push hs)
    · have cA' : ¬ c.toInt < 10000 := fun q => cA (ti_lt.mpr q)
      by_cases cB : 10012 ≤ c ∧ c < 10024
      · have b1 := ti_le.mp cB.1
        have b2 := ti_lt.mp cB.2
        rw [e12] at b1
        rw [e24] at b2
        have tB : tkC c.toInt = (401, c.toInt - 10012) := by simp [tkC, cA', b1, b2]
        rw [tB] at h1 next
        have hlt : bs.length < 60 := by
          simp only [ty1] at h1
          rw [if_neg (by decide), if_pos trivial] at h1
          split at h1
          · rename_i q; exact q.2.2
          · cases h1
        have s1 : (c - 10000).toInt = c.toInt - 10000 := ti_sub (by rw [e10]; omega) (by rw [e10]; omega)
        have s2 : (c - 10000 - 12).toInt = c.toInt - 10012 := by
          have e2 : (12 : Int32).toInt = 12 := rfl
          rw [ti_sub] <;> rw [s1, e2] <;> omega
        have s3 : (c - 10000 - 12).toNatClampNeg = (c.toInt - 10012).toNat := by
          show (c - 10000 - 12).toInt.toNat = _
          rw [s2]
        refine ⟨fun c => absurd (Or.inr cB) c, fun _ => ⟨fun c => absurd c (nI_ge (b := 64) (by omega) (by decide)), fun _ => ⟨fun _ => ⟨vp_in_iff.mpr ⟨by omega, by omega⟩, vp_in_nI (by omega) (by decide), ?_⟩, fun c => absurd (ti_lt.mpr (by rw [ti_le] at c; omega)) cA⟩⟩⟩
        rintro _ rfl _ rfl _ rfl
        rw [nI_1, nI_1, nI_clamp (by omega), s3]
        refine next _ (up_keep hI) ?_
        have e4 : ev1 nm (401, c.toInt - 10012) st = nm (c.toInt - 10012).toNat :: st := by simp [ev1]
        rw [e4, ← hnm, ← hI 164 (by decide)]
        exact stk_push hs
      · refine ⟨fun _ => ?_, fun c => absurd c (by rintro (q | q); exact cA q; exact cB q)⟩
        have cB' : ¬ (10012 ≤ c.toInt ∧ c.toInt < 10024) := fun q => cB ⟨ti_le.mpr q.1, ti_lt.mpr q.2⟩
        have s1 : (c - 10000).toInt = c.toInt - 10000 := ti_sub (by rw [e10]; omega) (by rw [e10]; omega)
        have n400 : ¬ (tkC c.toInt).1 = 400 ∧ ¬ (tkC c.toInt).1 = 401 := by
          simp only [tkC, cA', cB', if_false]
          split
          · decide
          · split
            · decide
            · have := tkO_cases (c.toInt - 10000)
              simp only
              omega
        refine b_X0_reckon_105 hR hy ⟨fun c40 => ?_, fun c40 => ?_⟩
        · refine b_X0_reckon_137 hR hy ⟨fun c11 => ?_, fun c11 => ?_⟩
          · have q40 : ¬ c.toInt = 10040 := fun q => c40 (ti_eq.mpr (by rw [s1, q]; rfl))
            have q11 : ¬ c.toInt = 10011 := fun q => c11 (ti_eq.mpr (by rw [s1, q]; rfl))
            have tE : tkC c.toInt = (tkO (c.toInt - 10000), 0) := by simp [tkC, cA', cB', q40, q11]
            match st, bs, hs, ho, hlen, h1 with
            | x :: z :: r, p :: q :: r2, hs, ho, hlen, h1 =>
              have hO : isTk (c.toInt - 10000) ∧ (isLo (tkO (c.toInt - 10000)) = true → p = true ∧ q = true) := by
                rw [tE] at h1 n400
                simp only [ty1, n400.1, n400.2, if_false] at h1
                split at h1
                · rename_i k; exact absurd k (by have := tkO_cases (c.toInt - 10000); omega)
                split at h1
                · rename_i k; exact absurd k (by have := tkO_cases (c.toInt - 10000); omega)
                refine ⟨?_, fun hl => ?_⟩
                · by_cases hk : isTk (c.toInt - 10000)
                  · exact hk
                  · have e0 : tkO (c.toInt - 10000) = 0 := by
                      unfold isTk at hk
                      unfold tkO
                      simp only [not_or] at hk
                      simp [hk]
                    rw [e0] at h1
                    simp [isAr, isCm, isLo] at h1
                · have a1 : isAr (tkO (c.toInt - 10000)) = false := by simp [isLo] at hl; rcases hl with h | h <;> rw [h] <;> decide
                  have a2 : isCm (tkO (c.toInt - 10000)) = false := by simp [isLo] at hl; rcases hl with h | h <;> rw [h] <;> decide
                  simp only [a1, a2, hl, if_true] at h1
                  simp at h1
                  exact ⟨h1.1.1, h1.1.2⟩
              obtain ⟨⟨x1, x2, x3⟩, ⟨z1, z2, z3⟩, ho2⟩ := ho
              have vx : (I 165 (r.length + 1)).toInt = x := hs.1
              have vz : (I 165 r.length).toInt = z := hs.2.1
              have hr : r.length ≤ 58 := by simp at hh; omega
              refine b_X0_reckon_170 hR hy ⟨fun c2 => absurd c2 (nI_nlt (a := (x :: z :: r).length) (b := 2) (by simp) (by simp; omega)), fun _ => ?_⟩
              rintro _ rfl
              have f1 : nI (x :: z :: r).length + (-1) = nI (r.length + 1) := pk_m1 (r.length + 1)
              have f2 : nI (r.length + 1) - 1 = nI r.length := nI_pred r.length
              rw [f1, f2]
              refine ⟨vp_in_nI (by omega) (by decide), vp_in_nI (by omega) (by decide), vp_in_nI (by omega) (by decide), ?_⟩
              rintro _ rfl _ rfl
              rw [nI_1, nI_clamp (by omega), nI_clamp (by omega)]
              have hw : (cmbI (c - 10000) (I 165 r.length) (I 165 (r.length + 1))).toInt = wk (tkO (c.toInt - 10000)) z x := by
                rw [cmbI_wk (by rw [s1]; exact hO.1) (by rw [vz]; exact z1) (by rw [vz]; exact z2) (by rw [vx]; exact x1) (by rw [vx]; exact x2) (fun hl => ?_), s1, vx, vz]
                rw [vx, vz]
                rw [s1] at hl
                have := hO.2 (by rcases hl with h | h <;> rw [h] <;> decide)
                exact ⟨z3 this.2, x3 this.1⟩
              have eE : ev1 nm (tkC c.toInt) (x :: z :: r) = wk (tkO (c.toInt - 10000)) z x :: r := by
                have m2 : ¬ tkO (c.toInt - 10000) = 402 := by have := tkO_cases (c.toInt - 10000); omega
                have m5 : ¬ tkO (c.toInt - 10000) = 405 := by have := tkO_cases (c.toInt - 10000); omega
                rw [tE] at n400 ⊢
                simp [ev1, n400.1, n400.2, m2, m5]
              rw [eE] at next
              have hn := next (up I 165 r.length (cmbI (c - 10000) (I 165 r.length) (I 165 (r.length + 1)))) (up_keep hI) (by rw [← hw]; exact stk_push hs.2.2)
              exact hn
            | [], [], _, ho, hlen, h1 =>
              simp only [ty1, n400.1, n400.2, if_false] at h1
              cases h1
            | [], _ :: _, _, ho, _, _ => exact ho.elim
            | [x], [w], _, ho, hlen, h1 =>
              rw [tE] at h1 n400
              have m2 : ¬ tkO (c.toInt - 10000) = 402 := by have := tkO_cases (c.toInt - 10000); omega
              have m5 : ¬ tkO (c.toInt - 10000) = 405 := by have := tkO_cases (c.toInt - 10000); omega
              simp [ty1, n400.1, n400.2, m2, m5] at h1
            | [x], [], _, ho, hlen, h1 => exact ho.elim
            | [x], _ :: _ :: _, _, ho, hlen, h1 => exact ho.2.elim
            | _ :: _ :: _, [], _, ho, hlen, h1 => exact ho.elim
            | _ :: _ :: _, [_], _, ho, hlen, h1 => exact ho.2.elim
          · have q11 : c.toInt = 10011 := by have := ti_eq.mp c11; rw [s1] at this; have e : (11 : Int32).toInt = 11 := rfl; omega
            have tE : tkC c.toInt = (405, 0) := by simp [tkC, q11]
            match st, bs, hs, ho, hlen, h1 with
            | x :: r, p :: r2, hs, ho, hlen, h1 =>
              have vx : (I 165 r.length).toInt = x := hs.1
              refine ⟨fun c2 => absurd c2 (nI_nlt (a := (x :: r).length) (b := 1) (by simp) (by simp at hh ⊢; omega)), fun _ => ?_⟩
              rw [show nI (x :: r).length - 1 = nI r.length from nI_pred r.length]
              refine ⟨vp_in_nI (by simp at hh; omega) (by decide), vp_in_nI (by simp at hh; omega) (by decide), ?_⟩
              rintro _ rfl _ rfl
              rw [nI_1, nI_clamp (by simp at hh; omega)]
              have hw : (1 - I 165 r.length).toInt = 1 - x := by
                have e : (1 : Int32).toInt = 1 := rfl
                have := ho.1
                rw [ti_sub] <;> rw [vx, e] <;> (have a1 := this.1; have a2 := this.2.1; omega)
              have eE : ev1 nm (tkC c.toInt) (x :: r) = (1 - x) :: r := by rw [tE]; simp [ev1]
              rw [eE] at next
              exact next _ (up_keep hI) (by rw [← hw]; exact stk_push hs.2)
            | _ :: _, [], _, ho, _, _ => exact ho.elim
            | [], [], _, ho, hlen, h1 =>
              simp only [ty1, n400.1, n400.2, if_false] at h1
              cases h1
            | [], _ :: _, _, ho, _, _ => exact ho.elim
        · have q40 : c.toInt = 10040 := by have := ti_eq.mp c40; rw [s1] at this; have e : (40 : Int32).toInt = 40 := rfl; omega
          have tE : tkC c.toInt = (402, 0) := by simp [tkC, q40]
          match st, bs, hs, ho, hlen, h1 with
          | x :: r, p :: r2, hs, ho, hlen, h1 =>
            have vx : (I 165 r.length).toInt = x := hs.1
            refine ⟨fun c2 => absurd c2 (nI_nlt (a := (x :: r).length) (b := 1) (by simp) (by simp at hh ⊢; omega)), fun _ => ?_⟩
            rw [show nI (x :: r).length - 1 = nI r.length from nI_pred r.length]
            refine ⟨vp_in_nI (by simp at hh; omega) (by decide), vp_in_nI (by simp at hh; omega) (by decide), ?_⟩
            rintro _ rfl _ rfl
            rw [nI_1, nI_clamp (by simp at hh; omega)]
            have hw : (-(I 165 r.length)).toInt = -x := by
              have := ho.1
              rw [ti_neg] <;> rw [vx] <;> (have a1 := this.1; have a2 := this.2.1; omega)
            have eE : ev1 nm (tkC c.toInt) (x :: r) = -x :: r := by rw [tE]; simp [ev1]
            rw [eE] at next
            exact next _ (up_keep hI) (by rw [← hw]; exact stk_push hs.2)
          | _ :: _, [], _, ho, _, _ => exact ho.elim
          | [], [], _, ho, hlen, h1 =>
            simp only [ty1, n400.1, n400.2, if_false] at h1
            cases h1
          | [], _ :: _, _, ho, _, _ => exact ho.elim
