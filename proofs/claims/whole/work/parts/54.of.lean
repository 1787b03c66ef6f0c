theorem e_X6_of {G : gG} {I : gI} {R : gR} {L : gL} {Q : gQ} {a b : Int32} (hR : g_Fx R) (h : (0 ≤ a ∧ a < I 3 6 ∧ a < 9 → (b = 0 → vp_in a 9 ∧ (Q (some (.int (I 129 a.toNatClampNeg))) SH I R L)) ∧ (b = 1 → vp_in a 9 ∧ (Q (some (.int (I 130 a.toNatClampNeg))) SH I R L)) ∧ (b = 2 → vp_in a 9 ∧ (Q (some (.int (I 131 a.toNatClampNeg))) SH I R L)) ∧ (b = 3 → vp_in a 9 ∧ (Q (some (.int (I 6 a.toNatClampNeg))) SH I R L)) ∧ (b = 4 → vp_in a 9 ∧ (Q (some (.int (I 7 a.toNatClampNeg))) SH I R L)) ∧ (b = 5 → vp_in a 9 ∧ (okI I ∧ ((okD (dyC I 4)) ∧ (∀ r_4 : Int32, ∀ I_5 : gI, (r_4.toInt = hld (thC I) (dyC I 4) a.toNatClampNeg ∧ ∀ a, a ≠ 164 → a ≠ 165 → I_5 a = I a) → Q (some (.int r_4)) SH I_5 R L)))) ∧ (b = 6 → vp_in a 9 ∧ ((vp_in (0 : Int32) 2) ∧ (okI I ∧ ((okD (dyC I 4)) ∧ (∀ r_10 : Int32, ∀ I_11 : gI, (r_10.toInt = spn (thC I) (dyC I 4) a.toNatClampNeg (0 : Int32).toInt ∧ ∀ a, a ≠ 164 → a ≠ 165 → I_11 a = I a) → Q (some (.int r_10)) SH I_11 R L))))) ∧ (b = 7 → vp_in a 9 ∧ ((vp_in (1 : Int32) 2) ∧ (okI I ∧ ((okD (dyC I 4)) ∧ (∀ r_16 : Int32, ∀ I_17 : gI, (r_16.toInt = spn (thC I) (dyC I 4) a.toNatClampNeg (1 : Int32).toInt ∧ ∀ a, a ≠ 164 → a ≠ 165 → I_17 a = I a) → Q (some (.int r_16)) SH I_17 R L))))) ∧ (¬ b = 0 ∧ ¬ b = 1 ∧ ¬ b = 2 ∧ ¬ b = 3 ∧ ¬ b = 4 ∧ ¬ b = 5 ∧ ¬ b = 6 ∧ ¬ b = 7 → Q (some (.int (-2))) SH I R L)) ∧ (¬ (0 ≤ a ∧ a < I 3 6 ∧ a < 9) → Q (some (.int (-2))) SH I R L)) : Mt G mX6_of 30 0 0 [.ref 0, .int a, .int b] SH I R L Q := by
  refine go_start rfl (Nat.le_of_ble_eq_true rfl) rfl ?_
  refine go_aload_n dX6_of_0 rfl ?_
  refine go_iload_n dX6_of_1 rfl ?_
  refine go_callV0 (μ := mX6_of) [.int _] dX6_of_2 YX6_isEater lX6_92 rfl ⟨_, rfl, rfl⟩ rfl (Nat.le_of_ble_eq_true rfl) (Nat.le_of_ble_eq_true rfl) rfl (k_X6_isEater hR ?_)
  refine go_if_ne 11 dX6_of_5 (by decide) (fun c => ?_) (fun c => ?_)
  · have h := h.1 (b1.mp c)
    refine go_iload_n dX6_of_11 rfl ?_
    by_cases c0 : b = 0
    · have h := h.1 c0
      refine go_tsIn 60 dX6_of_12 (by rw [c0]; decide) (by rw [c0]; decide) (by rw [c0]; rfl) (by decide) ?_
      refine go_aload_n dX6_of_60 rfl ?_
      refine go_getR dX6_of_61 fX6_27 rfl rfl (hR 0 2 3 rfl) ?_
      refine go_getR dX6_of_64 fX6_80 rfl rfl (hR 3 3 129 rfl) ?_
      refine go_iload_n dX6_of_67 rfl ?_
      obtain ⟨hi, h⟩ := h
      refine go_iald dX6_of_68 rfl hi ?_
      exact go_iret dX6_of_69 rfl rfl h
    by_cases c1 : b = 1
    · have h := h.2.1 c1
      refine go_tsIn 70 dX6_of_12 (by rw [c1]; decide) (by rw [c1]; decide) (by rw [c1]; rfl) (by decide) ?_
      refine go_aload_n dX6_of_70 rfl ?_
      refine go_getR dX6_of_71 fX6_27 rfl rfl (hR 0 2 3 rfl) ?_
      refine go_getR dX6_of_74 fX6_83 rfl rfl (hR 3 4 130 rfl) ?_
      refine go_iload_n dX6_of_77 rfl ?_
      obtain ⟨hi, h⟩ := h
      refine go_iald dX6_of_78 rfl hi ?_
      exact go_iret dX6_of_79 rfl rfl h
    by_cases c2 : b = 2
    · have h := h.2.2.1 c2
      refine go_tsIn 80 dX6_of_12 (by rw [c2]; decide) (by rw [c2]; decide) (by rw [c2]; rfl) (by decide) ?_
      refine go_aload_n dX6_of_80 rfl ?_
      refine go_getR dX6_of_81 fX6_27 rfl rfl (hR 0 2 3 rfl) ?_
      refine go_getR dX6_of_84 fX6_86 rfl rfl (hR 3 5 131 rfl) ?_
      refine go_iload_n dX6_of_87 rfl ?_
      obtain ⟨hi, h⟩ := h
      refine go_iald dX6_of_88 rfl hi ?_
      exact go_iret dX6_of_89 rfl rfl h
    by_cases c3 : b = 3
    · have h := h.2.2.2.1 c3
      refine go_tsIn 90 dX6_of_12 (by rw [c3]; decide) (by rw [c3]; decide) (by rw [c3]; rfl) (by decide) ?_
      refine go_aload_n dX6_of_90 rfl ?_
      refine go_getR dX6_of_91 fX6_27 rfl rfl (hR 0 2 3 rfl) ?_
      refine go_getR dX6_of_94 fX6_68 rfl rfl (hR 3 0 4 rfl) ?_
      refine go_getR dX6_of_97 fX6_95 rfl rfl (hR 4 1 6 rfl) ?_
      refine go_iload_n dX6_of_100 rfl ?_
      obtain ⟨hi, h⟩ := h
      refine go_iald dX6_of_101 rfl hi ?_
      exact go_iret dX6_of_102 rfl rfl h
    by_cases c4 : b = 4
    · have h := h.2.2.2.2.1 c4
      refine go_tsIn 103 dX6_of_12 (by rw [c4]; decide) (by rw [c4]; decide) (by rw [c4]; rfl) (by decide) ?_
      refine go_aload_n dX6_of_103 rfl ?_
      refine go_getR dX6_of_104 fX6_27 rfl rfl (hR 0 2 3 rfl) ?_
      refine go_getR dX6_of_107 fX6_68 rfl rfl (hR 3 0 4 rfl) ?_
      refine go_getR dX6_of_110 fX6_177 rfl rfl (hR 4 2 7 rfl) ?_
      refine go_iload_n dX6_of_113 rfl ?_
      obtain ⟨hi, h⟩ := h
      refine go_iald dX6_of_114 rfl hi ?_
      exact go_iret dX6_of_115 rfl rfl h
    by_cases c5 : b = 5
    · have h := h.2.2.2.2.2.1 c5
      refine go_tsIn 116 dX6_of_12 (by rw [c5]; decide) (by rw [c5]; decide) (by rw [c5]; rfl) (by decide) ?_
      refine go_aload_n dX6_of_116 rfl ?_
      refine go_getR dX6_of_117 fX6_20 rfl rfl (hR 0 1 2 rfl) ?_
      refine go_aload_n dX6_of_120 rfl ?_
      refine go_getR dX6_of_121 fX6_27 rfl rfl (hR 0 2 3 rfl) ?_
      refine go_getR dX6_of_124 fX6_68 rfl rfl (hR 3 0 4 rfl) ?_
      refine go_iload_n dX6_of_127 rfl ?_
      obtain ⟨hp_1, h⟩ := h
      obtain ⟨hp_2, h⟩ := h
      obtain ⟨hp_3, h⟩ := h
      refine go_callV0 (μ := mX6_of) [.ref 4, .int _] dX6_of_128 YX0_roomIn lX6_180 rfl ⟨_, rfl, rfl⟩ rfl (Nat.le_of_ble_eq_true rfl) (Nat.le_of_ble_eq_true rfl) rfl (k_X0_roomIn hR Sc_4 hp_1 hp_2 hp_3 (fun r_4 I_5 hq => ?_))
      have h := h r_4 I_5 hq
      exact go_iret dX6_of_131 rfl rfl h
    by_cases c6 : b = 6
    · have h := h.2.2.2.2.2.2.1 c6
      refine go_tsIn 132 dX6_of_12 (by rw [c6]; decide) (by rw [c6]; decide) (by rw [c6]; rfl) (by decide) ?_
      refine go_aload_n dX6_of_132 rfl ?_
      refine go_getR dX6_of_133 fX6_20 rfl rfl (hR 0 1 2 rfl) ?_
      refine go_aload_n dX6_of_136 rfl ?_
      refine go_getR dX6_of_137 fX6_27 rfl rfl (hR 0 2 3 rfl) ?_
      refine go_getR dX6_of_140 fX6_68 rfl rfl (hR 3 0 4 rfl) ?_
      refine go_iload_n dX6_of_143 rfl ?_
      refine go_iconst (v := 0) dX6_of_144 (by decide) ?_
      obtain ⟨hp_6, h⟩ := h
      obtain ⟨hp_7, h⟩ := h
      obtain ⟨hp_8, h⟩ := h
      obtain ⟨hp_9, h⟩ := h
      refine go_callV0 (μ := mX6_of) [.ref 4, .int _, .int _] dX6_of_145 YX0_spoonful lX6_104 rfl ⟨_, rfl, rfl⟩ rfl (Nat.le_of_ble_eq_true rfl) (Nat.le_of_ble_eq_true rfl) rfl (k_X0_spoonful hR Sc_4 hp_6 hp_7 hp_8 hp_9 (fun r_10 I_11 hq => ?_))
      have h := h r_10 I_11 hq
      exact go_iret dX6_of_148 rfl rfl h
    by_cases c7 : b = 7
    · have h := h.2.2.2.2.2.2.2.1 c7
      refine go_tsIn 149 dX6_of_12 (by rw [c7]; decide) (by rw [c7]; decide) (by rw [c7]; rfl) (by decide) ?_
      refine go_aload_n dX6_of_149 rfl ?_
      refine go_getR dX6_of_150 fX6_20 rfl rfl (hR 0 1 2 rfl) ?_
      refine go_aload_n dX6_of_153 rfl ?_
      refine go_getR dX6_of_154 fX6_27 rfl rfl (hR 0 2 3 rfl) ?_
      refine go_getR dX6_of_157 fX6_68 rfl rfl (hR 3 0 4 rfl) ?_
      refine go_iload_n dX6_of_160 rfl ?_
      refine go_iconst (v := 1) dX6_of_161 (by decide) ?_
      obtain ⟨hp_12, h⟩ := h
      obtain ⟨hp_13, h⟩ := h
      obtain ⟨hp_14, h⟩ := h
      obtain ⟨hp_15, h⟩ := h
      refine go_callV0 (μ := mX6_of) [.ref 4, .int _, .int _] dX6_of_162 YX0_spoonful lX6_104 rfl ⟨_, rfl, rfl⟩ rfl (Nat.le_of_ble_eq_true rfl) (Nat.le_of_ble_eq_true rfl) rfl (k_X0_spoonful hR Sc_4 hp_12 hp_13 hp_14 hp_15 (fun r_16 I_17 hq => ?_))
      have h := h r_16 I_17 hq
      exact go_iret dX6_of_165 rfl rfl h
    have h := h.2.2.2.2.2.2.2.2 ⟨c0, c1, c2, c3, c4, c5, c6, c7⟩
    have e0 : ¬ Int32.toInt b = 0 := fun q => c0 (Int32.toInt_inj.mp (q.trans (by decide)))
    have e1 : ¬ Int32.toInt b = 1 := fun q => c1 (Int32.toInt_inj.mp (q.trans (by decide)))
    have e2 : ¬ Int32.toInt b = 2 := fun q => c2 (Int32.toInt_inj.mp (q.trans (by decide)))
    have e3 : ¬ Int32.toInt b = 3 := fun q => c3 (Int32.toInt_inj.mp (q.trans (by decide)))
    have e4 : ¬ Int32.toInt b = 4 := fun q => c4 (Int32.toInt_inj.mp (q.trans (by decide)))
    have e5 : ¬ Int32.toInt b = 5 := fun q => c5 (Int32.toInt_inj.mp (q.trans (by decide)))
    have e6 : ¬ Int32.toInt b = 6 := fun q => c6 (Int32.toInt_inj.mp (q.trans (by decide)))
    have e7 : ¬ Int32.toInt b = 7 := fun q => c7 (Int32.toInt_inj.mp (q.trans (by decide)))
    refine go_tsOut 166 dX6_of_12 (by omega) (by decide) ?_
    refine go_bipush (v := -2) dX6_of_166 (by decide) ?_
    exact go_iret dX6_of_168 rfl rfl h
  · have h := h.2 (b0.mp c)
    refine go_bipush (v := -2) dX6_of_8 (by decide) ?_
    exact go_iret dX6_of_10 rfl rfl h
theorem e_X7_of {G : gG} {I : gI} {R : gR} {L : gL} {Q : gQ} {a b : Int32} (hR : g_Fx R) (h : (0 ≤ a ∧ a ≤ I 311 0 - 1 → ∀ I_1 : gI, I_1 = layI I → (b = 0 → vp_in (10 + (3 * a)) 11120 ∧ (Q (some (.int (I_1 311 (10 + (3 * a)).toNatClampNeg))) SH I_1 R L)) ∧ (b = 1 → vp_in ((10 + (3 * a)) + 1) 11120 ∧ (Q (some (.int (I_1 311 ((10 + (3 * a)) + 1).toNatClampNeg))) SH I_1 R L)) ∧ (b = 2 → vp_in ((10 + (3 * a)) + 2) 11120 ∧ (Q (some (.int (I_1 311 ((10 + (3 * a)) + 2).toNatClampNeg))) SH I_1 R L)) ∧ (b = 3 → vp_in (114 + a) 11120 ∧ (Q (some (.int (I_1 311 (114 + a).toNatClampNeg))) SH I_1 R L)) ∧ (b = 4 → vp_in (123 + a) 11120 ∧ (Q (some (.int (I_1 311 (123 + a).toNatClampNeg))) SH I_1 R L)) ∧ (b = 5 → vp_in a 9 ∧ (okN I_1 ∧ ((okD (dyM I_1)) ∧ (∀ r_5 : Int32, ∀ I_6 : gI, ∀ L_7 : gL, (r_5.toInt = hld (thM I_1) (dyM I_1) a.toNatClampNeg ∧ (∀ a, a ≠ 331 → I_6 a = I_1 a) ∧ ∀ a, a ≠ 332 → L_7 a = L a) → Q (some (.int r_5)) SH I_6 R L_7)))) ∧ (b = 6 → vp_in a 9 ∧ ((vp_in (0 : Int32) 2) ∧ (okN I_1 ∧ ((okD (dyM I_1)) ∧ (∀ r_12 : Int32, ∀ I_13 : gI, ∀ L_14 : gL, (r_12.toInt = spn (thM I_1) (dyM I_1) a.toNatClampNeg (0 : Int32).toInt ∧ (∀ a, a ≠ 331 → I_13 a = I_1 a) ∧ ∀ a, a ≠ 332 → L_14 a = L a) → Q (some (.int r_12)) SH I_13 R L_14))))) ∧ (b = 7 → vp_in a 9 ∧ ((vp_in (1 : Int32) 2) ∧ (okN I_1 ∧ ((okD (dyM I_1)) ∧ (∀ r_19 : Int32, ∀ I_20 : gI, ∀ L_21 : gL, (r_19.toInt = spn (thM I_1) (dyM I_1) a.toNatClampNeg (1 : Int32).toInt ∧ (∀ a, a ≠ 331 → I_20 a = I_1 a) ∧ ∀ a, a ≠ 332 → L_21 a = L a) → Q (some (.int r_19)) SH I_20 R L_21))))) ∧ (¬ b = 0 ∧ ¬ b = 1 ∧ ¬ b = 2 ∧ ¬ b = 3 ∧ ¬ b = 4 ∧ ¬ b = 5 ∧ ¬ b = 6 ∧ ¬ b = 7 → Q (some (.int (-2))) SH I_1 R L)) ∧ (¬ (0 ≤ a ∧ a ≤ I 311 0 - 1) → Q (some (.int (-2))) SH I R L)) : Mt G mX7_of 30 0 0 [.ref 310, .int a, .int b] SH I R L Q := by
  refine go_start rfl (Nat.le_of_ble_eq_true rfl) rfl ?_
  refine go_aload_n dX7_of_0 rfl ?_
  refine go_iload_n dX7_of_1 rfl ?_
  refine go_callV0 (μ := mX7_of) [.int _] dX7_of_2 YX7_isEater lX7_343 rfl ⟨_, rfl, rfl⟩ rfl (Nat.le_of_ble_eq_true rfl) (Nat.le_of_ble_eq_true rfl) rfl (k_X7_isEater hR ?_)
  refine go_if_ne 11 dX7_of_5 (by decide) (fun c => ?_) (fun c => ?_)
  · have h := h.1 (b1.mp c)
    refine go_aload_n dX7_of_11 rfl ?_
    refine go_callV0 (μ := mX7_of) [] dX7_of_12 YX7_laysWorld lX7_349 rfl ⟨_, rfl, rfl⟩ rfl (Nat.le_of_ble_eq_true rfl) (Nat.le_of_ble_eq_true rfl) rfl (k_X7_laysWorld hR ?_)
    have h := h _ rfl
    refine go_iload_n dX7_of_15 rfl ?_
    by_cases c0 : b = 0
    · have h := h.1 c0
      refine go_tsIn 64 dX7_of_16 (by rw [c0]; decide) (by rw [c0]; decide) (by rw [c0]; rfl) (by decide) ?_
      refine go_aload_n dX7_of_64 rfl ?_
      refine go_getR dX7_of_65 fX7_7 rfl rfl (hR 310 0 311 rfl) ?_
      refine go_bipush (v := 10) dX7_of_68 (by decide) ?_
      refine go_iconst (v := 3) dX7_of_70 (by decide) ?_
      refine go_iload_n dX7_of_71 rfl ?_
      refine go_imul dX7_of_72 ?_
      refine go_iadd dX7_of_73 ?_
      obtain ⟨hi, h⟩ := h
      refine go_iald dX7_of_74 rfl hi ?_
      exact go_iret dX7_of_75 rfl rfl h
    by_cases c1 : b = 1
    · have h := h.2.1 c1
      refine go_tsIn 76 dX7_of_16 (by rw [c1]; decide) (by rw [c1]; decide) (by rw [c1]; rfl) (by decide) ?_
      refine go_aload_n dX7_of_76 rfl ?_
      refine go_getR dX7_of_77 fX7_7 rfl rfl (hR 310 0 311 rfl) ?_
      refine go_bipush (v := 10) dX7_of_80 (by decide) ?_
      refine go_iconst (v := 3) dX7_of_82 (by decide) ?_
      refine go_iload_n dX7_of_83 rfl ?_
      refine go_imul dX7_of_84 ?_
      refine go_iadd dX7_of_85 ?_
      refine go_iconst (v := 1) dX7_of_86 (by decide) ?_
      refine go_iadd dX7_of_87 ?_
      obtain ⟨hi, h⟩ := h
      refine go_iald dX7_of_88 rfl hi ?_
      exact go_iret dX7_of_89 rfl rfl h
    by_cases c2 : b = 2
    · have h := h.2.2.1 c2
      refine go_tsIn 90 dX7_of_16 (by rw [c2]; decide) (by rw [c2]; decide) (by rw [c2]; rfl) (by decide) ?_
      refine go_aload_n dX7_of_90 rfl ?_
      refine go_getR dX7_of_91 fX7_7 rfl rfl (hR 310 0 311 rfl) ?_
      refine go_bipush (v := 10) dX7_of_94 (by decide) ?_
      refine go_iconst (v := 3) dX7_of_96 (by decide) ?_
      refine go_iload_n dX7_of_97 rfl ?_
      refine go_imul dX7_of_98 ?_
      refine go_iadd dX7_of_99 ?_
      refine go_iconst (v := 2) dX7_of_100 (by decide) ?_
      refine go_iadd dX7_of_101 ?_
      obtain ⟨hi, h⟩ := h
      refine go_iald dX7_of_102 rfl hi ?_
      exact go_iret dX7_of_103 rfl rfl h
    by_cases c3 : b = 3
    · have h := h.2.2.2.1 c3
      refine go_tsIn 104 dX7_of_16 (by rw [c3]; decide) (by rw [c3]; decide) (by rw [c3]; rfl) (by decide) ?_
      refine go_aload_n dX7_of_104 rfl ?_
      refine go_getR dX7_of_105 fX7_7 rfl rfl (hR 310 0 311 rfl) ?_
      refine go_bipush (v := 114) dX7_of_108 (by decide) ?_
      refine go_iload_n dX7_of_110 rfl ?_
      refine go_iadd dX7_of_111 ?_
      obtain ⟨hi, h⟩ := h
      refine go_iald dX7_of_112 rfl hi ?_
      exact go_iret dX7_of_113 rfl rfl h
    by_cases c4 : b = 4
    · have h := h.2.2.2.2.1 c4
      refine go_tsIn 114 dX7_of_16 (by rw [c4]; decide) (by rw [c4]; decide) (by rw [c4]; rfl) (by decide) ?_
      refine go_aload_n dX7_of_114 rfl ?_
      refine go_getR dX7_of_115 fX7_7 rfl rfl (hR 310 0 311 rfl) ?_
      refine go_bipush (v := 123) dX7_of_118 (by decide) ?_
      refine go_iload_n dX7_of_120 rfl ?_
      refine go_iadd dX7_of_121 ?_
      obtain ⟨hi, h⟩ := h
      refine go_iald dX7_of_122 rfl hi ?_
      exact go_iret dX7_of_123 rfl rfl h
    by_cases c5 : b = 5
    · have h := h.2.2.2.2.2.1 c5
      refine go_tsIn 124 dX7_of_16 (by rw [c5]; decide) (by rw [c5]; decide) (by rw [c5]; rfl) (by decide) ?_
      refine go_aload_n dX7_of_124 rfl ?_
      refine go_iload_n dX7_of_125 rfl ?_
      obtain ⟨hp_2, h⟩ := h
      obtain ⟨hp_3, h⟩ := h
      obtain ⟨hp_4, h⟩ := h
      refine go_callV0 (μ := mX7_of) [.int _] dX7_of_126 YX7_stillHolds lX7_331 rfl ⟨_, rfl, rfl⟩ rfl (Nat.le_of_ble_eq_true rfl) (Nat.le_of_ble_eq_true rfl) rfl (k_X7_stillHolds hR hp_2 hp_3 hp_4 (fun r_5 I_6 L_7 hq => ?_))
      have h := h r_5 I_6 L_7 hq
      exact go_iret dX7_of_129 rfl rfl h
    by_cases c6 : b = 6
    · have h := h.2.2.2.2.2.2.1 c6
      refine go_tsIn 130 dX7_of_16 (by rw [c6]; decide) (by rw [c6]; decide) (by rw [c6]; rfl) (by decide) ?_
      refine go_aload_n dX7_of_130 rfl ?_
      refine go_iload_n dX7_of_131 rfl ?_
      refine go_iconst (v := 0) dX7_of_132 (by decide) ?_
      obtain ⟨hp_8, h⟩ := h
      obtain ⟨hp_9, h⟩ := h
      obtain ⟨hp_10, h⟩ := h
      obtain ⟨hp_11, h⟩ := h
      refine go_callV0 (μ := mX7_of) [.int _, .int _] dX7_of_133 YX7_spoonOf lX7_337 rfl ⟨_, rfl, rfl⟩ rfl (Nat.le_of_ble_eq_true rfl) (Nat.le_of_ble_eq_true rfl) rfl (k_X7_spoonOf hR hp_8 hp_9 hp_10 hp_11 (fun r_12 I_13 L_14 hq => ?_))
      have h := h r_12 I_13 L_14 hq
      exact go_iret dX7_of_136 rfl rfl h
    by_cases c7 : b = 7
    · have h := h.2.2.2.2.2.2.2.1 c7
      refine go_tsIn 137 dX7_of_16 (by rw [c7]; decide) (by rw [c7]; decide) (by rw [c7]; rfl) (by decide) ?_
      refine go_aload_n dX7_of_137 rfl ?_
      refine go_iload_n dX7_of_138 rfl ?_
      refine go_iconst (v := 1) dX7_of_139 (by decide) ?_
      obtain ⟨hp_15, h⟩ := h
      obtain ⟨hp_16, h⟩ := h
      obtain ⟨hp_17, h⟩ := h
      obtain ⟨hp_18, h⟩ := h
      refine go_callV0 (μ := mX7_of) [.int _, .int _] dX7_of_140 YX7_spoonOf lX7_337 rfl ⟨_, rfl, rfl⟩ rfl (Nat.le_of_ble_eq_true rfl) (Nat.le_of_ble_eq_true rfl) rfl (k_X7_spoonOf hR hp_15 hp_16 hp_17 hp_18 (fun r_19 I_20 L_21 hq => ?_))
      have h := h r_19 I_20 L_21 hq
      exact go_iret dX7_of_143 rfl rfl h
    have h := h.2.2.2.2.2.2.2.2 ⟨c0, c1, c2, c3, c4, c5, c6, c7⟩
    have e0 : ¬ Int32.toInt b = 0 := fun q => c0 (Int32.toInt_inj.mp (q.trans (by decide)))
    have e1 : ¬ Int32.toInt b = 1 := fun q => c1 (Int32.toInt_inj.mp (q.trans (by decide)))
    have e2 : ¬ Int32.toInt b = 2 := fun q => c2 (Int32.toInt_inj.mp (q.trans (by decide)))
    have e3 : ¬ Int32.toInt b = 3 := fun q => c3 (Int32.toInt_inj.mp (q.trans (by decide)))
    have e4 : ¬ Int32.toInt b = 4 := fun q => c4 (Int32.toInt_inj.mp (q.trans (by decide)))
    have e5 : ¬ Int32.toInt b = 5 := fun q => c5 (Int32.toInt_inj.mp (q.trans (by decide)))
    have e6 : ¬ Int32.toInt b = 6 := fun q => c6 (Int32.toInt_inj.mp (q.trans (by decide)))
    have e7 : ¬ Int32.toInt b = 7 := fun q => c7 (Int32.toInt_inj.mp (q.trans (by decide)))
    refine go_tsOut 144 dX7_of_16 (by omega) (by decide) ?_
    refine go_bipush (v := -2) dX7_of_144 (by decide) ?_
    exact go_iret dX7_of_146 rfl rfl h
  · have h := h.2 (b0.mp c)
    refine go_bipush (v := -2) dX7_of_8 (by decide) ?_
    exact go_iret dX7_of_10 rfl rfl h
/-- nothing but scratch was touched -/
theorem Rel_scr {I I' : gI} {R : gR} (h : Rel I R) (hx : ∀ a, a ≠ 1 → (a < 164 ∨ (173 ≤ a ∧ a ≤ 305) ∨ a = 307 ∨ (311 ≤ a ∧ a ≤ 320)) → I' a = I a) (h18 : I' 1 8 = I 1 8) (h19 : I' 1 9 = I 1 9) (h3 : I' 310 3 = I 310 3) (h4 : I' 310 4 = I 310 4) (h5 : I' 310 5 = I 310 5) : Rel I' R := by
  obtain ⟨h0, hs⟩ := h
  refine ⟨Rel0_same h0 (kp_of (fun a a1 a2 a3 a4 a5 a6 a7 a8 a9 => hx a (by omega) (by omega)) (by rw [hx 0 (by decide) (by decide)]) (by rw [hx 0 (by decide) (by decide)]) (by rw [hx 0 (by decide) (by decide)]) h3 h4 h5) h0.1 rfl (fun a a1 a2 => hx a (by omega) (by omega)) (hx 311 (by decide) (by decide)), ?_⟩
  exact sgt_keep hs (by rw [hx 0 (by decide) (by decide)]) h18 h19 (hx _ (by decide) (by decide)) (thC_of (fun a ha => hx a (by omega) (by omega))) (hx _ (by decide) (by decide)) (hx _ (by decide) (by decide)) (hx _ (by decide) (by decide)) (by rw [hx 4 (by decide) (by decide)]) (by rw [hx 4 (by decide) (by decide)]) (by rw [hx 3 (by decide) (by decide)])
/-- the class's side of a question that looks at the scene that is; the plain form's is laid out -/
theorem Rel_ask {I I1 : gI} {R : gR} (h : Rel I R) (hx : ∀ a, a ≠ 164 → a ≠ 165 → I1 a = I a) : Rel I1 R ∧ okN (layI I1) ∧ okD (dyM (layI I1)) ∧ eqT (thC I) (thM (layI I1)) ∧ eqD (dyC I 4) (dyM (layI I1)) ∧ okI I ∧ okD (dyC I 4) := by
  have h1 : Rel I1 R := Rel_scr h (fun a a1 a2 => hx a (by omega) (by omega)) (by rw [hx 1 (by decide) (by decide)]) (by rw [hx 1 (by decide) (by decide)]) (by rw [hx 310 (by decide) (by decide)]) (by rw [hx 310 (by decide) (by decide)]) (by rw [hx 310 (by decide) (by decide)])
  have hC := Rel_CI h
  have hM := Rel_MI h (stepC_scr h.1.1 hC hx)
  obtain ⟨lN, lD, hθ, lT, lE⟩ := MI_lay hM.1
  obtain ⟨cD, cO, -⟩ := CI_dy hC
  rw [hM.2] at lE
  exact ⟨h1, lN, lD, hC.2.2.2.trans lT.symm, cD.trans lE.symm, hC.2.2.1, cO⟩
theorem Rel_lay {I I2 : gI} {R : gR} (h : Rel I R) (hx : ∀ a, a ≠ 331 → a ≠ 333 → a ≠ 334 → a ≠ 310 → I2 a = I a) (h4 : ∀ j, j ≠ 41 → I2 310 j = I 310 j) : Rel I2 R := Rel_scr h (fun a a1 a2 => hx a (by omega) (by omega) (by omega) (by omega)) (by rw [hx 1 (by decide) (by decide) (by decide) (by decide)]) (by rw [hx 1 (by decide) (by decide) (by decide) (by decide)]) (h4 3 (by decide)) (h4 4 (by decide)) (h4 5 (by decide))
theorem Rel_layI {I : gI} {R : gR} (h : Rel I R) : Rel (layI I) R := Rel_lay h (fun a a1 a2 a3 a4 => layI_off a2 a3 a4) (fun j hj => layI_310 hj)
theorem p_of {G : gG} {I : gI} {R : gR} {L : gL} {Q : gQ} {a b : Int32} (h : Rel I R) (hq : ∀ v I1 R1 L1, prom G mX7_of [.ref 310, .int a, .int b] (some (.int v)) I1 R1 L1 → Q (some (.int v)) SH I1 R1 L1) : Mt G mX6_of 30 0 0 [.ref 0, .int a, .int b] SH I R L Q := by
  have hF := h.1.1
  obtain ⟨co, sc, oh, ok⟩ := R_co h
  have c0 : I 3 6 = I 311 0 := co.1
  have o0 : 0 ≤ I 311 0 ∧ I 311 0 ≤ 9 := ⟨ti_le.mpr oh.1.1, ti_le.mpr oh.1.2⟩
  obtain ⟨-, -, -, -, -, kI, kD⟩ := Rel_ask h (I1 := I) (fun _ _ _ => rfl)
  refine e_X6_of hF ?_
  rw [c0]
  refine ⟨fun d => ?_, fun d => hq _ _ _ _ (fun Q2 h2 => e_X7_of hF ⟨fun d' => absurd ⟨d'.1, by grind, by grind⟩ d, fun _ => h2 _ _ _ h⟩)⟩
  have d' : 0 ≤ a ∧ a ≤ I 311 0 - 1 := ⟨d.1, by grind⟩
  have hv : vp_in a 9 := vi9.mpr (by grind)
  obtain ⟨i, hi, ei⟩ := vp_in_of hv (by decide)
  have ca : a.toNatClampNeg = i := by rw [ei, nI_clamp (by omega)]
  have co6 := co.2.2.2.2.2.2.1 i hi
  obtain ⟨x1, x2, x3, x4⟩ := ix_e hi ei
  have x5 : 10 + 3 * a + 2 = nI (10 + 3 * i + 2) := by rw [ei, show (3 : Int32) = nI 3 from rfl, nI_mul, show (10 : Int32) = nI 10 from rfl, nI_add, show (2 : Int32) = nI 2 from rfl, nI_add]
  have x6 : 114 + a = nI (114 + i) := by rw [ei]; exact nI_add 114 i
  have x7 : 123 + a = nI (123 + i) := by rw [ei]; exact nI_add 123 i
  have l311 : ∀ k, layI I 311 k = I 311 k := fun k => by rw [layI_off (by decide) (by decide) (by decide)]
  have s2 : I 6 i = I 311 (114 + i) := by have := sc.2.1 i hi; rw [show row (I 311) 110 (4 + i) = I 311 (114 + i) from by unfold row; congr 1; omega] at this; exact this
  have s3 : I 7 i = I 311 (123 + i) := by have := sc.2.2.1 i hi; rw [show row (I 311) 110 (13 + i) = I 311 (123 + i) from by unfold row; congr 1; omega] at this; exact this
  have model : ∀ (I1 : gI) (L1 : gL) (v : Option Value), (∀ a, a ≠ 164 → a ≠ 165 → I1 a = I a) → (∀ Q2 : gQ, (∀ I2 R2 L2, Rel I2 R2 → Q2 v SH I2 R2 L2) → ∀ I_1 : gI, I_1 = layI I1 → (b = 0 → vp_in (10 + (3 * a)) 11120 ∧ (Q2 (some (.int (I_1 311 (10 + (3 * a)).toNatClampNeg))) SH I_1 R L1)) ∧ (b = 1 → vp_in ((10 + (3 * a)) + 1) 11120 ∧ (Q2 (some (.int (I_1 311 ((10 + (3 * a)) + 1).toNatClampNeg))) SH I_1 R L1)) ∧ (b = 2 → vp_in ((10 + (3 * a)) + 2) 11120 ∧ (Q2 (some (.int (I_1 311 ((10 + (3 * a)) + 2).toNatClampNeg))) SH I_1 R L1)) ∧ (b = 3 → vp_in (114 + a) 11120 ∧ (Q2 (some (.int (I_1 311 (114 + a).toNatClampNeg))) SH I_1 R L1)) ∧ (b = 4 → vp_in (123 + a) 11120 ∧ (Q2 (some (.int (I_1 311 (123 + a).toNatClampNeg))) SH I_1 R L1)) ∧ (b = 5 → vp_in a 9 ∧ (okN I_1 ∧ ((okD (dyM I_1)) ∧ (∀ r_5 : Int32, ∀ I_6 : gI, ∀ L_7 : gL, (r_5.toInt = hld (thM I_1) (dyM I_1) a.toNatClampNeg ∧ (∀ a, a ≠ 331 → I_6 a = I_1 a) ∧ ∀ a, a ≠ 332 → L_7 a = L1 a) → Q2 (some (.int r_5)) SH I_6 R L_7)))) ∧ (b = 6 → vp_in a 9 ∧ ((vp_in (0 : Int32) 2) ∧ (okN I_1 ∧ ((okD (dyM I_1)) ∧ (∀ r_12 : Int32, ∀ I_13 : gI, ∀ L_14 : gL, (r_12.toInt = spn (thM I_1) (dyM I_1) a.toNatClampNeg (0 : Int32).toInt ∧ (∀ a, a ≠ 331 → I_13 a = I_1 a) ∧ ∀ a, a ≠ 332 → L_14 a = L1 a) → Q2 (some (.int r_12)) SH I_13 R L_14))))) ∧ (b = 7 → vp_in a 9 ∧ ((vp_in (1 : Int32) 2) ∧ (okN I_1 ∧ ((okD (dyM I_1)) ∧ (∀ r_19 : Int32, ∀ I_20 : gI, ∀ L_21 : gL, (r_19.toInt = spn (thM I_1) (dyM I_1) a.toNatClampNeg (1 : Int32).toInt ∧ (∀ a, a ≠ 331 → I_20 a = I_1 a) ∧ ∀ a, a ≠ 332 → L_21 a = L1 a) → Q2 (some (.int r_19)) SH I_20 R L_21))))) ∧ (¬ b = 0 ∧ ¬ b = 1 ∧ ¬ b = 2 ∧ ¬ b = 3 ∧ ¬ b = 4 ∧ ¬ b = 5 ∧ ¬ b = 6 ∧ ¬ b = 7 → Q2 (some (.int (-2))) SH I_1 R L1)) → prom G mX7_of [.ref 310, .int a, .int b] v I1 R L1 := fun I1 L1 v hx k Q2 h2 => by
    have e11 : I1 311 = I 311 := hx 311 (by decide) (by decide)
    exact e_X7_of hF ⟨fun _ => k Q2 h2, fun c => absurd (by rw [e11]; exact d') c⟩
  have lay0 : ∀ Q2 : gQ, ∀ v, (∀ I2 R2 L2, Rel I2 R2 → Q2 v SH I2 R2 L2) → Q2 v SH (layI I) R L := fun Q2 v h2 => h2 _ _ _ (Rel_layI h)
  have n01 : ¬ (0 : Int32) = 1 := by decide
  refine ⟨fun e => ⟨hv, ?_⟩, fun e => ⟨hv, ?_⟩, fun e => ⟨hv, ?_⟩, fun e => ⟨hv, ?_⟩, fun e => ⟨hv, ?_⟩, fun e => ⟨hv, kI, kD, ?_⟩, fun e => ⟨hv, vi2.mpr (by decide), kI, kD, ?_⟩, fun e => ⟨hv, vi2.mpr (by decide), kI, kD, ?_⟩, fun e => ?_⟩
  · subst e
    refine hq _ _ _ _ (model I L _ (fun _ _ _ => rfl) (fun Q2 h2 => ?_))
    rintro _ rfl
    refine ⟨fun _ => ⟨x4, ?_⟩, fun q => absurd q (by decide), fun q => absurd q (by decide), fun q => absurd q (by decide), fun q => absurd q (by decide), fun q => absurd q (by decide), fun q => absurd q (by decide), fun q => absurd q (by decide), fun q => absurd rfl q.1⟩
    rw [x1, l311, ← show I 129 i = _ from co6.1, ← ca]
    exact lay0 Q2 _ h2
  · subst e
    refine hq _ _ _ _ (model I L _ (fun _ _ _ => rfl) (fun Q2 h2 => ?_))
    rintro _ rfl
    refine ⟨fun q => absurd q (by decide), fun _ => ⟨x3, ?_⟩, fun q => absurd q (by decide), fun q => absurd q (by decide), fun q => absurd q (by decide), fun q => absurd q (by decide), fun q => absurd q (by decide), fun q => absurd q (by decide), fun q => absurd rfl q.2.1⟩
    rw [x2, l311, ← show I 130 i = _ from co6.2.1, ← ca]
    exact lay0 Q2 _ h2
  · subst e
    refine hq _ _ _ _ (model I L _ (fun _ _ _ => rfl) (fun Q2 h2 => ?_))
    rintro _ rfl
    refine ⟨fun q => absurd q (by decide), fun q => absurd q (by decide), fun _ => ⟨by rw [x5]; exact vp_in_nI (by omega) (by decide), ?_⟩, fun q => absurd q (by decide), fun q => absurd q (by decide), fun q => absurd q (by decide), fun q => absurd q (by decide), fun q => absurd q (by decide), fun q => absurd rfl q.2.2.1⟩
    rw [x5, nI_clamp (by omega), l311, ← show I 131 i = _ from co6.2.2, ← ca]
    exact lay0 Q2 _ h2
  · subst e
    refine hq _ _ _ _ (model I L _ (fun _ _ _ => rfl) (fun Q2 h2 => ?_))
    rintro _ rfl
    refine ⟨fun q => absurd q (by decide), fun q => absurd q (by decide), fun q => absurd q (by decide), fun _ => ⟨by rw [x6]; exact vp_in_nI (by omega) (by decide), ?_⟩, fun q => absurd q (by decide), fun q => absurd q (by decide), fun q => absurd q (by decide), fun q => absurd q (by decide), fun q => absurd rfl q.2.2.2.1⟩
    rw [x6, nI_clamp (by omega), l311, ← s2, ← ca]
    exact lay0 Q2 _ h2
  · subst e
    refine hq _ _ _ _ (model I L _ (fun _ _ _ => rfl) (fun Q2 h2 => ?_))
    rintro _ rfl
    refine ⟨fun q => absurd q (by decide), fun q => absurd q (by decide), fun q => absurd q (by decide), fun q => absurd q (by decide), fun _ => ⟨by rw [x7]; exact vp_in_nI (by omega) (by decide), ?_⟩, fun q => absurd q (by decide), fun q => absurd q (by decide), fun q => absurd q (by decide), fun q => absurd rfl q.2.2.2.2.1⟩
    rw [x7, nI_clamp (by omega), l311, ← s3, ← ca]
    exact lay0 Q2 _ h2
  · subst e
    rintro r I1 ⟨hr, hx⟩
    obtain ⟨R1, m1, m2, m3, m4, -, -⟩ := Rel_ask h hx
    refine hq _ _ _ _ (model I1 L _ hx (fun Q2 h2 => ?_))
    rintro _ rfl
    refine ⟨fun q => absurd q (by decide), fun q => absurd q (by decide), fun q => absurd q (by decide), fun q => absurd q (by decide), fun q => absurd q (by decide), fun _ => ⟨hv, m1, m2, ?_⟩, fun q => absurd q (by decide), fun q => absurd q (by decide), fun q => absurd rfl q.2.2.2.2.2.1⟩
    rintro r2 I6 L7 ⟨hr2, hx2, -⟩
    have er : r2 = r := ti_eq.mpr (by rw [hr, hr2]; exact (hld_eq m3 m4 kI.1 (by omega)).symm)
    rw [er]
    exact h2 _ _ _ (Rel_lay R1 (fun a a1 a2 a3 a4 => by rw [hx2 a a1, layI_off a2 a3 a4]) (fun j hj => by rw [hx2 310 (by decide), layI_310 hj]))
  · subst e
    rintro r I1 ⟨hr, hx⟩
    obtain ⟨R1, m1, m2, m3, m4, -, -⟩ := Rel_ask h hx
    refine hq _ _ _ _ (model I1 L _ hx (fun Q2 h2 => ?_))
    rintro _ rfl
    refine ⟨fun q => absurd q (by decide), fun q => absurd q (by decide), fun q => absurd q (by decide), fun q => absurd q (by decide), fun q => absurd q (by decide), fun q => absurd q (by decide), fun _ => ⟨hv, vi2.mpr (by decide), m1, m2, ?_⟩, fun q => absurd q (by decide), fun q => absurd rfl q.2.2.2.2.2.2.1⟩
    rintro r2 I6 L7 ⟨hr2, hx2, -⟩
    have er : r2 = r := ti_eq.mpr (by rw [hr, hr2]; exact (spn_eq m3 m4 kI.1 kD (by omega) (by decide) (by decide)).symm)
    rw [er]
    exact h2 _ _ _ (Rel_lay R1 (fun a a1 a2 a3 a4 => by rw [hx2 a a1, layI_off a2 a3 a4]) (fun j hj => by rw [hx2 310 (by decide), layI_310 hj]))
  · subst e
    rintro r I1 ⟨hr, hx⟩
    obtain ⟨R1, m1, m2, m3, m4, -, -⟩ := Rel_ask h hx
    refine hq _ _ _ _ (model I1 L _ hx (fun Q2 h2 => ?_))
    rintro _ rfl
    refine ⟨fun q => absurd q (by decide), fun q => absurd q (by decide), fun q => absurd q (by decide), fun q => absurd q (by decide), fun q => absurd q (by decide), fun q => absurd q (by decide), fun q => absurd q (by decide), fun _ => ⟨hv, vi2.mpr (by decide), m1, m2, ?_⟩, fun q => absurd rfl q.2.2.2.2.2.2.2⟩
    rintro r2 I6 L7 ⟨hr2, hx2, -⟩
    have er : r2 = r := ti_eq.mpr (by rw [hr, hr2]; exact (spn_eq m3 m4 kI.1 kD (by omega) (by decide) (by decide)).symm)
    rw [er]
    exact h2 _ _ _ (Rel_lay R1 (fun a a1 a2 a3 a4 => by rw [hx2 a a1, layI_off a2 a3 a4]) (fun j hj => by rw [hx2 310 (by decide), layI_310 hj]))
  · refine hq _ _ _ _ (model I L _ (fun _ _ _ => rfl) (fun Q2 h2 => ?_))
    rintro _ rfl
    refine ⟨fun q => absurd q e.1, fun q => absurd q e.2.1, fun q => absurd q e.2.2.1, fun q => absurd q e.2.2.2.1, fun q => absurd q e.2.2.2.2.1, fun q => absurd q e.2.2.2.2.2.1, fun q => absurd q e.2.2.2.2.2.2.1, fun q => absurd q e.2.2.2.2.2.2.2, fun _ => lay0 Q2 _ h2⟩
