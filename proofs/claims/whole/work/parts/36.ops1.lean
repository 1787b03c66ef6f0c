theorem e_X6_fault {G : gG} {I : gI} {R : gR} {L : gL} {Q : gQ} {a : Int32} (hR : g_Fx R) (h : (¬ a = 0 → (¬ a = 1 → Q (some (.int (-1))) SH I R L) ∧ (a = 1 → Q (some (.int (I 0 8))) SH I R L)) ∧ (a = 0 → Q (some (.int (I 0 7))) SH I R L)) : Mt G mX6_fault 30 0 0 [.ref 0, .int a] SH I R L Q := by
  refine go_start rfl (Nat.le_of_ble_eq_true rfl) rfl ?_
  refine go_iload_n dX6_fault_0 rfl ?_
  refine go_if_ne 9 dX6_fault_1 (by decide) (fun c => ?_) (fun c => ?_)
  · have h := h.1 c
    refine go_iload_n dX6_fault_9 rfl ?_
    refine go_iconst (v := 1) dX6_fault_10 (by decide) ?_
    refine go_icmp_ne 21 dX6_fault_11 (by decide) (fun c => ?_) (fun c => ?_)
    · have h := h.1 c
      refine go_iconst (v := -1) dX6_fault_21 (by decide) ?_
      exact go_iret dX6_fault_22 rfl rfl h
    · have h := h.2 c
      refine go_aload_n dX6_fault_14 rfl ?_
      refine go_getI dX6_fault_15 fX6_52 rfl rfl ?_
      refine go_goto 22 dX6_fault_18 (by decide) ?_
      exact go_iret dX6_fault_22 rfl rfl h
  · have h := h.2 c
    refine go_aload_n dX6_fault_4 rfl ?_
    refine go_getI dX6_fault_5 fX6_49 rfl rfl ?_
    exact go_iret dX6_fault_8 rfl rfl h
theorem e_X7_fault {G : gG} {I : gI} {R : gR} {L : gL} {Q : gQ} {a : Int32} (hR : g_Fx R) (h : (¬ a = 0 → (¬ a = 1 → Q (some (.int (-1))) SH I R L) ∧ (a = 1 → Q (some (.int (I 310 5))) SH I R L)) ∧ (a = 0 → Q (some (.int (I 310 4))) SH I R L)) : Mt G mX7_fault 30 0 0 [.ref 310, .int a] SH I R L Q := by
  refine go_start rfl (Nat.le_of_ble_eq_true rfl) rfl ?_
  refine go_iload_n dX7_fault_0 rfl ?_
  refine go_if_ne 11 dX7_fault_1 (by decide) (fun c => ?_) (fun c => ?_)
  · have h := h.1 c
    refine go_iload_n dX7_fault_11 rfl ?_
    refine go_iconst (v := 1) dX7_fault_12 (by decide) ?_
    refine go_icmp_ne 23 dX7_fault_13 (by decide) (fun c => ?_) (fun c => ?_)
    · have h := h.1 c
      refine go_iconst (v := -1) dX7_fault_23 (by decide) ?_
      exact go_iret dX7_fault_24 rfl rfl h
    · have h := h.2 c
      refine go_aload_n dX7_fault_16 rfl ?_
      refine go_getI dX7_fault_17 fX7_24 rfl rfl ?_
      refine go_goto 24 dX7_fault_20 (by decide) ?_
      exact go_iret dX7_fault_24 rfl rfl h
  · have h := h.2 c
    refine go_aload_n dX7_fault_4 rfl ?_
    refine go_getI dX7_fault_5 fX7_20 rfl rfl ?_
    refine go_goto 24 dX7_fault_8 (by decide) ?_
    exact go_iret dX7_fault_24 rfl rfl h
theorem e_X6_about {G : gG} {I : gI} {R : gR} {L : gL} {Q : gQ} {a : Int32} (hR : g_Fx R) (h : (a = 0 → Q (some (.int (I 3 6))) SH I R L) ∧ (a = 1 → Q (some (.int ((I (4 + 1) 0 + I (4 + 1) 1 - I (4 + 1) 2 - I (4 + 1) 3) + 10000))) SH I R L) ∧ (a = 2 → Q (some (.int (I 4 4))) SH I R L) ∧ (a = 3 → Q (some (.int (I 4 5))) SH I R L) ∧ (a = 4 → Q (some (.int (I 3 9))) SH I R L) ∧ (a = 5 → Q (some (.int (I 3 10))) SH I R L) ∧ (a = 6 → Q (some (.int (I 3 2))) SH I R L) ∧ (a = 7 → Q (some (.int (I 3 12))) SH I R L) ∧ (a = 8 → Q (some (.int (I 3 14))) SH I R L) ∧ (a = 9 → Q (some (.int (I 0 6))) SH I R L) ∧ (¬ a = 0 ∧ ¬ a = 1 ∧ ¬ a = 2 ∧ ¬ a = 3 ∧ ¬ a = 4 ∧ ¬ a = 5 ∧ ¬ a = 6 ∧ ¬ a = 7 ∧ ¬ a = 8 ∧ ¬ a = 9 → (a < 10 → Q (some (.int (-2))) SH I R L) ∧ (¬ a < 10 → (14 ≤ a → Q (some (.int (-2))) SH I R L) ∧ (¬ 14 ≤ a → vp_in (a - 10) 4 ∧ (Q (some (.int (I 5 (a - 10).toNatClampNeg))) SH I R L))))) : Mt G mX6_about 30 0 0 [.ref 0, .int a] SH I R L Q := by
  refine go_start rfl (Nat.le_of_ble_eq_true rfl) rfl ?_
  refine go_iload_n dX6_about_0 rfl ?_
  by_cases c0 : a = 0
  · have h := h.1 c0
    refine go_tsIn 56 dX6_about_1 (by rw [c0]; decide) (by rw [c0]; decide) (by rw [c0]; rfl) (by decide) ?_
    refine go_aload_n dX6_about_56 rfl ?_
    refine go_getR dX6_about_57 fX6_27 rfl rfl (hR 0 2 3 rfl) ?_
    refine go_getI dX6_about_60 fX6_77 rfl rfl ?_
    exact go_iret dX6_about_63 rfl rfl h
  by_cases c1 : a = 1
  · have h := h.2.1 c1
    refine go_tsIn 64 dX6_about_1 (by rw [c1]; decide) (by rw [c1]; decide) (by rw [c1]; rfl) (by decide) ?_
    refine go_aload_n dX6_about_64 rfl ?_
    refine go_getR dX6_about_65 fX6_27 rfl rfl (hR 0 2 3 rfl) ?_
    refine go_getR dX6_about_68 fX6_68 rfl rfl (hR 3 0 4 rfl) ?_
    refine go_callV0 (μ := mX6_about) [] dX6_about_71 YX4_tilt lX6_267 rfl ⟨_, rfl, rfl⟩ rfl (Nat.le_of_ble_eq_true rfl) (Nat.le_of_ble_eq_true rfl) rfl (k_X4_tilt hR Sc_4 ?_)
    refine go_sipush (v := 10000) dX6_about_74 (by decide) ?_
    refine go_iadd dX6_about_77 ?_
    exact go_iret dX6_about_78 rfl rfl h
  by_cases c2 : a = 2
  · have h := h.2.2.1 c2
    refine go_tsIn 79 dX6_about_1 (by rw [c2]; decide) (by rw [c2]; decide) (by rw [c2]; rfl) (by decide) ?_
    refine go_aload_n dX6_about_79 rfl ?_
    refine go_getR dX6_about_80 fX6_27 rfl rfl (hR 0 2 3 rfl) ?_
    refine go_getR dX6_about_83 fX6_68 rfl rfl (hR 3 0 4 rfl) ?_
    refine go_getI dX6_about_86 fX6_115 rfl rfl ?_
    exact go_iret dX6_about_89 rfl rfl h
  by_cases c3 : a = 3
  · have h := h.2.2.2.1 c3
    refine go_tsIn 90 dX6_about_1 (by rw [c3]; decide) (by rw [c3]; decide) (by rw [c3]; rfl) (by decide) ?_
    refine go_aload_n dX6_about_90 rfl ?_
    refine go_getR dX6_about_91 fX6_27 rfl rfl (hR 0 2 3 rfl) ?_
    refine go_getR dX6_about_94 fX6_68 rfl rfl (hR 3 0 4 rfl) ?_
    refine go_getI dX6_about_97 fX6_89 rfl rfl ?_
    exact go_iret dX6_about_100 rfl rfl h
  by_cases c4 : a = 4
  · have h := h.2.2.2.2.1 c4
    refine go_tsIn 101 dX6_about_1 (by rw [c4]; decide) (by rw [c4]; decide) (by rw [c4]; rfl) (by decide) ?_
    refine go_aload_n dX6_about_101 rfl ?_
    refine go_getR dX6_about_102 fX6_27 rfl rfl (hR 0 2 3 rfl) ?_
    refine go_getI dX6_about_105 fX6_134 rfl rfl ?_
    exact go_iret dX6_about_108 rfl rfl h
  by_cases c5 : a = 5
  · have h := h.2.2.2.2.2.1 c5
    refine go_tsIn 109 dX6_about_1 (by rw [c5]; decide) (by rw [c5]; decide) (by rw [c5]; rfl) (by decide) ?_
    refine go_aload_n dX6_about_109 rfl ?_
    refine go_getR dX6_about_110 fX6_27 rfl rfl (hR 0 2 3 rfl) ?_
    refine go_getI dX6_about_113 fX6_154 rfl rfl ?_
    exact go_iret dX6_about_116 rfl rfl h
  by_cases c6 : a = 6
  · have h := h.2.2.2.2.2.2.1 c6
    refine go_tsIn 117 dX6_about_1 (by rw [c6]; decide) (by rw [c6]; decide) (by rw [c6]; rfl) (by decide) ?_
    refine go_aload_n dX6_about_117 rfl ?_
    refine go_getR dX6_about_118 fX6_27 rfl rfl (hR 0 2 3 rfl) ?_
    refine go_getI dX6_about_121 fX6_166 rfl rfl ?_
    exact go_iret dX6_about_124 rfl rfl h
  by_cases c7 : a = 7
  · have h := h.2.2.2.2.2.2.2.1 c7
    refine go_tsIn 125 dX6_about_1 (by rw [c7]; decide) (by rw [c7]; decide) (by rw [c7]; rfl) (by decide) ?_
    refine go_aload_n dX6_about_125 rfl ?_
    refine go_getR dX6_about_126 fX6_27 rfl rfl (hR 0 2 3 rfl) ?_
    refine go_getI dX6_about_129 fX6_224 rfl rfl ?_
    exact go_iret dX6_about_132 rfl rfl h
  by_cases c8 : a = 8
  · have h := h.2.2.2.2.2.2.2.2.1 c8
    refine go_tsIn 133 dX6_about_1 (by rw [c8]; decide) (by rw [c8]; decide) (by rw [c8]; rfl) (by decide) ?_
    refine go_aload_n dX6_about_133 rfl ?_
    refine go_getR dX6_about_134 fX6_27 rfl rfl (hR 0 2 3 rfl) ?_
    refine go_getI dX6_about_137 fX6_255 rfl rfl ?_
    exact go_iret dX6_about_140 rfl rfl h
  by_cases c9 : a = 9
  · have h := h.2.2.2.2.2.2.2.2.2.1 c9
    refine go_tsIn 141 dX6_about_1 (by rw [c9]; decide) (by rw [c9]; decide) (by rw [c9]; rfl) (by decide) ?_
    refine go_aload_n dX6_about_141 rfl ?_
    refine go_getI dX6_about_142 fX6_45 rfl rfl ?_
    exact go_iret dX6_about_145 rfl rfl h
  have h := h.2.2.2.2.2.2.2.2.2.2 ⟨c0, c1, c2, c3, c4, c5, c6, c7, c8, c9⟩
  have e0 : ¬ Int32.toInt a = 0 := fun q => c0 (Int32.toInt_inj.mp (q.trans (by decide)))
  have e1 : ¬ Int32.toInt a = 1 := fun q => c1 (Int32.toInt_inj.mp (q.trans (by decide)))
  have e2 : ¬ Int32.toInt a = 2 := fun q => c2 (Int32.toInt_inj.mp (q.trans (by decide)))
  have e3 : ¬ Int32.toInt a = 3 := fun q => c3 (Int32.toInt_inj.mp (q.trans (by decide)))
  have e4 : ¬ Int32.toInt a = 4 := fun q => c4 (Int32.toInt_inj.mp (q.trans (by decide)))
  have e5 : ¬ Int32.toInt a = 5 := fun q => c5 (Int32.toInt_inj.mp (q.trans (by decide)))
  have e6 : ¬ Int32.toInt a = 6 := fun q => c6 (Int32.toInt_inj.mp (q.trans (by decide)))
  have e7 : ¬ Int32.toInt a = 7 := fun q => c7 (Int32.toInt_inj.mp (q.trans (by decide)))
  have e8 : ¬ Int32.toInt a = 8 := fun q => c8 (Int32.toInt_inj.mp (q.trans (by decide)))
  have e9 : ¬ Int32.toInt a = 9 := fun q => c9 (Int32.toInt_inj.mp (q.trans (by decide)))
  refine go_tsOut 146 dX6_about_1 (by omega) (by decide) ?_
  refine go_iload_n dX6_about_146 rfl ?_
  refine go_bipush (v := 10) dX6_about_147 (by decide) ?_
  refine go_icmp_lt 176 dX6_about_149 (by decide) (fun c => ?_) (fun c => ?_)
  · have h := h.1 c
    refine go_bipush (v := -2) dX6_about_176 (by decide) ?_
    exact go_iret dX6_about_178 rfl rfl h
  · have h := h.2 c
    refine go_iload_n dX6_about_152 rfl ?_
    refine go_bipush (v := 14) dX6_about_153 (by decide) ?_
    refine go_icmp_ge 176 dX6_about_155 (by decide) (fun c => ?_) (fun c => ?_)
    · have h := h.1 c
      refine go_bipush (v := -2) dX6_about_176 (by decide) ?_
      exact go_iret dX6_about_178 rfl rfl h
    · have h := h.2 c
      refine go_aload_n dX6_about_158 rfl ?_
      refine go_getR dX6_about_159 fX6_27 rfl rfl (hR 0 2 3 rfl) ?_
      refine go_getR dX6_about_162 fX6_68 rfl rfl (hR 3 0 4 rfl) ?_
      refine go_getR dX6_about_165 fX6_72 rfl rfl (hR 4 0 5 rfl) ?_
      refine go_iload_n dX6_about_168 rfl ?_
      refine go_bipush (v := 10) dX6_about_169 (by decide) ?_
      refine go_isub dX6_about_171 ?_
      obtain ⟨hi, h⟩ := h
      refine go_iald dX6_about_172 rfl hi ?_
      refine go_goto 178 dX6_about_173 (by decide) ?_
      exact go_iret dX6_about_178 rfl rfl h
theorem e_X7_about {G : gG} {I : gI} {R : gR} {L : gL} {Q : gQ} {a : Int32} (hR : g_Fx R) (h : (a = 0 → Q (some (.int (I 311 0))) SH I R L) ∧ (a = 1 → Q (some (.int (((((I 311 110) + (I 311 111)) - (I 311 112)) - (I 311 113)) + 10000))) SH I R L) ∧ (a = 2 → Q (some (.int (I 311 373))) SH I R L) ∧ (a = 3 → Q (some (.int (I 311 464))) SH I R L) ∧ (a = 4 → Q (some (.int (I 311 1))) SH I R L) ∧ (a = 5 → Q (some (.int (I 311 2))) SH I R L) ∧ (a = 6 → Q (some (.int (I 311 3))) SH I R L) ∧ (a = 7 → Q (some (.int (I 311 4))) SH I R L) ∧ (a = 8 → Q (some (.int (I 311 5))) SH I R L) ∧ (a = 9 → Q (some (.int (I 310 3))) SH I R L) ∧ (¬ a = 0 ∧ ¬ a = 1 ∧ ¬ a = 2 ∧ ¬ a = 3 ∧ ¬ a = 4 ∧ ¬ a = 5 ∧ ¬ a = 6 ∧ ¬ a = 7 ∧ ¬ a = 8 ∧ ¬ a = 9 → (¬ ((10 : Int32) ≤ a ∧ a ≤ (13 : Int32)) → Q (some (.int (-2))) SH I R L) ∧ ((10 : Int32) ≤ a ∧ a ≤ (13 : Int32) → vp_in ((110 + a) - 10) 11120 ∧ (Q (some (.int (I 311 ((110 + a) - 10).toNatClampNeg))) SH I R L)))) : Mt G mX7_about 30 0 0 [.ref 310, .int a] SH I R L Q := by
  refine go_start rfl (Nat.le_of_ble_eq_true rfl) rfl ?_
  refine go_iload_n dX7_about_0 rfl ?_
  by_cases c0 : a = 0
  · have h := h.1 c0
    refine go_tsIn 56 dX7_about_1 (by rw [c0]; decide) (by rw [c0]; decide) (by rw [c0]; rfl) (by decide) ?_
    refine go_aload_n dX7_about_56 rfl ?_
    refine go_getR dX7_about_57 fX7_7 rfl rfl (hR 310 0 311 rfl) ?_
    refine go_iconst (v := 0) dX7_about_60 (by decide) ?_
    refine go_ialdK dX7_about_61 rfl (vp_in_nI (n := 0) (by decide) (by decide)) (k := 0) (by decide) ?_
    exact go_iret dX7_about_62 rfl rfl h
  by_cases c1 : a = 1
  · have h := h.2.1 c1
    refine go_tsIn 63 dX7_about_1 (by rw [c1]; decide) (by rw [c1]; decide) (by rw [c1]; rfl) (by decide) ?_
    refine go_aload_n dX7_about_63 rfl ?_
    refine go_getR dX7_about_64 fX7_7 rfl rfl (hR 310 0 311 rfl) ?_
    refine go_bipush (v := 110) dX7_about_67 (by decide) ?_
    refine go_ialdK dX7_about_69 rfl (vp_in_nI (n := 110) (by decide) (by decide)) (k := 110) (by decide) ?_
    refine go_aload_n dX7_about_70 rfl ?_
    refine go_getR dX7_about_71 fX7_7 rfl rfl (hR 310 0 311 rfl) ?_
    refine go_bipush (v := 111) dX7_about_74 (by decide) ?_
    refine go_ialdK dX7_about_76 rfl (vp_in_nI (n := 111) (by decide) (by decide)) (k := 111) (by decide) ?_
    refine go_iadd dX7_about_77 ?_
    refine go_aload_n dX7_about_78 rfl ?_
    refine go_getR dX7_about_79 fX7_7 rfl rfl (hR 310 0 311 rfl) ?_
    refine go_bipush (v := 112) dX7_about_82 (by decide) ?_
    refine go_ialdK dX7_about_84 rfl (vp_in_nI (n := 112) (by decide) (by decide)) (k := 112) (by decide) ?_
    refine go_isub dX7_about_85 ?_
    refine go_aload_n dX7_about_86 rfl ?_
    refine go_getR dX7_about_87 fX7_7 rfl rfl (hR 310 0 311 rfl) ?_
    refine go_bipush (v := 113) dX7_about_90 (by decide) ?_
    refine go_ialdK dX7_about_92 rfl (vp_in_nI (n := 113) (by decide) (by decide)) (k := 113) (by decide) ?_
    refine go_isub dX7_about_93 ?_
    refine go_sipush (v := 10000) dX7_about_94 (by decide) ?_
    refine go_iadd dX7_about_97 ?_
    exact go_iret dX7_about_98 rfl rfl h
  by_cases c2 : a = 2
  · have h := h.2.2.1 c2
    refine go_tsIn 99 dX7_about_1 (by rw [c2]; decide) (by rw [c2]; decide) (by rw [c2]; rfl) (by decide) ?_
    refine go_aload_n dX7_about_99 rfl ?_
    refine go_getR dX7_about_100 fX7_7 rfl rfl (hR 310 0 311 rfl) ?_
    refine go_sipush (v := 373) dX7_about_103 (by decide) ?_
    refine go_ialdK dX7_about_106 rfl (vp_in_nI (n := 373) (by decide) (by decide)) (k := 373) (by decide) ?_
    exact go_iret dX7_about_107 rfl rfl h
  by_cases c3 : a = 3
  · have h := h.2.2.2.1 c3
    refine go_tsIn 108 dX7_about_1 (by rw [c3]; decide) (by rw [c3]; decide) (by rw [c3]; rfl) (by decide) ?_
    refine go_aload_n dX7_about_108 rfl ?_
    refine go_getR dX7_about_109 fX7_7 rfl rfl (hR 310 0 311 rfl) ?_
    refine go_sipush (v := 464) dX7_about_112 (by decide) ?_
    refine go_ialdK dX7_about_115 rfl (vp_in_nI (n := 464) (by decide) (by decide)) (k := 464) (by decide) ?_
    exact go_iret dX7_about_116 rfl rfl h
  by_cases c4 : a = 4
  · have h := h.2.2.2.2.1 c4
    refine go_tsIn 117 dX7_about_1 (by rw [c4]; decide) (by rw [c4]; decide) (by rw [c4]; rfl) (by decide) ?_
    refine go_aload_n dX7_about_117 rfl ?_
    refine go_getR dX7_about_118 fX7_7 rfl rfl (hR 310 0 311 rfl) ?_
    refine go_iconst (v := 1) dX7_about_121 (by decide) ?_
    refine go_ialdK dX7_about_122 rfl (vp_in_nI (n := 1) (by decide) (by decide)) (k := 1) (by decide) ?_
    exact go_iret dX7_about_123 rfl rfl h
  by_cases c5 : a = 5
  · have h := h.2.2.2.2.2.1 c5
    refine go_tsIn 124 dX7_about_1 (by rw [c5]; decide) (by rw [c5]; decide) (by rw [c5]; rfl) (by decide) ?_
    refine go_aload_n dX7_about_124 rfl ?_
    refine go_getR dX7_about_125 fX7_7 rfl rfl (hR 310 0 311 rfl) ?_
    refine go_iconst (v := 2) dX7_about_128 (by decide) ?_
    refine go_ialdK dX7_about_129 rfl (vp_in_nI (n := 2) (by decide) (by decide)) (k := 2) (by decide) ?_
    exact go_iret dX7_about_130 rfl rfl h
  by_cases c6 : a = 6
  · have h := h.2.2.2.2.2.2.1 c6
    refine go_tsIn 131 dX7_about_1 (by rw [c6]; decide) (by rw [c6]; decide) (by rw [c6]; rfl) (by decide) ?_
    refine go_aload_n dX7_about_131 rfl ?_
    refine go_getR dX7_about_132 fX7_7 rfl rfl (hR 310 0 311 rfl) ?_
    refine go_iconst (v := 3) dX7_about_135 (by decide) ?_
    refine go_ialdK dX7_about_136 rfl (vp_in_nI (n := 3) (by decide) (by decide)) (k := 3) (by decide) ?_
    exact go_iret dX7_about_137 rfl rfl h
  by_cases c7 : a = 7
  · have h := h.2.2.2.2.2.2.2.1 c7
    refine go_tsIn 138 dX7_about_1 (by rw [c7]; decide) (by rw [c7]; decide) (by rw [c7]; rfl) (by decide) ?_
    refine go_aload_n dX7_about_138 rfl ?_
    refine go_getR dX7_about_139 fX7_7 rfl rfl (hR 310 0 311 rfl) ?_
    refine go_iconst (v := 4) dX7_about_142 (by decide) ?_
    refine go_ialdK dX7_about_143 rfl (vp_in_nI (n := 4) (by decide) (by decide)) (k := 4) (by decide) ?_
    exact go_iret dX7_about_144 rfl rfl h
  by_cases c8 : a = 8
  · have h := h.2.2.2.2.2.2.2.2.1 c8
    refine go_tsIn 145 dX7_about_1 (by rw [c8]; decide) (by rw [c8]; decide) (by rw [c8]; rfl) (by decide) ?_
    refine go_aload_n dX7_about_145 rfl ?_
    refine go_getR dX7_about_146 fX7_7 rfl rfl (hR 310 0 311 rfl) ?_
    refine go_iconst (v := 5) dX7_about_149 (by decide) ?_
    refine go_ialdK dX7_about_150 rfl (vp_in_nI (n := 5) (by decide) (by decide)) (k := 5) (by decide) ?_
    exact go_iret dX7_about_151 rfl rfl h
  by_cases c9 : a = 9
  · have h := h.2.2.2.2.2.2.2.2.2.1 c9
    refine go_tsIn 152 dX7_about_1 (by rw [c9]; decide) (by rw [c9]; decide) (by rw [c9]; rfl) (by decide) ?_
    refine go_aload_n dX7_about_152 rfl ?_
    refine go_getI dX7_about_153 fX7_118 rfl rfl ?_
    exact go_iret dX7_about_156 rfl rfl h
  have h := h.2.2.2.2.2.2.2.2.2.2 ⟨c0, c1, c2, c3, c4, c5, c6, c7, c8, c9⟩
  have e0 : ¬ Int32.toInt a = 0 := fun q => c0 (Int32.toInt_inj.mp (q.trans (by decide)))
  have e1 : ¬ Int32.toInt a = 1 := fun q => c1 (Int32.toInt_inj.mp (q.trans (by decide)))
  have e2 : ¬ Int32.toInt a = 2 := fun q => c2 (Int32.toInt_inj.mp (q.trans (by decide)))
  have e3 : ¬ Int32.toInt a = 3 := fun q => c3 (Int32.toInt_inj.mp (q.trans (by decide)))
  have e4 : ¬ Int32.toInt a = 4 := fun q => c4 (Int32.toInt_inj.mp (q.trans (by decide)))
  have e5 : ¬ Int32.toInt a = 5 := fun q => c5 (Int32.toInt_inj.mp (q.trans (by decide)))
  have e6 : ¬ Int32.toInt a = 6 := fun q => c6 (Int32.toInt_inj.mp (q.trans (by decide)))
  have e7 : ¬ Int32.toInt a = 7 := fun q => c7 (Int32.toInt_inj.mp (q.trans (by decide)))
  have e8 : ¬ Int32.toInt a = 8 := fun q => c8 (Int32.toInt_inj.mp (q.trans (by decide)))
  have e9 : ¬ Int32.toInt a = 9 := fun q => c9 (Int32.toInt_inj.mp (q.trans (by decide)))
  refine go_tsOut 157 dX7_about_1 (by omega) (by decide) ?_
  refine go_iload_n dX7_about_157 rfl ?_
  refine go_bipush (v := 10) dX7_about_158 (by decide) ?_
  refine go_bipush (v := 13) dX7_about_160 (by decide) ?_
  refine go_callS0 (μ := mX7_about) [.int _, .int _, .int _] dX7_about_162 YX7_in lX7_110 rfl (Nat.le_of_ble_eq_true rfl) (Nat.le_of_ble_eq_true rfl) rfl (k_X7_in hR ?_)
  refine go_if_eq 183 dX7_about_165 (by decide) (fun c => ?_) (fun c => ?_)
  · have h := h.1 (b0.mp c)
    refine go_bipush (v := -2) dX7_about_183 (by decide) ?_
    exact go_iret dX7_about_185 rfl rfl h
  · have h := h.2 (b1.mp c)
    refine go_aload_n dX7_about_168 rfl ?_
    refine go_getR dX7_about_169 fX7_7 rfl rfl (hR 310 0 311 rfl) ?_
    refine go_bipush (v := 110) dX7_about_172 (by decide) ?_
    refine go_iload_n dX7_about_174 rfl ?_
    refine go_iadd dX7_about_175 ?_
    refine go_bipush (v := 10) dX7_about_176 (by decide) ?_
    refine go_isub dX7_about_178 ?_
    obtain ⟨hi, h⟩ := h
    refine go_iald dX7_about_179 rfl hi ?_
    refine go_goto 185 dX7_about_180 (by decide) ?_
    exact go_iret dX7_about_185 rfl rfl h
theorem e_X6_written {G : gG} {I : gI} {R : gR} {L : gL} {Q : gQ} {a b : Int32} (hR : g_Fx R) (h : (¬ a = (-1) → (a < 0 → Q (some (.int (-2))) SH I R L) ∧ (¬ a < 0 → ((I 4 3) ≤ a → Q (some (.int (-2))) SH I R L) ∧ (¬ (I 4 3) ≤ a → (60 ≤ a → Q (some (.int (-2))) SH I R L) ∧ (¬ 60 ≤ a → (b < 0 → Q (some (.int (-2))) SH I R L) ∧ (¬ b < 0 → (b < 4 → vp_in ((4 * a) + b) 240 ∧ (Q (some (.int (I 132 ((4 * a) + b).toNatClampNeg))) SH I R L)) ∧ (¬ b < 4 → Q (some (.int (-2))) SH I R L)))))) ∧ (a = (-1) → Q (some (.int (I 4 3))) SH I R L)) : Mt G mX6_written 30 0 0 [.ref 0, .int a, .int b] SH I R L Q := by
  refine go_start rfl (Nat.le_of_ble_eq_true rfl) rfl ?_
  refine go_iload_n dX6_written_0 rfl ?_
  refine go_iconst (v := -1) dX6_written_1 (by decide) ?_
  refine go_icmp_ne 16 dX6_written_2 (by decide) (fun c => ?_) (fun c => ?_)
  · have h := h.1 c
    refine go_iload_n dX6_written_16 rfl ?_
    refine go_if_lt 49 dX6_written_17 (by decide) (fun c => ?_) (fun c => ?_)
    · have h := h.1 c
      refine go_bipush (v := -2) dX6_written_49 (by decide) ?_
      exact go_iret dX6_written_51 rfl rfl h
    · have h := h.2 c
      refine go_iload_n dX6_written_20 rfl ?_
      refine go_aload_n dX6_written_21 rfl ?_
      refine go_getR dX6_written_22 fX6_27 rfl rfl (hR 0 2 3 rfl) ?_
      refine go_getR dX6_written_25 fX6_68 rfl rfl (hR 3 0 4 rfl) ?_
      refine go_getI dX6_written_28 fX6_101 rfl rfl ?_
      refine go_icmp_ge 49 dX6_written_31 (by decide) (fun c => ?_) (fun c => ?_)
      · have h := h.1 c
        refine go_bipush (v := -2) dX6_written_49 (by decide) ?_
        exact go_iret dX6_written_51 rfl rfl h
      · have h := h.2 c
        refine go_iload_n dX6_written_34 rfl ?_
        refine go_bipush (v := 60) dX6_written_35 (by decide) ?_
        refine go_icmp_ge 49 dX6_written_37 (by decide) (fun c => ?_) (fun c => ?_)
        · have h := h.1 c
          refine go_bipush (v := -2) dX6_written_49 (by decide) ?_
          exact go_iret dX6_written_51 rfl rfl h
        · have h := h.2 c
          refine go_iload_n dX6_written_40 rfl ?_
          refine go_if_lt 49 dX6_written_41 (by decide) (fun c => ?_) (fun c => ?_)
          · have h := h.1 c
            refine go_bipush (v := -2) dX6_written_49 (by decide) ?_
            exact go_iret dX6_written_51 rfl rfl h
          · have h := h.2 c
            refine go_iload_n dX6_written_44 rfl ?_
            refine go_iconst (v := 4) dX6_written_45 (by decide) ?_
            refine go_icmp_lt 52 dX6_written_46 (by decide) (fun c => ?_) (fun c => ?_)
            · have h := h.1 c
              refine go_aload_n dX6_written_52 rfl ?_
              refine go_getR dX6_written_53 fX6_27 rfl rfl (hR 0 2 3 rfl) ?_
              refine go_getR dX6_written_56 fX6_184 rfl rfl (hR 3 7 132 rfl) ?_
              refine go_iconst (v := 4) dX6_written_59 (by decide) ?_
              refine go_iload_n dX6_written_60 rfl ?_
              refine go_imul dX6_written_61 ?_
              refine go_iload_n dX6_written_62 rfl ?_
              refine go_iadd dX6_written_63 ?_
              obtain ⟨hi, h⟩ := h
              refine go_iald dX6_written_64 rfl hi ?_
              exact go_iret dX6_written_65 rfl rfl h
            · have h := h.2 c
              refine go_bipush (v := -2) dX6_written_49 (by decide) ?_
              exact go_iret dX6_written_51 rfl rfl h
  · have h := h.2 c
    refine go_aload_n dX6_written_5 rfl ?_
    refine go_getR dX6_written_6 fX6_27 rfl rfl (hR 0 2 3 rfl) ?_
    refine go_getR dX6_written_9 fX6_68 rfl rfl (hR 3 0 4 rfl) ?_
    refine go_getI dX6_written_12 fX6_101 rfl rfl ?_
    exact go_iret dX6_written_15 rfl rfl h
theorem e_X7_written {G : gG} {I : gI} {R : gR} {L : gL} {Q : gQ} {a b : Int32} (hR : g_Fx R) (h : (¬ a = (-1) → (¬ ((0 : Int32) ≤ a ∧ a ≤ ((I 311 132) - 1)) → Q (some (.int (-2))) SH I R L) ∧ ((0 : Int32) ≤ a ∧ a ≤ ((I 311 132) - 1) → (¬ ((0 : Int32) ≤ b ∧ b ≤ (3 : Int32)) → Q (some (.int (-2))) SH I R L) ∧ ((0 : Int32) ≤ b ∧ b ≤ (3 : Int32) → vp_in ((133 + (4 * a)) + b) 11120 ∧ (Q (some (.int (I 311 ((133 + (4 * a)) + b).toNatClampNeg))) SH I R L)))) ∧ (a = (-1) → Q (some (.int (I 311 132))) SH I R L)) : Mt G mX7_written 30 0 0 [.ref 310, .int a, .int b] SH I R L Q := by
  refine go_start rfl (Nat.le_of_ble_eq_true rfl) rfl ?_
  refine go_iload_n dX7_written_0 rfl ?_
  refine go_iconst (v := -1) dX7_written_1 (by decide) ?_
  refine go_icmp_ne 14 dX7_written_2 (by decide) (fun c => ?_) (fun c => ?_)
  · have h := h.1 c
    refine go_iload_n dX7_written_14 rfl ?_
    refine go_iconst (v := 0) dX7_written_15 (by decide) ?_
    refine go_aload_n dX7_written_16 rfl ?_
    refine go_getR dX7_written_17 fX7_7 rfl rfl (hR 310 0 311 rfl) ?_
    refine go_sipush (v := 132) dX7_written_20 (by decide) ?_
    refine go_ialdK dX7_written_23 rfl (vp_in_nI (n := 132) (by decide) (by decide)) (k := 132) (by decide) ?_
    refine go_iconst (v := 1) dX7_written_24 (by decide) ?_
    refine go_isub dX7_written_25 ?_
    refine go_callS0 (μ := mX7_written) [.int _, .int _, .int _] dX7_written_26 YX7_in lX7_110 rfl (Nat.le_of_ble_eq_true rfl) (Nat.le_of_ble_eq_true rfl) rfl (k_X7_in hR ?_)
    refine go_if_eq 58 dX7_written_29 (by decide) (fun c => ?_) (fun c => ?_)
    · have h := h.1 (b0.mp c)
      refine go_bipush (v := -2) dX7_written_58 (by decide) ?_
      exact go_iret dX7_written_60 rfl rfl h
    · have h := h.2 (b1.mp c)
      refine go_iload_n dX7_written_32 rfl ?_
      refine go_iconst (v := 0) dX7_written_33 (by decide) ?_
      refine go_iconst (v := 3) dX7_written_34 (by decide) ?_
      refine go_callS0 (μ := mX7_written) [.int _, .int _, .int _] dX7_written_35 YX7_in lX7_110 rfl (Nat.le_of_ble_eq_true rfl) (Nat.le_of_ble_eq_true rfl) rfl (k_X7_in hR ?_)
      refine go_if_eq 58 dX7_written_38 (by decide) (fun c => ?_) (fun c => ?_)
      · have h := h.1 (b0.mp c)
        refine go_bipush (v := -2) dX7_written_58 (by decide) ?_
        exact go_iret dX7_written_60 rfl rfl h
      · have h := h.2 (b1.mp c)
        refine go_aload_n dX7_written_41 rfl ?_
        refine go_getR dX7_written_42 fX7_7 rfl rfl (hR 310 0 311 rfl) ?_
        refine go_sipush (v := 133) dX7_written_45 (by decide) ?_
        refine go_iconst (v := 4) dX7_written_48 (by decide) ?_
        refine go_iload_n dX7_written_49 rfl ?_
        refine go_imul dX7_written_50 ?_
        refine go_iadd dX7_written_51 ?_
        refine go_iload_n dX7_written_52 rfl ?_
        refine go_iadd dX7_written_53 ?_
        obtain ⟨hi, h⟩ := h
        refine go_iald dX7_written_54 rfl hi ?_
        refine go_goto 60 dX7_written_55 (by decide) ?_
        exact go_iret dX7_written_60 rfl rfl h
  · have h := h.2 c
    refine go_aload_n dX7_written_5 rfl ?_
    refine go_getR dX7_written_6 fX7_7 rfl rfl (hR 310 0 311 rfl) ?_
    refine go_sipush (v := 132) dX7_written_9 (by decide) ?_
    refine go_ialdK dX7_written_12 rfl (vp_in_nI (n := 132) (by decide) (by decide)) (k := 132) (by decide) ?_
    exact go_iret dX7_written_13 rfl rfl h
theorem e_X6_dent {G : gG} {I : gI} {R : gR} {L : gL} {Q : gQ} {a b : Int32} (hR : g_Fx R) (h : (¬ a = (-1) → (a < 0 → Q (some (.int (-9999))) SH I R L) ∧ (¬ a < 0 → ((I 4 4) ≤ a → Q (some (.int (-9999))) SH I R L) ∧ (¬ (I 4 4) ≤ a → (30 ≤ a → Q (some (.int (-9999))) SH I R L) ∧ (¬ 30 ≤ a → (b < 0 → Q (some (.int (-9999))) SH I R L) ∧ (¬ b < 0 → (b < 3 → vp_in ((3 * a) + b) 90 ∧ (Q (some (.int (I 133 ((3 * a) + b).toNatClampNeg))) SH I R L)) ∧ (¬ b < 3 → Q (some (.int (-9999))) SH I R L)))))) ∧ (a = (-1) → Q (some (.int (I 4 4))) SH I R L)) : Mt G mX6_dent 30 0 0 [.ref 0, .int a, .int b] SH I R L Q := by
  refine go_start rfl (Nat.le_of_ble_eq_true rfl) rfl ?_
  refine go_iload_n dX6_dent_0 rfl ?_
  refine go_iconst (v := -1) dX6_dent_1 (by decide) ?_
  refine go_icmp_ne 16 dX6_dent_2 (by decide) (fun c => ?_) (fun c => ?_)
  · have h := h.1 c
    refine go_iload_n dX6_dent_16 rfl ?_
    refine go_if_lt 49 dX6_dent_17 (by decide) (fun c => ?_) (fun c => ?_)
    · have h := h.1 c
      refine go_sipush (v := -9999) dX6_dent_49 (by decide) ?_
      exact go_iret dX6_dent_52 rfl rfl h
    · have h := h.2 c
      refine go_iload_n dX6_dent_20 rfl ?_
      refine go_aload_n dX6_dent_21 rfl ?_
      refine go_getR dX6_dent_22 fX6_27 rfl rfl (hR 0 2 3 rfl) ?_
      refine go_getR dX6_dent_25 fX6_68 rfl rfl (hR 3 0 4 rfl) ?_
      refine go_getI dX6_dent_28 fX6_115 rfl rfl ?_
      refine go_icmp_ge 49 dX6_dent_31 (by decide) (fun c => ?_) (fun c => ?_)
      · have h := h.1 c
        refine go_sipush (v := -9999) dX6_dent_49 (by decide) ?_
        exact go_iret dX6_dent_52 rfl rfl h
      · have h := h.2 c
        refine go_iload_n dX6_dent_34 rfl ?_
        refine go_bipush (v := 30) dX6_dent_35 (by decide) ?_
        refine go_icmp_ge 49 dX6_dent_37 (by decide) (fun c => ?_) (fun c => ?_)
        · have h := h.1 c
          refine go_sipush (v := -9999) dX6_dent_49 (by decide) ?_
          exact go_iret dX6_dent_52 rfl rfl h
        · have h := h.2 c
          refine go_iload_n dX6_dent_40 rfl ?_
          refine go_if_lt 49 dX6_dent_41 (by decide) (fun c => ?_) (fun c => ?_)
          · have h := h.1 c
            refine go_sipush (v := -9999) dX6_dent_49 (by decide) ?_
            exact go_iret dX6_dent_52 rfl rfl h
          · have h := h.2 c
            refine go_iload_n dX6_dent_44 rfl ?_
            refine go_iconst (v := 3) dX6_dent_45 (by decide) ?_
            refine go_icmp_lt 53 dX6_dent_46 (by decide) (fun c => ?_) (fun c => ?_)
            · have h := h.1 c
              refine go_aload_n dX6_dent_53 rfl ?_
              refine go_getR dX6_dent_54 fX6_27 rfl rfl (hR 0 2 3 rfl) ?_
              refine go_getR dX6_dent_57 fX6_187 rfl rfl (hR 3 8 133 rfl) ?_
              refine go_iconst (v := 3) dX6_dent_60 (by decide) ?_
              refine go_iload_n dX6_dent_61 rfl ?_
              refine go_imul dX6_dent_62 ?_
              refine go_iload_n dX6_dent_63 rfl ?_
              refine go_iadd dX6_dent_64 ?_
              obtain ⟨hi, h⟩ := h
              refine go_iald dX6_dent_65 rfl hi ?_
              exact go_iret dX6_dent_66 rfl rfl h
            · have h := h.2 c
              refine go_sipush (v := -9999) dX6_dent_49 (by decide) ?_
              exact go_iret dX6_dent_52 rfl rfl h
  · have h := h.2 c
    refine go_aload_n dX6_dent_5 rfl ?_
    refine go_getR dX6_dent_6 fX6_27 rfl rfl (hR 0 2 3 rfl) ?_
    refine go_getR dX6_dent_9 fX6_68 rfl rfl (hR 3 0 4 rfl) ?_
    refine go_getI dX6_dent_12 fX6_115 rfl rfl ?_
    exact go_iret dX6_dent_15 rfl rfl h
theorem e_X7_dent {G : gG} {I : gI} {R : gR} {L : gL} {Q : gQ} {a b : Int32} (hR : g_Fx R) (h : (¬ a = (-1) → (¬ ((0 : Int32) ≤ a ∧ a ≤ ((I 311 373) - 1)) → Q (some (.int (-9999))) SH I R L) ∧ ((0 : Int32) ≤ a ∧ a ≤ ((I 311 373) - 1) → (¬ ((0 : Int32) ≤ b ∧ b ≤ (2 : Int32)) → Q (some (.int (-9999))) SH I R L) ∧ ((0 : Int32) ≤ b ∧ b ≤ (2 : Int32) → vp_in ((374 + (3 * a)) + b) 11120 ∧ (Q (some (.int (I 311 ((374 + (3 * a)) + b).toNatClampNeg))) SH I R L)))) ∧ (a = (-1) → Q (some (.int (I 311 373))) SH I R L)) : Mt G mX7_dent 30 0 0 [.ref 310, .int a, .int b] SH I R L Q := by
  refine go_start rfl (Nat.le_of_ble_eq_true rfl) rfl ?_
  refine go_iload_n dX7_dent_0 rfl ?_
  refine go_iconst (v := -1) dX7_dent_1 (by decide) ?_
  refine go_icmp_ne 14 dX7_dent_2 (by decide) (fun c => ?_) (fun c => ?_)
  · have h := h.1 c
    refine go_iload_n dX7_dent_14 rfl ?_
    refine go_iconst (v := 0) dX7_dent_15 (by decide) ?_
    refine go_aload_n dX7_dent_16 rfl ?_
    refine go_getR dX7_dent_17 fX7_7 rfl rfl (hR 310 0 311 rfl) ?_
    refine go_sipush (v := 373) dX7_dent_20 (by decide) ?_
    refine go_ialdK dX7_dent_23 rfl (vp_in_nI (n := 373) (by decide) (by decide)) (k := 373) (by decide) ?_
    refine go_iconst (v := 1) dX7_dent_24 (by decide) ?_
    refine go_isub dX7_dent_25 ?_
    refine go_callS0 (μ := mX7_dent) [.int _, .int _, .int _] dX7_dent_26 YX7_in lX7_110 rfl (Nat.le_of_ble_eq_true rfl) (Nat.le_of_ble_eq_true rfl) rfl (k_X7_in hR ?_)
    refine go_if_eq 58 dX7_dent_29 (by decide) (fun c => ?_) (fun c => ?_)
    · have h := h.1 (b0.mp c)
      refine go_sipush (v := -9999) dX7_dent_58 (by decide) ?_
      exact go_iret dX7_dent_61 rfl rfl h
    · have h := h.2 (b1.mp c)
      refine go_iload_n dX7_dent_32 rfl ?_
      refine go_iconst (v := 0) dX7_dent_33 (by decide) ?_
      refine go_iconst (v := 2) dX7_dent_34 (by decide) ?_
      refine go_callS0 (μ := mX7_dent) [.int _, .int _, .int _] dX7_dent_35 YX7_in lX7_110 rfl (Nat.le_of_ble_eq_true rfl) (Nat.le_of_ble_eq_true rfl) rfl (k_X7_in hR ?_)
      refine go_if_eq 58 dX7_dent_38 (by decide) (fun c => ?_) (fun c => ?_)
      · have h := h.1 (b0.mp c)
        refine go_sipush (v := -9999) dX7_dent_58 (by decide) ?_
        exact go_iret dX7_dent_61 rfl rfl h
      · have h := h.2 (b1.mp c)
        refine go_aload_n dX7_dent_41 rfl ?_
        refine go_getR dX7_dent_42 fX7_7 rfl rfl (hR 310 0 311 rfl) ?_
        refine go_sipush (v := 374) dX7_dent_45 (by decide) ?_
        refine go_iconst (v := 3) dX7_dent_48 (by decide) ?_
        refine go_iload_n dX7_dent_49 rfl ?_
        refine go_imul dX7_dent_50 ?_
        refine go_iadd dX7_dent_51 ?_
        refine go_iload_n dX7_dent_52 rfl ?_
        refine go_iadd dX7_dent_53 ?_
        obtain ⟨hi, h⟩ := h
        refine go_iald dX7_dent_54 rfl hi ?_
        refine go_goto 61 dX7_dent_55 (by decide) ?_
        exact go_iret dX7_dent_61 rfl rfl h
  · have h := h.2 c
    refine go_aload_n dX7_dent_5 rfl ?_
    refine go_getR dX7_dent_6 fX7_7 rfl rfl (hR 310 0 311 rfl) ?_
    refine go_sipush (v := 373) dX7_dent_9 (by decide) ?_
    refine go_ialdK dX7_dent_12 rfl (vp_in_nI (n := 373) (by decide) (by decide)) (k := 373) (by decide) ?_
    exact go_iret dX7_dent_13 rfl rfl h
/-! call by call: the class, then the plain form -/
def prom (G : gG) (ν : gm) (as : List Value) (r : Option Value) (I1 : gI) (R1 : gR) (L1 : gL) : Prop := ∀ Q2 : gQ, (∀ I2 R2 L2, Rel I2 R2 → Q2 r SH I2 R2 L2) → Mt G ν 30 0 0 as SH I1 R1 L1 Q2
theorem k_hng (w : Int32) : (if w = 0 then 0 else if 0 < w then 1 else -1 : Int32) = hng w := rfl
theorem k_X6_hng {G : gG} {I : gI} {R : gR} {L : gL} {Q : gQ} {a : Int32} (hR : g_Fx R) (hq : Q (some (.int (hng a))) SH I R L) : Mt G mX6_hang 1 0 0 [.int a] SH I R L Q := k_X6_hang hR hq
theorem p_fault {G : gG} {I : gI} {R : gR} {L : gL} {Q : gQ} {a : Int32} (h : Rel I R) (hq : ∀ v I1 R1 L1, prom G mX7_fault [.ref 310, .int a] (some (.int v)) I1 R1 L1 → Q (some (.int v)) SH I1 R1 L1) : Mt G mX6_fault 30 0 0 [.ref 0, .int a] SH I R L Q := by
  obtain ⟨-, -, -, t7, t8⟩ := h.1.2.2.2.2.2.2.2
  refine e_X6_fault h.1.1 ⟨fun c1 => ⟨fun c2 => ?_, fun c2 => ?_⟩, fun c1 => ?_⟩
  · exact hq _ I R L (fun Q2 h2 => e_X7_fault h.1.1 (by have := h2 I R L h; grind))
  · rw [t8]; exact hq _ I R L (fun Q2 h2 => e_X7_fault h.1.1 (by have := h2 I R L h; grind))
  · rw [t7]; exact hq _ I R L (fun Q2 h2 => e_X7_fault h.1.1 (by have := h2 I R L h; grind))
/-- what is now, by the class and by the plain form -/
theorem R_co {I : gI} {R : gR} (h : Rel I R) : coR I 3 (I 311) ∧ scR I 4 132 133 (row (I 311) 110) ∧ okh (I 311) ∧ okr (I 311 0).toNatClampNeg (row (I 311) 110) := by
  obtain ⟨⟨h1, ⟨π, h2, h3⟩, h4, h5, -⟩, -⟩ := h
  exact ⟨h3.1, h3.2.1, h5.1, h5.2.1⟩
theorem p_about {G : gG} {I : gI} {R : gR} {L : gL} {Q : gQ} {a : Int32} (h : Rel I R) (hq : ∀ v I1 R1 L1, prom G mX7_about [.ref 310, .int a] (some (.int v)) I1 R1 L1 → Q (some (.int v)) SH I1 R1 L1) : Mt G mX6_about 30 0 0 [.ref 0, .int a] SH I R L Q := by
  obtain ⟨hF, -, -, -, -, -, -, t6, -⟩ := h.1
  obtain ⟨⟨c0, c1, c2, c3, c4, c5, -⟩, ⟨s1, -, -, s4, s5, s6, -⟩, -, -⟩ := R_co h
  have fin : ∀ v : Int32, (∀ Q2 : gQ, Q2 (some (.int v)) SH I R L → Mt G mX7_about 30 0 0 [.ref 310, .int a] SH I R L Q2) → Q (some (.int v)) SH I R L := fun v hv => hq _ I R L (fun Q2 h2 => hv Q2 (h2 I R L h))
  refine e_X6_about hF ⟨fun d => ?_, fun d => ?_, fun d => ?_, fun d => ?_, fun d => ?_, fun d => ?_, fun d => ?_, fun d => ?_, fun d => ?_, fun d => ?_, fun d => ⟨fun d2 => ?_, fun d2 => ⟨fun d3 => ?_, fun d3 => ?_⟩⟩⟩
  · rw [c0]; exact fin _ (fun Q2 h2 => e_X7_about hF (by grind))
  · rw [show I (4 + 1) 0 = I 311 110 from s1 0 (by decide), show I (4 + 1) 1 = I 311 111 from s1 1 (by decide), show I (4 + 1) 2 = I 311 112 from s1 2 (by decide), show I (4 + 1) 3 = I 311 113 from s1 3 (by decide)]
    exact fin _ (fun Q2 h2 => e_X7_about hF (by grind))
  · rw [show I 4 4 = I 311 373 from s5]; exact fin _ (fun Q2 h2 => e_X7_about hF (by grind))
  · rw [show I 4 5 = I 311 464 from s6]; exact fin _ (fun Q2 h2 => e_X7_about hF (by grind))
  · rw [c1]; exact fin _ (fun Q2 h2 => e_X7_about hF (by grind))
  · rw [c2]; exact fin _ (fun Q2 h2 => e_X7_about hF (by grind))
  · rw [c3]; exact fin _ (fun Q2 h2 => e_X7_about hF (by grind))
  · rw [c4]; exact fin _ (fun Q2 h2 => e_X7_about hF (by grind))
  · rw [c5]; exact fin _ (fun Q2 h2 => e_X7_about hF (by grind))
  · rw [t6]; exact fin _ (fun Q2 h2 => e_X7_about hF (by grind))
  · exact fin _ (fun Q2 h2 => e_X7_about hF (by grind))
  · exact fin _ (fun Q2 h2 => e_X7_about hF (by grind))
  · have hv : vp_in (a - 10) 4 := vi4.mpr (by grind)
    obtain ⟨j, hj, ej⟩ := vp_in_of hv (by decide)
    have ea : a = nI (10 + j) := by rw [← show (10 : Int32) + nI j = nI (10 + j) from nI_add 10 j, ← ej]; grind
    have eb : 110 + a - 10 = nI (110 + j) := by rw [← show (110 : Int32) + nI j = nI (110 + j) from nI_add 110 j, ← ej]; grind
    refine ⟨hv, ?_⟩
    rw [ej, nI_clamp (by omega), show I 5 j = I 311 (110 + j) from s1 j hj]
    refine fin _ (fun Q2 h2 => e_X7_about hF ?_)
    rw [eb, nI_clamp (by omega)]
    have hw : vp_in (nI (110 + j)) 11120 := vp_in_nI (by omega) (by decide)
    grind
theorem p_written {G : gG} {I : gI} {R : gR} {L : gL} {Q : gQ} {a b : Int32} (h : Rel I R) (hq : ∀ v I1 R1 L1, prom G mX7_written [.ref 310, .int a, .int b] (some (.int v)) I1 R1 L1 → Q (some (.int v)) SH I1 R1 L1) : Mt G mX6_written 30 0 0 [.ref 0, .int a, .int b] SH I R L Q := by
  have hF := h.1.1
  obtain ⟨-, ⟨-, -, -, s4, -, -, s7, -⟩, -, ⟨-, -, -, o4, -⟩⟩ := R_co h
  have s4' : I 4 3 = I 311 132 := s4
  have o4' : 0 ≤ (I 311 132).toInt ∧ (I 311 132).toInt ≤ 60 := o4
  have o5 : 0 ≤ I 311 132 ∧ I 311 132 ≤ 60 := ⟨ti_le.mpr o4'.1, ti_le.mpr o4'.2⟩
  have fin : ∀ v : Int32, (∀ Q2 : gQ, Q2 (some (.int v)) SH I R L → Mt G mX7_written 30 0 0 [.ref 310, .int a, .int b] SH I R L Q2) → Q (some (.int v)) SH I R L := fun v hv => hq _ I R L (fun Q2 h2 => hv Q2 (h2 I R L h))
  refine e_X6_written hF ?_
  rw [s4']
  refine ⟨fun d1 => ⟨fun d2 => ?_, fun d2 => ⟨fun d3 => ?_, fun d3 => ⟨fun d4 => ?_, fun d4 => ⟨fun d5 => ?_, fun d5 => ⟨fun d6 => ?_, fun d6 => ?_⟩⟩⟩⟩⟩, fun d1 => ?_⟩
  · exact fin _ (fun Q2 h2 => e_X7_written hF (by grind))
  · exact fin _ (fun Q2 h2 => e_X7_written hF (by grind))
  · exact fin _ (fun Q2 h2 => e_X7_written hF (by grind))
  · exact fin _ (fun Q2 h2 => e_X7_written hF (by grind))
  · obtain ⟨i, hi, ei⟩ := vp_in_of (vi (k := 60) (n := 60) (x := a) (by decide) |>.mpr (by grind)) (by decide)
    obtain ⟨k, hk, ek⟩ := vp_in_of (vi4 (x := b) |>.mpr (by grind)) (by decide)
    have e1 : 4 * a + b = nI (4 * i + k) := by rw [ei, ek, show (4 : Int32) * nI i = nI (4 * i) from pk_mul 4 i]; exact nI_add _ _
    have e2 : 133 + 4 * a + b = nI (133 + (4 * i + k)) := by rw [← show (133 : Int32) + nI (4 * i + k) = nI (133 + (4 * i + k)) from nI_add 133 _, ← e1]; grind
    have hlt : i < (I 311 132).toNatClampNeg := by
      have := ci o4'.1
      rw [ti_le, ei, nI_toInt (by omega)] at d3
      omega
    have s8 : I 132 (4 * i + k) = I 311 (110 + (23 + (4 * i + k))) := s7 (4 * i + k) (by show 4 * i + k < 4 * (I 311 132).toNatClampNeg; omega)
    refine ⟨by rw [e1]; exact vp_in_nI (by omega) (by decide), ?_⟩
    rw [e1, nI_clamp (by omega), s8, show 110 + (23 + (4 * i + k)) = 133 + (4 * i + k) by omega]
    refine fin _ (fun Q2 h2 => e_X7_written hF ?_)
    rw [e2, nI_clamp (by omega)]
    have hw : vp_in (nI (133 + (4 * i + k))) 11120 := vp_in_nI (by omega) (by decide)
    grind
  · exact fin _ (fun Q2 h2 => e_X7_written hF (by grind))
  · exact fin _ (fun Q2 h2 => e_X7_written hF (by grind))
theorem p_dent {G : gG} {I : gI} {R : gR} {L : gL} {Q : gQ} {a b : Int32} (h : Rel I R) (hq : ∀ v I1 R1 L1, prom G mX7_dent [.ref 310, .int a, .int b] (some (.int v)) I1 R1 L1 → Q (some (.int v)) SH I1 R1 L1) : Mt G mX6_dent 30 0 0 [.ref 0, .int a, .int b] SH I R L Q := by
  have hF := h.1.1
  obtain ⟨-, ⟨-, -, -, -, s4, -, -, s7⟩, -, ⟨-, -, -, -, o4, -⟩⟩ := R_co h
  have s4' : I 4 4 = I 311 373 := s4
  have o4' : 0 ≤ (I 311 373).toInt ∧ (I 311 373).toInt ≤ 30 := o4
  have o5 : 0 ≤ I 311 373 ∧ I 311 373 ≤ 30 := ⟨ti_le.mpr o4'.1, ti_le.mpr o4'.2⟩
  have fin : ∀ v : Int32, (∀ Q2 : gQ, Q2 (some (.int v)) SH I R L → Mt G mX7_dent 30 0 0 [.ref 310, .int a, .int b] SH I R L Q2) → Q (some (.int v)) SH I R L := fun v hv => hq _ I R L (fun Q2 h2 => hv Q2 (h2 I R L h))
  refine e_X6_dent hF ?_
  rw [s4']
  refine ⟨fun d1 => ⟨fun d2 => ?_, fun d2 => ⟨fun d3 => ?_, fun d3 => ⟨fun d4 => ?_, fun d4 => ⟨fun d5 => ?_, fun d5 => ⟨fun d6 => ?_, fun d6 => ?_⟩⟩⟩⟩⟩, fun d1 => ?_⟩
  · exact fin _ (fun Q2 h2 => e_X7_dent hF (by grind))
  · exact fin _ (fun Q2 h2 => e_X7_dent hF (by grind))
  · exact fin _ (fun Q2 h2 => e_X7_dent hF (by grind))
  · exact fin _ (fun Q2 h2 => e_X7_dent hF (by grind))
  · obtain ⟨i, hi, ei⟩ := vp_in_of (vi30 (x := a) |>.mpr (by grind)) (by decide)
    obtain ⟨k, hk, ek⟩ := vp_in_of (vi3 (x := b) |>.mpr (by grind)) (by decide)
    have e1 : 3 * a + b = nI (3 * i + k) := by rw [ei, ek, show (3 : Int32) * nI i = nI (3 * i) from pk_mul 3 i]; exact nI_add _ _
    have e2 : 374 + 3 * a + b = nI (374 + (3 * i + k)) := by rw [← show (374 : Int32) + nI (3 * i + k) = nI (374 + (3 * i + k)) from nI_add 374 _, ← e1]; grind
    have hlt : i < (I 311 373).toNatClampNeg := by
      have := ci o4'.1
      rw [ti_le, ei, nI_toInt (by omega)] at d3
      omega
    have s8 : I 133 (3 * i + k) = I 311 (110 + (264 + (3 * i + k))) := s7 (3 * i + k) (by show 3 * i + k < 3 * (I 311 373).toNatClampNeg; omega)
    refine ⟨by rw [e1]; exact vp_in_nI (by omega) (by decide), ?_⟩
    rw [e1, nI_clamp (by omega), s8, show 110 + (264 + (3 * i + k)) = 374 + (3 * i + k) by omega]
    refine fin _ (fun Q2 h2 => e_X7_dent hF ?_)
    rw [e2, nI_clamp (by omega)]
    have hw : vp_in (nI (374 + (3 * i + k))) 11120 := vp_in_nI (by omega) (by decide)
    grind
  · exact fin _ (fun Q2 h2 => e_X7_dent hF (by grind))
  · exact fin _ (fun Q2 h2 => e_X7_dent hF (by grind))
