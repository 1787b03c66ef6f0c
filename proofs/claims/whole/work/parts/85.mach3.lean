theorem e_X3_readLaw {G : gG} {I : gI} {R : gR} {L : gL} {Q : gQ} {vb : Int32} (hR : g_Fx R) (h : ∃ y_1, R 306 6 = some y_1 ∧ g_La y_1 ∧ (∃ y_2, R 306 6 = some y_2 ∧ g_La y_2 ∧ (vp_in vb 3 ∧ (∀ I_3 : gI, I_3 = up I (y_1 + 2) vb.toNatClampNeg (I y_2 1) → ∀ I_4 : gI, I_4 = up I_3 306 10 0 → ∀ I_5 : gI, I_5 = up I_4 306 11 0 → ∀ I_6 : gI, I_6 = up I_5 306 12 0 → ∀ I_7 : gI, I_7 = up I_6 306 13 1 → ∀ I_8 : gI, I_8 = up I_7 306 14 0 → Go G mX3_readLaw 10 0 0 45 [some (.ref 306), some (.int vb), some (.int 0), some (.int 0)] [] SH I_8 R L Q)))) : Mt G mX3_readLaw 10 0 0 [.ref 306, .int vb] SH I R L Q := by
  refine go_start rfl (Nat.le_of_ble_eq_true rfl) rfl ?_
  refine go_aload_n dX3_readLaw_0 rfl ?_
  obtain ⟨y_1, hry_1, hy_1, h⟩ := h
  refine go_getR dX3_readLaw_1 fX3_37 rfl rfl hry_1 ?_
  refine go_getR dX3_readLaw_4 fX3_127 rfl (La_s0 hy_1) (hR _ _ _ (La_r0_2 hy_1)) ?_
  refine go_iload_n dX3_readLaw_7 rfl ?_
  refine go_aload_n dX3_readLaw_8 rfl ?_
  obtain ⟨y_2, hry_2, hy_2, h⟩ := h
  refine go_getR dX3_readLaw_9 fX3_37 rfl rfl hry_2 ?_
  refine go_getI dX3_readLaw_12 fX3_130 rfl (La_s0 hy_2) ?_
  obtain ⟨hi, h⟩ := h
  refine go_iast dX3_readLaw_15 (La_s2 hy_1) hi ?_
  have h := h _ rfl
  refine go_aload_n dX3_readLaw_16 rfl ?_
  refine go_iconst (v := 0) dX3_readLaw_17 (by decide) ?_
  refine go_putI dX3_readLaw_18 fX3_132 rfl rfl rfl rfl ?_
  have h := h _ rfl
  refine go_aload_n dX3_readLaw_21 rfl ?_
  refine go_iconst (v := 0) dX3_readLaw_22 (by decide) ?_
  refine go_putI dX3_readLaw_23 fX3_135 rfl rfl rfl rfl ?_
  have h := h _ rfl
  refine go_aload_n dX3_readLaw_26 rfl ?_
  refine go_iconst (v := 0) dX3_readLaw_27 (by decide) ?_
  refine go_putI dX3_readLaw_28 fX3_138 rfl rfl rfl rfl ?_
  have h := h _ rfl
  refine go_aload_n dX3_readLaw_31 rfl ?_
  refine go_iconst (v := 1) dX3_readLaw_32 (by decide) ?_
  refine go_putI dX3_readLaw_33 fX3_141 rfl rfl rfl rfl ?_
  have h := h _ rfl
  refine go_aload_n dX3_readLaw_36 rfl ?_
  refine go_iconst (v := 0) dX3_readLaw_37 (by decide) ?_
  refine go_putI dX3_readLaw_38 fX3_145 rfl rfl rfl rfl ?_
  have h := h _ rfl
  refine go_iconst (v := 0) dX3_readLaw_41 (by decide) ?_
  refine go_istore_n dX3_readLaw_42 (Nat.le_of_ble_eq_true rfl) rfl ?_
  refine go_iconst (v := 0) dX3_readLaw_43 (by decide) ?_
  refine go_istore_n dX3_readLaw_44 (Nat.le_of_ble_eq_true rfl) rfl ?_
  exact h
theorem b_X3_readLaw_45 {G : gG} {I : gI} {R : gR} {L : gL} {Q : gQ} {v1 v2 v3 : Int32} (hR : g_Fx R) (h : (300 < v3 → Go G mX3_readLaw 10 0 0 138 [some (.ref 306), some (.int v1), none, none] [] SH I R L Q) ∧ (¬ 300 < v3 → (¬ (I 306 7) = 0 → Go G mX3_readLaw 10 0 0 138 [some (.ref 306), some (.int v1), none, none] [] SH I R L Q) ∧ ((I 306 7) = 0 → (¬ v2 = 0 → Go G mX3_readLaw 10 0 0 138 [some (.ref 306), some (.int v1), none, none] [] SH I R L Q) ∧ (v2 = 0 → ((I 306 13) = 0 → (¬ (I 306 3) = 34 → Go G mX3_readLaw 10 0 0 116 [some (.ref 306), some (.int v1), some (.int v2), some (.int v3)] [] SH I R L Q) ∧ ((I 306 3) = 34 → (¬ (I 306 12) = 0 → Go G mX3_readLaw 10 0 0 116 [some (.ref 306), some (.int v1), some (.int v2), some (.int v3)] [] SH I R L Q) ∧ ((I 306 12) = 0 → (¬ v1 = 2 → Go G mX3_readLaw 10 0 0 108 [some (.ref 306), some (.int v1), some (.int v2), some (.int v3)] [.int 0, .int (I 306 14)] SH I R L Q) ∧ (v1 = 2 → Go G mX3_readLaw 10 0 0 108 [some (.ref 306), some (.int v1), some (.int v2), some (.int v3)] [.int 1, .int (I 306 14)] SH I R L Q)))) ∧ (¬ (I 306 13) = 0 → Mt G mX3_readOne 5 0 0 [.ref 306, .int v1] SH I R L (fun r S' I' R' L' => Go G mX3_readLaw 10 0 0 75 [some (.ref 306), some (.int v1), some (.int v2), some (.int v3)] (r.toList ++ []) S' I' R' L' Q)))))) : Go G mX3_readLaw 10 0 0 45 [some (.ref 306), some (.int v1), some (.int v2), some (.int v3)] [] SH I R L Q := by
  refine go_iload_n dX3_readLaw_45 rfl ?_
  refine go_sipush (v := 300) dX3_readLaw_46 (by decide) ?_
  refine go_icmp_gt 138 dX3_readLaw_49 (by decide) (fun c => ?_) (fun c => ?_)
  · have h := h.1 c
    refine go_drop 2 ?_
    refine go_drop 3 ?_
    exact h
  · have h := h.2 c
    refine go_aload_n dX3_readLaw_52 rfl ?_
    refine go_getI dX3_readLaw_53 fX3_31 rfl rfl ?_
    refine go_if_ne 138 dX3_readLaw_56 (by decide) (fun c => ?_) (fun c => ?_)
    · have h := h.1 c
      refine go_drop 2 ?_
      refine go_drop 3 ?_
      exact h
    · have h := h.2 c
      refine go_iload_n dX3_readLaw_59 rfl ?_
      refine go_if_ne 138 dX3_readLaw_60 (by decide) (fun c => ?_) (fun c => ?_)
      · have h := h.1 c
        refine go_drop 2 ?_
        refine go_drop 3 ?_
        exact h
      · have h := h.2 c
        refine go_aload_n dX3_readLaw_63 rfl ?_
        refine go_getI dX3_readLaw_64 fX3_141 rfl rfl ?_
        refine go_if_eq 78 dX3_readLaw_67 (by decide) (fun c => ?_) (fun c => ?_)
        · have h := h.1 c
          refine go_aload_n dX3_readLaw_78 rfl ?_
          refine go_getI dX3_readLaw_79 fX3_49 rfl rfl ?_
          refine go_bipush (v := 34) dX3_readLaw_82 (by decide) ?_
          refine go_icmp_ne 116 dX3_readLaw_84 (by decide) (fun c => ?_) (fun c => ?_)
          · have h := h.1 c
            exact h
          · have h := h.2 c
            refine go_aload_n dX3_readLaw_87 rfl ?_
            refine go_getI dX3_readLaw_88 fX3_138 rfl rfl ?_
            refine go_if_ne 116 dX3_readLaw_91 (by decide) (fun c => ?_) (fun c => ?_)
            · have h := h.1 c
              exact h
            · have h := h.2 c
              refine go_aload_n dX3_readLaw_94 rfl ?_
              refine go_getI dX3_readLaw_95 fX3_145 rfl rfl ?_
              refine go_iload_n dX3_readLaw_98 rfl ?_
              refine go_iconst (v := 2) dX3_readLaw_99 (by decide) ?_
              refine go_icmp_ne 107 dX3_readLaw_100 (by decide) (fun c => ?_) (fun c => ?_)
              · have h := h.1 c
                refine go_iconst (v := 0) dX3_readLaw_107 (by decide) ?_
                exact h
              · have h := h.2 c
                refine go_iconst (v := 1) dX3_readLaw_103 (by decide) ?_
                refine go_goto 108 dX3_readLaw_104 (by decide) ?_
                exact h
        · have h := h.2 c
          refine go_aload_n dX3_readLaw_70 rfl ?_
          refine go_iload_n dX3_readLaw_71 rfl ?_
          refine go_callV0 (μ := mX3_readLaw) [.int _] dX3_readLaw_72 YX3_readOne lX3_148 rfl ⟨_, rfl, rfl⟩ rfl (Nat.le_of_ble_eq_true rfl) (Nat.le_of_ble_eq_true rfl) rfl h
theorem b_X3_readLaw_138 {G : gG} {I : gI} {R : gR} {L : gL} {Q : gQ} {v1 : Int32} (hR : g_Fx R) (h : Mt G mX3_release 3 0 0 [.ref 306, .int (bnd (9 : Int32))] SH I R L (fun r S' I' R' L' => Go G mX3_readLaw 10 0 0 147 [some (.ref 306), some (.int v1), none, none] (r.toList ++ []) S' I' R' L' Q)) : Go G mX3_readLaw 10 0 0 138 [some (.ref 306), some (.int v1), none, none] [] SH I R L Q := by
  refine go_aload_n dX3_readLaw_138 rfl ?_
  refine go_bipush (v := 9) dX3_readLaw_139 (by decide) ?_
  refine go_callS0 (μ := mX3_readLaw) [.int _] dX3_readLaw_141 YX3_bindingOf lX3_154 rfl (Nat.le_of_ble_eq_true rfl) (Nat.le_of_ble_eq_true rfl) rfl (k_X3_bindingOf hR ?_)
  refine go_callV0 (μ := mX3_readLaw) [.int _] dX3_readLaw_144 YX3_release lX3_157 rfl ⟨_, rfl, rfl⟩ rfl (Nat.le_of_ble_eq_true rfl) (Nat.le_of_ble_eq_true rfl) rfl h
theorem b_X3_readLaw_116 {G : gG} {I : gI} {R : gR} {L : gL} {Q : gQ} {v1 v2 v3 : Int32} (hR : g_Fx R) (h : Mt G mX3_readBetween 5 0 0 [.ref 306, .int v1] SH I R L (fun r S' I' R' L' => Go G mX3_readLaw 10 0 0 121 [some (.ref 306), some (.int v1), some (.int v2), some (.int v3)] (r.toList ++ []) S' I' R' L' Q)) : Go G mX3_readLaw 10 0 0 116 [some (.ref 306), some (.int v1), some (.int v2), some (.int v3)] [] SH I R L Q := by
  refine go_aload_n dX3_readLaw_116 rfl ?_
  refine go_iload_n dX3_readLaw_117 rfl ?_
  refine go_callV0 (μ := mX3_readLaw) [.int _] dX3_readLaw_118 YX3_readBetween lX3_151 rfl ⟨_, rfl, rfl⟩ rfl (Nat.le_of_ble_eq_true rfl) (Nat.le_of_ble_eq_true rfl) rfl h
theorem b_X3_readLaw_108 {G : gG} {I : gI} {R : gR} {L : gL} {Q : gQ} {v1 v2 v3 s0 s1 : Int32} (hR : g_Fx R) (h : (¬ s0 = s1 → Go G mX3_readLaw 10 0 0 116 [some (.ref 306), some (.int v1), some (.int v2), some (.int v3)] [] SH I R L Q) ∧ (s0 = s1 → Go G mX3_readLaw 10 0 0 121 [some (.ref 306), some (.int v1), some (.int 1), some (.int v3)] [] SH I R L Q)) : Go G mX3_readLaw 10 0 0 108 [some (.ref 306), some (.int v1), some (.int v2), some (.int v3)] [.int s1, .int s0] SH I R L Q := by
  refine go_icmp_ne 116 dX3_readLaw_108 (by decide) (fun c => ?_) (fun c => ?_)
  · have h := h.1 c
    exact h
  · have h := h.2 c
    refine go_iconst (v := 1) dX3_readLaw_111 (by decide) ?_
    refine go_istore_n dX3_readLaw_112 (Nat.le_of_ble_eq_true rfl) rfl ?_
    refine go_goto 121 dX3_readLaw_113 (by decide) ?_
    exact h
theorem b_X3_readLaw_75 {G : gG} {I : gI} {R : gR} {L : gL} {Q : gQ} {v1 v2 v3 : Int32} (hR : g_Fx R) (h : Go G mX3_readLaw 10 0 0 121 [some (.ref 306), some (.int v1), some (.int v2), some (.int v3)] [] SH I R L Q) : Go G mX3_readLaw 10 0 0 75 [some (.ref 306), some (.int v1), some (.int v2), some (.int v3)] [] SH I R L Q := by
  refine go_goto 121 dX3_readLaw_75 (by decide) ?_
  exact h
theorem b_X3_readLaw_147 {G : gG} {I : gI} {R : gR} {L : gL} {Q : gQ} {v1 : Int32} (hR : g_Fx R) (h : ∃ y_17, R 306 6 = some y_17 ∧ g_La y_17 ∧ (∃ y_18, R 306 6 = some y_18 ∧ g_La y_18 ∧ (vp_in v1 3 ∧ (∀ I_19 : gI, I_19 = up I (y_17 + 3) v1.toNatClampNeg (I y_18 1) → Q none SH I_19 R L)))) : Go G mX3_readLaw 10 0 0 147 [some (.ref 306), some (.int v1), none, none] [] SH I R L Q := by
  refine go_aload_n dX3_readLaw_147 rfl ?_
  obtain ⟨y_17, hry_17, hy_17, h⟩ := h
  refine go_getR dX3_readLaw_148 fX3_37 rfl rfl hry_17 ?_
  refine go_getR dX3_readLaw_151 fX3_160 rfl (La_s0 hy_17) (hR _ _ _ (La_r0_3 hy_17)) ?_
  refine go_iload_n dX3_readLaw_154 rfl ?_
  refine go_aload_n dX3_readLaw_155 rfl ?_
  obtain ⟨y_18, hry_18, hy_18, h⟩ := h
  refine go_getR dX3_readLaw_156 fX3_37 rfl rfl hry_18 ?_
  refine go_getI dX3_readLaw_159 fX3_130 rfl (La_s0 hy_18) ?_
  obtain ⟨hi, h⟩ := h
  refine go_iast dX3_readLaw_162 (La_s3 hy_17) hi ?_
  have h := h _ rfl
  exact go_vret dX3_readLaw_163 rfl rfl h
theorem b_X3_readLaw_121 {G : gG} {I : gI} {R : gR} {L : gL} {Q : gQ} {v1 v2 v3 : Int32} (hR : g_Fx R) (h : (¬ (I 306 7) = 0 → ∀ v3_20 : Int32, v3_20 = v3 + 1 → Go G mX3_readLaw 10 0 0 45 [some (.ref 306), some (.int v1), some (.int v2), some (.int v3_20)] [] SH I R L Q) ∧ ((I 306 7) = 0 → Mt G mX3_advance 9 0 0 [.ref 306] SH I R L (fun r S' I' R' L' => Go G mX3_readLaw 10 0 0 132 [some (.ref 306), some (.int v1), some (.int v2), some (.int v3)] (r.toList ++ []) S' I' R' L' Q))) : Go G mX3_readLaw 10 0 0 121 [some (.ref 306), some (.int v1), some (.int v2), some (.int v3)] [] SH I R L Q := by
  refine go_aload_n dX3_readLaw_121 rfl ?_
  refine go_getI dX3_readLaw_122 fX3_31 rfl rfl ?_
  refine go_if_ne 132 dX3_readLaw_125 (by decide) (fun c => ?_) (fun c => ?_)
  · have h := h.1 c
    refine go_iinc dX3_readLaw_132 rfl (Nat.le_of_ble_eq_true rfl) rfl ?_
    have h := h _ rfl
    refine go_goto 45 dX3_readLaw_135 (by decide) ?_
    exact h
  · have h := h.2 c
    refine go_aload_n dX3_readLaw_128 rfl ?_
    refine go_callV0 (μ := mX3_readLaw) [] dX3_readLaw_129 YX3_advance lX3_46 rfl ⟨_, rfl, rfl⟩ rfl (Nat.le_of_ble_eq_true rfl) (Nat.le_of_ble_eq_true rfl) rfl h
theorem b_X3_readLaw_132 {G : gG} {I : gI} {R : gR} {L : gL} {Q : gQ} {v1 v2 v3 : Int32} (hR : g_Fx R) (h : ∀ v3_22 : Int32, v3_22 = v3 + 1 → Go G mX3_readLaw 10 0 0 45 [some (.ref 306), some (.int v1), some (.int v2), some (.int v3_22)] [] SH I R L Q) : Go G mX3_readLaw 10 0 0 132 [some (.ref 306), some (.int v1), some (.int v2), some (.int v3)] [] SH I R L Q := by
  refine go_iinc dX3_readLaw_132 rfl (Nat.le_of_ble_eq_true rfl) rfl ?_
  have h := h _ rfl
  refine go_goto 45 dX3_readLaw_135 (by decide) ?_
  exact h
theorem FL_k {vb tk v k : Nat} {s : lst} (h : FL vb tk v s k) : k ≠ 0 ∧ k ≤ 6 := by
  rcases h with ⟨A, C, L, o, -, -, -, rfl⟩ | ⟨A, C, L, o, -, -, -, -, rfl⟩ | ⟨A, C, L, o, -, -, -, rfl⟩ | ⟨A, C, L, o, -, -, -, -, -, -, rfl⟩ | ⟨A, C, L, o, -, -, -, -, -, -, rfl⟩ <;> decide
theorem SL_38 {vb v : Nat} {s s' : lst} (h : SL vb 38 v s s') : False := by
  rcases h with ⟨A, C, L, o, e1, -, rfl, rfl⟩ | ⟨A, C, L, o, -, e2, -, rfl, rfl⟩ | ⟨A, C, L, o, e1, e2, rfl, rfl⟩ | ⟨A, C, L, o, e1, e2, rfl, rfl⟩ | ⟨L, o, e1, e2, e3, rfl, rfl⟩ | ⟨A, C, L, o, e1, e2, rfl, rfl⟩ | ⟨A, L, o, e1, e2, e3, rfl, rfl⟩ | ⟨A, c, L, o, e1, e3, rfl, rfl⟩ | ⟨P, A, C, L, o, e1, e2, rfl, rfl⟩ <;> first | omega | (unfold inC at e1; omega)
/-- a law's clause leaves all else -/
def frL (I I' : gI) (y vb : Nat) : Prop := (∀ c j, c ≠ 306 → c ≠ 308 → ¬ (c = y ∧ j = 1) → c ≠ y + 1 → ¬ (c = y + 2 ∧ j = vb) → ¬ (c = y + 3 ∧ j = vb) → I' c j = I c j) ∧ I' 306 1 = I 306 1
theorem frL.trans {I J K : gI} {y vb : Nat} (h : frL I J y vb) (g : frL J K y vb) : frL I K y vb := ⟨fun c j a b d e f i => (g.1 c j a b d e f i).trans (h.1 c j a b d e f i), g.2.trans h.2⟩
theorem frU.l {I J : gI} {y : Nat} (vb : Nat) (h : frU I J y) : frL I J y vb := ⟨fun c j a b d e _ _ => h.1 c j a b d e, h.2 1 (by decide)⟩
theorem frT.l {I J : gI} {y : Nat} (vb : Nat) (hy : g_La y) (h : frT I J y) : frL I J y vb := (h.u hy).l vb
theorem frL_up {I J : gI} {y vb j : Nat} {x : Int32} (h : frL I J y vb) (hj : j ≠ 1) : frL I (up J 306 j x) y vb := ⟨fun c i a b d e f g => by rw [up_nc a]; exact h.1 c i a b d e f g, by rw [up_ni (Ne.symm hj)]; exact h.2⟩
theorem frL_av {I J : gI} {y vb pl tk a : Nat} {x : Int32} (h : frL I J y vb) : frL I (avI J pl tk x a) y vb := frL_up (frL_up (frL_up (frL_up h (by decide)) (by decide)) (by decide)) (by decide)
theorem av_o {J : gI} {pl tk a c j : Nat} {x : Int32} (h : c ≠ 306 ∨ (j ≠ 2 ∧ j ≠ 3 ∧ j ≠ 4 ∧ j ≠ 5)) : avI J pl tk x a c j = J c j := by
  unfold avI
  rw [up_ne (by omega), up_ne (by omega), up_ne (by omega), up_ne (by omega)]
theorem cK_av {J : gI} {y pl tk a : Nat} {x : Int32} {W out : List Nat} (hy : g_La y) (h : cK J y W out) : cK (avI J pl tk x a) y W out := cK_up hy (cK_up hy (cK_up hy (cK_up hy h (by decide) (by decide)) (by decide) (by decide)) (by decide) (by decide)) (by decide) (by decide)
theorem cL_av {J : gI} {y pl tk a : Nat} {x : Int32} {pre : List Nat} {s : lst} (hy : g_La y) (h : cL J y pre s) : cL (avI J pl tk x a) y pre s := by
  obtain ⟨h1, h2, h3, h4, h5⟩ := h
  exact ⟨cK_av hy h1, by rw [av_o (by omega)]; exact h2, by rw [av_o (by omega)]; exact h3, by rw [av_o (by omega)]; exact h4, by rw [av_o (by omega)]; exact h5⟩
theorem lxR_av {J : gI} {n pl tk v a : Nat} {x : Int32} (h : J 306 1 = nI n) (hx : tk = 37 → x = nI v) : lxR (avI J pl tk x a) n pl tk v a := by
  refine ⟨by rw [av_o (by omega)]; exact h, ?_, ?_, ?_, fun c => ?_⟩
  · unfold avI; rw [up_ni (by decide), up_ni (by decide), up_ni (by decide), up_eq]
  · unfold avI; rw [up_ni (by decide), up_ni (by decide), up_eq]
  · unfold avI; rw [up_ni (by decide), up_eq]
  · unfold avI; rw [up_eq]; exact hx c
theorem tpT_av {J : gI} {T : Nat → Nat} {n pl tk a : Nat} {x : Int32} (h : tpT J T n) : tpT (avI J pl tk x a) T n := ⟨h.1, fun j hj => by rw [av_o (by omega)]; exact h.2 j hj⟩
theorem tpT_l {I J : gI} {T : Nat → Nat} {n y vb : Nat} (hy : g_La y) (h : tpT I T n) (g : frL I J y vb) : tpT J T n := by
  have hr := La_rng hy
  exact ⟨h.1, fun j hj => by rw [g.1 307 j (by decide) (by decide) (by omega) (by omega) (by omega) (by omega)]; exact h.2 j hj⟩
def s0L : lst := ([], [], [], [], true)
/-- a law's outcome -/
def lawO (T : Nat → Nat) (n vb pl tk v a y : Nat) (pre : List Nat) (I I' : gI) : Prop := frL I I' y vb ∧
  ((∃ m k p', RLw T n vb m pl tk v a s0L (.inl (k, p')) ∧ k ≠ 0 ∧ k ≤ 6 ∧ p' ≤ n ∧ I' 306 7 = nI k ∧ I' 306 8 = nI p') ∨
   ∃ m pl' tk' v' a' code, RLw T n vb m pl tk v a s0L (.inr (pl', tk', v', a', code)) ∧ lxR I' n pl' tk' v' a' ∧ (∃ p, Lx T n p pl' tk' v' a') ∧ I' 306 7 = 0 ∧ I' 306 8 = I 306 8 ∧ I' y 1 = nI (pre ++ code).length ∧ lsN (I' (y + 1)) (pre ++ code) ∧ I' (y + 2) vb = nI pre.length ∧ I' (y + 3) vb = nI (pre ++ code).length ∧ (pre ++ code).length + 1 ≤ pl')
theorem k_X3_readLaw {G : gG} {I : gI} {R : gR} {L : gL} {Q : gQ} {T : Nat → Nat} {y vb n pl tk v a : Nat} {pre : List Nat} (hR : g_Fx R) (hr : R 306 6 = some y) (hy : g_La y) (hT : tpT I T n) (hlx : lxR I n pl tk v a) (hLx : ∃ p, Lx T n p pl tk v a) (hvb : vb < 3) (h7 : I 306 7 = 0) (hl1 : I y 1 = nI pre.length) (hl2 : lsN (I (y + 1)) pre) (hpl : pre.length ≤ pl)
    (hq : ∀ I', lawO T n vb pl tk v a y pre I I' → Q none SH I' R L) : Mt G mX3_readLaw 10 0 0 [.ref 306, .int (nI vb)] SH I R L Q := by
  have hr2 := La_rng hy
  have hn := hT.1
  have ev2 : nI vb = 2 ↔ vb = 2 := nI_eq (b := 2) (by omega) (by decide)
  -- behind the loop: a fault
  have endF : ∀ (J : gI) (m k p' : Nat), frL I J y vb → RLw T n vb m pl tk v a s0L (.inl (k, p')) → k ≠ 0 → k ≤ 6 → p' ≤ n → J 306 7 = nI k → J 306 8 = nI p' → cOK J y → Go G mX3_readLaw 10 0 0 138 [some (.ref 306), some (.int (nI vb)), none, none] [] SH J R L Q := by
    intro J m k p' hf hm hk hk6 hp' e7 e8 ⟨W, out, c1, c2, c3, c4⟩
    refine b_X3_readLaw_138 hR ?_
    refine k_X3_release (b := 1) hR hr hy c1 c2 c3 c4 (by decide) (fun I' g1 g2 => b_X3_readLaw_147 hR ⟨y, hr, hy, y, hr, hy, vp_in_nI hvb (by decide), ?_⟩)
    rintro _ rfl
    rw [nI_clamp (by omega)]
    refine hq _ ⟨?_, Or.inl ⟨m, k, p', hm, hk, hk6, hp', ?_, ?_⟩⟩
    · have := hf.trans (g2.l vb hy)
      exact ⟨fun c j a b d e f i => by rw [up_ne (by omega)]; exact this.1 c j a b d e f i, by rw [up_nc (by omega)]; exact this.2⟩
    · rw [up_nc (by omega), g2 306 7 (by omega) (by decide) (by omega) (by omega)]; exact e7
    · rw [up_nc (by omega), g2 306 8 (by omega) (by decide) (by omega) (by omega)]; exact e8
  have main : ∀ (m i pl1 tk1 v1 a1 : Nat) (s : lst) (J : gI), n - pl1 < m → (∃ p, Lx T n p pl1 tk1 v1 a1) → lxR J n pl1 tk1 v1 a1 → cL J y pre s → okLS vb s → pre.length + s.2.2.2.1.length + (wt s).length ≤ pl1 → i ≤ pl1 → frL I J y vb → J (y + 2) vb = nI pre.length → J 306 8 = I 306 8 → (∀ r, (∃ m, RLw T n vb m pl1 tk1 v1 a1 s r) → ∃ m, RLw T n vb m pl tk v a s0L r) →
      Go G mX3_readLaw 10 0 0 45 [some (.ref 306), some (.int (nI vb)), some (.int 0), some (.int (nI i))] [] SH J R L Q := by
    intro m
    induction m with
    | zero => intro i pl1 tk1 v1 a1 s J hm; omega
    | succ m ih =>
      intro i pl1 tk1 v1 a1 s J hm hLx1 hlx1 hc hok hlen hi hf h2 h8 lift
      obtain ⟨p1, hp1⟩ := hLx1
      obtain ⟨x1, x2, x3, x4, x5, x6, x7, x8⟩ := Lx_adv hp1
      have hTJ := tpT_l hy hT hf
      have e34 : nI tk1 = 34 ↔ tk1 = 34 := tkE (k := 34) (by omega) (by decide)
      have c7 := hc.2.2.2.2
      have c12 := hc.2.1
      have c13 := hc.2.2.1
      have c14 := hc.2.2.2.1
      -- behind one step
      have after : ∀ J', stO J J' y vb pl1 tk1 v1 pre s → Go G mX3_readLaw 10 0 0 121 [some (.ref 306), some (.int (nI vb)), some (.int 0), some (.int (nI i))] [] SH J' R L Q := by
        intro J' ⟨hU, ho⟩
        refine b_X3_readLaw_121 hR ?_
        rcases ho with ⟨s', hS, h8', hc'⟩ | ⟨k, hF, e7, e8, hcok⟩
        · refine ⟨fun c => absurd hc'.2.2.2.2 c, fun _ => ?_⟩
          have hfJ := hf.trans (hU.l vb)
          refine k_X3_advance (p := a1) hR (tpT_l hy hT hfJ) (by rw [hU.2 1 (by decide)]; exact hlx1.1) (by rw [hU.2 2 (by decide)]; exact hlx1.2.1) (by omega) (fun pl2 tk2 v2 a2 x hL2 hx => b_X3_readLaw_132 hR ?_)
          rintro _ rfl
          rw [nI_1]
          have h38 : tk1 ≠ 38 := fun e => by subst e; exact SL_38 hS
          have y1 := Lx_adv hL2
          have hsl := SL_len hS
          have := x5 h38
          refine ih (i + 1) pl2 tk2 v2 a2 s' _ (by omega) ⟨_, hL2⟩ (lxR_av (by rw [hU.2 1 (by decide)]; exact hlx1.1) hx) (cL_av hy hc') (okLS_step hok hS) (by omega) (by omega) (frL_av hfJ) ?_ (by rw [av_o (by omega), h8', h8]) (fun r ⟨q, hq2⟩ => lift r ⟨q + 1, s', pl2, tk2, v2, a2, hS, hL2, hq2⟩)
          rw [av_o (by omega), hU.1 (y + 2) vb (by omega) (by omega) (by omega) (by omega)]
          exact h2
        · have hk := FL_k hF
          refine ⟨fun _ => ?_, fun c => absurd (c.symm.trans e7).symm (nI_ne0 (by omega) (by omega))⟩
          rintro _ rfl
          have g138 : Go G mX3_readLaw 10 0 0 138 [some (.ref 306), some (.int (nI vb)), none, none] [] SH J' R L Q := by
            obtain ⟨q, hq2⟩ := lift (.inl (k, pl1)) ⟨0, Or.inl ⟨k, hF, rfl⟩⟩
            exact endF J' q k pl1 (hf.trans (hU.l vb)) hq2 hk.1 hk.2 x4 e7 e8 hcok
          refine b_X3_readLaw_45 hR ⟨fun _ => g138, fun _ => ⟨fun _ => g138, fun c => absurd (c.symm.trans e7).symm (nI_ne0 (by omega) (by omega))⟩⟩
      obtain ⟨A, C, Lg, o, w⟩ := s
      refine b_X3_readLaw_45 hR ⟨fun c => absurd c (nI_nlt (a := 300) (by omega) (by decide)), fun _ => ⟨fun c => absurd c7 c, fun _ => ⟨fun c => absurd rfl c, fun _ => ?_⟩⟩⟩
      cases w with
      | true =>
        rw [show J 306 13 = 1 from c13]
        refine ⟨fun c => absurd c (by decide), fun _ => ?_⟩
        refine k_X3_readOne hR hr hy hc hlx1 hok hvb (by omega) x7 (by simp only at hlen; omega) ?_ (fun I' g => b_X3_readLaw_75 hR (after I' g))
        rcases Nat.lt_or_ge pl1 300 with q | q
        · left; simp only at hlen; omega
        · right; exact x8.mpr (by omega)
      | false =>
        rw [show J 306 13 = 0 from c13, hlx1.2.2.1, e34]
        have hbA : brN A ≤ 62 := by
          have := br_len A
          have : A.length ≤ (wt (A, C, Lg, o, false)).length := by unfold wt; simp
          have := wt_len hok
          omega
        have b12 : J 306 12 = 0 ↔ brN A = 0 := by rw [c12]; exact nI_eq (a := brN A) (b := 0) (by omega) (by decide)
        rw [b12]
        have e14 : J 306 14 = (if C = [] then 0 else 1) := c14
        have b116 : ¬ (tk1 = 34 ∧ brN A = 0 ∧ (C ≠ [] ↔ vb = 2)) → Go G mX3_readLaw 10 0 0 116 [some (.ref 306), some (.int (nI vb)), some (.int 0), some (.int (nI i))] [] SH J R L Q := fun hns => by
          refine b_X3_readLaw_116 hR ?_
          exact k_X3_readBetween hR hr hy hc hlx1 hok hvb (by omega) (by simp only at hlen; omega) hns (fun I' g => after I' g)
        have stop : tk1 = 34 → brN A = 0 → (C ≠ [] ↔ vb = 2) → Go G mX3_readLaw 10 0 0 121 [some (.ref 306), some (.int (nI vb)), some (.int 1), some (.int (nI i))] [] SH J R L Q := by
          intro t1 t2 t3
          refine b_X3_readLaw_121 hR ⟨fun c => absurd c7 c, fun _ => ?_⟩
          refine k_X3_advance (p := a1) hR hTJ hlx1.1 hlx1.2.1 (by omega) (fun pl2 tk2 v2 a2 x hL2 hx => b_X3_readLaw_132 hR ?_)
          rintro _ rfl
          have y1 := Lx_adv hL2
          have := x5 (by omega)
          have g138 : Go G mX3_readLaw 10 0 0 138 [some (.ref 306), some (.int (nI vb)), none, none] [] SH (avI J pl2 tk2 x a2) R L Q := by
            refine b_X3_readLaw_138 hR ?_
            have hck := cK_av (pl := pl2) (tk := tk2) (a := a2) (x := x) hy hc.1
            refine k_X3_release (b := 1) hR hr hy hck (wt_len hok) (wt_rng hok) (by rw [List.length_append]; simp only at hlen ⊢; omega) (by decide) (fun I' g1 g2 => b_X3_readLaw_147 hR ⟨y, hr, hy, y, hr, hy, vp_in_nI hvb (by decide), ?_⟩)
            rintro _ rfl
            rw [nI_clamp (by omega)]
            have hall : ∀ x ∈ wt (A, C, Lg, o, false), 1 ≤ bdN x := by
              intro z hz
              obtain ⟨oA, oC, oL, -⟩ := hok
              simp only at oA oC oL
              unfold wt at hz
              rcases List.mem_append.mp hz with q | q
              · rcases List.mem_append.mp q with q | q
                · have := br0 oA t2 z q; omega
                · rcases oC with e | ⟨c, hc, e, -⟩
                  · simp only at q; rw [e] at q; cases q
                  · simp only at q; rw [e] at q; simp at q; subst q; have := (bdC hc).1; omega
              · have := bdLx (oL z q); omega
            have r := rs_app (b := 1) (A := wt (A, C, Lg, o, false)) (W := []) hall
            rw [List.append_nil] at r
            rw [r.1, r.2] at g1
            have g1 : cK I' y [] ((pre ++ o) ++ cd (wt (A, C, Lg, o, false) ++ [])) := g1
            rw [List.append_nil, List.append_assoc] at g1
            obtain ⟨q, hq2⟩ := lift (.inr (pl2, tk2, v2, a2, o ++ cd (wt (A, C, Lg, o, false)))) ⟨0, Or.inr ⟨⟨t1, t2, t3, rfl⟩, pl2, tk2, v2, a2, hL2, rfl⟩⟩
            have hcl : (cd (wt (A, C, Lg, o, false))).length = (wt (A, C, Lg, o, false)).length := by simp [cd]
            have hfJ : frL I I' y vb := (frL_av hf).trans (g2.l vb hy)
            have e306 : ∀ j, j ≠ 10 → j ≠ 11 → I' 306 j = avI J pl2 tk2 x a2 306 j := fun j a b => g2 306 j (by omega) (by decide) (by omega) (by omega)
            have hlx2 := lxR_av (pl := pl2) (tk := tk2) (v := v2) (a := a2) (x := x) hlx1.1 hx
            refine hq _ ⟨⟨fun c j a b d e f i => by rw [up_ne (by omega)]; exact hfJ.1 c j a b d e f i, by rw [up_nc (by omega)]; exact hfJ.2⟩, Or.inr ⟨q, pl2, tk2, v2, a2, _, hq2, ⟨?_, ?_, ?_, ?_, fun c => ?_⟩, ⟨_, hL2⟩, ?_, ?_, ?_, ?_, ?_, ?_, ?_⟩⟩
            · rw [up_nc (by omega), e306 1 (by decide) (by decide)]; exact hlx2.1
            · rw [up_nc (by omega), e306 2 (by decide) (by decide)]; exact hlx2.2.1
            · rw [up_nc (by omega), e306 3 (by decide) (by decide)]; exact hlx2.2.2.1
            · rw [up_nc (by omega), e306 4 (by decide) (by decide)]; exact hlx2.2.2.2.1
            · rw [up_nc (by omega), e306 5 (by decide) (by decide)]; exact hlx2.2.2.2.2 c
            · rw [up_nc (by omega), e306 7 (by decide) (by decide), av_o (by omega)]; exact c7
            · rw [up_nc (by omega), e306 8 (by decide) (by decide), av_o (by omega)]; exact h8
            · rw [up_nc (by omega)]; exact g1.2.2.2.1
            · exact lsN_of (fun k _ => up_nc (by omega)) g1.2.2.2.2
            · rw [up_nc (by omega), g2 (y + 2) vb (by omega) (by omega) (by omega) (by omega), av_o (by omega)]; exact h2
            · rw [up_eq]; exact g1.2.2.2.1
            · simp only [List.length_append, hcl]; simp only at hlen; omega
          refine b_X3_readLaw_45 hR ⟨fun _ => g138, fun _ => ⟨fun _ => g138, fun _ => ⟨fun _ => g138, fun c => absurd c (by decide)⟩⟩⟩
        refine ⟨fun _ => ⟨fun c => b116 (fun q => c q.1), fun c => ⟨fun c2 => b116 (fun q => c2 q.2.1), fun c2 => ?_⟩⟩, fun c => absurd rfl c⟩
        rw [ev2, e14]
        refine ⟨fun c3 => b_X3_readLaw_108 hR ⟨fun c4 => b116 (fun q => ?_), fun c4 => stop c c2 ?_⟩, fun c3 => b_X3_readLaw_108 hR ⟨fun c4 => b116 (fun q => ?_), fun c4 => stop c c2 ?_⟩⟩
        · by_cases cC : C = []
          · rw [if_pos cC] at c4; exact c4 rfl
          · exact c3 (q.2.2.mp cC)
        · by_cases cC : C = []
          · exact ⟨fun q => absurd cC q, fun q => absurd q c3⟩
          · rw [if_neg cC] at c4; exact absurd c4 (by decide)
        · by_cases cC : C = []
          · exact absurd cC (q.2.2.mpr c3)
          · rw [if_neg cC] at c4; exact c4 rfl
        · by_cases cC : C = []
          · rw [if_pos cC] at c4; exact absurd c4 (by decide)
          · exact ⟨fun _ => c3, fun _ => cC⟩
  refine e_X3_readLaw hR ⟨y, hr, hy, y, hr, hy, vp_in_nI hvb (by decide), ?_⟩
  rintro _ rfl _ rfl _ rfl _ rfl _ rfl _ rfl
  rw [hl1, nI_clamp (by omega)]
  have hf0 : frL I (up I (y + 2) vb (nI pre.length)) y vb := ⟨fun c j a b d e f i => by rw [up_ne (by omega)], by rw [up_nc (by omega)]⟩
  refine main (n - pl + 1) 0 pl tk v a s0L _ (by omega) hLx ?_ ?_ ?_ ?_ (by omega) (frL_up (frL_up (frL_up (frL_up (frL_up hf0 (by decide)) (by decide)) (by decide)) (by decide)) (by decide)) ?_ ?_ (fun r h => h)
  · obtain ⟨q1, q2, q3, q4, q5⟩ := hlx
    refine ⟨?_, ?_, ?_, ?_, fun c => ?_⟩
    all_goals (rw [up_ni (by decide), up_ni (by decide), up_ni (by decide), up_ni (by decide), up_ni (by decide), up_nc (by omega)])
    · exact q1
    · exact q2
    · exact q3
    · exact q4
    · exact q5 c
  · refine ⟨⟨?_, trivial, ?_, ?_, ?_⟩, ?_, ?_, ?_, ?_⟩
    · rw [up_ni (by decide), up_ni (by decide), up_ni (by decide), up_ni (by decide), up_eq]; rfl
    · rw [up_ni (by decide), up_ni (by decide), up_ni (by decide), up_eq]; rfl
    · rw [up_nc (by omega), up_nc (by omega), up_nc (by omega), up_nc (by omega), up_nc (by omega), up_nc (by omega), hl1]
      simp [s0L]
    · have : pre ++ s0L.2.2.2.1 = pre := by simp [s0L]
      rw [this]
      refine lsN_of (fun k _ => ?_) hl2
      rw [up_nc (by omega), up_nc (by omega), up_nc (by omega), up_nc (by omega), up_nc (by omega), up_nc (by omega)]
    · rw [up_ni (by decide), up_ni (by decide), up_eq]; rfl
    · rw [up_ni (by decide), up_eq]; rfl
    · rw [up_eq]; rfl
    · rw [up_ni (by decide), up_ni (by decide), up_ni (by decide), up_ni (by decide), up_ni (by decide), up_nc (by omega)]; exact h7
  · exact ⟨fun x hx => absurd hx (by simp [s0L]), Or.inl rfl, fun x hx => absurd hx (by simp [s0L]), fun _ => rfl, trivial, by simp [wt, s0L, opN]⟩
  · simp [wt, s0L]; exact hpl
  · rw [up_nc (by omega), up_nc (by omega), up_nc (by omega), up_nc (by omega), up_nc (by omega), up_eq]
  · rw [up_ni (by decide), up_ni (by decide), up_ni (by decide), up_ni (by decide), up_ni (by decide), up_nc (by omega)]
