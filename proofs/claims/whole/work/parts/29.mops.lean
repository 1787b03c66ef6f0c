theorem e_X7_keepsStep {G : gG} {I : gI} {R : gR} {L : gL} {Q : gQ} (hR : g_Fx R) (h : (¬ (I 311 3) = 30 → Go G mX7_keepsStep 1 0 0 54 [some (.ref 310), some (.int 0)] [] SH I R L Q) ∧ ((I 311 3) = 30 → Go G mX7_keepsStep 1 0 0 15 [some (.ref 310), some (.int 470)] [] SH I R L Q)) : Mt G mX7_keepsStep 1 0 0 [.ref 310] SH I R L Q := by
  refine go_start rfl (Nat.le_of_ble_eq_true rfl) rfl ?_
  refine go_aload_n dX7_keepsStep_0 rfl ?_
  refine go_getR dX7_keepsStep_1 fX7_7 rfl rfl (hR 310 0 311 rfl) ?_
  refine go_iconst (v := 3) dX7_keepsStep_4 (by decide) ?_
  refine go_ialdK dX7_keepsStep_5 rfl (vp_in_nI (n := 3) (by decide) (by decide)) (k := 3) (by decide) ?_
  refine go_bipush (v := 30) dX7_keepsStep_6 (by decide) ?_
  refine go_icmp_ne 52 dX7_keepsStep_8 (by decide) (fun c => ?_) (fun c => ?_)
  · have h := h.1 c
    refine go_iconst (v := 0) dX7_keepsStep_52 (by decide) ?_
    refine go_istore_n dX7_keepsStep_53 (Nat.le_of_ble_eq_true rfl) rfl ?_
    exact h
  · have h := h.2 c
    refine go_sipush (v := 470) dX7_keepsStep_11 (by decide) ?_
    refine go_istore_n dX7_keepsStep_14 (Nat.le_of_ble_eq_true rfl) rfl ?_
    exact h
theorem b_X7_keepsStep_54 {G : gG} {I : gI} {R : gR} {L : gL} {Q : gQ} {v1 : Int32} (hR : g_Fx R) (h : (355 ≤ v1 → ∀ I_2 : gI, I_2 = up I 311 3 ((I 311 3) + 1) → Q none SH I_2 R L) ∧ (¬ 355 ≤ v1 → vp_in (110 + v1) 11120 ∧ (vp_in ((470 + (355 * (I 311 3))) + v1) 11120 ∧ (∀ I_3 : gI, I_3 = up I 311 ((470 + (355 * (I 311 3))) + v1).toNatClampNeg (I 311 (110 + v1).toNatClampNeg) → ∀ v1_4 : Int32, v1_4 = v1 + 1 → Go G mX7_keepsStep 1 0 0 54 [some (.ref 310), some (.int v1_4)] [] SH I_3 R L Q)))) : Go G mX7_keepsStep 1 0 0 54 [some (.ref 310), some (.int v1)] [] SH I R L Q := by
  refine go_iload_n dX7_keepsStep_54 rfl ?_
  refine go_sipush (v := 355) dX7_keepsStep_55 (by decide) ?_
  refine go_icmp_ge 97 dX7_keepsStep_58 (by decide) (fun c => ?_) (fun c => ?_)
  · have h := h.1 c
    refine go_aload_n dX7_keepsStep_97 rfl ?_
    refine go_getR dX7_keepsStep_98 fX7_7 rfl rfl (hR 310 0 311 rfl) ?_
    refine go_iconst (v := 3) dX7_keepsStep_101 (by decide) ?_
    refine go_dup2 dX7_keepsStep_102 rfl rfl ?_
    refine go_ialdK dX7_keepsStep_103 rfl (vp_in_nI (n := 3) (by decide) (by decide)) (k := 3) (by decide) ?_
    refine go_iconst (v := 1) dX7_keepsStep_104 (by decide) ?_
    refine go_iadd dX7_keepsStep_105 ?_
    refine go_iastK dX7_keepsStep_106 rfl (vp_in_nI (n := 3) (by decide) (by decide)) (k := 3) (by decide) ?_
    have h := h _ rfl
    exact go_vret dX7_keepsStep_107 rfl rfl h
  · have h := h.2 c
    refine go_aload_n dX7_keepsStep_61 rfl ?_
    refine go_getR dX7_keepsStep_62 fX7_7 rfl rfl (hR 310 0 311 rfl) ?_
    refine go_sipush (v := 470) dX7_keepsStep_65 (by decide) ?_
    refine go_sipush (v := 355) dX7_keepsStep_68 (by decide) ?_
    refine go_aload_n dX7_keepsStep_71 rfl ?_
    refine go_getR dX7_keepsStep_72 fX7_7 rfl rfl (hR 310 0 311 rfl) ?_
    refine go_iconst (v := 3) dX7_keepsStep_75 (by decide) ?_
    refine go_ialdK dX7_keepsStep_76 rfl (vp_in_nI (n := 3) (by decide) (by decide)) (k := 3) (by decide) ?_
    refine go_imul dX7_keepsStep_77 ?_
    refine go_iadd dX7_keepsStep_78 ?_
    refine go_iload_n dX7_keepsStep_79 rfl ?_
    refine go_iadd dX7_keepsStep_80 ?_
    refine go_aload_n dX7_keepsStep_81 rfl ?_
    refine go_getR dX7_keepsStep_82 fX7_7 rfl rfl (hR 310 0 311 rfl) ?_
    refine go_bipush (v := 110) dX7_keepsStep_85 (by decide) ?_
    refine go_iload_n dX7_keepsStep_87 rfl ?_
    refine go_iadd dX7_keepsStep_88 ?_
    obtain ⟨hi, h⟩ := h
    refine go_iald dX7_keepsStep_89 rfl hi ?_
    obtain ⟨hi, h⟩ := h
    refine go_iast dX7_keepsStep_90 rfl hi ?_
    have h := h _ rfl
    refine go_iinc dX7_keepsStep_91 rfl (Nat.le_of_ble_eq_true rfl) rfl ?_
    have h := h _ rfl
    refine go_goto 54 dX7_keepsStep_94 (by decide) ?_
    exact h
theorem b_X7_keepsStep_15 {G : gG} {I : gI} {R : gR} {L : gL} {Q : gQ} {v1 : Int32} (hR : g_Fx R) (h : (10765 ≤ v1 → ∀ I_6 : gI, I_6 = up I 311 3 29 → Go G mX7_keepsStep 1 0 0 54 [some (.ref 310), some (.int 0)] [] SH I_6 R L Q) ∧ (¬ 10765 ≤ v1 → vp_in (v1 + 355) 11120 ∧ (vp_in v1 11120 ∧ (∀ I_7 : gI, I_7 = up I 311 v1.toNatClampNeg (I 311 (v1 + 355).toNatClampNeg) → ∀ v1_8 : Int32, v1_8 = v1 + 1 → Go G mX7_keepsStep 1 0 0 15 [some (.ref 310), some (.int v1_8)] [] SH I_7 R L Q)))) : Go G mX7_keepsStep 1 0 0 15 [some (.ref 310), some (.int v1)] [] SH I R L Q := by
  refine go_iload_n dX7_keepsStep_15 rfl ?_
  refine go_sipush (v := 10765) dX7_keepsStep_16 (by decide) ?_
  refine go_icmp_ge 44 dX7_keepsStep_19 (by decide) (fun c => ?_) (fun c => ?_)
  · have h := h.1 c
    refine go_aload_n dX7_keepsStep_44 rfl ?_
    refine go_getR dX7_keepsStep_45 fX7_7 rfl rfl (hR 310 0 311 rfl) ?_
    refine go_iconst (v := 3) dX7_keepsStep_48 (by decide) ?_
    refine go_bipush (v := 29) dX7_keepsStep_49 (by decide) ?_
    refine go_iastK dX7_keepsStep_51 rfl (vp_in_nI (n := 3) (by decide) (by decide)) (k := 3) (by decide) ?_
    have h := h _ rfl
    refine go_iconst (v := 0) dX7_keepsStep_52 (by decide) ?_
    refine go_istore_n dX7_keepsStep_53 (Nat.le_of_ble_eq_true rfl) rfl ?_
    exact h
  · have h := h.2 c
    refine go_aload_n dX7_keepsStep_22 rfl ?_
    refine go_getR dX7_keepsStep_23 fX7_7 rfl rfl (hR 310 0 311 rfl) ?_
    refine go_iload_n dX7_keepsStep_26 rfl ?_
    refine go_aload_n dX7_keepsStep_27 rfl ?_
    refine go_getR dX7_keepsStep_28 fX7_7 rfl rfl (hR 310 0 311 rfl) ?_
    refine go_iload_n dX7_keepsStep_31 rfl ?_
    refine go_sipush (v := 355) dX7_keepsStep_32 (by decide) ?_
    refine go_iadd dX7_keepsStep_35 ?_
    obtain ⟨hi, h⟩ := h
    refine go_iald dX7_keepsStep_36 rfl hi ?_
    obtain ⟨hi, h⟩ := h
    refine go_iast dX7_keepsStep_37 rfl hi ?_
    have h := h _ rfl
    refine go_iinc dX7_keepsStep_38 rfl (Nat.le_of_ble_eq_true rfl) rfl ?_
    have h := h _ rfl
    refine go_goto 15 dX7_keepsStep_41 (by decide) ?_
    exact h
theorem e_X7_undo {G : gG} {I : gI} {R : gR} {L : gL} {Q : gQ} (hR : g_Fx R) (h : (¬ (I 311 3) = 0 → ∀ I_1 : gI, I_1 = up I 311 3 ((I 311 3) - 1) → Go G mX7_undo 1 0 0 23 [some (.ref 310), some (.int 0)] [] SH I_1 R L Q) ∧ ((I 311 3) = 0 → Q (some (.int (-1))) SH I R L)) : Mt G mX7_undo 1 0 0 [.ref 310] SH I R L Q := by
  refine go_start rfl (Nat.le_of_ble_eq_true rfl) rfl ?_
  refine go_aload_n dX7_undo_0 rfl ?_
  refine go_getR dX7_undo_1 fX7_7 rfl rfl (hR 310 0 311 rfl) ?_
  refine go_iconst (v := 3) dX7_undo_4 (by decide) ?_
  refine go_ialdK dX7_undo_5 rfl (vp_in_nI (n := 3) (by decide) (by decide)) (k := 3) (by decide) ?_
  refine go_if_ne 11 dX7_undo_6 (by decide) (fun c => ?_) (fun c => ?_)
  · have h := h.1 c
    refine go_aload_n dX7_undo_11 rfl ?_
    refine go_getR dX7_undo_12 fX7_7 rfl rfl (hR 310 0 311 rfl) ?_
    refine go_iconst (v := 3) dX7_undo_15 (by decide) ?_
    refine go_dup2 dX7_undo_16 rfl rfl ?_
    refine go_ialdK dX7_undo_17 rfl (vp_in_nI (n := 3) (by decide) (by decide)) (k := 3) (by decide) ?_
    refine go_iconst (v := 1) dX7_undo_18 (by decide) ?_
    refine go_isub dX7_undo_19 ?_
    refine go_iastK dX7_undo_20 rfl (vp_in_nI (n := 3) (by decide) (by decide)) (k := 3) (by decide) ?_
    have h := h _ rfl
    refine go_iconst (v := 0) dX7_undo_21 (by decide) ?_
    refine go_istore_n dX7_undo_22 (Nat.le_of_ble_eq_true rfl) rfl ?_
    exact h
  · have h := h.2 c
    refine go_iconst (v := -1) dX7_undo_9 (by decide) ?_
    exact go_iret dX7_undo_10 rfl rfl h
theorem b_X7_undo_23 {G : gG} {I : gI} {R : gR} {L : gL} {Q : gQ} {v1 : Int32} (hR : g_Fx R) (h : (355 ≤ v1 → Q (some (.int (I 311 3))) SH I R L) ∧ (¬ 355 ≤ v1 → vp_in ((470 + (355 * (I 311 3))) + v1) 11120 ∧ (vp_in (110 + v1) 11120 ∧ (∀ I_3 : gI, I_3 = up I 311 (110 + v1).toNatClampNeg (I 311 ((470 + (355 * (I 311 3))) + v1).toNatClampNeg) → ∀ v1_4 : Int32, v1_4 = v1 + 1 → Go G mX7_undo 1 0 0 23 [some (.ref 310), some (.int v1_4)] [] SH I_3 R L Q)))) : Go G mX7_undo 1 0 0 23 [some (.ref 310), some (.int v1)] [] SH I R L Q := by
  refine go_iload_n dX7_undo_23 rfl ?_
  refine go_sipush (v := 355) dX7_undo_24 (by decide) ?_
  refine go_icmp_ge 66 dX7_undo_27 (by decide) (fun c => ?_) (fun c => ?_)
  · have h := h.1 c
    refine go_aload_n dX7_undo_66 rfl ?_
    refine go_getR dX7_undo_67 fX7_7 rfl rfl (hR 310 0 311 rfl) ?_
    refine go_iconst (v := 3) dX7_undo_70 (by decide) ?_
    refine go_ialdK dX7_undo_71 rfl (vp_in_nI (n := 3) (by decide) (by decide)) (k := 3) (by decide) ?_
    exact go_iret dX7_undo_72 rfl rfl h
  · have h := h.2 c
    refine go_aload_n dX7_undo_30 rfl ?_
    refine go_getR dX7_undo_31 fX7_7 rfl rfl (hR 310 0 311 rfl) ?_
    refine go_bipush (v := 110) dX7_undo_34 (by decide) ?_
    refine go_iload_n dX7_undo_36 rfl ?_
    refine go_iadd dX7_undo_37 ?_
    refine go_aload_n dX7_undo_38 rfl ?_
    refine go_getR dX7_undo_39 fX7_7 rfl rfl (hR 310 0 311 rfl) ?_
    refine go_sipush (v := 470) dX7_undo_42 (by decide) ?_
    refine go_sipush (v := 355) dX7_undo_45 (by decide) ?_
    refine go_aload_n dX7_undo_48 rfl ?_
    refine go_getR dX7_undo_49 fX7_7 rfl rfl (hR 310 0 311 rfl) ?_
    refine go_iconst (v := 3) dX7_undo_52 (by decide) ?_
    refine go_ialdK dX7_undo_53 rfl (vp_in_nI (n := 3) (by decide) (by decide)) (k := 3) (by decide) ?_
    refine go_imul dX7_undo_54 ?_
    refine go_iadd dX7_undo_55 ?_
    refine go_iload_n dX7_undo_56 rfl ?_
    refine go_iadd dX7_undo_57 ?_
    obtain ⟨hi, h⟩ := h
    refine go_iald dX7_undo_58 rfl hi ?_
    obtain ⟨hi, h⟩ := h
    refine go_iast dX7_undo_59 rfl hi ?_
    have h := h _ rfl
    refine go_iinc dX7_undo_60 rfl (Nat.le_of_ble_eq_true rfl) rfl ?_
    have h := h _ rfl
    refine go_goto 23 dX7_undo_63 (by decide) ?_
    exact h
theorem e_X7_copies {G : gG} {I : gI} {R : gR} {L : gL} {Q : gQ} {b : Int32} (hR : g_Fx R) (h : Go G mX7_copies 1 0 0 2 [some (.ref 310), some (.int b), some (.int 0)] [] SH I R L Q) : Mt G mX7_copies 1 0 0 [.ref 310, .int b] SH I R L Q := by
  refine go_start rfl (Nat.le_of_ble_eq_true rfl) rfl ?_
  refine go_iconst (v := 0) dX7_copies_0 (by decide) ?_
  refine go_istore_n dX7_copies_1 (Nat.le_of_ble_eq_true rfl) rfl ?_
  exact h
theorem b_X7_copies_2 {G : gG} {I : gI} {R : gR} {L : gL} {Q : gQ} {v1 v2 : Int32} (hR : g_Fx R) (h : (11120 ≤ v2 → Q none SH I R L) ∧ (¬ 11120 ≤ v2 → (v1 = 0 → vp_in v2 11120 ∧ (vp_in v2 11120 ∧ (∀ I_1 : gI, I_1 = up I 311 v2.toNatClampNeg (I 312 v2.toNatClampNeg) → ∀ v2_2 : Int32, v2_2 = v2 + 1 → Go G mX7_copies 1 0 0 2 [some (.ref 310), some (.int v1), some (.int v2_2)] [] SH I_1 R L Q))) ∧ (¬ v1 = 0 → vp_in v2 11120 ∧ (vp_in v2 11120 ∧ (∀ I_3 : gI, I_3 = up I 312 v2.toNatClampNeg (I 311 v2.toNatClampNeg) → ∀ v2_4 : Int32, v2_4 = v2 + 1 → Go G mX7_copies 1 0 0 2 [some (.ref 310), some (.int v1), some (.int v2_4)] [] SH I_3 R L Q))))) : Go G mX7_copies 1 0 0 2 [some (.ref 310), some (.int v1), some (.int v2)] [] SH I R L Q := by
  refine go_iload_n dX7_copies_2 rfl ?_
  refine go_sipush (v := 11120) dX7_copies_3 (by decide) ?_
  refine go_icmp_ge 46 dX7_copies_6 (by decide) (fun c => ?_) (fun c => ?_)
  · have h := h.1 c
    exact go_vret dX7_copies_46 rfl rfl h
  · have h := h.2 c
    refine go_iload_n dX7_copies_9 rfl ?_
    refine go_if_eq 28 dX7_copies_10 (by decide) (fun c => ?_) (fun c => ?_)
    · have h := h.1 c
      refine go_aload_n dX7_copies_28 rfl ?_
      refine go_getR dX7_copies_29 fX7_7 rfl rfl (hR 310 0 311 rfl) ?_
      refine go_iload_n dX7_copies_32 rfl ?_
      refine go_aload_n dX7_copies_33 rfl ?_
      refine go_getR dX7_copies_34 fX7_13 rfl rfl (hR 310 1 312 rfl) ?_
      refine go_iload_n dX7_copies_37 rfl ?_
      obtain ⟨hi, h⟩ := h
      refine go_iald dX7_copies_38 rfl hi ?_
      obtain ⟨hi, h⟩ := h
      refine go_iast dX7_copies_39 rfl hi ?_
      have h := h _ rfl
      refine go_iinc dX7_copies_40 rfl (Nat.le_of_ble_eq_true rfl) rfl ?_
      have h := h _ rfl
      refine go_goto 2 dX7_copies_43 (by decide) ?_
      exact h
    · have h := h.2 c
      refine go_aload_n dX7_copies_13 rfl ?_
      refine go_getR dX7_copies_14 fX7_13 rfl rfl (hR 310 1 312 rfl) ?_
      refine go_iload_n dX7_copies_17 rfl ?_
      refine go_aload_n dX7_copies_18 rfl ?_
      refine go_getR dX7_copies_19 fX7_7 rfl rfl (hR 310 0 311 rfl) ?_
      refine go_iload_n dX7_copies_22 rfl ?_
      obtain ⟨hi, h⟩ := h
      refine go_iald dX7_copies_23 rfl hi ?_
      obtain ⟨hi, h⟩ := h
      refine go_iast dX7_copies_24 rfl hi ?_
      have h := h _ rfl
      refine go_goto 40 dX7_copies_25 (by decide) ?_
      refine go_iinc dX7_copies_40 rfl (Nat.le_of_ble_eq_true rfl) rfl ?_
      have h := h _ rfl
      refine go_goto 2 dX7_copies_43 (by decide) ?_
      exact h
/-! the plain form's deeds -/
/-- a cell's row of numbers, new -/
def sa (I : gI) (c : Nat) (h : Nat → Int32) : gI := fun a => if a = c then h else I a
theorem sa_eq (I : gI) (c : Nat) (h : Nat → Int32) : sa I c h c = h := by simp [sa]
theorem sa_off {I : gI} {c a : Nat} {h : Nat → Int32} (n : a ≠ c) : sa I c h a = I a := by simp [sa, n]
theorem sa_self (I : gI) (c : Nat) : sa I c (I c) = I := by funext a; by_cases h : a = c <;> simp [sa, h]
theorem sa_sa (I : gI) (c : Nat) (g h : Nat → Int32) : sa (sa I c g) c h = sa I c h := by funext a; by_cases e : a = c <;> simp [sa, e]
theorem up_sa (I : gI) (c j : Nat) (v : Int32) : up I c j v = sa I c (upd (I c) j v) := by
  funext a
  by_cases h : a = c
  · subst h; rw [up_row, sa_eq]
  · rw [up_off a h, sa_off h]
/-- n numbers of a row from s on, to d on -/
def mv (f : Nat → Int32) (s d n : Nat) : Nat → Int32 := fun k => if d ≤ k ∧ k < d + n then f (s + (k - d)) else f k
theorem mv_0 (f : Nat → Int32) (s d : Nat) : mv f s d 0 = f := by funext k; unfold mv; rw [if_neg (by omega)]
theorem mv_s {I : gI} {c : Nat} {f : Nat → Int32} {s d i : Nat} (h : s + i < d ∨ d + i ≤ s + i) : up (sa I c (mv f s d i)) c (d + i) (mv f s d i (s + i)) = sa I c (mv f s d (i + 1)) := by
  have e : mv f s d i (s + i) = f (s + i) := by unfold mv; rw [if_neg (by omega)]
  rw [e, up_sa, sa_sa, sa_eq]
  congr 1
  funext k
  unfold upd mv
  by_cases hk : k = d + i
  · rw [if_pos hk, if_pos (by omega), show k - d = i by omega]
  · rw [if_neg hk]
    by_cases h2 : d ≤ k ∧ k < d + i
    · rw [if_pos h2, if_pos (by omega)]
    · rw [if_neg h2, if_neg (by omega)]
theorem ix_st (n i : Nat) : (470 : Int32) + 355 * nI n + nI i = nI (470 + 355 * n + i) := by
  rw [show (355 : Int32) * nI n = nI (355 * n) from pk_mul 355 n, show (470 : Int32) + nI (355 * n) = nI (470 + 355 * n) from nI_add 470 _]; exact nI_add _ _
theorem ix_row (i : Nat) : (110 : Int32) + nI i = nI (110 + i) := nI_add 110 i
/-- a step is kept -/
def kst0 (f : Nat → Int32) : Nat → Int32 := if f 3 = 30 then upd (mv f 825 470 10295) 3 29 else f
def kstF (f : Nat → Int32) : Nat → Int32 := upd (mv (kst0 f) 110 (470 + 355 * (kst0 f 3).toNatClampNeg) 355) 3 (kst0 f 3 + 1)
theorem k_X7_keepsStep {G : gG} {I : gI} {R : gR} {L : gL} {Q : gQ} (hR : g_Fx R) (p0 : 0 ≤ (I 311 3).toInt ∧ (I 311 3).toInt ≤ 30) (hq : Q none SH (sa I 311 (kstF (I 311))) R L) : Mt G mX7_keepsStep 1 0 0 [.ref 310] SH I R L Q := by
  have tail : ∀ (g : Nat → Int32), 0 ≤ (g 3).toInt → (g 3).toInt < 30 → Q none SH (sa I 311 (upd (mv g 110 (470 + 355 * (g 3).toNatClampNeg) 355) 3 (g 3 + 1))) R L → Go G mX7_keepsStep 1 0 0 54 [some (.ref 310), some (.int 0)] [] SH (sa I 311 g) R L Q := by
    intro g h0 h1 hg
    have en := nI_of_toInt h0
    have cn := ci h0
    generalize hn : (g 3).toNatClampNeg = n at *
    have e3 : ∀ i, mv g 110 (470 + 355 * n) i 3 = nI n := by intro i; unfold mv; rw [if_neg (by omega), en]
    have h := cnt (P := fun i => Go G mX7_keepsStep 1 0 0 54 [some (.ref 310), some (.int (nI i))] [] SH (sa I 311 (mv g 110 (470 + 355 * n) i)) R L Q) 355 (fun i hi hP => ?_) ?_
    · rw [mv_0] at h; exact h
    · refine b_X7_keepsStep_54 hR ⟨fun c => absurd c (nI_ge (b := 355) hi (by decide)), fun _ => ?_⟩
      rw [sa_eq, e3 i, ix_st, ix_row]
      refine ⟨vp_in_nI (by omega) (by decide), vp_in_nI (by omega) (by decide), ?_⟩
      rintro _ rfl _ rfl
      rw [nI_1, nI_clamp (by omega), nI_clamp (by omega), mv_s (by omega)]
      exact hP
    · refine b_X7_keepsStep_54 hR ⟨fun _ => ?_, fun c => absurd (show (355 : Int32) ≤ nI 355 by decide) c⟩
      rintro _ rfl
      rw [sa_eq, e3, up_sa, sa_eq, sa_sa, ← en]
      exact hg
  refine e_X7_keepsStep hR ⟨fun c => ?_, fun c => ?_⟩
  · have hk : kst0 (I 311) = I 311 := by unfold kst0; rw [if_neg c]
    have := tail (I 311) p0.1 (by have : ¬ (I 311 3).toInt = 30 := fun q => c (ti_eq.mpr q); omega)
    rw [sa_self] at this
    refine this ?_
    unfold kstF at hq
    rw [hk] at hq
    exact hq
  · have hk : kst0 (I 311) = upd (mv (I 311) 825 470 10295) 3 29 := by unfold kst0; rw [if_pos c]
    have h := cnt (P := fun i => Go G mX7_keepsStep 1 0 0 15 [some (.ref 310), some (.int (nI (470 + i)))] [] SH (sa I 311 (mv (I 311) 825 470 i)) R L Q) 10295 (fun i hi hP => ?_) ?_
    · rw [mv_0, sa_self] at h; exact h
    · refine b_X7_keepsStep_15 hR ⟨fun c => absurd c (nI_ge (b := 10765) (by omega) (by decide)), fun _ => ?_⟩
      rw [show nI (470 + i) + 355 = nI (825 + i) from by rw [show (355 : Int32) = nI 355 from rfl, nI_add]; congr 1; omega]
      refine ⟨vp_in_nI (by omega) (by decide), vp_in_nI (by omega) (by decide), ?_⟩
      rintro _ rfl _ rfl
      rw [nI_1, nI_clamp (by omega), nI_clamp (by omega), sa_eq, mv_s (by omega)]
      exact hP
    · refine b_X7_keepsStep_15 hR ⟨fun _ => ?_, fun c => absurd (show (10765 : Int32) ≤ nI (470 + 10295) by decide) c⟩
      rintro _ rfl
      rw [up_sa, sa_eq, sa_sa, ← hk]
      have e3 : kst0 (I 311) 3 = 29 := by rw [hk]; simp [upd]
      refine tail _ (by rw [e3]; decide) (by rw [e3]; decide) ?_
      unfold kstF at hq
      exact hq
/-- a step is taken back -/
def undF (f : Nat → Int32) : Nat → Int32 := if f 3 = 0 then f else mv (upd f 3 (f 3 - 1)) (470 + 355 * (f 3 - 1).toNatClampNeg) 110 355
theorem k_X7_undo {G : gG} {I : gI} {R : gR} {L : gL} {Q : gQ} (hR : g_Fx R) (p0 : 0 ≤ (I 311 3).toInt ∧ (I 311 3).toInt ≤ 30) (hq : Q (some (.int (if I 311 3 = 0 then -1 else I 311 3 - 1))) SH (sa I 311 (undF (I 311))) R L) : Mt G mX7_undo 1 0 0 [.ref 310] SH I R L Q := by
  refine e_X7_undo hR ⟨fun c => ?_, fun c => ?_⟩
  · rintro _ rfl
    rw [up_sa]
    unfold undF at hq
    rw [if_neg c, if_neg c] at hq
    have o1 : (1 : Int32).toInt = 1 := rfl
    have c' : ¬ (I 311 3).toInt = 0 := fun q => c (ti_eq.mpr q)
    have s : (I 311 3 - 1).toInt = (I 311 3).toInt - 1 := by rw [ti_sub] <;> rw [o1] <;> omega
    have h0 : 0 ≤ (I 311 3 - 1).toInt := by omega
    have en := nI_of_toInt h0
    have cn := ci h0
    generalize hn : (I 311 3 - 1).toNatClampNeg = n at *
    rw [en] at hq ⊢
    have e3 : ∀ i, mv (upd (I 311) 3 (nI n)) (470 + 355 * n) 110 i 3 = nI n := by intro i; unfold mv; rw [if_neg (by omega)]; simp [upd]
    have h := cnt (P := fun i => Go G mX7_undo 1 0 0 23 [some (.ref 310), some (.int (nI i))] [] SH (sa I 311 (mv (upd (I 311) 3 (nI n)) (470 + 355 * n) 110 i)) R L Q) 355 (fun i hi hP => ?_) ?_
    · rw [mv_0] at h; exact h
    · refine b_X7_undo_23 hR ⟨fun c => absurd c (nI_ge (b := 355) hi (by decide)), fun _ => ?_⟩
      rw [sa_eq, e3 i, ix_st, ix_row]
      refine ⟨vp_in_nI (by omega) (by decide), vp_in_nI (by omega) (by decide), ?_⟩
      rintro _ rfl _ rfl
      rw [nI_1, nI_clamp (by omega), nI_clamp (by omega), mv_s (by omega)]
      exact hP
    · refine b_X7_undo_23 hR ⟨fun _ => ?_, fun c => absurd (show (355 : Int32) ≤ nI 355 by decide) c⟩
      rw [sa_eq, e3]
      exact hq
  · unfold undF at hq
    rw [if_pos c, if_pos c, sa_self] at hq
    exact hq
theorem k_X7_copies {G : gG} {I : gI} {R : gR} {L : gL} {Q : gQ} {b : Int32} (hR : g_Fx R) (hq : Q none SH (if b = 0 then cpy I 312 311 0 0 11120 else cpy I 311 312 0 0 11120) R L) : Mt G mX7_copies 1 0 0 [.ref 310, .int b] SH I R L Q := by
  refine e_X7_copies hR ?_
  by_cases c : b = 0
  · rw [if_pos c] at hq
    have h := cnt (P := fun i => Go G mX7_copies 1 0 0 2 [some (.ref 310), some (.int b), some (.int (nI i))] [] SH (cpy I 312 311 0 0 i) R L Q) 11120 (fun i hi hP => ?_) ?_
    · simp only [cpy_0] at h; exact h
    · refine b_X7_copies_2 hR ⟨fun c => absurd c (nI_ge (b := 11120) hi (by decide)), fun _ => ⟨fun _ => ⟨vp_in_nI hi (by decide), vp_in_nI hi (by decide), ?_⟩, fun c2 => absurd c c2⟩⟩
      rintro _ rfl _ rfl
      rw [nI_1, nI_clamp (by omega), cpy_off (show (312 : Nat) ≠ 311 by decide)]
      have := cpy_s (I := I) (a := 312) (c := 311) (sp := 0) (dp := 0) (n := i)
      rw [Nat.zero_add] at this
      rw [this]; exact hP
    · exact b_X7_copies_2 hR ⟨fun _ => hq, fun c => absurd (show (11120 : Int32) ≤ nI 11120 by decide) c⟩
  · rw [if_neg c] at hq
    have h := cnt (P := fun i => Go G mX7_copies 1 0 0 2 [some (.ref 310), some (.int b), some (.int (nI i))] [] SH (cpy I 311 312 0 0 i) R L Q) 11120 (fun i hi hP => ?_) ?_
    · simp only [cpy_0] at h; exact h
    · refine b_X7_copies_2 hR ⟨fun c => absurd c (nI_ge (b := 11120) hi (by decide)), fun _ => ⟨fun c2 => absurd c2 c, fun _ => ⟨vp_in_nI hi (by decide), vp_in_nI hi (by decide), ?_⟩⟩⟩
      rintro _ rfl _ rfl
      rw [nI_1, nI_clamp (by omega), cpy_off (show (311 : Nat) ≠ 312 by decide)]
      have := cpy_s (I := I) (a := 311) (c := 312) (sp := 0) (dp := 0) (n := i)
      rw [Nat.zero_add] at this
      rw [this]; exact hP
    · exact b_X7_copies_2 hR ⟨fun _ => hq, fun c => absurd (show (11120 : Int32) ≤ nI 11120 by decide) c⟩
