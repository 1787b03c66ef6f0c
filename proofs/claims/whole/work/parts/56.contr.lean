theorem e_X6_contrary {G : gG} {I : gI} {R : gR} {L : gL} {Q : gQ} (hR : g_Fx R) (h : Go G mX6_contrary 30 0 0 2 [some (.ref 0), some (.int 1), none] [] SH I R L Q) : Mt G mX6_contrary 30 0 0 [.ref 0] SH I R L Q := by
  refine go_start rfl (Nat.le_of_ble_eq_true rfl) rfl ?_
  refine go_iconst (v := 1) dX6_contrary_0 (by decide) ?_
  refine go_istore_n dX6_contrary_1 (Nat.le_of_ble_eq_true rfl) rfl ?_
  exact h
theorem b_X6_contrary_2 {G : gG} {I : gI} {R : gR} {L : gL} {Q : gQ} {v1 : Int32} (hR : g_Fx R) (h : ((I 4 4) ≤ v1 → Q (some (.int (-1))) SH I R L) ∧ (¬ (I 4 4) ≤ v1 → (30 ≤ v1 → Q (some (.int (-1))) SH I R L) ∧ (¬ 30 ≤ v1 → Go G mX6_contrary 30 0 0 24 [some (.ref 0), some (.int v1), some (.int 0)] [] SH I R L Q))) : Go G mX6_contrary 30 0 0 2 [some (.ref 0), some (.int v1), none] [] SH I R L Q := by
  refine go_iload_n dX6_contrary_2 rfl ?_
  refine go_aload_n dX6_contrary_3 rfl ?_
  refine go_getR dX6_contrary_4 fX6_27 rfl rfl (hR 0 2 3 rfl) ?_
  refine go_getR dX6_contrary_7 fX6_68 rfl rfl (hR 3 0 4 rfl) ?_
  refine go_getI dX6_contrary_10 fX6_115 rfl rfl ?_
  refine go_icmp_ge 60 dX6_contrary_13 (by decide) (fun c => ?_) (fun c => ?_)
  · have h := h.1 c
    refine go_iconst (v := -1) dX6_contrary_60 (by decide) ?_
    exact go_iret dX6_contrary_61 rfl rfl h
  · have h := h.2 c
    refine go_iload_n dX6_contrary_16 rfl ?_
    refine go_bipush (v := 30) dX6_contrary_17 (by decide) ?_
    refine go_icmp_ge 60 dX6_contrary_19 (by decide) (fun c => ?_) (fun c => ?_)
    · have h := h.1 c
      refine go_iconst (v := -1) dX6_contrary_60 (by decide) ?_
      exact go_iret dX6_contrary_61 rfl rfl h
    · have h := h.2 c
      refine go_iconst (v := 0) dX6_contrary_22 (by decide) ?_
      refine go_istore_n dX6_contrary_23 (Nat.le_of_ble_eq_true rfl) rfl ?_
      exact h
theorem b_X6_contrary_24 {G : gG} {I : gI} {R : gR} {L : gL} {Q : gQ} {v1 v2 : Int32} (hR : g_Fx R) (h : (v1 ≤ v2 → ∀ v1_3 : Int32, v1_3 = v1 + 1 → Go G mX6_contrary 30 0 0 2 [some (.ref 0), some (.int v1_3), none] [] SH I R L Q) ∧ (¬ v1 ≤ v2 → (0 ≤ v2 ∧ v2 < 30) ∧ ((0 ≤ v1 ∧ v1 < 30) ∧ ((¬ (I 133 (3 * v2).toNatClampNeg = I 133 (3 * v1).toNatClampNeg ∧ I 133 (3 * v2 + 1).toNatClampNeg = I 133 (3 * v1 + 1).toNatClampNeg ∧ ¬ I 133 (3 * v2 + 2).toNatClampNeg = I 133 (3 * v1 + 2).toNatClampNeg) → ∀ v2_6 : Int32, v2_6 = v2 + 1 → Go G mX6_contrary 30 0 0 24 [some (.ref 0), some (.int v1), some (.int v2_6)] [] SH I R L Q) ∧ (I 133 (3 * v2).toNatClampNeg = I 133 (3 * v1).toNatClampNeg ∧ I 133 (3 * v2 + 1).toNatClampNeg = I 133 (3 * v1 + 1).toNatClampNeg ∧ ¬ I 133 (3 * v2 + 2).toNatClampNeg = I 133 (3 * v1 + 2).toNatClampNeg → Q (some (.int ((30 * v2) + v1))) SH I R L))))) : Go G mX6_contrary 30 0 0 24 [some (.ref 0), some (.int v1), some (.int v2)] [] SH I R L Q := by
  refine go_iload_n dX6_contrary_24 rfl ?_
  refine go_iload_n dX6_contrary_25 rfl ?_
  refine go_icmp_ge 54 dX6_contrary_26 (by decide) (fun c => ?_) (fun c => ?_)
  · have h := h.1 c
    refine go_iinc dX6_contrary_54 rfl (Nat.le_of_ble_eq_true rfl) rfl ?_
    have h := h _ rfl
    refine go_goto 2 dX6_contrary_57 (by decide) ?_
    refine go_drop 2 ?_
    exact h
  · have h := h.2 c
    refine go_aload_n dX6_contrary_29 rfl ?_
    refine go_getR dX6_contrary_30 fX6_27 rfl rfl (hR 0 2 3 rfl) ?_
    refine go_iload_n dX6_contrary_33 rfl ?_
    refine go_iload_n dX6_contrary_34 rfl ?_
    obtain ⟨hp_4, h⟩ := h
    obtain ⟨hp_5, h⟩ := h
    refine go_callV0 (μ := mX6_contrary) [.int _, .int _] dX6_contrary_35 YX1_contradict lX6_242 rfl ⟨_, rfl, rfl⟩ rfl (Nat.le_of_ble_eq_true rfl) (Nat.le_of_ble_eq_true rfl) rfl (k_X1_contradict hR hp_4 hp_5 ?_)
    refine go_if_eq 48 dX6_contrary_38 (by decide) (fun c => ?_) (fun c => ?_)
    · have h := h.1 (b0.mp c)
      refine go_iinc dX6_contrary_48 rfl (Nat.le_of_ble_eq_true rfl) rfl ?_
      have h := h _ rfl
      refine go_goto 24 dX6_contrary_51 (by decide) ?_
      exact h
    · have h := h.2 (b1.mp c)
      refine go_bipush (v := 30) dX6_contrary_41 (by decide) ?_
      refine go_iload_n dX6_contrary_43 rfl ?_
      refine go_imul dX6_contrary_44 ?_
      refine go_iload_n dX6_contrary_45 rfl ?_
      refine go_iadd dX6_contrary_46 ?_
      exact go_iret dX6_contrary_47 rfl rfl h
theorem e_X7_contrary {G : gG} {I : gI} {R : gR} {L : gL} {Q : gQ} (hR : g_Fx R) (h : Go G mX7_contrary 30 0 0 2 [some (.ref 310), some (.int 1), none, none, none] [] SH I R L Q) : Mt G mX7_contrary 30 0 0 [.ref 310] SH I R L Q := by
  refine go_start rfl (Nat.le_of_ble_eq_true rfl) rfl ?_
  refine go_iconst (v := 1) dX7_contrary_0 (by decide) ?_
  refine go_istore_n dX7_contrary_1 (Nat.le_of_ble_eq_true rfl) rfl ?_
  exact h
theorem b_X7_contrary_2 {G : gG} {I : gI} {R : gR} {L : gL} {Q : gQ} {v1 : Int32} (hR : g_Fx R) (h : ((I 311 373) ≤ v1 → Q (some (.int (-1))) SH I R L) ∧ (¬ (I 311 373) ≤ v1 → Go G mX7_contrary 30 0 0 16 [some (.ref 310), some (.int v1), some (.int 0), none, none] [] SH I R L Q)) : Go G mX7_contrary 30 0 0 2 [some (.ref 310), some (.int v1), none, none, none] [] SH I R L Q := by
  refine go_iload_n dX7_contrary_2 rfl ?_
  refine go_aload_n dX7_contrary_3 rfl ?_
  refine go_getR dX7_contrary_4 fX7_7 rfl rfl (hR 310 0 311 rfl) ?_
  refine go_sipush (v := 373) dX7_contrary_7 (by decide) ?_
  refine go_ialdK dX7_contrary_10 rfl (vp_in_nI (n := 373) (by decide) (by decide)) (k := 373) (by decide) ?_
  refine go_icmp_ge 113 dX7_contrary_11 (by decide) (fun c => ?_) (fun c => ?_)
  · have h := h.1 c
    refine go_iconst (v := -1) dX7_contrary_113 (by decide) ?_
    exact go_iret dX7_contrary_114 rfl rfl h
  · have h := h.2 c
    refine go_iconst (v := 0) dX7_contrary_14 (by decide) ?_
    refine go_istore_n dX7_contrary_15 (Nat.le_of_ble_eq_true rfl) rfl ?_
    exact h
theorem b_X7_contrary_16 {G : gG} {I : gI} {R : gR} {L : gL} {Q : gQ} {v1 v2 : Int32} (hR : g_Fx R) (h : (v1 ≤ v2 → ∀ v1_2 : Int32, v1_2 = v1 + 1 → Go G mX7_contrary 30 0 0 2 [some (.ref 310), some (.int v1_2), none, none, none] [] SH I R L Q) ∧ (¬ v1 ≤ v2 → ∀ v3_3 : Int32, v3_3 = (374 + (3 * v2)) → ∀ v4_4 : Int32, v4_4 = (374 + (3 * v1)) → vp_in v3_3 11120 ∧ (vp_in v4_4 11120 ∧ ((¬ (I 311 v3_3.toNatClampNeg) = (I 311 v4_4.toNatClampNeg) → ∀ v2_5 : Int32, v2_5 = v2 + 1 → Go G mX7_contrary 30 0 0 16 [some (.ref 310), some (.int v1), some (.int v2_5), none, none] [] SH I R L Q) ∧ ((I 311 v3_3.toNatClampNeg) = (I 311 v4_4.toNatClampNeg) → vp_in (v3_3 + 1) 11120 ∧ (vp_in (v4_4 + 1) 11120 ∧ ((¬ (I 311 (v3_3 + 1).toNatClampNeg) = (I 311 (v4_4 + 1).toNatClampNeg) → ∀ v2_6 : Int32, v2_6 = v2 + 1 → Go G mX7_contrary 30 0 0 16 [some (.ref 310), some (.int v1), some (.int v2_6), none, none] [] SH I R L Q) ∧ ((I 311 (v3_3 + 1).toNatClampNeg) = (I 311 (v4_4 + 1).toNatClampNeg) → vp_in (v3_3 + 2) 11120 ∧ (vp_in (v4_4 + 2) 11120 ∧ (((I 311 (v3_3 + 2).toNatClampNeg) = (I 311 (v4_4 + 2).toNatClampNeg) → ∀ v2_7 : Int32, v2_7 = v2 + 1 → Go G mX7_contrary 30 0 0 16 [some (.ref 310), some (.int v1), some (.int v2_7), none, none] [] SH I R L Q) ∧ (¬ (I 311 (v3_3 + 2).toNatClampNeg) = (I 311 (v4_4 + 2).toNatClampNeg) → Q (some (.int ((30 * v2) + v1))) SH I R L))))))))))) : Go G mX7_contrary 30 0 0 16 [some (.ref 310), some (.int v1), some (.int v2), none, none] [] SH I R L Q := by
  refine go_iload_n dX7_contrary_16 rfl ?_
  refine go_iload_n dX7_contrary_17 rfl ?_
  refine go_icmp_ge 107 dX7_contrary_18 (by decide) (fun c => ?_) (fun c => ?_)
  · have h := h.1 c
    refine go_iinc dX7_contrary_107 rfl (Nat.le_of_ble_eq_true rfl) rfl ?_
    have h := h _ rfl
    refine go_goto 2 dX7_contrary_110 (by decide) ?_
    refine go_drop 2 ?_
    exact h
  · have h := h.2 c
    refine go_sipush (v := 374) dX7_contrary_21 (by decide) ?_
    refine go_iconst (v := 3) dX7_contrary_24 (by decide) ?_
    refine go_iload_n dX7_contrary_25 rfl ?_
    refine go_imul dX7_contrary_26 ?_
    refine go_iadd dX7_contrary_27 ?_
    refine go_istore_n dX7_contrary_28 (Nat.le_of_ble_eq_true rfl) rfl ?_
    have h := h _ rfl
    refine go_sipush (v := 374) dX7_contrary_29 (by decide) ?_
    refine go_iconst (v := 3) dX7_contrary_32 (by decide) ?_
    refine go_iload_n dX7_contrary_33 rfl ?_
    refine go_imul dX7_contrary_34 ?_
    refine go_iadd dX7_contrary_35 ?_
    refine go_istore dX7_contrary_36 (Nat.le_of_ble_eq_true rfl) rfl ?_
    have h := h _ rfl
    refine go_aload_n dX7_contrary_38 rfl ?_
    refine go_getR dX7_contrary_39 fX7_7 rfl rfl (hR 310 0 311 rfl) ?_
    refine go_iload_n dX7_contrary_42 rfl ?_
    obtain ⟨hi, h⟩ := h
    refine go_iald dX7_contrary_43 rfl hi ?_
    refine go_aload_n dX7_contrary_44 rfl ?_
    refine go_getR dX7_contrary_45 fX7_7 rfl rfl (hR 310 0 311 rfl) ?_
    refine go_iload dX7_contrary_48 rfl ?_
    obtain ⟨hi, h⟩ := h
    refine go_iald dX7_contrary_50 rfl hi ?_
    refine go_icmp_ne 101 dX7_contrary_51 (by decide) (fun c => ?_) (fun c => ?_)
    · have h := h.1 c
      refine go_iinc dX7_contrary_101 rfl (Nat.le_of_ble_eq_true rfl) rfl ?_
      have h := h _ rfl
      refine go_goto 16 dX7_contrary_104 (by decide) ?_
      refine go_drop 3 ?_
      refine go_drop 4 ?_
      exact h
    · have h := h.2 c
      refine go_aload_n dX7_contrary_54 rfl ?_
      refine go_getR dX7_contrary_55 fX7_7 rfl rfl (hR 310 0 311 rfl) ?_
      refine go_iload_n dX7_contrary_58 rfl ?_
      refine go_iconst (v := 1) dX7_contrary_59 (by decide) ?_
      refine go_iadd dX7_contrary_60 ?_
      obtain ⟨hi, h⟩ := h
      refine go_iald dX7_contrary_61 rfl hi ?_
      refine go_aload_n dX7_contrary_62 rfl ?_
      refine go_getR dX7_contrary_63 fX7_7 rfl rfl (hR 310 0 311 rfl) ?_
      refine go_iload dX7_contrary_66 rfl ?_
      refine go_iconst (v := 1) dX7_contrary_68 (by decide) ?_
      refine go_iadd dX7_contrary_69 ?_
      obtain ⟨hi, h⟩ := h
      refine go_iald dX7_contrary_70 rfl hi ?_
      refine go_icmp_ne 101 dX7_contrary_71 (by decide) (fun c => ?_) (fun c => ?_)
      · have h := h.1 c
        refine go_iinc dX7_contrary_101 rfl (Nat.le_of_ble_eq_true rfl) rfl ?_
        have h := h _ rfl
        refine go_goto 16 dX7_contrary_104 (by decide) ?_
        refine go_drop 3 ?_
        refine go_drop 4 ?_
        exact h
      · have h := h.2 c
        refine go_aload_n dX7_contrary_74 rfl ?_
        refine go_getR dX7_contrary_75 fX7_7 rfl rfl (hR 310 0 311 rfl) ?_
        refine go_iload_n dX7_contrary_78 rfl ?_
        refine go_iconst (v := 2) dX7_contrary_79 (by decide) ?_
        refine go_iadd dX7_contrary_80 ?_
        obtain ⟨hi, h⟩ := h
        refine go_iald dX7_contrary_81 rfl hi ?_
        refine go_aload_n dX7_contrary_82 rfl ?_
        refine go_getR dX7_contrary_83 fX7_7 rfl rfl (hR 310 0 311 rfl) ?_
        refine go_iload dX7_contrary_86 rfl ?_
        refine go_iconst (v := 2) dX7_contrary_88 (by decide) ?_
        refine go_iadd dX7_contrary_89 ?_
        obtain ⟨hi, h⟩ := h
        refine go_iald dX7_contrary_90 rfl hi ?_
        refine go_icmp_eq 101 dX7_contrary_91 (by decide) (fun c => ?_) (fun c => ?_)
        · have h := h.1 c
          refine go_iinc dX7_contrary_101 rfl (Nat.le_of_ble_eq_true rfl) rfl ?_
          have h := h _ rfl
          refine go_goto 16 dX7_contrary_104 (by decide) ?_
          refine go_drop 3 ?_
          refine go_drop 4 ?_
          exact h
        · have h := h.2 c
          refine go_bipush (v := 30) dX7_contrary_94 (by decide) ?_
          refine go_iload_n dX7_contrary_96 rfl ?_
          refine go_imul dX7_contrary_97 ?_
          refine go_iload_n dX7_contrary_98 rfl ?_
          refine go_iadd dX7_contrary_99 ?_
          exact go_iret dX7_contrary_100 rfl rfl h
/-! verdicts that contradict -/
def ctD (f : Nat → Int32) (i j : Nat) : Bool := decide (f (374 + 3 * i) = f (374 + 3 * j)) && decide (f (374 + (3 * i + 1)) = f (374 + (3 * j + 1))) && !(decide (f (374 + (3 * i + 2)) = f (374 + (3 * j + 2))))
/-- of a later one the first earlier one -/
def ct1 (f : Nat → Int32) (j : Nat) : Nat → Nat → Option Int32
  | 0, _ => none
  | n + 1, i => if ctD f i j = true then some (nI (30 * i + j)) else ct1 f j n (i + 1)
def ctF (f : Nat → Int32) : Nat → Nat → Int32
  | 0, _ => -1
  | n + 1, j => match ct1 f j j 0 with
    | some v => v
    | none => ctF f n (j + 1)
theorem p_contrary {G : gG} {I : gI} {R : gR} {L : gL} {Q : gQ} (h : Rel I R) (hq : ∀ v I1 R1 L1, prom G mX7_contrary [.ref 310] (some (.int v)) I1 R1 L1 → Q (some (.int v)) SH I1 R1 L1) : Mt G mX6_contrary 30 0 0 [.ref 0] SH I R L Q := by
  have hF := h.1.1
  obtain ⟨co, sc, oh, ok⟩ := R_co h
  have o5 := ok.2.2.2.2.1
  have s5 := sc.2.2.2.2.1
  have s8 := sc.2.2.2.2.2.2.2
  have e373 : row (I 311) 110 263 = I 311 373 := rfl
  rw [e373] at o5 s5 s8
  have cN := ci o5.1
  have eN : I 311 373 = nI (I 311 373).toNatClampNeg := nI_of_toInt o5.1
  have o5' := o5.2
  generalize hNN : (I 311 373).toNatClampNeg = N at *
  have e4 : I 4 4 = nI N := s5.trans eN
  have i3 : ∀ k, 3 * nI k = nI (3 * k) := fun k => by rw [show (3 : Int32) = nI 3 from rfl, nI_mul]
  have r0 : ∀ k m, k < N → m < 3 → I 133 (3 * k + m) = I 311 (374 + (3 * k + m)) := fun k m hk hm => by
    have := s8 (3 * k + m) (by omega)
    rw [show row (I 311) 110 (264 + (3 * k + m)) = I 311 (374 + (3 * k + m)) from by unfold row; congr 1; omega] at this
    exact this
  have val : ∀ i j, 30 * nI i + nI j = nI (30 * i + j) := fun i j => by rw [show (30 : Int32) = nI 30 from rfl, nI_mul, nI_add]
  have inner : ∀ (j : Nat), j < N → ∀ n i, i + n = j → (∀ v, ct1 (I 311) j n i = some v → Q (some (.int v)) SH I R L) → (ct1 (I 311) j n i = none → Go G mX6_contrary 30 0 0 2 [some (.ref 0), some (.int (nI (j + 1))), none] [] SH I R L Q) → Go G mX6_contrary 30 0 0 24 [some (.ref 0), some (.int (nI j)), some (.int (nI i))] [] SH I R L Q := by
    intro j hj n
    induction n with
    | zero =>
      intro i e q1 q2
      refine b_X6_contrary_24 hF ⟨fun _ => ?_, fun c => absurd (by rw [show i = j by omega]; exact ti_le.mpr (Int.le_refl _)) c⟩
      rintro _ rfl
      rw [nI_1]; exact q2 rfl
    | succ n ih =>
      intro i e q1 q2
      refine b_X6_contrary_24 hF ⟨fun c => absurd c (nI_ge (by omega) (by omega)), fun _ => ⟨⟨nI_pos' (by omega), nI_lt (b := 30) (by omega) (by decide)⟩, ⟨nI_pos' (by omega), nI_lt (b := 30) (by omega) (by decide)⟩, ?_⟩⟩
      rw [i3, i3, show nI (3 * i) + 1 = nI (3 * i + 1) from nI_add _ 1, show nI (3 * j) + 1 = nI (3 * j + 1) from nI_add _ 1, show nI (3 * i) + 2 = nI (3 * i + 2) from nI_add _ 2, show nI (3 * j) + 2 = nI (3 * j + 2) from nI_add _ 2, nI_clamp (by omega), nI_clamp (by omega), nI_clamp (by omega), nI_clamp (by omega), nI_clamp (by omega), nI_clamp (by omega), show I 133 (3 * i) = _ from r0 i 0 (by omega) (by decide), show I 133 (3 * j) = _ from r0 j 0 hj (by decide), r0 i 1 (by omega) (by decide), r0 j 1 hj (by decide), r0 i 2 (by omega) (by decide), r0 j 2 hj (by decide)]
      have ed : (I 311 (374 + (3 * i + 0)) = I 311 (374 + (3 * j + 0)) ∧ I 311 (374 + (3 * i + 1)) = I 311 (374 + (3 * j + 1)) ∧ ¬ I 311 (374 + (3 * i + 2)) = I 311 (374 + (3 * j + 2))) ↔ ctD (I 311) i j = true := by
        unfold ctD; simp [and_assoc]
      rw [ed]
      simp only [ct1] at q1 q2
      refine ⟨fun c => ?_, fun c => ?_⟩
      · rintro _ rfl
        rw [if_neg c] at q1 q2
        rw [nI_1]; exact ih (i + 1) (by omega) q1 q2
      · rw [val]
        rw [if_pos c] at q1
        exact q1 _ rfl
  have outer : ∀ n j, j + n = N ∨ (N = 0 ∧ n = 0 ∧ j = 1) → Q (some (.int (ctF (I 311) n j))) SH I R L → Go G mX6_contrary 30 0 0 2 [some (.ref 0), some (.int (nI j)), none] [] SH I R L Q := by
    intro n
    induction n with
    | zero => intro j e q; exact b_X6_contrary_2 hF ⟨fun _ => q, fun c => absurd (by rw [e4]; exact nI_le (by omega) (by omega)) c⟩
    | succ n ih =>
      intro j e q
      simp only [ctF] at q
      refine b_X6_contrary_2 hF ⟨fun c => absurd c (by rw [e4]; exact nI_ge (by omega) (by omega)), fun _ => ⟨fun c => absurd c (nI_ge (b := 30) (by omega) (by decide)), fun _ => ?_⟩⟩
      refine inner j (by omega) j 0 (by omega) (fun v ev => ?_) (fun ev => ?_)
      · rw [ev] at q; exact q
      · rw [ev] at q; exact ih (j + 1) (by omega) q
  refine e_X6_contrary hF (outer (N - 1) 1 (by omega) (hq _ _ _ _ (fun Q2 h2 => e_X7_contrary hF ?_)))
  have i374 : ∀ k, (374 : Int32) + 3 * nI k = nI (374 + 3 * k) := fun k => by rw [i3]; exact nI_add 374 _
  have innerM : ∀ (j : Nat), j < N → ∀ n i, i + n = j → (∀ v, ct1 (I 311) j n i = some v → Q2 (some (.int v)) SH I R L) → (ct1 (I 311) j n i = none → Go G mX7_contrary 30 0 0 2 [some (.ref 310), some (.int (nI (j + 1))), none, none, none] [] SH I R L Q2) → Go G mX7_contrary 30 0 0 16 [some (.ref 310), some (.int (nI j)), some (.int (nI i)), none, none] [] SH I R L Q2 := by
    intro j hj n
    induction n with
    | zero =>
      intro i e q1 q2
      refine b_X7_contrary_16 hF ⟨fun _ => ?_, fun c => absurd (by rw [show i = j by omega]; exact ti_le.mpr (Int.le_refl _)) c⟩
      rintro _ rfl
      rw [nI_1]; exact q2 rfl
    | succ n ih =>
      intro i e q1 q2
      have vin : ∀ k, k < 1000 → vp_in (nI k) 11120 := fun k hk => vp_in_nI (by omega) (by decide)
      simp only [ct1] at q1 q2
      have no : ¬ ctD (I 311) i j = true → ∀ v : Int32, v = nI i + 1 → Go G mX7_contrary 30 0 0 16 [some (.ref 310), some (.int (nI j)), some (.int v), none, none] [] SH I R L Q2 := fun c v ev => by
        rw [if_neg c] at q1 q2
        rw [ev, nI_1]; exact ih (i + 1) (by omega) q1 q2
      refine b_X7_contrary_16 hF ⟨fun c => absurd c (nI_ge (by omega) (by omega)), fun _ => ?_⟩
      rintro _ rfl _ rfl
      rw [i374, i374, show nI (374 + 3 * i) + 1 = nI (374 + (3 * i + 1)) from nI_add _ 1, show nI (374 + 3 * j) + 1 = nI (374 + (3 * j + 1)) from nI_add _ 1, show nI (374 + 3 * i) + 2 = nI (374 + (3 * i + 2)) from nI_add _ 2, show nI (374 + 3 * j) + 2 = nI (374 + (3 * j + 2)) from nI_add _ 2, nI_clamp (by omega), nI_clamp (by omega), nI_clamp (by omega), nI_clamp (by omega), nI_clamp (by omega), nI_clamp (by omega)]
      refine ⟨vin _ (by omega), vin _ (by omega), fun c => no (by unfold ctD; simp [c]), fun c => ⟨vin _ (by omega), vin _ (by omega), fun c2 => no (by unfold ctD; simp [c2]), fun c2 => ⟨vin _ (by omega), vin _ (by omega), fun c3 => no (by unfold ctD; simp [c3]), fun c3 => ?_⟩⟩⟩
      rw [val]
      rw [if_pos (by unfold ctD; simp [c, c2, c3])] at q1
      exact q1 _ rfl
  have outerM : ∀ n j, j + n = N ∨ (N = 0 ∧ n = 0 ∧ j = 1) → Q2 (some (.int (ctF (I 311) n j))) SH I R L → Go G mX7_contrary 30 0 0 2 [some (.ref 310), some (.int (nI j)), none, none, none] [] SH I R L Q2 := by
    intro n
    induction n with
    | zero => intro j e q; exact b_X7_contrary_2 hF ⟨fun _ => q, fun c => absurd (by rw [eN]; exact nI_le (by omega) (by omega)) c⟩
    | succ n ih =>
      intro j e q
      simp only [ctF] at q
      refine b_X7_contrary_2 hF ⟨fun c => absurd c (by rw [eN]; exact nI_ge (by omega) (by omega)), fun _ => ?_⟩
      refine innerM j (by omega) j 0 (by omega) (fun v ev => ?_) (fun ev => ?_)
      · rw [ev] at q; exact q
      · rw [ev] at q; exact ih (j + 1) (by omega) q
  exact outerM (N - 1) 1 (by omega) (h2 _ _ _ h)
