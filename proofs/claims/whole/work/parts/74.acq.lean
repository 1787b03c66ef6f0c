theorem e_X6_acquitted {G : gG} {I : gI} {R : gR} {L : gL} {Q : gQ} {a b : Int32} (hR : g_Fx R) (h : (a = 0 ∨ a = 1 → ((I 0 9) = a → ∀ v3_1 : Int32, v3_1 = (I 1 8) → (¬ v3_1 = (-1) → (¬ b = (-1) → (¬ b = (-2) → (b < 0 → Q (some (.int (-3))) SH I R L) ∧ (¬ b < 0 → (v3_1 ≤ b → Q (some (.int (-3))) SH I R L) ∧ (¬ v3_1 ≤ b → (4 ≤ b → Q (some (.int (-3))) SH I R L) ∧ (¬ 4 ≤ b → vp_in b 4 ∧ (Q (some (.int (I 173 b.toNatClampNeg))) SH I R L))))) ∧ (b = (-2) → Q (some (.int (I 1 9))) SH I R L)) ∧ (b = (-1) → Q (some (.int v3_1)) SH I R L)) ∧ (v3_1 = (-1) → Q (some (.int (-3))) SH I R L)) ∧ (¬ (I 0 9) = a → skP I a ∧ (∀ I_9 : gI, skQ I a I_9 → ∀ I_10 : gI, I_10 = up I_9 0 9 a → ∀ v3_11 : Int32, v3_11 = (I_10 1 8) → (¬ v3_11 = (-1) → (¬ b = (-1) → (¬ b = (-2) → (b < 0 → Q (some (.int (-3))) SH I_10 R L) ∧ (¬ b < 0 → (v3_11 ≤ b → Q (some (.int (-3))) SH I_10 R L) ∧ (¬ v3_11 ≤ b → (4 ≤ b → Q (some (.int (-3))) SH I_10 R L) ∧ (¬ 4 ≤ b → vp_in b 4 ∧ (Q (some (.int (I_10 173 b.toNatClampNeg))) SH I_10 R L))))) ∧ (b = (-2) → Q (some (.int (I_10 1 9))) SH I_10 R L)) ∧ (b = (-1) → Q (some (.int v3_11)) SH I_10 R L)) ∧ (v3_11 = (-1) → Q (some (.int (-3))) SH I_10 R L)))) ∧ (¬ (a = 0 ∨ a = 1) → Q (some (.int (-3))) SH I R L)) : Mt G mX6_acquitted 30 0 0 [.ref 0, .int a, .int b] SH I R L Q := by
  refine go_start rfl (Nat.le_of_ble_eq_true rfl) rfl ?_
  refine go_iload_n dX6_acquitted_0 rfl ?_
  refine go_callS0 (μ := mX6_acquitted) [.int _] dX6_acquitted_1 YX6_isSide lX6_58 rfl (Nat.le_of_ble_eq_true rfl) (Nat.le_of_ble_eq_true rfl) rfl (k_X6_isSide hR ?_)
  refine go_if_ne 10 dX6_acquitted_4 (by decide) (fun c => ?_) (fun c => ?_)
  · have h := h.1 (b1.mp c)
    refine go_aload_n dX6_acquitted_10 rfl ?_
    refine go_getI dX6_acquitted_11 fX6_55 rfl rfl ?_
    refine go_iload_n dX6_acquitted_14 rfl ?_
    refine go_icmp_eq 31 dX6_acquitted_15 (by decide) (fun c => ?_) (fun c => ?_)
    · have h := h.1 c
      refine go_aload_n dX6_acquitted_31 rfl ?_
      refine go_getR dX6_acquitted_32 fX6_10 rfl rfl (hR 0 0 1 rfl) ?_
      refine go_getI dX6_acquitted_35 fX6_211 rfl rfl ?_
      refine go_istore_n dX6_acquitted_38 (Nat.le_of_ble_eq_true rfl) rfl ?_
      have h := h _ rfl
      refine go_iload_n dX6_acquitted_39 rfl ?_
      refine go_iconst (v := -1) dX6_acquitted_40 (by decide) ?_
      refine go_icmp_ne 47 dX6_acquitted_41 (by decide) (fun c => ?_) (fun c => ?_)
      · have h := h.1 c
        refine go_iload_n dX6_acquitted_47 rfl ?_
        refine go_iconst (v := -1) dX6_acquitted_48 (by decide) ?_
        refine go_icmp_ne 54 dX6_acquitted_49 (by decide) (fun c => ?_) (fun c => ?_)
        · have h := h.1 c
          refine go_iload_n dX6_acquitted_54 rfl ?_
          refine go_bipush (v := -2) dX6_acquitted_55 (by decide) ?_
          refine go_icmp_ne 68 dX6_acquitted_57 (by decide) (fun c => ?_) (fun c => ?_)
          · have h := h.1 c
            refine go_iload_n dX6_acquitted_68 rfl ?_
            refine go_if_lt 94 dX6_acquitted_69 (by decide) (fun c => ?_) (fun c => ?_)
            · have h := h.1 c
              refine go_bipush (v := -3) dX6_acquitted_94 (by decide) ?_
              exact go_iret dX6_acquitted_96 rfl rfl h
            · have h := h.2 c
              refine go_iload_n dX6_acquitted_72 rfl ?_
              refine go_iload_n dX6_acquitted_73 rfl ?_
              refine go_icmp_ge 94 dX6_acquitted_74 (by decide) (fun c => ?_) (fun c => ?_)
              · have h := h.1 c
                refine go_bipush (v := -3) dX6_acquitted_94 (by decide) ?_
                exact go_iret dX6_acquitted_96 rfl rfl h
              · have h := h.2 c
                refine go_iload_n dX6_acquitted_77 rfl ?_
                refine go_iconst (v := 4) dX6_acquitted_78 (by decide) ?_
                refine go_icmp_ge 94 dX6_acquitted_79 (by decide) (fun c => ?_) (fun c => ?_)
                · have h := h.1 c
                  refine go_bipush (v := -3) dX6_acquitted_94 (by decide) ?_
                  exact go_iret dX6_acquitted_96 rfl rfl h
                · have h := h.2 c
                  refine go_aload_n dX6_acquitted_82 rfl ?_
                  refine go_getR dX6_acquitted_83 fX6_10 rfl rfl (hR 0 0 1 rfl) ?_
                  refine go_getR dX6_acquitted_86 fX6_217 rfl rfl (hR 1 7 173 rfl) ?_
                  refine go_iload_n dX6_acquitted_89 rfl ?_
                  obtain ⟨hi, h⟩ := h
                  refine go_iald dX6_acquitted_90 rfl hi ?_
                  refine go_goto 96 dX6_acquitted_91 (by decide) ?_
                  exact go_iret dX6_acquitted_96 rfl rfl h
          · have h := h.2 c
            refine go_aload_n dX6_acquitted_60 rfl ?_
            refine go_getR dX6_acquitted_61 fX6_10 rfl rfl (hR 0 0 1 rfl) ?_
            refine go_getI dX6_acquitted_64 fX6_214 rfl rfl ?_
            exact go_iret dX6_acquitted_67 rfl rfl h
        · have h := h.2 c
          refine go_iload_n dX6_acquitted_52 rfl ?_
          exact go_iret dX6_acquitted_53 rfl rfl h
      · have h := h.2 c
        refine go_bipush (v := -3) dX6_acquitted_44 (by decide) ?_
        exact go_iret dX6_acquitted_46 rfl rfl h
    · have h := h.2 c
      refine go_aload_n dX6_acquitted_18 rfl ?_
      refine go_getR dX6_acquitted_19 fX6_10 rfl rfl (hR 0 0 1 rfl) ?_
      refine go_iload_n dX6_acquitted_22 rfl ?_
      obtain ⟨hp_8, h⟩ := h
      refine go_callV0 (μ := mX6_acquitted) [.int _] dX6_acquitted_23 YX5_seekAcquittal lX6_208 rfl ⟨_, rfl, rfl⟩ rfl (Nat.le_of_ble_eq_true rfl) (Nat.le_of_ble_eq_true rfl) rfl (k_X5_seekAcquittal hR hp_8 (fun I_9 hq => ?_))
      have h := h I_9 hq
      refine go_aload_n dX6_acquitted_26 rfl ?_
      refine go_iload_n dX6_acquitted_27 rfl ?_
      refine go_putI dX6_acquitted_28 fX6_55 rfl rfl rfl rfl ?_
      have h := h _ rfl
      refine go_aload_n dX6_acquitted_31 rfl ?_
      refine go_getR dX6_acquitted_32 fX6_10 rfl rfl (hR 0 0 1 rfl) ?_
      refine go_getI dX6_acquitted_35 fX6_211 rfl rfl ?_
      refine go_istore_n dX6_acquitted_38 (Nat.le_of_ble_eq_true rfl) rfl ?_
      have h := h _ rfl
      refine go_iload_n dX6_acquitted_39 rfl ?_
      refine go_iconst (v := -1) dX6_acquitted_40 (by decide) ?_
      refine go_icmp_ne 47 dX6_acquitted_41 (by decide) (fun c => ?_) (fun c => ?_)
      · have h := h.1 c
        refine go_iload_n dX6_acquitted_47 rfl ?_
        refine go_iconst (v := -1) dX6_acquitted_48 (by decide) ?_
        refine go_icmp_ne 54 dX6_acquitted_49 (by decide) (fun c => ?_) (fun c => ?_)
        · have h := h.1 c
          refine go_iload_n dX6_acquitted_54 rfl ?_
          refine go_bipush (v := -2) dX6_acquitted_55 (by decide) ?_
          refine go_icmp_ne 68 dX6_acquitted_57 (by decide) (fun c => ?_) (fun c => ?_)
          · have h := h.1 c
            refine go_iload_n dX6_acquitted_68 rfl ?_
            refine go_if_lt 94 dX6_acquitted_69 (by decide) (fun c => ?_) (fun c => ?_)
            · have h := h.1 c
              refine go_bipush (v := -3) dX6_acquitted_94 (by decide) ?_
              exact go_iret dX6_acquitted_96 rfl rfl h
            · have h := h.2 c
              refine go_iload_n dX6_acquitted_72 rfl ?_
              refine go_iload_n dX6_acquitted_73 rfl ?_
              refine go_icmp_ge 94 dX6_acquitted_74 (by decide) (fun c => ?_) (fun c => ?_)
              · have h := h.1 c
                refine go_bipush (v := -3) dX6_acquitted_94 (by decide) ?_
                exact go_iret dX6_acquitted_96 rfl rfl h
              · have h := h.2 c
                refine go_iload_n dX6_acquitted_77 rfl ?_
                refine go_iconst (v := 4) dX6_acquitted_78 (by decide) ?_
                refine go_icmp_ge 94 dX6_acquitted_79 (by decide) (fun c => ?_) (fun c => ?_)
                · have h := h.1 c
                  refine go_bipush (v := -3) dX6_acquitted_94 (by decide) ?_
                  exact go_iret dX6_acquitted_96 rfl rfl h
                · have h := h.2 c
                  refine go_aload_n dX6_acquitted_82 rfl ?_
                  refine go_getR dX6_acquitted_83 fX6_10 rfl rfl (hR 0 0 1 rfl) ?_
                  refine go_getR dX6_acquitted_86 fX6_217 rfl rfl (hR 1 7 173 rfl) ?_
                  refine go_iload_n dX6_acquitted_89 rfl ?_
                  obtain ⟨hi, h⟩ := h
                  refine go_iald dX6_acquitted_90 rfl hi ?_
                  refine go_goto 96 dX6_acquitted_91 (by decide) ?_
                  exact go_iret dX6_acquitted_96 rfl rfl h
          · have h := h.2 c
            refine go_aload_n dX6_acquitted_60 rfl ?_
            refine go_getR dX6_acquitted_61 fX6_10 rfl rfl (hR 0 0 1 rfl) ?_
            refine go_getI dX6_acquitted_64 fX6_214 rfl rfl ?_
            exact go_iret dX6_acquitted_67 rfl rfl h
        · have h := h.2 c
          refine go_iload_n dX6_acquitted_52 rfl ?_
          exact go_iret dX6_acquitted_53 rfl rfl h
      · have h := h.2 c
        refine go_bipush (v := -3) dX6_acquitted_44 (by decide) ?_
        exact go_iret dX6_acquitted_46 rfl rfl h
  · have h := h.2 (b0.mp c)
    refine go_bipush (v := -3) dX6_acquitted_7 (by decide) ?_
    exact go_iret dX6_acquitted_9 rfl rfl h
theorem e_X7_acquitted {G : gG} {I : gI} {R : gR} {L : gL} {Q : gQ} {a b : Int32} (hR : g_Fx R) (h : (¬ (a = 0 ∨ a = 1) → Q (some (.int (-3))) SH I R L) ∧ (a = 0 ∨ a = 1 → ((-2) ≤ b → Go G mX7_acquitted 21 0 0 18 [some (.ref 310), some (.int a), some (.int b), some (.int 0)] [] SH I R L Q) ∧ (¬ (-2) ≤ b → Q (some (.int (-3))) SH I R L))) : Mt G mX7_acquitted 21 0 0 [.ref 310, .int a, .int b] SH I R L Q := by
  refine go_start rfl (Nat.le_of_ble_eq_true rfl) rfl ?_
  refine go_iload_n dX7_acquitted_0 rfl ?_
  refine go_callS0 (μ := mX7_acquitted) [.int _] dX7_acquitted_1 YX7_isOne lX7_114 rfl (Nat.le_of_ble_eq_true rfl) (Nat.le_of_ble_eq_true rfl) rfl (k_X7_isOne hR ?_)
  refine go_if_eq 13 dX7_acquitted_4 (by decide) (fun c => ?_) (fun c => ?_)
  · have h := h.1 (b0.mp c)
    refine go_bipush (v := -3) dX7_acquitted_13 (by decide) ?_
    exact go_iret dX7_acquitted_15 rfl rfl h
  · have h := h.2 (b1.mp c)
    refine go_iload_n dX7_acquitted_7 rfl ?_
    refine go_bipush (v := -2) dX7_acquitted_8 (by decide) ?_
    refine go_icmp_ge 16 dX7_acquitted_10 (by decide) (fun c => ?_) (fun c => ?_)
    · have h := h.1 c
      refine go_iconst (v := 0) dX7_acquitted_16 (by decide) ?_
      refine go_istore_n dX7_acquitted_17 (Nat.le_of_ble_eq_true rfl) rfl ?_
      exact h
    · have h := h.2 c
      refine go_bipush (v := -3) dX7_acquitted_13 (by decide) ?_
      exact go_iret dX7_acquitted_15 rfl rfl h
theorem b_X7_acquitted_18 {G : gG} {I : gI} {R : gR} {L : gL} {Q : gQ} {v1 v2 v3 : Int32} (hR : g_Fx R) (h : (5 ≤ v3 → Go G mX7_acquitted 21 0 0 38 [some (.ref 310), none, some (.int v2), some (.int v3)] [] SH I R L Q) ∧ (¬ 5 ≤ v3 → Mt G mX7_acquits 20 0 0 [.ref 310, .int v1, .int v3] SH I R L (fun r S' I' R' L' => Go G mX7_acquitted 21 0 0 29 [some (.ref 310), some (.int v1), some (.int v2), some (.int v3)] (r.toList ++ []) S' I' R' L' Q))) : Go G mX7_acquitted 21 0 0 18 [some (.ref 310), some (.int v1), some (.int v2), some (.int v3)] [] SH I R L Q := by
  refine go_iload_n dX7_acquitted_18 rfl ?_
  refine go_iconst (v := 5) dX7_acquitted_19 (by decide) ?_
  refine go_icmp_ge 38 dX7_acquitted_20 (by decide) (fun c => ?_) (fun c => ?_)
  · have h := h.1 c
    refine go_drop 1 ?_
    exact h
  · have h := h.2 c
    refine go_aload_n dX7_acquitted_23 rfl ?_
    refine go_iload_n dX7_acquitted_24 rfl ?_
    refine go_iload_n dX7_acquitted_25 rfl ?_
    refine go_callV0 (μ := mX7_acquitted) [.int _, .int _] dX7_acquitted_26 YX7_acquits lX7_385 rfl ⟨_, rfl, rfl⟩ rfl (Nat.le_of_ble_eq_true rfl) (Nat.le_of_ble_eq_true rfl) rfl h
theorem b_X7_acquitted_38 {G : gG} {I : gI} {R : gR} {L : gL} {Q : gQ} {v2 v3 : Int32} (hR : g_Fx R) (h : (v3 = 5 → Q (some (.int (-3))) SH I R L) ∧ (¬ v3 = 5 → (v2 < v3 → (¬ v2 = (-1) → (¬ v2 = (-2) → vp_in v2 4 ∧ (Q (some (.int (I 339 v2.toNatClampNeg))) SH I R L)) ∧ (v2 = (-2) → Q (some (.int (I 310 47))) SH I R L)) ∧ (v2 = (-1) → Q (some (.int v3)) SH I R L)) ∧ (¬ v2 < v3 → Q (some (.int (-3))) SH I R L))) : Go G mX7_acquitted 21 0 0 38 [some (.ref 310), none, some (.int v2), some (.int v3)] [] SH I R L Q := by
  refine go_iload_n dX7_acquitted_38 rfl ?_
  refine go_iconst (v := 5) dX7_acquitted_39 (by decide) ?_
  refine go_icmp_eq 48 dX7_acquitted_40 (by decide) (fun c => ?_) (fun c => ?_)
  · have h := h.1 c
    refine go_bipush (v := -3) dX7_acquitted_48 (by decide) ?_
    exact go_iret dX7_acquitted_50 rfl rfl h
  · have h := h.2 c
    refine go_iload_n dX7_acquitted_43 rfl ?_
    refine go_iload_n dX7_acquitted_44 rfl ?_
    refine go_icmp_lt 51 dX7_acquitted_45 (by decide) (fun c => ?_) (fun c => ?_)
    · have h := h.1 c
      refine go_iload_n dX7_acquitted_51 rfl ?_
      refine go_iconst (v := -1) dX7_acquitted_52 (by decide) ?_
      refine go_icmp_ne 60 dX7_acquitted_53 (by decide) (fun c => ?_) (fun c => ?_)
      · have h := h.1 c
        refine go_iload_n dX7_acquitted_60 rfl ?_
        refine go_bipush (v := -2) dX7_acquitted_61 (by decide) ?_
        refine go_icmp_ne 73 dX7_acquitted_63 (by decide) (fun c => ?_) (fun c => ?_)
        · have h := h.1 c
          refine go_aload_n dX7_acquitted_73 rfl ?_
          refine go_getR dX7_acquitted_74 fX7_103 rfl rfl (hR 310 46 339 rfl) ?_
          refine go_iload_n dX7_acquitted_77 rfl ?_
          obtain ⟨hi, h⟩ := h
          refine go_iald dX7_acquitted_78 rfl hi ?_
          exact go_iret dX7_acquitted_79 rfl rfl h
        · have h := h.2 c
          refine go_aload_n dX7_acquitted_66 rfl ?_
          refine go_getI dX7_acquitted_67 fX7_382 rfl rfl ?_
          refine go_goto 79 dX7_acquitted_70 (by decide) ?_
          exact go_iret dX7_acquitted_79 rfl rfl h
      · have h := h.2 c
        refine go_iload_n dX7_acquitted_56 rfl ?_
        refine go_goto 79 dX7_acquitted_57 (by decide) ?_
        exact go_iret dX7_acquitted_79 rfl rfl h
    · have h := h.2 c
      refine go_bipush (v := -3) dX7_acquitted_48 (by decide) ?_
      exact go_iret dX7_acquitted_50 rfl rfl h
theorem b_X7_acquitted_29 {G : gG} {I : gI} {R : gR} {L : gL} {Q : gQ} {v1 v2 v3 s0 : Int32} (hR : g_Fx R) (h : (¬ s0 = 0 → Go G mX7_acquitted 21 0 0 38 [some (.ref 310), none, some (.int v2), some (.int v3)] [] SH I R L Q) ∧ (s0 = 0 → ∀ v3_8 : Int32, v3_8 = v3 + 1 → Go G mX7_acquitted 21 0 0 18 [some (.ref 310), some (.int v1), some (.int v2), some (.int v3_8)] [] SH I R L Q)) : Go G mX7_acquitted 21 0 0 29 [some (.ref 310), some (.int v1), some (.int v2), some (.int v3)] [.int s0] SH I R L Q := by
  refine go_if_ne 38 dX7_acquitted_29 (by decide) (fun c => ?_) (fun c => ?_)
  · have h := h.1 c
    refine go_drop 1 ?_
    exact h
  · have h := h.2 c
    refine go_iinc dX7_acquitted_32 rfl (Nat.le_of_ble_eq_true rfl) rfl ?_
    have h := h _ rfl
    refine go_goto 18 dX7_acquitted_35 (by decide) ?_
    exact h
/-- what the plain form finds is the best -/
theorem m_acquitted {G : gG} {I J : gI} {R : gR} {L : gL} {Q : gQ} {E σ : Nat} {b : Int32} {n hh : Int} {f : Nat → Int} (h : Rel J R) (hE : E ≤ 9) (e1 : J 311 0 = nI E) (hσ : σ < 2) (oDn : okDn 0 (dyC I 4)) (oI : okI I) (hT : eqT (thC I) (thM J)) (hD : eqD (dyC I 4) (dyF (J 311))) (aq : aqA (thC I) (dyC I 4) E σ (J 311 373).toInt n hh f) (hb : -2 ≤ b.toInt)
    (q : ∀ K L1 v, mo3 J K → (n = -1 → v = -3) → (0 ≤ n → n ≤ b.toInt → v = -3) → (0 ≤ n → b = -1 → v.toInt = n) → (0 ≤ n → b = -2 → v.toInt = hh) → (0 ≤ n → 0 ≤ b.toInt → b.toInt < n → v.toInt = f b.toNatClampNeg) → Q (some (.int v)) SH K R L1) :
    Mt G mX7_acquitted 21 0 0 [.ref 310, .int (nI σ), .int b] SH J R L Q := by
  have hF := h.1.1
  have z1 : (-1 : Int32).toInt = -1 := rfl
  have z2 : (-2 : Int32).toInt = -2 := rfl
  refine e_X7_acquitted hF ⟨fun c => absurd (show nI σ = 0 ∨ nI σ = 1 by rcases (show σ = 0 ∨ σ = 1 by omega) with rfl | rfl; exact Or.inl rfl; exact Or.inr rfl) c, fun _ => ⟨fun _ => ?_, fun c => absurd (ti_le.mpr (by rw [z2]; exact hb)) c⟩⟩
  have loop : ∀ k g (K : gI) (L1 : gL), g + k = 5 → mo3 J K → (∀ l' h', l'.length < g → ¬ gdA (thC I) (dyC I 4) E σ (J 311 373).toInt l' h') → Go G mX7_acquitted 21 0 0 18 [some (.ref 310), some (.int (nI σ)), some (.int b), some (.int (nI g))] [] SH K R L1 Q := by
    intro k
    induction k with
    | zero =>
      intro g K L1 e kx no
      have hg : g = 5 := by omega
      subst hg
      have hn : n = -1 := by
        rcases aq with ⟨a, -⟩ | ⟨a1, a2, ⟨a3, a4, -⟩, -⟩
        · exact a
        · exact absurd a4 (no _ _ (by rw [a3]; omega))
      refine b_X7_acquitted_18 hF ⟨fun _ => b_X7_acquitted_38 hF ⟨fun _ => q K L1 _ kx (fun _ => rfl) (fun z => by omega) (fun z => by omega) (fun z => by omega) (fun z => by omega), fun c => absurd rfl c⟩, fun c => absurd (by decide) c⟩
    | succ k ih =>
      intro g K L1 e kx no
      have k11 : K 311 = J 311 := kx.1 311 (by decide) (by decide)
      have tM := mo3_th kx
      refine b_X7_acquitted_18 hF ⟨fun c => absurd c (nI_ge (b := 5) (by omega) (by decide)), fun _ => ?_⟩
      refine m_acquits (I := I) (mo3_Rel h kx) hE (by rw [k11]; exact e1) (by omega) hσ oDn oI (by rw [tM.1]; exact hT) (by rw [k11]; exact hD) (fun nn K2 L2 k2 => ?_) (fun hh2 l bs K2 L2 k2 k47 k339 => ?_)
      · rw [k11] at nn
        show Go G mX7_acquitted 21 0 0 _ _ [.int 0] SH K2 R L2 Q
        refine b_X7_acquitted_29 hF ⟨fun c => absurd rfl c, fun _ => ?_⟩
        rintro _ rfl
        rw [nI_1]
        refine ih (g + 1) K2 L2 (by omega) (mo3_tr kx k2) (fun l' h' hl hg => ?_)
        rcases Nat.lt_or_ge l'.length g with z | z
        · exact no l' h' z hg
        · exact nn l' h' (by omega) hg
      · rw [k11] at bs
        show Go G mX7_acquitted 21 0 0 _ _ [.int 1] SH K2 R L2 Q
        have em : (List.range ((g : Int).toNat)).map (fun k => (K2 339 k).toInt) = l := map_range (by rw [bs.1]; rfl) (fun i hi => k339 i hi)
        have aq2 : aqA (thC I) (dyC I 4) E σ (J 311 373).toInt g hh2 (fun k => (K2 339 k).toInt) := Or.inr ⟨by omega, by omega, by rw [em]; exact bs, fun l' h' hl => no l' h' (by simpa using hl)⟩
        obtain ⟨u1, u2⟩ := aqA_uni aq aq2
        obtain ⟨u3, u4⟩ := u2 (by omega)
        have kx2 := mo3_tr kx k2
        refine b_X7_acquitted_29 hF ⟨fun _ => b_X7_acquitted_38 hF ⟨fun c => absurd c (fun c => ?_), fun _ => ⟨fun c => ⟨fun c1 => ⟨fun c2 => ?_, fun c2 => ?_⟩, fun c1 => ?_⟩, fun c => ?_⟩⟩, fun c => absurd c (by decide)⟩
        · rw [show (5 : Int32) = nI 5 from rfl, nI_eq (by omega) (by decide)] at c; omega
        · rw [ti_lt, nI_toInt (by omega)] at c
          have n1 : ¬ b.toInt = -1 := fun z => c1 (ti_eq.mpr z)
          have n2 : ¬ b.toInt = -2 := fun z => c2 (ti_eq.mpr z)
          have cb := ci (x := b) (by omega)
          refine ⟨vp_in_iff.mpr ⟨by omega, by omega⟩, q K2 L2 _ kx2 (fun z => by omega) (fun _ z => by omega) (fun _ z => absurd z c1) (fun _ z => absurd z c2) (fun _ _ _ => ?_)⟩
          exact (u4 _ (by omega)).symm
        · exact q K2 L2 _ kx2 (fun z => by omega) (fun _ z => by rw [c2, z2] at z; omega) (fun _ z => absurd z c1) (fun _ _ => by rw [k47, u3]) (fun _ z => by rw [c2, z2] at z; omega)
        · exact q K2 L2 _ kx2 (fun z => by omega) (fun _ z => by rw [c1, z1] at z; omega) (fun _ _ => by rw [nI_toInt (by omega), u1]) (fun _ z => absurd (c1.symm.trans z) (by decide)) (fun _ z => by rw [c1, z1] at z; omega)
        · rw [ti_lt, nI_toInt (by omega)] at c
          exact q K2 L2 _ kx2 (fun z => by omega) (fun _ _ => rfl) (fun _ z => absurd z (fun z => c (by rw [z, z1]; omega))) (fun _ z => absurd z (fun z => c (by rw [z, z2]; omega))) (fun _ _ z => by omega)
  exact loop 5 0 J L rfl (mo3_rfl J) (fun l' h' hl => by omega)
theorem p_acquitted {G : gG} {I : gI} {R : gR} {L : gL} {Q : gQ} {a b : Int32} (h : Rel I R) (hq : ∀ v I1 R1 L1, promD 21 G mX7_acquitted [.ref 310, .int a, .int b] (some (.int v)) I1 R1 L1 → Q (some (.int v)) SH I1 R1 L1) : Mt G mX6_acquitted 30 0 0 [.ref 0, .int a, .int b] SH I R L Q := by
  have hF := h.1.1
  obtain ⟨E, hE, e1, e2⟩ := R_n h
  obtain ⟨oDn, oI, oN, hT, hD⟩ := R_dn h
  obtain ⟨co, sc, oh, ok⟩ := R_co h
  have d4 : I 4 4 = I 311 373 := sc.2.2.2.2.1
  have hdn : 0 ≤ (I 311 373).toInt ∧ (I 311 373).toInt ≤ 30 := ok.2.2.2.2.1
  have z1 : (-1 : Int32).toInt = -1 := rfl
  have z2 : (-2 : Int32).toInt = -2 := rfl
  have z0 : (0 : Int32).toInt = 0 := rfl
  refine e_X6_acquitted hF ⟨fun d => ?_, fun d => hq _ _ _ _ (fun Q2 h2 => e_X7_acquitted hF ⟨fun _ => h2 _ _ _ h, fun c => absurd c d⟩)⟩
  obtain ⟨σ, hσ, eσ⟩ := bit01 d
  have aσ : a.toInt = σ := by rw [eσ, nI_toInt (by omega)]
  -- behind the search
  have fin : ∀ (J : gI), Rel J R → J 0 9 = a → thC J = thC I → dyC J 4 = dyC I 4 → J 311 = I 311 → thM J = thM I → J 3 6 = I 3 6 → J 4 4 = I 4 4 → ∀ v3 : Int32, v3 = J 1 8 → (¬ v3 = (-1) → (¬ b = (-1) → (¬ b = (-2) → (b < 0 → Q (some (.int (-3))) SH J R L) ∧ (¬ b < 0 → (v3 ≤ b → Q (some (.int (-3))) SH J R L) ∧ (¬ v3 ≤ b → (4 ≤ b → Q (some (.int (-3))) SH J R L) ∧ (¬ 4 ≤ b → vp_in b 4 ∧ (Q (some (.int (J 173 b.toNatClampNeg))) SH J R L))))) ∧ (b = (-2) → Q (some (.int (J 1 9))) SH J R L)) ∧ (b = (-1) → Q (some (.int v3)) SH J R L)) ∧ (v3 = (-1) → Q (some (.int (-3))) SH J R L) := by
    rintro J RJ j9 tC tD j11 tM j6 j4 _ rfl
    have sg : aqA (thC I) (dyC I 4) E σ (I 311 373).toInt (J 1 8).toInt (J 1 9).toInt (fun k => (J 173 k).toInt) := by
      rcases RJ.2 with z | ⟨-, z⟩
      · rw [j9] at z
        exact absurd z (by rw [eσ]; rcases (show σ = 0 ∨ σ = 1 by omega) with rfl | rfl <;> decide)
      · rw [tC, tD, j6, j9, j4, aσ, e2, nI_toInt (by omega), d4] at z
        exact z
    have m := fun (Q2 : gQ) (h2 : ∀ v, (∀ I2 R2 L2, Rel I2 R2 → Q2 v SH I2 R2 L2) → True) => True
    clear m
    have use : ∀ v : Int32, -2 ≤ b.toInt → (∀ w : Int32, ((J 1 8).toInt = -1 → w = -3) → (0 ≤ (J 1 8).toInt → (J 1 8).toInt ≤ b.toInt → w = -3) → (0 ≤ (J 1 8).toInt → b = -1 → w.toInt = (J 1 8).toInt) → (0 ≤ (J 1 8).toInt → b = -2 → w.toInt = (J 1 9).toInt) → (0 ≤ (J 1 8).toInt → 0 ≤ b.toInt → b.toInt < (J 1 8).toInt → w.toInt = (J 173 b.toNatClampNeg).toInt) → w = v) → Q (some (.int v)) SH J R L := fun v hb hw => hq _ _ _ _ (fun Q2 h2 => by
      rw [eσ]
      refine m_acquitted (I := I) RJ hE (by rw [j11]; exact e1) hσ oDn oI (by rw [tM]; exact hT) (by rw [j11]; exact hD) (by rw [j11]; exact sg) hb (fun K L1 w kx w1 w2 w3 w4 w5 => ?_)
      rw [hw w w1 w2 w3 w4 w5]; exact h2 _ _ _ (mo3_Rel RJ kx))
    have rng : (J 1 8).toInt = -1 ∨ (0 ≤ (J 1 8).toInt ∧ (J 1 8).toInt ≤ 4) := by
      rcases sg with ⟨z, -⟩ | ⟨z1, z2, -⟩
      · exact Or.inl z
      · exact Or.inr ⟨z1, z2⟩
    have small : ¬ (-2 ≤ b.toInt) → Q (some (.int (-3))) SH J R L := fun nb => hq _ _ _ _ (fun Q2 h2 => e_X7_acquitted hF ⟨fun _ => h2 _ _ _ RJ, fun _ => ⟨fun c => absurd (by rw [ti_le, z2] at c; exact c) nb, fun _ => h2 _ _ _ RJ⟩⟩)
    refine ⟨fun c1 => ⟨fun c2 => ⟨fun c3 => ⟨fun c4 => ?_, fun c4 => ⟨fun c5 => ?_, fun c5 => ⟨fun c6 => ?_, fun c6 => ?_⟩⟩⟩, fun c3 => ?_⟩, fun c2 => ?_⟩, fun c1 => ?_⟩
    · rw [ti_lt, z0] at c4
      have n1 : ¬ b.toInt = -1 := fun z => c2 (ti_eq.mpr z)
      have n2 : ¬ b.toInt = -2 := fun z => c3 (ti_eq.mpr z)
      exact small (by omega)
    · rw [ti_lt, z0] at c4
      rw [ti_le] at c5
      have n8 : ¬ (J 1 8).toInt = -1 := fun z => c1 (ti_eq.mpr z)
      exact use _ (by omega) (fun w _ w2 _ _ _ => w2 (by omega) c5)
    · rw [ti_lt, z0] at c4
      rw [ti_le] at c5 c6
      have e4 : (4 : Int32).toInt = 4 := rfl
      omega
    · rw [ti_lt, z0] at c4
      rw [ti_le] at c5 c6
      have e4 : (4 : Int32).toInt = 4 := rfl
      have n8 : ¬ (J 1 8).toInt = -1 := fun z => c1 (ti_eq.mpr z)
      exact ⟨vp_in_iff.mpr ⟨by omega, by show b.toInt < (4 : Int); omega⟩, use _ (by omega) (fun w _ _ _ _ w5 => ti_eq.mpr (w5 (by omega) (by omega) (by omega)))⟩
    · have n8 : ¬ (J 1 8).toInt = -1 := fun z => c1 (ti_eq.mpr z)
      exact use _ (by rw [c3, z2]; exact Int.le_refl _) (fun w _ _ _ w4 _ => ti_eq.mpr (w4 (by omega) c3))
    · have n8 : ¬ (J 1 8).toInt = -1 := fun z => c1 (ti_eq.mpr z)
      exact use _ (by rw [c2, z1]; decide) (fun w _ _ w3 _ _ => ti_eq.mpr (w3 (by omega) c2))
    · have n8 : (J 1 8).toInt = -1 := by rw [c1]; rfl
      by_cases nb : -2 ≤ b.toInt
      · exact use _ nb (fun w w1 _ _ _ _ => w1 n8)
      · exact small nb
  refine ⟨fun c => fin I h c rfl rfl rfl rfl rfl rfl, fun c => ⟨⟨oI, oDn, by rw [d4]; exact hdn, E, σ, e2, hE, eσ, hσ⟩, ?_⟩⟩
  rintro J9 ⟨k1, k2, k3⟩
  rintro _ rfl
  generalize hJ : up J9 0 9 a = J
  have jx : ∀ c, c ≠ 0 → c ≠ 1 → (c < 164 ∨ 173 < c) → J c = I c := fun c c0 c1 c2 => by rw [← hJ, up_off _ c0, k1 c c1 c2]
  have j0 : ∀ j, j ≠ 9 → J 0 j = I 0 j := fun j hj => by rw [← hJ, up_ni hj, k1 0 (by decide) (by decide)]
  have j9 : J 0 9 = a := by rw [← hJ, up_eq]
  have j1 : J 1 = J9 1 := by rw [← hJ, up_off _ (by decide)]
  have j173 : J 173 = J9 173 := by rw [← hJ, up_off _ (by decide)]
  have tC : thC J = thC I := thC_of (fun x hx => jx x (by omega) (by omega) (by omega))
  have tD : dyC J 4 = dyC I 4 := dyC_at (fun x x1 x2 => jx x (by omega) (by omega) (by omega))
  have j11 : J 311 = I 311 := jx 311 (by decide) (by decide) (by decide)
  have tM : thM J = thM I := (thM_congr j11 (jx _ (by decide) (by decide) (by decide)) (jx _ (by decide) (by decide) (by decide)) (jx _ (by decide) (by decide) (by decide)) (jx _ (by decide) (by decide) (by decide)) (jx _ (by decide) (by decide) (by decide))).2.1
  have j6 : J 3 6 = I 3 6 := by rw [jx 3 (by decide) (by decide) (by decide)]
  have j4 : J 4 4 = I 4 4 := by rw [jx 4 (by decide) (by decide) (by decide)]
  have RJ : Rel J R := by
    refine ⟨Rel0_same h.1 (kp_of (fun x a1 a2 a3 a4 a5 a6 a7 a8 a9 => jx x a1 (by omega) (by omega)) (j0 6 (by decide)) (j0 7 (by decide)) (j0 8 (by decide)) (by rw [jx 310 (by decide) (by decide) (by decide)]) (by rw [jx 310 (by decide) (by decide) (by decide)]) (by rw [jx 310 (by decide) (by decide) (by decide)])) hF rfl (fun x a1 a2 => jx x (by omega) (by omega) (by omega)) j11, Or.inr ⟨by rw [j9, aσ]; omega, ?_⟩⟩
    rw [tC, tD, j6, j9, j4, j1, j173]
    exact k3
  exact fin J RJ j9 tC tD j11 tM j6 j4
