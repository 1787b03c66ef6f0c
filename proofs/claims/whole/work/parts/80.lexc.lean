theorem e_X3_readSign {G : gG} {I : gI} {R : gR} {L : gL} {Q : gQ} (hR : g_Fx R) (h : vp_in (I 306 2) 300 ∧ ((0 ≤ (((I 307 (I 306 2).toNatClampNeg).toUInt32 % 65536).toInt32) ∧ (((I 307 (I 306 2).toNatClampNeg).toUInt32 % 65536).toInt32) ≤ 255) ∧ (∀ v1_2 : Int32, v1_2 = fndI (((I 307 (I 306 2).toNatClampNeg).toUInt32 % 65536).toInt32).toInt8.toInt32 0 11 → (0 ≤ v1_2 → Go G mX3_readSign 8 0 0 30 [some (.ref 306), none] [.int (24 + v1_2), .ref 306] SH I R L Q) ∧ (¬ 0 ≤ v1_2 → Go G mX3_readSign 8 0 0 30 [some (.ref 306), none] [.int 39, .ref 306] SH I R L Q)))) : Mt G mX3_readSign 8 0 0 [.ref 306] SH I R L Q := by
  refine go_start rfl (Nat.le_of_ble_eq_true rfl) rfl ?_
  refine go_ldcS90 rfl dX3_readSign_0 ?_
  refine go_aload_n dX3_readSign_2 rfl ?_
  refine go_getR dX3_readSign_3 fX3_9 rfl rfl (hR 306 0 307 rfl) ?_
  refine go_aload_n dX3_readSign_6 rfl ?_
  refine go_getI dX3_readSign_7 fX3_28 rfl rfl ?_
  obtain ⟨hi, h⟩ := h
  refine go_iald dX3_readSign_10 rfl hi ?_
  refine go_i2c dX3_readSign_11 ?_
  obtain ⟨hp_1, h⟩ := h
  refine go_callX4 (μ := mX3_readSign) [.int _] dX3_readSign_12 YJ0_indexOf_0f7a4 lX3_92 rfl rfl (Nat.le_of_ble_eq_true rfl) (Nat.le_of_ble_eq_true rfl) rfl (k4_J0_indexOf_0f7a4 hR hp_1 ?_)
  refine go_istore_n dX3_readSign_15 (Nat.le_of_ble_eq_true rfl) rfl ?_
  have h := h _ rfl
  refine go_aload_n dX3_readSign_16 rfl ?_
  refine go_iload_n dX3_readSign_17 rfl ?_
  refine go_if_ge 26 dX3_readSign_18 (by decide) (fun c => ?_) (fun c => ?_)
  · have h := h.1 c
    refine go_bipush (v := 24) dX3_readSign_26 (by decide) ?_
    refine go_iload_n dX3_readSign_28 rfl ?_
    refine go_iadd dX3_readSign_29 ?_
    refine go_drop 1 ?_
    exact h
  · have h := h.2 c
    refine go_bipush (v := 39) dX3_readSign_21 (by decide) ?_
    refine go_goto 30 dX3_readSign_23 (by decide) ?_
    refine go_drop 1 ?_
    exact h
theorem b_X3_readSign_30 {G : gG} {I : gI} {R : gR} {L : gL} {Q : gQ} {s1 : Int32} (hR : g_Fx R) (h : ∀ I_4 : gI, I_4 = up I 306 3 s1 → ∀ I_5 : gI, I_5 = up I_4 306 2 ((I_4 306 2) + 1) → ((I_5 306 3) = 24 → Go G mX3_readSign 8 0 0 61 [some (.ref 306), none] [] SH I_5 R L Q) ∧ (¬ (I_5 306 3) = 24 → (¬ (I_5 306 3) = 25 → Q none SH I_5 R L) ∧ ((I_5 306 3) = 25 → Go G mX3_readSign 8 0 0 61 [some (.ref 306), none] [] SH I_5 R L Q))) : Go G mX3_readSign 8 0 0 30 [some (.ref 306), none] [.int s1, .ref 306] SH I R L Q := by
  refine go_putI dX3_readSign_30 fX3_49 rfl rfl rfl rfl ?_
  have h := h _ rfl
  refine go_aload_n dX3_readSign_33 rfl ?_
  refine go_dup dX3_readSign_34 rfl ?_
  refine go_getI dX3_readSign_35 fX3_28 rfl rfl ?_
  refine go_iconst (v := 1) dX3_readSign_38 (by decide) ?_
  refine go_iadd dX3_readSign_39 ?_
  refine go_putI dX3_readSign_40 fX3_28 rfl rfl rfl rfl ?_
  have h := h _ rfl
  refine go_aload_n dX3_readSign_43 rfl ?_
  refine go_getI dX3_readSign_44 fX3_49 rfl rfl ?_
  refine go_bipush (v := 24) dX3_readSign_47 (by decide) ?_
  refine go_icmp_eq 61 dX3_readSign_49 (by decide) (fun c => ?_) (fun c => ?_)
  · have h := h.1 c
    exact h
  · have h := h.2 c
    refine go_aload_n dX3_readSign_52 rfl ?_
    refine go_getI dX3_readSign_53 fX3_49 rfl rfl ?_
    refine go_bipush (v := 25) dX3_readSign_56 (by decide) ?_
    refine go_icmp_ne 116 dX3_readSign_58 (by decide) (fun c => ?_) (fun c => ?_)
    · have h := h.1 c
      exact go_vret dX3_readSign_116 rfl rfl h
    · have h := h.2 c
      exact h
theorem b_X3_readSign_61 {G : gG} {I : gI} {R : gR} {L : gL} {Q : gQ} (hR : g_Fx R) (h : ((I 306 1) ≤ (I 306 2) → Q none SH I R L) ∧ (¬ (I 306 1) ≤ (I 306 2) → vp_in (I 306 2) 300 ∧ ((¬ (I 307 (I 306 2).toNatClampNeg) = 61 → Q none SH I R L) ∧ ((I 307 (I 306 2).toNatClampNeg) = 61 → (¬ (I 306 3) = 24 → ∀ I_8 : gI, I_8 = up I 306 3 36 → ∀ I_9 : gI, I_9 = up I_8 306 2 ((I_8 306 2) + 1) → Q none SH I_9 R L) ∧ ((I 306 3) = 24 → ∀ I_10 : gI, I_10 = up I 306 3 35 → ∀ I_11 : gI, I_11 = up I_10 306 2 ((I_10 306 2) + 1) → Q none SH I_11 R L))))) : Go G mX3_readSign 8 0 0 61 [some (.ref 306), none] [] SH I R L Q := by
  refine go_aload_n dX3_readSign_61 rfl ?_
  refine go_getI dX3_readSign_62 fX3_28 rfl rfl ?_
  refine go_aload_n dX3_readSign_65 rfl ?_
  refine go_getI dX3_readSign_66 fX3_24 rfl rfl ?_
  refine go_icmp_ge 116 dX3_readSign_69 (by decide) (fun c => ?_) (fun c => ?_)
  · have h := h.1 c
    exact go_vret dX3_readSign_116 rfl rfl h
  · have h := h.2 c
    refine go_aload_n dX3_readSign_72 rfl ?_
    refine go_getR dX3_readSign_73 fX3_9 rfl rfl (hR 306 0 307 rfl) ?_
    refine go_aload_n dX3_readSign_76 rfl ?_
    refine go_getI dX3_readSign_77 fX3_28 rfl rfl ?_
    obtain ⟨hi, h⟩ := h
    refine go_iald dX3_readSign_80 rfl hi ?_
    refine go_bipush (v := 61) dX3_readSign_81 (by decide) ?_
    refine go_icmp_ne 116 dX3_readSign_83 (by decide) (fun c => ?_) (fun c => ?_)
    · have h := h.1 c
      exact go_vret dX3_readSign_116 rfl rfl h
    · have h := h.2 c
      refine go_aload_n dX3_readSign_86 rfl ?_
      refine go_aload_n dX3_readSign_87 rfl ?_
      refine go_getI dX3_readSign_88 fX3_49 rfl rfl ?_
      refine go_bipush (v := 24) dX3_readSign_91 (by decide) ?_
      refine go_icmp_ne 101 dX3_readSign_93 (by decide) (fun c => ?_) (fun c => ?_)
      · have h := h.1 c
        refine go_bipush (v := 36) dX3_readSign_101 (by decide) ?_
        refine go_putI dX3_readSign_103 fX3_49 rfl rfl rfl rfl ?_
        have h := h _ rfl
        refine go_aload_n dX3_readSign_106 rfl ?_
        refine go_dup dX3_readSign_107 rfl ?_
        refine go_getI dX3_readSign_108 fX3_28 rfl rfl ?_
        refine go_iconst (v := 1) dX3_readSign_111 (by decide) ?_
        refine go_iadd dX3_readSign_112 ?_
        refine go_putI dX3_readSign_113 fX3_28 rfl rfl rfl rfl ?_
        have h := h _ rfl
        exact go_vret dX3_readSign_116 rfl rfl h
      · have h := h.2 c
        refine go_bipush (v := 35) dX3_readSign_96 (by decide) ?_
        refine go_goto 103 dX3_readSign_98 (by decide) ?_
        refine go_putI dX3_readSign_103 fX3_49 rfl rfl rfl rfl ?_
        have h := h _ rfl
        refine go_aload_n dX3_readSign_106 rfl ?_
        refine go_dup dX3_readSign_107 rfl ?_
        refine go_getI dX3_readSign_108 fX3_28 rfl rfl ?_
        refine go_iconst (v := 1) dX3_readSign_111 (by decide) ?_
        refine go_iadd dX3_readSign_112 ?_
        refine go_putI dX3_readSign_113 fX3_28 rfl rfl rfl rfl ?_
        have h := h _ rfl
        exact go_vret dX3_readSign_116 rfl rfl h
theorem e_X3_readNumber {G : gG} {I : gI} {R : gR} {L : gL} {Q : gQ} (hR : g_Fx R) (h : ∀ I_1 : gI, I_1 = up I 306 3 37 → ∀ I_2 : gI, I_2 = up I_1 306 5 0 → Go G mX3_readNumber 8 0 0 11 [some (.ref 306)] [] SH I_2 R L Q) : Mt G mX3_readNumber 8 0 0 [.ref 306] SH I R L Q := by
  refine go_start rfl (Nat.le_of_ble_eq_true rfl) rfl ?_
  refine go_aload_n dX3_readNumber_0 rfl ?_
  refine go_bipush (v := 37) dX3_readNumber_1 (by decide) ?_
  refine go_putI dX3_readNumber_3 fX3_49 rfl rfl rfl rfl ?_
  have h := h _ rfl
  refine go_aload_n dX3_readNumber_6 rfl ?_
  refine go_iconst (v := 0) dX3_readNumber_7 (by decide) ?_
  refine go_putI dX3_readNumber_8 fX3_87 rfl rfl rfl rfl ?_
  have h := h _ rfl
  exact h
theorem b_X3_readNumber_11 {G : gG} {I : gI} {R : gR} {L : gL} {Q : gQ} (hR : g_Fx R) (h : ((I 306 1) ≤ (I 306 2) → Q none SH I R L) ∧ (¬ (I 306 1) ≤ (I 306 2) → vp_in (I 306 2) 300 ∧ ((¬ (48 ≤ (I 307 (I 306 2).toNatClampNeg) ∧ (I 307 (I 306 2).toNatClampNeg) ≤ 57) → Q none SH I R L) ∧ (48 ≤ (I 307 (I 306 2).toNatClampNeg) ∧ (I 307 (I 306 2).toNatClampNeg) ≤ 57 → vp_in (I 306 2) 300 ∧ (∀ I_3 : gI, I_3 = up I 306 5 (if ((((I 306 5) * 10) + (I 307 (I 306 2).toNatClampNeg)) - 48) < 10000 then ((((I 306 5) * 10) + (I 307 (I 306 2).toNatClampNeg)) - 48) else 10000) → ∀ I_4 : gI, I_4 = up I_3 306 2 ((I_3 306 2) + 1) → Go G mX3_readNumber 8 0 0 11 [some (.ref 306)] [] SH I_4 R L Q))))) : Go G mX3_readNumber 8 0 0 11 [some (.ref 306)] [] SH I R L Q := by
  refine go_aload_n dX3_readNumber_11 rfl ?_
  refine go_getI dX3_readNumber_12 fX3_28 rfl rfl ?_
  refine go_aload_n dX3_readNumber_15 rfl ?_
  refine go_getI dX3_readNumber_16 fX3_24 rfl rfl ?_
  refine go_icmp_ge 80 dX3_readNumber_19 (by decide) (fun c => ?_) (fun c => ?_)
  · have h := h.1 c
    exact go_vret dX3_readNumber_80 rfl rfl h
  · have h := h.2 c
    refine go_aload_n dX3_readNumber_22 rfl ?_
    refine go_getR dX3_readNumber_23 fX3_9 rfl rfl (hR 306 0 307 rfl) ?_
    refine go_aload_n dX3_readNumber_26 rfl ?_
    refine go_getI dX3_readNumber_27 fX3_28 rfl rfl ?_
    obtain ⟨hi, h⟩ := h
    refine go_iald dX3_readNumber_30 rfl hi ?_
    refine go_callS0 (μ := mX3_readNumber) [.int _] dX3_readNumber_31 YX3_isDigit lX3_66 rfl (Nat.le_of_ble_eq_true rfl) (Nat.le_of_ble_eq_true rfl) rfl (k_X3_isDigit hR ?_)
    refine go_if_eq 80 dX3_readNumber_34 (by decide) (fun c => ?_) (fun c => ?_)
    · have h := h.1 (b0.mp c)
      exact go_vret dX3_readNumber_80 rfl rfl h
    · have h := h.2 (b1.mp c)
      refine go_aload_n dX3_readNumber_37 rfl ?_
      refine go_sipush (v := 10000) dX3_readNumber_38 (by decide) ?_
      refine go_aload_n dX3_readNumber_41 rfl ?_
      refine go_getI dX3_readNumber_42 fX3_87 rfl rfl ?_
      refine go_bipush (v := 10) dX3_readNumber_45 (by decide) ?_
      refine go_imul dX3_readNumber_47 ?_
      refine go_aload_n dX3_readNumber_48 rfl ?_
      refine go_getR dX3_readNumber_49 fX3_9 rfl rfl (hR 306 0 307 rfl) ?_
      refine go_aload_n dX3_readNumber_52 rfl ?_
      refine go_getI dX3_readNumber_53 fX3_28 rfl rfl ?_
      obtain ⟨hi, h⟩ := h
      refine go_iald dX3_readNumber_56 rfl hi ?_
      refine go_iadd dX3_readNumber_57 ?_
      refine go_bipush (v := 48) dX3_readNumber_58 (by decide) ?_
      refine go_isub dX3_readNumber_60 ?_
      refine go_mmin dX3_readNumber_61 lX3_18 ns_min ni_J9 nc_min (Nat.le_of_ble_eq_true rfl) (Nat.le_of_ble_eq_true rfl) ?_
      refine go_putI dX3_readNumber_64 fX3_87 rfl rfl rfl rfl ?_
      have h := h _ rfl
      refine go_aload_n dX3_readNumber_67 rfl ?_
      refine go_dup dX3_readNumber_68 rfl ?_
      refine go_getI dX3_readNumber_69 fX3_28 rfl rfl ?_
      refine go_iconst (v := 1) dX3_readNumber_72 (by decide) ?_
      refine go_iadd dX3_readNumber_73 ?_
      refine go_putI dX3_readNumber_74 fX3_28 rfl rfl rfl rfl ?_
      have h := h _ rfl
      refine go_goto 11 dX3_readNumber_77 (by decide) ?_
      exact h
theorem byL_i {c : Nat} (h : c ≤ 255) : ((97 ≤ nI c ∧ nI c ≤ 122) ∨ (65 ≤ nI c ∧ nI c ≤ 90)) ↔ byL c := by
  have e1 : (97 : Int32) ≤ nI c ↔ 97 ≤ c := nleI (a := 97) (by decide) (by omega)
  have e2 : nI c ≤ (122 : Int32) ↔ c ≤ 122 := nleI (b := 122) (by omega) (by decide)
  have e3 : (65 : Int32) ≤ nI c ↔ 65 ≤ c := nleI (a := 65) (by decide) (by omega)
  have e4 : nI c ≤ (90 : Int32) ↔ c ≤ 90 := nleI (b := 90) (by omega) (by decide)
  rw [e1, e2, e3, e4]
  exact Iff.rfl
theorem byD_i {c : Nat} (h : c ≤ 255) : (48 ≤ nI c ∧ nI c ≤ 57) ↔ byD c := by
  have e1 : (48 : Int32) ≤ nI c ↔ 48 ≤ c := nleI (a := 48) (by decide) (by omega)
  have e2 : nI c ≤ (57 : Int32) ↔ c ≤ 57 := nleI (b := 57) (by omega) (by decide)
  rw [e1, e2]
  exact Iff.rfl
theorem nI_e {c k : Nat} (h : c ≤ 255) (hk : k < 2 ^ 31) : nI c = nI k ↔ c = k := nI_eq (by omega) hk
theorem byCh : ∀ c, c < 256 → ((nI c).toUInt32 % 65536).toInt32 = nI c := by decide +kernel
theorem tpT_up {I : gI} {T : Nat → Nat} {n c i : Nat} {x : Int32} (h : tpT I T n) (hc : c ≠ 307) : tpT (up I c i x) T n := ⟨h.1, fun j hj => by rw [up_nc (Ne.symm hc)]; exact h.2 j hj⟩
theorem sgn_r (c : Nat) : (sgn c = 39 ∨ (24 ≤ sgn c ∧ sgn c ≤ 34)) ∧ (sgn c = 24 ↔ c = 60) ∧ (sgn c = 25 ↔ c = 62) := by
  unfold sgn
  repeat' split <;> first | omega | skip
theorem k_X3_readSign {G : gG} {I : gI} {R : gR} {L : gL} {Q : gQ} {T : Nat → Nat} {n p : Nat} (hR : g_Fx R) (hT : tpT I T n) (h1 : I 306 1 = nI n) (h2 : I 306 2 = nI p) (hp : p < n)
    (hq : ∀ tk a, (sg2 T n p ∧ tk = (if T p = 60 then 35 else 36) ∧ a = p + 2) ∨ (¬ sg2 T n p ∧ tk = sgn (T p) ∧ a = p + 1) → Q none SH (up (up I 306 2 (nI a)) 306 3 (nI tk)) R L) : Mt G mX3_readSign 8 0 0 [.ref 306] SH I R L Q := by
  have h3 := hT.1
  have hb := hT.2 p hp
  have main : ∀ s : Int32, s = nI (sgn (T p)) → Go G mX3_readSign 8 0 0 30 [some (.ref 306), none] [.int s, .ref 306] SH I R L Q := by
    rintro _ rfl
    have hs := sgn_r (T p)
    have e24 : nI (sgn (T p)) = 24 ↔ sgn (T p) = 24 := nI_eq (b := 24) (by omega) (by decide)
    have e25 : nI (sgn (T p)) = 25 ↔ sgn (T p) = 25 := nI_eq (b := 25) (by omega) (by decide)
    have no2 : ¬ sg2 T n p → Q none SH (up (up I 306 3 (nI (sgn (T p)))) 306 2 (nI (p + 1))) R L := fun c => by
      have := hq _ _ (Or.inr ⟨c, rfl, rfl⟩)
      rwa [show up (up I 306 2 (nI (p + 1))) 306 3 (nI (sgn (T p))) = up (up I 306 3 (nI (sgn (T p)))) 306 2 (nI (p + 1)) by funext c k; simp only [up]; grind] at this
    have go2 : (T p = 60 ∨ T p = 62) → Go G mX3_readSign 8 0 0 61 [some (.ref 306), none] [] SH (up (up I 306 3 (nI (sgn (T p)))) 306 2 (nI (p + 1))) R L Q := by
      intro hc
      have a1 : up (up I 306 3 (nI (sgn (T p)))) 306 2 (nI (p + 1)) 306 1 = nI n := by rw [up_ni (by decide), up_ni (by decide), h1]
      have a2 : up (up I 306 3 (nI (sgn (T p)))) 306 2 (nI (p + 1)) 306 2 = nI (p + 1) := up_eq _ _ _ _
      have a3 : up (up I 306 3 (nI (sgn (T p)))) 306 2 (nI (p + 1)) 306 3 = nI (sgn (T p)) := by rw [up_ni (by decide), up_eq]
      refine b_X3_readSign_61 hR ?_
      rw [a1, a2, a3, nI_clamp (by omega), up_nc (by decide), up_nc (by decide)]
      refine ⟨fun c => ?_, fun c => ?_⟩
      · exact no2 (fun q => by have := (nleI (by omega) (by omega)).mp c; have := q.2.1; omega)
      · have hn : p + 1 < n := by
          rcases Nat.lt_or_ge (p + 1) n with h | h
          · exact h
          · exact absurd (nI_le h (by omega)) c
        have hb2 := hT.2 (p + 1) hn
        rw [hb2.1]
        have e61 : nI (T (p + 1)) = 61 ↔ T (p + 1) = 61 := nI_eq (b := 61) (by omega) (by decide)
        refine ⟨vp_in_nI (by omega) (by decide), fun c2 => no2 (fun q => c2 (e61.mpr q.2.2)), fun c2 => ?_⟩
        have h22 : sg2 T n p := ⟨hc, hn, e61.mp c2⟩
        refine ⟨fun c3 => ?_, fun c3 => ?_⟩
        · rintro _ rfl _ rfl
          have := hq _ _ (Or.inl ⟨h22, rfl, rfl⟩)
          rw [if_neg (fun q => c3 (e24.mpr (hs.2.1.mpr q)))] at this
          rw [up_ni (by decide), up_eq, nI_1]
          rwa [show up (up I 306 2 (nI (p + 2))) 306 3 (nI 36) = up (up (up (up I 306 3 (nI (sgn (T p)))) 306 2 (nI (p + 1))) 306 3 36) 306 2 (nI (p + 1 + 1)) by funext c k; simp only [up]; grind [show (36 : Int32) = nI 36 from rfl]] at this
        · rintro _ rfl _ rfl
          have := hq _ _ (Or.inl ⟨h22, rfl, rfl⟩)
          rw [if_pos (hs.2.1.mp (e24.mp c3))] at this
          rw [up_ni (by decide), up_eq, nI_1]
          rwa [show up (up I 306 2 (nI (p + 2))) 306 3 (nI 35) = up (up (up (up I 306 3 (nI (sgn (T p)))) 306 2 (nI (p + 1))) 306 3 35) 306 2 (nI (p + 1 + 1)) by funext c k; simp only [up]; grind [show (35 : Int32) = nI 35 from rfl]] at this
    refine b_X3_readSign_30 hR ?_
    rintro _ rfl _ rfl
    rw [show up I 306 3 (nI (sgn (T p))) 306 2 = nI p by rw [up_ni (by decide), h2], nI_1, up_ni (by decide), up_eq]
    refine ⟨fun c => go2 (Or.inl (hs.2.1.mp (e24.mp c))), fun c => ⟨fun c2 => no2 (fun q => ?_), fun c2 => go2 (Or.inr (hs.2.2.mp (e25.mp c2)))⟩⟩
    rcases q.1 with q | q
    · exact c (e24.mpr (hs.2.1.mpr q))
    · exact c2 (e25.mpr (hs.2.2.mpr q))
  refine e_X3_readSign hR ?_
  rw [h2, nI_clamp (by omega), hb.1, byCh _ (by omega)]
  refine ⟨vp_in_nI (by omega) (by decide), ⟨nI_le (a := 0) (by omega) (by omega), nI_le (b := 255) hb.2 (by decide)⟩, ?_⟩
  rintro _ rfl
  rw [fnd_sgn _ (by omega)]
  have hs := sgn_r (T p)
  refine ⟨fun c => ?_, fun c => ?_⟩
  · by_cases c9 : sgn (T p) = 39
    · rw [if_pos c9] at c; exact absurd c (by decide)
    · rw [if_neg c9]
      exact main _ (by rw [show (24 : Int32) = nI 24 from rfl, nI_add]; congr 1; omega)
  · by_cases c9 : sgn (T p) = 39
    · exact main _ (by rw [c9]; rfl)
    · rw [if_neg c9] at c
      exact absurd (nI_le (a := 0) (by omega) (by omega)) c
theorem k_X3_readNumber {G : gG} {I : gI} {R : gR} {L : gL} {Q : gQ} {T : Nat → Nat} {n p : Nat} (hR : g_Fx R) (hT : tpT I T n) (h1 : I 306 1 = nI n) (h2 : I 306 2 = nI p) (hp : p ≤ n)
    (hq : ∀ a, rnP byD T n p a → Q none SH (up (up (up I 306 2 (nI a)) 306 3 37) 306 5 (nI (nv T p (a - p)))) R L) : Mt G mX3_readNumber 8 0 0 [.ref 306] SH I R L Q := by
  have h3 := hT.1
  have main : ∀ (m k : Nat), p + k + m = n → (∀ j, p ≤ j → j < p + k → byD (T j)) → Go G mX3_readNumber 8 0 0 11 [some (.ref 306)] [] SH (up (up (up I 306 2 (nI (p + k))) 306 3 37) 306 5 (nI (nv T p k))) R L Q := by
    intro m
    induction m with
    | zero =>
      intro k hk hd
      refine b_X3_readNumber_11 hR ?_
      rw [up_ni (by decide), up_ni (by decide), up_ni (by decide), h1, up_ni (by decide), up_ni (by decide), up_eq]
      refine ⟨fun _ => ?_, fun c => absurd (nI_le (by omega) (by omega)) c⟩
      have := hq (p + k) ⟨by omega, by omega, hd, fun q => by omega⟩
      rwa [show p + k - p = k by omega] at this
    | succ m ih =>
      intro k hk hd
      have hb := hT.2 (p + k) (by omega)
      refine b_X3_readNumber_11 hR ?_
      have a1 : up (up (up I 306 2 (nI (p + k))) 306 3 37) 306 5 (nI (nv T p k)) 306 1 = nI n := by rw [up_ni (by decide), up_ni (by decide), up_ni (by decide), h1]
      have a2 : up (up (up I 306 2 (nI (p + k))) 306 3 37) 306 5 (nI (nv T p k)) 306 2 = nI (p + k) := by rw [up_ni (by decide), up_ni (by decide), up_eq]
      have a5 : up (up (up I 306 2 (nI (p + k))) 306 3 37) 306 5 (nI (nv T p k)) 306 5 = nI (nv T p k) := up_eq _ _ _ _
      have a7 : up (up (up I 306 2 (nI (p + k))) 306 3 37) 306 5 (nI (nv T p k)) 307 (p + k) = nI (T (p + k)) := by rw [up_nc (by decide), up_nc (by decide), up_nc (by decide), hb.1]
      rw [a1, a2, nI_clamp (by omega), a5, a7, byD_i hb.2]
      refine ⟨fun c => absurd c (nI_ge (by omega) (by omega)), fun _ => ⟨vp_in_nI (by omega) (by decide), fun c => ?_, fun c => ⟨vp_in_nI (by omega) (by decide), ?_⟩⟩⟩
      · have := hq (p + k) ⟨by omega, by omega, hd, fun _ => c⟩
        rwa [show p + k - p = k by omega] at this
      · rintro _ rfl _ rfl
        have hv := nv_le T p k
        have hc : 48 ≤ T (p + k) ∧ T (p + k) ≤ 57 := c
        have e : (if nI (nv T p k) * 10 + nI (T (p + k)) - 48 < 10000 then nI (nv T p k) * 10 + nI (T (p + k)) - 48 else 10000 : Int32) = nI (nv T p (k + 1)) := by
          rw [show (10 : Int32) = nI 10 from rfl, show (48 : Int32) = nI 48 from rfl, show (10000 : Int32) = nI 10000 from rfl, nI_mul, nI_add, nI_sub (by omega) (by omega), nI_min (by omega) (by omega), nv]
          congr 1
          omega
        rw [e, up_ni (by decide), a2, nI_1]
        have := ih (k + 1) (by omega) (fun j q1 q2 => by
          rcases Nat.lt_or_ge j (p + k) with h | h
          · exact hd j q1 h
          · rw [show j = p + k by omega]; exact c)
        rwa [show up (up (up (up (up I 306 2 (nI (p + k))) 306 3 37) 306 5 (nI (nv T p k))) 306 5 (nI (nv T p (k + 1)))) 306 2 (nI (p + k + 1)) = up (up (up I 306 2 (nI (p + (k + 1)))) 306 3 37) 306 5 (nI (nv T p (k + 1))) by funext c k; simp only [up]; grind]
  refine e_X3_readNumber hR ?_
  rintro _ rfl _ rfl
  have := main (n - p) 0 (by omega) (fun j a b => by omega)
  rwa [show up (up (up I 306 2 (nI (p + 0))) 306 3 37) 306 5 (nI (nv T p 0)) = up (up I 306 3 37) 306 5 0 by
    have : nI (p + 0) = I 306 2 := by rw [h2]; rfl
    rw [up_id this.symm]; rfl] at this
