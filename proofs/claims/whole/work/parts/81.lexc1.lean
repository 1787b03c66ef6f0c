theorem e_X3_advance {G : gG} {I : gI} {R : gR} {L : gL} {Q : gQ} (hR : g_Fx R) (h : Go G mX3_advance 9 0 0 0 [some (.ref 306)] [] SH I R L Q) : Mt G mX3_advance 9 0 0 [.ref 306] SH I R L Q := by
  refine go_start rfl (Nat.le_of_ble_eq_true rfl) rfl ?_
  exact h
theorem b_X3_advance_0 {G : gG} {I : gI} {R : gR} {L : gL} {Q : gQ} (hR : g_Fx R) (h : ((I 306 1) ≤ (I 306 2) → Go G mX3_advance 9 0 0 52 [some (.ref 306)] [] SH I R L Q) ∧ (¬ (I 306 1) ≤ (I 306 2) → vp_in (I 306 2) 300 ∧ (((I 307 (I 306 2).toNatClampNeg) = 32 → ∀ I_1 : gI, I_1 = up I 306 2 ((I 306 2) + 1) → Go G mX3_advance 9 0 0 0 [some (.ref 306)] [] SH I_1 R L Q) ∧ (¬ (I 307 (I 306 2).toNatClampNeg) = 32 → vp_in (I 306 2) 300 ∧ ((¬ (I 307 (I 306 2).toNatClampNeg) = 10 → Go G mX3_advance 9 0 0 52 [some (.ref 306)] [] SH I R L Q) ∧ ((I 307 (I 306 2).toNatClampNeg) = 10 → ∀ I_2 : gI, I_2 = up I 306 2 ((I 306 2) + 1) → Go G mX3_advance 9 0 0 0 [some (.ref 306)] [] SH I_2 R L Q)))))) : Go G mX3_advance 9 0 0 0 [some (.ref 306)] [] SH I R L Q := by
  refine go_aload_n dX3_advance_0 rfl ?_
  refine go_getI dX3_advance_1 fX3_28 rfl rfl ?_
  refine go_aload_n dX3_advance_4 rfl ?_
  refine go_getI dX3_advance_5 fX3_24 rfl rfl ?_
  refine go_icmp_ge 52 dX3_advance_8 (by decide) (fun c => ?_) (fun c => ?_)
  · have h := h.1 c
    exact h
  · have h := h.2 c
    refine go_aload_n dX3_advance_11 rfl ?_
    refine go_getR dX3_advance_12 fX3_9 rfl rfl (hR 306 0 307 rfl) ?_
    refine go_aload_n dX3_advance_15 rfl ?_
    refine go_getI dX3_advance_16 fX3_28 rfl rfl ?_
    obtain ⟨hi, h⟩ := h
    refine go_iald dX3_advance_19 rfl hi ?_
    refine go_bipush (v := 32) dX3_advance_20 (by decide) ?_
    refine go_icmp_eq 39 dX3_advance_22 (by decide) (fun c => ?_) (fun c => ?_)
    · have h := h.1 c
      refine go_aload_n dX3_advance_39 rfl ?_
      refine go_dup dX3_advance_40 rfl ?_
      refine go_getI dX3_advance_41 fX3_28 rfl rfl ?_
      refine go_iconst (v := 1) dX3_advance_44 (by decide) ?_
      refine go_iadd dX3_advance_45 ?_
      refine go_putI dX3_advance_46 fX3_28 rfl rfl rfl rfl ?_
      have h := h _ rfl
      refine go_goto 0 dX3_advance_49 (by decide) ?_
      exact h
    · have h := h.2 c
      refine go_aload_n dX3_advance_25 rfl ?_
      refine go_getR dX3_advance_26 fX3_9 rfl rfl (hR 306 0 307 rfl) ?_
      refine go_aload_n dX3_advance_29 rfl ?_
      refine go_getI dX3_advance_30 fX3_28 rfl rfl ?_
      obtain ⟨hi, h⟩ := h
      refine go_iald dX3_advance_33 rfl hi ?_
      refine go_bipush (v := 10) dX3_advance_34 (by decide) ?_
      refine go_icmp_ne 52 dX3_advance_36 (by decide) (fun c => ?_) (fun c => ?_)
      · have h := h.1 c
        exact h
      · have h := h.2 c
        refine go_aload_n dX3_advance_39 rfl ?_
        refine go_dup dX3_advance_40 rfl ?_
        refine go_getI dX3_advance_41 fX3_28 rfl rfl ?_
        refine go_iconst (v := 1) dX3_advance_44 (by decide) ?_
        refine go_iadd dX3_advance_45 ?_
        refine go_putI dX3_advance_46 fX3_28 rfl rfl rfl rfl ?_
        have h := h _ rfl
        refine go_goto 0 dX3_advance_49 (by decide) ?_
        exact h
theorem b_X3_advance_52 {G : gG} {I : gI} {R : gR} {L : gL} {Q : gQ} (hR : g_Fx R) (h : ∀ I_6 : gI, I_6 = up I 306 4 (I 306 2) → ((I_6 306 2) < (I_6 306 1) → vp_in (I_6 306 2) 300 ∧ ((¬ ((97 ≤ (I_6 307 (I_6 306 2).toNatClampNeg) ∧ (I_6 307 (I_6 306 2).toNatClampNeg) ≤ 122) ∨ (65 ≤ (I_6 307 (I_6 306 2).toNatClampNeg) ∧ (I_6 307 (I_6 306 2).toNatClampNeg) ≤ 90)) → vp_in (I_6 306 2) 300 ∧ ((¬ (48 ≤ (I_6 307 (I_6 306 2).toNatClampNeg) ∧ (I_6 307 (I_6 306 2).toNatClampNeg) ≤ 57) → Mt G mX3_readSign 8 0 0 [.ref 306] SH I_6 R L (fun r S' I' R' L' => Go G mX3_advance 9 0 0 179 [none] (r.toList ++ []) S' I' R' L' Q)) ∧ (48 ≤ (I_6 307 (I_6 306 2).toNatClampNeg) ∧ (I_6 307 (I_6 306 2).toNatClampNeg) ≤ 57 → Mt G mX3_readNumber 8 0 0 [.ref 306] SH I_6 R L (fun r S' I' R' L' => Go G mX3_advance 9 0 0 172 [none] (r.toList ++ []) S' I' R' L' Q)))) ∧ ((97 ≤ (I_6 307 (I_6 306 2).toNatClampNeg) ∧ (I_6 307 (I_6 306 2).toNatClampNeg) ≤ 122) ∨ (65 ≤ (I_6 307 (I_6 306 2).toNatClampNeg) ∧ (I_6 307 (I_6 306 2).toNatClampNeg) ≤ 90) → Go G mX3_advance 9 0 0 95 [some (.ref 306)] [] SH I_6 R L Q))) ∧ (¬ (I_6 306 2) < (I_6 306 1) → ∀ I_9 : gI, I_9 = up I_6 306 3 38 → Go G mX3_advance 9 0 0 179 [none] [] SH I_9 R L Q)) : Go G mX3_advance 9 0 0 52 [some (.ref 306)] [] SH I R L Q := by
  refine go_aload_n dX3_advance_52 rfl ?_
  refine go_aload_n dX3_advance_53 rfl ?_
  refine go_getI dX3_advance_54 fX3_28 rfl rfl ?_
  refine go_putI dX3_advance_57 fX3_56 rfl rfl rfl rfl ?_
  have h := h _ rfl
  refine go_aload_n dX3_advance_60 rfl ?_
  refine go_getI dX3_advance_61 fX3_28 rfl rfl ?_
  refine go_aload_n dX3_advance_64 rfl ?_
  refine go_getI dX3_advance_65 fX3_24 rfl rfl ?_
  refine go_icmp_lt 80 dX3_advance_68 (by decide) (fun c => ?_) (fun c => ?_)
  · have h := h.1 c
    refine go_aload_n dX3_advance_80 rfl ?_
    refine go_getR dX3_advance_81 fX3_9 rfl rfl (hR 306 0 307 rfl) ?_
    refine go_aload_n dX3_advance_84 rfl ?_
    refine go_getI dX3_advance_85 fX3_28 rfl rfl ?_
    obtain ⟨hi, h⟩ := h
    refine go_iald dX3_advance_88 rfl hi ?_
    refine go_callS0 (μ := mX3_advance) [.int _] dX3_advance_89 YX3_isLetter lX3_59 rfl (Nat.le_of_ble_eq_true rfl) (Nat.le_of_ble_eq_true rfl) rfl (k_X3_isLetter hR ?_)
    refine go_if_eq 153 dX3_advance_92 (by decide) (fun c => ?_) (fun c => ?_)
    · have h := h.1 (b0.mp c)
      refine go_aload_n dX3_advance_153 rfl ?_
      refine go_getR dX3_advance_154 fX3_9 rfl rfl (hR 306 0 307 rfl) ?_
      refine go_aload_n dX3_advance_157 rfl ?_
      refine go_getI dX3_advance_158 fX3_28 rfl rfl ?_
      obtain ⟨hi, h⟩ := h
      refine go_iald dX3_advance_161 rfl hi ?_
      refine go_callS0 (μ := mX3_advance) [.int _] dX3_advance_162 YX3_isDigit lX3_66 rfl (Nat.le_of_ble_eq_true rfl) (Nat.le_of_ble_eq_true rfl) rfl (k_X3_isDigit hR ?_)
      refine go_if_eq 175 dX3_advance_165 (by decide) (fun c => ?_) (fun c => ?_)
      · have h := h.1 (b0.mp c)
        refine go_aload_n dX3_advance_175 rfl ?_
        refine go_drop 0 ?_
        refine go_callV0 (μ := mX3_advance) [] dX3_advance_176 YX3_readSign lX3_72 rfl ⟨_, rfl, rfl⟩ rfl (Nat.le_of_ble_eq_true rfl) (Nat.le_refl _) rfl h
      · have h := h.2 (b1.mp c)
        refine go_aload_n dX3_advance_168 rfl ?_
        refine go_drop 0 ?_
        refine go_callV0 (μ := mX3_advance) [] dX3_advance_169 YX3_readNumber lX3_69 rfl ⟨_, rfl, rfl⟩ rfl (Nat.le_of_ble_eq_true rfl) (Nat.le_refl _) rfl h
    · have h := h.2 (b1.mp c)
      exact h
  · have h := h.2 c
    refine go_aload_n dX3_advance_71 rfl ?_
    refine go_bipush (v := 38) dX3_advance_72 (by decide) ?_
    refine go_putI dX3_advance_74 fX3_49 rfl rfl rfl rfl ?_
    have h := h _ rfl
    refine go_goto 179 dX3_advance_77 (by decide) ?_
    refine go_drop 0 ?_
    exact h
theorem b_X3_advance_179 {G : gG} {I : gI} {R : gR} {L : gL} {Q : gQ} (hR : g_Fx R) (h : Q none SH I R L) : Go G mX3_advance 9 0 0 179 [none] [] SH I R L Q := by
  exact go_vret dX3_advance_179 rfl rfl h
theorem b_X3_advance_172 {G : gG} {I : gI} {R : gR} {L : gL} {Q : gQ} (hR : g_Fx R) (h : Go G mX3_advance 9 0 0 179 [none] [] SH I R L Q) : Go G mX3_advance 9 0 0 172 [none] [] SH I R L Q := by
  refine go_goto 179 dX3_advance_172 (by decide) ?_
  exact h
theorem b_X3_advance_95 {G : gG} {I : gI} {R : gR} {L : gL} {Q : gQ} (hR : g_Fx R) (h : ((I 306 1) ≤ (I 306 2) → Go G mX3_advance 9 0 0 134 [some (.ref 306)] [] SH I R L Q) ∧ (¬ (I 306 1) ≤ (I 306 2) → vp_in (I 306 2) 300 ∧ ((¬ ((97 ≤ (I 307 (I 306 2).toNatClampNeg) ∧ (I 307 (I 306 2).toNatClampNeg) ≤ 122) ∨ (65 ≤ (I 307 (I 306 2).toNatClampNeg) ∧ (I 307 (I 306 2).toNatClampNeg) ≤ 90)) → Go G mX3_advance 9 0 0 134 [some (.ref 306)] [] SH I R L Q) ∧ ((97 ≤ (I 307 (I 306 2).toNatClampNeg) ∧ (I 307 (I 306 2).toNatClampNeg) ≤ 122) ∨ (65 ≤ (I 307 (I 306 2).toNatClampNeg) ∧ (I 307 (I 306 2).toNatClampNeg) ≤ 90) → ∀ I_11 : gI, I_11 = up I 306 2 ((I 306 2) + 1) → Go G mX3_advance 9 0 0 95 [some (.ref 306)] [] SH I_11 R L Q)))) : Go G mX3_advance 9 0 0 95 [some (.ref 306)] [] SH I R L Q := by
  refine go_aload_n dX3_advance_95 rfl ?_
  refine go_getI dX3_advance_96 fX3_28 rfl rfl ?_
  refine go_aload_n dX3_advance_99 rfl ?_
  refine go_getI dX3_advance_100 fX3_24 rfl rfl ?_
  refine go_icmp_ge 134 dX3_advance_103 (by decide) (fun c => ?_) (fun c => ?_)
  · have h := h.1 c
    exact h
  · have h := h.2 c
    refine go_aload_n dX3_advance_106 rfl ?_
    refine go_getR dX3_advance_107 fX3_9 rfl rfl (hR 306 0 307 rfl) ?_
    refine go_aload_n dX3_advance_110 rfl ?_
    refine go_getI dX3_advance_111 fX3_28 rfl rfl ?_
    obtain ⟨hi, h⟩ := h
    refine go_iald dX3_advance_114 rfl hi ?_
    refine go_callS0 (μ := mX3_advance) [.int _] dX3_advance_115 YX3_isLetter lX3_59 rfl (Nat.le_of_ble_eq_true rfl) (Nat.le_of_ble_eq_true rfl) rfl (k_X3_isLetter hR ?_)
    refine go_if_eq 134 dX3_advance_118 (by decide) (fun c => ?_) (fun c => ?_)
    · have h := h.1 (b0.mp c)
      exact h
    · have h := h.2 (b1.mp c)
      refine go_aload_n dX3_advance_121 rfl ?_
      refine go_dup dX3_advance_122 rfl ?_
      refine go_getI dX3_advance_123 fX3_28 rfl rfl ?_
      refine go_iconst (v := 1) dX3_advance_126 (by decide) ?_
      refine go_iadd dX3_advance_127 ?_
      refine go_putI dX3_advance_128 fX3_28 rfl rfl rfl rfl ?_
      have h := h _ rfl
      refine go_goto 95 dX3_advance_131 (by decide) ?_
      exact h
theorem b_X3_advance_134 {G : gG} {I : gI} {R : gR} {L : gL} {Q : gQ} (hR : g_Fx R) (h : Mt G mX3_wordAt 8 0 0 [.ref 306, .int (I 306 4), .int (I 306 2)] SH I R L (fun r S' I' R' L' => Go G mX3_advance 9 0 0 147 [none] (r.toList ++ [.ref 306]) S' I' R' L' Q)) : Go G mX3_advance 9 0 0 134 [some (.ref 306)] [] SH I R L Q := by
  refine go_aload_n dX3_advance_134 rfl ?_
  refine go_aload_n dX3_advance_135 rfl ?_
  refine go_aload_n dX3_advance_136 rfl ?_
  refine go_getI dX3_advance_137 fX3_56 rfl rfl ?_
  refine go_aload_n dX3_advance_140 rfl ?_
  refine go_getI dX3_advance_141 fX3_28 rfl rfl ?_
  refine go_drop 0 ?_
  refine go_callV0 (μ := mX3_advance) [.int _, .int _] dX3_advance_144 YX3_wordAt lX3_63 rfl ⟨_, rfl, rfl⟩ rfl (Nat.le_of_ble_eq_true rfl) (Nat.le_refl _) rfl h
theorem b_X3_advance_147 {G : gG} {I : gI} {R : gR} {L : gL} {Q : gQ} {s1 : Int32} (hR : g_Fx R) (h : ∀ I_14 : gI, I_14 = up I 306 3 s1 → Go G mX3_advance 9 0 0 179 [none] [] SH I_14 R L Q) : Go G mX3_advance 9 0 0 147 [none] [.int s1, .ref 306] SH I R L Q := by
  refine go_putI dX3_advance_147 fX3_49 rfl rfl rfl rfl ?_
  have h := h _ rfl
  refine go_goto 179 dX3_advance_150 (by decide) ?_
  exact h
/-- the next token is there -/
def avI (I : gI) (pl tk : Nat) (x : Int32) (a : Nat) : gI := up (up (up (up I 306 2 (nI a)) 306 3 (nI tk)) 306 4 (nI pl)) 306 5 x
theorem k_X3_advance {G : gG} {I : gI} {R : gR} {L : gL} {Q : gQ} {T : Nat → Nat} {n p : Nat} (hR : g_Fx R) (hT : tpT I T n) (h1 : I 306 1 = nI n) (h2 : I 306 2 = nI p) (hp : p ≤ n)
    (hq : ∀ pl tk v a x, Lx T n p pl tk v a → (tk = 37 → x = nI v) → Q none SH (avI I pl tk x a) R L) : Mt G mX3_advance 9 0 0 [.ref 306] SH I R L Q := by
  have h3 := hT.1
  refine e_X3_advance hR ?_
  -- behind the blanks
  have rest : ∀ pl, rnP byB T n p pl → Go G mX3_advance 9 0 0 52 [some (.ref 306)] [] SH (up I 306 2 (nI pl)) R L Q := by
    intro pl hb
    have hpl := hb.2.1
    refine b_X3_advance_52 hR ?_
    rw [up_eq]
    rintro _ rfl
    have z1 : up (up I 306 2 (nI pl)) 306 4 (nI pl) 306 1 = nI n := by rw [up_ni (by decide), up_ni (by decide), h1]
    have z2 : up (up I 306 2 (nI pl)) 306 4 (nI pl) 306 2 = nI pl := by rw [up_ni (by decide), up_eq]
    have z5 : up (up I 306 2 (nI pl)) 306 4 (nI pl) 306 5 = I 306 5 := by rw [up_ni (by decide), up_ni (by decide)]
    have zT : tpT (up (up I 306 2 (nI pl)) 306 4 (nI pl)) T n := tpT_up (tpT_up hT (by decide)) (by decide)
    rw [z1, z2, nI_clamp (by omega)]
    refine ⟨fun c => ?_, fun c => ?_⟩
    · have hlt : pl < n := (nltI (by omega) (by omega)).mp c
      have hby := zT.2 pl hlt
      rw [hby.1, byL_i hby.2, byD_i hby.2]
      refine ⟨vp_in_nI (by omega) (by decide), fun cl => ⟨vp_in_nI (by omega) (by decide), fun cd => ?_, fun cd => ?_⟩, fun cl => ?_⟩
      · refine k_X3_readSign hR zT z1 z2 hlt (fun tk a hs => b_X3_advance_179 hR ?_)
        have := hq pl tk 0 a (I 306 5) ⟨hb, Or.inr (Or.inr (Or.inr (hs.imp (fun q => ⟨hlt, cl, cd, q.1, q.2.1, q.2.2⟩) (fun q => ⟨hlt, cl, cd, q.1, q.2.1, q.2.2⟩))))⟩ (fun e => ?_)
        · rwa [show avI I pl tk (I 306 5) a = up (up (up (up I 306 2 (nI pl)) 306 4 (nI pl)) 306 2 (nI a)) 306 3 (nI tk) by funext c k; simp only [up, avI]; grind] at this
        · exfalso
          rcases hs with q | q
          · have := q.2.1; split at this <;> omega
          · have := sgn_r (T pl); have := q.2.1; omega
      · refine k_X3_readNumber hR zT z1 z2 (by omega) (fun a ha => b_X3_advance_172 hR (b_X3_advance_179 hR ?_))
        have := hq pl 37 _ a _ ⟨hb, Or.inr (Or.inr (Or.inl ⟨hlt, cd, ha, rfl, rfl⟩))⟩ (fun _ => rfl)
        rwa [show avI I pl 37 (nI (nv T pl (a - pl))) a = up (up (up (up (up I 306 2 (nI pl)) 306 4 (nI pl)) 306 2 (nI a)) 306 3 37) 306 5 (nI (nv T pl (a - pl))) by funext c k; simp only [up, avI]; grind [show (37 : Int32) = nI 37 from rfl]] at this
      · -- a word
        have loop : ∀ (m a : Nat), a + m = n → pl ≤ a → (∀ j, pl ≤ j → j < a → byL (T j)) → Go G mX3_advance 9 0 0 95 [some (.ref 306)] [] SH (up (up I 306 2 (nI a)) 306 4 (nI pl)) R L Q := by
          intro m
          have out : ∀ a, a ≤ n → pl ≤ a → (∀ j, pl ≤ j → j < a → byL (T j)) → (a < n → ¬ byL (T a)) → Go G mX3_advance 9 0 0 134 [some (.ref 306)] [] SH (up (up I 306 2 (nI a)) 306 4 (nI pl)) R L Q := by
            intro a ha hpa hl he
            refine b_X3_advance_134 hR ?_
            rw [up_eq, up_ni (by decide), up_eq]
            refine k_X3_wordAt hR (tpT_up (tpT_up hT (by decide)) (by decide)) ha hpa (b_X3_advance_147 hR ?_)
            rintro _ rfl
            refine b_X3_advance_179 hR ?_
            have := hq pl _ 0 a (I 306 5) ⟨hb, Or.inr (Or.inl ⟨hlt, cl, ⟨hpa, ha, hl, he⟩, rfl⟩)⟩ (fun e => by rcases wix_24 (sgm T pl a) with q | q <;> omega)
            rwa [show avI I pl (wix (sgm T pl a) wds 0) (I 306 5) a = up (up (up I 306 2 (nI a)) 306 4 (nI pl)) 306 3 (nI (wix (sgm T pl a) wds 0)) by funext c k; simp only [up, avI]; grind] at this
          induction m with
          | zero =>
            intro a ha hpa hl
            refine b_X3_advance_95 hR ?_
            rw [up_ni (by decide), up_ni (by decide), h1, up_ni (by decide), up_eq]
            exact ⟨fun _ => out a (by omega) hpa hl (fun q => by omega), fun c => absurd (nI_le (by omega) (by omega)) c⟩
          | succ m ih =>
            intro a ha hpa hl
            have hba := hT.2 a (by omega)
            refine b_X3_advance_95 hR ?_
            have y2 : up (up I 306 2 (nI a)) 306 4 (nI pl) 306 2 = nI a := by rw [up_ni (by decide), up_eq]
            have y7 : up (up I 306 2 (nI a)) 306 4 (nI pl) 307 a = nI (T a) := by rw [up_nc (by decide), up_nc (by decide), hba.1]
            rw [show up (up I 306 2 (nI a)) 306 4 (nI pl) 306 1 = nI n by rw [up_ni (by decide), up_ni (by decide), h1], y2, nI_clamp (by omega), y7, byL_i hba.2]
            refine ⟨fun c => absurd c (nI_ge (by omega) (by omega)), fun _ => ⟨vp_in_nI (by omega) (by decide), fun c => out a (by omega) hpa hl (fun _ => c), fun c => ?_⟩⟩
            rintro _ rfl
            rw [nI_1]
            have := ih (a + 1) (by omega) (by omega) (fun j q1 q2 => by
              rcases Nat.lt_or_ge j a with h | h
              · exact hl j q1 h
              · rw [show j = a by omega]; exact c)
            rwa [show up (up (up I 306 2 (nI a)) 306 4 (nI pl)) 306 2 (nI (a + 1)) = up (up I 306 2 (nI (a + 1))) 306 4 (nI pl) by funext c k; simp only [up]; grind]
        exact loop (n - pl) pl (by omega) (by omega) (fun j a b => by omega)
    · have hn : pl = n := by
        rcases Nat.lt_or_ge pl n with h | h
        · exact absurd (nI_lt h (by omega)) c
        · omega
      rintro _ rfl
      refine b_X3_advance_179 hR ?_
      have := hq pl 38 0 pl (I 306 5) ⟨hb, Or.inl ⟨hn, rfl, rfl⟩⟩ (fun e => by omega)
      rwa [show avI I pl 38 (I 306 5) pl = up (up (up I 306 2 (nI pl)) 306 4 (nI pl)) 306 3 38 by funext c k; simp only [up, avI]; grind [show (38 : Int32) = nI 38 from rfl]] at this
  have loop : ∀ (m q : Nat), q + m = n → p ≤ q → (∀ j, p ≤ j → j < q → byB (T j)) → Go G mX3_advance 9 0 0 0 [some (.ref 306)] [] SH (up I 306 2 (nI q)) R L Q := by
    intro m
    induction m with
    | zero =>
      intro q hq2 hpq hl
      refine b_X3_advance_0 hR ?_
      rw [up_ni (by decide), h1, up_eq]
      exact ⟨fun _ => rest q ⟨hpq, by omega, hl, fun z => by omega⟩, fun c => absurd (nI_le (by omega) (by omega)) c⟩
    | succ m ih =>
      intro q hq2 hpq hl
      have hba := hT.2 q (by omega)
      refine b_X3_advance_0 hR ?_
      rw [up_ni (by decide), h1, up_eq, nI_clamp (by omega), up_nc (by decide), hba.1]
      have e32 : nI (T q) = 32 ↔ T q = 32 := nI_eq (b := 32) (by omega) (by decide)
      have e10 : nI (T q) = 10 ↔ T q = 10 := nI_eq (b := 10) (by omega) (by decide)
      have go : byB (T q) → Go G mX3_advance 9 0 0 0 [some (.ref 306)] [] SH (up (up I 306 2 (nI q)) 306 2 (nI q + 1)) R L Q := fun c => by
        have := ih (q + 1) (by omega) (by omega) (fun j q1 q2 => by
          rcases Nat.lt_or_ge j q with h | h
          · exact hl j q1 h
          · rw [show j = q by omega]; exact c)
        rwa [nI_1, show up (up I 306 2 (nI q)) 306 2 (nI (q + 1)) = up I 306 2 (nI (q + 1)) by funext c k; simp only [up]; grind]
      refine ⟨fun c => absurd c (nI_ge (by omega) (by omega)), fun _ => ⟨vp_in_nI (by omega) (by decide), fun c => ?_, fun c => ⟨vp_in_nI (by omega) (by decide), fun c2 => ?_, fun c2 => ?_⟩⟩⟩
      · rintro _ rfl
        exact go (Or.inl (e32.mp c))
      · exact rest q ⟨hpq, by omega, hl, fun _ z => z.elim (fun y => c (e32.mpr y)) (fun y => c2 (e10.mpr y))⟩
      · rintro _ rfl
        exact go (Or.inr (e10.mp c2))
  have := loop (n - p) p (by omega) (by omega) (fun j a b => by omega)
  rwa [up_id h2] at this
