/-! deeds by a text -/
def dsC (I : gI) (θ : thy) (f : Nat → Int32) (a b r : Int32) (I1 : gI) (R1 : gR) : Prop := (¬ sitA f a b ∧ r = 0 ∧ stepC I I1 R1 θ f f) ∨ (sitA f a b ∧ r = 1 ∧ stepC I I1 R1 θ f (sitF f a b))
def dpC (I : gI) (θ : thy) (f : Nat → Int32) (a b r : Int32) (I1 : gI) (R1 : gR) : Prop := (¬ spA θ f a b ∧ r = -1 ∧ stepC I I1 R1 θ f f) ∨ (spA θ f a b ∧ ¬ r = -1 ∧ stepC I I1 R1 θ f (spF f a b (Int32.ofInt (spG θ f a b))))
def djC (I : gI) (θ : thy) (f : Nat → Int32) (a r : Int32) (I1 : gI) (R1 : gR) : Prop := (¬ jdA f a ∧ r = -1 ∧ stepC I I1 R1 θ f f) ∨ (jdA f a ∧ ¬ r = -1 ∧ stepC I I1 R1 θ f (jdF f a (jdV θ f a)))
def dfC (I : gI) (θ : thy) (f : Nat → Int32) (a r : Int32) (I1 : gI) (R1 : gR) : Prop := (¬ flA a ∧ r = -1 ∧ stepC I I1 R1 θ f f) ∨ (flA a ∧ ¬ r = -1 ∧ stepC I I1 R1 θ f (flF f a))
def dsM (I : gI) (θ : thy) (a b r : Int32) (I1 : gI) : Prop := (¬ sitA (I 311) a b ∧ r = 0 ∧ stepM I I1 θ (I 311)) ∨ (sitA (I 311) a b ∧ r = 1 ∧ stepM I I1 θ (sitF (I 311) a b))
def dpM (I : gI) (θ : thy) (a b r : Int32) (I1 : gI) : Prop := (¬ spA θ (I 311) a b ∧ r = -1 ∧ stepM I I1 θ (I 311)) ∨ (spA θ (I 311) a b ∧ ¬ r = -1 ∧ stepM I I1 θ (spF (I 311) a b (Int32.ofInt (spG θ (I 311) a b))))
def djM (I : gI) (θ : thy) (a r : Int32) (I1 : gI) : Prop := (¬ jdA (I 311) a ∧ r = -1 ∧ stepM I I1 θ (I 311)) ∨ (jdA (I 311) a ∧ ¬ r = -1 ∧ stepM I I1 θ (jdF (I 311) a (jdV θ (I 311) a)))
def dfM (I : gI) (θ : thy) (a r : Int32) (I1 : gI) : Prop := (¬ flA a ∧ r = -1 ∧ stepM I I1 θ (I 311)) ∨ (flA a ∧ ¬ r = -1 ∧ stepM I I1 θ (flF (I 311) a))
theorem flG_rng (f : Nat → Int32) : ∀ n, n ≤ 40 → 0 ≤ (flG f n).toInt ∧ (flG f n).toInt ≤ n
  | 0, _ => ⟨Int.le_refl 0, Int.le_refl 0⟩
  | n + 1, h => by
    have ih := flG_rng f n (by omega)
    have z1 : (1 : Int32).toInt = 1 := rfl
    simp only [flG]
    split
    · omega
    · rw [ti_add] <;> rw [z1] <;> omega
theorem flV_ne {f : Nat → Int32} {a : Int32} (h : flA a) : ¬ flV f a = -1 := by
  have c := ci (x := a) (by have := h.1; omega)
  have h2 := h.2
  have := flG_rng (kstF f) a.toNatClampNeg (by omega)
  intro q
  unfold flV at q
  rw [q] at this
  exact absurd this.1 (by decide)
theorem jdV_ne (θ : thy) (f : Nat → Int32) (a : Int32) : ¬ jdV θ f a = -1 := by unfold jdV; split <;> decide
theorem sp_ne {θ : thy} {f : Nat → Int32} {a b r : Int32} (h : spA θ f a b) (hr : r.toInt = spG θ f a b) : ¬ r = -1 ∧ r = Int32.ofInt (spG θ f a b) := by
  refine ⟨fun q => ?_, by rw [← hr, Int32.ofInt_toInt]⟩
  have := h.2.2.2.2
  rw [← hr, q] at this
  exact absurd this (by decide)
theorem k_X6_sit2 {G : gG} {I : gI} {R : gR} {L : gL} {Q : gQ} {a b : Int32} {θ : thy} {f : Nat → Int32} (hF : g_Fx R) (h : CI I R θ f) (hq : ∀ r I1 R1, (g_Fx R1 ∧ dsC I θ f a b r I1 R1) → Q (some (.int r)) SH I1 R1 L) : Mt G mX6_sit 30 0 0 [.ref 0, .int a, .int b] SH I R L Q :=
  c_sit hF h (fun n => hq _ _ _ ⟨hF, Or.inl ⟨n, rfl, stepC_rfl hF h⟩⟩) (fun I1 R1 n s => hq _ _ _ ⟨s.1, Or.inr ⟨n, rfl, s⟩⟩)
theorem k_X6_spoon2 {G : gG} {I : gI} {R : gR} {L : gL} {Q : gQ} {a b : Int32} {θ : thy} {f : Nat → Int32} (hF : g_Fx R) (h : CI I R θ f) (hq : ∀ r I1 R1, (g_Fx R1 ∧ dpC I θ f a b r I1 R1) → Q (some (.int r)) SH I1 R1 L) : Mt G mX6_spoon 30 0 0 [.ref 0, .int a, .int b] SH I R L Q :=
  c_spoon hF h (fun I1 n s => hq _ _ _ ⟨s.1, Or.inl ⟨n, rfl, s⟩⟩) (fun g I1 R1 n hg s => hq _ _ _ ⟨s.1, Or.inr ⟨n, (sp_ne n hg).1, by rw [← (sp_ne n hg).2]; exact s⟩⟩)
theorem k_X6_judge2 {G : gG} {I : gI} {R : gR} {L : gL} {Q : gQ} {a : Int32} {θ : thy} {f : Nat → Int32} (hF : g_Fx R) (h : CI I R θ f) (hq : ∀ r I1 R1, (g_Fx R1 ∧ djC I θ f a r I1 R1) → Q (some (.int r)) SH I1 R1 L) : Mt G mX6_judge 30 0 0 [.ref 0, .int a] SH I R L Q :=
  c_judge hF h (fun n => hq _ _ _ ⟨hF, Or.inl ⟨n, rfl, stepC_rfl hF h⟩⟩) (fun I1 R1 n s => hq _ _ _ ⟨s.1, Or.inr ⟨n, jdV_ne _ _ _, s⟩⟩)
theorem k_X6_flies2 {G : gG} {I : gI} {R : gR} {L : gL} {Q : gQ} {a : Int32} {θ : thy} {f : Nat → Int32} (hF : g_Fx R) (h : CI I R θ f) (hq : ∀ r I1 R1, (g_Fx R1 ∧ dfC I θ f a r I1 R1) → Q (some (.int r)) SH I1 R1 L) : Mt G mX6_flies 30 0 0 [.ref 0, .int a] SH I R L Q :=
  c_flies hF h (fun n => hq _ _ _ ⟨hF, Or.inl ⟨n, rfl, stepC_rfl hF h⟩⟩) (fun I1 R1 n s => hq _ _ _ ⟨s.1, Or.inr ⟨n, flV_ne n, s⟩⟩)
theorem k_X7_sit2 {G : gG} {I : gI} {R : gR} {L : gL} {Q : gQ} {a b : Int32} {θ : thy} (hF : g_Fx R) (h : MI I θ) (hq : ∀ r I1 L1, dsM I θ a b r I1 → Q (some (.int r)) SH I1 R L1) : Mt G mX7_sit 30 0 0 [.ref 310, .int a, .int b] SH I R L Q :=
  m_sit hF h (fun n => hq _ _ _ (Or.inl ⟨n, rfl, stepM_rfl h⟩)) (fun I1 n s => hq _ _ _ (Or.inr ⟨n, rfl, s⟩))
theorem k_X7_spoon2 {G : gG} {I : gI} {R : gR} {L : gL} {Q : gQ} {a b : Int32} {θ : thy} (hF : g_Fx R) (h : MI I θ) (hq : ∀ r I1 L1, dpM I θ a b r I1 → Q (some (.int r)) SH I1 R L1) : Mt G mX7_spoon 30 0 0 [.ref 310, .int a, .int b] SH I R L Q :=
  m_spoon hF h (fun I1 L1 n s => hq _ _ _ (Or.inl ⟨n, rfl, s⟩)) (fun g I1 L1 n hg s => hq _ _ _ (Or.inr ⟨n, (sp_ne n hg).1, by rw [← (sp_ne n hg).2]; exact s⟩))
theorem k_X7_judge2 {G : gG} {I : gI} {R : gR} {L : gL} {Q : gQ} {a : Int32} {θ : thy} (hF : g_Fx R) (h : MI I θ) (hq : ∀ r I1 L1, djM I θ a r I1 → Q (some (.int r)) SH I1 R L1) : Mt G mX7_judge 30 0 0 [.ref 310, .int a] SH I R L Q :=
  m_judge hF h (fun n => hq _ _ _ (Or.inl ⟨n, rfl, stepM_rfl h⟩)) (fun I1 L1 n s => hq _ _ _ (Or.inr ⟨n, jdV_ne _ _ _, s⟩))
theorem k_X7_flies2 {G : gG} {I : gI} {R : gR} {L : gL} {Q : gQ} {a : Int32} {θ : thy} (hF : g_Fx R) (h : MI I θ) (hq : ∀ r I1 L1, dfM I θ a r I1 → Q (some (.int r)) SH I1 R L1) : Mt G mX7_flies 30 0 0 [.ref 310, .int a] SH I R L Q :=
  m_flies hF h (fun n => hq _ _ _ (Or.inl ⟨n, rfl, stepM_rfl h⟩)) (fun I1 n s => hq _ _ _ (Or.inr ⟨n, flV_ne n, s⟩))
/-- a deed that can't be; what it does -/
def ddN (θ : thy) (f : Nat → Int32) (v x y : Int32) : Prop := (v = 3 ∧ ¬ sitA f x y) ∨ (v = 4 ∧ ¬ spA θ f x y) ∨ (v = 5 ∧ ¬ jdA f x) ∨ (v = 6 ∧ ¬ flA x)
def ddF (θ : thy) (f : Nat → Int32) (v x y : Int32) : Nat → Int32 := if v = 3 then sitF f x y else if v = 4 then spF f x y (Int32.ofInt (spG θ f x y)) else if v = 5 then jdF f x (jdV θ f x) else if v = 6 then flF f x else f
def pcC (I : gI) (θ : thy) (f : Nat → Int32) (v x y r : Int32) (I1 : gI) (R1 : gR) : Prop := (ddN θ f v x y ∧ r = 0 ∧ stepC I I1 R1 θ f f) ∨ (¬ ddN θ f v x y ∧ r = 1 ∧ stepC I I1 R1 θ f (ddF θ f v x y))
theorem e_X6_playClause {G : gG} {I : gI} {R : gR} {L : gL} {Q : gQ} {θ : thy} {f : Nat → Int32} {i : Int32} {y : Nat} (hR : g_Fx R) (hy : g_La y) (h : vp_in i 24 ∧ (∀ v3_1 : Int32, v3_1 = (I (y + 5) i.toNatClampNeg) → vp_in i 24 ∧ (∀ v4_2 : Int32, v4_2 = (I (y + 6) i.toNatClampNeg) → vp_in i 24 ∧ (((I (y + 4) i.toNatClampNeg) = 3 → CI I R θ f ∧ (∀ r_4 : Int32, ∀ I_5 : gI, ∀ R_6 : gR, (g_Fx R_6 ∧ dsC I θ f v3_1 v4_2 r_4 I_5 R_6) → (r_4 = 0 ∨ r_4 = 1) ∧ Q (some (.int r_4)) SH I_5 R_6 L)) ∧ ((I (y + 4) i.toNatClampNeg) = 4 → CI I R θ f ∧ (∀ r_9 : Int32, ∀ I_10 : gI, ∀ R_11 : gR, (g_Fx R_11 ∧ dpC I θ f v3_1 v4_2 r_9 I_10 R_11) → (r_9 = (-1) → Q (some (.int 0)) SH I_10 R_11 L) ∧ (¬ r_9 = (-1) → Q (some (.int 1)) SH I_10 R_11 L))) ∧ ((I (y + 4) i.toNatClampNeg) = 5 → CI I R θ f ∧ (∀ r_15 : Int32, ∀ I_16 : gI, ∀ R_17 : gR, (g_Fx R_17 ∧ djC I θ f v3_1 r_15 I_16 R_17) → (r_15 = (-1) → Q (some (.int 0)) SH I_16 R_17 L) ∧ (¬ r_15 = (-1) → Q (some (.int 1)) SH I_16 R_17 L))) ∧ ((I (y + 4) i.toNatClampNeg) = 6 → CI I R θ f ∧ (∀ r_21 : Int32, ∀ I_22 : gI, ∀ R_23 : gR, (g_Fx R_23 ∧ dfC I θ f v3_1 r_21 I_22 R_23) → (r_21 = (-1) → Q (some (.int 0)) SH I_22 R_23 L) ∧ (¬ r_21 = (-1) → Q (some (.int 1)) SH I_22 R_23 L))) ∧ (¬ (I (y + 4) i.toNatClampNeg) = 3 ∧ ¬ (I (y + 4) i.toNatClampNeg) = 4 ∧ ¬ (I (y + 4) i.toNatClampNeg) = 5 ∧ ¬ (I (y + 4) i.toNatClampNeg) = 6 → Q (some (.int 1)) SH I R L))))) : Mt G mX6_playClause 31 0 0 [.ref 0, .ref y, .int i] SH I R L Q := by
  refine go_start rfl (Nat.le_of_ble_eq_true rfl) rfl ?_
  refine go_aload_n dX6_playClause_0 rfl ?_
  refine go_getR dX6_playClause_1 fX6_273 rfl (La_s0 hy) (hR _ _ _ (La_r0_5 hy)) ?_
  refine go_iload_n dX6_playClause_4 rfl ?_
  obtain ⟨hi, h⟩ := h
  refine go_iald dX6_playClause_5 (La_s5 hy) hi ?_
  refine go_istore_n dX6_playClause_6 (Nat.le_of_ble_eq_true rfl) rfl ?_
  have h := h _ rfl
  refine go_aload_n dX6_playClause_7 rfl ?_
  refine go_getR dX6_playClause_8 fX6_276 rfl (La_s0 hy) (hR _ _ _ (La_r0_6 hy)) ?_
  refine go_iload_n dX6_playClause_11 rfl ?_
  obtain ⟨hi, h⟩ := h
  refine go_iald dX6_playClause_12 (La_s6 hy) hi ?_
  refine go_istore dX6_playClause_13 (Nat.le_of_ble_eq_true rfl) rfl ?_
  have h := h _ rfl
  refine go_aload_n dX6_playClause_15 rfl ?_
  refine go_getR dX6_playClause_16 fX6_279 rfl (La_s0 hy) (hR _ _ _ (La_r0_4 hy)) ?_
  refine go_iload_n dX6_playClause_19 rfl ?_
  obtain ⟨hi, h⟩ := h
  refine go_iald dX6_playClause_20 (La_s4 hy) hi ?_
  by_cases c0 : (I (y + 4) i.toNatClampNeg) = 3
  · have h := h.1 c0
    refine go_tsIn 52 dX6_playClause_21 (by rw [c0]; decide) (by rw [c0]; decide) (by rw [c0]; rfl) (by decide) ?_
    refine go_aload_n dX6_playClause_52 rfl ?_
    refine go_iload_n dX6_playClause_53 rfl ?_
    refine go_iload dX6_playClause_54 rfl ?_
    obtain ⟨hp_3, h⟩ := h
    refine go_callV0 (μ := mX6_playClause) [.int _, .int _] dX6_playClause_56 YX6_sit lX6_282 rfl ⟨_, rfl, rfl⟩ rfl (Nat.le_of_ble_eq_true rfl) (Nat.le_of_ble_eq_true rfl) rfl (k_X6_sit2 hR hp_3 (fun r_4 I_5 R_6 hq => ?_))
    have h := h r_4 I_5 R_6 hq
    have hRx_7 := hq.1
    exact go_zret dX6_playClause_59 rfl (nz_or h.1) rfl h.2
  by_cases c1 : (I (y + 4) i.toNatClampNeg) = 4
  · have h := h.2.1 c1
    refine go_tsIn 60 dX6_playClause_21 (by rw [c1]; decide) (by rw [c1]; decide) (by rw [c1]; rfl) (by decide) ?_
    refine go_aload_n dX6_playClause_60 rfl ?_
    refine go_iload_n dX6_playClause_61 rfl ?_
    refine go_iload dX6_playClause_62 rfl ?_
    obtain ⟨hp_8, h⟩ := h
    refine go_callV0 (μ := mX6_playClause) [.int _, .int _] dX6_playClause_64 YX6_spoon lX6_285 rfl ⟨_, rfl, rfl⟩ rfl (Nat.le_of_ble_eq_true rfl) (Nat.le_of_ble_eq_true rfl) rfl (k_X6_spoon2 hR hp_8 (fun r_9 I_10 R_11 hq => ?_))
    have h := h r_9 I_10 R_11 hq
    have hRx_12 := hq.1
    refine go_iconst (v := -1) dX6_playClause_67 (by decide) ?_
    refine go_icmp_eq 75 dX6_playClause_68 (by decide) (fun c => ?_) (fun c => ?_)
    · have h := h.1 c
      refine go_iconst (v := 0) dX6_playClause_75 (by decide) ?_
      exact go_zret dX6_playClause_76 rfl rfl rfl h
    · have h := h.2 c
      refine go_iconst (v := 1) dX6_playClause_71 (by decide) ?_
      refine go_goto 76 dX6_playClause_72 (by decide) ?_
      exact go_zret dX6_playClause_76 rfl rfl rfl h
  by_cases c2 : (I (y + 4) i.toNatClampNeg) = 5
  · have h := h.2.2.1 c2
    refine go_tsIn 77 dX6_playClause_21 (by rw [c2]; decide) (by rw [c2]; decide) (by rw [c2]; rfl) (by decide) ?_
    refine go_aload_n dX6_playClause_77 rfl ?_
    refine go_iload_n dX6_playClause_78 rfl ?_
    obtain ⟨hp_14, h⟩ := h
    refine go_callV0 (μ := mX6_playClause) [.int _] dX6_playClause_79 YX6_judge lX6_288 rfl ⟨_, rfl, rfl⟩ rfl (Nat.le_of_ble_eq_true rfl) (Nat.le_of_ble_eq_true rfl) rfl (k_X6_judge2 hR hp_14 (fun r_15 I_16 R_17 hq => ?_))
    have h := h r_15 I_16 R_17 hq
    have hRx_18 := hq.1
    refine go_iconst (v := -1) dX6_playClause_82 (by decide) ?_
    refine go_icmp_eq 90 dX6_playClause_83 (by decide) (fun c => ?_) (fun c => ?_)
    · have h := h.1 c
      refine go_iconst (v := 0) dX6_playClause_90 (by decide) ?_
      exact go_zret dX6_playClause_91 rfl rfl rfl h
    · have h := h.2 c
      refine go_iconst (v := 1) dX6_playClause_86 (by decide) ?_
      refine go_goto 91 dX6_playClause_87 (by decide) ?_
      exact go_zret dX6_playClause_91 rfl rfl rfl h
  by_cases c3 : (I (y + 4) i.toNatClampNeg) = 6
  · have h := h.2.2.2.1 c3
    refine go_tsIn 92 dX6_playClause_21 (by rw [c3]; decide) (by rw [c3]; decide) (by rw [c3]; rfl) (by decide) ?_
    refine go_aload_n dX6_playClause_92 rfl ?_
    refine go_iload_n dX6_playClause_93 rfl ?_
    obtain ⟨hp_20, h⟩ := h
    refine go_callV0 (μ := mX6_playClause) [.int _] dX6_playClause_94 YX6_flies lX6_291 rfl ⟨_, rfl, rfl⟩ rfl (Nat.le_of_ble_eq_true rfl) (Nat.le_of_ble_eq_true rfl) rfl (k_X6_flies2 hR hp_20 (fun r_21 I_22 R_23 hq => ?_))
    have h := h r_21 I_22 R_23 hq
    have hRx_24 := hq.1
    refine go_iconst (v := -1) dX6_playClause_97 (by decide) ?_
    refine go_icmp_eq 105 dX6_playClause_98 (by decide) (fun c => ?_) (fun c => ?_)
    · have h := h.1 c
      refine go_iconst (v := 0) dX6_playClause_105 (by decide) ?_
      exact go_zret dX6_playClause_106 rfl rfl rfl h
    · have h := h.2 c
      refine go_iconst (v := 1) dX6_playClause_101 (by decide) ?_
      refine go_goto 106 dX6_playClause_102 (by decide) ?_
      exact go_zret dX6_playClause_106 rfl rfl rfl h
  have h := h.2.2.2.2 ⟨c0, c1, c2, c3⟩
  have e0 : ¬ Int32.toInt (I (y + 4) i.toNatClampNeg) = 3 := fun q => c0 (Int32.toInt_inj.mp (q.trans (by decide)))
  have e1 : ¬ Int32.toInt (I (y + 4) i.toNatClampNeg) = 4 := fun q => c1 (Int32.toInt_inj.mp (q.trans (by decide)))
  have e2 : ¬ Int32.toInt (I (y + 4) i.toNatClampNeg) = 5 := fun q => c2 (Int32.toInt_inj.mp (q.trans (by decide)))
  have e3 : ¬ Int32.toInt (I (y + 4) i.toNatClampNeg) = 6 := fun q => c3 (Int32.toInt_inj.mp (q.trans (by decide)))
  refine go_tsOut 107 dX6_playClause_21 (by omega) (by decide) ?_
  refine go_iconst (v := 1) dX6_playClause_107 (by decide) ?_
  exact go_zret dX6_playClause_108 rfl rfl rfl h
