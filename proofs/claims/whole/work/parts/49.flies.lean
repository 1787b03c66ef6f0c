theorem e_X6_flies {G : gG} {I : gI} {R : gR} {L : gL} {Q : gQ} {a : Int32} (hR : g_Fx R) (h : (a < 1 → Q (some (.int (-1))) SH I R L) ∧ (¬ a < 1 → (a ≤ 40 → ∀ I_1 : gI, I_1 = up I 0 9 (-1) → (∃ f, okf f ∧ stp I_1 R f) ∧ (∀ I_3 : gI, ∀ R_4 : gR, (g_Fx R_4 ∧ (∀ f, okf f → stp I_1 R f → stp I_3 R_4 (kstF f)) ∧ (∀ a, a ≠ 3 → (a < 9 ∨ 128 < a) → I_3 a = I_1 a) ∧ ∀ j, j ≠ 2 → I_3 3 j = I_1 3 j) → Go G mX6_flies 30 0 0 28 [some (.ref 0), some (.int a), some (.int 0), some (.int 0), none] [] SH I_3 R_4 L Q)) ∧ (¬ a ≤ 40 → Q (some (.int (-1))) SH I R L))) : Mt G mX6_flies 30 0 0 [.ref 0, .int a] SH I R L Q := by
  refine go_start rfl (Nat.le_of_ble_eq_true rfl) rfl ?_
  refine go_iload_n dX6_flies_0 rfl ?_
  refine go_iconst (v := 1) dX6_flies_1 (by decide) ?_
  refine go_icmp_lt 11 dX6_flies_2 (by decide) (fun c => ?_) (fun c => ?_)
  · have h := h.1 c
    refine go_iconst (v := -1) dX6_flies_11 (by decide) ?_
    exact go_iret dX6_flies_12 rfl rfl h
  · have h := h.2 c
    refine go_iload_n dX6_flies_5 rfl ?_
    refine go_bipush (v := 40) dX6_flies_6 (by decide) ?_
    refine go_icmp_le 13 dX6_flies_8 (by decide) (fun c => ?_) (fun c => ?_)
    · have h := h.1 c
      refine go_aload_n dX6_flies_13 rfl ?_
      refine go_callV0 (μ := mX6_flies) [] dX6_flies_14 YX6_forgetSought lX6_65 rfl ⟨_, rfl, rfl⟩ rfl (Nat.le_of_ble_eq_true rfl) (Nat.le_of_ble_eq_true rfl) rfl (k_X6_forgetSought hR ?_)
      have h := h _ rfl
      refine go_aload_n dX6_flies_17 rfl ?_
      refine go_getR dX6_flies_18 fX6_27 rfl rfl (hR 0 2 3 rfl) ?_
      obtain ⟨hp_2, h⟩ := h
      refine go_callV0 (μ := mX6_flies) [] dX6_flies_21 YX1_keepStep lX6_98 rfl ⟨_, rfl, rfl⟩ rfl (Nat.le_of_ble_eq_true rfl) (Nat.le_of_ble_eq_true rfl) rfl (k_X1_keepStep2 hR hp_2 (fun I_3 R_4 hq => ?_))
      have h := h I_3 R_4 hq
      have hRx_5 := hq.1
      refine go_iconst (v := 0) dX6_flies_24 (by decide) ?_
      refine go_istore_n dX6_flies_25 (Nat.le_of_ble_eq_true rfl) rfl ?_
      refine go_iconst (v := 0) dX6_flies_26 (by decide) ?_
      refine go_istore_n dX6_flies_27 (Nat.le_of_ble_eq_true rfl) rfl ?_
      exact h
    · have h := h.2 c
      refine go_iconst (v := -1) dX6_flies_11 (by decide) ?_
      exact go_iret dX6_flies_12 rfl rfl h
theorem b_X6_flies_28 {G : gG} {I : gI} {R : gR} {L : gL} {Q : gQ} {v1 v2 v3 : Int32} (hR : g_Fx R) (h : (v1 ≤ v3 → Q (some (.int v2)) SH I R L) ∧ (¬ v1 ≤ v3 → ∀ I_8 : gI, I_8 = up I 4 5 (drw (I 4 5)) → ∀ v4_9 : Int32, v4_9 = I 4 5 &&& 3 → vp_in v4_9 4 ∧ (((I_8 5 v4_9.toNatClampNeg) ≤ 0 → ∀ v3_10 : Int32, v3_10 = v3 + 1 → Go G mX6_flies 30 0 0 28 [some (.ref 0), some (.int v1), some (.int v2), some (.int v3_10), none] [] SH I_8 R L Q) ∧ (¬ (I_8 5 v4_9.toNatClampNeg) ≤ 0 → vp_in v4_9 4 ∧ (vp_in v4_9 4 ∧ (∀ I_11 : gI, I_11 = up I_8 5 v4_9.toNatClampNeg ((I_8 5 v4_9.toNatClampNeg) - 1) → ∀ v2_12 : Int32, v2_12 = v2 + 1 → ∀ v3_13 : Int32, v3_13 = v3 + 1 → Go G mX6_flies 30 0 0 28 [some (.ref 0), some (.int v1), some (.int v2_12), some (.int v3_13), none] [] SH I_11 R L Q)))))) : Go G mX6_flies 30 0 0 28 [some (.ref 0), some (.int v1), some (.int v2), some (.int v3), none] [] SH I R L Q := by
  refine go_iload_n dX6_flies_28 rfl ?_
  refine go_iload_n dX6_flies_29 rfl ?_
  refine go_icmp_ge 87 dX6_flies_30 (by decide) (fun c => ?_) (fun c => ?_)
  · have h := h.1 c
    refine go_iload_n dX6_flies_87 rfl ?_
    exact go_iret dX6_flies_88 rfl rfl h
  · have h := h.2 c
    refine go_aload_n dX6_flies_33 rfl ?_
    refine go_getR dX6_flies_34 fX6_27 rfl rfl (hR 0 2 3 rfl) ?_
    refine go_getR dX6_flies_37 fX6_68 rfl rfl (hR 3 0 4 rfl) ?_
    refine go_callV0 (μ := mX6_flies) [] dX6_flies_40 YX4_drawPot lX6_126 rfl ⟨_, rfl, rfl⟩ rfl (Nat.le_of_ble_eq_true rfl) (Nat.le_of_ble_eq_true rfl) rfl (k_X4_drawPot hR Sc_4 ?_)
    have h := h _ rfl
    refine go_istore dX6_flies_43 (Nat.le_of_ble_eq_true rfl) rfl ?_
    have h := h _ rfl
    refine go_aload_n dX6_flies_45 rfl ?_
    refine go_getR dX6_flies_46 fX6_27 rfl rfl (hR 0 2 3 rfl) ?_
    refine go_getR dX6_flies_49 fX6_68 rfl rfl (hR 3 0 4 rfl) ?_
    refine go_getR dX6_flies_52 fX6_72 rfl rfl (hR 4 0 5 rfl) ?_
    refine go_iload dX6_flies_55 rfl ?_
    obtain ⟨hi, h⟩ := h
    refine go_iald dX6_flies_57 rfl hi ?_
    refine go_if_le 81 dX6_flies_58 (by decide) (fun c => ?_) (fun c => ?_)
    · have h := h.1 c
      refine go_iinc dX6_flies_81 rfl (Nat.le_of_ble_eq_true rfl) rfl ?_
      have h := h _ rfl
      refine go_goto 28 dX6_flies_84 (by decide) ?_
      refine go_drop 4 ?_
      exact h
    · have h := h.2 c
      refine go_aload_n dX6_flies_61 rfl ?_
      refine go_getR dX6_flies_62 fX6_27 rfl rfl (hR 0 2 3 rfl) ?_
      refine go_getR dX6_flies_65 fX6_68 rfl rfl (hR 3 0 4 rfl) ?_
      refine go_getR dX6_flies_68 fX6_72 rfl rfl (hR 4 0 5 rfl) ?_
      refine go_iload dX6_flies_71 rfl ?_
      refine go_dup2 dX6_flies_73 rfl rfl ?_
      obtain ⟨hi, h⟩ := h
      refine go_iald dX6_flies_74 rfl hi ?_
      refine go_iconst (v := 1) dX6_flies_75 (by decide) ?_
      refine go_isub dX6_flies_76 ?_
      obtain ⟨hi, h⟩ := h
      refine go_iast dX6_flies_77 rfl hi ?_
      have h := h _ rfl
      refine go_iinc dX6_flies_78 rfl (Nat.le_of_ble_eq_true rfl) rfl ?_
      have h := h _ rfl
      refine go_iinc dX6_flies_81 rfl (Nat.le_of_ble_eq_true rfl) rfl ?_
      have h := h _ rfl
      refine go_goto 28 dX6_flies_84 (by decide) ?_
      refine go_drop 4 ?_
      exact h
theorem e_X7_flies {G : gG} {I : gI} {R : gR} {L : gL} {Q : gQ} {a : Int32} (hR : g_Fx R) (h : ((1 : Int32) ≤ a ∧ a ≤ (40 : Int32) → (0 ≤ (I 311 3).toInt ∧ (I 311 3).toInt ≤ 30) ∧ (∀ I_2 : gI, I_2 = sa I 311 (kstF (I 311)) → Go G mX7_flies 30 0 0 20 [some (.ref 310), some (.int a), some (.int 0), some (.int 0), none] [] SH I_2 R L Q)) ∧ (¬ ((1 : Int32) ≤ a ∧ a ≤ (40 : Int32)) → Q (some (.int (-1))) SH I R L)) : Mt G mX7_flies 30 0 0 [.ref 310, .int a] SH I R L Q := by
  refine go_start rfl (Nat.le_of_ble_eq_true rfl) rfl ?_
  refine go_iload_n dX7_flies_0 rfl ?_
  refine go_iconst (v := 1) dX7_flies_1 (by decide) ?_
  refine go_bipush (v := 40) dX7_flies_2 (by decide) ?_
  refine go_callS0 (μ := mX7_flies) [.int _, .int _, .int _] dX7_flies_4 YX7_in lX7_110 rfl (Nat.le_of_ble_eq_true rfl) (Nat.le_of_ble_eq_true rfl) rfl (k_X7_in hR ?_)
  refine go_if_ne 12 dX7_flies_7 (by decide) (fun c => ?_) (fun c => ?_)
  · have h := h.1 (b1.mp c)
    refine go_aload_n dX7_flies_12 rfl ?_
    obtain ⟨hp_1, h⟩ := h
    refine go_callV0 (μ := mX7_flies) [] dX7_flies_13 YX7_keepsStep lX7_346 rfl ⟨_, rfl, rfl⟩ rfl (Nat.le_of_ble_eq_true rfl) (Nat.le_of_ble_eq_true rfl) rfl (k_X7_keepsStep hR hp_1 ?_)
    have h := h _ rfl
    refine go_iconst (v := 0) dX7_flies_16 (by decide) ?_
    refine go_istore_n dX7_flies_17 (Nat.le_of_ble_eq_true rfl) rfl ?_
    refine go_iconst (v := 0) dX7_flies_18 (by decide) ?_
    refine go_istore_n dX7_flies_19 (Nat.le_of_ble_eq_true rfl) rfl ?_
    exact h
  · have h := h.2 (b0.mp c)
    refine go_iconst (v := -1) dX7_flies_10 (by decide) ?_
    exact go_iret dX7_flies_11 rfl rfl h
theorem b_X7_flies_20 {G : gG} {I : gI} {R : gR} {L : gL} {Q : gQ} {v1 v2 v3 : Int32} (hR : g_Fx R) (h : (v1 ≤ v3 → Q (some (.int v2)) SH I R L) ∧ (¬ v1 ≤ v3 → (¬ (4 : Int32) = 0) ∧ (∀ I_5 : gI, I_5 = up I 311 464 (drw (I 311 464)) → ∀ v4_6 : Int32, v4_6 = I 311 464 - I 311 464 / (4 : Int32) * (4 : Int32) → vp_in (110 + v4_6) 11120 ∧ (((I_5 311 (110 + v4_6).toNatClampNeg) ≤ 0 → ∀ v3_7 : Int32, v3_7 = v3 + 1 → Go G mX7_flies 30 0 0 20 [some (.ref 310), some (.int v1), some (.int v2), some (.int v3_7), none] [] SH I_5 R L Q) ∧ (¬ (I_5 311 (110 + v4_6).toNatClampNeg) ≤ 0 → vp_in (110 + v4_6) 11120 ∧ (vp_in (110 + v4_6) 11120 ∧ (∀ I_8 : gI, I_8 = up I_5 311 (110 + v4_6).toNatClampNeg ((I_5 311 (110 + v4_6).toNatClampNeg) - 1) → ∀ v2_9 : Int32, v2_9 = v2 + 1 → ∀ v3_10 : Int32, v3_10 = v3 + 1 → Go G mX7_flies 30 0 0 20 [some (.ref 310), some (.int v1), some (.int v2_9), some (.int v3_10), none] [] SH I_8 R L Q))))))) : Go G mX7_flies 30 0 0 20 [some (.ref 310), some (.int v1), some (.int v2), some (.int v3), none] [] SH I R L Q := by
  refine go_iload_n dX7_flies_20 rfl ?_
  refine go_iload_n dX7_flies_21 rfl ?_
  refine go_icmp_ge 68 dX7_flies_22 (by decide) (fun c => ?_) (fun c => ?_)
  · have h := h.1 c
    refine go_iload_n dX7_flies_68 rfl ?_
    exact go_iret dX7_flies_69 rfl rfl h
  · have h := h.2 c
    refine go_aload_n dX7_flies_25 rfl ?_
    refine go_iconst (v := 4) dX7_flies_26 (by decide) ?_
    obtain ⟨hp_4, h⟩ := h
    refine go_callV0 (μ := mX7_flies) [.int _] dX7_flies_27 YX7_draw lX7_355 rfl ⟨_, rfl, rfl⟩ rfl (Nat.le_of_ble_eq_true rfl) (Nat.le_of_ble_eq_true rfl) rfl (k_X7_draw hR hp_4 ?_)
    have h := h _ rfl
    refine go_istore dX7_flies_30 (Nat.le_of_ble_eq_true rfl) rfl ?_
    have h := h _ rfl
    refine go_aload_n dX7_flies_32 rfl ?_
    refine go_getR dX7_flies_33 fX7_7 rfl rfl (hR 310 0 311 rfl) ?_
    refine go_bipush (v := 110) dX7_flies_36 (by decide) ?_
    refine go_iload dX7_flies_38 rfl ?_
    refine go_iadd dX7_flies_40 ?_
    obtain ⟨hi, h⟩ := h
    refine go_iald dX7_flies_41 rfl hi ?_
    refine go_if_le 62 dX7_flies_42 (by decide) (fun c => ?_) (fun c => ?_)
    · have h := h.1 c
      refine go_iinc dX7_flies_62 rfl (Nat.le_of_ble_eq_true rfl) rfl ?_
      have h := h _ rfl
      refine go_goto 20 dX7_flies_65 (by decide) ?_
      refine go_drop 4 ?_
      exact h
    · have h := h.2 c
      refine go_aload_n dX7_flies_45 rfl ?_
      refine go_getR dX7_flies_46 fX7_7 rfl rfl (hR 310 0 311 rfl) ?_
      refine go_bipush (v := 110) dX7_flies_49 (by decide) ?_
      refine go_iload dX7_flies_51 rfl ?_
      refine go_iadd dX7_flies_53 ?_
      refine go_dup2 dX7_flies_54 rfl rfl ?_
      obtain ⟨hi, h⟩ := h
      refine go_iald dX7_flies_55 rfl hi ?_
      refine go_iconst (v := 1) dX7_flies_56 (by decide) ?_
      refine go_isub dX7_flies_57 ?_
      obtain ⟨hi, h⟩ := h
      refine go_iast dX7_flies_58 rfl hi ?_
      have h := h _ rfl
      refine go_iinc dX7_flies_59 rfl (Nat.le_of_ble_eq_true rfl) rfl ?_
      have h := h _ rfl
      refine go_iinc dX7_flies_62 rfl (Nat.le_of_ble_eq_true rfl) rfl ?_
      have h := h _ rfl
      refine go_goto 20 dX7_flies_65 (by decide) ?_
      refine go_drop 4 ?_
      exact h
/-! flies -/
def flP (f : Nat → Int32) : Nat := (f 464 &&& 3).toNatClampNeg
def flS (f : Nat → Int32) : Nat → Int32 := if f (110 + flP f) ≤ 0 then upd f 464 (drw (f 464)) else upd (upd f 464 (drw (f 464))) (110 + flP f) (f (110 + flP f) - 1)
def flN (f : Nat → Int32) : Nat → Nat → Int32
  | 0 => f
  | k + 1 => flS (flN f k)
def flG (f : Nat → Int32) : Nat → Int32
  | 0 => 0
  | k + 1 => if flN f k (110 + flP (flN f k)) ≤ 0 then flG f k else flG f k + 1
theorem drw_ok {z : Int32} (h0 : 0 ≤ z.toInt) (h1 : z.toInt < 50000) : 0 ≤ (drw z).toInt ∧ (drw z).toInt < 50000 := by
  have c := ci h0
  have e : z = nI z.toNatClampNeg := nI_of_toInt h0
  unfold drw
  rw [e, show (181 : Int32) = nI 181 from rfl, show (101 : Int32) = nI 101 from rfl, nI_mul, nI_add, show (30029 : Int32) = nI 30029 from rfl, nI_mod (by omega) (by decide)]
  have := Nat.mod_lt (z.toNatClampNeg * 181 + 101) (show 30029 > 0 by decide)
  rw [nI_toInt (by omega)]
  omega
theorem fl_x {f : Nat → Int32} (o : okf f) : ∃ x, x < 50000 ∧ f 464 = nI x ∧ flP f = x % 4 ∧ flP f < 4 := by
  have h := o.2.1.2.2.2.2.2.1
  have e : row f 110 354 = f 464 := rfl
  rw [e] at h
  have c := ci h.1
  have e2 : f 464 = nI (f 464).toNatClampNeg := nI_of_toInt h.1
  have e3 : flP f = (f 464).toNatClampNeg % 4 := by unfold flP; rw [e2, nI_and3, nI_clamp (by omega), nI_clamp (by omega)]
  exact ⟨(f 464).toNatClampNeg, by omega, e2, e3, by omega⟩
theorem fl_at {f : Nat → Int32} (o : okf f) : (∀ k, k < 110 → flS f k = f k) ∧ (∀ k, 470 ≤ k → flS f k = f k) ∧ (∀ m, row (flS f) 110 m = if m = 354 then drw (f 464) else if m = flP f ∧ ¬ f (110 + flP f) ≤ 0 then f (110 + flP f) - 1 else row f 110 m) := by
  obtain ⟨x, hx, ex, ep, hp⟩ := fl_x o
  refine ⟨fun k hk => ?_, fun k hk => ?_, fun m => ?_⟩
  · unfold flS; split
    · rw [ud_ne (by omega)]
    · rw [ud_ne (by omega), ud_ne (by omega)]
  · unfold flS; split
    · rw [ud_ne (by omega)]
    · rw [ud_ne (by omega), ud_ne (by omega)]
  · show flS f (110 + m) = _
    unfold flS row
    by_cases h1 : m = 354
    · rw [if_pos h1, h1]; split
      · rw [ud_eq]
      · rw [ud_ne (by omega), ud_eq]
    · rw [if_neg h1]
      by_cases c : f (110 + flP f) ≤ 0
      · rw [if_pos c, ud_ne (by omega), if_neg (fun q => q.2 c)]
      · rw [if_neg c]
        by_cases h2 : m = flP f
        · rw [if_pos ⟨h2, c⟩, h2, ud_eq]
        · rw [if_neg (fun q => h2 q.1), ud_ne (by omega), ud_ne (by omega)]
theorem fl_ok {f : Nat → Int32} (o : okf f) : okf (flS f) := by
  obtain ⟨x, hx, ex, ep, hp⟩ := fl_x o
  obtain ⟨e1, e2, e3⟩ := fl_at o
  have o' := o
  obtain ⟨o1, o2, o3, o4, o5, o6, o7⟩ := o'.2.1
  have off : ∀ m, m ≠ 354 → 4 ≤ m → row (flS f) 110 m = row f 110 m := fun m h1 h2 => by rw [e3, if_neg h1, if_neg (by omega)]
  refine okf_now o e1 e2 ?_ (by rw [off 22 (by omega) (by omega)]; omega) (by rw [off 263 (by omega) (by omega)]; omega)
  unfold okr
  rw [off 22 (by omega) (by omega), off 263 (by omega) (by omega)]
  have e354 : row (flS f) 110 354 = drw (f 464) := by rw [e3, if_pos rfl]
  rw [e354]
  refine ⟨fun m hm => ?_, fun m hm => by rw [off _ (by omega) (by omega)]; exact o2 m hm, fun m hm => by rw [off _ (by omega) (by omega)]; exact o3 m hm, o4, o5, drw_ok o6.1 o6.2, fun m h1 hm => by rw [off _ (by omega) (by omega), off _ (by omega) (by omega)]; exact o7 m h1 hm⟩
  rw [e3, if_neg (by omega)]
  by_cases c : m = flP f ∧ ¬ f (110 + flP f) ≤ 0
  · rw [if_pos c]
    have h1 := o1 (flP f) hp
    have h2 : row f 110 (flP f) = f (110 + flP f) := rfl
    rw [h2] at h1
    have h3 := c.2
    have z0 : (0 : Int32).toInt = 0 := rfl
    have z1 : (1 : Int32).toInt = 1 := rfl
    rw [ti_le, z0] at h3
    rw [ti_sub] <;> rw [z1] <;> omega
  · rw [if_neg c]; exact o1 m hm
theorem flN_ok {f : Nat → Int32} (o : okf f) : ∀ n, okf (flN f n) ∧ ∀ k, k < 110 → flN f n k = f k
  | 0 => ⟨o, fun _ _ => rfl⟩
  | n + 1 => ⟨fl_ok (flN_ok o n).1, fun k hk => ((fl_at (flN_ok o n).1).1 k hk).trans ((flN_ok o n).2 k hk)⟩
theorem fl_stp {I : gI} {R : gR} {f : Nat → Int32} (s : stp I R f) (o : okf f) : I 4 5 = f 464 ∧ (∀ j, j < 4 → I 5 j = f (110 + j)) ∧ (f (110 + flP f) ≤ 0 → stp (up I 4 5 (drw (I 4 5))) R (flS f)) ∧ (¬ f (110 + flP f) ≤ 0 → stp (up (up I 4 5 (drw (I 4 5))) 5 (flP f) (I 5 (flP f) - 1)) R (flS f)) := by
  obtain ⟨x, hx, ex, ep, hp⟩ := fl_x o
  obtain ⟨e1, e2, e3⟩ := fl_at o
  obtain ⟨π, g2, g3⟩ := id s
  have s5 : I 4 5 = f 464 := g3.2.1.2.2.2.2.2.1
  have p5 : ∀ j, j < 4 → I 5 j = f (110 + j) := fun j hj => g3.2.1.1 j hj
  have off : ∀ m, m ≠ 354 → 4 ≤ m → row (flS f) 110 m = row f 110 m := fun m h1 h2 => by rw [e3, if_neg h1, if_neg (by omega)]
  have e354 : row (flS f) 110 354 = drw (f 464) := by rw [e3, if_pos rfl]
  have w4 := ci o.2.1.2.2.2.1.1
  have w4' := o.2.1.2.2.2.1.2
  have w5 := ci o.2.1.2.2.2.2.1.1
  have w5' := o.2.1.2.2.2.2.1.2
  refine ⟨s5, p5, fun c => ?_, fun c => ?_⟩
  · refine stp_now s o e1 e2 (up_off _ (by decide)) (up_off _ (by decide)) (up_off _ (by decide)) (up_off _ (by decide)) (up_off _ (by decide)) (fun x h1 h2 => up_off _ (by omega)) (fun _ _ => by rw [up_off _ (by decide)]) (fun _ _ => by rw [up_off _ (by decide)]) ?_
    rintro ⟨q1, q2, q3, q4, q5, q6, q7, q8⟩
    unfold scR
    rw [off 22 (by omega) (by omega), off 263 (by omega) (by omega), e354, up_off 132 (by decide), up_off 133 (by decide), up_off (4 + 1) (by decide), up_off (4 + 2) (by decide), up_off (4 + 3) (by decide), up_ni (by decide), up_ni (by decide), up_eq, s5]
    refine ⟨fun m hm => by rw [e3, if_neg (by omega), if_neg (fun q => q.2 c)]; exact q1 m hm, fun m hm => by rw [off _ (by omega) (by omega)]; exact q2 m hm, fun m hm => by rw [off _ (by omega) (by omega)]; exact q3 m hm, q4, q5, rfl, fun m hm => by rw [off _ (by omega) (by omega)]; exact q7 m hm, fun m hm => by rw [off _ (by omega) (by omega)]; exact q8 m hm⟩
  · have uo : ∀ x, x ≠ 4 → x ≠ 5 → up (up I 4 5 (drw (I 4 5))) 5 (flP f) (I 5 (flP f) - 1) x = I x := fun x h1 h2 => by rw [up_off _ h2, up_off _ h1]
    refine stp_now s o e1 e2 (uo _ (by decide) (by decide)) (uo _ (by decide) (by decide)) (uo _ (by decide) (by decide)) (uo _ (by decide) (by decide)) (uo _ (by decide) (by decide)) (fun x h1 h2 => uo _ (by omega) (by omega)) (fun _ _ => by rw [uo _ (by decide) (by decide)]) (fun _ _ => by rw [uo _ (by decide) (by decide)]) ?_
    rintro ⟨q1, q2, q3, q4, q5, q6, q7, q8⟩
    unfold scR
    rw [off 22 (by omega) (by omega), off 263 (by omega) (by omega), e354, uo 132 (by decide) (by decide), uo 133 (by decide) (by decide), uo (4 + 2) (by decide) (by decide), uo (4 + 3) (by decide) (by decide), up_off 4 (by decide), up_ni (by decide), up_ni (by decide), up_eq, s5]
    refine ⟨fun m hm => ?_, fun m hm => by rw [off _ (by omega) (by omega)]; exact q2 m hm, fun m hm => by rw [off _ (by omega) (by omega)]; exact q3 m hm, q4, q5, rfl, fun m hm => by rw [off _ (by omega) (by omega)]; exact q7 m hm, fun m hm => by rw [off _ (by omega) (by omega)]; exact q8 m hm⟩
    show up (up I 4 5 (drw (f 464))) 5 (flP f) (I 5 (flP f) - 1) 5 m = _
    rw [e3, if_neg (by omega)]
    by_cases hm2 : m = flP f
    · rw [if_pos ⟨hm2, c⟩, hm2, up_eq, p5 _ hp]
    · rw [if_neg (fun q => hm2 q.1), up_ni hm2, up_nc (by decide)]; exact q1 m hm
def flA (a : Int32) : Prop := 1 ≤ a.toInt ∧ a.toInt ≤ 40
def flF (f : Nat → Int32) (a : Int32) : Nat → Int32 := flN (kstF f) a.toNatClampNeg
def flV (f : Nat → Int32) (a : Int32) : Int32 := flG (kstF f) a.toNatClampNeg
theorem fl_fin {f : Nat → Int32} {a : Int32} (o : okf f) : okf (flF f a) ∧ ∀ k, k < 110 → k ≠ 3 → flF f a k = f k := by
  have h := flN_ok (okf_kst o) a.toNatClampNeg
  exact ⟨h.1, fun k hk h3 => (h.2 k hk).trans (kst_k o k (by omega) h3)⟩
theorem c_flies {G : gG} {I : gI} {R : gR} {L : gL} {Q : gQ} {a : Int32} {θ : thy} {f : Nat → Int32} (hF : g_Fx R) (h : CI I R θ f) (hq0 : ¬ flA a → Q (some (.int (-1))) SH I R L) (hq1 : ∀ I1 R1, flA a → stepC I I1 R1 θ f (flF f a) → Q (some (.int (flV f a))) SH I1 R1 L) : Mt G mX6_flies 30 0 0 [.ref 0, .int a] SH I R L Q := by
  obtain ⟨o, s, k, e⟩ := id h
  have z40 : (40 : Int32).toInt = 40 := rfl
  have z1 : (1 : Int32).toInt = 1 := rfl
  have z0 : (0 : Int32).toInt = 0 := rfl
  refine e_X6_flies hF ⟨fun d1 => hq0 (fun q => by rw [ti_lt, z1] at d1; have := q.1; omega), fun d1 => ⟨fun d2 => ?_, fun d2 => hq0 (fun q => d2 (ti_le.mpr (by rw [z40]; exact q.2)))⟩⟩
  rw [ti_lt, z1] at d1
  rw [ti_le, z40] at d2
  have hA : flA a := ⟨by omega, d2⟩
  rintro _ rfl
  have s' : stp (up I 0 9 (-1)) R f := stp_off s o (fun x h1 h2 => up_off _ (by omega))
  refine ⟨⟨f, o, s'⟩, ?_⟩
  rintro I3 R4 ⟨k1, k2, k3, k4⟩
  have sk := k2 f o s'
  have ok := okf_kst o
  have ca := ci (x := a) (by omega)
  have ea : a = nI a.toNatClampNeg := nI_of_toInt (by omega)
  have hfin := fl_fin (a := a) o
  unfold flF at hfin
  generalize hN : a.toNatClampNeg = N at *
  have loop : ∀ J : gI, stp J R4 (flN (kstF f) 0) → (∀ x, x ≠ 4 → x ≠ 5 → J x = I3 x) → Go G mX6_flies 30 0 0 28 [some (.ref 0), some (.int a), some (.int (flG (kstF f) 0)), some (.int (nI 0)), none] [] SH J R4 L Q := by
    refine cnt (P := fun i => ∀ J : gI, stp J R4 (flN (kstF f) i) → (∀ x, x ≠ 4 → x ≠ 5 → J x = I3 x) → Go G mX6_flies 30 0 0 28 [some (.ref 0), some (.int a), some (.int (flG (kstF f) i)), some (.int (nI i)), none] [] SH J R4 L Q) N (fun i hi ih J hJ hx => ?_) (fun J hJ hx => ?_)
    · refine b_X6_flies_28 k1 ⟨fun d => absurd d (by rw [ea]; exact nI_ge hi (by omega)), fun _ => ?_⟩
      have oi := (flN_ok ok i).1
      obtain ⟨x, hx1, ex, ep, hp⟩ := fl_x oi
      obtain ⟨t1, t2, t3, t4⟩ := fl_stp hJ oi
      have eP : J 4 5 &&& 3 = nI (flP (flN (kstF f) i)) := by rw [t1, ex, nI_and3, ← ep]
      rintro _ rfl _ rfl
      rw [eP, nI_clamp (by omega)]
      refine ⟨vp_in_nI hp (by decide), fun d => ?_, fun d => ⟨vp_in_nI hp (by decide), vp_in_nI hp (by decide), ?_⟩⟩
      · rw [up_nc (by decide), t2 _ hp] at d
        rintro _ rfl
        have := ih _ (t3 d) (fun x h1 h2 => by rw [up_off _ h1]; exact hx x h1 h2)
        simp only [flG, if_pos d] at this
        rw [nI_1]
        exact this
      · rw [up_nc (by decide), t2 _ hp] at d
        rintro _ rfl _ rfl _ rfl
        rw [up_nc (by decide)]
        have := ih _ (t4 d) (fun x h1 h2 => by rw [up_off _ h2, up_off _ h1]; exact hx x h1 h2)
        simp only [flG, if_neg d] at this
        rw [nI_1]
        exact this
    · refine b_X6_flies_28 k1 ⟨fun _ => ?_, fun d => absurd (by rw [ea]; exact ti_le.mpr (Int.le_refl _)) d⟩
      have e10 : J 3 10 = I 3 10 := by rw [hx 3 (by decide) (by decide), k4 10 (by decide), up_nc (by decide)]
      have hxx : ∀ x, x ≠ 0 → x ≠ 3 → x ≠ 4 → x ≠ 5 → (x < 9 ∨ 128 < x) → J x = I x := fun x h0 h1 h2 h3 h4 => by rw [hx x h2 h3, k3 x h1 h4, up_off _ h0]
      have hJ0 : J 0 = up I 0 9 (-1) 0 := by rw [hx 0 (by decide) (by decide), k3 0 (by decide) (by decide)]
      have := hq1 J R4 hA
      unfold flF flV at this
      rw [hN] at this
      exact this ⟨k1, ⟨hfin.1, hJ, okI_of e10 (fun x hx' => hxx x (by omega) (by omega) (by omega) (by omega) (by omega)) k, by rw [thC_of2 e10 (fun x hx' => hxx x (by omega) (by omega) (by omega) (by omega) (by omega))]; exact e⟩, ⟨fun x h1 h2 h3 => hxx x (by omega) (by omega) (by omega) (by omega) (by omega), fun m hm => by rw [hJ0, up_ni hm], hxx 1 (by decide) (by decide) (by decide) (by decide) (by decide)⟩, Or.inl (by rw [hJ0, up_eq])⟩
  exact loop I3 sk (fun _ _ _ => rfl)
theorem m_flies {G : gG} {I : gI} {R : gR} {L : gL} {Q : gQ} {a : Int32} {θ : thy} (hF : g_Fx R) (h : MI I θ) (hq0 : ¬ flA a → Q (some (.int (-1))) SH I R L) (hq1 : ∀ I1, flA a → stepM I I1 θ (flF (I 311) a) → Q (some (.int (flV (I 311) a))) SH I1 R L) : Mt G mX7_flies 30 0 0 [.ref 310, .int a] SH I R L Q := by
  have o := h.1
  have z40 : (40 : Int32).toInt = 40 := rfl
  have z1 : (1 : Int32).toInt = 1 := rfl
  refine e_X7_flies hF ⟨fun d => ⟨o.1.2.2.2.1, ?_⟩, fun d => hq0 (fun q => d ⟨ti_le.mpr (by rw [z1]; exact q.1), ti_le.mpr (by rw [z40]; exact q.2)⟩)⟩
  obtain ⟨d1, d2⟩ := d
  rw [ti_le, z1] at d1
  rw [ti_le, z40] at d2
  have hA : flA a := ⟨d1, d2⟩
  rintro _ rfl
  have ok := okf_kst o
  have ca := ci (x := a) (by omega)
  have ea : a = nI a.toNatClampNeg := nI_of_toInt (by omega)
  have hfin := fl_fin (a := a) o
  unfold flF at hfin
  generalize hN : a.toNatClampNeg = N at *
  have loop : Go G mX7_flies 30 0 0 20 [some (.ref 310), some (.int a), some (.int (flG (kstF (I 311)) 0)), some (.int (nI 0)), none] [] SH (sa I 311 (flN (kstF (I 311)) 0)) R L Q := by
    refine cnt (P := fun i => Go G mX7_flies 30 0 0 20 [some (.ref 310), some (.int a), some (.int (flG (kstF (I 311)) i)), some (.int (nI i)), none] [] SH (sa I 311 (flN (kstF (I 311)) i)) R L Q) N (fun i hi ih => ?_) ?_
    · refine b_X7_flies_20 hF ⟨fun d => absurd d (by rw [ea]; exact nI_ge hi (by omega)), fun _ => ⟨by decide, ?_⟩⟩
      have oi := (flN_ok ok i).1
      obtain ⟨x, hx1, ex, ep, hp⟩ := fl_x oi
      rintro _ rfl _ rfl
      rw [sa_eq]
      have eP : flN (kstF (I 311)) i 464 - flN (kstF (I 311)) i 464 / (4 : Int32) * (4 : Int32) = nI (flP (flN (kstF (I 311)) i)) := by rw [ex, show (4 : Int32) = nI 4 from rfl, nI_mod (by omega) (by decide), ← ep]
      rw [eP, show (110 : Int32) + nI (flP (flN (kstF (I 311)) i)) = nI (110 + flP (flN (kstF (I 311)) i)) from nI_add 110 _, nI_clamp (by omega)]
      have ev : up (sa I 311 (flN (kstF (I 311)) i)) 311 464 (drw (flN (kstF (I 311)) i 464)) 311 (110 + flP (flN (kstF (I 311)) i)) = flN (kstF (I 311)) i (110 + flP (flN (kstF (I 311)) i)) := by rw [up_ni (by omega), sa_eq]
      rw [ev]
      refine ⟨vp_in_nI (by omega) (by decide), fun d => ?_, fun d => ⟨vp_in_nI (by omega) (by decide), vp_in_nI (by omega) (by decide), ?_⟩⟩
      · rintro _ rfl
        have e2 : flN (kstF (I 311)) (i + 1) = upd (flN (kstF (I 311)) i) 464 (drw (flN (kstF (I 311)) i 464)) := by show flS _ = _; unfold flS; rw [if_pos d]
        rw [e2] at ih
        simp only [flG, if_pos d] at ih
        rw [nI_1, up_sa, sa_eq, sa_sa]
        exact ih
      · rintro _ rfl _ rfl _ rfl
        have e2 : flN (kstF (I 311)) (i + 1) = upd (upd (flN (kstF (I 311)) i) 464 (drw (flN (kstF (I 311)) i 464))) (110 + flP (flN (kstF (I 311)) i)) (flN (kstF (I 311)) i (110 + flP (flN (kstF (I 311)) i)) - 1) := by show flS _ = _; unfold flS; rw [if_neg d]
        rw [e2] at ih
        simp only [flG, if_neg d] at ih
        simp only [nI_1, up_sa, sa_eq, sa_sa]
        exact ih
    · refine b_X7_flies_20 hF ⟨fun _ => ?_, fun d => absurd (by rw [ea]; exact ti_le.mpr (Int.le_refl _)) d⟩
      have := hq1 (sa I 311 (flN (kstF (I 311)) N)) hA
      unfold flF flV at this
      rw [hN] at this
      exact this (MI_keep h hfin.1 (sa_eq _ _ _) hfin.2 ⟨fun x x1 _ _ _ _ => sa_off x1, fun j _ => by rw [sa_off (by decide)]⟩)
  exact loop
