theorem e_X7_stillHolds {G : gG} {I : gI} {R : gR} {L : gL} {Q : gQ} {e : Int32} (hR : g_Fx R) (h : okR I ∧ (∀ v2_2 : Int32, v2_2 = ordV I (1 : Int32) → vp_in e 9 ∧ (∀ I_4 : gI, I_4 = nmI I e → (¬ v2_2 = (-1) → okS I_4 v2_2 ∧ (∀ r_6 : Int64, ∀ L_7 : gL, (r_6.toInt = vl (nmM I_4) (tkM I_4 v2_2.toNatClampNeg) ∧ ∀ a, a ≠ 332 → L_7 a = L a) → ∀ v3_8 : Int32, v3_8 = hdL r_6 (0 : Int32) (9999 : Int32) → vp_in e 9 ∧ ((v3_8 ≤ (I_4 334 e.toNatClampNeg) → Q (some (.int 0)) SH I_4 R L_7) ∧ (¬ v3_8 ≤ (I_4 334 e.toNatClampNeg) → vp_in e 9 ∧ (Q (some (.int (v3_8 - (I_4 334 e.toNatClampNeg)))) SH I_4 R L_7))))) ∧ (v2_2 = (-1) → vp_in ((10 + (3 * e)) + 1) 11120 ∧ (∀ v3_10 : Int32, v3_10 = (20 * (I_4 311 ((10 + (3 * e)) + 1).toNatClampNeg)) → vp_in e 9 ∧ ((v3_10 ≤ (I_4 334 e.toNatClampNeg) → Q (some (.int 0)) SH I_4 R L) ∧ (¬ v3_10 ≤ (I_4 334 e.toNatClampNeg) → vp_in e 9 ∧ (Q (some (.int (v3_10 - (I_4 334 e.toNatClampNeg)))) SH I_4 R L)))))))) : Mt G mX7_stillHolds 5 0 0 [.ref 310, .int e] SH I R L Q := by
  refine go_start rfl (Nat.le_of_ble_eq_true rfl) rfl ?_
  refine go_aload_n dX7_stillHolds_0 rfl ?_
  refine go_iconst (v := 1) dX7_stillHolds_1 (by decide) ?_
  obtain ⟨hp_1, h⟩ := h
  refine go_callV0 (μ := mX7_stillHolds) [.int _] dX7_stillHolds_2 YX7_ordersOf lX7_317 rfl ⟨_, rfl, rfl⟩ rfl (Nat.le_of_ble_eq_true rfl) (Nat.le_of_ble_eq_true rfl) rfl (k_X7_ordersOf hR hp_1 ?_)
  refine go_istore_n dX7_stillHolds_5 (Nat.le_of_ble_eq_true rfl) rfl ?_
  have h := h _ rfl
  refine go_aload_n dX7_stillHolds_6 rfl ?_
  refine go_iload_n dX7_stillHolds_7 rfl ?_
  obtain ⟨hp_3, h⟩ := h
  refine go_callV0 (μ := mX7_stillHolds) [.int _] dX7_stillHolds_8 YX7_names lX7_320 rfl ⟨_, rfl, rfl⟩ rfl (Nat.le_of_ble_eq_true rfl) (Nat.le_of_ble_eq_true rfl) rfl (k_X7_names hR hp_3 ?_)
  have h := h _ rfl
  refine go_iload_n dX7_stillHolds_11 rfl ?_
  refine go_iconst (v := -1) dX7_stillHolds_12 (by decide) ?_
  refine go_icmp_ne 35 dX7_stillHolds_13 (by decide) (fun c => ?_) (fun c => ?_)
  · have h := h.1 c
    refine go_aload_n dX7_stillHolds_35 rfl ?_
    refine go_iload_n dX7_stillHolds_36 rfl ?_
    obtain ⟨hp_5, h⟩ := h
    refine go_callV0 (μ := mX7_stillHolds) [.int _] dX7_stillHolds_37 YX7_saysOf lX7_323 rfl ⟨_, rfl, rfl⟩ rfl (Nat.le_of_ble_eq_true rfl) (Nat.le_of_ble_eq_true rfl) rfl (k_X7_saysOf hR hp_5 (fun r_6 L_7 hq => ?_))
    have h := h r_6 L_7 hq
    refine go_iconst (v := 0) dX7_stillHolds_40 (by decide) ?_
    refine go_sipush (v := 9999) dX7_stillHolds_41 (by decide) ?_
    refine go_callS0 (μ := mX7_stillHolds) [.long _, .int _, .int _] dX7_stillHolds_44 YX7_held lX7_327 rfl (Nat.le_of_ble_eq_true rfl) (Nat.le_of_ble_eq_true rfl) rfl (k_X7_held hR ?_)
    refine go_istore_n dX7_stillHolds_47 (Nat.le_of_ble_eq_true rfl) rfl ?_
    have h := h _ rfl
    refine go_iload_n dX7_stillHolds_48 rfl ?_
    refine go_aload_n dX7_stillHolds_49 rfl ?_
    refine go_getR dX7_stillHolds_50 fX7_88 rfl rfl (hR 310 40 334 rfl) ?_
    refine go_iload_n dX7_stillHolds_53 rfl ?_
    obtain ⟨hi, h⟩ := h
    refine go_iald dX7_stillHolds_54 rfl hi ?_
    refine go_icmp_le 69 dX7_stillHolds_55 (by decide) (fun c => ?_) (fun c => ?_)
    · have h := h.1 c
      refine go_iconst (v := 0) dX7_stillHolds_69 (by decide) ?_
      exact go_iret dX7_stillHolds_70 rfl rfl h
    · have h := h.2 c
      refine go_iload_n dX7_stillHolds_58 rfl ?_
      refine go_aload_n dX7_stillHolds_59 rfl ?_
      refine go_getR dX7_stillHolds_60 fX7_88 rfl rfl (hR 310 40 334 rfl) ?_
      refine go_iload_n dX7_stillHolds_63 rfl ?_
      obtain ⟨hi, h⟩ := h
      refine go_iald dX7_stillHolds_64 rfl hi ?_
      refine go_isub dX7_stillHolds_65 ?_
      refine go_goto 70 dX7_stillHolds_66 (by decide) ?_
      exact go_iret dX7_stillHolds_70 rfl rfl h
  · have h := h.2 c
    refine go_bipush (v := 20) dX7_stillHolds_16 (by decide) ?_
    refine go_aload_n dX7_stillHolds_18 rfl ?_
    refine go_getR dX7_stillHolds_19 fX7_7 rfl rfl (hR 310 0 311 rfl) ?_
    refine go_bipush (v := 10) dX7_stillHolds_22 (by decide) ?_
    refine go_iconst (v := 3) dX7_stillHolds_24 (by decide) ?_
    refine go_iload_n dX7_stillHolds_25 rfl ?_
    refine go_imul dX7_stillHolds_26 ?_
    refine go_iadd dX7_stillHolds_27 ?_
    refine go_iconst (v := 1) dX7_stillHolds_28 (by decide) ?_
    refine go_iadd dX7_stillHolds_29 ?_
    obtain ⟨hi, h⟩ := h
    refine go_iald dX7_stillHolds_30 rfl hi ?_
    refine go_imul dX7_stillHolds_31 ?_
    refine go_goto 47 dX7_stillHolds_32 (by decide) ?_
    refine go_istore_n dX7_stillHolds_47 (Nat.le_of_ble_eq_true rfl) rfl ?_
    have h := h _ rfl
    refine go_iload_n dX7_stillHolds_48 rfl ?_
    refine go_aload_n dX7_stillHolds_49 rfl ?_
    refine go_getR dX7_stillHolds_50 fX7_88 rfl rfl (hR 310 40 334 rfl) ?_
    refine go_iload_n dX7_stillHolds_53 rfl ?_
    obtain ⟨hi, h⟩ := h
    refine go_iald dX7_stillHolds_54 rfl hi ?_
    refine go_icmp_le 69 dX7_stillHolds_55 (by decide) (fun c => ?_) (fun c => ?_)
    · have h := h.1 c
      refine go_iconst (v := 0) dX7_stillHolds_69 (by decide) ?_
      exact go_iret dX7_stillHolds_70 rfl rfl h
    · have h := h.2 c
      refine go_iload_n dX7_stillHolds_58 rfl ?_
      refine go_aload_n dX7_stillHolds_59 rfl ?_
      refine go_getR dX7_stillHolds_60 fX7_88 rfl rfl (hR 310 40 334 rfl) ?_
      refine go_iload_n dX7_stillHolds_63 rfl ?_
      obtain ⟨hi, h⟩ := h
      refine go_iald dX7_stillHolds_64 rfl hi ?_
      refine go_isub dX7_stillHolds_65 ?_
      refine go_goto 70 dX7_stillHolds_66 (by decide) ?_
      exact go_iret dX7_stillHolds_70 rfl rfl h
def dyM (I : gI) : dyn := (fun j => (I 333 j).toInt, fun e => (I 311 (114 + e)).toInt, fun e => (I 334 e).toInt, (I 310 41).toInt)
def lwM (I : gI) (w : Nat) : Option (List tok) := if ordV I (nI w) = -1 then none else some (tkM I (ordV I (nI w)).toNatClampNeg)
def thM (I : gI) : thy := (fun e => (I 311 (10 + 3 * e)).toInt, fun e => (I 311 (10 + 3 * e + 1)).toInt, lwM I)
def okE (I : gI) : Prop := ∀ w, w < 3 → ¬ ordV I (nI w) = -1 → 0 ≤ (ordV I (nI w)).toInt ∧ ∃ n, (ordV I (nI w)).toNatClampNeg + n < 1600 ∧ n < 400 ∧ endM (I 319) (ordV I (nI w)).toNatClampNeg n
def okN (I : gI) : Prop := okT (thM I) ∧ okR I ∧ okE I
theorem hdL_clp {v : Int64} {b : Int32} {B : Int} (hb : b.toInt = B) (h0 : 0 ≤ B) : (hdL v 0 b).toInt = clp 0 B v.toInt := by
  have z0 : (0 : Int32).toInt64.toInt = 0 := rfl
  have z1 : b.toInt64.toInt = B := by rw [toI64, hb]
  have hr := ti_rng b
  unfold hdL clp
  simp only [tl_le, z0, z1]
  by_cases c : 0 ≤ v.toInt
  · by_cases c2 : v.toInt ≤ B
    · rw [if_pos c, if_pos c2, if_neg (show ¬ v.toInt < 0 by omega), if_neg (show ¬ B < v.toInt by omega)]
      exact toI32 (by omega) (by omega)
    · rw [if_pos c, if_neg c2, if_neg (show ¬ v.toInt < 0 by omega), if_pos (show B < v.toInt by omega), hb]
  · rw [if_neg c, if_pos (show v.toInt < 0 by omega)]; rfl
theorem room_eqM {h a : Int32} {H A : Int} (eh : h.toInt = H) (ea : a.toInt = A) (h1 : 0 ≤ H) (h2 : H ≤ 9999) (h3 : 0 ≤ A) (h4 : A ≤ 7000) : (h - a).toInt = H - A := by
  rw [ti_sub] <;> rw [eh, ea] <;> omega
theorem nmI_off {I : gI} {e : Int32} {a : Nat} (h : a ≠ 331) : nmI I e a = I a := by
  unfold nmI; simp only [up_off a h]
theorem ix_e {e : Int32} {j : Nat} (hj : j < 9) (ej : e = nI j) : (10 + 3 * e).toNatClampNeg = 10 + 3 * j ∧ (10 + 3 * e + 1).toNatClampNeg = 10 + 3 * j + 1 ∧ vp_in (10 + 3 * e + 1) 11120 ∧ vp_in (10 + 3 * e) 11120 := by
  have e1 : (3 : Int32) * e = nI (3 * j) := by rw [ej]; exact pk_mul 3 j
  have e2 : (10 : Int32) + 3 * e = nI (10 + 3 * j) := by rw [e1]; exact nI_add 10 (3 * j)
  have e3 : (10 : Int32) + 3 * e + 1 = nI (10 + 3 * j + 1) := by rw [e2]; exact nI_1 _
  rw [e3, e2]
  exact ⟨nI_clamp (by omega), nI_clamp (by omega), vp_in_nI (by omega) (by decide), vp_in_nI (by omega) (by decide)⟩
theorem nmI_at {I : gI} {e : Int32} {j : Nat} (hj : j < 9) (ej : e = nI j) : nmI I e 331 0 = e ∧ nmI I e 331 1 = I 311 (10 + 3 * j) ∧ nmI I e 331 2 = I 311 (10 + 3 * j + 1) ∧ nmI I e 331 3 = I 334 j ∧ ∀ n, 4 ≤ n → nmI I e 331 n = I 331 n := by
  obtain ⟨i1, i2, -, -⟩ := ix_e hj ej
  have cj : e.toNatClampNeg = j := by rw [ej]; exact nI_clamp (by omega)
  unfold nmI
  rw [i1, i2, cj]
  refine ⟨?_, ?_, ?_, ?_, fun n hn => ?_⟩ <;> simp [up] <;> grind
/-- over other names -/
theorem okS_of {I I' : gI} {w : Nat} (hw : w < 3) (hh : ¬ ordV I (nI w) = -1) (hI : okN I) (h1 : I' 319 = I 319) (h2 : I' 320 = I 320) (hn : ∀ t ∈ tkM I (ordV I (nI w)).toNatClampNeg, okn (nmM I') t) :
    lwM I w = some (tkM I (ordV I (nI w)).toNatClampNeg) ∧ okl w (tkM I (ordV I (nI w)).toNatClampNeg) ∧ okS I' (ordV I (nI w)) ∧ tkM I' (ordV I (nI w)).toNatClampNeg = tkM I (ordV I (nI w)).toNatClampNeg := by
  have hl : lwM I w = some (tkM I (ordV I (nI w)).toNatClampNeg) := by unfold lwM; rw [if_neg hh]
  have ho := hI.1.2.2 w _ hw hl
  obtain ⟨a1, n, a2, a3, a4⟩ := hI.2.2 w hw hh
  have et : tkM I' (ordV I (nI w)).toNatClampNeg = tkM I (ordV I (nI w)).toNatClampNeg := by unfold tkM; rw [h1, h2]
  refine ⟨hl, ho, ⟨a1, n, a2, a3, by rw [h1]; exact a4, ?_, ?_⟩, et⟩
  · rw [et]; exact ⟨_, ho.1⟩
  · rw [et]; exact hn
theorem k_X7_stillHolds {G : gG} {I : gI} {R : gR} {L : gL} {Q : gQ} {e : Int32} (hR : g_Fx R) (p0 : vp_in e 9) (p1 : okN I) (p2 : okD (dyM I)) (hq : ∀ r : Int32, ∀ I1 : gI, ∀ L1 : gL, (r.toInt = hld (thM I) (dyM I) e.toNatClampNeg ∧ (∀ a, a ≠ 331 → I1 a = I a) ∧ ∀ a, a ≠ 332 → L1 a = L a) → Q (some (.int r)) SH I1 R L1) : Mt G mX7_stillHolds 5 0 0 [.ref 310, .int e] SH I R L Q := by
  obtain ⟨j, hj, ej⟩ := vp_in_of p0 (by decide)
  have cj : e.toNatClampNeg = j := by rw [ej]; exact nI_clamp (by omega)
  obtain ⟨i1, i2, i3, -⟩ := ix_e hj ej
  have hst : 0 ≤ (I 311 (10 + 3 * j + 1)).toInt ∧ (I 311 (10 + 3 * j + 1)).toInt ≤ 9 := p1.1.2.1 j hj
  have hhu : 0 ≤ (I 311 (10 + 3 * j)).toInt ∧ (I 311 (10 + 3 * j)).toInt ≤ 9 := p1.1.1 j hj
  have hea : 0 ≤ (I 334 j).toInt ∧ (I 334 j).toInt ≤ 7000 := p2.2.2.1 j hj
  have e20 : (20 : Int32).toInt = 20 := rfl
  have s20 : (20 * I 311 (10 + 3 * j + 1)).toInt = 20 * (I 311 (10 + 3 * j + 1)).toInt := by rw [ti_mul] <;> rw [e20] <;> omega
  have hd : (dyM I).2.2.1 j = (I 334 j).toInt := rfl
  have fin : ∀ (h : Int32) (L1 : gL), (∀ a, a ≠ 332 → L1 a = L a) → h.toInt = hl0 (thM I) (dyM I) j → 0 ≤ h.toInt → h.toInt ≤ 9999 → (h ≤ I 334 j → Q (some (.int 0)) SH (nmI I e) R L1) ∧ (¬ h ≤ I 334 j → Q (some (.int (h - I 334 j))) SH (nmI I e) R L1) := by
    intro h L1 hL hh b1 b2
    refine ⟨fun c => hq _ _ L1 ⟨?_, fun a ha => nmI_off ha, hL⟩, fun c => hq _ _ L1 ⟨?_, fun a ha => nmI_off ha, hL⟩⟩
    · rw [ti_le] at c
      rw [cj]
      unfold hld
      rw [← hh, hd, if_neg (show ¬ (I 334 j).toInt < h.toInt by omega)]
      rfl
    · rw [ti_le] at c
      rw [cj]
      unfold hld
      rw [← hh, hd, if_pos (show (I 334 j).toInt < h.toInt by omega)]
      exact room_eqM rfl rfl b1 b2 hea.1 hea.2
  refine e_X7_stillHolds hR ⟨p1.2.1, ?_⟩
  rintro _ rfl
  refine ⟨p0, ?_⟩
  rintro _ rfl
  rw [cj, nmI_off (show (334 : Nat) ≠ 331 by decide), nmI_off (show (311 : Nat) ≠ 331 by decide), i2]
  refine ⟨fun c => ?_, fun c => ⟨i3, ?_⟩⟩
  · obtain ⟨m0, m1, m2, m3, -⟩ := nmI_at (I := I) hj ej
    have hty := p1.1.2.2 1 (tkM I (ordV I (nI 1)).toNatClampNeg) (by decide) (by show lwM I 1 = _; unfold lwM; rw [if_neg (show ¬ ordV I (nI 1) = -1 from c)])
    have hn4 : ∀ t ∈ tkM I (ordV I (nI 1)).toNatClampNeg, t.1 = 401 → 0 ≤ t.2 ∧ t.2 < 4 := fun t ht h401 => ⟨(ty_name hty.1 t ht h401).1, by have := hty.2 t ht h401; simpa using this⟩
    have hnm : ∀ t ∈ tkM I (ordV I (nI 1)).toNatClampNeg, t.1 = 401 → nmM (nmI I e) t.2.toNat = nmv (thM I) (dyM I) j 0 t.2.toNat ∧ -1000000 ≤ nmM (nmI I e) t.2.toNat ∧ nmM (nmI I e) t.2.toNat ≤ 1000000 := by
      intro t ht h401
      have h5 := hn4 t ht h401
      have ee : e.toInt = j := by rw [ej]; exact nI_toInt (by omega)
      rcases (show t.2.toNat = 0 ∨ t.2.toNat = 1 ∨ t.2.toNat = 2 ∨ t.2.toNat = 3 by omega) with h | h | h | h <;> rw [h] <;> unfold nmM
      · rw [m0, ee]; exact ⟨rfl, by omega, by omega⟩
      · rw [m1]; exact ⟨rfl, by omega, by omega⟩
      · rw [m2]; exact ⟨rfl, by omega, by omega⟩
      · rw [m3]; exact ⟨rfl, by omega, by omega⟩
    obtain ⟨w1, w2, w3, w4⟩ := okS_of (I' := nmI I e) (w := 1) (by decide) c p1 (nmI_off (by decide)) (nmI_off (by decide)) (fun t ht h401 => (hnm t ht h401).2)
    refine ⟨w3, ?_⟩
    rintro r L2 ⟨hr, hL2⟩ _ rfl
    have hv : r.toInt = vl (nmv (thM I) (dyM I) j 0) (tkM I (ordV I (nI 1)).toNatClampNeg) := by
      rw [hr]
      show vl _ (tkM (nmI I e) (ordV I (nI 1)).toNatClampNeg) = _
      rw [w4]
      exact vl_congr (fun t ht h401 => (hnm t ht h401).1)
    have h0 : (hdL r 0 9999).toInt = hl0 (thM I) (dyM I) j := by
      rw [hdL_clp (B := 9999) rfl (by decide)]
      unfold hl0
      rw [show (thM I).2.2 1 = some (tkM I (ordV I (nI 1)).toNatClampNeg) from w1, hv]
    have hc := clp_rng 9999 r.toInt (by decide)
    have f := fin (hdL r 0 9999) L2 hL2 h0 (by rw [hdL_clp (B := 9999) rfl (by decide)]; exact hc.1) (by rw [hdL_clp (B := 9999) rfl (by decide)]; exact hc.2)
    exact ⟨p0, f.1, fun c2 => ⟨p0, f.2 c2⟩⟩
  · rintro _ rfl
    have h0 : (20 * I 311 (10 + 3 * j + 1)).toInt = hl0 (thM I) (dyM I) j := by
      rw [s20]
      unfold hl0
      rw [show (thM I).2.2 1 = none from by show lwM I 1 = _; unfold lwM; rw [if_pos (show ordV I (nI 1) = -1 from c)]]
      rfl
    have f := fin (20 * I 311 (10 + 3 * j + 1)) L (fun _ _ => rfl) h0 (by omega) (by omega)
    exact ⟨p0, f.1, fun c2 => ⟨p0, f.2 c2⟩⟩
