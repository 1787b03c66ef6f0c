theorem e_X0_ruling {G : gG} {I : gI} {R : gR} {L : gL} {Q : gQ} (hR : g_Fx R) (h : ∀ v1_1 : Int32, v1_1 = (I 3 10) → (v1_1 < 0 → Q (some (.null)) SH I R L) ∧ (¬ v1_1 < 0 → (v1_1 < 4 → vp_in v1_1 4 ∧ (∃ y_2, R 135 v1_1.toNatClampNeg = some y_2 ∧ g_La y_2 ∧ (Q (some (.ref y_2)) SH I R L))) ∧ (¬ v1_1 < 4 → Q (some (.null)) SH I R L))) : Mt G mX0_ruling 1 0 0 [.ref 2] SH I R L Q := by
  refine go_start rfl (Nat.le_of_ble_eq_true rfl) rfl ?_
  refine go_aload_n dX0_ruling_0 rfl ?_
  refine go_getR dX0_ruling_1 fX0_12 rfl rfl (hR 2 0 3 rfl) ?_
  refine go_getI dX0_ruling_4 fX0_93 rfl rfl ?_
  refine go_istore_n dX0_ruling_7 (Nat.le_of_ble_eq_true rfl) rfl ?_
  have h := h _ rfl
  refine go_iload_n dX0_ruling_8 rfl ?_
  refine go_if_lt 21 dX0_ruling_9 (by decide) (fun c => ?_) (fun c => ?_)
  · have h := h.1 c
    refine go_null dX0_ruling_21 ?_
    refine go_goto 31 dX0_ruling_22 (by decide) ?_
    exact go_aret (Or.inl rfl) dX0_ruling_31 rfl rfl h
  · have h := h.2 c
    refine go_iload_n dX0_ruling_12 rfl ?_
    refine go_aload_n dX0_ruling_13 rfl ?_
    refine go_getR dX0_ruling_14 fX0_20 rfl rfl (hR 2 1 135 rfl) ?_
    refine go_alen (v := 4) 4 dX0_ruling_17 rfl (by decide) (by decide) ?_
    refine go_icmp_lt 25 dX0_ruling_18 (by decide) (fun c => ?_) (fun c => ?_)
    · have h := h.1 c
      refine go_aload_n dX0_ruling_25 rfl ?_
      refine go_getR dX0_ruling_26 fX0_20 rfl rfl (hR 2 1 135 rfl) ?_
      refine go_iload_n dX0_ruling_29 rfl ?_
      obtain ⟨hi, h⟩ := h
      obtain ⟨y_2, hry_2, hy_2, h⟩ := h
      refine go_aald5 dX0_ruling_30 rfl hi hry_2 ?_
      exact go_aret (Or.inr ⟨_, rfl⟩) dX0_ruling_31 rfl rfl h
    · have h := h.2 c
      refine go_null dX0_ruling_21 ?_
      refine go_goto 31 dX0_ruling_22 (by decide) ?_
      exact go_aret (Or.inl rfl) dX0_ruling_31 rfl rfl h
def nmC (I : gI) (n : Nat) : Int := (I 164 n).toInt
def tkl (I : gI) (y v : Nat) : List tok := tksC (I (y + 1)) (I (y + 2) v).toNatClampNeg ((I (y + 3) v).toNatClampNeg - (I (y + 2) v).toNatClampNeg)
/-- a law of the class stands as it should -/
def okC (I : gI) (y v : Nat) : Prop := 0 ≤ (I (y + 2) v).toInt ∧ (I (y + 2) v).toInt ≤ (I (y + 3) v).toInt ∧ (I (y + 3) v).toInt ≤ 300 ∧ (∃ b, tyc (tkl I y v) [] = some [b]) ∧ ∀ t ∈ tkl I y v, okn (nmC I) t
def vlC (I : gI) (y v : Nat) : Int := (ev (nmC I) (tkl I y v) []).headD 0
theorem nI_of_toInt {x : Int32} (h : 0 ≤ x.toInt) : x = nI x.toNatClampNeg := by
  have := ti_rng x
  apply ti_eq.mpr
  have e : ((x.toNatClampNeg : Nat) : Int) = x.toInt := ci h
  rw [nI_toInt (by omega)]
  omega
theorem k_X0_reckon {G : gG} {I : gI} {R : gR} {L : gL} {Q : gQ} {v : Int32} {y : Nat} (hR : g_Fx R) (hy : g_La y) (p0 : vp_in v 3) (p1 : okC I y v.toNatClampNeg) (hq : ∀ r : Int32, ∀ I1 : gI, (r.toInt = vlC I y v.toNatClampNeg ∧ ∀ a, a ≠ 165 → I1 a = I a) → Q (some (.int r)) SH I1 R L) : Mt G mX0_reckon 2 0 0 [.ref 2, .ref y, .int v] SH I R L Q := by
  obtain ⟨o1, o2, o3, ⟨b, o4⟩, o5⟩ := p1
  refine e_X0_reckon hR hy ⟨p0, ?_⟩
  rintro _ rfl
  have c1 := ci o1
  have c2 := ci (x := I (y + 3) v.toNatClampNeg) (by omega)
  have e1 := nI_of_toInt o1
  have e2 := nI_of_toInt (x := I (y + 3) v.toNatClampNeg) (by omega)
  have h := reck_loop (G := G) (Q := Q) (L := L) (v2 := v) hR hy (g := I (y + 1)) (nm := nmC I) (till := (I (y + 3) v.toNatClampNeg).toNatClampNeg) (by omega) p0 (I0 := I) rfl (fun _ => rfl) e2 (b := b) ((I (y + 3) v.toNatClampNeg).toNatClampNeg - (I (y + 2) v.toNatClampNeg).toNatClampNeg) (I (y + 2) v.toNatClampNeg).toNatClampNeg [] [] I (by omega) (fun _ _ => rfl) trivial trivial (by decide) o4 o5 (fun I' z k1 k2 k3 => hq _ I' ⟨by rw [k3]; unfold vlC tkl; rw [k2]; rfl, k1⟩)
  rw [← e1] at h
  exact h
theorem k_X0_ruling {G : gG} {I : gI} {R : gR} {L : gL} {Q : gQ} (hR : g_Fx R) (hn : (I 3 10 < 0 ∨ 4 ≤ I 3 10) → Q (some .null) SH I R L) (hs : ∀ y : Nat, (0 ≤ I 3 10 ∧ I 3 10 < 4 ∧ y = 136 + 7 * (I 3 10).toNatClampNeg) → g_La y → Q (some (.ref y)) SH I R L) : Mt G mX0_ruling 1 0 0 [.ref 2] SH I R L Q := by
  refine e_X0_ruling hR ?_
  rintro _ rfl
  refine ⟨fun c => hn (Or.inl c), fun c => ⟨fun c2 => ?_, fun c2 => hn (Or.inr (by grind))⟩⟩
  have hv : vp_in (I 3 10) 4 := by grind [vi4]
  obtain ⟨j, hj, e⟩ := vp_in_of hv (by decide)
  have ej : (I 3 10).toNatClampNeg = j := by rw [e]; exact nI_clamp (by omega)
  refine ⟨hv, 136 + 7 * j, ?_, La_136 hj, hs _ ⟨by grind, c2, by rw [ej]⟩ (La_136 hj)⟩
  rw [ej]
  refine hR _ _ _ ?_
  have : ∀ j, j < 4 → RF 135 j = some (136 + 7 * j) := by decide +kernel
  exact this j hj
def nmE (I : gI) (x : Nat) (e : Int32) : gI :=
  let I1 := up I 164 0 e
  let I2 := up I1 164 1 (I1 129 e.toNatClampNeg)
  let I3 := up I2 164 2 (I2 130 e.toNatClampNeg)
  up I3 164 3 (I3 (x + 3) e.toNatClampNeg)
theorem e_X0_nameEater {G : gG} {I : gI} {R : gR} {L : gL} {Q : gQ} {e : Int32} {x : Nat} (hR : g_Fx R) (hx : g_Sc x) (h : ∀ I_1 : gI, I_1 = up I 164 0 e → vp_in e 9 ∧ (∀ I_2 : gI, I_2 = up I_1 164 1 (I_1 129 e.toNatClampNeg) → vp_in e 9 ∧ (∀ I_3 : gI, I_3 = up I_2 164 2 (I_2 130 e.toNatClampNeg) → vp_in e 9 ∧ (∀ I_4 : gI, I_4 = up I_3 164 3 (I_3 (x + 3) e.toNatClampNeg) → Q none SH I_4 R L)))) : Mt G mX0_nameEater 1 0 0 [.ref 2, .ref x, .int e] SH I R L Q := by
  refine go_start rfl (Nat.le_of_ble_eq_true rfl) rfl ?_
  refine go_aload_n dX0_nameEater_0 rfl ?_
  refine go_getR dX0_nameEater_1 fX0_25 rfl rfl (hR 2 2 164 rfl) ?_
  refine go_iconst (v := 0) dX0_nameEater_4 (by decide) ?_
  refine go_iload_n dX0_nameEater_5 rfl ?_
  refine go_iastK dX0_nameEater_6 rfl (vp_in_nI (n := 0) (by decide) (by decide)) (k := 0) (by decide) ?_
  have h := h _ rfl
  refine go_aload_n dX0_nameEater_7 rfl ?_
  refine go_getR dX0_nameEater_8 fX0_25 rfl rfl (hR 2 2 164 rfl) ?_
  refine go_iconst (v := 1) dX0_nameEater_11 (by decide) ?_
  refine go_aload_n dX0_nameEater_12 rfl ?_
  refine go_getR dX0_nameEater_13 fX0_12 rfl rfl (hR 2 0 3 rfl) ?_
  refine go_getR dX0_nameEater_16 fX0_87 rfl rfl (hR 3 3 129 rfl) ?_
  refine go_iload_n dX0_nameEater_19 rfl ?_
  obtain ⟨hi, h⟩ := h
  refine go_iald dX0_nameEater_20 rfl hi ?_
  refine go_iastK dX0_nameEater_21 rfl (vp_in_nI (n := 1) (by decide) (by decide)) (k := 1) (by decide) ?_
  have h := h _ rfl
  refine go_aload_n dX0_nameEater_22 rfl ?_
  refine go_getR dX0_nameEater_23 fX0_25 rfl rfl (hR 2 2 164 rfl) ?_
  refine go_iconst (v := 2) dX0_nameEater_26 (by decide) ?_
  refine go_aload_n dX0_nameEater_27 rfl ?_
  refine go_getR dX0_nameEater_28 fX0_12 rfl rfl (hR 2 0 3 rfl) ?_
  refine go_getR dX0_nameEater_31 fX0_58 rfl rfl (hR 3 4 130 rfl) ?_
  refine go_iload_n dX0_nameEater_34 rfl ?_
  obtain ⟨hi, h⟩ := h
  refine go_iald dX0_nameEater_35 rfl hi ?_
  refine go_iastK dX0_nameEater_36 rfl (vp_in_nI (n := 2) (by decide) (by decide)) (k := 2) (by decide) ?_
  have h := h _ rfl
  refine go_aload_n dX0_nameEater_37 rfl ?_
  refine go_getR dX0_nameEater_38 fX0_25 rfl rfl (hR 2 2 164 rfl) ?_
  refine go_iconst (v := 3) dX0_nameEater_41 (by decide) ?_
  refine go_aload_n dX0_nameEater_42 rfl ?_
  refine go_getR dX0_nameEater_43 fX0_76 rfl (Sc_s0 hx) (hR _ _ _ (Sc_r0_2 hx)) ?_
  refine go_iload_n dX0_nameEater_46 rfl ?_
  obtain ⟨hi, h⟩ := h
  refine go_iald dX0_nameEater_47 (Sc_s3 hx) hi ?_
  refine go_iastK dX0_nameEater_48 rfl (vp_in_nI (n := 3) (by decide) (by decide)) (k := 3) (by decide) ?_
  have h := h _ rfl
  exact go_vret dX0_nameEater_49 rfl rfl h
theorem k_X0_nameEater {G : gG} {I : gI} {R : gR} {L : gL} {Q : gQ} {e : Int32} {x : Nat} (hR : g_Fx R) (hx : g_Sc x) (p0 : vp_in e 9) (hq : Q none SH (nmE I x e) R L) : Mt G mX0_nameEater 1 0 0 [.ref 2, .ref x, .int e] SH I R L Q := by
  refine e_X0_nameEater hR hx ?_
  rintro _ rfl
  refine ⟨?_, ?_⟩
  · first | assumption | grind [vi3, vi4, vi6, vi9, vi12, vi24, vi30, vi40, vi64, vi90, vi240, vi300, vi400] | (simp only [up_eq]; grind [vi3, vi4, vi6, vi9, vi12, vi24, vi30, vi40, vi64, vi90, vi240, vi300, vi400])
  rintro _ rfl
  refine ⟨?_, ?_⟩
  · first | assumption | grind [vi3, vi4, vi6, vi9, vi12, vi24, vi30, vi40, vi64, vi90, vi240, vi300, vi400] | (simp only [up_eq]; grind [vi3, vi4, vi6, vi9, vi12, vi24, vi30, vi40, vi64, vi90, vi240, vi300, vi400])
  rintro _ rfl
  refine ⟨?_, ?_⟩
  · first | assumption | grind [vi3, vi4, vi6, vi9, vi12, vi24, vi30, vi40, vi64, vi90, vi240, vi300, vi400] | (simp only [up_eq]; grind [vi3, vi4, vi6, vi9, vi12, vi24, vi30, vi40, vi64, vi90, vi240, vi300, vi400])
  rintro _ rfl
  first | exact hq | (simp_all [nmE]; done) | (grind [nmE])
