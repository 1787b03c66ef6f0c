theorem e_X6_isSide {G : gG} {I : gI} {R : gR} {L : gL} {Q : gQ} {a : Int32} (hR : g_Fx R) (h : (a = 0 → Q (some (.int 1)) SH I R L) ∧ (¬ a = 0 → (¬ a = 1 → Q (some (.int 0)) SH I R L) ∧ (a = 1 → Q (some (.int 1)) SH I R L))) : Mt G mX6_isSide 1 0 0 [.int a] SH I R L Q := by
  refine go_start rfl (Nat.le_of_ble_eq_true rfl) rfl ?_
  refine go_iload_n dX6_isSide_0 rfl ?_
  refine go_if_eq 9 dX6_isSide_1 (by decide) (fun c => ?_) (fun c => ?_)
  · have h := h.1 c
    refine go_iconst (v := 1) dX6_isSide_9 (by decide) ?_
    refine go_goto 14 dX6_isSide_10 (by decide) ?_
    exact go_zret dX6_isSide_14 rfl rfl rfl h
  · have h := h.2 c
    refine go_iload_n dX6_isSide_4 rfl ?_
    refine go_iconst (v := 1) dX6_isSide_5 (by decide) ?_
    refine go_icmp_ne 13 dX6_isSide_6 (by decide) (fun c => ?_) (fun c => ?_)
    · have h := h.1 c
      refine go_iconst (v := 0) dX6_isSide_13 (by decide) ?_
      exact go_zret dX6_isSide_14 rfl rfl rfl h
    · have h := h.2 c
      refine go_iconst (v := 1) dX6_isSide_9 (by decide) ?_
      refine go_goto 14 dX6_isSide_10 (by decide) ?_
      exact go_zret dX6_isSide_14 rfl rfl rfl h
theorem k_X6_isSide {G : gG} {I : gI} {R : gR} {L : gL} {Q : gQ} {a : Int32} (hR : g_Fx R) (hq : Q (some (.int (if a = 0 ∨ a = 1 then 1 else 0))) SH I R L) : Mt G mX6_isSide 1 0 0 [.int a] SH I R L Q := e_X6_isSide hR (by grind)
theorem e_X6_isKind {G : gG} {I : gI} {R : gR} {L : gL} {Q : gQ} {a : Int32} (hR : g_Fx R) (h : (a = 0 → Q (some (.int 1)) SH I R L) ∧ (¬ a = 0 → (¬ a = 1 → Q (some (.int 0)) SH I R L) ∧ (a = 1 → Q (some (.int 1)) SH I R L))) : Mt G mX6_isKind 1 0 0 [.int a] SH I R L Q := by
  refine go_start rfl (Nat.le_of_ble_eq_true rfl) rfl ?_
  refine go_iload_n dX6_isKind_0 rfl ?_
  refine go_if_eq 9 dX6_isKind_1 (by decide) (fun c => ?_) (fun c => ?_)
  · have h := h.1 c
    refine go_iconst (v := 1) dX6_isKind_9 (by decide) ?_
    refine go_goto 14 dX6_isKind_10 (by decide) ?_
    exact go_zret dX6_isKind_14 rfl rfl rfl h
  · have h := h.2 c
    refine go_iload_n dX6_isKind_4 rfl ?_
    refine go_iconst (v := 1) dX6_isKind_5 (by decide) ?_
    refine go_icmp_ne 13 dX6_isKind_6 (by decide) (fun c => ?_) (fun c => ?_)
    · have h := h.1 c
      refine go_iconst (v := 0) dX6_isKind_13 (by decide) ?_
      exact go_zret dX6_isKind_14 rfl rfl rfl h
    · have h := h.2 c
      refine go_iconst (v := 1) dX6_isKind_9 (by decide) ?_
      refine go_goto 14 dX6_isKind_10 (by decide) ?_
      exact go_zret dX6_isKind_14 rfl rfl rfl h
theorem k_X6_isKind {G : gG} {I : gI} {R : gR} {L : gL} {Q : gQ} {a : Int32} (hR : g_Fx R) (hq : Q (some (.int (if a = 0 ∨ a = 1 then 1 else 0))) SH I R L) : Mt G mX6_isKind 1 0 0 [.int a] SH I R L Q := e_X6_isKind hR (by grind)
theorem e_X6_isEater {G : gG} {I : gI} {R : gR} {L : gL} {Q : gQ} {a : Int32} (hR : g_Fx R) (h : (a < 0 → Q (some (.int 0)) SH I R L) ∧ (¬ a < 0 → ((I 3 6) ≤ a → Q (some (.int 0)) SH I R L) ∧ (¬ (I 3 6) ≤ a → (9 ≤ a → Q (some (.int 0)) SH I R L) ∧ (¬ 9 ≤ a → Q (some (.int 1)) SH I R L)))) : Mt G mX6_isEater 1 0 0 [.ref 0, .int a] SH I R L Q := by
  refine go_start rfl (Nat.le_of_ble_eq_true rfl) rfl ?_
  refine go_iload_n dX6_isEater_0 rfl ?_
  refine go_if_lt 25 dX6_isEater_1 (by decide) (fun c => ?_) (fun c => ?_)
  · have h := h.1 c
    refine go_iconst (v := 0) dX6_isEater_25 (by decide) ?_
    exact go_zret dX6_isEater_26 rfl rfl rfl h
  · have h := h.2 c
    refine go_iload_n dX6_isEater_4 rfl ?_
    refine go_aload_n dX6_isEater_5 rfl ?_
    refine go_getR dX6_isEater_6 fX6_27 rfl rfl (hR 0 2 3 rfl) ?_
    refine go_getI dX6_isEater_9 fX6_77 rfl rfl ?_
    refine go_icmp_ge 25 dX6_isEater_12 (by decide) (fun c => ?_) (fun c => ?_)
    · have h := h.1 c
      refine go_iconst (v := 0) dX6_isEater_25 (by decide) ?_
      exact go_zret dX6_isEater_26 rfl rfl rfl h
    · have h := h.2 c
      refine go_iload_n dX6_isEater_15 rfl ?_
      refine go_bipush (v := 9) dX6_isEater_16 (by decide) ?_
      refine go_icmp_ge 25 dX6_isEater_18 (by decide) (fun c => ?_) (fun c => ?_)
      · have h := h.1 c
        refine go_iconst (v := 0) dX6_isEater_25 (by decide) ?_
        exact go_zret dX6_isEater_26 rfl rfl rfl h
      · have h := h.2 c
        refine go_iconst (v := 1) dX6_isEater_21 (by decide) ?_
        refine go_goto 26 dX6_isEater_22 (by decide) ?_
        exact go_zret dX6_isEater_26 rfl rfl rfl h
theorem k_X6_isEater {G : gG} {I : gI} {R : gR} {L : gL} {Q : gQ} {a : Int32} (hR : g_Fx R) (hq : Q (some (.int (if 0 ≤ a ∧ a < I 3 6 ∧ a < 9 then 1 else 0))) SH I R L) : Mt G mX6_isEater 1 0 0 [.ref 0, .int a] SH I R L Q := e_X6_isEater hR (by grind)
theorem e_X6_isText {G : gG} {I : gI} {R : gR} {L : gL} {Q : gQ} {a : Int32} (hR : g_Fx R) (h : (a < 0 → Q (some (.int 0)) SH I R L) ∧ (¬ a < 0 → ((I 3 9) ≤ a → Q (some (.int 0)) SH I R L) ∧ (¬ (I 3 9) ≤ a → (4 ≤ a → Q (some (.int 0)) SH I R L) ∧ (¬ 4 ≤ a → Q (some (.int 1)) SH I R L)))) : Mt G mX6_isText 1 0 0 [.ref 0, .int a] SH I R L Q := by
  refine go_start rfl (Nat.le_of_ble_eq_true rfl) rfl ?_
  refine go_iload_n dX6_isText_0 rfl ?_
  refine go_if_lt 24 dX6_isText_1 (by decide) (fun c => ?_) (fun c => ?_)
  · have h := h.1 c
    refine go_iconst (v := 0) dX6_isText_24 (by decide) ?_
    exact go_zret dX6_isText_25 rfl rfl rfl h
  · have h := h.2 c
    refine go_iload_n dX6_isText_4 rfl ?_
    refine go_aload_n dX6_isText_5 rfl ?_
    refine go_getR dX6_isText_6 fX6_27 rfl rfl (hR 0 2 3 rfl) ?_
    refine go_getI dX6_isText_9 fX6_134 rfl rfl ?_
    refine go_icmp_ge 24 dX6_isText_12 (by decide) (fun c => ?_) (fun c => ?_)
    · have h := h.1 c
      refine go_iconst (v := 0) dX6_isText_24 (by decide) ?_
      exact go_zret dX6_isText_25 rfl rfl rfl h
    · have h := h.2 c
      refine go_iload_n dX6_isText_15 rfl ?_
      refine go_iconst (v := 4) dX6_isText_16 (by decide) ?_
      refine go_icmp_ge 24 dX6_isText_17 (by decide) (fun c => ?_) (fun c => ?_)
      · have h := h.1 c
        refine go_iconst (v := 0) dX6_isText_24 (by decide) ?_
        exact go_zret dX6_isText_25 rfl rfl rfl h
      · have h := h.2 c
        refine go_iconst (v := 1) dX6_isText_20 (by decide) ?_
        refine go_goto 25 dX6_isText_21 (by decide) ?_
        exact go_zret dX6_isText_25 rfl rfl rfl h
theorem k_X6_isText {G : gG} {I : gI} {R : gR} {L : gL} {Q : gQ} {a : Int32} (hR : g_Fx R) (hq : Q (some (.int (if 0 ≤ a ∧ a < I 3 9 ∧ a < 4 then 1 else 0))) SH I R L) : Mt G mX6_isText 1 0 0 [.ref 0, .int a] SH I R L Q := e_X6_isText hR (by grind)
theorem e_X6_forgetSought {G : gG} {I : gI} {R : gR} {L : gL} {Q : gQ} (hR : g_Fx R) (h : ∀ I_1 : gI, I_1 = up I 0 9 (-1) → Q none SH I_1 R L) : Mt G mX6_forgetSought 1 0 0 [.ref 0] SH I R L Q := by
  refine go_start rfl (Nat.le_of_ble_eq_true rfl) rfl ?_
  refine go_aload_n dX6_forgetSought_0 rfl ?_
  refine go_iconst (v := -1) dX6_forgetSought_1 (by decide) ?_
  refine go_putI dX6_forgetSought_2 fX6_55 rfl rfl rfl rfl ?_
  have h := h _ rfl
  exact go_vret dX6_forgetSought_5 rfl rfl h
theorem k_X6_forgetSought {G : gG} {I : gI} {R : gR} {L : gL} {Q : gQ} (hR : g_Fx R) (hq : Q none SH (up I 0 9 (-1)) R L) : Mt G mX6_forgetSought 1 0 0 [.ref 0] SH I R L Q := e_X6_forgetSought hR (by grind)
theorem e_X6_hang {G : gG} {I : gI} {R : gR} {L : gL} {Q : gQ} {a : Int32} (hR : g_Fx R) (h : (¬ a = 0 → (a ≤ 0 → Q (some (.int (-1))) SH I R L) ∧ (¬ a ≤ 0 → Q (some (.int 1)) SH I R L)) ∧ (a = 0 → Q (some (.int 0)) SH I R L)) : Mt G mX6_hang 1 0 0 [.int a] SH I R L Q := by
  refine go_start rfl (Nat.le_of_ble_eq_true rfl) rfl ?_
  refine go_iload_n dX6_hang_0 rfl ?_
  refine go_if_ne 6 dX6_hang_1 (by decide) (fun c => ?_) (fun c => ?_)
  · have h := h.1 c
    refine go_iload_n dX6_hang_6 rfl ?_
    refine go_if_le 14 dX6_hang_7 (by decide) (fun c => ?_) (fun c => ?_)
    · have h := h.1 c
      refine go_iconst (v := -1) dX6_hang_14 (by decide) ?_
      exact go_iret dX6_hang_15 rfl rfl h
    · have h := h.2 c
      refine go_iconst (v := 1) dX6_hang_10 (by decide) ?_
      refine go_goto 15 dX6_hang_11 (by decide) ?_
      exact go_iret dX6_hang_15 rfl rfl h
  · have h := h.2 c
    refine go_iconst (v := 0) dX6_hang_4 (by decide) ?_
    exact go_iret dX6_hang_5 rfl rfl h
theorem k_X6_hang {G : gG} {I : gI} {R : gR} {L : gL} {Q : gQ} {a : Int32} (hR : g_Fx R) (hq : Q (some (.int (if a = 0 then 0 else if 0 < a then 1 else -1))) SH I R L) : Mt G mX6_hang 1 0 0 [.int a] SH I R L Q := e_X6_hang hR (by grind)
theorem e_X2_has {G : gG} {I : gI} {R : gR} {L : gL} {Q : gQ} {a : Int32} {y : Nat} (hR : g_Fx R) (hy : g_La y) (h : vp_in a 3 ∧ (((I (y + 2) a.toNatClampNeg) = (-1) → Q (some (.int 0)) SH I R L) ∧ (¬ (I (y + 2) a.toNatClampNeg) = (-1) → Q (some (.int 1)) SH I R L))) : Mt G mX2_has 1 0 0 [.ref y, .int a] SH I R L Q := by
  refine go_start rfl (Nat.le_of_ble_eq_true rfl) rfl ?_
  refine go_aload_n dX2_has_0 rfl ?_
  refine go_getR dX2_has_1 fX2_15 rfl (La_s0 hy) (hR _ _ _ (La_r0_2 hy)) ?_
  refine go_iload_n dX2_has_4 rfl ?_
  obtain ⟨hi, h⟩ := h
  refine go_iald dX2_has_5 (La_s2 hy) hi ?_
  refine go_iconst (v := -1) dX2_has_6 (by decide) ?_
  refine go_icmp_eq 14 dX2_has_7 (by decide) (fun c => ?_) (fun c => ?_)
  · have h := h.1 c
    refine go_iconst (v := 0) dX2_has_14 (by decide) ?_
    exact go_zret dX2_has_15 rfl rfl rfl h
  · have h := h.2 c
    refine go_iconst (v := 1) dX2_has_10 (by decide) ?_
    refine go_goto 15 dX2_has_11 (by decide) ?_
    exact go_zret dX2_has_15 rfl rfl rfl h
theorem k_X2_has {G : gG} {I : gI} {R : gR} {L : gL} {Q : gQ} {a : Int32} {y : Nat} (hR : g_Fx R) (hy : g_La y) (p0 : vp_in a 3) (hq : Q (some (.int (if ¬ I (y + 2) a.toNatClampNeg = -1 then 1 else 0))) SH I R L) : Mt G mX2_has 1 0 0 [.ref y, .int a] SH I R L Q := e_X2_has hR hy (by grind)
theorem e_X4_tilt {G : gG} {I : gI} {R : gR} {L : gL} {Q : gQ} {x : Nat} (hR : g_Fx R) (hx : g_Sc x) (h : Q (some (.int ((((I (x + 1) 0) + (I (x + 1) 1)) - (I (x + 1) 2)) - (I (x + 1) 3)))) SH I R L) : Mt G mX4_tilt 1 0 0 [.ref x] SH I R L Q := by
  refine go_start rfl (Nat.le_of_ble_eq_true rfl) rfl ?_
  refine go_aload_n dX4_tilt_0 rfl ?_
  refine go_getR dX4_tilt_1 fX4_9 rfl (Sc_s0 hx) (hR _ _ _ (Sc_r0_0 hx)) ?_
  refine go_iconst (v := 0) dX4_tilt_4 (by decide) ?_
  refine go_ialdK dX4_tilt_5 (Sc_s1 hx) (vp_in_nI (n := 0) (by decide) (by decide)) (k := 0) (by decide) ?_
  refine go_aload_n dX4_tilt_6 rfl ?_
  refine go_getR dX4_tilt_7 fX4_9 rfl (Sc_s0 hx) (hR _ _ _ (Sc_r0_0 hx)) ?_
  refine go_iconst (v := 1) dX4_tilt_10 (by decide) ?_
  refine go_ialdK dX4_tilt_11 (Sc_s1 hx) (vp_in_nI (n := 1) (by decide) (by decide)) (k := 1) (by decide) ?_
  refine go_iadd dX4_tilt_12 ?_
  refine go_aload_n dX4_tilt_13 rfl ?_
  refine go_getR dX4_tilt_14 fX4_9 rfl (Sc_s0 hx) (hR _ _ _ (Sc_r0_0 hx)) ?_
  refine go_iconst (v := 2) dX4_tilt_17 (by decide) ?_
  refine go_ialdK dX4_tilt_18 (Sc_s1 hx) (vp_in_nI (n := 2) (by decide) (by decide)) (k := 2) (by decide) ?_
  refine go_isub dX4_tilt_19 ?_
  refine go_aload_n dX4_tilt_20 rfl ?_
  refine go_getR dX4_tilt_21 fX4_9 rfl (Sc_s0 hx) (hR _ _ _ (Sc_r0_0 hx)) ?_
  refine go_iconst (v := 3) dX4_tilt_24 (by decide) ?_
  refine go_ialdK dX4_tilt_25 (Sc_s1 hx) (vp_in_nI (n := 3) (by decide) (by decide)) (k := 3) (by decide) ?_
  refine go_isub dX4_tilt_26 ?_
  exact go_iret dX4_tilt_27 rfl rfl h
theorem k_X4_tilt {G : gG} {I : gI} {R : gR} {L : gL} {Q : gQ} {x : Nat} (hR : g_Fx R) (hx : g_Sc x) (hq : Q (some (.int (I (x + 1) 0 + I (x + 1) 1 - I (x + 1) 2 - I (x + 1) 3))) SH I R L) : Mt G mX4_tilt 1 0 0 [.ref x] SH I R L Q := e_X4_tilt hR hx (by grind)
def drw (z : Int32) : Int32 := (z * 181 + 101) - (z * 181 + 101) / 30029 * 30029
def eatI (I : gI) (x : Nat) (e k g : Int32) : gI :=
  if I (x + 2) e.toNatClampNeg = 2 then I else if g ≤ 0 then I else
    let j := (2 * I (x + 2) e.toNatClampNeg + k).toNatClampNeg
    let I2 := up I (x + 1) j (I (x + 1) j - g)
    let I3 := up I2 (x + 3) e.toNatClampNeg (I2 (x + 3) e.toNatClampNeg + g)
    up I3 x 3 (I3 x 3 + 1)
def givI (I : gI) (x : Nat) (e k g : Int32) : gI :=
  if I (x + 2) e.toNatClampNeg = 2 then I else if g ≤ 0 then I else
    let j := (2 * I (x + 2) e.toNatClampNeg + k).toNatClampNeg
    let I2 := up I (x + 1) j (I (x + 1) j + g)
    let I3 := up I2 (x + 3) e.toNatClampNeg (I2 (x + 3) e.toNatClampNeg - g)
    up I3 x 3 (I3 x 3 - 1)
/-- scene z's numbers into scene x -/
def cpSc (I : gI) (z x : Nat) : gI :=
  let I1 := cpy I (z + 1) (x + 1) 0 0 4
  let I2 := cpy I1 (z + 2) (x + 2) 0 0 9
  let I3 := cpy I2 (z + 3) (x + 3) 0 0 9
  let I4 := up I3 x 3 (I3 z 3)
  let I5 := up I4 x 4 (I4 z 4)
  up I5 x 5 (I5 z 5)
def wSp (I : gI) (e k g : Int32) : gI :=
  let r := I 4 3
  if r < 0 then I else if 60 ≤ r then I else
    let I2 := up I 132 (4 * r).toNatClampNeg e
    let I3 := up I2 132 (4 * r + 1).toNatClampNeg (I2 6 e.toNatClampNeg)
    let I4 := up I3 132 (4 * r + 2).toNatClampNeg k
    up I4 132 (4 * r + 3).toNatClampNeg g
def wDe (I : gI) (a b : Int32) : gI :=
  let r := I 4 4
  if r < 0 then I else if 30 ≤ r then I else
    let I2 := up I 133 (3 * r).toNatClampNeg a
    let I3 := up I2 133 (3 * r + 1).toNatClampNeg (I2 5 0 + I2 5 1 - I2 5 2 - I2 5 3)
    let I4 := up I3 133 (3 * r + 2).toNatClampNeg b
    up I4 4 4 (r + 1)
def emI (I : gI) (y : Nat) (w : Int32) : gI :=
  if I y 1 < 0 then I else if 300 ≤ I y 1 then I else
    let I2 := up I (y + 1) (I y 1).toNatClampNeg w
    up I2 y 1 (I2 y 1 + 1)
def bnd (a : Int32) : Int32 := if a = 32 then 0 else if a = 9 then 1 else if a = 10 then 2 else if a = 11 then 3 else if a = 28 then 5 else if a = 29 then 5 else if a = 30 then 6 else if a = 31 then 6 else if a = 40 then 7 else 4
def failI (I : gI) (k : Int32) : gI :=
  if ¬ I 306 7 = 0 then I else
    let I2 := up I 306 7 k
    up I2 306 8 (I2 306 4)
def puW (I : gI) (w : Int32) : gI :=
  if I 306 10 < 0 then I else if 64 ≤ I 306 10 then I else
    let I2 := up I 308 (I 306 10).toNatClampNeg w
    up I2 306 10 (I2 306 10 + 1)
def drW (I : gI) : gI :=
  if I 306 10 ≤ 0 then I else if 64 < I 306 10 then I else
    let I1 := up I 306 10 (I 306 10 - 1)
    let w := I1 308 (I1 306 10).toNatClampNeg
    if w = 32 ∨ w = 11 ∨ w = 40 then up I1 306 11 (I1 306 11 - 1) else up I1 306 11 (I1 306 11 - 0)
def bcI (a : Int32) : Int32 :=
  let v1 := a - ((a.toUInt32 >>> (Int32.toUInt32 1 &&& Int32.toUInt32 31)).toInt32 &&& 1431655765)
  let v2 := (v1 &&& 858993459) + ((v1.toUInt32 >>> (Int32.toUInt32 2 &&& Int32.toUInt32 31)).toInt32 &&& 858993459)
  let v3 := (v2 + (v2.toUInt32 >>> (Int32.toUInt32 4 &&& Int32.toUInt32 31)).toInt32) &&& 252645135
  let v4 := v3 + (v3.toUInt32 >>> (Int32.toUInt32 8 &&& Int32.toUInt32 31)).toInt32
  let v5 := v4 + (v4.toUInt32 >>> (Int32.toUInt32 16 &&& Int32.toUInt32 31)).toInt32
  v5 &&& 63
theorem e_X4_drawPot {G : gG} {I : gI} {R : gR} {L : gL} {Q : gQ} {x : Nat} (hR : g_Fx R) (hx : g_Sc x) (h : ∀ v1_1 : Int32, v1_1 = ((I x 5) &&& 3) → ∀ I_2 : gI, I_2 = up I x 5 ((((I x 5) * 181) + 101) - (((I x 5) * 181) + 101) / 30029 * 30029) → Q (some (.int v1_1)) SH I_2 R L) : Mt G mX4_drawPot 1 0 0 [.ref x] SH I R L Q := by
  refine go_start rfl (Nat.le_of_ble_eq_true rfl) rfl ?_
  refine go_aload_n dX4_drawPot_0 rfl ?_
  refine go_getI dX4_drawPot_1 fX4_28 rfl (Sc_s0 hx) ?_
  refine go_iconst (v := 3) dX4_drawPot_4 (by decide) ?_
  refine go_iand dX4_drawPot_5 ?_
  refine go_istore_n dX4_drawPot_6 (Nat.le_of_ble_eq_true rfl) rfl ?_
  have h := h _ rfl
  refine go_aload_n dX4_drawPot_7 rfl ?_
  refine go_aload_n dX4_drawPot_8 rfl ?_
  refine go_getI dX4_drawPot_9 fX4_28 rfl (Sc_s0 hx) ?_
  refine go_sipush (v := 181) dX4_drawPot_12 (by decide) ?_
  refine go_imul dX4_drawPot_15 ?_
  refine go_bipush (v := 101) dX4_drawPot_16 (by decide) ?_
  refine go_iadd dX4_drawPot_18 ?_
  refine go_sipush (v := 30029) dX4_drawPot_19 (by decide) ?_
  refine go_irem dX4_drawPot_22 (by decide) ?_
  refine go_putI dX4_drawPot_23 fX4_28 rfl rfl rfl (Sc_s0 hx) ?_
  have h := h _ rfl
  refine go_iload_n dX4_drawPot_26 rfl ?_
  exact go_iret dX4_drawPot_27 rfl rfl h
theorem k_X4_drawPot {G : gG} {I : gI} {R : gR} {L : gL} {Q : gQ} {x : Nat} (hR : g_Fx R) (hx : g_Sc x) (hq : Q (some (.int (I x 5 &&& 3))) SH (up I x 5 (drw (I x 5))) R L) : Mt G mX4_drawPot 1 0 0 [.ref x] SH I R L Q := e_X4_drawPot hR hx (by grind [drw])
theorem e_X4_eat {G : gG} {I : gI} {R : gR} {L : gL} {Q : gQ} {e k g : Int32} {x : Nat} (hR : g_Fx R) (hx : g_Sc x) (h : vp_in e 9 ∧ (∀ v4_1 : Int32, v4_1 = (I (x + 2) e.toNatClampNeg) → (v4_1 = 2 → Q none SH I R L) ∧ (¬ v4_1 = 2 → (g ≤ 0 → Q none SH I R L) ∧ (¬ g ≤ 0 → vp_in ((2 * v4_1) + k) 4 ∧ (vp_in ((2 * v4_1) + k) 4 ∧ (∀ I_2 : gI, I_2 = up I (x + 1) ((2 * v4_1) + k).toNatClampNeg ((I (x + 1) ((2 * v4_1) + k).toNatClampNeg) - g) → vp_in e 9 ∧ (vp_in e 9 ∧ (∀ I_3 : gI, I_3 = up I_2 (x + 3) e.toNatClampNeg ((I_2 (x + 3) e.toNatClampNeg) + g) → ∀ I_4 : gI, I_4 = up I_3 x 3 ((I_3 x 3) + 1) → Q none SH I_4 R L)))))))) : Mt G mX4_eat 1 0 0 [.ref x, .int e, .int k, .int g] SH I R L Q := by
  refine go_start rfl (Nat.le_of_ble_eq_true rfl) rfl ?_
  refine go_aload_n dX4_eat_0 rfl ?_
  refine go_getR dX4_eat_1 fX4_15 rfl (Sc_s0 hx) (hR _ _ _ (Sc_r0_1 hx)) ?_
  refine go_iload_n dX4_eat_4 rfl ?_
  obtain ⟨hi, h⟩ := h
  refine go_iald dX4_eat_5 (Sc_s2 hx) hi ?_
  refine go_istore dX4_eat_6 (Nat.le_of_ble_eq_true rfl) rfl ?_
  have h := h _ rfl
  refine go_iload dX4_eat_8 rfl ?_
  refine go_iconst (v := 2) dX4_eat_10 (by decide) ?_
  refine go_icmp_eq 53 dX4_eat_11 (by decide) (fun c => ?_) (fun c => ?_)
  · have h := h.1 c
    exact go_vret dX4_eat_53 rfl rfl h
  · have h := h.2 c
    refine go_iload_n dX4_eat_14 rfl ?_
    refine go_if_le 53 dX4_eat_15 (by decide) (fun c => ?_) (fun c => ?_)
    · have h := h.1 c
      exact go_vret dX4_eat_53 rfl rfl h
    · have h := h.2 c
      refine go_aload_n dX4_eat_18 rfl ?_
      refine go_getR dX4_eat_19 fX4_9 rfl (Sc_s0 hx) (hR _ _ _ (Sc_r0_0 hx)) ?_
      refine go_iconst (v := 2) dX4_eat_22 (by decide) ?_
      refine go_iload dX4_eat_23 rfl ?_
      refine go_imul dX4_eat_25 ?_
      refine go_iload_n dX4_eat_26 rfl ?_
      refine go_iadd dX4_eat_27 ?_
      refine go_dup2 dX4_eat_28 rfl rfl ?_
      obtain ⟨hi, h⟩ := h
      refine go_iald dX4_eat_29 (Sc_s1 hx) hi ?_
      refine go_iload_n dX4_eat_30 rfl ?_
      refine go_isub dX4_eat_31 ?_
      obtain ⟨hi, h⟩ := h
      refine go_iast dX4_eat_32 (Sc_s1 hx) hi ?_
      have h := h _ rfl
      refine go_aload_n dX4_eat_33 rfl ?_
      refine go_getR dX4_eat_34 fX4_18 rfl (Sc_s0 hx) (hR _ _ _ (Sc_r0_2 hx)) ?_
      refine go_iload_n dX4_eat_37 rfl ?_
      refine go_dup2 dX4_eat_38 rfl rfl ?_
      obtain ⟨hi, h⟩ := h
      refine go_iald dX4_eat_39 (Sc_s3 hx) hi ?_
      refine go_iload_n dX4_eat_40 rfl ?_
      refine go_iadd dX4_eat_41 ?_
      obtain ⟨hi, h⟩ := h
      refine go_iast dX4_eat_42 (Sc_s3 hx) hi ?_
      have h := h _ rfl
      refine go_aload_n dX4_eat_43 rfl ?_
      refine go_dup dX4_eat_44 rfl ?_
      refine go_getI dX4_eat_45 fX4_21 rfl (Sc_s0 hx) ?_
      refine go_iconst (v := 1) dX4_eat_48 (by decide) ?_
      refine go_iadd dX4_eat_49 ?_
      refine go_putI dX4_eat_50 fX4_21 rfl rfl rfl (Sc_s0 hx) ?_
      have h := h _ rfl
      exact go_vret dX4_eat_53 rfl rfl h
theorem k_X4_eat {G : gG} {I : gI} {R : gR} {L : gL} {Q : gQ} {e k g : Int32} {x : Nat} (hR : g_Fx R) (hx : g_Sc x) (p0 : vp_in e 9) (p1 : ¬ I (x + 2) e.toNatClampNeg = 2 → 0 < g → vp_in (2 * I (x + 2) e.toNatClampNeg + k) 4) (hq : Q none SH (eatI I x e k g) R L) : Mt G mX4_eat 1 0 0 [.ref x, .int e, .int k, .int g] SH I R L Q := by
  refine e_X4_eat hR hx ?_
  refine ⟨?_, ?_⟩
  · first | assumption | grind [vi3, vi4, vi6, vi9, vi12, vi24, vi30, vi40, vi64, vi90, vi240, vi300, vi400] | (simp only [up_eq]; grind [vi3, vi4, vi6, vi9, vi12, vi24, vi30, vi40, vi64, vi90, vi240, vi300, vi400])
  rintro _ rfl
  refine ⟨fun c6 => ?_, fun c6 => ?_⟩
  · first | exact hq | (simp_all [eatI]; done) | (grind [eatI])
  · refine ⟨fun c5 => ?_, fun c5 => ?_⟩
    · first | exact hq | (simp_all [eatI]; done) | (grind [eatI])
    · refine ⟨?_, ?_⟩
      · first | assumption | grind [vi3, vi4, vi6, vi9, vi12, vi24, vi30, vi40, vi64, vi90, vi240, vi300, vi400] | (simp only [up_eq]; grind [vi3, vi4, vi6, vi9, vi12, vi24, vi30, vi40, vi64, vi90, vi240, vi300, vi400])
      refine ⟨?_, ?_⟩
      · first | assumption | grind [vi3, vi4, vi6, vi9, vi12, vi24, vi30, vi40, vi64, vi90, vi240, vi300, vi400] | (simp only [up_eq]; grind [vi3, vi4, vi6, vi9, vi12, vi24, vi30, vi40, vi64, vi90, vi240, vi300, vi400])
      rintro _ rfl
      refine ⟨?_, ?_⟩
      · first | assumption | grind [vi3, vi4, vi6, vi9, vi12, vi24, vi30, vi40, vi64, vi90, vi240, vi300, vi400] | (simp only [up_eq]; grind [vi3, vi4, vi6, vi9, vi12, vi24, vi30, vi40, vi64, vi90, vi240, vi300, vi400])
      refine ⟨?_, ?_⟩
      · first | assumption | grind [vi3, vi4, vi6, vi9, vi12, vi24, vi30, vi40, vi64, vi90, vi240, vi300, vi400] | (simp only [up_eq]; grind [vi3, vi4, vi6, vi9, vi12, vi24, vi30, vi40, vi64, vi90, vi240, vi300, vi400])
      rintro _ rfl
      rintro _ rfl
      first | exact hq | (simp_all [eatI]; done) | (grind [eatI])
theorem e_X4_giveBack {G : gG} {I : gI} {R : gR} {L : gL} {Q : gQ} {e k g : Int32} {x : Nat} (hR : g_Fx R) (hx : g_Sc x) (h : vp_in e 9 ∧ (∀ v4_1 : Int32, v4_1 = (I (x + 2) e.toNatClampNeg) → (v4_1 = 2 → Q none SH I R L) ∧ (¬ v4_1 = 2 → (g ≤ 0 → Q none SH I R L) ∧ (¬ g ≤ 0 → vp_in ((2 * v4_1) + k) 4 ∧ (vp_in ((2 * v4_1) + k) 4 ∧ (∀ I_2 : gI, I_2 = up I (x + 1) ((2 * v4_1) + k).toNatClampNeg ((I (x + 1) ((2 * v4_1) + k).toNatClampNeg) + g) → vp_in e 9 ∧ (vp_in e 9 ∧ (∀ I_3 : gI, I_3 = up I_2 (x + 3) e.toNatClampNeg ((I_2 (x + 3) e.toNatClampNeg) - g) → ∀ I_4 : gI, I_4 = up I_3 x 3 ((I_3 x 3) - 1) → Q none SH I_4 R L)))))))) : Mt G mX4_giveBack 1 0 0 [.ref x, .int e, .int k, .int g] SH I R L Q := by
  refine go_start rfl (Nat.le_of_ble_eq_true rfl) rfl ?_
  refine go_aload_n dX4_giveBack_0 rfl ?_
  refine go_getR dX4_giveBack_1 fX4_15 rfl (Sc_s0 hx) (hR _ _ _ (Sc_r0_1 hx)) ?_
  refine go_iload_n dX4_giveBack_4 rfl ?_
  obtain ⟨hi, h⟩ := h
  refine go_iald dX4_giveBack_5 (Sc_s2 hx) hi ?_
  refine go_istore dX4_giveBack_6 (Nat.le_of_ble_eq_true rfl) rfl ?_
  have h := h _ rfl
  refine go_iload dX4_giveBack_8 rfl ?_
  refine go_iconst (v := 2) dX4_giveBack_10 (by decide) ?_
  refine go_icmp_eq 53 dX4_giveBack_11 (by decide) (fun c => ?_) (fun c => ?_)
  · have h := h.1 c
    exact go_vret dX4_giveBack_53 rfl rfl h
  · have h := h.2 c
    refine go_iload_n dX4_giveBack_14 rfl ?_
    refine go_if_le 53 dX4_giveBack_15 (by decide) (fun c => ?_) (fun c => ?_)
    · have h := h.1 c
      exact go_vret dX4_giveBack_53 rfl rfl h
    · have h := h.2 c
      refine go_aload_n dX4_giveBack_18 rfl ?_
      refine go_getR dX4_giveBack_19 fX4_9 rfl (Sc_s0 hx) (hR _ _ _ (Sc_r0_0 hx)) ?_
      refine go_iconst (v := 2) dX4_giveBack_22 (by decide) ?_
      refine go_iload dX4_giveBack_23 rfl ?_
      refine go_imul dX4_giveBack_25 ?_
      refine go_iload_n dX4_giveBack_26 rfl ?_
      refine go_iadd dX4_giveBack_27 ?_
      refine go_dup2 dX4_giveBack_28 rfl rfl ?_
      obtain ⟨hi, h⟩ := h
      refine go_iald dX4_giveBack_29 (Sc_s1 hx) hi ?_
      refine go_iload_n dX4_giveBack_30 rfl ?_
      refine go_iadd dX4_giveBack_31 ?_
      obtain ⟨hi, h⟩ := h
      refine go_iast dX4_giveBack_32 (Sc_s1 hx) hi ?_
      have h := h _ rfl
      refine go_aload_n dX4_giveBack_33 rfl ?_
      refine go_getR dX4_giveBack_34 fX4_18 rfl (Sc_s0 hx) (hR _ _ _ (Sc_r0_2 hx)) ?_
      refine go_iload_n dX4_giveBack_37 rfl ?_
      refine go_dup2 dX4_giveBack_38 rfl rfl ?_
      obtain ⟨hi, h⟩ := h
      refine go_iald dX4_giveBack_39 (Sc_s3 hx) hi ?_
      refine go_iload_n dX4_giveBack_40 rfl ?_
      refine go_isub dX4_giveBack_41 ?_
      obtain ⟨hi, h⟩ := h
      refine go_iast dX4_giveBack_42 (Sc_s3 hx) hi ?_
      have h := h _ rfl
      refine go_aload_n dX4_giveBack_43 rfl ?_
      refine go_dup dX4_giveBack_44 rfl ?_
      refine go_getI dX4_giveBack_45 fX4_21 rfl (Sc_s0 hx) ?_
      refine go_iconst (v := 1) dX4_giveBack_48 (by decide) ?_
      refine go_isub dX4_giveBack_49 ?_
      refine go_putI dX4_giveBack_50 fX4_21 rfl rfl rfl (Sc_s0 hx) ?_
      have h := h _ rfl
      exact go_vret dX4_giveBack_53 rfl rfl h
theorem k_X4_giveBack {G : gG} {I : gI} {R : gR} {L : gL} {Q : gQ} {e k g : Int32} {x : Nat} (hR : g_Fx R) (hx : g_Sc x) (p0 : vp_in e 9) (p1 : ¬ I (x + 2) e.toNatClampNeg = 2 → 0 < g → vp_in (2 * I (x + 2) e.toNatClampNeg + k) 4) (hq : Q none SH (givI I x e k g) R L) : Mt G mX4_giveBack 1 0 0 [.ref x, .int e, .int k, .int g] SH I R L Q := by
  refine e_X4_giveBack hR hx ?_
  refine ⟨?_, ?_⟩
  · first | assumption | grind [vi3, vi4, vi6, vi9, vi12, vi24, vi30, vi40, vi64, vi90, vi240, vi300, vi400] | (simp only [up_eq]; grind [vi3, vi4, vi6, vi9, vi12, vi24, vi30, vi40, vi64, vi90, vi240, vi300, vi400])
  rintro _ rfl
  refine ⟨fun c6 => ?_, fun c6 => ?_⟩
  · first | exact hq | (simp_all [givI]; done) | (grind [givI])
  · refine ⟨fun c5 => ?_, fun c5 => ?_⟩
    · first | exact hq | (simp_all [givI]; done) | (grind [givI])
    · refine ⟨?_, ?_⟩
      · first | assumption | grind [vi3, vi4, vi6, vi9, vi12, vi24, vi30, vi40, vi64, vi90, vi240, vi300, vi400] | (simp only [up_eq]; grind [vi3, vi4, vi6, vi9, vi12, vi24, vi30, vi40, vi64, vi90, vi240, vi300, vi400])
      refine ⟨?_, ?_⟩
      · first | assumption | grind [vi3, vi4, vi6, vi9, vi12, vi24, vi30, vi40, vi64, vi90, vi240, vi300, vi400] | (simp only [up_eq]; grind [vi3, vi4, vi6, vi9, vi12, vi24, vi30, vi40, vi64, vi90, vi240, vi300, vi400])
      rintro _ rfl
      refine ⟨?_, ?_⟩
      · first | assumption | grind [vi3, vi4, vi6, vi9, vi12, vi24, vi30, vi40, vi64, vi90, vi240, vi300, vi400] | (simp only [up_eq]; grind [vi3, vi4, vi6, vi9, vi12, vi24, vi30, vi40, vi64, vi90, vi240, vi300, vi400])
      refine ⟨?_, ?_⟩
      · first | assumption | grind [vi3, vi4, vi6, vi9, vi12, vi24, vi30, vi40, vi64, vi90, vi240, vi300, vi400] | (simp only [up_eq]; grind [vi3, vi4, vi6, vi9, vi12, vi24, vi30, vi40, vi64, vi90, vi240, vi300, vi400])
      rintro _ rfl
      rintro _ rfl
      first | exact hq | (simp_all [givI]; done) | (grind [givI])
theorem e_X4_copyFrom {G : gG} {I : gI} {R : gR} {L : gL} {Q : gQ} {x z : Nat} (hR : g_Fx R) (hx : g_Sc x) (hz : g_Sc z) (h : ∀ I_1 : gI, I_1 = cpy I (z + 1) (x + 1) 0 0 4 → ∀ I_2 : gI, I_2 = cpy I_1 (z + 2) (x + 2) 0 0 9 → ∀ I_3 : gI, I_3 = cpy I_2 (z + 3) (x + 3) 0 0 9 → ∀ I_4 : gI, I_4 = up I_3 x 3 (I_3 z 3) → ∀ I_5 : gI, I_5 = up I_4 x 4 (I_4 z 4) → ∀ I_6 : gI, I_6 = up I_5 x 5 (I_5 z 5) → Q none SH I_6 R L) : Mt G mX4_copyFrom 3 0 0 [.ref x, .ref z] SH I R L Q := by
  refine go_start rfl (Nat.le_of_ble_eq_true rfl) rfl ?_
  refine go_aload_n dX4_copyFrom_0 rfl ?_
  refine go_getR dX4_copyFrom_1 fX4_9 rfl (Sc_s0 hz) (hR _ _ _ (Sc_r0_0 hz)) ?_
  refine go_iconst (v := 0) dX4_copyFrom_4 (by decide) ?_
  refine go_aload_n dX4_copyFrom_5 rfl ?_
  refine go_getR dX4_copyFrom_6 fX4_9 rfl (Sc_s0 hx) (hR _ _ _ (Sc_r0_0 hx)) ?_
  refine go_iconst (v := 0) dX4_copyFrom_9 (by decide) ?_
  refine go_iconst (v := 4) dX4_copyFrom_10 (by decide) ?_
  refine go_copyK dX4_copyFrom_11 lX4_31 nn_copy ns_copy ni_J10 (Sc_s1 hz) (Sc_s1 hx) (sk := 0) (dk := 0) (nk := 4) (by decide) (by decide) (by decide) (by decide) (by decide) (by decide) (by decide) (by decide) (Nat.le_of_ble_eq_true rfl) (Nat.le_of_ble_eq_true rfl) ?_
  have h := h _ rfl
  refine go_aload_n dX4_copyFrom_14 rfl ?_
  refine go_getR dX4_copyFrom_15 fX4_15 rfl (Sc_s0 hz) (hR _ _ _ (Sc_r0_1 hz)) ?_
  refine go_iconst (v := 0) dX4_copyFrom_18 (by decide) ?_
  refine go_aload_n dX4_copyFrom_19 rfl ?_
  refine go_getR dX4_copyFrom_20 fX4_15 rfl (Sc_s0 hx) (hR _ _ _ (Sc_r0_1 hx)) ?_
  refine go_iconst (v := 0) dX4_copyFrom_23 (by decide) ?_
  refine go_bipush (v := 9) dX4_copyFrom_24 (by decide) ?_
  refine go_copyK dX4_copyFrom_26 lX4_31 nn_copy ns_copy ni_J10 (Sc_s2 hz) (Sc_s2 hx) (sk := 0) (dk := 0) (nk := 9) (by decide) (by decide) (by decide) (by decide) (by decide) (by decide) (by decide) (by decide) (Nat.le_of_ble_eq_true rfl) (Nat.le_of_ble_eq_true rfl) ?_
  have h := h _ rfl
  refine go_aload_n dX4_copyFrom_29 rfl ?_
  refine go_getR dX4_copyFrom_30 fX4_18 rfl (Sc_s0 hz) (hR _ _ _ (Sc_r0_2 hz)) ?_
  refine go_iconst (v := 0) dX4_copyFrom_33 (by decide) ?_
  refine go_aload_n dX4_copyFrom_34 rfl ?_
  refine go_getR dX4_copyFrom_35 fX4_18 rfl (Sc_s0 hx) (hR _ _ _ (Sc_r0_2 hx)) ?_
  refine go_iconst (v := 0) dX4_copyFrom_38 (by decide) ?_
  refine go_bipush (v := 9) dX4_copyFrom_39 (by decide) ?_
  refine go_copyK dX4_copyFrom_41 lX4_31 nn_copy ns_copy ni_J10 (Sc_s3 hz) (Sc_s3 hx) (sk := 0) (dk := 0) (nk := 9) (by decide) (by decide) (by decide) (by decide) (by decide) (by decide) (by decide) (by decide) (Nat.le_of_ble_eq_true rfl) (Nat.le_of_ble_eq_true rfl) ?_
  have h := h _ rfl
  refine go_aload_n dX4_copyFrom_44 rfl ?_
  refine go_aload_n dX4_copyFrom_45 rfl ?_
  refine go_getI dX4_copyFrom_46 fX4_21 rfl (Sc_s0 hz) ?_
  refine go_putI dX4_copyFrom_49 fX4_21 rfl rfl rfl (Sc_s0 hx) ?_
  have h := h _ rfl
  refine go_aload_n dX4_copyFrom_52 rfl ?_
  refine go_aload_n dX4_copyFrom_53 rfl ?_
  refine go_getI dX4_copyFrom_54 fX4_25 rfl (Sc_s0 hz) ?_
  refine go_putI dX4_copyFrom_57 fX4_25 rfl rfl rfl (Sc_s0 hx) ?_
  have h := h _ rfl
  refine go_aload_n dX4_copyFrom_60 rfl ?_
  refine go_aload_n dX4_copyFrom_61 rfl ?_
  refine go_getI dX4_copyFrom_62 fX4_28 rfl (Sc_s0 hz) ?_
  refine go_putI dX4_copyFrom_65 fX4_28 rfl rfl rfl (Sc_s0 hx) ?_
  have h := h _ rfl
  exact go_vret dX4_copyFrom_68 rfl rfl h
theorem k_X4_copyFrom {G : gG} {I : gI} {R : gR} {L : gL} {Q : gQ} {x z : Nat} (hR : g_Fx R) (hx : g_Sc x) (hz : g_Sc z) (hq : Q none SH (cpSc I z x) R L) : Mt G mX4_copyFrom 3 0 0 [.ref x, .ref z] SH I R L Q := by
  refine e_X4_copyFrom hR hx hz ?_
  rintro _ rfl
  rintro _ rfl
  rintro _ rfl
  rintro _ rfl
  rintro _ rfl
  rintro _ rfl
  first | exact hq | (simp_all [cpSc]; done) | (grind [cpSc])
theorem e_X1_writeSpoon {G : gG} {I : gI} {R : gR} {L : gL} {Q : gQ} {e k g : Int32} (hR : g_Fx R) (h : ∀ v4_1 : Int32, v4_1 = (I 4 3) → (v4_1 < 0 → Q none SH I R L) ∧ (¬ v4_1 < 0 → (60 ≤ v4_1 → Q none SH I R L) ∧ (¬ 60 ≤ v4_1 → vp_in (4 * v4_1) 240 ∧ (∀ I_2 : gI, I_2 = up I 132 (4 * v4_1).toNatClampNeg e → vp_in e 9 ∧ (vp_in ((4 * v4_1) + 1) 240 ∧ (∀ I_3 : gI, I_3 = up I_2 132 ((4 * v4_1) + 1).toNatClampNeg (I_2 6 e.toNatClampNeg) → vp_in ((4 * v4_1) + 2) 240 ∧ (∀ I_4 : gI, I_4 = up I_3 132 ((4 * v4_1) + 2).toNatClampNeg k → vp_in ((4 * v4_1) + 3) 240 ∧ (∀ I_5 : gI, I_5 = up I_4 132 ((4 * v4_1) + 3).toNatClampNeg g → Q none SH I_5 R L)))))))) : Mt G mX1_writeSpoon 1 0 0 [.ref 3, .int e, .int k, .int g] SH I R L Q := by
  refine go_start rfl (Nat.le_of_ble_eq_true rfl) rfl ?_
  refine go_aload_n dX1_writeSpoon_0 rfl ?_
  refine go_getR dX1_writeSpoon_1 fX1_12 rfl rfl (hR 3 0 4 rfl) ?_
  refine go_getI dX1_writeSpoon_4 fX1_73 rfl rfl ?_
  refine go_istore dX1_writeSpoon_7 (Nat.le_of_ble_eq_true rfl) rfl ?_
  have h := h _ rfl
  refine go_iload dX1_writeSpoon_9 rfl ?_
  refine go_if_lt 75 dX1_writeSpoon_11 (by decide) (fun c => ?_) (fun c => ?_)
  · have h := h.1 c
    exact go_vret dX1_writeSpoon_75 rfl rfl h
  · have h := h.2 c
    refine go_iload dX1_writeSpoon_14 rfl ?_
    refine go_bipush (v := 60) dX1_writeSpoon_16 (by decide) ?_
    refine go_icmp_ge 75 dX1_writeSpoon_18 (by decide) (fun c => ?_) (fun c => ?_)
    · have h := h.1 c
      exact go_vret dX1_writeSpoon_75 rfl rfl h
    · have h := h.2 c
      refine go_aload_n dX1_writeSpoon_21 rfl ?_
      refine go_getR dX1_writeSpoon_22 fX1_32 rfl rfl (hR 3 7 132 rfl) ?_
      refine go_iconst (v := 4) dX1_writeSpoon_25 (by decide) ?_
      refine go_iload dX1_writeSpoon_26 rfl ?_
      refine go_imul dX1_writeSpoon_28 ?_
      refine go_iload_n dX1_writeSpoon_29 rfl ?_
      obtain ⟨hi, h⟩ := h
      refine go_iast dX1_writeSpoon_30 rfl hi ?_
      have h := h _ rfl
      refine go_aload_n dX1_writeSpoon_31 rfl ?_
      refine go_getR dX1_writeSpoon_32 fX1_32 rfl rfl (hR 3 7 132 rfl) ?_
      refine go_iconst (v := 4) dX1_writeSpoon_35 (by decide) ?_
      refine go_iload dX1_writeSpoon_36 rfl ?_
      refine go_imul dX1_writeSpoon_38 ?_
      refine go_iconst (v := 1) dX1_writeSpoon_39 (by decide) ?_
      refine go_iadd dX1_writeSpoon_40 ?_
      refine go_aload_n dX1_writeSpoon_41 rfl ?_
      refine go_getR dX1_writeSpoon_42 fX1_12 rfl rfl (hR 3 0 4 rfl) ?_
      refine go_getR dX1_writeSpoon_45 fX1_76 rfl rfl (hR 4 1 6 rfl) ?_
      refine go_iload_n dX1_writeSpoon_48 rfl ?_
      obtain ⟨hi, h⟩ := h
      refine go_iald dX1_writeSpoon_49 rfl hi ?_
      obtain ⟨hi, h⟩ := h
      refine go_iast dX1_writeSpoon_50 rfl hi ?_
      have h := h _ rfl
      refine go_aload_n dX1_writeSpoon_51 rfl ?_
      refine go_getR dX1_writeSpoon_52 fX1_32 rfl rfl (hR 3 7 132 rfl) ?_
      refine go_iconst (v := 4) dX1_writeSpoon_55 (by decide) ?_
      refine go_iload dX1_writeSpoon_56 rfl ?_
      refine go_imul dX1_writeSpoon_58 ?_
      refine go_iconst (v := 2) dX1_writeSpoon_59 (by decide) ?_
      refine go_iadd dX1_writeSpoon_60 ?_
      refine go_iload_n dX1_writeSpoon_61 rfl ?_
      obtain ⟨hi, h⟩ := h
      refine go_iast dX1_writeSpoon_62 rfl hi ?_
      have h := h _ rfl
      refine go_aload_n dX1_writeSpoon_63 rfl ?_
      refine go_getR dX1_writeSpoon_64 fX1_32 rfl rfl (hR 3 7 132 rfl) ?_
      refine go_iconst (v := 4) dX1_writeSpoon_67 (by decide) ?_
      refine go_iload dX1_writeSpoon_68 rfl ?_
      refine go_imul dX1_writeSpoon_70 ?_
      refine go_iconst (v := 3) dX1_writeSpoon_71 (by decide) ?_
      refine go_iadd dX1_writeSpoon_72 ?_
      refine go_iload_n dX1_writeSpoon_73 rfl ?_
      obtain ⟨hi, h⟩ := h
      refine go_iast dX1_writeSpoon_74 rfl hi ?_
      have h := h _ rfl
      exact go_vret dX1_writeSpoon_75 rfl rfl h
theorem k_X1_writeSpoon {G : gG} {I : gI} {R : gR} {L : gL} {Q : gQ} {e k g : Int32} (hR : g_Fx R) (p0 : vp_in e 9) (hq : Q none SH (wSp I e k g) R L) : Mt G mX1_writeSpoon 1 0 0 [.ref 3, .int e, .int k, .int g] SH I R L Q := by
  refine e_X1_writeSpoon hR ?_
  rintro _ rfl
  refine ⟨fun c7 => ?_, fun c7 => ?_⟩
  · first | exact hq | (simp_all [wSp]; done) | (grind [wSp])
  · refine ⟨fun c6 => ?_, fun c6 => ?_⟩
    · first | exact hq | (simp_all [wSp]; done) | (grind [wSp])
    · refine ⟨?_, ?_⟩
      · first | assumption | grind [vi3, vi4, vi6, vi9, vi12, vi24, vi30, vi40, vi64, vi90, vi240, vi300, vi400] | (simp only [up_eq]; grind [vi3, vi4, vi6, vi9, vi12, vi24, vi30, vi40, vi64, vi90, vi240, vi300, vi400])
      rintro _ rfl
      refine ⟨?_, ?_⟩
      · first | assumption | grind [vi3, vi4, vi6, vi9, vi12, vi24, vi30, vi40, vi64, vi90, vi240, vi300, vi400] | (simp only [up_eq]; grind [vi3, vi4, vi6, vi9, vi12, vi24, vi30, vi40, vi64, vi90, vi240, vi300, vi400])
      refine ⟨?_, ?_⟩
      · first | assumption | grind [vi3, vi4, vi6, vi9, vi12, vi24, vi30, vi40, vi64, vi90, vi240, vi300, vi400] | (simp only [up_eq]; grind [vi3, vi4, vi6, vi9, vi12, vi24, vi30, vi40, vi64, vi90, vi240, vi300, vi400])
      rintro _ rfl
      refine ⟨?_, ?_⟩
      · first | assumption | grind [vi3, vi4, vi6, vi9, vi12, vi24, vi30, vi40, vi64, vi90, vi240, vi300, vi400] | (simp only [up_eq]; grind [vi3, vi4, vi6, vi9, vi12, vi24, vi30, vi40, vi64, vi90, vi240, vi300, vi400])
      rintro _ rfl
      refine ⟨?_, ?_⟩
      · first | assumption | grind [vi3, vi4, vi6, vi9, vi12, vi24, vi30, vi40, vi64, vi90, vi240, vi300, vi400] | (simp only [up_eq]; grind [vi3, vi4, vi6, vi9, vi12, vi24, vi30, vi40, vi64, vi90, vi240, vi300, vi400])
      rintro _ rfl
      first | exact hq | (simp_all [wSp]; done) | (grind [wSp])
theorem e_X1_writeDent {G : gG} {I : gI} {R : gR} {L : gL} {Q : gQ} {a b : Int32} (hR : g_Fx R) (h : ∀ v3_1 : Int32, v3_1 = (I 4 4) → (v3_1 < 0 → Q none SH I R L) ∧ (¬ v3_1 < 0 → (30 ≤ v3_1 → Q none SH I R L) ∧ (¬ 30 ≤ v3_1 → vp_in (3 * v3_1) 90 ∧ (∀ I_2 : gI, I_2 = up I 133 (3 * v3_1).toNatClampNeg a → vp_in ((3 * v3_1) + 1) 90 ∧ (∀ I_3 : gI, I_3 = up I_2 133 ((3 * v3_1) + 1).toNatClampNeg (I_2 (4 + 1) 0 + I_2 (4 + 1) 1 - I_2 (4 + 1) 2 - I_2 (4 + 1) 3) → vp_in ((3 * v3_1) + 2) 90 ∧ (∀ I_4 : gI, I_4 = up I_3 133 ((3 * v3_1) + 2).toNatClampNeg b → ∀ I_5 : gI, I_5 = up I_4 4 4 (v3_1 + 1) → Q none SH I_5 R L)))))) : Mt G mX1_writeDent 2 0 0 [.ref 3, .int a, .int b] SH I R L Q := by
  refine go_start rfl (Nat.le_of_ble_eq_true rfl) rfl ?_
  refine go_aload_n dX1_writeDent_0 rfl ?_
  refine go_getR dX1_writeDent_1 fX1_12 rfl rfl (hR 3 0 4 rfl) ?_
  refine go_getI dX1_writeDent_4 fX1_79 rfl rfl ?_
  refine go_istore_n dX1_writeDent_7 (Nat.le_of_ble_eq_true rfl) rfl ?_
  have h := h _ rfl
  refine go_iload_n dX1_writeDent_8 rfl ?_
  refine go_if_lt 65 dX1_writeDent_9 (by decide) (fun c => ?_) (fun c => ?_)
  · have h := h.1 c
    exact go_vret dX1_writeDent_65 rfl rfl h
  · have h := h.2 c
    refine go_iload_n dX1_writeDent_12 rfl ?_
    refine go_bipush (v := 30) dX1_writeDent_13 (by decide) ?_
    refine go_icmp_ge 65 dX1_writeDent_15 (by decide) (fun c => ?_) (fun c => ?_)
    · have h := h.1 c
      exact go_vret dX1_writeDent_65 rfl rfl h
    · have h := h.2 c
      refine go_aload_n dX1_writeDent_18 rfl ?_
      refine go_getR dX1_writeDent_19 fX1_35 rfl rfl (hR 3 8 133 rfl) ?_
      refine go_iconst (v := 3) dX1_writeDent_22 (by decide) ?_
      refine go_iload_n dX1_writeDent_23 rfl ?_
      refine go_imul dX1_writeDent_24 ?_
      refine go_iload_n dX1_writeDent_25 rfl ?_
      obtain ⟨hi, h⟩ := h
      refine go_iast dX1_writeDent_26 rfl hi ?_
      have h := h _ rfl
      refine go_aload_n dX1_writeDent_27 rfl ?_
      refine go_getR dX1_writeDent_28 fX1_35 rfl rfl (hR 3 8 133 rfl) ?_
      refine go_iconst (v := 3) dX1_writeDent_31 (by decide) ?_
      refine go_iload_n dX1_writeDent_32 rfl ?_
      refine go_imul dX1_writeDent_33 ?_
      refine go_iconst (v := 1) dX1_writeDent_34 (by decide) ?_
      refine go_iadd dX1_writeDent_35 ?_
      refine go_aload_n dX1_writeDent_36 rfl ?_
      refine go_getR dX1_writeDent_37 fX1_12 rfl rfl (hR 3 0 4 rfl) ?_
      refine go_callV0 (μ := mX1_writeDent) [] dX1_writeDent_40 YX4_tilt lX1_82 rfl ⟨_, rfl, rfl⟩ rfl (Nat.le_of_ble_eq_true rfl) (Nat.le_of_ble_eq_true rfl) rfl (k_X4_tilt hR Sc_4 ?_)
      obtain ⟨hi, h⟩ := h
      refine go_iast dX1_writeDent_43 rfl hi ?_
      have h := h _ rfl
      refine go_aload_n dX1_writeDent_44 rfl ?_
      refine go_getR dX1_writeDent_45 fX1_35 rfl rfl (hR 3 8 133 rfl) ?_
      refine go_iconst (v := 3) dX1_writeDent_48 (by decide) ?_
      refine go_iload_n dX1_writeDent_49 rfl ?_
      refine go_imul dX1_writeDent_50 ?_
      refine go_iconst (v := 2) dX1_writeDent_51 (by decide) ?_
      refine go_iadd dX1_writeDent_52 ?_
      refine go_iload_n dX1_writeDent_53 rfl ?_
      obtain ⟨hi, h⟩ := h
      refine go_iast dX1_writeDent_54 rfl hi ?_
      have h := h _ rfl
      refine go_aload_n dX1_writeDent_55 rfl ?_
      refine go_getR dX1_writeDent_56 fX1_12 rfl rfl (hR 3 0 4 rfl) ?_
      refine go_iload_n dX1_writeDent_59 rfl ?_
      refine go_iconst (v := 1) dX1_writeDent_60 (by decide) ?_
      refine go_iadd dX1_writeDent_61 ?_
      refine go_putI dX1_writeDent_62 fX1_79 rfl rfl rfl rfl ?_
      have h := h _ rfl
      exact go_vret dX1_writeDent_65 rfl rfl h
theorem k_X1_writeDent {G : gG} {I : gI} {R : gR} {L : gL} {Q : gQ} {a b : Int32} (hR : g_Fx R) (hq : Q none SH (wDe I a b) R L) : Mt G mX1_writeDent 2 0 0 [.ref 3, .int a, .int b] SH I R L Q := by
  refine e_X1_writeDent hR ?_
  rintro _ rfl
  refine ⟨fun c7 => ?_, fun c7 => ?_⟩
  · first | exact hq | (simp_all [wDe]; done) | (grind [wDe])
  · refine ⟨fun c6 => ?_, fun c6 => ?_⟩
    · first | exact hq | (simp_all [wDe]; done) | (grind [wDe])
    · refine ⟨?_, ?_⟩
      · first | assumption | grind [vi3, vi4, vi6, vi9, vi12, vi24, vi30, vi40, vi64, vi90, vi240, vi300, vi400] | (simp only [up_eq]; grind [vi3, vi4, vi6, vi9, vi12, vi24, vi30, vi40, vi64, vi90, vi240, vi300, vi400])
      rintro _ rfl
      refine ⟨?_, ?_⟩
      · first | assumption | grind [vi3, vi4, vi6, vi9, vi12, vi24, vi30, vi40, vi64, vi90, vi240, vi300, vi400] | (simp only [up_eq]; grind [vi3, vi4, vi6, vi9, vi12, vi24, vi30, vi40, vi64, vi90, vi240, vi300, vi400])
      rintro _ rfl
      refine ⟨?_, ?_⟩
      · first | assumption | grind [vi3, vi4, vi6, vi9, vi12, vi24, vi30, vi40, vi64, vi90, vi240, vi300, vi400] | (simp only [up_eq]; grind [vi3, vi4, vi6, vi9, vi12, vi24, vi30, vi40, vi64, vi90, vi240, vi300, vi400])
      rintro _ rfl
      rintro _ rfl
      first | exact hq | (simp_all [wDe]; done) | (grind [wDe])
theorem e_X1_untold {G : gG} {I : gI} {R : gR} {L : gL} {Q : gQ} {a : Int32} (hR : g_Fx R) (h : vp_in a 9 ∧ (vp_in a 9 ∧ (Q (some (.int ((I 7 a.toNatClampNeg) - (I 134 a.toNatClampNeg)))) SH I R L))) : Mt G mX1_untold 1 0 0 [.ref 3, .int a] SH I R L Q := by
  refine go_start rfl (Nat.le_of_ble_eq_true rfl) rfl ?_
  refine go_aload_n dX1_untold_0 rfl ?_
  refine go_getR dX1_untold_1 fX1_12 rfl rfl (hR 3 0 4 rfl) ?_
  refine go_getR dX1_untold_4 fX1_86 rfl rfl (hR 4 2 7 rfl) ?_
  refine go_iload_n dX1_untold_7 rfl ?_
  obtain ⟨hi, h⟩ := h
  refine go_iald dX1_untold_8 rfl hi ?_
  refine go_aload_n dX1_untold_9 rfl ?_
  refine go_getR dX1_untold_10 fX1_45 rfl rfl (hR 3 13 134 rfl) ?_
  refine go_iload_n dX1_untold_13 rfl ?_
  obtain ⟨hi, h⟩ := h
  refine go_iald dX1_untold_14 rfl hi ?_
  refine go_isub dX1_untold_15 ?_
  exact go_iret dX1_untold_16 rfl rfl h
theorem k_X1_untold {G : gG} {I : gI} {R : gR} {L : gL} {Q : gQ} {a : Int32} (hR : g_Fx R) (p0 : vp_in a 9) (hq : Q (some (.int (I 7 a.toNatClampNeg - I 134 a.toNatClampNeg))) SH I R L) : Mt G mX1_untold 1 0 0 [.ref 3, .int a] SH I R L Q := e_X1_untold hR (by grind)
theorem e_X1_contradict {G : gG} {I : gI} {R : gR} {L : gL} {Q : gQ} {a b : Int32} (hR : g_Fx R) (h : ∀ v3_1 : Int32, v3_1 = (3 * a) → ∀ v4_2 : Int32, v4_2 = (3 * b) → vp_in v3_1 90 ∧ (vp_in v4_2 90 ∧ ((¬ (I 133 v3_1.toNatClampNeg) = (I 133 v4_2.toNatClampNeg) → Q (some (.int 0)) SH I R L) ∧ ((I 133 v3_1.toNatClampNeg) = (I 133 v4_2.toNatClampNeg) → vp_in (v3_1 + 1) 90 ∧ (vp_in (v4_2 + 1) 90 ∧ ((¬ (I 133 (v3_1 + 1).toNatClampNeg) = (I 133 (v4_2 + 1).toNatClampNeg) → Q (some (.int 0)) SH I R L) ∧ ((I 133 (v3_1 + 1).toNatClampNeg) = (I 133 (v4_2 + 1).toNatClampNeg) → vp_in (v3_1 + 2) 90 ∧ (vp_in (v4_2 + 2) 90 ∧ (((I 133 (v3_1 + 2).toNatClampNeg) = (I 133 (v4_2 + 2).toNatClampNeg) → Q (some (.int 0)) SH I R L) ∧ (¬ (I 133 (v3_1 + 2).toNatClampNeg) = (I 133 (v4_2 + 2).toNatClampNeg) → Q (some (.int 1)) SH I R L)))))))))) : Mt G mX1_contradict 1 0 0 [.ref 3, .int a, .int b] SH I R L Q := by
  refine go_start rfl (Nat.le_of_ble_eq_true rfl) rfl ?_
  refine go_iconst (v := 3) dX1_contradict_0 (by decide) ?_
  refine go_iload_n dX1_contradict_1 rfl ?_
  refine go_imul dX1_contradict_2 ?_
  refine go_istore_n dX1_contradict_3 (Nat.le_of_ble_eq_true rfl) rfl ?_
  have h := h _ rfl
  refine go_iconst (v := 3) dX1_contradict_4 (by decide) ?_
  refine go_iload_n dX1_contradict_5 rfl ?_
  refine go_imul dX1_contradict_6 ?_
  refine go_istore dX1_contradict_7 (Nat.le_of_ble_eq_true rfl) rfl ?_
  have h := h _ rfl
  refine go_aload_n dX1_contradict_9 rfl ?_
  refine go_getR dX1_contradict_10 fX1_35 rfl rfl (hR 3 8 133 rfl) ?_
  refine go_iload_n dX1_contradict_13 rfl ?_
  obtain ⟨hi, h⟩ := h
  refine go_iald dX1_contradict_14 rfl hi ?_
  refine go_aload_n dX1_contradict_15 rfl ?_
  refine go_getR dX1_contradict_16 fX1_35 rfl rfl (hR 3 8 133 rfl) ?_
  refine go_iload dX1_contradict_19 rfl ?_
  obtain ⟨hi, h⟩ := h
  refine go_iald dX1_contradict_21 rfl hi ?_
  refine go_icmp_ne 69 dX1_contradict_22 (by decide) (fun c => ?_) (fun c => ?_)
  · have h := h.1 c
    refine go_iconst (v := 0) dX1_contradict_69 (by decide) ?_
    exact go_zret dX1_contradict_70 rfl rfl rfl h
  · have h := h.2 c
    refine go_aload_n dX1_contradict_25 rfl ?_
    refine go_getR dX1_contradict_26 fX1_35 rfl rfl (hR 3 8 133 rfl) ?_
    refine go_iload_n dX1_contradict_29 rfl ?_
    refine go_iconst (v := 1) dX1_contradict_30 (by decide) ?_
    refine go_iadd dX1_contradict_31 ?_
    obtain ⟨hi, h⟩ := h
    refine go_iald dX1_contradict_32 rfl hi ?_
    refine go_aload_n dX1_contradict_33 rfl ?_
    refine go_getR dX1_contradict_34 fX1_35 rfl rfl (hR 3 8 133 rfl) ?_
    refine go_iload dX1_contradict_37 rfl ?_
    refine go_iconst (v := 1) dX1_contradict_39 (by decide) ?_
    refine go_iadd dX1_contradict_40 ?_
    obtain ⟨hi, h⟩ := h
    refine go_iald dX1_contradict_41 rfl hi ?_
    refine go_icmp_ne 69 dX1_contradict_42 (by decide) (fun c => ?_) (fun c => ?_)
    · have h := h.1 c
      refine go_iconst (v := 0) dX1_contradict_69 (by decide) ?_
      exact go_zret dX1_contradict_70 rfl rfl rfl h
    · have h := h.2 c
      refine go_aload_n dX1_contradict_45 rfl ?_
      refine go_getR dX1_contradict_46 fX1_35 rfl rfl (hR 3 8 133 rfl) ?_
      refine go_iload_n dX1_contradict_49 rfl ?_
      refine go_iconst (v := 2) dX1_contradict_50 (by decide) ?_
      refine go_iadd dX1_contradict_51 ?_
      obtain ⟨hi, h⟩ := h
      refine go_iald dX1_contradict_52 rfl hi ?_
      refine go_aload_n dX1_contradict_53 rfl ?_
      refine go_getR dX1_contradict_54 fX1_35 rfl rfl (hR 3 8 133 rfl) ?_
      refine go_iload dX1_contradict_57 rfl ?_
      refine go_iconst (v := 2) dX1_contradict_59 (by decide) ?_
      refine go_iadd dX1_contradict_60 ?_
      obtain ⟨hi, h⟩ := h
      refine go_iald dX1_contradict_61 rfl hi ?_
      refine go_icmp_eq 69 dX1_contradict_62 (by decide) (fun c => ?_) (fun c => ?_)
      · have h := h.1 c
        refine go_iconst (v := 0) dX1_contradict_69 (by decide) ?_
        exact go_zret dX1_contradict_70 rfl rfl rfl h
      · have h := h.2 c
        refine go_iconst (v := 1) dX1_contradict_65 (by decide) ?_
        refine go_goto 70 dX1_contradict_66 (by decide) ?_
        exact go_zret dX1_contradict_70 rfl rfl rfl h
theorem k_X1_contradict {G : gG} {I : gI} {R : gR} {L : gL} {Q : gQ} {a b : Int32} (hR : g_Fx R) (p0 : 0 ≤ a ∧ a < 30) (p1 : 0 ≤ b ∧ b < 30) (hq : Q (some (.int (if I 133 (3 * a).toNatClampNeg = I 133 (3 * b).toNatClampNeg ∧ I 133 (3 * a + 1).toNatClampNeg = I 133 (3 * b + 1).toNatClampNeg ∧ ¬ I 133 (3 * a + 2).toNatClampNeg = I 133 (3 * b + 2).toNatClampNeg then 1 else 0))) SH I R L) : Mt G mX1_contradict 1 0 0 [.ref 3, .int a, .int b] SH I R L Q := e_X1_contradict hR (by grind [vi90])
theorem e_X2_emit {G : gG} {I : gI} {R : gR} {L : gL} {Q : gQ} {w : Int32} {y : Nat} (hR : g_Fx R) (hy : g_La y) (h : ((I y 1) < 0 → Q none SH I R L) ∧ (¬ (I y 1) < 0 → (300 ≤ (I y 1) → Q none SH I R L) ∧ (¬ 300 ≤ (I y 1) → vp_in (I y 1) 300 ∧ (∀ I_1 : gI, I_1 = up I (y + 1) (I y 1).toNatClampNeg w → ∀ I_2 : gI, I_2 = up I_1 y 1 ((I_1 y 1) + 1) → Q none SH I_2 R L)))) : Mt G mX2_emit 1 0 0 [.ref y, .int w] SH I R L Q := by
  refine go_start rfl (Nat.le_of_ble_eq_true rfl) rfl ?_
  refine go_aload_n dX2_emit_0 rfl ?_
  refine go_getI dX2_emit_1 fX2_33 rfl (La_s0 hy) ?_
  refine go_if_lt 39 dX2_emit_4 (by decide) (fun c => ?_) (fun c => ?_)
  · have h := h.1 c
    exact go_vret dX2_emit_39 rfl rfl h
  · have h := h.2 c
    refine go_aload_n dX2_emit_7 rfl ?_
    refine go_getI dX2_emit_8 fX2_33 rfl (La_s0 hy) ?_
    refine go_aload_n dX2_emit_11 rfl ?_
    refine go_getR dX2_emit_12 fX2_9 rfl (La_s0 hy) (hR _ _ _ (La_r0_0 hy)) ?_
    refine go_alen (v := 300) 0 dX2_emit_15 (La_s1 hy) (by decide) (by decide) ?_
    refine go_icmp_ge 39 dX2_emit_16 (by decide) (fun c => ?_) (fun c => ?_)
    · have h := h.1 c
      exact go_vret dX2_emit_39 rfl rfl h
    · have h := h.2 c
      refine go_aload_n dX2_emit_19 rfl ?_
      refine go_getR dX2_emit_20 fX2_9 rfl (La_s0 hy) (hR _ _ _ (La_r0_0 hy)) ?_
      refine go_aload_n dX2_emit_23 rfl ?_
      refine go_getI dX2_emit_24 fX2_33 rfl (La_s0 hy) ?_
      refine go_iload_n dX2_emit_27 rfl ?_
      obtain ⟨hi, h⟩ := h
      refine go_iast dX2_emit_28 (La_s1 hy) hi ?_
      have h := h _ rfl
      refine go_aload_n dX2_emit_29 rfl ?_
      refine go_dup dX2_emit_30 rfl ?_
      refine go_getI dX2_emit_31 fX2_33 rfl (La_s0 hy) ?_
      refine go_iconst (v := 1) dX2_emit_34 (by decide) ?_
      refine go_iadd dX2_emit_35 ?_
      refine go_putI dX2_emit_36 fX2_33 rfl rfl rfl (La_s0 hy) ?_
      have h := h _ rfl
      exact go_vret dX2_emit_39 rfl rfl h
theorem k_X2_emit {G : gG} {I : gI} {R : gR} {L : gL} {Q : gQ} {w : Int32} {y : Nat} (hR : g_Fx R) (hy : g_La y) (hq : Q none SH (emI I y w) R L) : Mt G mX2_emit 1 0 0 [.ref y, .int w] SH I R L Q := by
  refine e_X2_emit hR hy ?_
  refine ⟨fun c4 => ?_, fun c4 => ?_⟩
  · first | exact hq | (simp_all [emI]; done) | (grind [emI])
  · refine ⟨fun c3 => ?_, fun c3 => ?_⟩
    · first | exact hq | (simp_all [emI]; done) | (grind [emI])
    · refine ⟨?_, ?_⟩
      · first | assumption | grind [vi3, vi4, vi6, vi9, vi12, vi24, vi30, vi40, vi64, vi90, vi240, vi300, vi400] | (simp only [up_eq]; grind [vi3, vi4, vi6, vi9, vi12, vi24, vi30, vi40, vi64, vi90, vi240, vi300, vi400])
      rintro _ rfl
      rintro _ rfl
      first | exact hq | (simp_all [emI]; done) | (grind [emI])
theorem e_X3_isLetter {G : gG} {I : gI} {R : gR} {L : gL} {Q : gQ} {b : Int32} (hR : g_Fx R) (h : (b < 97 → (b < 65 → Q (some (.int 0)) SH I R L) ∧ (¬ b < 65 → (90 < b → Q (some (.int 0)) SH I R L) ∧ (¬ 90 < b → Q (some (.int 1)) SH I R L))) ∧ (¬ b < 97 → (b ≤ 122 → Q (some (.int 1)) SH I R L) ∧ (¬ b ≤ 122 → (b < 65 → Q (some (.int 0)) SH I R L) ∧ (¬ b < 65 → (90 < b → Q (some (.int 0)) SH I R L) ∧ (¬ 90 < b → Q (some (.int 1)) SH I R L))))) : Mt G mX3_isLetter 1 0 0 [.int b] SH I R L Q := by
  refine go_start rfl (Nat.le_of_ble_eq_true rfl) rfl ?_
  refine go_iload_n dX3_isLetter_0 rfl ?_
  refine go_bipush (v := 97) dX3_isLetter_1 (by decide) ?_
  refine go_icmp_lt 12 dX3_isLetter_3 (by decide) (fun c => ?_) (fun c => ?_)
  · have h := h.1 c
    refine go_iload_n dX3_isLetter_12 rfl ?_
    refine go_bipush (v := 65) dX3_isLetter_13 (by decide) ?_
    refine go_icmp_lt 28 dX3_isLetter_15 (by decide) (fun c => ?_) (fun c => ?_)
    · have h := h.1 c
      refine go_iconst (v := 0) dX3_isLetter_28 (by decide) ?_
      exact go_zret dX3_isLetter_29 rfl rfl rfl h
    · have h := h.2 c
      refine go_iload_n dX3_isLetter_18 rfl ?_
      refine go_bipush (v := 90) dX3_isLetter_19 (by decide) ?_
      refine go_icmp_gt 28 dX3_isLetter_21 (by decide) (fun c => ?_) (fun c => ?_)
      · have h := h.1 c
        refine go_iconst (v := 0) dX3_isLetter_28 (by decide) ?_
        exact go_zret dX3_isLetter_29 rfl rfl rfl h
      · have h := h.2 c
        refine go_iconst (v := 1) dX3_isLetter_24 (by decide) ?_
        refine go_goto 29 dX3_isLetter_25 (by decide) ?_
        exact go_zret dX3_isLetter_29 rfl rfl rfl h
  · have h := h.2 c
    refine go_iload_n dX3_isLetter_6 rfl ?_
    refine go_bipush (v := 122) dX3_isLetter_7 (by decide) ?_
    refine go_icmp_le 24 dX3_isLetter_9 (by decide) (fun c => ?_) (fun c => ?_)
    · have h := h.1 c
      refine go_iconst (v := 1) dX3_isLetter_24 (by decide) ?_
      refine go_goto 29 dX3_isLetter_25 (by decide) ?_
      exact go_zret dX3_isLetter_29 rfl rfl rfl h
    · have h := h.2 c
      refine go_iload_n dX3_isLetter_12 rfl ?_
      refine go_bipush (v := 65) dX3_isLetter_13 (by decide) ?_
      refine go_icmp_lt 28 dX3_isLetter_15 (by decide) (fun c => ?_) (fun c => ?_)
      · have h := h.1 c
        refine go_iconst (v := 0) dX3_isLetter_28 (by decide) ?_
        exact go_zret dX3_isLetter_29 rfl rfl rfl h
      · have h := h.2 c
        refine go_iload_n dX3_isLetter_18 rfl ?_
        refine go_bipush (v := 90) dX3_isLetter_19 (by decide) ?_
        refine go_icmp_gt 28 dX3_isLetter_21 (by decide) (fun c => ?_) (fun c => ?_)
        · have h := h.1 c
          refine go_iconst (v := 0) dX3_isLetter_28 (by decide) ?_
          exact go_zret dX3_isLetter_29 rfl rfl rfl h
        · have h := h.2 c
          refine go_iconst (v := 1) dX3_isLetter_24 (by decide) ?_
          refine go_goto 29 dX3_isLetter_25 (by decide) ?_
          exact go_zret dX3_isLetter_29 rfl rfl rfl h
theorem k_X3_isLetter {G : gG} {I : gI} {R : gR} {L : gL} {Q : gQ} {b : Int32} (hR : g_Fx R) (hq : Q (some (.int (if (97 ≤ b ∧ b ≤ 122) ∨ (65 ≤ b ∧ b ≤ 90) then 1 else 0))) SH I R L) : Mt G mX3_isLetter 1 0 0 [.int b] SH I R L Q := e_X3_isLetter hR (by grind)
theorem e_X3_isDigit {G : gG} {I : gI} {R : gR} {L : gL} {Q : gQ} {b : Int32} (hR : g_Fx R) (h : (b < 48 → Q (some (.int 0)) SH I R L) ∧ (¬ b < 48 → (57 < b → Q (some (.int 0)) SH I R L) ∧ (¬ 57 < b → Q (some (.int 1)) SH I R L))) : Mt G mX3_isDigit 1 0 0 [.int b] SH I R L Q := by
  refine go_start rfl (Nat.le_of_ble_eq_true rfl) rfl ?_
  refine go_iload_n dX3_isDigit_0 rfl ?_
  refine go_bipush (v := 48) dX3_isDigit_1 (by decide) ?_
  refine go_icmp_lt 16 dX3_isDigit_3 (by decide) (fun c => ?_) (fun c => ?_)
  · have h := h.1 c
    refine go_iconst (v := 0) dX3_isDigit_16 (by decide) ?_
    exact go_zret dX3_isDigit_17 rfl rfl rfl h
  · have h := h.2 c
    refine go_iload_n dX3_isDigit_6 rfl ?_
    refine go_bipush (v := 57) dX3_isDigit_7 (by decide) ?_
    refine go_icmp_gt 16 dX3_isDigit_9 (by decide) (fun c => ?_) (fun c => ?_)
    · have h := h.1 c
      refine go_iconst (v := 0) dX3_isDigit_16 (by decide) ?_
      exact go_zret dX3_isDigit_17 rfl rfl rfl h
    · have h := h.2 c
      refine go_iconst (v := 1) dX3_isDigit_12 (by decide) ?_
      refine go_goto 17 dX3_isDigit_13 (by decide) ?_
      exact go_zret dX3_isDigit_17 rfl rfl rfl h
theorem k_X3_isDigit {G : gG} {I : gI} {R : gR} {L : gL} {Q : gQ} {b : Int32} (hR : g_Fx R) (hq : Q (some (.int (if 48 ≤ b ∧ b ≤ 57 then 1 else 0))) SH I R L) : Mt G mX3_isDigit 1 0 0 [.int b] SH I R L Q := e_X3_isDigit hR (by grind)
theorem e_X3_isComparison {G : gG} {I : gI} {R : gR} {L : gL} {Q : gQ} {b : Int32} (hR : g_Fx R) (h : (b < 24 → (b = 35 → Q (some (.int 1)) SH I R L) ∧ (¬ b = 35 → (¬ b = 36 → Q (some (.int 0)) SH I R L) ∧ (b = 36 → Q (some (.int 1)) SH I R L))) ∧ (¬ b < 24 → (b ≤ 27 → Q (some (.int 1)) SH I R L) ∧ (¬ b ≤ 27 → (b = 35 → Q (some (.int 1)) SH I R L) ∧ (¬ b = 35 → (¬ b = 36 → Q (some (.int 0)) SH I R L) ∧ (b = 36 → Q (some (.int 1)) SH I R L))))) : Mt G mX3_isComparison 1 0 0 [.int b] SH I R L Q := by
  refine go_start rfl (Nat.le_of_ble_eq_true rfl) rfl ?_
  refine go_iload_n dX3_isComparison_0 rfl ?_
  refine go_bipush (v := 24) dX3_isComparison_1 (by decide) ?_
  refine go_icmp_lt 12 dX3_isComparison_3 (by decide) (fun c => ?_) (fun c => ?_)
  · have h := h.1 c
    refine go_iload_n dX3_isComparison_12 rfl ?_
    refine go_bipush (v := 35) dX3_isComparison_13 (by decide) ?_
    refine go_icmp_eq 24 dX3_isComparison_15 (by decide) (fun c => ?_) (fun c => ?_)
    · have h := h.1 c
      refine go_iconst (v := 1) dX3_isComparison_24 (by decide) ?_
      refine go_goto 29 dX3_isComparison_25 (by decide) ?_
      exact go_zret dX3_isComparison_29 rfl rfl rfl h
    · have h := h.2 c
      refine go_iload_n dX3_isComparison_18 rfl ?_
      refine go_bipush (v := 36) dX3_isComparison_19 (by decide) ?_
      refine go_icmp_ne 28 dX3_isComparison_21 (by decide) (fun c => ?_) (fun c => ?_)
      · have h := h.1 c
        refine go_iconst (v := 0) dX3_isComparison_28 (by decide) ?_
        exact go_zret dX3_isComparison_29 rfl rfl rfl h
      · have h := h.2 c
        refine go_iconst (v := 1) dX3_isComparison_24 (by decide) ?_
        refine go_goto 29 dX3_isComparison_25 (by decide) ?_
        exact go_zret dX3_isComparison_29 rfl rfl rfl h
  · have h := h.2 c
    refine go_iload_n dX3_isComparison_6 rfl ?_
    refine go_bipush (v := 27) dX3_isComparison_7 (by decide) ?_
    refine go_icmp_le 24 dX3_isComparison_9 (by decide) (fun c => ?_) (fun c => ?_)
    · have h := h.1 c
      refine go_iconst (v := 1) dX3_isComparison_24 (by decide) ?_
      refine go_goto 29 dX3_isComparison_25 (by decide) ?_
      exact go_zret dX3_isComparison_29 rfl rfl rfl h
    · have h := h.2 c
      refine go_iload_n dX3_isComparison_12 rfl ?_
      refine go_bipush (v := 35) dX3_isComparison_13 (by decide) ?_
      refine go_icmp_eq 24 dX3_isComparison_15 (by decide) (fun c => ?_) (fun c => ?_)
      · have h := h.1 c
        refine go_iconst (v := 1) dX3_isComparison_24 (by decide) ?_
        refine go_goto 29 dX3_isComparison_25 (by decide) ?_
        exact go_zret dX3_isComparison_29 rfl rfl rfl h
      · have h := h.2 c
        refine go_iload_n dX3_isComparison_18 rfl ?_
        refine go_bipush (v := 36) dX3_isComparison_19 (by decide) ?_
        refine go_icmp_ne 28 dX3_isComparison_21 (by decide) (fun c => ?_) (fun c => ?_)
        · have h := h.1 c
          refine go_iconst (v := 0) dX3_isComparison_28 (by decide) ?_
          exact go_zret dX3_isComparison_29 rfl rfl rfl h
        · have h := h.2 c
          refine go_iconst (v := 1) dX3_isComparison_24 (by decide) ?_
          refine go_goto 29 dX3_isComparison_25 (by decide) ?_
          exact go_zret dX3_isComparison_29 rfl rfl rfl h
theorem k_X3_isComparison {G : gG} {I : gI} {R : gR} {L : gL} {Q : gQ} {b : Int32} (hR : g_Fx R) (hq : Q (some (.int (if (24 ≤ b ∧ b ≤ 27) ∨ b = 35 ∨ b = 36 then 1 else 0))) SH I R L) : Mt G mX3_isComparison 1 0 0 [.int b] SH I R L Q := e_X3_isComparison hR (by grind)
theorem e_X3_bindingOf {G : gG} {I : gI} {R : gR} {L : gL} {Q : gQ} {a : Int32} (hR : g_Fx R) (h : (a = 32 → Q (some (.int 0)) SH I R L) ∧ (a = 9 → Q (some (.int 1)) SH I R L) ∧ (a = 10 → Q (some (.int 2)) SH I R L) ∧ (a = 11 → Q (some (.int 3)) SH I R L) ∧ (a = 28 → Q (some (.int 5)) SH I R L) ∧ (a = 29 → Q (some (.int 5)) SH I R L) ∧ (a = 30 → Q (some (.int 6)) SH I R L) ∧ (a = 31 → Q (some (.int 6)) SH I R L) ∧ (a = 40 → Q (some (.int 7)) SH I R L) ∧ (¬ a = 32 ∧ ¬ a = 9 ∧ ¬ a = 10 ∧ ¬ a = 11 ∧ ¬ a = 28 ∧ ¬ a = 29 ∧ ¬ a = 30 ∧ ¬ a = 31 ∧ ¬ a = 40 → Q (some (.int 4)) SH I R L)) : Mt G mX3_bindingOf 1 0 0 [.int a] SH I R L Q := by
  refine go_start rfl (Nat.le_of_ble_eq_true rfl) rfl ?_
  refine go_iload_n dX3_bindingOf_0 rfl ?_
  by_cases c0 : a = 32
  · have h := h.1 c0
    refine go_tsIn 144 dX3_bindingOf_1 (by rw [c0]; decide) (by rw [c0]; decide) (by rw [c0]; rfl) (by decide) ?_
    refine go_iconst (v := 0) dX3_bindingOf_144 (by decide) ?_
    exact go_iret dX3_bindingOf_145 rfl rfl h
  by_cases c1 : a = 9
  · have h := h.2.1 c1
    refine go_tsIn 146 dX3_bindingOf_1 (by rw [c1]; decide) (by rw [c1]; decide) (by rw [c1]; rfl) (by decide) ?_
    refine go_iconst (v := 1) dX3_bindingOf_146 (by decide) ?_
    exact go_iret dX3_bindingOf_147 rfl rfl h
  by_cases c2 : a = 10
  · have h := h.2.2.1 c2
    refine go_tsIn 148 dX3_bindingOf_1 (by rw [c2]; decide) (by rw [c2]; decide) (by rw [c2]; rfl) (by decide) ?_
    refine go_iconst (v := 2) dX3_bindingOf_148 (by decide) ?_
    exact go_iret dX3_bindingOf_149 rfl rfl h
  by_cases c3 : a = 11
  · have h := h.2.2.2.1 c3
    refine go_tsIn 150 dX3_bindingOf_1 (by rw [c3]; decide) (by rw [c3]; decide) (by rw [c3]; rfl) (by decide) ?_
    refine go_iconst (v := 3) dX3_bindingOf_150 (by decide) ?_
    exact go_iret dX3_bindingOf_151 rfl rfl h
  by_cases c4 : a = 28
  · have h := h.2.2.2.2.1 c4
    refine go_tsIn 152 dX3_bindingOf_1 (by rw [c4]; decide) (by rw [c4]; decide) (by rw [c4]; rfl) (by decide) ?_
    refine go_iconst (v := 5) dX3_bindingOf_152 (by decide) ?_
    exact go_iret dX3_bindingOf_153 rfl rfl h
  by_cases c5 : a = 29
  · have h := h.2.2.2.2.2.1 c5
    refine go_tsIn 152 dX3_bindingOf_1 (by rw [c5]; decide) (by rw [c5]; decide) (by rw [c5]; rfl) (by decide) ?_
    refine go_iconst (v := 5) dX3_bindingOf_152 (by decide) ?_
    exact go_iret dX3_bindingOf_153 rfl rfl h
  by_cases c6 : a = 30
  · have h := h.2.2.2.2.2.2.1 c6
    refine go_tsIn 154 dX3_bindingOf_1 (by rw [c6]; decide) (by rw [c6]; decide) (by rw [c6]; rfl) (by decide) ?_
    refine go_bipush (v := 6) dX3_bindingOf_154 (by decide) ?_
    exact go_iret dX3_bindingOf_156 rfl rfl h
  by_cases c7 : a = 31
  · have h := h.2.2.2.2.2.2.2.1 c7
    refine go_tsIn 154 dX3_bindingOf_1 (by rw [c7]; decide) (by rw [c7]; decide) (by rw [c7]; rfl) (by decide) ?_
    refine go_bipush (v := 6) dX3_bindingOf_154 (by decide) ?_
    exact go_iret dX3_bindingOf_156 rfl rfl h
  by_cases c8 : a = 40
  · have h := h.2.2.2.2.2.2.2.2.1 c8
    refine go_tsIn 157 dX3_bindingOf_1 (by rw [c8]; decide) (by rw [c8]; decide) (by rw [c8]; rfl) (by decide) ?_
    refine go_bipush (v := 7) dX3_bindingOf_157 (by decide) ?_
    exact go_iret dX3_bindingOf_159 rfl rfl h
  have h := h.2.2.2.2.2.2.2.2.2 ⟨c0, c1, c2, c3, c4, c5, c6, c7, c8⟩
  have e0 : ¬ Int32.toInt a = 32 := fun q => c0 (Int32.toInt_inj.mp (q.trans (by decide)))
  have e1 : ¬ Int32.toInt a = 9 := fun q => c1 (Int32.toInt_inj.mp (q.trans (by decide)))
  have e2 : ¬ Int32.toInt a = 10 := fun q => c2 (Int32.toInt_inj.mp (q.trans (by decide)))
  have e3 : ¬ Int32.toInt a = 11 := fun q => c3 (Int32.toInt_inj.mp (q.trans (by decide)))
  have e4 : ¬ Int32.toInt a = 28 := fun q => c4 (Int32.toInt_inj.mp (q.trans (by decide)))
  have e5 : ¬ Int32.toInt a = 29 := fun q => c5 (Int32.toInt_inj.mp (q.trans (by decide)))
  have e6 : ¬ Int32.toInt a = 30 := fun q => c6 (Int32.toInt_inj.mp (q.trans (by decide)))
  have e7 : ¬ Int32.toInt a = 31 := fun q => c7 (Int32.toInt_inj.mp (q.trans (by decide)))
  have e8 : ¬ Int32.toInt a = 40 := fun q => c8 (Int32.toInt_inj.mp (q.trans (by decide)))
  by_cases co : Int32.toInt a < 9 ∨ 40 < Int32.toInt a
  · refine go_tsOut 160 dX3_bindingOf_1 co (by decide) ?_
    refine go_iconst (v := 4) dX3_bindingOf_160 (by decide) ?_
    exact go_iret dX3_bindingOf_161 rfl rfl h
  by_cases cv12 : Int32.toInt a = 12
  · refine go_tsIn 160 dX3_bindingOf_1 (by rw [cv12]; decide) (by rw [cv12]; decide) (by rw [cv12]; rfl) (by decide) ?_
    refine go_iconst (v := 4) dX3_bindingOf_160 (by decide) ?_
    exact go_iret dX3_bindingOf_161 rfl rfl h
  by_cases cv13 : Int32.toInt a = 13
  · refine go_tsIn 160 dX3_bindingOf_1 (by rw [cv13]; decide) (by rw [cv13]; decide) (by rw [cv13]; rfl) (by decide) ?_
    refine go_iconst (v := 4) dX3_bindingOf_160 (by decide) ?_
    exact go_iret dX3_bindingOf_161 rfl rfl h
  by_cases cv14 : Int32.toInt a = 14
  · refine go_tsIn 160 dX3_bindingOf_1 (by rw [cv14]; decide) (by rw [cv14]; decide) (by rw [cv14]; rfl) (by decide) ?_
    refine go_iconst (v := 4) dX3_bindingOf_160 (by decide) ?_
    exact go_iret dX3_bindingOf_161 rfl rfl h
  by_cases cv15 : Int32.toInt a = 15
  · refine go_tsIn 160 dX3_bindingOf_1 (by rw [cv15]; decide) (by rw [cv15]; decide) (by rw [cv15]; rfl) (by decide) ?_
    refine go_iconst (v := 4) dX3_bindingOf_160 (by decide) ?_
    exact go_iret dX3_bindingOf_161 rfl rfl h
  by_cases cv16 : Int32.toInt a = 16
  · refine go_tsIn 160 dX3_bindingOf_1 (by rw [cv16]; decide) (by rw [cv16]; decide) (by rw [cv16]; rfl) (by decide) ?_
    refine go_iconst (v := 4) dX3_bindingOf_160 (by decide) ?_
    exact go_iret dX3_bindingOf_161 rfl rfl h
  by_cases cv17 : Int32.toInt a = 17
  · refine go_tsIn 160 dX3_bindingOf_1 (by rw [cv17]; decide) (by rw [cv17]; decide) (by rw [cv17]; rfl) (by decide) ?_
    refine go_iconst (v := 4) dX3_bindingOf_160 (by decide) ?_
    exact go_iret dX3_bindingOf_161 rfl rfl h
  by_cases cv18 : Int32.toInt a = 18
  · refine go_tsIn 160 dX3_bindingOf_1 (by rw [cv18]; decide) (by rw [cv18]; decide) (by rw [cv18]; rfl) (by decide) ?_
    refine go_iconst (v := 4) dX3_bindingOf_160 (by decide) ?_
    exact go_iret dX3_bindingOf_161 rfl rfl h
  by_cases cv19 : Int32.toInt a = 19
  · refine go_tsIn 160 dX3_bindingOf_1 (by rw [cv19]; decide) (by rw [cv19]; decide) (by rw [cv19]; rfl) (by decide) ?_
    refine go_iconst (v := 4) dX3_bindingOf_160 (by decide) ?_
    exact go_iret dX3_bindingOf_161 rfl rfl h
  by_cases cv20 : Int32.toInt a = 20
  · refine go_tsIn 160 dX3_bindingOf_1 (by rw [cv20]; decide) (by rw [cv20]; decide) (by rw [cv20]; rfl) (by decide) ?_
    refine go_iconst (v := 4) dX3_bindingOf_160 (by decide) ?_
    exact go_iret dX3_bindingOf_161 rfl rfl h
  by_cases cv21 : Int32.toInt a = 21
  · refine go_tsIn 160 dX3_bindingOf_1 (by rw [cv21]; decide) (by rw [cv21]; decide) (by rw [cv21]; rfl) (by decide) ?_
    refine go_iconst (v := 4) dX3_bindingOf_160 (by decide) ?_
    exact go_iret dX3_bindingOf_161 rfl rfl h
  by_cases cv22 : Int32.toInt a = 22
  · refine go_tsIn 160 dX3_bindingOf_1 (by rw [cv22]; decide) (by rw [cv22]; decide) (by rw [cv22]; rfl) (by decide) ?_
    refine go_iconst (v := 4) dX3_bindingOf_160 (by decide) ?_
    exact go_iret dX3_bindingOf_161 rfl rfl h
  by_cases cv23 : Int32.toInt a = 23
  · refine go_tsIn 160 dX3_bindingOf_1 (by rw [cv23]; decide) (by rw [cv23]; decide) (by rw [cv23]; rfl) (by decide) ?_
    refine go_iconst (v := 4) dX3_bindingOf_160 (by decide) ?_
    exact go_iret dX3_bindingOf_161 rfl rfl h
  by_cases cv24 : Int32.toInt a = 24
  · refine go_tsIn 160 dX3_bindingOf_1 (by rw [cv24]; decide) (by rw [cv24]; decide) (by rw [cv24]; rfl) (by decide) ?_
    refine go_iconst (v := 4) dX3_bindingOf_160 (by decide) ?_
    exact go_iret dX3_bindingOf_161 rfl rfl h
  by_cases cv25 : Int32.toInt a = 25
  · refine go_tsIn 160 dX3_bindingOf_1 (by rw [cv25]; decide) (by rw [cv25]; decide) (by rw [cv25]; rfl) (by decide) ?_
    refine go_iconst (v := 4) dX3_bindingOf_160 (by decide) ?_
    exact go_iret dX3_bindingOf_161 rfl rfl h
  by_cases cv26 : Int32.toInt a = 26
  · refine go_tsIn 160 dX3_bindingOf_1 (by rw [cv26]; decide) (by rw [cv26]; decide) (by rw [cv26]; rfl) (by decide) ?_
    refine go_iconst (v := 4) dX3_bindingOf_160 (by decide) ?_
    exact go_iret dX3_bindingOf_161 rfl rfl h
  by_cases cv27 : Int32.toInt a = 27
  · refine go_tsIn 160 dX3_bindingOf_1 (by rw [cv27]; decide) (by rw [cv27]; decide) (by rw [cv27]; rfl) (by decide) ?_
    refine go_iconst (v := 4) dX3_bindingOf_160 (by decide) ?_
    exact go_iret dX3_bindingOf_161 rfl rfl h
  by_cases cv33 : Int32.toInt a = 33
  · refine go_tsIn 160 dX3_bindingOf_1 (by rw [cv33]; decide) (by rw [cv33]; decide) (by rw [cv33]; rfl) (by decide) ?_
    refine go_iconst (v := 4) dX3_bindingOf_160 (by decide) ?_
    exact go_iret dX3_bindingOf_161 rfl rfl h
  by_cases cv34 : Int32.toInt a = 34
  · refine go_tsIn 160 dX3_bindingOf_1 (by rw [cv34]; decide) (by rw [cv34]; decide) (by rw [cv34]; rfl) (by decide) ?_
    refine go_iconst (v := 4) dX3_bindingOf_160 (by decide) ?_
    exact go_iret dX3_bindingOf_161 rfl rfl h
  by_cases cv35 : Int32.toInt a = 35
  · refine go_tsIn 160 dX3_bindingOf_1 (by rw [cv35]; decide) (by rw [cv35]; decide) (by rw [cv35]; rfl) (by decide) ?_
    refine go_iconst (v := 4) dX3_bindingOf_160 (by decide) ?_
    exact go_iret dX3_bindingOf_161 rfl rfl h
  by_cases cv36 : Int32.toInt a = 36
  · refine go_tsIn 160 dX3_bindingOf_1 (by rw [cv36]; decide) (by rw [cv36]; decide) (by rw [cv36]; rfl) (by decide) ?_
    refine go_iconst (v := 4) dX3_bindingOf_160 (by decide) ?_
    exact go_iret dX3_bindingOf_161 rfl rfl h
  by_cases cv37 : Int32.toInt a = 37
  · refine go_tsIn 160 dX3_bindingOf_1 (by rw [cv37]; decide) (by rw [cv37]; decide) (by rw [cv37]; rfl) (by decide) ?_
    refine go_iconst (v := 4) dX3_bindingOf_160 (by decide) ?_
    exact go_iret dX3_bindingOf_161 rfl rfl h
  by_cases cv38 : Int32.toInt a = 38
  · refine go_tsIn 160 dX3_bindingOf_1 (by rw [cv38]; decide) (by rw [cv38]; decide) (by rw [cv38]; rfl) (by decide) ?_
    refine go_iconst (v := 4) dX3_bindingOf_160 (by decide) ?_
    exact go_iret dX3_bindingOf_161 rfl rfl h
  by_cases cv39 : Int32.toInt a = 39
  · refine go_tsIn 160 dX3_bindingOf_1 (by rw [cv39]; decide) (by rw [cv39]; decide) (by rw [cv39]; rfl) (by decide) ?_
    refine go_iconst (v := 4) dX3_bindingOf_160 (by decide) ?_
    exact go_iret dX3_bindingOf_161 rfl rfl h
  exact absurd co (by omega)
theorem k_X3_bindingOf {G : gG} {I : gI} {R : gR} {L : gL} {Q : gQ} {a : Int32} (hR : g_Fx R) (hq : Q (some (.int (bnd a))) SH I R L) : Mt G mX3_bindingOf 1 0 0 [.int a] SH I R L Q := by
  refine e_X3_bindingOf hR ?_
  refine ⟨fun c1 => ?_, fun c1 => ?_, fun c1 => ?_, fun c1 => ?_, fun c1 => ?_, fun c1 => ?_, fun c1 => ?_, fun c1 => ?_, fun c1 => ?_, fun c1 => ?_⟩
  · first | exact hq | (simp_all [bnd]; done) | (grind [bnd])
  · first | exact hq | (simp_all [bnd]; done) | (grind [bnd])
  · first | exact hq | (simp_all [bnd]; done) | (grind [bnd])
  · first | exact hq | (simp_all [bnd]; done) | (grind [bnd])
  · first | exact hq | (simp_all [bnd]; done) | (grind [bnd])
  · first | exact hq | (simp_all [bnd]; done) | (grind [bnd])
  · first | exact hq | (simp_all [bnd]; done) | (grind [bnd])
  · first | exact hq | (simp_all [bnd]; done) | (grind [bnd])
  · first | exact hq | (simp_all [bnd]; done) | (grind [bnd])
  · first | exact hq | (simp_all [bnd]; done) | (grind [bnd])
theorem e_X3_fail {G : gG} {I : gI} {R : gR} {L : gL} {Q : gQ} {k : Int32} (hR : g_Fx R) (h : (¬ (I 306 7) = 0 → Q none SH I R L) ∧ ((I 306 7) = 0 → ∀ I_1 : gI, I_1 = up I 306 7 k → ∀ I_2 : gI, I_2 = up I_1 306 8 (I_1 306 4) → Q none SH I_2 R L)) : Mt G mX3_fail 1 0 0 [.ref 306, .int k] SH I R L Q := by
  refine go_start rfl (Nat.le_of_ble_eq_true rfl) rfl ?_
  refine go_aload_n dX3_fail_0 rfl ?_
  refine go_getI dX3_fail_1 fX3_31 rfl rfl ?_
  refine go_if_ne 20 dX3_fail_4 (by decide) (fun c => ?_) (fun c => ?_)
  · have h := h.1 c
    exact go_vret dX3_fail_20 rfl rfl h
  · have h := h.2 c
    refine go_aload_n dX3_fail_7 rfl ?_
    refine go_iload_n dX3_fail_8 rfl ?_
    refine go_putI dX3_fail_9 fX3_31 rfl rfl rfl rfl ?_
    have h := h _ rfl
    refine go_aload_n dX3_fail_12 rfl ?_
    refine go_aload_n dX3_fail_13 rfl ?_
    refine go_getI dX3_fail_14 fX3_56 rfl rfl ?_
    refine go_putI dX3_fail_17 fX3_34 rfl rfl rfl rfl ?_
    have h := h _ rfl
    exact go_vret dX3_fail_20 rfl rfl h
theorem k_X3_fail {G : gG} {I : gI} {R : gR} {L : gL} {Q : gQ} {k : Int32} (hR : g_Fx R) (hq : Q none SH (failI I k) R L) : Mt G mX3_fail 1 0 0 [.ref 306, .int k] SH I R L Q := by
  refine e_X3_fail hR ?_
  refine ⟨fun c3 => ?_, fun c3 => ?_⟩
  · first | exact hq | (simp_all [failI]; done) | (grind [failI])
  · rintro _ rfl
    rintro _ rfl
    first | exact hq | (simp_all [failI]; done) | (grind [failI])
theorem e_X3_putWaiting {G : gG} {I : gI} {R : gR} {L : gL} {Q : gQ} {w : Int32} (hR : g_Fx R) (h : ((I 306 10) < 0 → Q none SH I R L) ∧ (¬ (I 306 10) < 0 → (64 ≤ (I 306 10) → Q none SH I R L) ∧ (¬ 64 ≤ (I 306 10) → vp_in (I 306 10) 64 ∧ (∀ I_1 : gI, I_1 = up I 308 (I 306 10).toNatClampNeg w → ∀ I_2 : gI, I_2 = up I_1 306 10 ((I_1 306 10) + 1) → Q none SH I_2 R L)))) : Mt G mX3_putWaiting 1 0 0 [.ref 306, .int w] SH I R L Q := by
  refine go_start rfl (Nat.le_of_ble_eq_true rfl) rfl ?_
  refine go_aload_n dX3_putWaiting_0 rfl ?_
  refine go_getI dX3_putWaiting_1 fX3_132 rfl rfl ?_
  refine go_if_lt 39 dX3_putWaiting_4 (by decide) (fun c => ?_) (fun c => ?_)
  · have h := h.1 c
    exact go_vret dX3_putWaiting_39 rfl rfl h
  · have h := h.2 c
    refine go_aload_n dX3_putWaiting_7 rfl ?_
    refine go_getI dX3_putWaiting_8 fX3_132 rfl rfl ?_
    refine go_aload_n dX3_putWaiting_11 rfl ?_
    refine go_getR dX3_putWaiting_12 fX3_15 rfl rfl (hR 306 9 308 rfl) ?_
    refine go_alen (v := 64) 0 dX3_putWaiting_15 rfl (by decide) (by decide) ?_
    refine go_icmp_ge 39 dX3_putWaiting_16 (by decide) (fun c => ?_) (fun c => ?_)
    · have h := h.1 c
      exact go_vret dX3_putWaiting_39 rfl rfl h
    · have h := h.2 c
      refine go_aload_n dX3_putWaiting_19 rfl ?_
      refine go_getR dX3_putWaiting_20 fX3_15 rfl rfl (hR 306 9 308 rfl) ?_
      refine go_aload_n dX3_putWaiting_23 rfl ?_
      refine go_getI dX3_putWaiting_24 fX3_132 rfl rfl ?_
      refine go_iload_n dX3_putWaiting_27 rfl ?_
      obtain ⟨hi, h⟩ := h
      refine go_iast dX3_putWaiting_28 rfl hi ?_
      have h := h _ rfl
      refine go_aload_n dX3_putWaiting_29 rfl ?_
      refine go_dup dX3_putWaiting_30 rfl ?_
      refine go_getI dX3_putWaiting_31 fX3_132 rfl rfl ?_
      refine go_iconst (v := 1) dX3_putWaiting_34 (by decide) ?_
      refine go_iadd dX3_putWaiting_35 ?_
      refine go_putI dX3_putWaiting_36 fX3_132 rfl rfl rfl rfl ?_
      have h := h _ rfl
      exact go_vret dX3_putWaiting_39 rfl rfl h
theorem k_X3_putWaiting {G : gG} {I : gI} {R : gR} {L : gL} {Q : gQ} {w : Int32} (hR : g_Fx R) (hq : Q none SH (puW I w) R L) : Mt G mX3_putWaiting 1 0 0 [.ref 306, .int w] SH I R L Q := by
  refine e_X3_putWaiting hR ?_
  refine ⟨fun c4 => ?_, fun c4 => ?_⟩
  · first | exact hq | (simp_all [puW]; done) | (grind [puW])
  · refine ⟨fun c3 => ?_, fun c3 => ?_⟩
    · first | exact hq | (simp_all [puW]; done) | (grind [puW])
    · refine ⟨?_, ?_⟩
      · first | assumption | grind [vi3, vi4, vi6, vi9, vi12, vi24, vi30, vi40, vi64, vi90, vi240, vi300, vi400] | (simp only [up_eq]; grind [vi3, vi4, vi6, vi9, vi12, vi24, vi30, vi40, vi64, vi90, vi240, vi300, vi400])
      rintro _ rfl
      rintro _ rfl
      first | exact hq | (simp_all [puW]; done) | (grind [puW])
theorem e_X3_dropWaiting {G : gG} {I : gI} {R : gR} {L : gL} {Q : gQ} (hR : g_Fx R) (h : ((I 306 10) ≤ 0 → Q none SH I R L) ∧ (¬ (I 306 10) ≤ 0 → (64 < (I 306 10) → Q none SH I R L) ∧ (¬ 64 < (I 306 10) → ∀ I_1 : gI, I_1 = up I 306 10 ((I 306 10) - 1) → vp_in (I_1 306 10) 64 ∧ (∀ v1_2 : Int32, v1_2 = (I_1 308 (I_1 306 10).toNatClampNeg) → (v1_2 = 32 → ∀ I_3 : gI, I_3 = up I_1 306 11 ((I_1 306 11) - 1) → Q none SH I_3 R L) ∧ (¬ v1_2 = 32 → (v1_2 = 11 → ∀ I_4 : gI, I_4 = up I_1 306 11 ((I_1 306 11) - 1) → Q none SH I_4 R L) ∧ (¬ v1_2 = 11 → (¬ v1_2 = 40 → ∀ I_5 : gI, I_5 = up I_1 306 11 ((I_1 306 11) - 0) → Q none SH I_5 R L) ∧ (v1_2 = 40 → ∀ I_6 : gI, I_6 = up I_1 306 11 ((I_1 306 11) - 1) → Q none SH I_6 R L))))))) : Mt G mX3_dropWaiting 1 0 0 [.ref 306] SH I R L Q := by
  refine go_start rfl (Nat.le_of_ble_eq_true rfl) rfl ?_
  refine go_aload_n dX3_dropWaiting_0 rfl ?_
  refine go_getI dX3_dropWaiting_1 fX3_132 rfl rfl ?_
  refine go_if_le 71 dX3_dropWaiting_4 (by decide) (fun c => ?_) (fun c => ?_)
  · have h := h.1 c
    exact go_vret dX3_dropWaiting_71 rfl rfl h
  · have h := h.2 c
    refine go_aload_n dX3_dropWaiting_7 rfl ?_
    refine go_getI dX3_dropWaiting_8 fX3_132 rfl rfl ?_
    refine go_aload_n dX3_dropWaiting_11 rfl ?_
    refine go_getR dX3_dropWaiting_12 fX3_15 rfl rfl (hR 306 9 308 rfl) ?_
    refine go_alen (v := 64) 0 dX3_dropWaiting_15 rfl (by decide) (by decide) ?_
    refine go_icmp_gt 71 dX3_dropWaiting_16 (by decide) (fun c => ?_) (fun c => ?_)
    · have h := h.1 c
      exact go_vret dX3_dropWaiting_71 rfl rfl h
    · have h := h.2 c
      refine go_aload_n dX3_dropWaiting_19 rfl ?_
      refine go_dup dX3_dropWaiting_20 rfl ?_
      refine go_getI dX3_dropWaiting_21 fX3_132 rfl rfl ?_
      refine go_iconst (v := 1) dX3_dropWaiting_24 (by decide) ?_
      refine go_isub dX3_dropWaiting_25 ?_
      refine go_putI dX3_dropWaiting_26 fX3_132 rfl rfl rfl rfl ?_
      have h := h _ rfl
      refine go_aload_n dX3_dropWaiting_29 rfl ?_
      refine go_getR dX3_dropWaiting_30 fX3_15 rfl rfl (hR 306 9 308 rfl) ?_
      refine go_aload_n dX3_dropWaiting_33 rfl ?_
      refine go_getI dX3_dropWaiting_34 fX3_132 rfl rfl ?_
      obtain ⟨hi, h⟩ := h
      refine go_iald dX3_dropWaiting_37 rfl hi ?_
      refine go_istore_n dX3_dropWaiting_38 (Nat.le_of_ble_eq_true rfl) rfl ?_
      have h := h _ rfl
      refine go_aload_n dX3_dropWaiting_39 rfl ?_
      refine go_dup dX3_dropWaiting_40 rfl ?_
      refine go_getI dX3_dropWaiting_41 fX3_135 rfl rfl ?_
      refine go_iload_n dX3_dropWaiting_44 rfl ?_
      refine go_bipush (v := 32) dX3_dropWaiting_45 (by decide) ?_
      refine go_icmp_eq 62 dX3_dropWaiting_47 (by decide) (fun c => ?_) (fun c => ?_)
      · have h := h.1 c
        refine go_iconst (v := 1) dX3_dropWaiting_62 (by decide) ?_
        refine go_goto 67 dX3_dropWaiting_63 (by decide) ?_
        refine go_isub dX3_dropWaiting_67 ?_
        refine go_putI dX3_dropWaiting_68 fX3_135 rfl rfl rfl rfl ?_
        have h := h _ rfl
        exact go_vret dX3_dropWaiting_71 rfl rfl h
      · have h := h.2 c
        refine go_iload_n dX3_dropWaiting_50 rfl ?_
        refine go_bipush (v := 11) dX3_dropWaiting_51 (by decide) ?_
        refine go_icmp_eq 62 dX3_dropWaiting_53 (by decide) (fun c => ?_) (fun c => ?_)
        · have h := h.1 c
          refine go_iconst (v := 1) dX3_dropWaiting_62 (by decide) ?_
          refine go_goto 67 dX3_dropWaiting_63 (by decide) ?_
          refine go_isub dX3_dropWaiting_67 ?_
          refine go_putI dX3_dropWaiting_68 fX3_135 rfl rfl rfl rfl ?_
          have h := h _ rfl
          exact go_vret dX3_dropWaiting_71 rfl rfl h
        · have h := h.2 c
          refine go_iload_n dX3_dropWaiting_56 rfl ?_
          refine go_bipush (v := 40) dX3_dropWaiting_57 (by decide) ?_
          refine go_icmp_ne 66 dX3_dropWaiting_59 (by decide) (fun c => ?_) (fun c => ?_)
          · have h := h.1 c
            refine go_iconst (v := 0) dX3_dropWaiting_66 (by decide) ?_
            refine go_isub dX3_dropWaiting_67 ?_
            refine go_putI dX3_dropWaiting_68 fX3_135 rfl rfl rfl rfl ?_
            have h := h _ rfl
            exact go_vret dX3_dropWaiting_71 rfl rfl h
          · have h := h.2 c
            refine go_iconst (v := 1) dX3_dropWaiting_62 (by decide) ?_
            refine go_goto 67 dX3_dropWaiting_63 (by decide) ?_
            refine go_isub dX3_dropWaiting_67 ?_
            refine go_putI dX3_dropWaiting_68 fX3_135 rfl rfl rfl rfl ?_
            have h := h _ rfl
            exact go_vret dX3_dropWaiting_71 rfl rfl h
theorem k_X3_dropWaiting {G : gG} {I : gI} {R : gR} {L : gL} {Q : gQ} (hR : g_Fx R) (hq : Q none SH (drW I) R L) : Mt G mX3_dropWaiting 1 0 0 [.ref 306] SH I R L Q := by
  refine e_X3_dropWaiting hR ?_
  refine ⟨fun c11 => ?_, fun c11 => ?_⟩
  · first | exact hq | (simp_all [drW]; done) | (grind [drW])
  · refine ⟨fun c10 => ?_, fun c10 => ?_⟩
    · first | exact hq | (simp_all [drW]; done) | (grind [drW])
    · rintro _ rfl
      refine ⟨?_, ?_⟩
      · first | assumption | grind [vi3, vi4, vi6, vi9, vi12, vi24, vi30, vi40, vi64, vi90, vi240, vi300, vi400] | (simp only [up_eq]; grind [vi3, vi4, vi6, vi9, vi12, vi24, vi30, vi40, vi64, vi90, vi240, vi300, vi400])
      rintro _ rfl
      refine ⟨fun c9 => ?_, fun c9 => ?_⟩
      · rintro _ rfl
        first | exact hq | (simp_all [drW]; done) | (grind [drW])
      · refine ⟨fun c8 => ?_, fun c8 => ?_⟩
        · rintro _ rfl
          first | exact hq | (simp_all [drW]; done) | (grind [drW])
        · refine ⟨fun c7 => ?_, fun c7 => ?_⟩
          · rintro _ rfl
            first | exact hq | (simp_all [drW]; done) | (grind [drW])
          · rintro _ rfl
            first | exact hq | (simp_all [drW]; done) | (grind [drW])
theorem e_X3_isAheadOfAsk {G : gG} {I : gI} {R : gR} {L : gL} {Q : gQ} (hR : g_Fx R) (h : ((I 306 10) ≤ 0 → Q (some (.int 1)) SH I R L) ∧ (¬ (I 306 10) ≤ 0 → (64 < (I 306 10) → Q (some (.int 1)) SH I R L) ∧ (¬ 64 < (I 306 10) → vp_in ((I 306 10) - 1) 64 ∧ (∀ v1_1 : Int32, v1_1 = (I 308 ((I 306 10) - 1).toNatClampNeg) → (v1_1 = 9 → Q (some (.int 1)) SH I R L) ∧ (¬ v1_1 = 9 → (v1_1 = 10 → Q (some (.int 1)) SH I R L) ∧ (¬ v1_1 = 10 → (¬ v1_1 = 11 → Q (some (.int 0)) SH I R L) ∧ (v1_1 = 11 → Q (some (.int 1)) SH I R L))))))) : Mt G mX3_isAheadOfAsk 1 0 0 [.ref 306] SH I R L Q := by
  refine go_start rfl (Nat.le_of_ble_eq_true rfl) rfl ?_
  refine go_aload_n dX3_isAheadOfAsk_0 rfl ?_
  refine go_getI dX3_isAheadOfAsk_1 fX3_132 rfl rfl ?_
  refine go_if_le 33 dX3_isAheadOfAsk_4 (by decide) (fun c => ?_) (fun c => ?_)
  · have h := h.1 c
    refine go_bipush (v := 9) dX3_isAheadOfAsk_33 (by decide) ?_
    refine go_istore_n dX3_isAheadOfAsk_35 (Nat.le_of_ble_eq_true rfl) rfl ?_
    refine go_iload_n dX3_isAheadOfAsk_36 rfl ?_
    refine go_bipush (v := 9) dX3_isAheadOfAsk_37 (by decide) ?_
    refine go_icmp_eq 54 dX3_isAheadOfAsk_39 (by decide) (fun _ => ?_) (fun c => absurd c (by decide))
    refine go_iconst (v := 1) dX3_isAheadOfAsk_54 (by decide) ?_
    refine go_goto 59 dX3_isAheadOfAsk_55 (by decide) ?_
    exact go_zret dX3_isAheadOfAsk_59 rfl rfl rfl h
  · have h := h.2 c
    refine go_aload_n dX3_isAheadOfAsk_7 rfl ?_
    refine go_getI dX3_isAheadOfAsk_8 fX3_132 rfl rfl ?_
    refine go_aload_n dX3_isAheadOfAsk_11 rfl ?_
    refine go_getR dX3_isAheadOfAsk_12 fX3_15 rfl rfl (hR 306 9 308 rfl) ?_
    refine go_alen (v := 64) 0 dX3_isAheadOfAsk_15 rfl (by decide) (by decide) ?_
    refine go_icmp_gt 33 dX3_isAheadOfAsk_16 (by decide) (fun c => ?_) (fun c => ?_)
    · have h := h.1 c
      refine go_bipush (v := 9) dX3_isAheadOfAsk_33 (by decide) ?_
      refine go_istore_n dX3_isAheadOfAsk_35 (Nat.le_of_ble_eq_true rfl) rfl ?_
      refine go_iload_n dX3_isAheadOfAsk_36 rfl ?_
      refine go_bipush (v := 9) dX3_isAheadOfAsk_37 (by decide) ?_
      refine go_icmp_eq 54 dX3_isAheadOfAsk_39 (by decide) (fun _ => ?_) (fun c => absurd c (by decide))
      refine go_iconst (v := 1) dX3_isAheadOfAsk_54 (by decide) ?_
      refine go_goto 59 dX3_isAheadOfAsk_55 (by decide) ?_
      exact go_zret dX3_isAheadOfAsk_59 rfl rfl rfl h
    · have h := h.2 c
      refine go_aload_n dX3_isAheadOfAsk_19 rfl ?_
      refine go_getR dX3_isAheadOfAsk_20 fX3_15 rfl rfl (hR 306 9 308 rfl) ?_
      refine go_aload_n dX3_isAheadOfAsk_23 rfl ?_
      refine go_getI dX3_isAheadOfAsk_24 fX3_132 rfl rfl ?_
      refine go_iconst (v := 1) dX3_isAheadOfAsk_27 (by decide) ?_
      refine go_isub dX3_isAheadOfAsk_28 ?_
      obtain ⟨hi, h⟩ := h
      refine go_iald dX3_isAheadOfAsk_29 rfl hi ?_
      refine go_goto 35 dX3_isAheadOfAsk_30 (by decide) ?_
      refine go_istore_n dX3_isAheadOfAsk_35 (Nat.le_of_ble_eq_true rfl) rfl ?_
      have h := h _ rfl
      refine go_iload_n dX3_isAheadOfAsk_36 rfl ?_
      refine go_bipush (v := 9) dX3_isAheadOfAsk_37 (by decide) ?_
      refine go_icmp_eq 54 dX3_isAheadOfAsk_39 (by decide) (fun c => ?_) (fun c => ?_)
      · have h := h.1 c
        refine go_iconst (v := 1) dX3_isAheadOfAsk_54 (by decide) ?_
        refine go_goto 59 dX3_isAheadOfAsk_55 (by decide) ?_
        exact go_zret dX3_isAheadOfAsk_59 rfl rfl rfl h
      · have h := h.2 c
        refine go_iload_n dX3_isAheadOfAsk_42 rfl ?_
        refine go_bipush (v := 10) dX3_isAheadOfAsk_43 (by decide) ?_
        refine go_icmp_eq 54 dX3_isAheadOfAsk_45 (by decide) (fun c => ?_) (fun c => ?_)
        · have h := h.1 c
          refine go_iconst (v := 1) dX3_isAheadOfAsk_54 (by decide) ?_
          refine go_goto 59 dX3_isAheadOfAsk_55 (by decide) ?_
          exact go_zret dX3_isAheadOfAsk_59 rfl rfl rfl h
        · have h := h.2 c
          refine go_iload_n dX3_isAheadOfAsk_48 rfl ?_
          refine go_bipush (v := 11) dX3_isAheadOfAsk_49 (by decide) ?_
          refine go_icmp_ne 58 dX3_isAheadOfAsk_51 (by decide) (fun c => ?_) (fun c => ?_)
          · have h := h.1 c
            refine go_iconst (v := 0) dX3_isAheadOfAsk_58 (by decide) ?_
            exact go_zret dX3_isAheadOfAsk_59 rfl rfl rfl h
          · have h := h.2 c
            refine go_iconst (v := 1) dX3_isAheadOfAsk_54 (by decide) ?_
            refine go_goto 59 dX3_isAheadOfAsk_55 (by decide) ?_
            exact go_zret dX3_isAheadOfAsk_59 rfl rfl rfl h
theorem k_X3_isAheadOfAsk {G : gG} {I : gI} {R : gR} {L : gL} {Q : gQ} (hR : g_Fx R) (hq : Q (some (.int (if I 306 10 ≤ 0 ∨ 64 < I 306 10 ∨ I 308 (I 306 10 - 1).toNatClampNeg = 9 ∨ I 308 (I 306 10 - 1).toNatClampNeg = 10 ∨ I 308 (I 306 10 - 1).toNatClampNeg = 11 then 1 else 0))) SH I R L) : Mt G mX3_isAheadOfAsk 1 0 0 [.ref 306] SH I R L Q := e_X3_isAheadOfAsk hR (by grind [vi64])
theorem e_J6_bitCount_0f7a4 {G : gG} {I : gI} {R : gR} {L : gL} {Q : gQ} {a : Int32} (hR : g_Fx R) (h : ∀ v0_1 : Int32, v0_1 = (a - (((a.toUInt32 >>> (Int32.toUInt32 1 &&& Int32.toUInt32 31)).toInt32) &&& 1431655765)) → ∀ v0_2 : Int32, v0_2 = ((v0_1 &&& 858993459) + (((v0_1.toUInt32 >>> (Int32.toUInt32 2 &&& Int32.toUInt32 31)).toInt32) &&& 858993459)) → ∀ v0_3 : Int32, v0_3 = ((v0_2 + ((v0_2.toUInt32 >>> (Int32.toUInt32 4 &&& Int32.toUInt32 31)).toInt32)) &&& 252645135) → ∀ v0_4 : Int32, v0_4 = (v0_3 + ((v0_3.toUInt32 >>> (Int32.toUInt32 8 &&& Int32.toUInt32 31)).toInt32)) → ∀ v0_5 : Int32, v0_5 = (v0_4 + ((v0_4.toUInt32 >>> (Int32.toUInt32 16 &&& Int32.toUInt32 31)).toInt32)) → Q (some (.int (v0_5 &&& 63))) SH I R L) : Mt G mJ6_bitCount_0f7a4 1 0 0 [.int a] SH I R L Q := by
  refine go_start rfl (Nat.le_of_ble_eq_true rfl) rfl ?_
  refine go_iload_n dJ6_bitCount_0f7a4_0 rfl ?_
  refine go_iload_n dJ6_bitCount_0f7a4_1 rfl ?_
  refine go_iconst (v := 1) dJ6_bitCount_0f7a4_2 (by decide) ?_
  refine go_iushr dJ6_bitCount_0f7a4_3 ?_
  refine go_ldcw kJ6_265 dJ6_bitCount_0f7a4_4 ?_
  refine go_iand dJ6_bitCount_0f7a4_7 ?_
  refine go_isub dJ6_bitCount_0f7a4_8 ?_
  refine go_istore_n dJ6_bitCount_0f7a4_9 (Nat.le_of_ble_eq_true rfl) rfl ?_
  have h := h _ rfl
  refine go_iload_n dJ6_bitCount_0f7a4_10 rfl ?_
  refine go_ldcw kJ6_266 dJ6_bitCount_0f7a4_11 ?_
  refine go_iand dJ6_bitCount_0f7a4_14 ?_
  refine go_iload_n dJ6_bitCount_0f7a4_15 rfl ?_
  refine go_iconst (v := 2) dJ6_bitCount_0f7a4_16 (by decide) ?_
  refine go_iushr dJ6_bitCount_0f7a4_17 ?_
  refine go_ldcw kJ6_266 dJ6_bitCount_0f7a4_18 ?_
  refine go_iand dJ6_bitCount_0f7a4_21 ?_
  refine go_iadd dJ6_bitCount_0f7a4_22 ?_
  refine go_istore_n dJ6_bitCount_0f7a4_23 (Nat.le_of_ble_eq_true rfl) rfl ?_
  have h := h _ rfl
  refine go_iload_n dJ6_bitCount_0f7a4_24 rfl ?_
  refine go_iload_n dJ6_bitCount_0f7a4_25 rfl ?_
  refine go_iconst (v := 4) dJ6_bitCount_0f7a4_26 (by decide) ?_
  refine go_iushr dJ6_bitCount_0f7a4_27 ?_
  refine go_iadd dJ6_bitCount_0f7a4_28 ?_
  refine go_ldcw kJ6_267 dJ6_bitCount_0f7a4_29 ?_
  refine go_iand dJ6_bitCount_0f7a4_32 ?_
  refine go_istore_n dJ6_bitCount_0f7a4_33 (Nat.le_of_ble_eq_true rfl) rfl ?_
  have h := h _ rfl
  refine go_iload_n dJ6_bitCount_0f7a4_34 rfl ?_
  refine go_iload_n dJ6_bitCount_0f7a4_35 rfl ?_
  refine go_bipush (v := 8) dJ6_bitCount_0f7a4_36 (by decide) ?_
  refine go_iushr dJ6_bitCount_0f7a4_38 ?_
  refine go_iadd dJ6_bitCount_0f7a4_39 ?_
  refine go_istore_n dJ6_bitCount_0f7a4_40 (Nat.le_of_ble_eq_true rfl) rfl ?_
  have h := h _ rfl
  refine go_iload_n dJ6_bitCount_0f7a4_41 rfl ?_
  refine go_iload_n dJ6_bitCount_0f7a4_42 rfl ?_
  refine go_bipush (v := 16) dJ6_bitCount_0f7a4_43 (by decide) ?_
  refine go_iushr dJ6_bitCount_0f7a4_45 ?_
  refine go_iadd dJ6_bitCount_0f7a4_46 ?_
  refine go_istore_n dJ6_bitCount_0f7a4_47 (Nat.le_of_ble_eq_true rfl) rfl ?_
  have h := h _ rfl
  refine go_iload_n dJ6_bitCount_0f7a4_48 rfl ?_
  refine go_bipush (v := 63) dJ6_bitCount_0f7a4_49 (by decide) ?_
  refine go_iand dJ6_bitCount_0f7a4_51 ?_
  exact go_iret dJ6_bitCount_0f7a4_52 rfl rfl h
theorem k_J6_bitCount_0f7a4 {G : gG} {I : gI} {R : gR} {L : gL} {Q : gQ} {a : Int32} (hR : g_Fx R) (hq : Q (some (.int (bcI a))) SH I R L) : Mt G mJ6_bitCount_0f7a4 1 0 0 [.int a] SH I R L Q := by
  refine e_J6_bitCount_0f7a4 hR ?_
  rintro _ rfl
  rintro _ rfl
  rintro _ rfl
  rintro _ rfl
  rintro _ rfl
  first | exact hq | (simp_all [bcI]; done) | (grind [bcI])
