def wdI (w : Int64) : Int32 := if w = 9837875 then 0 else if w = 683591987 then 1 else if w = 42776055097 then 2 else if w = 211572 then 3 else if w = 868416494 then 4 else if w = 718686693 then 5 else if w = 649238899 then 6 else if w = 2164 then 7 else if w = 3046 then 8 else if w = 3058 then 9 else if w = 138148 then 10 else if w = 191476 then 11 else if w = 629623154 then 12 else if w = 43851086194 then 13 else if w = 227925014493747 then 14 else if w = 629623150 then 15 else if w = 11443108 then 16 else if w = 11688372 then 17 else if w = 55578655667 then 18 else if w = 13539621 then 19 else if w = 13802292 then 20 else if w = 683600249 then 21 else if w = 13507380 then 22 else if w = 613870899 then 23 else -1
def errI (I : gI) (f : Int32) : gI :=
  if ¬ I 310 18 = 0 then I else
    let I2 := up I 310 18 f
    up I2 310 19 (I2 310 15)
def emM (I : gI) (o v : Int32) : gI :=
  let I1 := up I 329 (I 310 34).toNatClampNeg o
  let I2 := up I1 330 (I1 310 34).toNatClampNeg v
  up I2 310 34 (I2 310 34 + 1)
def opF (I : gI) (f : Int32) : gI :=
  let I1 := up I 321 (I 310 21).toNatClampNeg f
  up I1 310 21 (I1 310 21 + 1)
def bdL (v : Int64) : Int64 := if v ≤ 1000000 then (if -1000000 ≤ v then v else -1000000) else 1000000
def wkL (o : Int32) (x y : Int64) : Int64 :=
  if o = 35 then (if x = y then 0 else 1) else if o = 42 then bdL (x * y) else if o = 43 then bdL (x + y) else if o = 45 then bdL (x - y)
  else if o = 47 then (if y = 0 then 0 else x / y) else if o = 60 then (if y ≤ x then 0 else 1) else if o = 61 then (if x = y then 1 else 0) else if o = 62 then (if x ≤ y then 0 else 1)
  else if o = 300 then (if y < x then 0 else 1) else if o = 301 then (if x < y then 0 else 1) else if o = 406 then x * y else if x + y ≤ 0 then 0 else 1
def hdL (v : Int64) (a b : Int32) : Int32 := if a.toInt64 ≤ v then (if v ≤ b.toInt64 then v.toInt32 else b) else a
def nmI (I : gI) (e : Int32) : gI :=
  let I1 := up I 331 0 e
  let I2 := up I1 331 1 (I1 311 (10 + 3 * e).toNatClampNeg)
  let I3 := up I2 331 2 (I2 311 (10 + 3 * e + 1).toNatClampNeg)
  up I3 331 3 (I3 334 e.toNatClampNeg)
theorem e_X7_in {G : gG} {I : gI} {R : gR} {L : gL} {Q : gQ} {a b c : Int32} (hR : g_Fx R) (h : (a < b → Q (some (.int 0)) SH I R L) ∧ (¬ a < b → (c < a → Q (some (.int 0)) SH I R L) ∧ (¬ c < a → Q (some (.int 1)) SH I R L))) : Mt G mX7_in 1 0 0 [.int a, .int b, .int c] SH I R L Q := by
  refine go_start rfl (Nat.le_of_ble_eq_true rfl) rfl ?_
  refine go_iload_n dX7_in_0 rfl ?_
  refine go_iload_n dX7_in_1 rfl ?_
  refine go_icmp_lt 14 dX7_in_2 (by decide) (fun c => ?_) (fun c => ?_)
  · have h := h.1 c
    refine go_iconst (v := 0) dX7_in_14 (by decide) ?_
    exact go_zret dX7_in_15 rfl rfl rfl h
  · have h := h.2 c
    refine go_iload_n dX7_in_5 rfl ?_
    refine go_iload_n dX7_in_6 rfl ?_
    refine go_icmp_gt 14 dX7_in_7 (by decide) (fun c => ?_) (fun c => ?_)
    · have h := h.1 c
      refine go_iconst (v := 0) dX7_in_14 (by decide) ?_
      exact go_zret dX7_in_15 rfl rfl rfl h
    · have h := h.2 c
      refine go_iconst (v := 1) dX7_in_10 (by decide) ?_
      refine go_goto 15 dX7_in_11 (by decide) ?_
      exact go_zret dX7_in_15 rfl rfl rfl h
theorem k_X7_in {G : gG} {I : gI} {R : gR} {L : gL} {Q : gQ} {a b c : Int32} (hR : g_Fx R) (hq : Q (some (.int (if b ≤ a ∧ a ≤ c then 1 else 0))) SH I R L) : Mt G mX7_in 1 0 0 [.int a, .int b, .int c] SH I R L Q := e_X7_in hR (by grind)
theorem e_X7_isOne {G : gG} {I : gI} {R : gR} {L : gL} {Q : gQ} {a : Int32} (hR : g_Fx R) (h : (a = 0 → Q (some (.int 1)) SH I R L) ∧ (¬ a = 0 → (¬ a = 1 → Q (some (.int 0)) SH I R L) ∧ (a = 1 → Q (some (.int 1)) SH I R L))) : Mt G mX7_isOne 1 0 0 [.int a] SH I R L Q := by
  refine go_start rfl (Nat.le_of_ble_eq_true rfl) rfl ?_
  refine go_iload_n dX7_isOne_0 rfl ?_
  refine go_if_eq 9 dX7_isOne_1 (by decide) (fun c => ?_) (fun c => ?_)
  · have h := h.1 c
    refine go_iconst (v := 1) dX7_isOne_9 (by decide) ?_
    refine go_goto 14 dX7_isOne_10 (by decide) ?_
    exact go_zret dX7_isOne_14 rfl rfl rfl h
  · have h := h.2 c
    refine go_iload_n dX7_isOne_4 rfl ?_
    refine go_iconst (v := 1) dX7_isOne_5 (by decide) ?_
    refine go_icmp_ne 13 dX7_isOne_6 (by decide) (fun c => ?_) (fun c => ?_)
    · have h := h.1 c
      refine go_iconst (v := 0) dX7_isOne_13 (by decide) ?_
      exact go_zret dX7_isOne_14 rfl rfl rfl h
    · have h := h.2 c
      refine go_iconst (v := 1) dX7_isOne_9 (by decide) ?_
      refine go_goto 14 dX7_isOne_10 (by decide) ?_
      exact go_zret dX7_isOne_14 rfl rfl rfl h
theorem k_X7_isOne {G : gG} {I : gI} {R : gR} {L : gL} {Q : gQ} {a : Int32} (hR : g_Fx R) (hq : Q (some (.int (if a = 0 ∨ a = 1 then 1 else 0))) SH I R L) : Mt G mX7_isOne 1 0 0 [.int a] SH I R L Q := e_X7_isOne hR (by grind)
theorem e_X7_isEater {G : gG} {I : gI} {R : gR} {L : gL} {Q : gQ} {a : Int32} (hR : g_Fx R) (h : Q (some (.int (if (0 : Int32) ≤ a ∧ a ≤ ((I 311 0) - 1) then 1 else 0))) SH I R L) : Mt G mX7_isEater 2 0 0 [.ref 310, .int a] SH I R L Q := by
  refine go_start rfl (Nat.le_of_ble_eq_true rfl) rfl ?_
  refine go_iload_n dX7_isEater_0 rfl ?_
  refine go_iconst (v := 0) dX7_isEater_1 (by decide) ?_
  refine go_aload_n dX7_isEater_2 rfl ?_
  refine go_getR dX7_isEater_3 fX7_7 rfl rfl (hR 310 0 311 rfl) ?_
  refine go_iconst (v := 0) dX7_isEater_6 (by decide) ?_
  refine go_ialdK dX7_isEater_7 rfl (vp_in_nI (n := 0) (by decide) (by decide)) (k := 0) (by decide) ?_
  refine go_iconst (v := 1) dX7_isEater_8 (by decide) ?_
  refine go_isub dX7_isEater_9 ?_
  refine go_callS0 (μ := mX7_isEater) [.int _, .int _, .int _] dX7_isEater_10 YX7_in lX7_110 rfl (Nat.le_of_ble_eq_true rfl) (Nat.le_of_ble_eq_true rfl) rfl (k_X7_in hR ?_)
  exact go_zret dX7_isEater_13 rfl nz_ite rfl h
theorem k_X7_isEater {G : gG} {I : gI} {R : gR} {L : gL} {Q : gQ} {a : Int32} (hR : g_Fx R) (hq : Q (some (.int (if 0 ≤ a ∧ a ≤ I 311 0 - 1 then 1 else 0))) SH I R L) : Mt G mX7_isEater 2 0 0 [.ref 310, .int a] SH I R L Q := e_X7_isEater hR (by grind)
theorem e_X7_isLetter {G : gG} {I : gI} {R : gR} {L : gL} {Q : gQ} {b : Int32} (hR : g_Fx R) (h : ((97 : Int32) ≤ b ∧ b ≤ (122 : Int32) → Q (some (.int 1)) SH I R L) ∧ (¬ ((97 : Int32) ≤ b ∧ b ≤ (122 : Int32)) → (¬ ((65 : Int32) ≤ b ∧ b ≤ (90 : Int32)) → Q (some (.int 0)) SH I R L) ∧ ((65 : Int32) ≤ b ∧ b ≤ (90 : Int32) → Q (some (.int 1)) SH I R L))) : Mt G mX7_isLetter 2 0 0 [.int b] SH I R L Q := by
  refine go_start rfl (Nat.le_of_ble_eq_true rfl) rfl ?_
  refine go_iload_n dX7_isLetter_0 rfl ?_
  refine go_bipush (v := 97) dX7_isLetter_1 (by decide) ?_
  refine go_bipush (v := 122) dX7_isLetter_3 (by decide) ?_
  refine go_callS0 (μ := mX7_isLetter) [.int _, .int _, .int _] dX7_isLetter_5 YX7_in lX7_110 rfl (Nat.le_of_ble_eq_true rfl) (Nat.le_of_ble_eq_true rfl) rfl (k_X7_in hR ?_)
  refine go_if_ne 22 dX7_isLetter_8 (by decide) (fun c => ?_) (fun c => ?_)
  · have h := h.1 (b1.mp c)
    refine go_iconst (v := 1) dX7_isLetter_22 (by decide) ?_
    refine go_goto 27 dX7_isLetter_23 (by decide) ?_
    exact go_zret dX7_isLetter_27 rfl rfl rfl h
  · have h := h.2 (b0.mp c)
    refine go_iload_n dX7_isLetter_11 rfl ?_
    refine go_bipush (v := 65) dX7_isLetter_12 (by decide) ?_
    refine go_bipush (v := 90) dX7_isLetter_14 (by decide) ?_
    refine go_callS0 (μ := mX7_isLetter) [.int _, .int _, .int _] dX7_isLetter_16 YX7_in lX7_110 rfl (Nat.le_of_ble_eq_true rfl) (Nat.le_of_ble_eq_true rfl) rfl (k_X7_in hR ?_)
    refine go_if_eq 26 dX7_isLetter_19 (by decide) (fun c => ?_) (fun c => ?_)
    · have h := h.1 (b0.mp c)
      refine go_iconst (v := 0) dX7_isLetter_26 (by decide) ?_
      exact go_zret dX7_isLetter_27 rfl rfl rfl h
    · have h := h.2 (b1.mp c)
      refine go_iconst (v := 1) dX7_isLetter_22 (by decide) ?_
      refine go_goto 27 dX7_isLetter_23 (by decide) ?_
      exact go_zret dX7_isLetter_27 rfl rfl rfl h
theorem k_X7_isLetter {G : gG} {I : gI} {R : gR} {L : gL} {Q : gQ} {b : Int32} (hR : g_Fx R) (hq : Q (some (.int (if (97 ≤ b ∧ b ≤ 122) ∨ (65 ≤ b ∧ b ≤ 90) then 1 else 0))) SH I R L) : Mt G mX7_isLetter 2 0 0 [.int b] SH I R L Q := e_X7_isLetter hR (by grind)
theorem e_X7_wordOf {G : gG} {I : gI} {R : gR} {L : gL} {Q : gQ} {w : Int64} (hR : g_Fx R) (h : (¬ w = 9837875 → (¬ w = 683591987 → (¬ w = 42776055097 → (¬ w = 211572 → (¬ w = 868416494 → (¬ w = 718686693 → (¬ w = 649238899 → (¬ w = 2164 → (¬ w = 3046 → (¬ w = 3058 → (¬ w = 138148 → (¬ w = 191476 → (¬ w = 629623154 → (¬ w = 43851086194 → (¬ w = 227925014493747 → (¬ w = 629623150 → (¬ w = 11443108 → (¬ w = 11688372 → (¬ w = 55578655667 → (¬ w = 13539621 → (¬ w = 13802292 → (¬ w = 683600249 → (¬ w = 13507380 → (¬ w = 613870899 → Q (some (.int (-1))) SH I R L) ∧ (w = 613870899 → Q (some (.int 23)) SH I R L)) ∧ (w = 13507380 → Q (some (.int 22)) SH I R L)) ∧ (w = 683600249 → Q (some (.int 21)) SH I R L)) ∧ (w = 13802292 → Q (some (.int 20)) SH I R L)) ∧ (w = 13539621 → Q (some (.int 19)) SH I R L)) ∧ (w = 55578655667 → Q (some (.int 18)) SH I R L)) ∧ (w = 11688372 → Q (some (.int 17)) SH I R L)) ∧ (w = 11443108 → Q (some (.int 16)) SH I R L)) ∧ (w = 629623150 → Q (some (.int 15)) SH I R L)) ∧ (w = 227925014493747 → Q (some (.int 14)) SH I R L)) ∧ (w = 43851086194 → Q (some (.int 13)) SH I R L)) ∧ (w = 629623154 → Q (some (.int 12)) SH I R L)) ∧ (w = 191476 → Q (some (.int 11)) SH I R L)) ∧ (w = 138148 → Q (some (.int 10)) SH I R L)) ∧ (w = 3058 → Q (some (.int 9)) SH I R L)) ∧ (w = 3046 → Q (some (.int 8)) SH I R L)) ∧ (w = 2164 → Q (some (.int 7)) SH I R L)) ∧ (w = 649238899 → Q (some (.int 6)) SH I R L)) ∧ (w = 718686693 → Q (some (.int 5)) SH I R L)) ∧ (w = 868416494 → Q (some (.int 4)) SH I R L)) ∧ (w = 211572 → Q (some (.int 3)) SH I R L)) ∧ (w = 42776055097 → Q (some (.int 2)) SH I R L)) ∧ (w = 683591987 → Q (some (.int 1)) SH I R L)) ∧ (w = 9837875 → Q (some (.int 0)) SH I R L)) : Mt G mX7_wordOf 1 0 0 [.long w] SH I R L Q := by
  refine go_start rfl (Nat.le_of_ble_eq_true rfl) rfl ?_
  refine go_lload_n dX7_wordOf_0 rfl ?_
  refine go_ldc2 kX7_125 dX7_wordOf_1 ?_
  refine go_lcmp dX7_wordOf_4 ?_
  refine go_if_ne 10 dX7_wordOf_5 (by decide) (fun c => ?_) (fun c => ?_)
  · have h := h.1 (lc_ne.mp c)
    refine go_lload_n dX7_wordOf_10 rfl ?_
    refine go_ldc2 kX7_127 dX7_wordOf_11 ?_
    refine go_lcmp dX7_wordOf_14 ?_
    refine go_if_ne 20 dX7_wordOf_15 (by decide) (fun c => ?_) (fun c => ?_)
    · have h := h.1 (lc_ne.mp c)
      refine go_lload_n dX7_wordOf_20 rfl ?_
      refine go_ldc2 kX7_129 dX7_wordOf_21 ?_
      refine go_lcmp dX7_wordOf_24 ?_
      refine go_if_ne 30 dX7_wordOf_25 (by decide) (fun c => ?_) (fun c => ?_)
      · have h := h.1 (lc_ne.mp c)
        refine go_lload_n dX7_wordOf_30 rfl ?_
        refine go_ldc2 kX7_131 dX7_wordOf_31 ?_
        refine go_lcmp dX7_wordOf_34 ?_
        refine go_if_ne 40 dX7_wordOf_35 (by decide) (fun c => ?_) (fun c => ?_)
        · have h := h.1 (lc_ne.mp c)
          refine go_lload_n dX7_wordOf_40 rfl ?_
          refine go_ldc2 kX7_133 dX7_wordOf_41 ?_
          refine go_lcmp dX7_wordOf_44 ?_
          refine go_if_ne 50 dX7_wordOf_45 (by decide) (fun c => ?_) (fun c => ?_)
          · have h := h.1 (lc_ne.mp c)
            refine go_lload_n dX7_wordOf_50 rfl ?_
            refine go_ldc2 kX7_135 dX7_wordOf_51 ?_
            refine go_lcmp dX7_wordOf_54 ?_
            refine go_if_ne 60 dX7_wordOf_55 (by decide) (fun c => ?_) (fun c => ?_)
            · have h := h.1 (lc_ne.mp c)
              refine go_lload_n dX7_wordOf_60 rfl ?_
              refine go_ldc2 kX7_137 dX7_wordOf_61 ?_
              refine go_lcmp dX7_wordOf_64 ?_
              refine go_if_ne 71 dX7_wordOf_65 (by decide) (fun c => ?_) (fun c => ?_)
              · have h := h.1 (lc_ne.mp c)
                refine go_lload_n dX7_wordOf_71 rfl ?_
                refine go_ldc2 kX7_139 dX7_wordOf_72 ?_
                refine go_lcmp dX7_wordOf_75 ?_
                refine go_if_ne 82 dX7_wordOf_76 (by decide) (fun c => ?_) (fun c => ?_)
                · have h := h.1 (lc_ne.mp c)
                  refine go_lload_n dX7_wordOf_82 rfl ?_
                  refine go_ldc2 kX7_141 dX7_wordOf_83 ?_
                  refine go_lcmp dX7_wordOf_86 ?_
                  refine go_if_ne 93 dX7_wordOf_87 (by decide) (fun c => ?_) (fun c => ?_)
                  · have h := h.1 (lc_ne.mp c)
                    refine go_lload_n dX7_wordOf_93 rfl ?_
                    refine go_ldc2 kX7_143 dX7_wordOf_94 ?_
                    refine go_lcmp dX7_wordOf_97 ?_
                    refine go_if_ne 104 dX7_wordOf_98 (by decide) (fun c => ?_) (fun c => ?_)
                    · have h := h.1 (lc_ne.mp c)
                      refine go_lload_n dX7_wordOf_104 rfl ?_
                      refine go_ldc2 kX7_145 dX7_wordOf_105 ?_
                      refine go_lcmp dX7_wordOf_108 ?_
                      refine go_if_ne 115 dX7_wordOf_109 (by decide) (fun c => ?_) (fun c => ?_)
                      · have h := h.1 (lc_ne.mp c)
                        refine go_lload_n dX7_wordOf_115 rfl ?_
                        refine go_ldc2 kX7_147 dX7_wordOf_116 ?_
                        refine go_lcmp dX7_wordOf_119 ?_
                        refine go_if_ne 126 dX7_wordOf_120 (by decide) (fun c => ?_) (fun c => ?_)
                        · have h := h.1 (lc_ne.mp c)
                          refine go_lload_n dX7_wordOf_126 rfl ?_
                          refine go_ldc2 kX7_149 dX7_wordOf_127 ?_
                          refine go_lcmp dX7_wordOf_130 ?_
                          refine go_if_ne 137 dX7_wordOf_131 (by decide) (fun c => ?_) (fun c => ?_)
                          · have h := h.1 (lc_ne.mp c)
                            refine go_lload_n dX7_wordOf_137 rfl ?_
                            refine go_ldc2 kX7_151 dX7_wordOf_138 ?_
                            refine go_lcmp dX7_wordOf_141 ?_
                            refine go_if_ne 148 dX7_wordOf_142 (by decide) (fun c => ?_) (fun c => ?_)
                            · have h := h.1 (lc_ne.mp c)
                              refine go_lload_n dX7_wordOf_148 rfl ?_
                              refine go_ldc2 kX7_153 dX7_wordOf_149 ?_
                              refine go_lcmp dX7_wordOf_152 ?_
                              refine go_if_ne 159 dX7_wordOf_153 (by decide) (fun c => ?_) (fun c => ?_)
                              · have h := h.1 (lc_ne.mp c)
                                refine go_lload_n dX7_wordOf_159 rfl ?_
                                refine go_ldc2 kX7_155 dX7_wordOf_160 ?_
                                refine go_lcmp dX7_wordOf_163 ?_
                                refine go_if_ne 170 dX7_wordOf_164 (by decide) (fun c => ?_) (fun c => ?_)
                                · have h := h.1 (lc_ne.mp c)
                                  refine go_lload_n dX7_wordOf_170 rfl ?_
                                  refine go_ldc2 kX7_157 dX7_wordOf_171 ?_
                                  refine go_lcmp dX7_wordOf_174 ?_
                                  refine go_if_ne 181 dX7_wordOf_175 (by decide) (fun c => ?_) (fun c => ?_)
                                  · have h := h.1 (lc_ne.mp c)
                                    refine go_lload_n dX7_wordOf_181 rfl ?_
                                    refine go_ldc2 kX7_159 dX7_wordOf_182 ?_
                                    refine go_lcmp dX7_wordOf_185 ?_
                                    refine go_if_ne 192 dX7_wordOf_186 (by decide) (fun c => ?_) (fun c => ?_)
                                    · have h := h.1 (lc_ne.mp c)
                                      refine go_lload_n dX7_wordOf_192 rfl ?_
                                      refine go_ldc2 kX7_161 dX7_wordOf_193 ?_
                                      refine go_lcmp dX7_wordOf_196 ?_
                                      refine go_if_ne 203 dX7_wordOf_197 (by decide) (fun c => ?_) (fun c => ?_)
                                      · have h := h.1 (lc_ne.mp c)
                                        refine go_lload_n dX7_wordOf_203 rfl ?_
                                        refine go_ldc2 kX7_163 dX7_wordOf_204 ?_
                                        refine go_lcmp dX7_wordOf_207 ?_
                                        refine go_if_ne 214 dX7_wordOf_208 (by decide) (fun c => ?_) (fun c => ?_)
                                        · have h := h.1 (lc_ne.mp c)
                                          refine go_lload_n dX7_wordOf_214 rfl ?_
                                          refine go_ldc2 kX7_165 dX7_wordOf_215 ?_
                                          refine go_lcmp dX7_wordOf_218 ?_
                                          refine go_if_ne 225 dX7_wordOf_219 (by decide) (fun c => ?_) (fun c => ?_)
                                          · have h := h.1 (lc_ne.mp c)
                                            refine go_lload_n dX7_wordOf_225 rfl ?_
                                            refine go_ldc2 kX7_167 dX7_wordOf_226 ?_
                                            refine go_lcmp dX7_wordOf_229 ?_
                                            refine go_if_ne 236 dX7_wordOf_230 (by decide) (fun c => ?_) (fun c => ?_)
                                            · have h := h.1 (lc_ne.mp c)
                                              refine go_lload_n dX7_wordOf_236 rfl ?_
                                              refine go_ldc2 kX7_169 dX7_wordOf_237 ?_
                                              refine go_lcmp dX7_wordOf_240 ?_
                                              refine go_if_ne 247 dX7_wordOf_241 (by decide) (fun c => ?_) (fun c => ?_)
                                              · have h := h.1 (lc_ne.mp c)
                                                refine go_lload_n dX7_wordOf_247 rfl ?_
                                                refine go_ldc2 kX7_171 dX7_wordOf_248 ?_
                                                refine go_lcmp dX7_wordOf_251 ?_
                                                refine go_if_ne 258 dX7_wordOf_252 (by decide) (fun c => ?_) (fun c => ?_)
                                                · have h := h.1 (lc_ne.mp c)
                                                  refine go_iconst (v := -1) dX7_wordOf_258 (by decide) ?_
                                                  exact go_iret dX7_wordOf_259 rfl rfl h
                                                · have h := h.2 (lc_ne_n.mp c)
                                                  refine go_bipush (v := 23) dX7_wordOf_255 (by decide) ?_
                                                  exact go_iret dX7_wordOf_257 rfl rfl h
                                              · have h := h.2 (lc_ne_n.mp c)
                                                refine go_bipush (v := 22) dX7_wordOf_244 (by decide) ?_
                                                exact go_iret dX7_wordOf_246 rfl rfl h
                                            · have h := h.2 (lc_ne_n.mp c)
                                              refine go_bipush (v := 21) dX7_wordOf_233 (by decide) ?_
                                              exact go_iret dX7_wordOf_235 rfl rfl h
                                          · have h := h.2 (lc_ne_n.mp c)
                                            refine go_bipush (v := 20) dX7_wordOf_222 (by decide) ?_
                                            exact go_iret dX7_wordOf_224 rfl rfl h
                                        · have h := h.2 (lc_ne_n.mp c)
                                          refine go_bipush (v := 19) dX7_wordOf_211 (by decide) ?_
                                          exact go_iret dX7_wordOf_213 rfl rfl h
                                      · have h := h.2 (lc_ne_n.mp c)
                                        refine go_bipush (v := 18) dX7_wordOf_200 (by decide) ?_
                                        exact go_iret dX7_wordOf_202 rfl rfl h
                                    · have h := h.2 (lc_ne_n.mp c)
                                      refine go_bipush (v := 17) dX7_wordOf_189 (by decide) ?_
                                      exact go_iret dX7_wordOf_191 rfl rfl h
                                  · have h := h.2 (lc_ne_n.mp c)
                                    refine go_bipush (v := 16) dX7_wordOf_178 (by decide) ?_
                                    exact go_iret dX7_wordOf_180 rfl rfl h
                                · have h := h.2 (lc_ne_n.mp c)
                                  refine go_bipush (v := 15) dX7_wordOf_167 (by decide) ?_
                                  exact go_iret dX7_wordOf_169 rfl rfl h
                              · have h := h.2 (lc_ne_n.mp c)
                                refine go_bipush (v := 14) dX7_wordOf_156 (by decide) ?_
                                exact go_iret dX7_wordOf_158 rfl rfl h
                            · have h := h.2 (lc_ne_n.mp c)
                              refine go_bipush (v := 13) dX7_wordOf_145 (by decide) ?_
                              exact go_iret dX7_wordOf_147 rfl rfl h
                          · have h := h.2 (lc_ne_n.mp c)
                            refine go_bipush (v := 12) dX7_wordOf_134 (by decide) ?_
                            exact go_iret dX7_wordOf_136 rfl rfl h
                        · have h := h.2 (lc_ne_n.mp c)
                          refine go_bipush (v := 11) dX7_wordOf_123 (by decide) ?_
                          exact go_iret dX7_wordOf_125 rfl rfl h
                      · have h := h.2 (lc_ne_n.mp c)
                        refine go_bipush (v := 10) dX7_wordOf_112 (by decide) ?_
                        exact go_iret dX7_wordOf_114 rfl rfl h
                    · have h := h.2 (lc_ne_n.mp c)
                      refine go_bipush (v := 9) dX7_wordOf_101 (by decide) ?_
                      exact go_iret dX7_wordOf_103 rfl rfl h
                  · have h := h.2 (lc_ne_n.mp c)
                    refine go_bipush (v := 8) dX7_wordOf_90 (by decide) ?_
                    exact go_iret dX7_wordOf_92 rfl rfl h
                · have h := h.2 (lc_ne_n.mp c)
                  refine go_bipush (v := 7) dX7_wordOf_79 (by decide) ?_
                  exact go_iret dX7_wordOf_81 rfl rfl h
              · have h := h.2 (lc_ne_n.mp c)
                refine go_bipush (v := 6) dX7_wordOf_68 (by decide) ?_
                exact go_iret dX7_wordOf_70 rfl rfl h
            · have h := h.2 (lc_ne_n.mp c)
              refine go_iconst (v := 5) dX7_wordOf_58 (by decide) ?_
              exact go_iret dX7_wordOf_59 rfl rfl h
          · have h := h.2 (lc_ne_n.mp c)
            refine go_iconst (v := 4) dX7_wordOf_48 (by decide) ?_
            exact go_iret dX7_wordOf_49 rfl rfl h
        · have h := h.2 (lc_ne_n.mp c)
          refine go_iconst (v := 3) dX7_wordOf_38 (by decide) ?_
          exact go_iret dX7_wordOf_39 rfl rfl h
      · have h := h.2 (lc_ne_n.mp c)
        refine go_iconst (v := 2) dX7_wordOf_28 (by decide) ?_
        exact go_iret dX7_wordOf_29 rfl rfl h
    · have h := h.2 (lc_ne_n.mp c)
      refine go_iconst (v := 1) dX7_wordOf_18 (by decide) ?_
      exact go_iret dX7_wordOf_19 rfl rfl h
  · have h := h.2 (lc_ne_n.mp c)
    refine go_iconst (v := 0) dX7_wordOf_8 (by decide) ?_
    exact go_iret dX7_wordOf_9 rfl rfl h
theorem k_X7_wordOf {G : gG} {I : gI} {R : gR} {L : gL} {Q : gQ} {w : Int64} (hR : g_Fx R) (hq : Q (some (.int (wdI w))) SH I R L) : Mt G mX7_wordOf 1 0 0 [.long w] SH I R L Q := by
  refine e_X7_wordOf hR ?_
  refine ⟨fun c24 => ?_, fun c24 => ?_⟩
  · refine ⟨fun c23 => ?_, fun c23 => ?_⟩
    · refine ⟨fun c22 => ?_, fun c22 => ?_⟩
      · refine ⟨fun c21 => ?_, fun c21 => ?_⟩
        · refine ⟨fun c20 => ?_, fun c20 => ?_⟩
          · refine ⟨fun c19 => ?_, fun c19 => ?_⟩
            · refine ⟨fun c18 => ?_, fun c18 => ?_⟩
              · refine ⟨fun c17 => ?_, fun c17 => ?_⟩
                · refine ⟨fun c16 => ?_, fun c16 => ?_⟩
                  · refine ⟨fun c15 => ?_, fun c15 => ?_⟩
                    · refine ⟨fun c14 => ?_, fun c14 => ?_⟩
                      · refine ⟨fun c13 => ?_, fun c13 => ?_⟩
                        · refine ⟨fun c12 => ?_, fun c12 => ?_⟩
                          · refine ⟨fun c11 => ?_, fun c11 => ?_⟩
                            · refine ⟨fun c10 => ?_, fun c10 => ?_⟩
                              · refine ⟨fun c9 => ?_, fun c9 => ?_⟩
                                · refine ⟨fun c8 => ?_, fun c8 => ?_⟩
                                  · refine ⟨fun c7 => ?_, fun c7 => ?_⟩
                                    · refine ⟨fun c6 => ?_, fun c6 => ?_⟩
                                      · refine ⟨fun c5 => ?_, fun c5 => ?_⟩
                                        · refine ⟨fun c4 => ?_, fun c4 => ?_⟩
                                          · refine ⟨fun c3 => ?_, fun c3 => ?_⟩
                                            · refine ⟨fun c2 => ?_, fun c2 => ?_⟩
                                              · refine ⟨fun c1 => ?_, fun c1 => ?_⟩
                                                · first | exact hq | (simp_all [wdI]; done) | (grind [wdI])
                                                · first | exact hq | (simp_all [wdI]; done) | (grind [wdI])
                                              · first | exact hq | (simp_all [wdI]; done) | (grind [wdI])
                                            · first | exact hq | (simp_all [wdI]; done) | (grind [wdI])
                                          · first | exact hq | (simp_all [wdI]; done) | (grind [wdI])
                                        · first | exact hq | (simp_all [wdI]; done) | (grind [wdI])
                                      · first | exact hq | (simp_all [wdI]; done) | (grind [wdI])
                                    · first | exact hq | (simp_all [wdI]; done) | (grind [wdI])
                                  · first | exact hq | (simp_all [wdI]; done) | (grind [wdI])
                                · first | exact hq | (simp_all [wdI]; done) | (grind [wdI])
                              · first | exact hq | (simp_all [wdI]; done) | (grind [wdI])
                            · first | exact hq | (simp_all [wdI]; done) | (grind [wdI])
                          · first | exact hq | (simp_all [wdI]; done) | (grind [wdI])
                        · first | exact hq | (simp_all [wdI]; done) | (grind [wdI])
                      · first | exact hq | (simp_all [wdI]; done) | (grind [wdI])
                    · first | exact hq | (simp_all [wdI]; done) | (grind [wdI])
                  · first | exact hq | (simp_all [wdI]; done) | (grind [wdI])
                · first | exact hq | (simp_all [wdI]; done) | (grind [wdI])
              · first | exact hq | (simp_all [wdI]; done) | (grind [wdI])
            · first | exact hq | (simp_all [wdI]; done) | (grind [wdI])
          · first | exact hq | (simp_all [wdI]; done) | (grind [wdI])
        · first | exact hq | (simp_all [wdI]; done) | (grind [wdI])
      · first | exact hq | (simp_all [wdI]; done) | (grind [wdI])
    · first | exact hq | (simp_all [wdI]; done) | (grind [wdI])
  · first | exact hq | (simp_all [wdI]; done) | (grind [wdI])
theorem e_X7_isSign {G : gG} {I : gI} {R : gR} {L : gL} {Q : gQ} {s : Int32} (hR : g_Fx R) (h : (¬ (I 310 16) = 3 → Q (some (.int 0)) SH I R L) ∧ ((I 310 16) = 3 → (¬ (I 310 17) = s → Q (some (.int 0)) SH I R L) ∧ ((I 310 17) = s → Q (some (.int 1)) SH I R L))) : Mt G mX7_isSign 1 0 0 [.ref 310, .int s] SH I R L Q := by
  refine go_start rfl (Nat.le_of_ble_eq_true rfl) rfl ?_
  refine go_aload_n dX7_isSign_0 rfl ?_
  refine go_getI dX7_isSign_1 fX7_182 rfl rfl ?_
  refine go_iconst (v := 3) dX7_isSign_4 (by decide) ?_
  refine go_icmp_ne 20 dX7_isSign_5 (by decide) (fun c => ?_) (fun c => ?_)
  · have h := h.1 c
    refine go_iconst (v := 0) dX7_isSign_20 (by decide) ?_
    exact go_zret dX7_isSign_21 rfl rfl rfl h
  · have h := h.2 c
    refine go_aload_n dX7_isSign_8 rfl ?_
    refine go_getI dX7_isSign_9 fX7_194 rfl rfl ?_
    refine go_iload_n dX7_isSign_12 rfl ?_
    refine go_icmp_ne 20 dX7_isSign_13 (by decide) (fun c => ?_) (fun c => ?_)
    · have h := h.1 c
      refine go_iconst (v := 0) dX7_isSign_20 (by decide) ?_
      exact go_zret dX7_isSign_21 rfl rfl rfl h
    · have h := h.2 c
      refine go_iconst (v := 1) dX7_isSign_16 (by decide) ?_
      refine go_goto 21 dX7_isSign_17 (by decide) ?_
      exact go_zret dX7_isSign_21 rfl rfl rfl h
theorem k_X7_isSign {G : gG} {I : gI} {R : gR} {L : gL} {Q : gQ} {s : Int32} (hR : g_Fx R) (hq : Q (some (.int (if I 310 16 = 3 ∧ I 310 17 = s then 1 else 0))) SH I R L) : Mt G mX7_isSign 1 0 0 [.ref 310, .int s] SH I R L Q := e_X7_isSign hR (by grind)
theorem e_X7_isWord {G : gG} {I : gI} {R : gR} {L : gL} {Q : gQ} {s : Int32} (hR : g_Fx R) (h : (¬ (I 310 16) = 1 → Q (some (.int 0)) SH I R L) ∧ ((I 310 16) = 1 → (¬ (I 310 17) = s → Q (some (.int 0)) SH I R L) ∧ ((I 310 17) = s → Q (some (.int 1)) SH I R L))) : Mt G mX7_isWord 1 0 0 [.ref 310, .int s] SH I R L Q := by
  refine go_start rfl (Nat.le_of_ble_eq_true rfl) rfl ?_
  refine go_aload_n dX7_isWord_0 rfl ?_
  refine go_getI dX7_isWord_1 fX7_182 rfl rfl ?_
  refine go_iconst (v := 1) dX7_isWord_4 (by decide) ?_
  refine go_icmp_ne 20 dX7_isWord_5 (by decide) (fun c => ?_) (fun c => ?_)
  · have h := h.1 c
    refine go_iconst (v := 0) dX7_isWord_20 (by decide) ?_
    exact go_zret dX7_isWord_21 rfl rfl rfl h
  · have h := h.2 c
    refine go_aload_n dX7_isWord_8 rfl ?_
    refine go_getI dX7_isWord_9 fX7_194 rfl rfl ?_
    refine go_iload_n dX7_isWord_12 rfl ?_
    refine go_icmp_ne 20 dX7_isWord_13 (by decide) (fun c => ?_) (fun c => ?_)
    · have h := h.1 c
      refine go_iconst (v := 0) dX7_isWord_20 (by decide) ?_
      exact go_zret dX7_isWord_21 rfl rfl rfl h
    · have h := h.2 c
      refine go_iconst (v := 1) dX7_isWord_16 (by decide) ?_
      refine go_goto 21 dX7_isWord_17 (by decide) ?_
      exact go_zret dX7_isWord_21 rfl rfl rfl h
theorem k_X7_isWord {G : gG} {I : gI} {R : gR} {L : gL} {Q : gQ} {s : Int32} (hR : g_Fx R) (hq : Q (some (.int (if I 310 16 = 1 ∧ I 310 17 = s then 1 else 0))) SH I R L) : Mt G mX7_isWord 1 0 0 [.ref 310, .int s] SH I R L Q := e_X7_isWord hR (by grind)
theorem e_X7_errs {G : gG} {I : gI} {R : gR} {L : gL} {Q : gQ} {f : Int32} (hR : g_Fx R) (h : (¬ (I 310 18) = 0 → Q none SH I R L) ∧ ((I 310 18) = 0 → ∀ I_1 : gI, I_1 = up I 310 18 f → ∀ I_2 : gI, I_2 = up I_1 310 19 (I_1 310 15) → Q none SH I_2 R L)) : Mt G mX7_errs 1 0 0 [.ref 310, .int f] SH I R L Q := by
  refine go_start rfl (Nat.le_of_ble_eq_true rfl) rfl ?_
  refine go_aload_n dX7_errs_0 rfl ?_
  refine go_getI dX7_errs_1 fX7_198 rfl rfl ?_
  refine go_if_ne 20 dX7_errs_4 (by decide) (fun c => ?_) (fun c => ?_)
  · have h := h.1 c
    exact go_vret dX7_errs_20 rfl rfl h
  · have h := h.2 c
    refine go_aload_n dX7_errs_7 rfl ?_
    refine go_iload_n dX7_errs_8 rfl ?_
    refine go_putI dX7_errs_9 fX7_198 rfl rfl rfl rfl ?_
    have h := h _ rfl
    refine go_aload_n dX7_errs_12 rfl ?_
    refine go_aload_n dX7_errs_13 rfl ?_
    refine go_getI dX7_errs_14 fX7_179 rfl rfl ?_
    refine go_putI dX7_errs_17 fX7_201 rfl rfl rfl rfl ?_
    have h := h _ rfl
    exact go_vret dX7_errs_20 rfl rfl h
theorem k_X7_errs {G : gG} {I : gI} {R : gR} {L : gL} {Q : gQ} {f : Int32} (hR : g_Fx R) (hq : Q none SH (errI I f) R L) : Mt G mX7_errs 1 0 0 [.ref 310, .int f] SH I R L Q := by
  refine e_X7_errs hR ?_
  refine ⟨fun c3 => ?_, fun c3 => ?_⟩
  · first | exact hq | (simp_all [errI]; done) | (grind [errI])
  · rintro _ rfl
    rintro _ rfl
    first | exact hq | (simp_all [errI]; done) | (grind [errI])
theorem e_X7_emits {G : gG} {I : gI} {R : gR} {L : gL} {Q : gQ} {o v : Int32} (hR : g_Fx R) (h : vp_in (I 310 34) 400 ∧ (∀ I_1 : gI, I_1 = up I 329 (I 310 34).toNatClampNeg o → vp_in (I_1 310 34) 400 ∧ (∀ I_2 : gI, I_2 = up I_1 330 (I_1 310 34).toNatClampNeg v → ∀ I_3 : gI, I_3 = up I_2 310 34 ((I_2 310 34) + 1) → Q none SH I_3 R L))) : Mt G mX7_emits 1 0 0 [.ref 310, .int o, .int v] SH I R L Q := by
  refine go_start rfl (Nat.le_of_ble_eq_true rfl) rfl ?_
  refine go_aload_n dX7_emits_0 rfl ?_
  refine go_getR dX7_emits_1 fX7_72 rfl rfl (hR 310 35 329 rfl) ?_
  refine go_aload_n dX7_emits_4 rfl ?_
  refine go_getI dX7_emits_5 fX7_204 rfl rfl ?_
  refine go_iload_n dX7_emits_8 rfl ?_
  obtain ⟨hi, h⟩ := h
  refine go_iast dX7_emits_9 rfl hi ?_
  have h := h _ rfl
  refine go_aload_n dX7_emits_10 rfl ?_
  refine go_getR dX7_emits_11 fX7_75 rfl rfl (hR 310 36 330 rfl) ?_
  refine go_aload_n dX7_emits_14 rfl ?_
  refine go_getI dX7_emits_15 fX7_204 rfl rfl ?_
  refine go_iload_n dX7_emits_18 rfl ?_
  obtain ⟨hi, h⟩ := h
  refine go_iast dX7_emits_19 rfl hi ?_
  have h := h _ rfl
  refine go_aload_n dX7_emits_20 rfl ?_
  refine go_dup dX7_emits_21 rfl ?_
  refine go_getI dX7_emits_22 fX7_204 rfl rfl ?_
  refine go_iconst (v := 1) dX7_emits_25 (by decide) ?_
  refine go_iadd dX7_emits_26 ?_
  refine go_putI dX7_emits_27 fX7_204 rfl rfl rfl rfl ?_
  have h := h _ rfl
  exact go_vret dX7_emits_30 rfl rfl h
theorem k_X7_emits {G : gG} {I : gI} {R : gR} {L : gL} {Q : gQ} {o v : Int32} (hR : g_Fx R) (p0 : vp_in (I 310 34) 400) (hq : Q none SH (emM I o v) R L) : Mt G mX7_emits 1 0 0 [.ref 310, .int o, .int v] SH I R L Q := by
  refine e_X7_emits hR ?_
  refine ⟨?_, ?_⟩
  · first | assumption | (simp [up]; assumption) | grind [up]
  rintro _ rfl
  refine ⟨?_, ?_⟩
  · first | assumption | (simp [up]; assumption) | grind [up]
  rintro _ rfl
  rintro _ rfl
  first | exact hq | (simp_all [emM]; done) | (grind [emM])
theorem e_X7_opensFrame {G : gG} {I : gI} {R : gR} {L : gL} {Q : gQ} {f : Int32} (hR : g_Fx R) (h : vp_in (I 310 21) 40 ∧ (∀ I_1 : gI, I_1 = up I 321 (I 310 21).toNatClampNeg f → ∀ I_2 : gI, I_2 = up I_1 310 21 ((I_1 310 21) + 1) → Q none SH I_2 R L)) : Mt G mX7_opensFrame 1 0 0 [.ref 310, .int f] SH I R L Q := by
  refine go_start rfl (Nat.le_of_ble_eq_true rfl) rfl ?_
  refine go_aload_n dX7_opensFrame_0 rfl ?_
  refine go_getR dX7_opensFrame_1 fX7_48 rfl rfl (hR 310 22 321 rfl) ?_
  refine go_aload_n dX7_opensFrame_4 rfl ?_
  refine go_getI dX7_opensFrame_5 fX7_207 rfl rfl ?_
  refine go_iload_n dX7_opensFrame_8 rfl ?_
  obtain ⟨hi, h⟩ := h
  refine go_iast dX7_opensFrame_9 rfl hi ?_
  have h := h _ rfl
  refine go_aload_n dX7_opensFrame_10 rfl ?_
  refine go_dup dX7_opensFrame_11 rfl ?_
  refine go_getI dX7_opensFrame_12 fX7_207 rfl rfl ?_
  refine go_iconst (v := 1) dX7_opensFrame_15 (by decide) ?_
  refine go_iadd dX7_opensFrame_16 ?_
  refine go_putI dX7_opensFrame_17 fX7_207 rfl rfl rfl rfl ?_
  have h := h _ rfl
  exact go_vret dX7_opensFrame_20 rfl rfl h
theorem k_X7_opensFrame {G : gG} {I : gI} {R : gR} {L : gL} {Q : gQ} {f : Int32} (hR : g_Fx R) (p0 : vp_in (I 310 21) 40) (hq : Q none SH (opF I f) R L) : Mt G mX7_opensFrame 1 0 0 [.ref 310, .int f] SH I R L Q := by
  refine e_X7_opensFrame hR ?_
  refine ⟨?_, ?_⟩
  · first | assumption | grind [vi3, vi4, vi6, vi9, vi12, vi24, vi30, vi40, vi64, vi90, vi240, vi300, vi400] | (simp only [up_eq]; grind [vi3, vi4, vi6, vi9, vi12, vi24, vi30, vi40, vi64, vi90, vi240, vi300, vi400])
  rintro _ rfl
  rintro _ rfl
  first | exact hq | (simp_all [opF]; done) | (grind [opF])
theorem e_X7_top {G : gG} {I : gI} {R : gR} {L : gL} {Q : gQ} (hR : g_Fx R) (h : vp_in ((I 310 21) - 1) 40 ∧ (Q (some (.int (I 321 ((I 310 21) - 1).toNatClampNeg))) SH I R L)) : Mt G mX7_top 1 0 0 [.ref 310] SH I R L Q := by
  refine go_start rfl (Nat.le_of_ble_eq_true rfl) rfl ?_
  refine go_aload_n dX7_top_0 rfl ?_
  refine go_getR dX7_top_1 fX7_48 rfl rfl (hR 310 22 321 rfl) ?_
  refine go_aload_n dX7_top_4 rfl ?_
  refine go_getI dX7_top_5 fX7_207 rfl rfl ?_
  refine go_iconst (v := 1) dX7_top_8 (by decide) ?_
  refine go_isub dX7_top_9 ?_
  obtain ⟨hi, h⟩ := h
  refine go_iald dX7_top_10 rfl hi ?_
  exact go_iret dX7_top_11 rfl rfl h
theorem k_X7_top {G : gG} {I : gI} {R : gR} {L : gL} {Q : gQ} (hR : g_Fx R) (p0 : vp_in (I 310 21 - 1) 40) (hq : Q (some (.int (I 321 (I 310 21 - 1).toNatClampNeg))) SH I R L) : Mt G mX7_top 1 0 0 [.ref 310] SH I R L Q := e_X7_top hR (by grind)
theorem e_X7_rank {G : gG} {I : gI} {R : gR} {L : gL} {Q : gQ} {o : Int32} (hR : g_Fx R) (h : (¬ o = 407 → (¬ o = 406 → (o = 43 → Q (some (.int 3)) SH I R L) ∧ (¬ o = 43 → (¬ o = 45 → Q (some (.int 4)) SH I R L) ∧ (o = 45 → Q (some (.int 3)) SH I R L))) ∧ (o = 406 → Q (some (.int 2)) SH I R L)) ∧ (o = 407 → Q (some (.int 1)) SH I R L)) : Mt G mX7_rank 1 0 0 [.int o] SH I R L Q := by
  refine go_start rfl (Nat.le_of_ble_eq_true rfl) rfl ?_
  refine go_iload_n dX7_rank_0 rfl ?_
  refine go_sipush (v := 407) dX7_rank_1 (by decide) ?_
  refine go_icmp_ne 11 dX7_rank_4 (by decide) (fun c => ?_) (fun c => ?_)
  · have h := h.1 c
    refine go_iload_n dX7_rank_11 rfl ?_
    refine go_sipush (v := 406) dX7_rank_12 (by decide) ?_
    refine go_icmp_ne 22 dX7_rank_15 (by decide) (fun c => ?_) (fun c => ?_)
    · have h := h.1 c
      refine go_iload_n dX7_rank_22 rfl ?_
      refine go_bipush (v := 43) dX7_rank_23 (by decide) ?_
      refine go_icmp_eq 34 dX7_rank_25 (by decide) (fun c => ?_) (fun c => ?_)
      · have h := h.1 c
        refine go_iconst (v := 3) dX7_rank_34 (by decide) ?_
        refine go_goto 39 dX7_rank_35 (by decide) ?_
        exact go_iret dX7_rank_39 rfl rfl h
      · have h := h.2 c
        refine go_iload_n dX7_rank_28 rfl ?_
        refine go_bipush (v := 45) dX7_rank_29 (by decide) ?_
        refine go_icmp_ne 38 dX7_rank_31 (by decide) (fun c => ?_) (fun c => ?_)
        · have h := h.1 c
          refine go_iconst (v := 4) dX7_rank_38 (by decide) ?_
          exact go_iret dX7_rank_39 rfl rfl h
        · have h := h.2 c
          refine go_iconst (v := 3) dX7_rank_34 (by decide) ?_
          refine go_goto 39 dX7_rank_35 (by decide) ?_
          exact go_iret dX7_rank_39 rfl rfl h
    · have h := h.2 c
      refine go_iconst (v := 2) dX7_rank_18 (by decide) ?_
      refine go_goto 39 dX7_rank_19 (by decide) ?_
      exact go_iret dX7_rank_39 rfl rfl h
  · have h := h.2 c
    refine go_iconst (v := 1) dX7_rank_7 (by decide) ?_
    refine go_goto 39 dX7_rank_8 (by decide) ?_
    exact go_iret dX7_rank_39 rfl rfl h
theorem k_X7_rank {G : gG} {I : gI} {R : gR} {L : gL} {Q : gQ} {o : Int32} (hR : g_Fx R) (hq : Q (some (.int (if o = 407 then 1 else if o = 406 then 2 else if o = 43 ∨ o = 45 then 3 else 4))) SH I R L) : Mt G mX7_rank 1 0 0 [.int o] SH I R L Q := e_X7_rank hR (by grind)
theorem e_X7_mayName {G : gG} {I : gI} {R : gR} {L : gL} {Q : gQ} {n k : Int32} (hR : g_Fx R) (h : (¬ k = 0 → (¬ k = 1 → (n ≤ 6 → Q (some (.int 0)) SH I R L) ∧ (¬ n ≤ 6 → Q (some (.int 1)) SH I R L)) ∧ (k = 1 → (4 ≤ n → Q (some (.int 0)) SH I R L) ∧ (¬ 4 ≤ n → Q (some (.int 1)) SH I R L))) ∧ (k = 0 → (8 ≤ n → Q (some (.int 0)) SH I R L) ∧ (¬ 8 ≤ n → Q (some (.int 1)) SH I R L))) : Mt G mX7_mayName 1 0 0 [.int n, .int k] SH I R L Q := by
  refine go_start rfl (Nat.le_of_ble_eq_true rfl) rfl ?_
  refine go_iload_n dX7_mayName_0 rfl ?_
  refine go_if_ne 18 dX7_mayName_1 (by decide) (fun c => ?_) (fun c => ?_)
  · have h := h.1 c
    refine go_iload_n dX7_mayName_18 rfl ?_
    refine go_iconst (v := 1) dX7_mayName_19 (by decide) ?_
    refine go_icmp_ne 36 dX7_mayName_20 (by decide) (fun c => ?_) (fun c => ?_)
    · have h := h.1 c
      refine go_iload_n dX7_mayName_36 rfl ?_
      refine go_bipush (v := 6) dX7_mayName_37 (by decide) ?_
      refine go_icmp_le 46 dX7_mayName_39 (by decide) (fun c => ?_) (fun c => ?_)
      · have h := h.1 c
        refine go_iconst (v := 0) dX7_mayName_46 (by decide) ?_
        exact go_zret dX7_mayName_47 rfl rfl rfl h
      · have h := h.2 c
        refine go_iconst (v := 1) dX7_mayName_42 (by decide) ?_
        refine go_goto 47 dX7_mayName_43 (by decide) ?_
        exact go_zret dX7_mayName_47 rfl rfl rfl h
    · have h := h.2 c
      refine go_iload_n dX7_mayName_23 rfl ?_
      refine go_iconst (v := 4) dX7_mayName_24 (by decide) ?_
      refine go_icmp_ge 32 dX7_mayName_25 (by decide) (fun c => ?_) (fun c => ?_)
      · have h := h.1 c
        refine go_iconst (v := 0) dX7_mayName_32 (by decide) ?_
        refine go_goto 47 dX7_mayName_33 (by decide) ?_
        exact go_zret dX7_mayName_47 rfl rfl rfl h
      · have h := h.2 c
        refine go_iconst (v := 1) dX7_mayName_28 (by decide) ?_
        refine go_goto 47 dX7_mayName_29 (by decide) ?_
        exact go_zret dX7_mayName_47 rfl rfl rfl h
  · have h := h.2 c
    refine go_iload_n dX7_mayName_4 rfl ?_
    refine go_bipush (v := 8) dX7_mayName_5 (by decide) ?_
    refine go_icmp_ge 14 dX7_mayName_7 (by decide) (fun c => ?_) (fun c => ?_)
    · have h := h.1 c
      refine go_iconst (v := 0) dX7_mayName_14 (by decide) ?_
      refine go_goto 47 dX7_mayName_15 (by decide) ?_
      exact go_zret dX7_mayName_47 rfl rfl rfl h
    · have h := h.2 c
      refine go_iconst (v := 1) dX7_mayName_10 (by decide) ?_
      refine go_goto 47 dX7_mayName_11 (by decide) ?_
      exact go_zret dX7_mayName_47 rfl rfl rfl h
theorem k_X7_mayName {G : gG} {I : gI} {R : gR} {L : gL} {Q : gQ} {n k : Int32} (hR : g_Fx R) (hq : Q (some (.int (if (k = 0 ∧ n < 8) ∨ (¬ k = 0 ∧ k = 1 ∧ n < 4) ∨ (¬ k = 0 ∧ ¬ k = 1 ∧ 6 < n) then 1 else 0))) SH I R L) : Mt G mX7_mayName 1 0 0 [.int n, .int k] SH I R L Q := e_X7_mayName hR (by grind)
theorem e_X7_isAsking {G : gG} {I : gI} {R : gR} {L : gL} {Q : gQ} {s : Int32} (hR : g_Fx R) (h : (s = 60 → Q (some (.int 1)) SH I R L) ∧ (¬ s = 60 → (s = 62 → Q (some (.int 1)) SH I R L) ∧ (¬ s = 62 → (s = 61 → Q (some (.int 1)) SH I R L) ∧ (¬ s = 61 → (s = 35 → Q (some (.int 1)) SH I R L) ∧ (¬ s = 35 → (s = 300 → Q (some (.int 1)) SH I R L) ∧ (¬ s = 300 → (¬ s = 301 → Q (some (.int 0)) SH I R L) ∧ (s = 301 → Q (some (.int 1)) SH I R L))))))) : Mt G mX7_isAsking 1 0 0 [.int s] SH I R L Q := by
  refine go_start rfl (Nat.le_of_ble_eq_true rfl) rfl ?_
  refine go_iload_n dX7_isAsking_0 rfl ?_
  refine go_bipush (v := 60) dX7_isAsking_1 (by decide) ?_
  refine go_icmp_eq 38 dX7_isAsking_3 (by decide) (fun c => ?_) (fun c => ?_)
  · have h := h.1 c
    refine go_iconst (v := 1) dX7_isAsking_38 (by decide) ?_
    refine go_goto 43 dX7_isAsking_39 (by decide) ?_
    exact go_zret dX7_isAsking_43 rfl rfl rfl h
  · have h := h.2 c
    refine go_iload_n dX7_isAsking_6 rfl ?_
    refine go_bipush (v := 62) dX7_isAsking_7 (by decide) ?_
    refine go_icmp_eq 38 dX7_isAsking_9 (by decide) (fun c => ?_) (fun c => ?_)
    · have h := h.1 c
      refine go_iconst (v := 1) dX7_isAsking_38 (by decide) ?_
      refine go_goto 43 dX7_isAsking_39 (by decide) ?_
      exact go_zret dX7_isAsking_43 rfl rfl rfl h
    · have h := h.2 c
      refine go_iload_n dX7_isAsking_12 rfl ?_
      refine go_bipush (v := 61) dX7_isAsking_13 (by decide) ?_
      refine go_icmp_eq 38 dX7_isAsking_15 (by decide) (fun c => ?_) (fun c => ?_)
      · have h := h.1 c
        refine go_iconst (v := 1) dX7_isAsking_38 (by decide) ?_
        refine go_goto 43 dX7_isAsking_39 (by decide) ?_
        exact go_zret dX7_isAsking_43 rfl rfl rfl h
      · have h := h.2 c
        refine go_iload_n dX7_isAsking_18 rfl ?_
        refine go_bipush (v := 35) dX7_isAsking_19 (by decide) ?_
        refine go_icmp_eq 38 dX7_isAsking_21 (by decide) (fun c => ?_) (fun c => ?_)
        · have h := h.1 c
          refine go_iconst (v := 1) dX7_isAsking_38 (by decide) ?_
          refine go_goto 43 dX7_isAsking_39 (by decide) ?_
          exact go_zret dX7_isAsking_43 rfl rfl rfl h
        · have h := h.2 c
          refine go_iload_n dX7_isAsking_24 rfl ?_
          refine go_sipush (v := 300) dX7_isAsking_25 (by decide) ?_
          refine go_icmp_eq 38 dX7_isAsking_28 (by decide) (fun c => ?_) (fun c => ?_)
          · have h := h.1 c
            refine go_iconst (v := 1) dX7_isAsking_38 (by decide) ?_
            refine go_goto 43 dX7_isAsking_39 (by decide) ?_
            exact go_zret dX7_isAsking_43 rfl rfl rfl h
          · have h := h.2 c
            refine go_iload_n dX7_isAsking_31 rfl ?_
            refine go_sipush (v := 301) dX7_isAsking_32 (by decide) ?_
            refine go_icmp_ne 42 dX7_isAsking_35 (by decide) (fun c => ?_) (fun c => ?_)
            · have h := h.1 c
              refine go_iconst (v := 0) dX7_isAsking_42 (by decide) ?_
              exact go_zret dX7_isAsking_43 rfl rfl rfl h
            · have h := h.2 c
              refine go_iconst (v := 1) dX7_isAsking_38 (by decide) ?_
              refine go_goto 43 dX7_isAsking_39 (by decide) ?_
              exact go_zret dX7_isAsking_43 rfl rfl rfl h
theorem k_X7_isAsking {G : gG} {I : gI} {R : gR} {L : gL} {Q : gQ} {s : Int32} (hR : g_Fx R) (hq : Q (some (.int (if s = 60 ∨ s = 62 ∨ s = 61 ∨ s = 35 ∨ s = 300 ∨ s = 301 then 1 else 0))) SH I R L) : Mt G mX7_isAsking 1 0 0 [.int s] SH I R L Q := e_X7_isAsking hR (by grind)
theorem e_X7_bound {G : gG} {I : gI} {R : gR} {L : gL} {Q : gQ} {v : Int64} (hR : g_Fx R) (h : (v ≤ 1000000 → ((-1000000) ≤ v → Q (some (.long v)) SH I R L) ∧ (¬ (-1000000) ≤ v → Q (some (.long (-1000000))) SH I R L)) ∧ (¬ v ≤ 1000000 → Q (some (.long 1000000)) SH I R L)) : Mt G mX7_bound 1 0 0 [.long v] SH I R L Q := by
  refine go_start rfl (Nat.le_of_ble_eq_true rfl) rfl ?_
  refine go_lload_n dX7_bound_0 rfl ?_
  refine go_ldc2 kX7_302 dX7_bound_1 ?_
  refine go_lcmp dX7_bound_4 ?_
  refine go_if_le 14 dX7_bound_5 (by decide) (fun c => ?_) (fun c => ?_)
  · have h := h.1 (lc_le.mp c)
    refine go_lload_n dX7_bound_14 rfl ?_
    refine go_ldc2 kX7_304 dX7_bound_15 ?_
    refine go_lcmp dX7_bound_18 ?_
    refine go_if_ge 28 dX7_bound_19 (by decide) (fun c => ?_) (fun c => ?_)
    · have h := h.1 (lc_ge.mp c)
      refine go_lload_n dX7_bound_28 rfl ?_
      exact go_lret dX7_bound_29 rfl rfl h
    · have h := h.2 (lc_ge_n.mp c)
      refine go_ldc2 kX7_304 dX7_bound_22 ?_
      refine go_goto 29 dX7_bound_25 (by decide) ?_
      exact go_lret dX7_bound_29 rfl rfl h
  · have h := h.2 (lc_le_n.mp c)
    refine go_ldc2 kX7_302 dX7_bound_8 ?_
    refine go_goto 29 dX7_bound_11 (by decide) ?_
    exact go_lret dX7_bound_29 rfl rfl h
theorem k_X7_bound {G : gG} {I : gI} {R : gR} {L : gL} {Q : gQ} {v : Int64} (hR : g_Fx R) (hq : Q (some (.long (bdL v))) SH I R L) : Mt G mX7_bound 1 0 0 [.long v] SH I R L Q := by
  refine e_X7_bound hR ?_
  refine ⟨fun c2 => ?_, fun c2 => ?_⟩
  · refine ⟨fun c1 => ?_, fun c1 => ?_⟩
    · first | exact hq | (simp_all [bdL]; done) | (grind [bdL])
    · first | exact hq | (simp_all [bdL]; done) | (grind [bdL])
  · first | exact hq | (simp_all [bdL]; done) | (grind [bdL])
theorem e_X7_worked {G : gG} {I : gI} {R : gR} {L : gL} {Q : gQ} {o : Int32} {x y : Int64} (hR : g_Fx R) (h : (o = 35 → (x = y → Q (some (.long 0)) SH I R L) ∧ (¬ x = y → Q (some (.long 1)) SH I R L)) ∧ (o = 42 → Q (some (.long (bdL (x * y)))) SH I R L) ∧ (o = 43 → Q (some (.long (bdL (x + y)))) SH I R L) ∧ (o = 45 → Q (some (.long (bdL (x - y)))) SH I R L) ∧ (o = 47 → (¬ y = 0 → ¬ y = 0 ∧ (Q (some (.long (x / y))) SH I R L)) ∧ (y = 0 → Q (some (.long 0)) SH I R L)) ∧ (o = 60 → (y ≤ x → Q (some (.long 0)) SH I R L) ∧ (¬ y ≤ x → Q (some (.long 1)) SH I R L)) ∧ (o = 61 → (¬ x = y → Q (some (.long 0)) SH I R L) ∧ (x = y → Q (some (.long 1)) SH I R L)) ∧ (o = 62 → (x ≤ y → Q (some (.long 0)) SH I R L) ∧ (¬ x ≤ y → Q (some (.long 1)) SH I R L)) ∧ (o = 300 → (y < x → Q (some (.long 0)) SH I R L) ∧ (¬ y < x → Q (some (.long 1)) SH I R L)) ∧ (o = 301 → (x < y → Q (some (.long 0)) SH I R L) ∧ (¬ x < y → Q (some (.long 1)) SH I R L)) ∧ (o = 406 → Q (some (.long (x * y))) SH I R L) ∧ (¬ o = 35 ∧ ¬ o = 42 ∧ ¬ o = 43 ∧ ¬ o = 45 ∧ ¬ o = 47 ∧ ¬ o = 60 ∧ ¬ o = 61 ∧ ¬ o = 62 ∧ ¬ o = 300 ∧ ¬ o = 301 ∧ ¬ o = 406 → ((x + y) ≤ 0 → Q (some (.long 0)) SH I R L) ∧ (¬ (x + y) ≤ 0 → Q (some (.long 1)) SH I R L))) : Mt G mX7_worked 2 0 0 [.int o, .long x, .long y] SH I R L Q := by
  refine go_start rfl (Nat.le_of_ble_eq_true rfl) rfl ?_
  refine go_iload_n dX7_worked_0 rfl ?_
  by_cases c0 : o = 35
  · have h := h.1 c0
    refine go_ls (off := 170) 171 dX7_worked_1 (by decide) (by rw [c0]; decide) (by decide) ?_
    refine go_lload_n dX7_worked_171 rfl ?_
    refine go_lload_n dX7_worked_172 rfl ?_
    refine go_lcmp dX7_worked_173 ?_
    refine go_if_eq 181 dX7_worked_174 (by decide) (fun c => ?_) (fun c => ?_)
    · have h := h.1 (lc_eq.mp c)
      refine go_lconst (v := 0) dX7_worked_181 (by decide) ?_
      exact go_lret dX7_worked_182 rfl rfl h
    · have h := h.2 (lc_eq_n.mp c)
      refine go_lconst (v := 1) dX7_worked_177 (by decide) ?_
      refine go_goto 182 dX7_worked_178 (by decide) ?_
      exact go_lret dX7_worked_182 rfl rfl h
  by_cases c1 : o = 42
  · have h := h.2.1 c1
    refine go_ls (off := 113) 114 dX7_worked_1 (by decide) (by rw [c1]; decide) (by decide) ?_
    refine go_lload_n dX7_worked_114 rfl ?_
    refine go_lload_n dX7_worked_115 rfl ?_
    refine go_lmul dX7_worked_116 ?_
    refine go_callS0 (μ := mX7_worked) [.long _] dX7_worked_117 YX7_bound lX7_306 rfl (Nat.le_of_ble_eq_true rfl) (Nat.le_of_ble_eq_true rfl) rfl (k_X7_bound hR ?_)
    exact go_lret dX7_worked_120 rfl rfl h
  by_cases c2 : o = 43
  · have h := h.2.2.1 c2
    refine go_ls (off := 99) 100 dX7_worked_1 (by decide) (by rw [c2]; decide) (by decide) ?_
    refine go_lload_n dX7_worked_100 rfl ?_
    refine go_lload_n dX7_worked_101 rfl ?_
    refine go_ladd dX7_worked_102 ?_
    refine go_callS0 (μ := mX7_worked) [.long _] dX7_worked_103 YX7_bound lX7_306 rfl (Nat.le_of_ble_eq_true rfl) (Nat.le_of_ble_eq_true rfl) rfl (k_X7_bound hR ?_)
    exact go_lret dX7_worked_106 rfl rfl h
  by_cases c3 : o = 45
  · have h := h.2.2.2.1 c3
    refine go_ls (off := 106) 107 dX7_worked_1 (by decide) (by rw [c3]; decide) (by decide) ?_
    refine go_lload_n dX7_worked_107 rfl ?_
    refine go_lload_n dX7_worked_108 rfl ?_
    refine go_lsub dX7_worked_109 ?_
    refine go_callS0 (μ := mX7_worked) [.long _] dX7_worked_110 YX7_bound lX7_306 rfl (Nat.le_of_ble_eq_true rfl) (Nat.le_of_ble_eq_true rfl) rfl (k_X7_bound hR ?_)
    exact go_lret dX7_worked_113 rfl rfl h
  by_cases c4 : o = 47
  · have h := h.2.2.2.2.1 c4
    refine go_ls (off := 120) 121 dX7_worked_1 (by decide) (by rw [c4]; decide) (by decide) ?_
    refine go_lload_n dX7_worked_121 rfl ?_
    refine go_lconst (v := 0) dX7_worked_122 (by decide) ?_
    refine go_lcmp dX7_worked_123 ?_
    refine go_if_ne 131 dX7_worked_124 (by decide) (fun c => ?_) (fun c => ?_)
    · have h := h.1 (lc_ne.mp c)
      refine go_lload_n dX7_worked_131 rfl ?_
      refine go_lload_n dX7_worked_132 rfl ?_
      obtain ⟨hn, h⟩ := h
      refine go_ldiv dX7_worked_133 hn ?_
      exact go_lret dX7_worked_134 rfl rfl h
    · have h := h.2 (lc_ne_n.mp c)
      refine go_lconst (v := 0) dX7_worked_127 (by decide) ?_
      refine go_goto 134 dX7_worked_128 (by decide) ?_
      exact go_lret dX7_worked_134 rfl rfl h
  by_cases c5 : o = 60
  · have h := h.2.2.2.2.2.1 c5
    refine go_ls (off := 134) 135 dX7_worked_1 (by decide) (by rw [c5]; decide) (by decide) ?_
    refine go_lload_n dX7_worked_135 rfl ?_
    refine go_lload_n dX7_worked_136 rfl ?_
    refine go_lcmp dX7_worked_137 ?_
    refine go_if_ge 145 dX7_worked_138 (by decide) (fun c => ?_) (fun c => ?_)
    · have h := h.1 (lc_ge.mp c)
      refine go_lconst (v := 0) dX7_worked_145 (by decide) ?_
      exact go_lret dX7_worked_146 rfl rfl h
    · have h := h.2 (lc_ge_n.mp c)
      refine go_lconst (v := 1) dX7_worked_141 (by decide) ?_
      refine go_goto 146 dX7_worked_142 (by decide) ?_
      exact go_lret dX7_worked_146 rfl rfl h
  by_cases c6 : o = 61
  · have h := h.2.2.2.2.2.2.1 c6
    refine go_ls (off := 158) 159 dX7_worked_1 (by decide) (by rw [c6]; decide) (by decide) ?_
    refine go_lload_n dX7_worked_159 rfl ?_
    refine go_lload_n dX7_worked_160 rfl ?_
    refine go_lcmp dX7_worked_161 ?_
    refine go_if_ne 169 dX7_worked_162 (by decide) (fun c => ?_) (fun c => ?_)
    · have h := h.1 (lc_ne.mp c)
      refine go_lconst (v := 0) dX7_worked_169 (by decide) ?_
      exact go_lret dX7_worked_170 rfl rfl h
    · have h := h.2 (lc_ne_n.mp c)
      refine go_lconst (v := 1) dX7_worked_165 (by decide) ?_
      refine go_goto 170 dX7_worked_166 (by decide) ?_
      exact go_lret dX7_worked_170 rfl rfl h
  by_cases c7 : o = 62
  · have h := h.2.2.2.2.2.2.2.1 c7
    refine go_ls (off := 146) 147 dX7_worked_1 (by decide) (by rw [c7]; decide) (by decide) ?_
    refine go_lload_n dX7_worked_147 rfl ?_
    refine go_lload_n dX7_worked_148 rfl ?_
    refine go_lcmp dX7_worked_149 ?_
    refine go_if_le 157 dX7_worked_150 (by decide) (fun c => ?_) (fun c => ?_)
    · have h := h.1 (lc_le.mp c)
      refine go_lconst (v := 0) dX7_worked_157 (by decide) ?_
      exact go_lret dX7_worked_158 rfl rfl h
    · have h := h.2 (lc_le_n.mp c)
      refine go_lconst (v := 1) dX7_worked_153 (by decide) ?_
      refine go_goto 158 dX7_worked_154 (by decide) ?_
      exact go_lret dX7_worked_158 rfl rfl h
  by_cases c8 : o = 300
  · have h := h.2.2.2.2.2.2.2.2.1 c8
    refine go_ls (off := 182) 183 dX7_worked_1 (by decide) (by rw [c8]; decide) (by decide) ?_
    refine go_lload_n dX7_worked_183 rfl ?_
    refine go_lload_n dX7_worked_184 rfl ?_
    refine go_lcmp dX7_worked_185 ?_
    refine go_if_gt 193 dX7_worked_186 (by decide) (fun c => ?_) (fun c => ?_)
    · have h := h.1 (lc_gt.mp c)
      refine go_lconst (v := 0) dX7_worked_193 (by decide) ?_
      exact go_lret dX7_worked_194 rfl rfl h
    · have h := h.2 (lc_gt_n.mp c)
      refine go_lconst (v := 1) dX7_worked_189 (by decide) ?_
      refine go_goto 194 dX7_worked_190 (by decide) ?_
      exact go_lret dX7_worked_194 rfl rfl h
  by_cases c9 : o = 301
  · have h := h.2.2.2.2.2.2.2.2.2.1 c9
    refine go_ls (off := 194) 195 dX7_worked_1 (by decide) (by rw [c9]; decide) (by decide) ?_
    refine go_lload_n dX7_worked_195 rfl ?_
    refine go_lload_n dX7_worked_196 rfl ?_
    refine go_lcmp dX7_worked_197 ?_
    refine go_if_lt 205 dX7_worked_198 (by decide) (fun c => ?_) (fun c => ?_)
    · have h := h.1 (lc_lt.mp c)
      refine go_lconst (v := 0) dX7_worked_205 (by decide) ?_
      exact go_lret dX7_worked_206 rfl rfl h
    · have h := h.2 (lc_lt_n.mp c)
      refine go_lconst (v := 1) dX7_worked_201 (by decide) ?_
      refine go_goto 206 dX7_worked_202 (by decide) ?_
      exact go_lret dX7_worked_206 rfl rfl h
  by_cases c10 : o = 406
  · have h := h.2.2.2.2.2.2.2.2.2.2.1 c10
    refine go_ls (off := 206) 207 dX7_worked_1 (by decide) (by rw [c10]; decide) (by decide) ?_
    refine go_lload_n dX7_worked_207 rfl ?_
    refine go_lload_n dX7_worked_208 rfl ?_
    refine go_lmul dX7_worked_209 ?_
    exact go_lret dX7_worked_210 rfl rfl h
  have h := h.2.2.2.2.2.2.2.2.2.2.2 ⟨c0, c1, c2, c3, c4, c5, c6, c7, c8, c9, c10⟩
  refine go_ls (off := 210) 211 dX7_worked_1 (by decide) ((lv_osw c0 (by decide)).trans ((lv_osw c1 (by decide)).trans ((lv_osw c2 (by decide)).trans ((lv_osw c3 (by decide)).trans ((lv_osw c4 (by decide)).trans ((lv_osw c5 (by decide)).trans ((lv_osw c6 (by decide)).trans ((lv_osw c7 (by decide)).trans ((lv_osw c8 (by decide)).trans ((lv_osw c9 (by decide)).trans ((lv_osw c10 (by decide)).trans (rfl)))))))))))) (by decide) ?_
  refine go_lload_n dX7_worked_211 rfl ?_
  refine go_lload_n dX7_worked_212 rfl ?_
  refine go_ladd dX7_worked_213 ?_
  refine go_lconst (v := 0) dX7_worked_214 (by decide) ?_
  refine go_lcmp dX7_worked_215 ?_
  refine go_if_le 223 dX7_worked_216 (by decide) (fun c => ?_) (fun c => ?_)
  · have h := h.1 (lc_le.mp c)
    refine go_lconst (v := 0) dX7_worked_223 (by decide) ?_
    exact go_lret dX7_worked_224 rfl rfl h
  · have h := h.2 (lc_le_n.mp c)
    refine go_lconst (v := 1) dX7_worked_219 (by decide) ?_
    refine go_goto 224 dX7_worked_220 (by decide) ?_
    exact go_lret dX7_worked_224 rfl rfl h
theorem k_X7_worked {G : gG} {I : gI} {R : gR} {L : gL} {Q : gQ} {o : Int32} {x y : Int64} (hR : g_Fx R) (hq : Q (some (.long (wkL o x y))) SH I R L) : Mt G mX7_worked 2 0 0 [.int o, .long x, .long y] SH I R L Q := by
  refine e_X7_worked hR ?_
  refine ⟨fun c9 => ?_, fun c9 => ?_, fun c9 => ?_, fun c9 => ?_, fun c9 => ?_, fun c9 => ?_, fun c9 => ?_, fun c9 => ?_, fun c9 => ?_, fun c9 => ?_, fun c9 => ?_, fun c9 => ?_⟩
  · refine ⟨fun c1 => ?_, fun c1 => ?_⟩
    · first | exact hq | (simp_all [wkL]; done) | (grind [wkL])
    · first | exact hq | (simp_all [wkL]; done) | (grind [wkL])
  · first | exact hq | (simp_all [wkL]; done) | (grind [wkL])
  · first | exact hq | (simp_all [wkL]; done) | (grind [wkL])
  · first | exact hq | (simp_all [wkL]; done) | (grind [wkL])
  · refine ⟨fun c2 => ?_, fun c2 => ?_⟩
    · refine ⟨?_, ?_⟩
      · first | assumption | grind [vi3, vi4, vi6, vi9, vi12, vi24, vi30, vi40, vi64, vi90, vi240, vi300, vi400] | (simp only [up_eq]; grind [vi3, vi4, vi6, vi9, vi12, vi24, vi30, vi40, vi64, vi90, vi240, vi300, vi400])
      first | exact hq | (simp_all [wkL]; done) | (grind [wkL])
    · first | exact hq | (simp_all [wkL]; done) | (grind [wkL])
  · refine ⟨fun c3 => ?_, fun c3 => ?_⟩
    · first | exact hq | (simp_all [wkL]; done) | (grind [wkL])
    · first | exact hq | (simp_all [wkL]; done) | (grind [wkL])
  · refine ⟨fun c4 => ?_, fun c4 => ?_⟩
    · first | exact hq | (simp_all [wkL]; done) | (grind [wkL])
    · first | exact hq | (simp_all [wkL]; done) | (grind [wkL])
  · refine ⟨fun c5 => ?_, fun c5 => ?_⟩
    · first | exact hq | (simp_all [wkL]; done) | (grind [wkL])
    · first | exact hq | (simp_all [wkL]; done) | (grind [wkL])
  · refine ⟨fun c6 => ?_, fun c6 => ?_⟩
    · first | exact hq | (simp_all [wkL]; done) | (grind [wkL])
    · first | exact hq | (simp_all [wkL]; done) | (grind [wkL])
  · refine ⟨fun c7 => ?_, fun c7 => ?_⟩
    · first | exact hq | (simp_all [wkL]; done) | (grind [wkL])
    · first | exact hq | (simp_all [wkL]; done) | (grind [wkL])
  · first | exact hq | (simp_all [wkL]; done) | (grind [wkL])
  · refine ⟨fun c8 => ?_, fun c8 => ?_⟩
    · first | exact hq | (simp_all [wkL]; done) | (grind [wkL])
    · first | exact hq | (simp_all [wkL]; done) | (grind [wkL])
theorem e_X7_held {G : gG} {I : gI} {R : gR} {L : gL} {Q : gQ} {a b : Int32} {v : Int64} (hR : g_Fx R) (h : ((Int32.toInt64 a) ≤ v → (v ≤ (Int32.toInt64 b) → Q (some (.int (Int64.toInt32 v))) SH I R L) ∧ (¬ v ≤ (Int32.toInt64 b) → Q (some (.int b)) SH I R L)) ∧ (¬ (Int32.toInt64 a) ≤ v → Q (some (.int a)) SH I R L)) : Mt G mX7_held 1 0 0 [.long v, .int a, .int b] SH I R L Q := by
  refine go_start rfl (Nat.le_of_ble_eq_true rfl) rfl ?_
  refine go_lload_n dX7_held_0 rfl ?_
  refine go_iload_n dX7_held_1 rfl ?_
  refine go_i2l dX7_held_2 ?_
  refine go_lcmp dX7_held_3 ?_
  refine go_if_ge 11 dX7_held_4 (by decide) (fun c => ?_) (fun c => ?_)
  · have h := h.1 (lc_ge.mp c)
    refine go_lload_n dX7_held_11 rfl ?_
    refine go_iload_n dX7_held_12 rfl ?_
    refine go_i2l dX7_held_13 ?_
    refine go_lcmp dX7_held_14 ?_
    refine go_if_le 22 dX7_held_15 (by decide) (fun c => ?_) (fun c => ?_)
    · have h := h.1 (lc_le.mp c)
      refine go_lload_n dX7_held_22 rfl ?_
      refine go_l2i dX7_held_23 ?_
      exact go_iret dX7_held_24 rfl rfl h
    · have h := h.2 (lc_le_n.mp c)
      refine go_iload_n dX7_held_18 rfl ?_
      refine go_goto 24 dX7_held_19 (by decide) ?_
      exact go_iret dX7_held_24 rfl rfl h
  · have h := h.2 (lc_ge_n.mp c)
    refine go_iload_n dX7_held_7 rfl ?_
    refine go_goto 24 dX7_held_8 (by decide) ?_
    exact go_iret dX7_held_24 rfl rfl h
theorem k_X7_held {G : gG} {I : gI} {R : gR} {L : gL} {Q : gQ} {a b : Int32} {v : Int64} (hR : g_Fx R) (hq : Q (some (.int (hdL v a b))) SH I R L) : Mt G mX7_held 1 0 0 [.long v, .int a, .int b] SH I R L Q := by
  refine e_X7_held hR ?_
  refine ⟨fun c2 => ?_, fun c2 => ?_⟩
  · refine ⟨fun c1 => ?_, fun c1 => ?_⟩
    · first | exact hq | (simp_all [hdL]; done) | (grind [hdL])
    · first | exact hq | (simp_all [hdL]; done) | (grind [hdL])
  · first | exact hq | (simp_all [hdL]; done) | (grind [hdL])
theorem e_X7_least {G : gG} {I : gI} {R : gR} {L : gL} {Q : gQ} {x y : Int32} (hR : g_Fx R) (h : (y ≤ x → Q (some (.int y)) SH I R L) ∧ (¬ y ≤ x → Q (some (.int x)) SH I R L)) : Mt G mX7_least 1 0 0 [.int x, .int y] SH I R L Q := by
  refine go_start rfl (Nat.le_of_ble_eq_true rfl) rfl ?_
  refine go_iload_n dX7_least_0 rfl ?_
  refine go_iload_n dX7_least_1 rfl ?_
  refine go_icmp_ge 9 dX7_least_2 (by decide) (fun c => ?_) (fun c => ?_)
  · have h := h.1 c
    refine go_iload_n dX7_least_9 rfl ?_
    exact go_iret dX7_least_10 rfl rfl h
  · have h := h.2 c
    refine go_iload_n dX7_least_5 rfl ?_
    refine go_goto 10 dX7_least_6 (by decide) ?_
    exact go_iret dX7_least_10 rfl rfl h
theorem k_X7_least {G : gG} {I : gI} {R : gR} {L : gL} {Q : gQ} {x y : Int32} (hR : g_Fx R) (hq : Q (some (.int (if x < y then x else y))) SH I R L) : Mt G mX7_least 1 0 0 [.int x, .int y] SH I R L Q := e_X7_least hR (by grind)
theorem e_X7_names {G : gG} {I : gI} {R : gR} {L : gL} {Q : gQ} {e : Int32} (hR : g_Fx R) (h : ∀ I_1 : gI, I_1 = up I 331 0 e → vp_in (10 + (3 * e)) 11120 ∧ (∀ I_2 : gI, I_2 = up I_1 331 1 (I_1 311 (10 + (3 * e)).toNatClampNeg) → vp_in ((10 + (3 * e)) + 1) 11120 ∧ (∀ I_3 : gI, I_3 = up I_2 331 2 (I_2 311 ((10 + (3 * e)) + 1).toNatClampNeg) → vp_in e 9 ∧ (∀ I_4 : gI, I_4 = up I_3 331 3 (I_3 334 e.toNatClampNeg) → Q none SH I_4 R L)))) : Mt G mX7_names 1 0 0 [.ref 310, .int e] SH I R L Q := by
  refine go_start rfl (Nat.le_of_ble_eq_true rfl) rfl ?_
  refine go_aload_n dX7_names_0 rfl ?_
  refine go_getR dX7_names_1 fX7_78 rfl rfl (hR 310 37 331 rfl) ?_
  refine go_iconst (v := 0) dX7_names_4 (by decide) ?_
  refine go_iload_n dX7_names_5 rfl ?_
  refine go_iastK dX7_names_6 rfl (vp_in_nI (n := 0) (by decide) (by decide)) (k := 0) (by decide) ?_
  have h := h _ rfl
  refine go_aload_n dX7_names_7 rfl ?_
  refine go_getR dX7_names_8 fX7_78 rfl rfl (hR 310 37 331 rfl) ?_
  refine go_iconst (v := 1) dX7_names_11 (by decide) ?_
  refine go_aload_n dX7_names_12 rfl ?_
  refine go_getR dX7_names_13 fX7_7 rfl rfl (hR 310 0 311 rfl) ?_
  refine go_bipush (v := 10) dX7_names_16 (by decide) ?_
  refine go_iconst (v := 3) dX7_names_18 (by decide) ?_
  refine go_iload_n dX7_names_19 rfl ?_
  refine go_imul dX7_names_20 ?_
  refine go_iadd dX7_names_21 ?_
  obtain ⟨hi, h⟩ := h
  refine go_iald dX7_names_22 rfl hi ?_
  refine go_iastK dX7_names_23 rfl (vp_in_nI (n := 1) (by decide) (by decide)) (k := 1) (by decide) ?_
  have h := h _ rfl
  refine go_aload_n dX7_names_24 rfl ?_
  refine go_getR dX7_names_25 fX7_78 rfl rfl (hR 310 37 331 rfl) ?_
  refine go_iconst (v := 2) dX7_names_28 (by decide) ?_
  refine go_aload_n dX7_names_29 rfl ?_
  refine go_getR dX7_names_30 fX7_7 rfl rfl (hR 310 0 311 rfl) ?_
  refine go_bipush (v := 10) dX7_names_33 (by decide) ?_
  refine go_iconst (v := 3) dX7_names_35 (by decide) ?_
  refine go_iload_n dX7_names_36 rfl ?_
  refine go_imul dX7_names_37 ?_
  refine go_iadd dX7_names_38 ?_
  refine go_iconst (v := 1) dX7_names_39 (by decide) ?_
  refine go_iadd dX7_names_40 ?_
  obtain ⟨hi, h⟩ := h
  refine go_iald dX7_names_41 rfl hi ?_
  refine go_iastK dX7_names_42 rfl (vp_in_nI (n := 2) (by decide) (by decide)) (k := 2) (by decide) ?_
  have h := h _ rfl
  refine go_aload_n dX7_names_43 rfl ?_
  refine go_getR dX7_names_44 fX7_78 rfl rfl (hR 310 37 331 rfl) ?_
  refine go_iconst (v := 3) dX7_names_47 (by decide) ?_
  refine go_aload_n dX7_names_48 rfl ?_
  refine go_getR dX7_names_49 fX7_88 rfl rfl (hR 310 40 334 rfl) ?_
  refine go_iload_n dX7_names_52 rfl ?_
  obtain ⟨hi, h⟩ := h
  refine go_iald dX7_names_53 rfl hi ?_
  refine go_iastK dX7_names_54 rfl (vp_in_nI (n := 3) (by decide) (by decide)) (k := 3) (by decide) ?_
  have h := h _ rfl
  exact go_vret dX7_names_55 rfl rfl h
theorem k_X7_names {G : gG} {I : gI} {R : gR} {L : gL} {Q : gQ} {e : Int32} (hR : g_Fx R) (p0 : vp_in e 9) (hq : Q none SH (nmI I e) R L) : Mt G mX7_names 1 0 0 [.ref 310, .int e] SH I R L Q := by
  refine e_X7_names hR ?_
  rintro _ rfl
  refine ⟨?_, ?_⟩
  · first | assumption | grind [vi9, vi12, vi11120]
  rintro _ rfl
  refine ⟨?_, ?_⟩
  · first | assumption | grind [vi9, vi12, vi11120]
  rintro _ rfl
  refine ⟨?_, ?_⟩
  · first | assumption | grind [vi9, vi12, vi11120]
  rintro _ rfl
  first | exact hq | (simp_all [nmI]; done) | (grind [nmI])
theorem e_X7_tilt {G : gG} {I : gI} {R : gR} {L : gL} {Q : gQ} (hR : g_Fx R) (h : Q (some (.int ((((I 333 0) + (I 333 1)) - (I 333 2)) - (I 333 3)))) SH I R L) : Mt G mX7_tilt 1 0 0 [.ref 310] SH I R L Q := by
  refine go_start rfl (Nat.le_of_ble_eq_true rfl) rfl ?_
  refine go_aload_n dX7_tilt_0 rfl ?_
  refine go_getR dX7_tilt_1 fX7_85 rfl rfl (hR 310 39 333 rfl) ?_
  refine go_iconst (v := 0) dX7_tilt_4 (by decide) ?_
  refine go_ialdK dX7_tilt_5 rfl (vp_in_nI (n := 0) (by decide) (by decide)) (k := 0) (by decide) ?_
  refine go_aload_n dX7_tilt_6 rfl ?_
  refine go_getR dX7_tilt_7 fX7_85 rfl rfl (hR 310 39 333 rfl) ?_
  refine go_iconst (v := 1) dX7_tilt_10 (by decide) ?_
  refine go_ialdK dX7_tilt_11 rfl (vp_in_nI (n := 1) (by decide) (by decide)) (k := 1) (by decide) ?_
  refine go_iadd dX7_tilt_12 ?_
  refine go_aload_n dX7_tilt_13 rfl ?_
  refine go_getR dX7_tilt_14 fX7_85 rfl rfl (hR 310 39 333 rfl) ?_
  refine go_iconst (v := 2) dX7_tilt_17 (by decide) ?_
  refine go_ialdK dX7_tilt_18 rfl (vp_in_nI (n := 2) (by decide) (by decide)) (k := 2) (by decide) ?_
  refine go_isub dX7_tilt_19 ?_
  refine go_aload_n dX7_tilt_20 rfl ?_
  refine go_getR dX7_tilt_21 fX7_85 rfl rfl (hR 310 39 333 rfl) ?_
  refine go_iconst (v := 3) dX7_tilt_24 (by decide) ?_
  refine go_ialdK dX7_tilt_25 rfl (vp_in_nI (n := 3) (by decide) (by decide)) (k := 3) (by decide) ?_
  refine go_isub dX7_tilt_26 ?_
  exact go_iret dX7_tilt_27 rfl rfl h
theorem k_X7_tilt {G : gG} {I : gI} {R : gR} {L : gL} {Q : gQ} (hR : g_Fx R) (hq : Q (some (.int (I 333 0 + I 333 1 - I 333 2 - I 333 3))) SH I R L) : Mt G mX7_tilt 1 0 0 [.ref 310] SH I R L Q := e_X7_tilt hR (by grind)
theorem e_X7_size {G : gG} {I : gI} {R : gR} {L : gL} {Q : gQ} {v : Int32} (hR : g_Fx R) (h : (0 ≤ v → Q (some (.int v)) SH I R L) ∧ (¬ 0 ≤ v → Q (some (.int (-v))) SH I R L)) : Mt G mX7_size 1 0 0 [.int v] SH I R L Q := by
  refine go_start rfl (Nat.le_of_ble_eq_true rfl) rfl ?_
  refine go_iload_n dX7_size_0 rfl ?_
  refine go_if_ge 9 dX7_size_1 (by decide) (fun c => ?_) (fun c => ?_)
  · have h := h.1 c
    refine go_iload_n dX7_size_9 rfl ?_
    exact go_iret dX7_size_10 rfl rfl h
  · have h := h.2 c
    refine go_iload_n dX7_size_4 rfl ?_
    refine go_ineg dX7_size_5 ?_
    refine go_goto 10 dX7_size_6 (by decide) ?_
    exact go_iret dX7_size_10 rfl rfl h
theorem k_X7_size {G : gG} {I : gI} {R : gR} {L : gL} {Q : gQ} {v : Int32} (hR : g_Fx R) (hq : Q (some (.int (if v < 0 then -v else v))) SH I R L) : Mt G mX7_size 1 0 0 [.int v] SH I R L Q := e_X7_size hR (by grind)
theorem e_X7_hangs {G : gG} {I : gI} {R : gR} {L : gL} {Q : gQ} {l p : Int32} (hR : g_Fx R) (h : ((l + p) ≤ 0 → (0 ≤ (l + p) → Q (some (.int 0)) SH I R L) ∧ (¬ 0 ≤ (l + p) → Q (some (.int (-1))) SH I R L)) ∧ (¬ (l + p) ≤ 0 → Q (some (.int 1)) SH I R L)) : Mt G mX7_hangs 1 0 0 [.int l, .int p] SH I R L Q := by
  refine go_start rfl (Nat.le_of_ble_eq_true rfl) rfl ?_
  refine go_iload_n dX7_hangs_0 rfl ?_
  refine go_iload_n dX7_hangs_1 rfl ?_
  refine go_iadd dX7_hangs_2 ?_
  refine go_if_le 10 dX7_hangs_3 (by decide) (fun c => ?_) (fun c => ?_)
  · have h := h.1 c
    refine go_iload_n dX7_hangs_10 rfl ?_
    refine go_iload_n dX7_hangs_11 rfl ?_
    refine go_iadd dX7_hangs_12 ?_
    refine go_if_ge 20 dX7_hangs_13 (by decide) (fun c => ?_) (fun c => ?_)
    · have h := h.1 c
      refine go_iconst (v := 0) dX7_hangs_20 (by decide) ?_
      exact go_iret dX7_hangs_21 rfl rfl h
    · have h := h.2 c
      refine go_iconst (v := -1) dX7_hangs_16 (by decide) ?_
      refine go_goto 21 dX7_hangs_17 (by decide) ?_
      exact go_iret dX7_hangs_21 rfl rfl h
  · have h := h.2 c
    refine go_iconst (v := 1) dX7_hangs_6 (by decide) ?_
    refine go_goto 21 dX7_hangs_7 (by decide) ?_
    exact go_iret dX7_hangs_21 rfl rfl h
theorem k_X7_hangs {G : gG} {I : gI} {R : gR} {L : gL} {Q : gQ} {l p : Int32} (hR : g_Fx R) (hq : Q (some (.int (if 0 < l + p then 1 else if l + p < 0 then -1 else 0))) SH I R L) : Mt G mX7_hangs 1 0 0 [.int l, .int p] SH I R L Q := e_X7_hangs hR (by grind)
theorem e_X7_draw {G : gG} {I : gI} {R : gR} {L : gL} {Q : gQ} {m : Int32} (hR : g_Fx R) (h : ¬ m = 0 ∧ (∀ v2_1 : Int32, v2_1 = ((I 311 464) - (I 311 464) / m * m) → ∀ I_2 : gI, I_2 = up I 311 464 ((((I 311 464) * 181) + 101) - (((I 311 464) * 181) + 101) / 30029 * 30029) → Q (some (.int v2_1)) SH I_2 R L)) : Mt G mX7_draw 1 0 0 [.ref 310, .int m] SH I R L Q := by
  refine go_start rfl (Nat.le_of_ble_eq_true rfl) rfl ?_
  refine go_aload_n dX7_draw_0 rfl ?_
  refine go_getR dX7_draw_1 fX7_7 rfl rfl (hR 310 0 311 rfl) ?_
  refine go_sipush (v := 464) dX7_draw_4 (by decide) ?_
  refine go_ialdK dX7_draw_7 rfl (vp_in_nI (n := 464) (by decide) (by decide)) (k := 464) (by decide) ?_
  refine go_iload_n dX7_draw_8 rfl ?_
  obtain ⟨hn, h⟩ := h
  refine go_irem dX7_draw_9 hn ?_
  refine go_istore_n dX7_draw_10 (Nat.le_of_ble_eq_true rfl) rfl ?_
  have h := h _ rfl
  refine go_aload_n dX7_draw_11 rfl ?_
  refine go_getR dX7_draw_12 fX7_7 rfl rfl (hR 310 0 311 rfl) ?_
  refine go_sipush (v := 464) dX7_draw_15 (by decide) ?_
  refine go_aload_n dX7_draw_18 rfl ?_
  refine go_getR dX7_draw_19 fX7_7 rfl rfl (hR 310 0 311 rfl) ?_
  refine go_sipush (v := 464) dX7_draw_22 (by decide) ?_
  refine go_ialdK dX7_draw_25 rfl (vp_in_nI (n := 464) (by decide) (by decide)) (k := 464) (by decide) ?_
  refine go_sipush (v := 181) dX7_draw_26 (by decide) ?_
  refine go_imul dX7_draw_29 ?_
  refine go_bipush (v := 101) dX7_draw_30 (by decide) ?_
  refine go_iadd dX7_draw_32 ?_
  refine go_sipush (v := 30029) dX7_draw_33 (by decide) ?_
  refine go_irem dX7_draw_36 (by decide) ?_
  refine go_iastK dX7_draw_37 rfl (vp_in_nI (n := 464) (by decide) (by decide)) (k := 464) (by decide) ?_
  have h := h _ rfl
  refine go_iload_n dX7_draw_38 rfl ?_
  exact go_iret dX7_draw_39 rfl rfl h
theorem k_X7_draw {G : gG} {I : gI} {R : gR} {L : gL} {Q : gQ} {m : Int32} (hR : g_Fx R) (p0 : ¬ m = 0) (hq : Q (some (.int (I 311 464 - I 311 464 / m * m))) SH (up I 311 464 (drw (I 311 464))) R L) : Mt G mX7_draw 1 0 0 [.ref 310, .int m] SH I R L Q := by
  refine e_X7_draw hR ?_
  refine ⟨?_, ?_⟩
  · first | assumption | grind [vi3, vi4, vi6, vi9, vi12, vi24, vi30, vi40, vi64, vi90, vi240, vi300, vi400] | (simp only [up_eq]; grind [vi3, vi4, vi6, vi9, vi12, vi24, vi30, vi40, vi64, vi90, vi240, vi300, vi400])
  rintro _ rfl
  rintro _ rfl
  first | exact hq | (simp_all [drw]; done) | (grind [drw])
