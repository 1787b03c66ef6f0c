theorem e_X6_putBytes {G : gG} {I : gI} {R : gR} {L : gL} {Q : gQ} {a : Int32} (hR : g_Fx R) (h : Go G mX6_putBytes 2 0 0 3 [some (.ref 0), some (.int a), some (.int 24)] [] SH I R L Q) : Mt G mX6_putBytes 2 0 0 [.ref 0, .int a] SH I R L Q := by
  refine go_start rfl (Nat.le_of_ble_eq_true rfl) rfl ?_
  refine go_bipush (v := 24) dX6_putBytes_0 (by decide) ?_
  refine go_istore_n dX6_putBytes_2 (Nat.le_of_ble_eq_true rfl) rfl ?_
  exact h
theorem b_X6_putBytes_3 {G : gG} {I : gI} {R : gR} {L : gL} {Q : gQ} {v1 v2 : Int32} (hR : g_Fx R) (h : (v2 < 0 → Q none SH I R L) ∧ (¬ v2 < 0 → (300 ≤ (I 0 6) → ∀ v2_1 : Int32, v2_1 = v2 + (-8) → Go G mX6_putBytes 2 0 0 3 [some (.ref 0), some (.int v1), some (.int v2_1)] [] SH I R L Q) ∧ (¬ 300 ≤ (I 0 6) → vp_in (I 0 6) 300 ∧ (∀ I_2 : gI, I_2 = up I 307 (I 0 6).toNatClampNeg (((v1.toUInt32 >>> (Int32.toUInt32 v2 &&& Int32.toUInt32 31)).toInt32) &&& 255) → ∀ I_3 : gI, I_3 = up I_2 0 6 ((I_2 0 6) + 1) → ∀ v2_4 : Int32, v2_4 = v2 + (-8) → Go G mX6_putBytes 2 0 0 3 [some (.ref 0), some (.int v1), some (.int v2_4)] [] SH I_3 R L Q)))) : Go G mX6_putBytes 2 0 0 3 [some (.ref 0), some (.int v1), some (.int v2)] [] SH I R L Q := by
  refine go_iload_n dX6_putBytes_3 rfl ?_
  refine go_if_lt 57 dX6_putBytes_4 (by decide) (fun c => ?_) (fun c => ?_)
  · have h := h.1 c
    exact go_vret dX6_putBytes_57 rfl rfl h
  · have h := h.2 c
    refine go_aload_n dX6_putBytes_7 rfl ?_
    refine go_getI dX6_putBytes_8 fX6_45 rfl rfl ?_
    refine go_aload_n dX6_putBytes_11 rfl ?_
    refine go_getR dX6_putBytes_12 fX6_37 rfl rfl (hR 0 4 306 rfl) ?_
    refine go_getR dX6_putBytes_15 fX6_270 rfl rfl (hR 306 0 307 rfl) ?_
    refine go_alen (v := 300) 0 dX6_putBytes_18 rfl (by decide) (by decide) ?_
    refine go_icmp_ge 51 dX6_putBytes_19 (by decide) (fun c => ?_) (fun c => ?_)
    · have h := h.1 c
      refine go_iinc dX6_putBytes_51 rfl (Nat.le_of_ble_eq_true rfl) rfl ?_
      have h := h _ rfl
      refine go_goto 3 dX6_putBytes_54 (by decide) ?_
      exact h
    · have h := h.2 c
      refine go_aload_n dX6_putBytes_22 rfl ?_
      refine go_getR dX6_putBytes_23 fX6_37 rfl rfl (hR 0 4 306 rfl) ?_
      refine go_getR dX6_putBytes_26 fX6_270 rfl rfl (hR 306 0 307 rfl) ?_
      refine go_aload_n dX6_putBytes_29 rfl ?_
      refine go_getI dX6_putBytes_30 fX6_45 rfl rfl ?_
      refine go_iload_n dX6_putBytes_33 rfl ?_
      refine go_iload_n dX6_putBytes_34 rfl ?_
      refine go_iushr dX6_putBytes_35 ?_
      refine go_sipush (v := 255) dX6_putBytes_36 (by decide) ?_
      refine go_iand dX6_putBytes_39 ?_
      obtain ⟨hi, h⟩ := h
      refine go_iast dX6_putBytes_40 rfl hi ?_
      have h := h _ rfl
      refine go_aload_n dX6_putBytes_41 rfl ?_
      refine go_dup dX6_putBytes_42 rfl ?_
      refine go_getI dX6_putBytes_43 fX6_45 rfl rfl ?_
      refine go_iconst (v := 1) dX6_putBytes_46 (by decide) ?_
      refine go_iadd dX6_putBytes_47 ?_
      refine go_putI dX6_putBytes_48 fX6_45 rfl rfl rfl rfl ?_
      have h := h _ rfl
      refine go_iinc dX6_putBytes_51 rfl (Nat.le_of_ble_eq_true rfl) rfl ?_
      have h := h _ rfl
      refine go_goto 3 dX6_putBytes_54 (by decide) ?_
      exact h
theorem e_X7_put {G : gG} {I : gI} {R : gR} {L : gL} {Q : gQ} {a : Int32} (hR : g_Fx R) (h : Go G mX7_put 2 0 0 3 [some (.ref 310), some (.int a), some (.int 24)] [] SH I R L Q) : Mt G mX7_put 2 0 0 [.ref 310, .int a] SH I R L Q := by
  refine go_start rfl (Nat.le_of_ble_eq_true rfl) rfl ?_
  refine go_bipush (v := 24) dX7_put_0 (by decide) ?_
  refine go_istore_n dX7_put_2 (Nat.le_of_ble_eq_true rfl) rfl ?_
  exact h
theorem b_X7_put_3 {G : gG} {I : gI} {R : gR} {L : gL} {Q : gQ} {v1 v2 : Int32} (hR : g_Fx R) (h : (v2 < 0 → Q none SH I R L) ∧ (¬ v2 < 0 → vp_in (I 310 3) 300 ∧ (∀ I_1 : gI, I_1 = up I 313 (I 310 3).toNatClampNeg (((v1 >>> (v2 &&& 31)).toInt8.toInt32).toInt8.toInt32) → ∀ I_2 : gI, I_2 = up I_1 310 3 ((I_1 310 3) + 1) → ∀ v2_3 : Int32, v2_3 = (v2 - 8) → Go G mX7_put 2 0 0 3 [some (.ref 310), some (.int v1), some (.int v2_3)] [] SH I_2 R L Q))) : Go G mX7_put 2 0 0 3 [some (.ref 310), some (.int v1), some (.int v2)] [] SH I R L Q := by
  refine go_iload_n dX7_put_3 rfl ?_
  refine go_if_lt 38 dX7_put_4 (by decide) (fun c => ?_) (fun c => ?_)
  · have h := h.1 c
    exact go_vret dX7_put_38 rfl rfl h
  · have h := h.2 c
    refine go_aload_n dX7_put_7 rfl ?_
    refine go_getR dX7_put_8 fX7_16 rfl rfl (hR 310 2 313 rfl) ?_
    refine go_aload_n dX7_put_11 rfl ?_
    refine go_getI dX7_put_12 fX7_118 rfl rfl ?_
    refine go_iload_n dX7_put_15 rfl ?_
    refine go_iload_n dX7_put_16 rfl ?_
    refine go_ishr dX7_put_17 ?_
    refine go_i2b dX7_put_18 ?_
    obtain ⟨hi, h⟩ := h
    refine go_bast dX7_put_19 rfl hi ?_
    have h := h _ rfl
    refine go_aload_n dX7_put_20 rfl ?_
    refine go_dup dX7_put_21 rfl ?_
    refine go_getI dX7_put_22 fX7_118 rfl rfl ?_
    refine go_iconst (v := 1) dX7_put_25 (by decide) ?_
    refine go_iadd dX7_put_26 ?_
    refine go_putI dX7_put_27 fX7_118 rfl rfl rfl rfl ?_
    have h := h _ rfl
    refine go_iload_n dX7_put_30 rfl ?_
    refine go_bipush (v := 8) dX7_put_31 (by decide) ?_
    refine go_isub dX7_put_33 ?_
    refine go_istore_n dX7_put_34 (Nat.le_of_ble_eq_true rfl) rfl ?_
    have h := h _ rfl
    refine go_goto 3 dX7_put_35 (by decide) ?_
    exact h
/-! bytes onto the tape -/
def byC (a s : Int32) : Int32 := (a.toUInt32 >>> (Int32.toUInt32 s &&& Int32.toUInt32 31)).toInt32 &&& 255
def byM (a s : Int32) : Int32 := ((a >>> (s &&& 31)).toInt8.toInt32).toInt8.toInt32
def pbF (g : Nat → Int32) (n : Nat) (a : Int32) : Nat → Int32 := fun j => if j = n + 3 then byC a 0 else if j = n + 2 then byC a 8 else if j = n + 1 then byC a 16 else if j = n then byC a 24 else g j
def ptF (g : Nat → Int32) (n : Nat) (a : Int32) : Nat → Int32 := fun j => if j = n + 3 then byM a 0 else if j = n + 2 then byM a 8 else if j = n + 1 then byM a 16 else if j = n then byM a 24 else g j
def pbI (I : gI) (a : Int32) : gI := sa (up I 0 6 (nI ((I 0 6).toNatClampNeg + 4))) 307 (pbF (I 307) (I 0 6).toNatClampNeg a)
def ptI (I : gI) (a : Int32) : gI := sa (up I 310 3 (nI ((I 310 3).toNatClampNeg + 4))) 313 (ptF (I 313) (I 310 3).toNatClampNeg a)
theorem up4 {I : gI} {c d j n : Nat} (hcd : c ≠ d) (x y z w : Int32) :
    up (up (up (up (up (up (up (up I c n x) d j (nI (n + 1))) c (n + 1) y) d j (nI (n + 2))) c (n + 2) z) d j (nI (n + 3))) c (n + 3) w) d j (nI (n + 4)) = sa (up I d j (nI (n + 4))) c (fun k => if k = n + 3 then w else if k = n + 2 then z else if k = n + 1 then y else if k = n then x else I c k) := by
  funext a k
  unfold up sa
  by_cases ha : a = c
  · subst ha
    simp [hcd]
  · by_cases hd : a = d
    · subst hd
      by_cases hk : k = j <;> simp [ha, hk]
    · simp [ha, hd]
theorem k_X6_putBytes {G : gG} {I : gI} {R : gR} {L : gL} {Q : gQ} {a : Int32} (hR : g_Fx R) (p0 : 0 ≤ (I 0 6).toInt ∧ (I 0 6).toInt ≤ 296) (hq : Q none SH (pbI I a) R L) : Mt G mX6_putBytes 2 0 0 [.ref 0, .int a] SH I R L Q := by
  have c6 := ci p0.1
  have e6 : I 0 6 = nI (I 0 6).toNatClampNeg := nI_of_toInt p0.1
  unfold pbI pbF at hq
  generalize hN : (I 0 6).toNatClampNeg = n at *
  have step : ∀ (J : gI) (m : Nat) (s : Int32), J 0 6 = nI m → m < 300 → ¬ s < 0 → Go G mX6_putBytes 2 0 0 3 [some (.ref 0), some (.int a), some (.int (s + (-8)))] [] SH (up (up J 307 m (byC a s)) 0 6 (nI (m + 1))) R L Q → Go G mX6_putBytes 2 0 0 3 [some (.ref 0), some (.int a), some (.int s)] [] SH J R L Q := by
    intro J m s e hm hs k
    refine b_X6_putBytes_3 hR ⟨fun c => absurd c hs, fun _ => ?_⟩
    rw [e, nI_clamp (by omega)]
    refine ⟨fun c => absurd c (nI_ge (b := 300) hm (by decide)), fun _ => ⟨vp_in_nI hm (by decide), ?_⟩⟩
    rintro _ rfl _ rfl _ rfl
    rw [up_nc (by decide), e, nI_1]
    exact k
  refine e_X6_putBytes hR (step I n 24 e6 (by omega) (by decide) ?_)
  refine step _ (n + 1) 16 (up_eq _ _ _ _) (by omega) (by decide) ?_
  refine step _ (n + 2) 8 (up_eq _ _ _ _) (by omega) (by decide) ?_
  refine step _ (n + 3) 0 (up_eq _ _ _ _) (by omega) (by decide) ?_
  refine b_X6_putBytes_3 hR ⟨fun _ => ?_, fun c => absurd (by decide) c⟩
  rw [up4 (by decide)]
  exact hq
theorem k_X7_put {G : gG} {I : gI} {R : gR} {L : gL} {Q : gQ} {a : Int32} (hR : g_Fx R) (p0 : 0 ≤ (I 310 3).toInt ∧ (I 310 3).toInt ≤ 296) (hq : Q none SH (ptI I a) R L) : Mt G mX7_put 2 0 0 [.ref 310, .int a] SH I R L Q := by
  have c6 := ci p0.1
  have e6 : I 310 3 = nI (I 310 3).toNatClampNeg := nI_of_toInt p0.1
  unfold ptI ptF at hq
  generalize hN : (I 310 3).toNatClampNeg = n at *
  have step : ∀ (J : gI) (m : Nat) (s : Int32), J 310 3 = nI m → m < 300 → ¬ s < 0 → Go G mX7_put 2 0 0 3 [some (.ref 310), some (.int a), some (.int (s - 8))] [] SH (up (up J 313 m (byM a s)) 310 3 (nI (m + 1))) R L Q → Go G mX7_put 2 0 0 3 [some (.ref 310), some (.int a), some (.int s)] [] SH J R L Q := by
    intro J m s e hm hs k
    refine b_X7_put_3 hR ⟨fun c => absurd c hs, fun _ => ?_⟩
    rw [e, nI_clamp (by omega)]
    refine ⟨vp_in_nI hm (by decide), ?_⟩
    rintro _ rfl _ rfl _ rfl
    rw [up_nc (by decide), e, nI_1]
    exact k
  refine e_X7_put hR (step I n 24 e6 (by omega) (by decide) ?_)
  refine step _ (n + 1) 16 (up_eq _ _ _ _) (by omega) (by decide) ?_
  refine step _ (n + 2) 8 (up_eq _ _ _ _) (by omega) (by decide) ?_
  refine step _ (n + 3) 0 (up_eq _ _ _ _) (by omega) (by decide) ?_
  refine b_X7_put_3 hR ⟨fun _ => ?_, fun c => absurd (by decide) c⟩
  rw [up4 (by decide)]
  exact hq
/-! a byte, with and without its sign -/
theorem nI_self (x : Int32) : nI x.toBitVec.toNat = x := by
  apply Int32.toBitVec_inj.1
  show BitVec.ofNat 32 x.toBitVec.toNat = x.toBitVec
  simp
theorem and255 (x : Int32) : 0 ≤ (x &&& 255).toInt ∧ (x &&& 255).toInt ≤ 255 := by
  have e : x &&& 255 = nI (x.toBitVec.toNat &&& 255) := by
    have := nx_and x.toBitVec.toNat 255
    rw [nI_self] at this
    exact this
  have h : x.toBitVec.toNat &&& 255 ≤ 255 := Nat.and_le_right
  rw [e, nI_toInt (by omega)]
  omega
theorem s_u : ∀ n, n < 32 → (((nI n).toUInt32 &&& Int32.toUInt32 31).toBitVec % 32).toNat = n := by decide +kernel
theorem by_8 {a s : Int32} {n : Nat} (hs : s = nI n) (hn : n ≤ 24) : byM a s = (byC a s).toInt8.toInt32 := by
  subst hs
  unfold byM byC
  rw [Int8.toInt8_toInt32]
  congr 1
  apply Int8.toBitVec_inj.1
  rw [Int32.toBitVec_toInt8, Int32.toBitVec_toInt8]
  apply BitVec.eq_of_getLsbD_eq
  intro i hi
  rw [BitVec.getLsbD_signExtend, BitVec.getLsbD_signExtend, Int32.toBitVec_and, BitVec.getLsbD_and]
  have h1 : (a >>> (nI n &&& 31)).toBitVec.getLsbD i = a.toBitVec.getLsbD (n + i) := by
    rw [Int32.toBitVec_shiftRight]
    show (a.toBitVec.sshiftRight ((nI n &&& 31).toBitVec.smod 32).toNat).getLsbD i = _
    rw [s_l n (by omega), BitVec.getLsbD_sshiftRight]
    simp [show n + i < 32 by omega, show ¬ 32 ≤ i by omega]
  have h2 : ((a.toUInt32 >>> ((nI n).toUInt32 &&& Int32.toUInt32 31)).toInt32).toBitVec.getLsbD i = a.toBitVec.getLsbD (n + i) := by
    show (a.toUInt32 >>> ((nI n).toUInt32 &&& Int32.toUInt32 31)).toBitVec.getLsbD i = a.toUInt32.toBitVec.getLsbD (n + i)
    rw [UInt32.toBitVec_shiftRight]
    show (a.toUInt32.toBitVec >>> (((nI n).toUInt32 &&& Int32.toUInt32 31).toBitVec % 32).toNat).getLsbD i = _
    rw [s_u n (by omega), BitVec.getLsbD_ushiftRight]
  have h3 : (255 : Int32).toBitVec.getLsbD i = true := (by decide +kernel : ∀ i, i < 8 → (255 : Int32).toBitVec.getLsbD i = true) i hi
  rw [h1, h2, h3]
  simp [hi, show i < 32 by omega]
/-- the tape of the one and of the other -/
def tpB (g h : Nat → Int32) (n : Nat) : Prop := ∀ j, j < n → (0 ≤ (g j).toInt ∧ (g j).toInt ≤ 255) ∧ h j = (g j).toInt8.toInt32
theorem tpB_s {g h : Nat → Int32} {n : Nat} (t : tpB g h n) (a : Int32) : tpB (pbF g n a) (ptF h n a) (n + 4) := by
  intro j hj
  unfold pbF ptF
  by_cases c3 : j = n + 3
  · rw [if_pos c3, if_pos c3]; exact ⟨and255 _, by_8 (n := 0) rfl (by decide)⟩
  rw [if_neg c3, if_neg c3]
  by_cases c2 : j = n + 2
  · rw [if_pos c2, if_pos c2]; exact ⟨and255 _, by_8 (n := 8) rfl (by decide)⟩
  rw [if_neg c2, if_neg c2]
  by_cases c1 : j = n + 1
  · rw [if_pos c1, if_pos c1]; exact ⟨and255 _, by_8 (n := 16) rfl (by decide)⟩
  rw [if_neg c1, if_neg c1]
  by_cases c0 : j = n
  · rw [if_pos c0, if_pos c0]; exact ⟨and255 _, by_8 (n := 24) rfl (by decide)⟩
  rw [if_neg c0, if_neg c0]
  exact t j (by omega)
theorem pbI_at {I : gI} {n : Nat} (e : I 0 6 = nI n) (hn : n ≤ 296) (a : Int32) : pbI I a 0 6 = nI (n + 4) ∧ pbI I a 307 = pbF (I 307) n a ∧ (∀ j, j ≠ 6 → pbI I a 0 j = I 0 j) ∧ ∀ c, c ≠ 0 → c ≠ 307 → pbI I a c = I c := by
  unfold pbI
  rw [e, nI_clamp (by omega)]
  exact ⟨by rw [sa_off (by decide), up_eq], sa_eq _ _ _, fun j hj => by rw [sa_off (by decide), up_ni hj], fun c h1 h2 => by rw [sa_off h2, up_off _ h1]⟩
theorem ptI_at {I : gI} {n : Nat} (e : I 310 3 = nI n) (hn : n ≤ 296) (a : Int32) : ptI I a 310 3 = nI (n + 4) ∧ ptI I a 313 = ptF (I 313) n a ∧ (∀ j, j ≠ 3 → ptI I a 310 j = I 310 j) ∧ ∀ c, c ≠ 310 → c ≠ 313 → ptI I a c = I c := by
  unfold ptI
  rw [e, nI_clamp (by omega)]
  exact ⟨by rw [sa_off (by decide), up_eq], sa_eq _ _ _, fun j hj => by rw [sa_off (by decide), up_ni hj], fun c h1 h2 => by rw [sa_off h2, up_off _ h1]⟩
theorem e_X6_feed {G : gG} {I : gI} {R : gR} {L : gL} {Q : gQ} {a b c d e : Int32} (hR : g_Fx R) (h : ((I 0 6) ≤ 280 → (0 ≤ (I 0 6).toInt ∧ (I 0 6).toInt ≤ 296) ∧ (∀ I_2 : gI, I_2 = pbI I a → (0 ≤ (I_2 0 6).toInt ∧ (I_2 0 6).toInt ≤ 296) ∧ (∀ I_4 : gI, I_4 = pbI I_2 b → (0 ≤ (I_4 0 6).toInt ∧ (I_4 0 6).toInt ≤ 296) ∧ (∀ I_6 : gI, I_6 = pbI I_4 c → (0 ≤ (I_6 0 6).toInt ∧ (I_6 0 6).toInt ≤ 296) ∧ (∀ I_8 : gI, I_8 = pbI I_6 d → (0 ≤ (I_8 0 6).toInt ∧ (I_8 0 6).toInt ≤ 296) ∧ (∀ I_10 : gI, I_10 = pbI I_8 e → Q (some (.int (I_10 0 6))) SH I_10 R L)))))) ∧ (¬ (I 0 6) ≤ 280 → Q (some (.int (-1))) SH I R L)) : Mt G mX6_feed 30 0 0 [.ref 0, .int a, .int b, .int c, .int d, .int e] SH I R L Q := by
  refine go_start rfl (Nat.le_of_ble_eq_true rfl) rfl ?_
  refine go_aload_n dX6_feed_0 rfl ?_
  refine go_getI dX6_feed_1 fX6_45 rfl rfl ?_
  refine go_sipush (v := 280) dX6_feed_4 (by decide) ?_
  refine go_icmp_le 12 dX6_feed_7 (by decide) (fun c => ?_) (fun c => ?_)
  · have h := h.1 c
    refine go_aload_n dX6_feed_12 rfl ?_
    refine go_iload_n dX6_feed_13 rfl ?_
    obtain ⟨hp_1, h⟩ := h
    refine go_callV0 (μ := mX6_feed) [.int _] dX6_feed_14 YX6_putBytes lX6_130 rfl ⟨_, rfl, rfl⟩ rfl (Nat.le_of_ble_eq_true rfl) (Nat.le_of_ble_eq_true rfl) rfl (k_X6_putBytes hR hp_1 ?_)
    have h := h _ rfl
    refine go_aload_n dX6_feed_17 rfl ?_
    refine go_iload_n dX6_feed_18 rfl ?_
    obtain ⟨hp_3, h⟩ := h
    refine go_callV0 (μ := mX6_feed) [.int _] dX6_feed_19 YX6_putBytes lX6_130 rfl ⟨_, rfl, rfl⟩ rfl (Nat.le_of_ble_eq_true rfl) (Nat.le_of_ble_eq_true rfl) rfl (k_X6_putBytes hR hp_3 ?_)
    have h := h _ rfl
    refine go_aload_n dX6_feed_22 rfl ?_
    refine go_iload_n dX6_feed_23 rfl ?_
    obtain ⟨hp_5, h⟩ := h
    refine go_callV0 (μ := mX6_feed) [.int _] dX6_feed_24 YX6_putBytes lX6_130 rfl ⟨_, rfl, rfl⟩ rfl (Nat.le_of_ble_eq_true rfl) (Nat.le_of_ble_eq_true rfl) rfl (k_X6_putBytes hR hp_5 ?_)
    have h := h _ rfl
    refine go_aload_n dX6_feed_27 rfl ?_
    refine go_iload dX6_feed_28 rfl ?_
    obtain ⟨hp_7, h⟩ := h
    refine go_callV0 (μ := mX6_feed) [.int _] dX6_feed_30 YX6_putBytes lX6_130 rfl ⟨_, rfl, rfl⟩ rfl (Nat.le_of_ble_eq_true rfl) (Nat.le_of_ble_eq_true rfl) rfl (k_X6_putBytes hR hp_7 ?_)
    have h := h _ rfl
    refine go_aload_n dX6_feed_33 rfl ?_
    refine go_iload dX6_feed_34 rfl ?_
    obtain ⟨hp_9, h⟩ := h
    refine go_callV0 (μ := mX6_feed) [.int _] dX6_feed_36 YX6_putBytes lX6_130 rfl ⟨_, rfl, rfl⟩ rfl (Nat.le_of_ble_eq_true rfl) (Nat.le_of_ble_eq_true rfl) rfl (k_X6_putBytes hR hp_9 ?_)
    have h := h _ rfl
    refine go_aload_n dX6_feed_39 rfl ?_
    refine go_getI dX6_feed_40 fX6_45 rfl rfl ?_
    exact go_iret dX6_feed_43 rfl rfl h
  · have h := h.2 c
    refine go_iconst (v := -1) dX6_feed_10 (by decide) ?_
    exact go_iret dX6_feed_11 rfl rfl h
theorem e_X7_feed {G : gG} {I : gI} {R : gR} {L : gL} {Q : gQ} {a b c d e : Int32} (hR : g_Fx R) (h : (((I 310 3) + 20) ≤ 300 → (0 ≤ (I 310 3).toInt ∧ (I 310 3).toInt ≤ 296) ∧ (∀ I_2 : gI, I_2 = ptI I a → (0 ≤ (I_2 310 3).toInt ∧ (I_2 310 3).toInt ≤ 296) ∧ (∀ I_4 : gI, I_4 = ptI I_2 b → (0 ≤ (I_4 310 3).toInt ∧ (I_4 310 3).toInt ≤ 296) ∧ (∀ I_6 : gI, I_6 = ptI I_4 c → (0 ≤ (I_6 310 3).toInt ∧ (I_6 310 3).toInt ≤ 296) ∧ (∀ I_8 : gI, I_8 = ptI I_6 d → (0 ≤ (I_8 310 3).toInt ∧ (I_8 310 3).toInt ≤ 296) ∧ (∀ I_10 : gI, I_10 = ptI I_8 e → Q (some (.int (I_10 310 3))) SH I_10 R L)))))) ∧ (¬ ((I 310 3) + 20) ≤ 300 → Q (some (.int (-1))) SH I R L)) : Mt G mX7_feed 30 0 0 [.ref 310, .int a, .int b, .int c, .int d, .int e] SH I R L Q := by
  refine go_start rfl (Nat.le_of_ble_eq_true rfl) rfl ?_
  refine go_aload_n dX7_feed_0 rfl ?_
  refine go_getI dX7_feed_1 fX7_118 rfl rfl ?_
  refine go_bipush (v := 20) dX7_feed_4 (by decide) ?_
  refine go_iadd dX7_feed_6 ?_
  refine go_sipush (v := 300) dX7_feed_7 (by decide) ?_
  refine go_icmp_le 15 dX7_feed_10 (by decide) (fun c => ?_) (fun c => ?_)
  · have h := h.1 c
    refine go_aload_n dX7_feed_15 rfl ?_
    refine go_iload_n dX7_feed_16 rfl ?_
    obtain ⟨hp_1, h⟩ := h
    refine go_callV0 (μ := mX7_feed) [.int _] dX7_feed_17 YX7_put lX7_121 rfl ⟨_, rfl, rfl⟩ rfl (Nat.le_of_ble_eq_true rfl) (Nat.le_of_ble_eq_true rfl) rfl (k_X7_put hR hp_1 ?_)
    have h := h _ rfl
    refine go_aload_n dX7_feed_20 rfl ?_
    refine go_iload_n dX7_feed_21 rfl ?_
    obtain ⟨hp_3, h⟩ := h
    refine go_callV0 (μ := mX7_feed) [.int _] dX7_feed_22 YX7_put lX7_121 rfl ⟨_, rfl, rfl⟩ rfl (Nat.le_of_ble_eq_true rfl) (Nat.le_of_ble_eq_true rfl) rfl (k_X7_put hR hp_3 ?_)
    have h := h _ rfl
    refine go_aload_n dX7_feed_25 rfl ?_
    refine go_iload_n dX7_feed_26 rfl ?_
    obtain ⟨hp_5, h⟩ := h
    refine go_callV0 (μ := mX7_feed) [.int _] dX7_feed_27 YX7_put lX7_121 rfl ⟨_, rfl, rfl⟩ rfl (Nat.le_of_ble_eq_true rfl) (Nat.le_of_ble_eq_true rfl) rfl (k_X7_put hR hp_5 ?_)
    have h := h _ rfl
    refine go_aload_n dX7_feed_30 rfl ?_
    refine go_iload dX7_feed_31 rfl ?_
    obtain ⟨hp_7, h⟩ := h
    refine go_callV0 (μ := mX7_feed) [.int _] dX7_feed_33 YX7_put lX7_121 rfl ⟨_, rfl, rfl⟩ rfl (Nat.le_of_ble_eq_true rfl) (Nat.le_of_ble_eq_true rfl) rfl (k_X7_put hR hp_7 ?_)
    have h := h _ rfl
    refine go_aload_n dX7_feed_36 rfl ?_
    refine go_iload dX7_feed_37 rfl ?_
    obtain ⟨hp_9, h⟩ := h
    refine go_callV0 (μ := mX7_feed) [.int _] dX7_feed_39 YX7_put lX7_121 rfl ⟨_, rfl, rfl⟩ rfl (Nat.le_of_ble_eq_true rfl) (Nat.le_of_ble_eq_true rfl) rfl (k_X7_put hR hp_9 ?_)
    have h := h _ rfl
    refine go_aload_n dX7_feed_42 rfl ?_
    refine go_getI dX7_feed_43 fX7_118 rfl rfl ?_
    exact go_iret dX7_feed_46 rfl rfl h
  · have h := h.2 c
    refine go_iconst (v := -1) dX7_feed_13 (by decide) ?_
    exact go_iret dX7_feed_14 rfl rfl h
/-- the tape alone has changed -/
theorem Rel_tape {I I' : gI} {R : gR} {n : Nat} (h : Rel I R) (hn : n ≤ 300) (hx : ∀ c, c ≠ 0 → c ≠ 307 → c ≠ 310 → c ≠ 313 → I' c = I c) (h0 : ∀ j, j ≠ 6 → I' 0 j = I 0 j) (h1 : ∀ j, j ≠ 3 → I' 310 j = I 310 j) (e6 : I' 0 6 = nI n) (e3 : I' 310 3 = nI n) (t : tpB (I' 307) (I' 313) n) : Rel I' R := by
  obtain ⟨⟨k1, ⟨π, g2, g3⟩, k4, k5, k6, k7, k8, k9⟩, hs⟩ := id h
  have o1 := k5.1.2.1
  have e1 := ci o1.1
  refine ⟨⟨k1, ⟨π, g2, ?_⟩, ?_, ?_, ?_, ?_, fun t ht => ?_, ?_⟩, ?_⟩
  · rw [hx 311 (by decide) (by decide) (by decide) (by decide)]
    exact CR_congr (fun x x1 x2 => hx _ (by omega) (by omega) (by omega) (by omega)) (fun i hi => by have := (g2.1 i hi).1; omega) k5 g3
  · rw [hx 312 (by decide) (by decide) (by decide) (by decide)]
    exact CR_congr (fun x x1 x2 => hx _ (by omega) (by omega) (by omega) (by omega)) (fun i hi => by omega) k6 k4
  · rw [hx 311 (by decide) (by decide) (by decide) (by decide)]; exact k5
  · rw [hx 312 (by decide) (by decide) (by decide) (by decide)]; exact k6
  · rw [hx 311 (by decide) (by decide) (by decide) (by decide), hx 312 (by decide) (by decide) (by decide) (by decide)]; exact k7
  · rw [hx 311 (by decide) (by decide) (by decide) (by decide)] at ht
    exact lwR_congr (by omega) (fun x x1 x2 => hx _ (by omega) (by omega) (by omega) (by omega)) (fun x x1 x2 => hx _ (by omega) (by omega) (by omega) (by omega)) (k8 t ht)
  · unfold tpR
    rw [h0 7 (by decide), h0 8 (by decide), h1 4 (by decide), h1 5 (by decide), e6, e3, nI_toInt (by omega), nI_clamp (by omega)]
    exact ⟨rfl, ⟨by omega, by omega⟩, t, k9.2.2.2.1, k9.2.2.2.2⟩
  · exact sgt_keep hs (h0 9 (by decide)) (by rw [hx 1 (by decide) (by decide) (by decide) (by decide)]) (by rw [hx 1 (by decide) (by decide) (by decide) (by decide)]) (hx 173 (by decide) (by decide) (by decide) (by decide)) (thC_of (fun a ha => hx a (by omega) (by omega) (by omega) (by omega))) (hx 5 (by decide) (by decide) (by decide) (by decide)) (hx 6 (by decide) (by decide) (by decide) (by decide)) (hx 7 (by decide) (by decide) (by decide) (by decide)) (by rw [hx 4 (by decide) (by decide) (by decide) (by decide)]) (by rw [hx 4 (by decide) (by decide) (by decide) (by decide)]) (by rw [hx 3 (by decide) (by decide) (by decide) (by decide)])
theorem p_feed {G : gG} {I : gI} {R : gR} {L : gL} {Q : gQ} {a b c d e : Int32} (h : Rel I R) (hq : ∀ v I1 R1 L1, prom G mX7_feed [.ref 310, .int a, .int b, .int c, .int d, .int e] (some (.int v)) I1 R1 L1 → Q (some (.int v)) SH I1 R1 L1) : Mt G mX6_feed 30 0 0 [.ref 0, .int a, .int b, .int c, .int d, .int e] SH I R L Q := by
  have hF := h.1.1
  obtain ⟨t1, t2, t3, t4, t5⟩ := h.1.2.2.2.2.2.2.2
  have cn := ci t2.1
  have e3 : I 310 3 = nI (I 310 3).toNatClampNeg := nI_of_toInt t2.1
  have t2' := t2.2
  generalize hN : (I 310 3).toNatClampNeg = n at *
  have e6 : I 0 6 = nI n := t1.trans e3
  have z280 : (280 : Int32).toInt = 280 := rfl
  have e20 : nI n + 20 = nI (n + 20) := nI_add n 20
  refine e_X6_feed hF ⟨fun d1 => ?_, fun d1 => hq _ _ _ _ (fun Q2 h2 => e_X7_feed hF ⟨fun d2 => absurd ?_ d1, fun _ => h2 _ _ _ h⟩)⟩
  · rw [e6, show (280 : Int32) = nI 280 from rfl, nI_leI (by omega) (by decide)] at d1
    have r : ∀ m, m ≤ 296 → 0 ≤ (nI m).toInt ∧ (nI m).toInt ≤ 296 := fun m hm => by rw [nI_toInt (by omega)]; omega
    obtain ⟨p1, p2, p3, p4⟩ := pbI_at e6 (by omega) a
    obtain ⟨q1, q2, q3, q4⟩ := pbI_at p1 (by omega) b
    obtain ⟨r1, r2, r3, r4⟩ := pbI_at q1 (by omega) c
    obtain ⟨s1, s2, s3, s4⟩ := pbI_at r1 (by omega) d
    obtain ⟨u1, u2, u3, u4⟩ := pbI_at s1 (by omega) e
    refine ⟨by rw [e6]; exact r _ (by omega), ?_⟩
    rintro _ rfl
    refine ⟨by rw [p1]; exact r _ (by omega), ?_⟩
    rintro _ rfl
    refine ⟨by rw [q1]; exact r _ (by omega), ?_⟩
    rintro _ rfl
    refine ⟨by rw [r1]; exact r _ (by omega), ?_⟩
    rintro _ rfl
    refine ⟨by rw [s1]; exact r _ (by omega), ?_⟩
    rintro _ rfl
    generalize hJ : pbI (pbI (pbI (pbI (pbI I a) b) c) d) e = J at *
    have jx : ∀ c, c ≠ 0 → c ≠ 307 → J c = I c := fun c h1 h2 => by rw [u4 c h1 h2, s4 c h1 h2, r4 c h1 h2, q4 c h1 h2, p4 c h1 h2]
    have j0 : ∀ j, j ≠ 6 → J 0 j = I 0 j := fun j hj => by rw [u3 j hj, s3 j hj, r3 j hj, q3 j hj, p3 j hj]
    have jt : J 307 = pbF (pbF (pbF (pbF (pbF (I 307) n a) (n + 4) b) (n + 4 + 4) c) (n + 4 + 4 + 4) d) (n + 4 + 4 + 4 + 4) e := by rw [u2, s2, r2, q2, p2]
    have f3 : J 310 3 = nI n := by rw [jx 310 (by decide) (by decide)]; exact e3
    have f313 : J 313 = I 313 := jx 313 (by decide) (by decide)
    refine hq _ _ _ _ (fun Q2 h2 => e_X7_feed hF ⟨fun _ => ?_, fun d2 => absurd ?_ d2⟩)
    · obtain ⟨p1', p2', p3', p4'⟩ := ptI_at f3 (by omega) a
      obtain ⟨q1', q2', q3', q4'⟩ := ptI_at p1' (by omega) b
      obtain ⟨r1', r2', r3', r4'⟩ := ptI_at q1' (by omega) c
      obtain ⟨s1', s2', s3', s4'⟩ := ptI_at r1' (by omega) d
      obtain ⟨u1', u2', u3', u4'⟩ := ptI_at s1' (by omega) e
      refine ⟨by rw [f3]; exact r _ (by omega), ?_⟩
      rintro _ rfl
      refine ⟨by rw [p1']; exact r _ (by omega), ?_⟩
      rintro _ rfl
      refine ⟨by rw [q1']; exact r _ (by omega), ?_⟩
      rintro _ rfl
      refine ⟨by rw [r1']; exact r _ (by omega), ?_⟩
      rintro _ rfl
      refine ⟨by rw [s1']; exact r _ (by omega), ?_⟩
      rintro _ rfl
      generalize hK : ptI (ptI (ptI (ptI (ptI J a) b) c) d) e = K at *
      have kx : ∀ c, c ≠ 310 → c ≠ 313 → K c = J c := fun c h1 h2 => by rw [u4' c h1 h2, s4' c h1 h2, r4' c h1 h2, q4' c h1 h2, p4' c h1 h2]
      have k0 : ∀ j, j ≠ 3 → K 310 j = J 310 j := fun j hj => by rw [u3' j hj, s3' j hj, r3' j hj, q3' j hj, p3' j hj]
      have kt : K 313 = ptF (ptF (ptF (ptF (ptF (I 313) n a) (n + 4) b) (n + 4 + 4) c) (n + 4 + 4 + 4) d) (n + 4 + 4 + 4 + 4) e := by rw [u2', s2', r2', q2', p2', f313]
      rw [u1', ← u1]
      refine h2 _ _ _ (Rel_tape (n := n + 4 + 4 + 4 + 4 + 4) h (by omega) (fun c c1 c2 c3 c4 => by rw [kx c c3 c4, jx c c1 c2]) (fun j hj => by rw [kx 0 (by decide) (by decide), j0 j hj]) (fun j hj => by rw [k0 j hj, jx 310 (by decide) (by decide)]) (by rw [kx 0 (by decide) (by decide)]; exact u1) u1' ?_)
      rw [kx 307 (by decide) (by decide), jt, kt]
      exact tpB_s (tpB_s (tpB_s (tpB_s (tpB_s t3 a) b) c) d) e
    · rw [f3, e20, show (300 : Int32) = nI 300 from rfl, nI_leI (by omega) (by decide)]; omega
  · rw [e3, e20, show (300 : Int32) = nI 300 from rfl, nI_leI (by omega) (by decide)] at d2
    rw [e6, show (280 : Int32) = nI 280 from rfl, nI_leI (by omega) (by decide)]; omega
