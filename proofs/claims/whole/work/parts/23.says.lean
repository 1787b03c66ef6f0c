theorem e_X7_saysOf {G : gG} {I : gI} {R : gR} {L : gL} {Q : gQ} {f : Int32} (hR : g_Fx R) (h : Go G mX7_saysOf 3 0 0 4 [some (.ref 310), none, some (.int 0), some (.int f), none] [] SH I R L Q) : Mt G mX7_saysOf 3 0 0 [.ref 310, .int f] SH I R L Q := by
  refine go_start rfl (Nat.le_of_ble_eq_true rfl) rfl ?_
  refine go_iconst (v := 0) dX7_saysOf_0 (by decide) ?_
  refine go_istore_n dX7_saysOf_1 (Nat.le_of_ble_eq_true rfl) rfl ?_
  refine go_iload_n dX7_saysOf_2 rfl ?_
  refine go_istore_n dX7_saysOf_3 (Nat.le_of_ble_eq_true rfl) rfl ?_
  refine go_drop 1 ?_
  exact h
theorem b_X7_saysOf_4 {G : gG} {I : gI} {R : gR} {L : gL} {Q : gQ} {v2 v3 : Int32} (hR : g_Fx R) (h : vp_in v3 1600 ∧ (((I 319 v3.toNatClampNeg) = 408 → Q (some (.long (L 332 0))) SH I R L) ∧ (¬ (I 319 v3.toNatClampNeg) = 408 → vp_in v3 1600 ∧ (∀ v4_1 : Int32, v4_1 = (I 319 v3.toNatClampNeg) → (v4_1 = 400 → Go G mX7_saysOf 3 0 0 40 [some (.ref 310), none, some (.int v2), some (.int v3), some (.int v4_1)] [] SH I R L Q) ∧ (¬ v4_1 = 400 → (¬ v4_1 = 401 → (¬ v4_1 = 402 → (¬ v4_1 = 405 → ∀ v2_2 : Int32, v2_2 = v2 + (-1) → vp_in (v2_2 - 1) 200 ∧ (vp_in v2_2 200 ∧ (vp_in (v2_2 - 1) 200 ∧ (∀ L_3 : gL, L_3 = upL L 332 (v2_2 - 1).toNatClampNeg (wkL v4_1 (L 332 (v2_2 - 1).toNatClampNeg) (L 332 v2_2.toNatClampNeg)) → ∀ v3_4 : Int32, v3_4 = v3 + 1 → Go G mX7_saysOf 3 0 0 4 [some (.ref 310), none, some (.int v2_2), some (.int v3_4), none] [] SH I R L_3 Q)))) ∧ (v4_1 = 405 → vp_in (v2 - 1) 200 ∧ (vp_in (v2 - 1) 200 ∧ (∀ L_5 : gL, L_5 = upL L 332 (v2 - 1).toNatClampNeg (1 - (L 332 (v2 - 1).toNatClampNeg)) → ∀ v3_6 : Int32, v3_6 = v3 + 1 → Go G mX7_saysOf 3 0 0 4 [some (.ref 310), none, some (.int v2), some (.int v3_6), none] [] SH I R L_5 Q)))) ∧ (v4_1 = 402 → vp_in (v2 - 1) 200 ∧ (vp_in (v2 - 1) 200 ∧ (∀ L_8 : gL, L_8 = upL L 332 (v2 - 1).toNatClampNeg (-(L 332 (v2 - 1).toNatClampNeg)) → ∀ v3_9 : Int32, v3_9 = v3 + 1 → Go G mX7_saysOf 3 0 0 4 [some (.ref 310), none, some (.int v2), some (.int v3_9), none] [] SH I R L_8 Q)))) ∧ (v4_1 = 401 → Go G mX7_saysOf 3 0 0 40 [some (.ref 310), none, some (.int v2), some (.int v3), some (.int v4_1)] [] SH I R L Q)))))) : Go G mX7_saysOf 3 0 0 4 [some (.ref 310), none, some (.int v2), some (.int v3), none] [] SH I R L Q := by
  refine go_aload_n dX7_saysOf_4 rfl ?_
  refine go_getR dX7_saysOf_5 fX7_42 rfl rfl (hR 310 11 319 rfl) ?_
  refine go_iload_n dX7_saysOf_8 rfl ?_
  obtain ⟨hi, h⟩ := h
  refine go_iald dX7_saysOf_9 rfl hi ?_
  refine go_sipush (v := 408) dX7_saysOf_10 (by decide) ?_
  refine go_icmp_eq 175 dX7_saysOf_13 (by decide) (fun c => ?_) (fun c => ?_)
  · have h := h.1 c
    refine go_aload_n dX7_saysOf_175 rfl ?_
    refine go_getR dX7_saysOf_176 fX7_81 rfl rfl (hR 310 38 332 rfl) ?_
    refine go_iconst (v := 0) dX7_saysOf_179 (by decide) ?_
    refine go_laldK dX7_saysOf_180 rfl (vp_in_nI (n := 0) (by decide) (by decide)) (k := 0) (by decide) ?_
    exact go_lret dX7_saysOf_181 rfl rfl h
  · have h := h.2 c
    refine go_aload_n dX7_saysOf_16 rfl ?_
    refine go_getR dX7_saysOf_17 fX7_42 rfl rfl (hR 310 11 319 rfl) ?_
    refine go_iload_n dX7_saysOf_20 rfl ?_
    obtain ⟨hi, h⟩ := h
    refine go_iald dX7_saysOf_21 rfl hi ?_
    refine go_istore dX7_saysOf_22 (Nat.le_of_ble_eq_true rfl) rfl ?_
    have h := h _ rfl
    refine go_iload dX7_saysOf_24 rfl ?_
    refine go_sipush (v := 400) dX7_saysOf_26 (by decide) ?_
    refine go_icmp_eq 40 dX7_saysOf_29 (by decide) (fun c => ?_) (fun c => ?_)
    · have h := h.1 c
      exact h
    · have h := h.2 c
      refine go_iload dX7_saysOf_32 rfl ?_
      refine go_sipush (v := 401) dX7_saysOf_34 (by decide) ?_
      refine go_icmp_ne 82 dX7_saysOf_37 (by decide) (fun c => ?_) (fun c => ?_)
      · have h := h.1 c
        refine go_iload dX7_saysOf_82 rfl ?_
        refine go_sipush (v := 402) dX7_saysOf_84 (by decide) ?_
        refine go_icmp_ne 110 dX7_saysOf_87 (by decide) (fun c => ?_) (fun c => ?_)
        · have h := h.1 c
          refine go_iload dX7_saysOf_110 rfl ?_
          refine go_sipush (v := 405) dX7_saysOf_112 (by decide) ?_
          refine go_icmp_ne 139 dX7_saysOf_115 (by decide) (fun c => ?_) (fun c => ?_)
          · have h := h.1 c
            refine go_iinc dX7_saysOf_139 rfl (Nat.le_of_ble_eq_true rfl) rfl ?_
            have h := h _ rfl
            refine go_aload_n dX7_saysOf_142 rfl ?_
            refine go_getR dX7_saysOf_143 fX7_81 rfl rfl (hR 310 38 332 rfl) ?_
            refine go_iload_n dX7_saysOf_146 rfl ?_
            refine go_iconst (v := 1) dX7_saysOf_147 (by decide) ?_
            refine go_isub dX7_saysOf_148 ?_
            refine go_iload dX7_saysOf_149 rfl ?_
            refine go_aload_n dX7_saysOf_151 rfl ?_
            refine go_getR dX7_saysOf_152 fX7_81 rfl rfl (hR 310 38 332 rfl) ?_
            refine go_iload_n dX7_saysOf_155 rfl ?_
            refine go_iconst (v := 1) dX7_saysOf_156 (by decide) ?_
            refine go_isub dX7_saysOf_157 ?_
            obtain ⟨hi, h⟩ := h
            refine go_lald dX7_saysOf_158 rfl hi ?_
            refine go_aload_n dX7_saysOf_159 rfl ?_
            refine go_getR dX7_saysOf_160 fX7_81 rfl rfl (hR 310 38 332 rfl) ?_
            refine go_iload_n dX7_saysOf_163 rfl ?_
            obtain ⟨hi, h⟩ := h
            refine go_lald dX7_saysOf_164 rfl hi ?_
            refine go_callS0 (μ := mX7_saysOf) [.int _, .long _, .long _] dX7_saysOf_165 YX7_worked lX7_310 rfl (Nat.le_of_ble_eq_true rfl) (Nat.le_of_ble_eq_true rfl) rfl (k_X7_worked hR ?_)
            obtain ⟨hi, h⟩ := h
            refine go_last dX7_saysOf_168 rfl hi ?_
            have h := h _ rfl
            refine go_iinc dX7_saysOf_169 rfl (Nat.le_of_ble_eq_true rfl) rfl ?_
            have h := h _ rfl
            refine go_goto 4 dX7_saysOf_172 (by decide) ?_
            refine go_drop 4 ?_
            exact h
          · have h := h.2 c
            refine go_aload_n dX7_saysOf_118 rfl ?_
            refine go_getR dX7_saysOf_119 fX7_81 rfl rfl (hR 310 38 332 rfl) ?_
            refine go_iload_n dX7_saysOf_122 rfl ?_
            refine go_iconst (v := 1) dX7_saysOf_123 (by decide) ?_
            refine go_isub dX7_saysOf_124 ?_
            refine go_lconst (v := 1) dX7_saysOf_125 (by decide) ?_
            refine go_aload_n dX7_saysOf_126 rfl ?_
            refine go_getR dX7_saysOf_127 fX7_81 rfl rfl (hR 310 38 332 rfl) ?_
            refine go_iload_n dX7_saysOf_130 rfl ?_
            refine go_iconst (v := 1) dX7_saysOf_131 (by decide) ?_
            refine go_isub dX7_saysOf_132 ?_
            obtain ⟨hi, h⟩ := h
            refine go_lald dX7_saysOf_133 rfl hi ?_
            refine go_lsub dX7_saysOf_134 ?_
            obtain ⟨hi, h⟩ := h
            refine go_last dX7_saysOf_135 rfl hi ?_
            have h := h _ rfl
            refine go_goto 169 dX7_saysOf_136 (by decide) ?_
            refine go_iinc dX7_saysOf_169 rfl (Nat.le_of_ble_eq_true rfl) rfl ?_
            have h := h _ rfl
            refine go_goto 4 dX7_saysOf_172 (by decide) ?_
            refine go_drop 4 ?_
            exact h
        · have h := h.2 c
          refine go_aload_n dX7_saysOf_90 rfl ?_
          refine go_getR dX7_saysOf_91 fX7_81 rfl rfl (hR 310 38 332 rfl) ?_
          refine go_iload_n dX7_saysOf_94 rfl ?_
          refine go_iconst (v := 1) dX7_saysOf_95 (by decide) ?_
          refine go_isub dX7_saysOf_96 ?_
          refine go_aload_n dX7_saysOf_97 rfl ?_
          refine go_getR dX7_saysOf_98 fX7_81 rfl rfl (hR 310 38 332 rfl) ?_
          refine go_iload_n dX7_saysOf_101 rfl ?_
          refine go_iconst (v := 1) dX7_saysOf_102 (by decide) ?_
          refine go_isub dX7_saysOf_103 ?_
          obtain ⟨hi, h⟩ := h
          refine go_lald dX7_saysOf_104 rfl hi ?_
          refine go_lneg dX7_saysOf_105 ?_
          obtain ⟨hi, h⟩ := h
          refine go_last dX7_saysOf_106 rfl hi ?_
          have h := h _ rfl
          refine go_goto 169 dX7_saysOf_107 (by decide) ?_
          refine go_iinc dX7_saysOf_169 rfl (Nat.le_of_ble_eq_true rfl) rfl ?_
          have h := h _ rfl
          refine go_goto 4 dX7_saysOf_172 (by decide) ?_
          refine go_drop 4 ?_
          exact h
      · have h := h.2 c
        exact h
theorem b_X7_saysOf_40 {G : gG} {I : gI} {R : gR} {L : gL} {Q : gQ} {v2 v3 v4 : Int32} (hR : g_Fx R) (h : (¬ v4 = 400 → vp_in v3 1600 ∧ (vp_in (I 320 v3.toNatClampNeg) 12 ∧ (vp_in v2 200 ∧ (∀ L_14 : gL, L_14 = upL L 332 v2.toNatClampNeg (Int32.toInt64 (I 331 (I 320 v3.toNatClampNeg).toNatClampNeg)) → ∀ v2_15 : Int32, v2_15 = v2 + 1 → ∀ v3_16 : Int32, v3_16 = v3 + 1 → Go G mX7_saysOf 3 0 0 4 [some (.ref 310), none, some (.int v2_15), some (.int v3_16), none] [] SH I R L_14 Q)))) ∧ (v4 = 400 → vp_in v3 1600 ∧ (vp_in v2 200 ∧ (∀ L_17 : gL, L_17 = upL L 332 v2.toNatClampNeg (Int32.toInt64 (I 320 v3.toNatClampNeg)) → ∀ v2_18 : Int32, v2_18 = v2 + 1 → ∀ v3_19 : Int32, v3_19 = v3 + 1 → Go G mX7_saysOf 3 0 0 4 [some (.ref 310), none, some (.int v2_18), some (.int v3_19), none] [] SH I R L_17 Q)))) : Go G mX7_saysOf 3 0 0 40 [some (.ref 310), none, some (.int v2), some (.int v3), some (.int v4)] [] SH I R L Q := by
  refine go_aload_n dX7_saysOf_40 rfl ?_
  refine go_getR dX7_saysOf_41 fX7_81 rfl rfl (hR 310 38 332 rfl) ?_
  refine go_iload_n dX7_saysOf_44 rfl ?_
  refine go_iload dX7_saysOf_45 rfl ?_
  refine go_sipush (v := 400) dX7_saysOf_47 (by decide) ?_
  refine go_icmp_ne 63 dX7_saysOf_50 (by decide) (fun c => ?_) (fun c => ?_)
  · have h := h.1 c
    refine go_aload_n dX7_saysOf_63 rfl ?_
    refine go_getR dX7_saysOf_64 fX7_78 rfl rfl (hR 310 37 331 rfl) ?_
    refine go_aload_n dX7_saysOf_67 rfl ?_
    refine go_getR dX7_saysOf_68 fX7_45 rfl rfl (hR 310 12 320 rfl) ?_
    refine go_iload_n dX7_saysOf_71 rfl ?_
    obtain ⟨hi, h⟩ := h
    refine go_iald dX7_saysOf_72 rfl hi ?_
    obtain ⟨hi, h⟩ := h
    refine go_iald dX7_saysOf_73 rfl hi ?_
    refine go_i2l dX7_saysOf_74 ?_
    obtain ⟨hi, h⟩ := h
    refine go_last dX7_saysOf_75 rfl hi ?_
    have h := h _ rfl
    refine go_iinc dX7_saysOf_76 rfl (Nat.le_of_ble_eq_true rfl) rfl ?_
    have h := h _ rfl
    refine go_goto 169 dX7_saysOf_79 (by decide) ?_
    refine go_iinc dX7_saysOf_169 rfl (Nat.le_of_ble_eq_true rfl) rfl ?_
    have h := h _ rfl
    refine go_goto 4 dX7_saysOf_172 (by decide) ?_
    refine go_drop 4 ?_
    exact h
  · have h := h.2 c
    refine go_aload_n dX7_saysOf_53 rfl ?_
    refine go_getR dX7_saysOf_54 fX7_45 rfl rfl (hR 310 12 320 rfl) ?_
    refine go_iload_n dX7_saysOf_57 rfl ?_
    obtain ⟨hi, h⟩ := h
    refine go_iald dX7_saysOf_58 rfl hi ?_
    refine go_i2l dX7_saysOf_59 ?_
    refine go_goto 75 dX7_saysOf_60 (by decide) ?_
    obtain ⟨hi, h⟩ := h
    refine go_last dX7_saysOf_75 rfl hi ?_
    have h := h _ rfl
    refine go_iinc dX7_saysOf_76 rfl (Nat.le_of_ble_eq_true rfl) rfl ?_
    have h := h _ rfl
    refine go_goto 169 dX7_saysOf_79 (by decide) ?_
    refine go_iinc dX7_saysOf_169 rfl (Nat.le_of_ble_eq_true rfl) rfl ?_
    have h := h _ rfl
    refine go_goto 4 dX7_saysOf_172 (by decide) ?_
    refine go_drop 4 ?_
    exact h
/-! the model's orders -/
def tkM1 (o v : Int32) : tok := (o.toInt, if o = 400 ∨ o = 401 then v.toInt else 0)
def tksM (o v : Nat → Int32) : Nat → Nat → List tok
  | _, 0 => []
  | i, n + 1 => tkM1 (o i) (v i) :: tksM o v (i + 1) n
def endM (o : Nat → Int32) (i n : Nat) : Prop := o (i + n) = 408 ∧ ∀ j, j < n → ¬ o (i + j) = 408
def nmM (I : gI) (n : Nat) : Int := (I 331 n).toInt
theorem endM_s {o : Nat → Int32} {i n : Nat} (h : endM o i (n + 1)) : ¬ o i = 408 ∧ endM o (i + 1) n := by
  refine ⟨by have := h.2 0 (by omega); simpa using this, by rw [← h.1]; congr 1; omega, fun j hj => ?_⟩
  have := h.2 (j + 1) (by omega)
  rwa [show i + (j + 1) = i + 1 + j by omega] at this
theorem lstk_push {L : gL} {st : List Int} {x : Int64} (hs : stk (fun j => (L 332 j).toInt) st) : stk (fun j => (upL L 332 st.length x 332 j).toInt) (x.toInt :: st) := by
  refine ⟨by simp [upL], stk_of (fun j hj => ?_) hs⟩
  have : j ≠ st.length := by omega
  simp [upL, this]
theorem upL_keep {L L0 : gL} {c k : Nat} {x : Int64} (h : ∀ a, a ≠ c → L a = L0 a) : ∀ a, a ≠ c → upL L c k x a = L0 a := fun a ha => (upL_off a ha).trans (h a ha)
set_option maxHeartbeats 1000000 in
theorem says_loop {G : gG} {I : gI} {R : gR} {Q : gQ} (hR : g_Fx R) {nm : Nat → Int} (hnm : ∀ n, (I 331 n).toInt = nm n) {L0 : gL} {b : Bool} :
    ∀ (n i : Nat) (st : List Int) (bs : List Bool) (L : gL), i + n < 1600 → endM (I 319) i n → (∀ a, a ≠ 332 → L a = L0 a) → stk (fun j => (L 332 j).toInt) st → oks bs st → bs.length ≤ 60 → tyc (tksM (I 319) (I 320) i n) bs = some [b] → (∀ t ∈ tksM (I 319) (I 320) i n, okn nm t) →
    (∀ (L' : gL) (z : Int), (∀ a, a ≠ 332 → L' a = L0 a) → ev nm (tksM (I 319) (I 320) i n) st = [z] → (L' 332 0).toInt = z → Q (some (.long (L' 332 0))) SH I R L') →
    Go G mX7_saysOf 3 0 0 4 [some (.ref 310), none, some (.int (nI st.length)), some (.int (nI i)), none] [] SH I R L Q := by
  intro n
  induction n with
  | zero =>
    intro i st bs L hi he hL hs ho hl hty _ hq
    have hb : bs = [b] := Option.some.inj hty
    subst hb
    have hlen := oks_len ho
    match st, hlen with
    | [z], _ =>
      refine b_X7_saysOf_4 hR ⟨vp_in_nI (by omega) (by decide), fun _ => hq L z hL rfl hs.1, fun c => absurd ?_ c⟩
      rw [nI_clamp (by omega)]
      exact he.1
  | succ n ih =>
    intro i st bs L hi he hL hs ho hl hty hok hq
    have hlen := oks_len ho
    obtain ⟨he0, he1⟩ := endM_s he
    obtain ⟨bs1, h1, h2⟩ : ∃ bs1, ty1 (tkM1 (I 319 i) (I 320 i)) bs = some bs1 ∧ tyc (tksM (I 319) (I 320) (i + 1) n) bs1 = some [b] := by
      simp only [tksM, tyc] at hty
      cases h : ty1 (tkM1 (I 319 i) (I 320 i)) bs with
      | none => rw [h] at hty; cases hty
      | some bs1 => rw [h] at hty; exact ⟨bs1, rfl, hty⟩
    have hok1 : okn nm (tkM1 (I 319 i) (I 320 i)) := hok _ (by simp [tksM])
    have hok2 : ∀ t ∈ tksM (I 319) (I 320) (i + 1) n, okn nm t := fun t h => hok t (by simp [tksM, h])
    have hl1 := ty1_len h1 hl
    have ho1 := ev1_ok h1 ho hok1
    have next : ∀ (L2 : gL), (∀ a, a ≠ 332 → L2 a = L0 a) → stk (fun j => (L2 332 j).toInt) (ev1 nm (tkM1 (I 319 i) (I 320 i)) st) → Go G mX7_saysOf 3 0 0 4 [some (.ref 310), none, some (.int (nI (ev1 nm (tkM1 (I 319 i) (I 320 i)) st).length)), some (.int (nI (i + 1))), none] [] SH I R L2 Q := fun L2 k1 k2 => ih (i + 1) _ bs1 L2 (by omega) he1 k1 k2 ho1 hl1 h2 hok2 hq
    have hh : st.length ≤ 60 := by omega
    refine b_X7_saysOf_4 hR ⟨vp_in_nI (by omega) (by decide), fun c => absurd (by rw [nI_clamp (by omega)] at c; exact c) he0, fun _ => ⟨vp_in_nI (by omega) (by decide), ?_⟩⟩
    rw [nI_clamp (by omega)]
    generalize hO : I 319 i = o at h1 hok1 ho1 next he0
    generalize hV : I 320 i = v at h1 hok1 ho1 next
    intro v4 e4
    rw [e4]
    clear e4 v4
    have e400 : (400 : Int32).toInt = 400 := rfl
    have e401 : (401 : Int32).toInt = 401 := rfl
    have e402 : (402 : Int32).toInt = 402 := rfl
    have e405 : (405 : Int32).toInt = 405 := rfl
    have n1 : ∀ k : Int32, ¬ o = k → ¬ (tkM1 o v).1 = k.toInt := fun k h q => h (ti_eq.mpr q)
    refine ⟨fun c0 => ?_, fun c0 => ⟨fun c1 => ⟨fun c2 => ⟨fun c5 => ?_, fun c5 => ?_⟩, fun c2 => ?_⟩, fun c1 => ?_⟩⟩
    · have tE : tkM1 o v = (400, v.toInt) := by simp [tkM1, c0]
      rw [tE] at h1 next
      have hlt : bs.length < 60 := by
        simp only [ty1, if_true] at h1
        split at h1
        · rename_i q; exact q.2.2
        · cases h1
      refine b_X7_saysOf_40 hR ⟨fun c => absurd c0 c, fun _ => ⟨vp_in_nI (by omega) (by decide), vp_in_nI (by omega) (by decide), ?_⟩⟩
      rintro _ rfl _ rfl _ rfl
      rw [nI_clamp (by omega), nI_clamp (by omega), nI_1, nI_1, hV]
      refine next _ (upL_keep hL) ?_
      have e4 : ev1 nm (400, v.toInt) st = v.toInt :: st := by simp [ev1]
      rw [e4, ← toI64 v]
      exact lstk_push hs
    · have m0 := n1 400 c0
      have m1 := n1 401 c1
      have m2 := n1 402 c2
      have m5 := n1 405 c5
      rw [e400] at m0
      rw [e401] at m1
      rw [e402] at m2
      rw [e405] at m5
      match st, bs, hs, ho, hlen, h1 with
      | x :: z :: r, p :: q :: r2, hs, ho, hlen, h1 =>
        obtain ⟨⟨x1, x2, x3⟩, ⟨z1, z2, z3⟩, ho2⟩ := ho
        have vx : (L 332 (r.length + 1)).toInt = x := hs.1
        have vz : (L 332 r.length).toInt = z := hs.2.1
        have hr : r.length ≤ 58 := by simp at hh; omega
        rintro _ rfl
        have f1 : nI (x :: z :: r).length + (-1) = nI (r.length + 1) := pk_m1 (r.length + 1)
        have f2 : nI (r.length + 1) - 1 = nI r.length := nI_pred r.length
        rw [f1, f2]
        refine ⟨vp_in_nI (by omega) (by decide), vp_in_nI (by omega) (by decide), vp_in_nI (by omega) (by decide), ?_⟩
        rintro _ rfl _ rfl
        rw [nI_1, nI_clamp (by omega), nI_clamp (by omega)]
        have hw : (wkL o (L 332 r.length) (L 332 (r.length + 1))).toInt = wk o.toInt z x := by
          rw [wkL_wk (by rw [vz]; exact z1) (by rw [vz]; exact z2) (by rw [vx]; exact x1) (by rw [vx]; exact x2), vx, vz]
        have eE : ev1 nm (tkM1 o v) (x :: z :: r) = wk o.toInt z x :: r := by
          simp only [ev1, m0, m1, m2, m5, if_false]
          rfl
        rw [eE] at next
        exact next _ (upL_keep hL) (by rw [← hw]; exact lstk_push hs.2.2)
      | [], [], _, ho, hlen, h1 =>
        simp only [ty1, m0, m1, if_false] at h1
        cases h1
      | [], _ :: _, _, ho, _, _ => exact ho.elim
      | [x], [w], _, ho, hlen, h1 =>
        simp only [ty1, m0, m1, m2, m5, if_false] at h1
        cases h1
      | [x], [], _, ho, hlen, h1 => exact ho.elim
      | [x], _ :: _ :: _, _, ho, hlen, h1 => exact ho.2.elim
      | _ :: _ :: _, [], _, ho, hlen, h1 => exact ho.elim
      | _ :: _ :: _, [_], _, ho, hlen, h1 => exact ho.2.elim
    · have tE : tkM1 o v = (405, 0) := by simp [tkM1, c5]
      match st, bs, hs, ho, hlen, h1 with
      | x :: r, p :: r2, hs, ho, hlen, h1 =>
        have vx : (L 332 r.length).toInt = x := hs.1
        rw [show nI (x :: r).length - 1 = nI r.length from nI_pred r.length]
        refine ⟨vp_in_nI (by simp at hh; omega) (by decide), vp_in_nI (by simp at hh; omega) (by decide), ?_⟩
        rintro _ rfl _ rfl
        rw [nI_1, nI_clamp (by simp at hh; omega)]
        have hw : (1 - L 332 r.length).toInt = 1 - x := by
          have a1 := ho.1.1
          have a2 := ho.1.2.1
          rw [tl_sub] <;> rw [vx, l_1] <;> omega
        have eE : ev1 nm (tkM1 o v) (x :: r) = (1 - x) :: r := by rw [tE]; simp [ev1]
        rw [eE] at next
        exact next _ (upL_keep hL) (by rw [← hw]; exact lstk_push hs.2)
      | [], [], _, ho, hlen, h1 =>
        rw [tE] at h1
        simp [ty1] at h1
      | [], _ :: _, _, ho, _, _ => exact ho.elim
      | _ :: _, [], _, ho, _, _ => exact ho.elim
    · have tE : tkM1 o v = (402, 0) := by simp [tkM1, c2]
      match st, bs, hs, ho, hlen, h1 with
      | x :: r, p :: r2, hs, ho, hlen, h1 =>
        have vx : (L 332 r.length).toInt = x := hs.1
        rw [show nI (x :: r).length - 1 = nI r.length from nI_pred r.length]
        refine ⟨vp_in_nI (by simp at hh; omega) (by decide), vp_in_nI (by simp at hh; omega) (by decide), ?_⟩
        rintro _ rfl _ rfl
        rw [nI_1, nI_clamp (by simp at hh; omega)]
        have hw : (-(L 332 r.length)).toInt = -x := by
          have a1 := ho.1.1
          have a2 := ho.1.2.1
          rw [tl_neg] <;> rw [vx] <;> omega
        have eE : ev1 nm (tkM1 o v) (x :: r) = -x :: r := by rw [tE]; simp [ev1]
        rw [eE] at next
        exact next _ (upL_keep hL) (by rw [← hw]; exact lstk_push hs.2)
      | [], [], _, ho, hlen, h1 =>
        rw [tE] at h1
        simp [ty1] at h1
      | [], _ :: _, _, ho, _, _ => exact ho.elim
      | _ :: _, [], _, ho, _, _ => exact ho.elim
    · have tE : tkM1 o v = (401, v.toInt) := by simp [tkM1, c1]
      rw [tE] at h1 next
      have hlt : 0 ≤ v.toInt ∧ v.toInt < 12 ∧ bs.length < 60 := by
        simp only [ty1] at h1
        rw [if_neg (by decide), if_pos trivial] at h1
        split at h1
        · rename_i q; exact q
        · cases h1
      refine b_X7_saysOf_40 hR ⟨fun _ => ⟨vp_in_nI (by omega) (by decide), ?_, vp_in_nI (by omega) (by decide), ?_⟩, fun c => absurd c c0⟩
      · rw [nI_clamp (by omega), hV]
        exact vp_in_iff.mpr ⟨hlt.1, hlt.2.1⟩
      rintro _ rfl _ rfl _ rfl
      rw [nI_clamp (by omega), nI_clamp (by omega), nI_1, nI_1, hV]
      refine next _ (upL_keep hL) ?_
      have e4 : ev1 nm (401, v.toInt) st = nm v.toNatClampNeg :: st := by simp [ev1]
      rw [e4, ← hnm, ← toI64]
      exact lstk_push hs
def lenF (o : Nat → Int32) : Nat → Nat → Nat
  | 0, _ => 0
  | f + 1, i => if o i = 408 then 0 else lenF o f (i + 1) + 1
theorem lenF_eq {o : Nat → Int32} : ∀ {n f i : Nat}, endM o i n → n < f → lenF o f i = n
  | 0, f + 1, i, h, _ => by
    have := h.1
    rw [Nat.add_zero] at this
    simp [lenF, this]
  | n + 1, f + 1, i, h, hf => by
    obtain ⟨h0, h1⟩ := endM_s h
    rw [lenF, if_neg h0, lenF_eq h1 (by omega)]
  | _, 0, _, _, hf => absurd hf (by omega)
def tkM (I : gI) (f : Nat) : List tok := tksM (I 319) (I 320) f (lenF (I 319) 400 f)
def okS (I : gI) (f : Int32) : Prop := 0 ≤ f.toInt ∧ ∃ n, f.toNatClampNeg + n < 1600 ∧ n < 400 ∧ endM (I 319) f.toNatClampNeg n ∧ (∃ b, tyc (tkM I f.toNatClampNeg) [] = some [b]) ∧ ∀ t ∈ tkM I f.toNatClampNeg, okn (nmM I) t
theorem k_X7_saysOf {G : gG} {I : gI} {R : gR} {L : gL} {Q : gQ} {f : Int32} (hR : g_Fx R) (p0 : okS I f) (hq : ∀ r : Int64, ∀ L1 : gL, (r.toInt = vl (nmM I) (tkM I f.toNatClampNeg) ∧ ∀ a, a ≠ 332 → L1 a = L a) → Q (some (.long r)) SH I R L1) : Mt G mX7_saysOf 3 0 0 [.ref 310, .int f] SH I R L Q := by
  obtain ⟨o1, n, o2, o3, o4, ⟨b, o5⟩, o6⟩ := p0
  have el : lenF (I 319) 400 f.toNatClampNeg = n := lenF_eq o4 o3
  refine e_X7_saysOf hR ?_
  have h := says_loop (G := G) (Q := Q) (I := I) hR (nm := nmM I) (fun _ => rfl) (L0 := L) (b := b) n f.toNatClampNeg [] [] L o2 o4 (fun _ _ => rfl) trivial trivial (by decide) (by unfold tkM at o5; rw [el] at o5; exact o5) (by unfold tkM at o6; rw [el] at o6; exact o6) (fun L' z k1 k2 k3 => hq _ L' ⟨by rw [k3]; unfold vl tkM; rw [el, k2]; rfl, k1⟩)
  rw [← nI_of_toInt o1] at h
  exact h
