theorem e_X5_callInBestOrder {G : gG} {I : gI} {R : gR} {L : gL} {Q : gQ} {s k : Int32} (hR : g_Fx R) (h : ∀ I_1 : gI, I_1 = cpSc I 4 166 → ∀ I_2 : gI, I_2 = up I_1 1 6 (-9999) → Mt G mX5_callRest 20 0 0 [.ref 1, .int s, .int k, .int 0] SH I_2 R L (fun r S' I' R' L' => Go G mX5_callInBestOrder 21 0 0 28 [none, none, none] (r.toList ++ []) S' I' R' L' Q)) : Mt G mX5_callInBestOrder 21 0 0 [.ref 1, .int s, .int k] SH I R L Q := by
  refine go_start rfl (Nat.le_of_ble_eq_true rfl) rfl ?_
  refine go_aload_n dX5_callInBestOrder_0 rfl ?_
  refine go_getR dX5_callInBestOrder_1 fX5_26 rfl rfl (hR 1 2 166 rfl) ?_
  refine go_aload_n dX5_callInBestOrder_4 rfl ?_
  refine go_getR dX5_callInBestOrder_5 fX5_22 rfl rfl (hR 1 1 3 rfl) ?_
  refine go_getR dX5_callInBestOrder_8 fX5_47 rfl rfl (hR 3 0 4 rfl) ?_
  refine go_callV0 (μ := mX5_callInBestOrder) [.ref 4] dX5_callInBestOrder_11 YX4_copyFrom lX5_52 rfl ⟨_, rfl, rfl⟩ rfl (Nat.le_of_ble_eq_true rfl) (Nat.le_of_ble_eq_true rfl) rfl (k_X4_copyFrom hR Sc_166 Sc_4 ?_)
  have h := h _ rfl
  refine go_aload_n dX5_callInBestOrder_14 rfl ?_
  refine go_sipush (v := -9999) dX5_callInBestOrder_15 (by decide) ?_
  refine go_putI dX5_callInBestOrder_18 fX5_70 rfl rfl rfl rfl ?_
  have h := h _ rfl
  refine go_aload_n dX5_callInBestOrder_21 rfl ?_
  refine go_iload_n dX5_callInBestOrder_22 rfl ?_
  refine go_iload_n dX5_callInBestOrder_23 rfl ?_
  refine go_iconst (v := 0) dX5_callInBestOrder_24 (by decide) ?_
  refine go_drop 0 ?_
  refine go_drop 1 ?_
  refine go_drop 2 ?_
  refine go_callV0 (μ := mX5_callInBestOrder) [.int _, .int _, .int _] dX5_callInBestOrder_25 YX5_callRest lX5_73 rfl ⟨_, rfl, rfl⟩ rfl (Nat.le_of_ble_eq_true rfl) (Nat.le_refl _) rfl h
theorem b_X5_callInBestOrder_28 {G : gG} {I : gI} {R : gR} {L : gL} {Q : gQ} (hR : g_Fx R) (h : Q none SH I R L) : Go G mX5_callInBestOrder 21 0 0 28 [none, none, none] [] SH I R L Q := by
  exact go_vret dX5_callInBestOrder_28 rfl rfl h
theorem e_X6_canBeCalled {G : gG} {I : gI} {R : gR} {L : gL} {Q : gQ} {a : Int32} (hR : g_Fx R) (h : (a < 1 → Q (some (.int 0)) SH I R L) ∧ (¬ a < 1 → ((1 <<< ((I 3 6) &&& 31)) ≤ a → Q (some (.int 0)) SH I R L) ∧ (¬ (1 <<< ((I 3 6) &&& 31)) ≤ a → (bcI a ≤ 6 → Go G mX6_canBeCalled 5 0 0 31 [some (.ref 0), some (.int a), some (.int 0)] [] SH I R L Q) ∧ (¬ bcI a ≤ 6 → Q (some (.int 0)) SH I R L)))) : Mt G mX6_canBeCalled 5 0 0 [.ref 0, .int a] SH I R L Q := by
  refine go_start rfl (Nat.le_of_ble_eq_true rfl) rfl ?_
  refine go_iload_n dX6_canBeCalled_0 rfl ?_
  refine go_iconst (v := 1) dX6_canBeCalled_1 (by decide) ?_
  refine go_icmp_lt 27 dX6_canBeCalled_2 (by decide) (fun c => ?_) (fun c => ?_)
  · have h := h.1 c
    refine go_iconst (v := 0) dX6_canBeCalled_27 (by decide) ?_
    exact go_zret dX6_canBeCalled_28 rfl rfl rfl h
  · have h := h.2 c
    refine go_iload_n dX6_canBeCalled_5 rfl ?_
    refine go_iconst (v := 1) dX6_canBeCalled_6 (by decide) ?_
    refine go_aload_n dX6_canBeCalled_7 rfl ?_
    refine go_getR dX6_canBeCalled_8 fX6_27 rfl rfl (hR 0 2 3 rfl) ?_
    refine go_getI dX6_canBeCalled_11 fX6_77 rfl rfl ?_
    refine go_ishl dX6_canBeCalled_14 ?_
    refine go_icmp_ge 27 dX6_canBeCalled_15 (by decide) (fun c => ?_) (fun c => ?_)
    · have h := h.1 c
      refine go_iconst (v := 0) dX6_canBeCalled_27 (by decide) ?_
      exact go_zret dX6_canBeCalled_28 rfl rfl rfl h
    · have h := h.2 c
      refine go_iload_n dX6_canBeCalled_18 rfl ?_
      refine go_callS0 (μ := mX6_canBeCalled) [.int _] dX6_canBeCalled_19 YJ6_bitCount_0f7a4 lX6_193 rfl (Nat.le_of_ble_eq_true rfl) (Nat.le_of_ble_eq_true rfl) rfl (k_J6_bitCount_0f7a4 hR ?_)
      refine go_bipush (v := 6) dX6_canBeCalled_22 (by decide) ?_
      refine go_icmp_le 29 dX6_canBeCalled_24 (by decide) (fun c => ?_) (fun c => ?_)
      · have h := h.1 c
        refine go_iconst (v := 0) dX6_canBeCalled_29 (by decide) ?_
        refine go_istore_n dX6_canBeCalled_30 (Nat.le_of_ble_eq_true rfl) rfl ?_
        exact h
      · have h := h.2 c
        refine go_iconst (v := 0) dX6_canBeCalled_27 (by decide) ?_
        exact go_zret dX6_canBeCalled_28 rfl rfl rfl h
theorem b_X6_canBeCalled_31 {G : gG} {I : gI} {R : gR} {L : gL} {Q : gQ} {v1 v2 : Int32} (hR : g_Fx R) (h : (9 ≤ v2 → Q (some (.int 1)) SH I R L) ∧ (¬ 9 ≤ v2 → (¬ ((v1 >>> (v2 &&& 31)) &&& 1) = 1 → ∀ v2_4 : Int32, v2_4 = v2 + 1 → Go G mX6_canBeCalled 5 0 0 31 [some (.ref 0), some (.int v1), some (.int v2_4)] [] SH I R L Q) ∧ (((v1 >>> (v2 &&& 31)) &&& 1) = 1 → vp_in v2 9 ∧ ((¬ (I 6 v2.toNatClampNeg) = 2 → ∀ v2_5 : Int32, v2_5 = v2 + 1 → Go G mX6_canBeCalled 5 0 0 31 [some (.ref 0), some (.int v1), some (.int v2_5)] [] SH I R L Q) ∧ ((I 6 v2.toNatClampNeg) = 2 → Q (some (.int 0)) SH I R L))))) : Go G mX6_canBeCalled 5 0 0 31 [some (.ref 0), some (.int v1), some (.int v2)] [] SH I R L Q := by
  refine go_iload_n dX6_canBeCalled_31 rfl ?_
  refine go_bipush (v := 9) dX6_canBeCalled_32 (by decide) ?_
  refine go_icmp_ge 70 dX6_canBeCalled_34 (by decide) (fun c => ?_) (fun c => ?_)
  · have h := h.1 c
    refine go_iconst (v := 1) dX6_canBeCalled_70 (by decide) ?_
    exact go_zret dX6_canBeCalled_71 rfl rfl rfl h
  · have h := h.2 c
    refine go_iload_n dX6_canBeCalled_37 rfl ?_
    refine go_iload_n dX6_canBeCalled_38 rfl ?_
    refine go_ishr dX6_canBeCalled_39 ?_
    refine go_iconst (v := 1) dX6_canBeCalled_40 (by decide) ?_
    refine go_iand dX6_canBeCalled_41 ?_
    refine go_iconst (v := 1) dX6_canBeCalled_42 (by decide) ?_
    refine go_icmp_ne 64 dX6_canBeCalled_43 (by decide) (fun c => ?_) (fun c => ?_)
    · have h := h.1 c
      refine go_iinc dX6_canBeCalled_64 rfl (Nat.le_of_ble_eq_true rfl) rfl ?_
      have h := h _ rfl
      refine go_goto 31 dX6_canBeCalled_67 (by decide) ?_
      exact h
    · have h := h.2 c
      refine go_aload_n dX6_canBeCalled_46 rfl ?_
      refine go_getR dX6_canBeCalled_47 fX6_27 rfl rfl (hR 0 2 3 rfl) ?_
      refine go_getR dX6_canBeCalled_50 fX6_68 rfl rfl (hR 3 0 4 rfl) ?_
      refine go_getR dX6_canBeCalled_53 fX6_95 rfl rfl (hR 4 1 6 rfl) ?_
      refine go_iload_n dX6_canBeCalled_56 rfl ?_
      obtain ⟨hi, h⟩ := h
      refine go_iald dX6_canBeCalled_57 rfl hi ?_
      refine go_iconst (v := 2) dX6_canBeCalled_58 (by decide) ?_
      refine go_icmp_ne 64 dX6_canBeCalled_59 (by decide) (fun c => ?_) (fun c => ?_)
      · have h := h.1 c
        refine go_iinc dX6_canBeCalled_64 rfl (Nat.le_of_ble_eq_true rfl) rfl ?_
        have h := h _ rfl
        refine go_goto 31 dX6_canBeCalled_67 (by decide) ?_
        exact h
      · have h := h.2 c
        refine go_iconst (v := 0) dX6_canBeCalled_62 (by decide) ?_
        exact go_zret dX6_canBeCalled_63 rfl rfl rfl h
theorem e_X7_rows {G : gG} {I : gI} {R : gR} {L : gL} {Q : gQ} {a : Int32} (hR : g_Fx R) (h : Go G mX7_rows 1 0 0 4 [some (.int a), some (.int 1), some (.int 2)] [] SH I R L Q) : Mt G mX7_rows 1 0 0 [.int a] SH I R L Q := by
  refine go_start rfl (Nat.le_of_ble_eq_true rfl) rfl ?_
  refine go_iconst (v := 1) dX7_rows_0 (by decide) ?_
  refine go_istore_n dX7_rows_1 (Nat.le_of_ble_eq_true rfl) rfl ?_
  refine go_iconst (v := 2) dX7_rows_2 (by decide) ?_
  refine go_istore_n dX7_rows_3 (Nat.le_of_ble_eq_true rfl) rfl ?_
  exact h
theorem b_X7_rows_4 {G : gG} {I : gI} {R : gR} {L : gL} {Q : gQ} {v0 v1 v2 : Int32} (hR : g_Fx R) (h : (v0 < v2 → Q (some (.int v1)) SH I R L) ∧ (¬ v0 < v2 → ∀ v1_1 : Int32, v1_1 = (v1 * v2) → ∀ v2_2 : Int32, v2_2 = v2 + 1 → Go G mX7_rows 1 0 0 4 [some (.int v0), some (.int v1_1), some (.int v2_2)] [] SH I R L Q)) : Go G mX7_rows 1 0 0 4 [some (.int v0), some (.int v1), some (.int v2)] [] SH I R L Q := by
  refine go_iload_n dX7_rows_4 rfl ?_
  refine go_iload_n dX7_rows_5 rfl ?_
  refine go_icmp_gt 19 dX7_rows_6 (by decide) (fun c => ?_) (fun c => ?_)
  · have h := h.1 c
    refine go_iload_n dX7_rows_19 rfl ?_
    exact go_iret dX7_rows_20 rfl rfl h
  · have h := h.2 c
    refine go_iload_n dX7_rows_9 rfl ?_
    refine go_iload_n dX7_rows_10 rfl ?_
    refine go_imul dX7_rows_11 ?_
    refine go_istore_n dX7_rows_12 (Nat.le_of_ble_eq_true rfl) rfl ?_
    have h := h _ rfl
    refine go_iinc dX7_rows_13 rfl (Nat.le_of_ble_eq_true rfl) rfl ?_
    have h := h _ rfl
    refine go_goto 4 dX7_rows_16 (by decide) ?_
    exact h
/-! a set, in some order -/
def bl (s : Nat) : List Nat := (List.range 9).filter (fun e => s.testBit e)
def blc (s i : Nat) : Nat := (bl s).getD i 0
theorem bl_sq {s : Nat} (hs : s < 512) : sq (fun e => s.testBit e = true) (blc s) (bl s).length := by
  have hget : ∀ i, i < (bl s).length → ∃ h : i < (bl s).length, blc s i = (bl s)[i] := fun i hi => ⟨hi, by unfold blc; simp [List.getD_eq_getElem?_getD, hi]⟩
  have hpw : (bl s).Pairwise (· < ·) := List.Pairwise.filter _ List.pairwise_lt_range
  refine ⟨fun i j hij hj => ?_, fun i hi => ?_, fun e he => ?_⟩
  · obtain ⟨h1, e1⟩ := hget i (by omega)
    obtain ⟨h2, e2⟩ := hget j hj
    rw [e1, e2]
    exact List.pairwise_iff_getElem.mp hpw i j h1 h2 hij
  · obtain ⟨h1, e1⟩ := hget i hi
    rw [e1]
    have := List.getElem_mem h1
    exact (List.mem_filter.mp this).2
  · have he : s.testBit e = true := he
    have he9 : e < 9 := by
      rcases Nat.lt_or_ge e 9 with g | g
      · exact g
      · rw [Nat.testBit_lt_two_pow (Nat.lt_of_lt_of_le hs (show 512 ≤ 2 ^ e from Nat.pow_le_pow_right (n := 2) (j := e) (i := 9) (by decide) g))] at he; cases he
    have hm : e ∈ bl s := List.mem_filter.mpr ⟨List.mem_range.mpr he9, he⟩
    obtain ⟨i, hi, ei⟩ := List.getElem_of_mem hm
    exact ⟨i, hi, by rw [(hget i hi).2]; exact ei⟩
theorem bl_len : ∀ s, s < 512 → (bl s).length = sm (fun _ => 1) s 9 := by decide +kernel
theorem bl_mem {s e : Nat} (h : e ∈ bl s) : e < 9 ∧ s.testBit e = true := by
  obtain ⟨h1, h2⟩ := List.mem_filter.mp h
  exact ⟨List.mem_range.mp h1, h2⟩
def cbT (I : gI) (κ : Int) (p : List Nat) : Int := tlt (rnC (thC I) κ p (dyC I 4))
def cbF (I : gI) (s : Nat) (κ : Int) : cst := foS (cbT I κ) (nthF (bl s).length (blc s)) (fa (bl s).length) (-9999, [])
def cbP (I : gI) (s k : Int32) : Prop := okI I ∧ okDn 0 (dyC I 4) ∧ ∃ N σ κ, I 3 6 = nI N ∧ N ≤ 9 ∧ s = nI σ ∧ σ < 2 ^ N ∧ (bl σ).length ≤ 6 ∧ k = nI κ ∧ κ < 2
def cbQ (I : gI) (s k : Int32) (I1 : gI) : Prop := (∀ c, c ≠ 1 → (c < 164 ∨ 172 < c) → I1 c = I c) ∧ (∀ j, j ≠ 6 → I1 1 j = I 1 j) ∧ csA I1 (cbF I s.toNatClampNeg k.toInt)
theorem k_X5_callInBestOrder {G : gG} {I : gI} {R : gR} {L : gL} {Q : gQ} {s k : Int32} (hR : g_Fx R) (p0 : cbP I s k) (hq : ∀ I1 : gI, cbQ I s k I1 → Q none SH I1 R L) : Mt G mX5_callInBestOrder 21 0 0 [.ref 1, .int s, .int k] SH I R L Q := by
  obtain ⟨oI, oD, N, σ, κ, e6, hN, rfl, hσ, hl, rfl, hκ⟩ := p0
  have hp2 := pow_le9 hN
  unfold cbQ cbF at hq
  rw [nI_clamp (by omega), nI_toInt (by omega)] at hq
  obtain ⟨cD, cx, -⟩ := cp166 I
  refine e_X5_callInBestOrder hR ?_
  rintro _ rfl _ rfl
  generalize hJ : up (cpSc I 4 166) 1 6 (-9999) = J
  have jx : ∀ c, c ≠ 1 → (c < 166 ∨ 169 < c) → J c = I c := fun c c1 c2 => by rw [← hJ, up_off _ c1, cx c c2]
  have j1 : ∀ j, j ≠ 6 → J 1 j = I 1 j := fun j hj => by rw [← hJ, up_ni hj, cx 1 (by decide)]
  have d166 : dyC J 166 = dyC (cpSc I 4 166) 166 := by unfold dyC; rw [← hJ, up_off _ (by decide), up_off _ (by decide), up_off _ (by decide), up_off _ (by decide)]
  have tlt' : ∀ e, σ.testBit e = true → e < N := fun e he => by
    rcases Nat.lt_or_ge e N with g | g
    · exact g
    · rw [Nat.testBit_lt_two_pow (Nat.lt_of_lt_of_le hσ (Nat.pow_le_pow_right (n := 2) (by decide) g))] at he; cases he
  refine k_callRest hR oI hκ hN e6 oD (cbT I κ) (fun p => rfl) (bl σ).length 19 (blc σ) σ [] J (-9999, []) L _ (by omega) (by omega) (bl_sq (by omega)) tlt' (by simpa using hl) (fun e he => by simp at he) (by rw [d166]; exact cD) (fun c c1 c2 => jx c c2 (by omega)) (fun i hi => by simp at hi) ⟨by rw [← hJ, up_eq]; rfl, fun i hi => by simp at hi⟩ (by decide) (fun J' fr cs => ?_)
  refine b_X5_callInBestOrder_28 hR (hq J' ⟨fun c c1 c2 => by rw [fr.1 c c1 (by omega) (by omega) (by omega) (by omega), jx c c1 (by omega)], fun j hj => by rw [fr.2.1 j hj, j1 j hj], ?_⟩)
  have e : (fun j => [] ++ nthF (bl σ).length (blc σ) j) = nthF (bl σ).length (blc σ) := rfl
  rw [e] at cs
  exact cs
/-- none of a set is away -/
def rwB (g : Nat → Int32) (s : Nat) : Nat → Nat → Bool
  | 0, _ => true
  | n + 1, e => if s.testBit e = true ∧ g e = 2 then false else rwB g s n (e + 1)
def ccB (I : gI) (a : Int32) : Bool := decide (1 ≤ a.toInt) && decide (a.toInt < 2 ^ (I 3 6).toNatClampNeg) && decide ((bl a.toNatClampNeg).length ≤ 6) && rwB (I 6) a.toNatClampNeg 9 0
theorem k_X6_canBeCalled {G : gG} {I : gI} {R : gR} {L : gL} {Q : gQ} {a : Int32} (hR : g_Fx R) (p0 : 0 ≤ (I 3 6).toInt ∧ (I 3 6).toInt ≤ 9) (hq : Q (some (.int (if ccB I a = true then 1 else 0))) SH I R L) : Mt G mX6_canBeCalled 5 0 0 [.ref 0, .int a] SH I R L Q := by
  have c6 := ci p0.1
  have e6 : I 3 6 = nI (I 3 6).toNatClampNeg := nI_of_toInt p0.1
  have hN9 := p0.2
  unfold ccB at hq
  generalize hN : (I 3 6).toNatClampNeg = N at *
  have hp2 := pow_le9 (show N ≤ 9 by omega)
  have es : (1 : Int32) <<< (I 3 6 &&& 31) = nI (2 ^ N) := by rw [e6]; exact nI_shl1 N (by omega)
  have e2N : ((2 ^ N : Nat) : Int) = (2 : Int) ^ N := by simp
  have z1 : (1 : Int32).toInt = 1 := rfl
  refine e_X6_canBeCalled hR ⟨fun c => ?_, fun c => ⟨fun c2 => ?_, fun c2 => ?_⟩⟩
  · rw [ti_lt, z1] at c
    rw [if_neg (by simp; omega)] at hq; exact hq
  · rw [es, ti_le, nI_toInt (by omega)] at c2
    rw [if_neg (by simp; intro _ h2; omega)] at hq; exact hq
  · rw [ti_lt, z1] at c
    rw [es, ti_le, nI_toInt (by omega)] at c2
    have ca := ci (x := a) (by omega)
    have ea : a = nI a.toNatClampNeg := nI_of_toInt (by omega)
    have b1 : decide (1 ≤ a.toInt) = true := decide_eq_true (by omega)
    have b2 : decide (a.toInt < 2 ^ N) = true := decide_eq_true (by omega)
    rw [b1, b2] at hq
    generalize hs : a.toNatClampNeg = s at *
    have bc : bcI a = nI (bl s).length := by rw [ea, bc_sm s (by omega), bl_len s (by omega)]
    have l9 : (bl s).length ≤ 9 := by unfold bl; exact Nat.le_trans (List.length_filter_le _ _) (by simp)
    rw [bc, show (6 : Int32) = nI 6 from rfl, nI_leI (by omega) (by decide)]
    refine ⟨fun c3 => ?_, fun c3 => by rw [if_neg (by simp [c3])] at hq; exact hq⟩
    rw [show decide ((bl s).length ≤ 6) = true from decide_eq_true c3] at hq
    simp only [Bool.true_and, Bool.and_true] at hq
    have loop : ∀ n e, e + n = 9 → Q (some (.int (if rwB (I 6) s n e = true then 1 else 0))) SH I R L → Go G mX6_canBeCalled 5 0 0 31 [some (.ref 0), some (.int a), some (.int (nI e))] [] SH I R L Q := by
      intro n
      induction n with
      | zero =>
        intro e ee q
        exact b_X6_canBeCalled_31 hR ⟨fun _ => q, fun c => absurd (by rw [show e = 9 by omega]; decide) c⟩
      | succ n ih =>
        intro e ee q
        refine b_X6_canBeCalled_31 hR ⟨fun c => absurd c (nI_ge (b := 9) (by omega) (by decide)), fun _ => ?_⟩
        have eb : (a >>> (nI e &&& 31)) &&& 1 = 1 ↔ s.testBit e = true := by rw [ea]; exact tb_iff (by omega) (by omega)
        rw [eb, nI_clamp (by omega)]
        have e0 : rwB (I 6) s (n + 1) e = if s.testBit e = true ∧ I 6 e = 2 then false else rwB (I 6) s n (e + 1) := rfl
        refine ⟨fun k => ?_, fun k => ⟨vp_in_nI (by omega) (by decide), fun k2 => ?_, fun k2 => ?_⟩⟩
        · rintro _ rfl
          rw [if_neg (fun z => k z.1)] at e0
          rw [e0] at q
          rw [nI_1]; exact ih (e + 1) (by omega) q
        · rintro _ rfl
          rw [if_neg (fun z => k2 z.2)] at e0
          rw [e0] at q
          rw [nI_1]; exact ih (e + 1) (by omega) q
        · rw [if_pos ⟨k, k2⟩] at e0
          rw [e0] at q
          exact q
    exact loop 9 0 rfl hq
theorem k_X7_rows {G : gG} {I : gI} {R : gR} {L : gL} {Q : gQ} {a : Int32} (hR : g_Fx R) (p0 : 0 ≤ a.toInt ∧ a.toInt ≤ 6) (hq : Q (some (.int (nI (fa a.toNatClampNeg)))) SH I R L) : Mt G mX7_rows 1 0 0 [.int a] SH I R L Q := by
  have ca := ci p0.1
  have ea : a = nI a.toNatClampNeg := nI_of_toInt p0.1
  have a6 := p0.2
  generalize hm : a.toNatClampNeg = m at *
  subst ea
  refine e_X7_rows hR ?_
  have loop : ∀ n k, k + n = m → 1 ≤ k → Go G mX7_rows 1 0 0 4 [some (.int (nI m)), some (.int (nI (fa k))), some (.int (nI (k + 1)))] [] SH I R L Q := by
    intro n
    induction n with
    | zero =>
      intro k e hk
      rw [show k = m by omega]
      exact b_X7_rows_4 hR ⟨fun _ => hq, fun c => absurd (nI_lt (by omega) (by omega)) c⟩
    | succ n ih =>
      intro k e hk
      refine b_X7_rows_4 hR ⟨fun c => absurd c (nI_nlt (by omega) (by omega)), fun _ => ?_⟩
      rintro _ rfl _ rfl
      rw [nI_mul, nI_1]
      have := ih (k + 1) (by omega) (by omega)
      rw [show fa (k + 1) = fa k * (k + 1) from Nat.mul_comm _ _] at this
      exact this
  by_cases h0 : m = 0
  · subst h0
    exact b_X7_rows_4 hR ⟨fun _ => hq, fun c => absurd (by decide) c⟩
  · exact loop (m - 1) 1 (by omega) (Nat.le_refl _)
theorem e_X6_called {G : gG} {I : gI} {R : gR} {L : gL} {Q : gQ} {a b c : Int32} (hR : g_Fx R) (h : (¬ (b = 0 ∨ b = 1) → Q (some (.int (-9999))) SH I R L) ∧ (b = 0 ∨ b = 1 → (0 ≤ (I 3 6).toInt ∧ (I 3 6).toInt ≤ 9) ∧ ((¬ (ccB I a = true) → Q (some (.int (-9999))) SH I R L) ∧ (ccB I a = true → (c < (-1) → Q (some (.int (-9999))) SH I R L) ∧ (¬ c < (-1) → (c < bcI a → cbP I a b ∧ (∀ I_3 : gI, cbQ I a b I_3 → (¬ c = (-1) → (6 ≤ c → Q (some (.int (-9999))) SH I_3 R L) ∧ (¬ 6 ≤ c → vp_in c 6 ∧ (Q (some (.int (I_3 172 c.toNatClampNeg))) SH I_3 R L))) ∧ (c = (-1) → Q (some (.int (I_3 1 6))) SH I_3 R L))) ∧ (¬ c < bcI a → Q (some (.int (-9999))) SH I R L)))))) : Mt G mX6_called 30 0 0 [.ref 0, .int a, .int b, .int c] SH I R L Q := by
  refine go_start rfl (Nat.le_of_ble_eq_true rfl) rfl ?_
  refine go_iload_n dX6_called_0 rfl ?_
  refine go_callS0 (μ := mX6_called) [.int _] dX6_called_1 YX6_isKind lX6_62 rfl (Nat.le_of_ble_eq_true rfl) (Nat.le_of_ble_eq_true rfl) rfl (k_X6_isKind hR ?_)
  refine go_if_eq 28 dX6_called_4 (by decide) (fun c => ?_) (fun c => ?_)
  · have h := h.1 (b0.mp c)
    refine go_sipush (v := -9999) dX6_called_28 (by decide) ?_
    exact go_iret dX6_called_31 rfl rfl h
  · have h := h.2 (b1.mp c)
    refine go_aload_n dX6_called_7 rfl ?_
    refine go_iload_n dX6_called_8 rfl ?_
    obtain ⟨hp_1, h⟩ := h
    refine go_callV0 (μ := mX6_called) [.int _] dX6_called_9 YX6_canBeCalled lX6_190 rfl ⟨_, rfl, rfl⟩ rfl (Nat.le_of_ble_eq_true rfl) (Nat.le_of_ble_eq_true rfl) rfl (k_X6_canBeCalled hR hp_1 ?_)
    refine go_if_eq 28 dX6_called_12 (by decide) (fun c => ?_) (fun c => ?_)
    · have h := h.1 (b0.mp c)
      refine go_sipush (v := -9999) dX6_called_28 (by decide) ?_
      exact go_iret dX6_called_31 rfl rfl h
    · have h := h.2 (b1.mp c)
      refine go_iload_n dX6_called_15 rfl ?_
      refine go_iconst (v := -1) dX6_called_16 (by decide) ?_
      refine go_icmp_lt 28 dX6_called_17 (by decide) (fun c => ?_) (fun c => ?_)
      · have h := h.1 c
        refine go_sipush (v := -9999) dX6_called_28 (by decide) ?_
        exact go_iret dX6_called_31 rfl rfl h
      · have h := h.2 c
        refine go_iload_n dX6_called_20 rfl ?_
        refine go_iload_n dX6_called_21 rfl ?_
        refine go_callS0 (μ := mX6_called) [.int _] dX6_called_22 YJ6_bitCount_0f7a4 lX6_193 rfl (Nat.le_of_ble_eq_true rfl) (Nat.le_of_ble_eq_true rfl) rfl (k_J6_bitCount_0f7a4 hR ?_)
        refine go_icmp_lt 32 dX6_called_25 (by decide) (fun c => ?_) (fun c => ?_)
        · have h := h.1 c
          refine go_aload_n dX6_called_32 rfl ?_
          refine go_getR dX6_called_33 fX6_10 rfl rfl (hR 0 0 1 rfl) ?_
          refine go_iload_n dX6_called_36 rfl ?_
          refine go_iload_n dX6_called_37 rfl ?_
          obtain ⟨hp_2, h⟩ := h
          refine go_callV0 (μ := mX6_called) [.int _, .int _] dX6_called_38 YX5_callInBestOrder lX6_199 rfl ⟨_, rfl, rfl⟩ rfl (Nat.le_of_ble_eq_true rfl) (Nat.le_of_ble_eq_true rfl) rfl (k_X5_callInBestOrder hR hp_2 (fun I_3 hq => ?_))
          have h := h I_3 hq
          refine go_iload_n dX6_called_41 rfl ?_
          refine go_iconst (v := -1) dX6_called_42 (by decide) ?_
          refine go_icmp_ne 54 dX6_called_43 (by decide) (fun c => ?_) (fun c => ?_)
          · have h := h.1 c
            refine go_iload_n dX6_called_54 rfl ?_
            refine go_bipush (v := 6) dX6_called_55 (by decide) ?_
            refine go_icmp_ge 72 dX6_called_57 (by decide) (fun c => ?_) (fun c => ?_)
            · have h := h.1 c
              refine go_sipush (v := -9999) dX6_called_72 (by decide) ?_
              exact go_iret dX6_called_75 rfl rfl h
            · have h := h.2 c
              refine go_aload_n dX6_called_60 rfl ?_
              refine go_getR dX6_called_61 fX6_10 rfl rfl (hR 0 0 1 rfl) ?_
              refine go_getR dX6_called_64 fX6_205 rfl rfl (hR 1 5 172 rfl) ?_
              refine go_iload_n dX6_called_67 rfl ?_
              obtain ⟨hi, h⟩ := h
              refine go_iald dX6_called_68 rfl hi ?_
              refine go_goto 75 dX6_called_69 (by decide) ?_
              exact go_iret dX6_called_75 rfl rfl h
          · have h := h.2 c
            refine go_aload_n dX6_called_46 rfl ?_
            refine go_getR dX6_called_47 fX6_10 rfl rfl (hR 0 0 1 rfl) ?_
            refine go_getI dX6_called_50 fX6_202 rfl rfl ?_
            exact go_iret dX6_called_53 rfl rfl h
        · have h := h.2 c
          refine go_sipush (v := -9999) dX6_called_28 (by decide) ?_
          exact go_iret dX6_called_31 rfl rfl h
theorem e_X7_laysOrder {G : gG} {I : gI} {R : gR} {L : gL} {Q : gQ} {a b : Int32} (hR : g_Fx R) (h : Go G mX7_laysOrder 5 0 0 8 [some (.ref 310), some (.int a), none, some (.int b), some (.int 0), some (.int 0), none, none] [] SH I R L Q) : Mt G mX7_laysOrder 5 0 0 [.ref 310, .int a, .int b] SH I R L Q := by
  refine go_start rfl (Nat.le_of_ble_eq_true rfl) rfl ?_
  refine go_iload_n dX7_laysOrder_0 rfl ?_
  refine go_istore_n dX7_laysOrder_1 (Nat.le_of_ble_eq_true rfl) rfl ?_
  refine go_iconst (v := 0) dX7_laysOrder_2 (by decide) ?_
  refine go_istore dX7_laysOrder_3 (Nat.le_of_ble_eq_true rfl) rfl ?_
  refine go_iconst (v := 0) dX7_laysOrder_5 (by decide) ?_
  refine go_istore dX7_laysOrder_6 (Nat.le_of_ble_eq_true rfl) rfl ?_
  refine go_drop 2 ?_
  exact h
theorem b_X7_laysOrder_8 {G : gG} {I : gI} {R : gR} {L : gL} {Q : gQ} {v1 v3 v4 v5 : Int32} (hR : g_Fx R) (h : (v1 ≤ v5 → Q none SH I R L) ∧ (¬ v1 ≤ v5 → (0 ≤ ((v1 - 1) - v5).toInt ∧ ((v1 - 1) - v5).toInt ≤ 6) ∧ (¬ (nI (fa ((v1 - 1) - v5).toNatClampNeg)) = 0 ∧ (∀ v6_2 : Int32, v6_2 = (v3 / (nI (fa ((v1 - 1) - v5).toNatClampNeg))) → (0 ≤ ((v1 - 1) - v5).toInt ∧ ((v1 - 1) - v5).toInt ≤ 6) ∧ (¬ (nI (fa ((v1 - 1) - v5).toNatClampNeg)) = 0 ∧ (∀ v3_4 : Int32, v3_4 = (v3 - v3 / (nI (fa ((v1 - 1) - v5).toNatClampNeg)) * (nI (fa ((v1 - 1) - v5).toNatClampNeg))) → Go G mX7_laysOrder 5 0 0 42 [some (.ref 310), some (.int v1), none, some (.int v3_4), some (.int v4), some (.int v5), some (.int v6_2), some (.int 0)] [] SH I R L Q)))))) : Go G mX7_laysOrder 5 0 0 8 [some (.ref 310), some (.int v1), none, some (.int v3), some (.int v4), some (.int v5), none, none] [] SH I R L Q := by
  refine go_iload dX7_laysOrder_8 rfl ?_
  refine go_iload_n dX7_laysOrder_10 rfl ?_
  refine go_icmp_ge 114 dX7_laysOrder_11 (by decide) (fun c => ?_) (fun c => ?_)
  · have h := h.1 c
    exact go_vret dX7_laysOrder_114 rfl rfl h
  · have h := h.2 c
    refine go_iload_n dX7_laysOrder_14 rfl ?_
    refine go_iload_n dX7_laysOrder_15 rfl ?_
    refine go_iconst (v := 1) dX7_laysOrder_16 (by decide) ?_
    refine go_isub dX7_laysOrder_17 ?_
    refine go_iload dX7_laysOrder_18 rfl ?_
    refine go_isub dX7_laysOrder_20 ?_
    obtain ⟨hp_1, h⟩ := h
    refine go_callS0 (μ := mX7_laysOrder) [.int _] dX7_laysOrder_21 YX7_rows lX7_370 rfl (Nat.le_of_ble_eq_true rfl) (Nat.le_of_ble_eq_true rfl) rfl (k_X7_rows hR hp_1 ?_)
    obtain ⟨hn, h⟩ := h
    refine go_idiv dX7_laysOrder_24 hn ?_
    refine go_istore dX7_laysOrder_25 (Nat.le_of_ble_eq_true rfl) rfl ?_
    have h := h _ rfl
    refine go_iload_n dX7_laysOrder_27 rfl ?_
    refine go_iload_n dX7_laysOrder_28 rfl ?_
    refine go_iconst (v := 1) dX7_laysOrder_29 (by decide) ?_
    refine go_isub dX7_laysOrder_30 ?_
    refine go_iload dX7_laysOrder_31 rfl ?_
    refine go_isub dX7_laysOrder_33 ?_
    obtain ⟨hp_3, h⟩ := h
    refine go_callS0 (μ := mX7_laysOrder) [.int _] dX7_laysOrder_34 YX7_rows lX7_370 rfl (Nat.le_of_ble_eq_true rfl) (Nat.le_of_ble_eq_true rfl) rfl (k_X7_rows hR hp_3 ?_)
    obtain ⟨hn, h⟩ := h
    refine go_irem dX7_laysOrder_37 hn ?_
    refine go_istore_n dX7_laysOrder_38 (Nat.le_of_ble_eq_true rfl) rfl ?_
    have h := h _ rfl
    refine go_iconst (v := 0) dX7_laysOrder_39 (by decide) ?_
    refine go_istore dX7_laysOrder_40 (Nat.le_of_ble_eq_true rfl) rfl ?_
    exact h
theorem b_X7_laysOrder_42 {G : gG} {I : gI} {R : gR} {L : gL} {Q : gQ} {v1 v3 v4 v5 v6 v7 : Int32} (hR : g_Fx R) (h : (((v4 >>> (v7 &&& 31)) &&& 1) = 1 → Go G mX7_laysOrder 5 0 0 58 [some (.ref 310), some (.int v1), none, some (.int v3), some (.int v4), some (.int v5), some (.int v6), some (.int v7)] [] SH I R L Q) ∧ (¬ ((v4 >>> (v7 &&& 31)) &&& 1) = 1 → (v6 ≤ 0 → ∀ v4_6 : Int32, v4_6 = (v4 ||| (1 <<< (v7 &&& 31))) → vp_in v7 6 ∧ (vp_in v5 6 ∧ (∀ I_7 : gI, I_7 = up I 336 v5.toNatClampNeg (I 335 v7.toNatClampNeg) → ∀ v5_8 : Int32, v5_8 = v5 + 1 → Go G mX7_laysOrder 5 0 0 8 [some (.ref 310), some (.int v1), none, some (.int v3), some (.int v4_6), some (.int v5_8), none, none] [] SH I_7 R L Q))) ∧ (¬ v6 ≤ 0 → Go G mX7_laysOrder 5 0 0 58 [some (.ref 310), some (.int v1), none, some (.int v3), some (.int v4), some (.int v5), some (.int v6), some (.int v7)] [] SH I R L Q))) : Go G mX7_laysOrder 5 0 0 42 [some (.ref 310), some (.int v1), none, some (.int v3), some (.int v4), some (.int v5), some (.int v6), some (.int v7)] [] SH I R L Q := by
  refine go_iload dX7_laysOrder_42 rfl ?_
  refine go_iload dX7_laysOrder_44 rfl ?_
  refine go_ishr dX7_laysOrder_46 ?_
  refine go_iconst (v := 1) dX7_laysOrder_47 (by decide) ?_
  refine go_iand dX7_laysOrder_48 ?_
  refine go_iconst (v := 1) dX7_laysOrder_49 (by decide) ?_
  refine go_icmp_eq 58 dX7_laysOrder_50 (by decide) (fun c => ?_) (fun c => ?_)
  · have h := h.1 c
    exact h
  · have h := h.2 c
    refine go_iload dX7_laysOrder_53 rfl ?_
    refine go_if_le 85 dX7_laysOrder_55 (by decide) (fun c => ?_) (fun c => ?_)
    · have h := h.1 c
      refine go_iload dX7_laysOrder_85 rfl ?_
      refine go_iconst (v := 1) dX7_laysOrder_87 (by decide) ?_
      refine go_iload dX7_laysOrder_88 rfl ?_
      refine go_ishl dX7_laysOrder_90 ?_
      refine go_ior dX7_laysOrder_91 ?_
      refine go_istore dX7_laysOrder_92 (Nat.le_of_ble_eq_true rfl) rfl ?_
      have h := h _ rfl
      refine go_aload_n dX7_laysOrder_94 rfl ?_
      refine go_getR dX7_laysOrder_95 fX7_94 rfl rfl (hR 310 43 336 rfl) ?_
      refine go_iload dX7_laysOrder_98 rfl ?_
      refine go_aload_n dX7_laysOrder_100 rfl ?_
      refine go_getR dX7_laysOrder_101 fX7_91 rfl rfl (hR 310 42 335 rfl) ?_
      refine go_iload dX7_laysOrder_104 rfl ?_
      obtain ⟨hi, h⟩ := h
      refine go_iald dX7_laysOrder_106 rfl hi ?_
      obtain ⟨hi, h⟩ := h
      refine go_iast dX7_laysOrder_107 rfl hi ?_
      have h := h _ rfl
      refine go_iinc dX7_laysOrder_108 rfl (Nat.le_of_ble_eq_true rfl) rfl ?_
      have h := h _ rfl
      refine go_goto 8 dX7_laysOrder_111 (by decide) ?_
      refine go_drop 6 ?_
      refine go_drop 7 ?_
      exact h
    · have h := h.2 c
      exact h
theorem b_X7_laysOrder_58 {G : gG} {I : gI} {R : gR} {L : gL} {Q : gQ} {v1 v3 v4 v5 v6 v7 : Int32} (hR : g_Fx R) (h : (¬ ((v4 >>> (v7 &&& 31)) &&& 1) = 1 → ∀ v6_11 : Int32, v6_11 = (v6 - 1) → ∀ v7_12 : Int32, v7_12 = v7 + 1 → Go G mX7_laysOrder 5 0 0 42 [some (.ref 310), some (.int v1), none, some (.int v3), some (.int v4), some (.int v5), some (.int v6_11), some (.int v7_12)] [] SH I R L Q) ∧ (((v4 >>> (v7 &&& 31)) &&& 1) = 1 → ∀ v6_13 : Int32, v6_13 = (v6 - 0) → ∀ v7_14 : Int32, v7_14 = v7 + 1 → Go G mX7_laysOrder 5 0 0 42 [some (.ref 310), some (.int v1), none, some (.int v3), some (.int v4), some (.int v5), some (.int v6_13), some (.int v7_14)] [] SH I R L Q)) : Go G mX7_laysOrder 5 0 0 58 [some (.ref 310), some (.int v1), none, some (.int v3), some (.int v4), some (.int v5), some (.int v6), some (.int v7)] [] SH I R L Q := by
  refine go_iload dX7_laysOrder_58 rfl ?_
  refine go_iload dX7_laysOrder_60 rfl ?_
  refine go_iload dX7_laysOrder_62 rfl ?_
  refine go_ishr dX7_laysOrder_64 ?_
  refine go_iconst (v := 1) dX7_laysOrder_65 (by decide) ?_
  refine go_iand dX7_laysOrder_66 ?_
  refine go_iconst (v := 1) dX7_laysOrder_67 (by decide) ?_
  refine go_icmp_ne 75 dX7_laysOrder_68 (by decide) (fun c => ?_) (fun c => ?_)
  · have h := h.1 c
    refine go_iconst (v := 1) dX7_laysOrder_75 (by decide) ?_
    refine go_isub dX7_laysOrder_76 ?_
    refine go_istore dX7_laysOrder_77 (Nat.le_of_ble_eq_true rfl) rfl ?_
    have h := h _ rfl
    refine go_iinc dX7_laysOrder_79 rfl (Nat.le_of_ble_eq_true rfl) rfl ?_
    have h := h _ rfl
    refine go_goto 42 dX7_laysOrder_82 (by decide) ?_
    exact h
  · have h := h.2 c
    refine go_iconst (v := 0) dX7_laysOrder_71 (by decide) ?_
    refine go_goto 76 dX7_laysOrder_72 (by decide) ?_
    refine go_isub dX7_laysOrder_76 ?_
    refine go_istore dX7_laysOrder_77 (Nat.le_of_ble_eq_true rfl) rfl ?_
    have h := h _ rfl
    refine go_iinc dX7_laysOrder_79 rfl (Nat.le_of_ble_eq_true rfl) rfl ?_
    have h := h _ rfl
    refine go_goto 42 dX7_laysOrder_82 (by decide) ?_
    exact h
theorem rm_comp (c d : Nat → Nat) (q : Nat) : rm (fun i => c (d i)) q = fun i => c (rm d q i) := by
  funext i; unfold rm; split <;> rfl
theorem tb6 {u i : Nat} (hu : u < 64) (hi : i < 6) : (nI u >>> (nI i &&& 31)) &&& 1 = 1 ↔ u.testBit i = true := tb_iff (by omega) (by omega)
/-- the order with a number -/
theorem k_X7_laysOrder {G : gG} {I : gI} {R : gR} {L : gL} {Q : gQ} {a b : Int32} {m j : Nat} {c : Nat → Nat} (hR : g_Fx R) (hm : m ≤ 6) (ea : a = nI m) (hj : j < fa m) (eb : b = nI j) (hc : ∀ i, i < m → I 335 i = nI (c i))
    (hq : ∀ I1 : gI, ((∀ x, x ≠ 336 → I1 x = I x) ∧ ∀ i, i < m → I1 336 i = nI ((nthF m c j).getD i 0)) → Q none SH I1 R L) : Mt G mX7_laysOrder 5 0 0 [.ref 310, .int a, .int b] SH I R L Q := by
  subst ea eb
  have fb : ∀ n, n ≤ 6 → fa n ≤ 720 := by decide
  refine e_X7_laysOrder hR ?_
  have loop : ∀ (n k u jj : Nat) (d : Nat → Nat) (pre : List Nat) (J : gI), k + n = m → u < 64 → jj < fa n → sq (fun i => i < m ∧ u.testBit i = false) d n → pre.length = k → nthF m c j = pre ++ nthF n (fun i => c (d i)) jj → (∀ x, x ≠ 336 → J x = I x) → (∀ i, i < k → J 336 i = nI (pre.getD i 0)) → Go G mX7_laysOrder 5 0 0 8 [some (.ref 310), some (.int (nI m)), none, some (.int (nI jj)), some (.int (nI u)), some (.int (nI k)), none, none] [] SH J R L Q := by
    intro n
    induction n with
    | zero =>
      intro k u jj d pre J e hu hjj hd hpl hp jx j3
      refine b_X7_laysOrder_8 hR ⟨fun _ => hq J ⟨jx, fun i hi => ?_⟩, fun c => absurd (by rw [show k = m by omega]; exact ti_le.mpr (Int.le_refl _)) c⟩
      rw [hp, show nthF 0 (fun i => c (d i)) jj = [] from rfl, List.append_nil]
      exact j3 i (by omega)
    | succ n ih =>
      intro k u jj d pre J e hu hjj hd hpl hp jx j3
      have s1 : nI m - 1 - nI k = nI n := by
        rw [show (1 : Int32) = nI 1 from rfl, nI_sub (by omega) (by omega), nI_sub (by omega) (by omega)]; congr 1; omega
      have fn := fb n (by omega)
      have fnp := fa_pos n
      have fn1 := fb (n + 1) (by omega)
      have nz : ¬ nI (fa n) = 0 := nI_ne0 fnp (by omega)
      refine b_X7_laysOrder_8 hR ⟨fun c => absurd c (nI_ge (by omega) (by omega)), fun _ => ?_⟩
      rw [s1, nI_toInt (by omega), nI_clamp (by omega)]
      refine ⟨⟨by omega, by omega⟩, nz, ?_⟩
      rintro _ rfl
      refine ⟨⟨by omega, by omega⟩, nz, ?_⟩
      rintro _ rfl
      rw [nI_div (by omega) (by omega), nI_mul, nI_sub (Nat.div_mul_le_self _ _) (by omega)]
      have em : jj - jj / fa n * fa n = jj % fa n := by have := Nat.div_add_mod jj (fa n); rw [Nat.mul_comm] at this; omega
      rw [em]
      have hq0 : jj / fa n ≤ n := by
        have : jj / fa n < n + 1 := Nat.div_lt_of_lt_mul (by rw [Nat.mul_comm]; exact hjj)
        omega
      generalize hqd : jj / fa n = q at *
      have ltq := (hd.2.1 q (by omega)).1
      have scan : ∀ z i w, i + z = d q → w ≤ q → (∀ x, x < w → d x < i) → (∀ x, w ≤ x → x < n + 1 → i ≤ d x) → Go G mX7_laysOrder 5 0 0 42 [some (.ref 310), some (.int (nI m)), none, some (.int (nI (jj % fa n))), some (.int (nI u)), some (.int (nI k)), some (.int (nI (q - w))), some (.int (nI i))] [] SH J R L Q := by
        intro z
        induction z with
        | zero =>
          intro i w ei hw h1 h2
          have hi6 : i < 6 := by omega
          have iq : i = d q := by omega
          have wq : w = q := by
            rcases Nat.lt_or_ge w q with g | g
            · have a1 := hd.1 w q g (by omega)
              have a2 := h2 w (Nat.le_refl _) (by omega)
              omega
            · omega
          have un : ¬ u.testBit i = true := by rw [iq, (hd.2.1 q (by omega)).2]; decide
          refine b_X7_laysOrder_42 hR ?_
          rw [tb6 hu hi6]
          refine ⟨fun g => absurd g un, fun _ => ⟨fun _ => ?_, fun g => absurd (by rw [wq, Nat.sub_self]; decide) g⟩⟩
          rintro _ rfl
          refine ⟨vp_in_nI hi6 (by decide), vp_in_nI (by omega) (by decide), ?_⟩
          rintro _ rfl _ rfl
          rw [nI_shl1 i (by omega), nx_or, nI_1, nI_clamp (by omega), nI_clamp (by omega)]
          have hu' : u ||| 2 ^ i < 64 := Nat.or_lt_two_pow (n := 6) hu (Nat.pow_lt_pow_right (by decide) hi6)
          refine ih (k + 1) (u ||| 2 ^ i) (jj % fa n) (rm d q) (pre ++ [c (d q)]) _ (by omega) hu' (Nat.mod_lt _ fnp) ?_ (by simp [hpl]) ?_ (fun x hx => by rw [up_off _ hx, jx x hx]) (fun y hy => ?_)
          · refine sq_congr (sq_rm hd (q := q) hq0) (fun x => ?_)
            rw [Nat.testBit_or, Nat.testBit_two_pow, ← iq]
            constructor
            · rintro ⟨⟨g1, g2⟩, g3⟩
              exact ⟨g1, by rw [g2, Bool.false_or]; exact decide_eq_false (fun g => g3 g.symm)⟩
            · rintro ⟨g1, g2⟩
              rw [Bool.or_eq_false_iff] at g2
              exact ⟨⟨g1, g2.1⟩, fun g => absurd g2.2 (by rw [g]; simp)⟩
          · rw [hp]
            simp only [nthF, hqd, rm_comp, List.append_assoc, List.singleton_append]
          · by_cases hyk : y = k
            · rw [hyk, up_eq, jx 335 (by decide), iq, hc _ ltq, ← hpl]; simp
            · rw [up_ni hyk, j3 y (by omega)]
              congr 1
              simp [List.getD_eq_getElem?_getD, List.getElem?_append_left (show y < pre.length by omega)]
        | succ z ihz =>
          intro i w ei hw h1 h2
          have hi6 : i < 6 := by omega
          have t58 : Go G mX7_laysOrder 5 0 0 58 [some (.ref 310), some (.int (nI m)), none, some (.int (nI (jj % fa n))), some (.int (nI u)), some (.int (nI k)), some (.int (nI (q - w))), some (.int (nI i))] [] SH J R L Q := by
            refine b_X7_laysOrder_58 hR ?_
            rw [tb6 hu hi6]
            refine ⟨fun un => ?_, fun us => ?_⟩
            · rintro _ rfl _ rfl
              obtain ⟨x, hx, ex⟩ := hd.2.2 i ⟨by omega, by simpa using un⟩
              have xw : x = w := by
                rcases Nat.lt_trichotomy x w with g | g | g
                · have := h1 x g; omega
                · exact g
                · have a1 := hd.1 w x g hx
                  have a2 := h2 w (Nat.le_refl _) (by omega)
                  omega
              have wq : w < q := by
                rcases Nat.lt_or_ge w q with g | g
                · exact g
                · have : w = q := by omega
                  rw [xw, this] at ex; omega
              rw [show (1 : Int32) = nI 1 from rfl, nI_sub (by omega) (by omega), nI_add, show q - w - 1 = q - (w + 1) by omega]
              refine ihz (i + 1) (w + 1) (by omega) (by omega) (fun y hy => ?_) (fun y hy hy2 => ?_)
              · rcases Nat.lt_or_ge y w with g | g
                · have := h1 y g; omega
                · rw [show y = w by omega, ← xw, ex]; omega
              · have := hd.1 w y (by omega) hy2
                rw [← xw, ex] at this; omega
            · rintro _ rfl _ rfl
              rw [Int32.sub_zero, nI_1]
              refine ihz (i + 1) w (by omega) hw (fun y hy => by have := h1 y hy; omega) (fun y hy hy2 => ?_)
              have := h2 y hy hy2
              have : d y ≠ i := fun g => by have := (hd.2.1 y hy2).2; rw [g, us] at this; cases this
              omega
          refine b_X7_laysOrder_42 hR ?_
          rw [tb6 hu hi6]
          refine ⟨fun _ => t58, fun un => ⟨fun g => ?_, fun _ => t58⟩⟩
          exfalso
          rw [show (0 : Int32) = nI 0 from rfl, nI_leI (by omega) (by decide)] at g
          have wq : w = q := by omega
          obtain ⟨x, hx, ex⟩ := hd.2.2 i ⟨by omega, by simpa using un⟩
          rcases Nat.lt_or_ge x w with g2 | g2
          · have := h1 x g2; omega
          · rcases Nat.lt_or_ge w x with g3 | g3
            · have a1 := hd.1 w x g3 hx
              have a2 := h2 w (Nat.le_refl _) (by omega)
              omega
            · rw [show x = q by omega] at ex; omega
      have := scan (d q) 0 0 (by omega) (Nat.zero_le _) (fun x hx => by omega) (fun x _ _ => Nat.zero_le _)
      rw [Nat.sub_zero] at this
      exact this
  refine loop m 0 0 j (fun i => i) [] I (by omega) (by decide) hj ⟨fun i j h _ => h, fun i hi => ⟨hi, Nat.zero_testBit i⟩, fun e he => ⟨e, he.1, rfl⟩⟩ rfl rfl (fun _ _ => rfl) (fun i hi => by omega)
