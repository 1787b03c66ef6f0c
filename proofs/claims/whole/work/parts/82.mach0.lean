theorem e_X3_release {G : gG} {I : gI} {R : gR} {L : gL} {Q : gQ} {b : Int32} (hR : g_Fx R) (h : Go G mX3_release 3 0 0 2 [some (.ref 306), some (.int b), some (.int 0), none] [] SH I R L Q) : Mt G mX3_release 3 0 0 [.ref 306, .int b] SH I R L Q := by
  refine go_start rfl (Nat.le_of_ble_eq_true rfl) rfl ?_
  refine go_iconst (v := 0) dX3_release_0 (by decide) ?_
  refine go_istore_n dX3_release_1 (Nat.le_of_ble_eq_true rfl) rfl ?_
  exact h
theorem b_X3_release_2 {G : gG} {I : gI} {R : gR} {L : gL} {Q : gQ} {v1 v2 : Int32} (hR : g_Fx R) (h : (64 ≤ v2 → Q none SH I R L) ∧ (¬ 64 ≤ v2 → ((I 306 10) ≤ 0 → Q none SH I R L) ∧ (¬ (I 306 10) ≤ 0 → (64 < (I 306 10) → Q none SH I R L) ∧ (¬ 64 < (I 306 10) → vp_in ((I 306 10) - 1) 64 ∧ (∀ v3_1 : Int32, v3_1 = (I 308 ((I 306 10) - 1).toNatClampNeg) → (v1 ≤ bnd v3_1 → ∃ y_2, R 306 6 = some y_2 ∧ g_La y_2 ∧ (∀ I_3 : gI, I_3 = emI I y_2 (10000 + v3_1) → ∀ I_4 : gI, I_4 = drW I_3 → ∀ v2_5 : Int32, v2_5 = v2 + 1 → Go G mX3_release 3 0 0 2 [some (.ref 306), some (.int v1), some (.int v2_5), none] [] SH I_4 R L Q)) ∧ (¬ v1 ≤ bnd v3_1 → Q none SH I R L)))))) : Go G mX3_release 3 0 0 2 [some (.ref 306), some (.int v1), some (.int v2), none] [] SH I R L Q := by
  refine go_iload_n dX3_release_2 rfl ?_
  refine go_bipush (v := 64) dX3_release_3 (by decide) ?_
  refine go_icmp_ge 70 dX3_release_5 (by decide) (fun c => ?_) (fun c => ?_)
  · have h := h.1 c
    exact go_vret dX3_release_70 rfl rfl h
  · have h := h.2 c
    refine go_aload_n dX3_release_8 rfl ?_
    refine go_getI dX3_release_9 fX3_132 rfl rfl ?_
    refine go_if_le 70 dX3_release_12 (by decide) (fun c => ?_) (fun c => ?_)
    · have h := h.1 c
      exact go_vret dX3_release_70 rfl rfl h
    · have h := h.2 c
      refine go_aload_n dX3_release_15 rfl ?_
      refine go_getI dX3_release_16 fX3_132 rfl rfl ?_
      refine go_aload_n dX3_release_19 rfl ?_
      refine go_getR dX3_release_20 fX3_15 rfl rfl (hR 306 9 308 rfl) ?_
      refine go_alen (v := 64) 0 dX3_release_23 rfl (by decide) (by decide) ?_
      refine go_icmp_gt 70 dX3_release_24 (by decide) (fun c => ?_) (fun c => ?_)
      · have h := h.1 c
        exact go_vret dX3_release_70 rfl rfl h
      · have h := h.2 c
        refine go_aload_n dX3_release_27 rfl ?_
        refine go_getR dX3_release_28 fX3_15 rfl rfl (hR 306 9 308 rfl) ?_
        refine go_aload_n dX3_release_31 rfl ?_
        refine go_getI dX3_release_32 fX3_132 rfl rfl ?_
        refine go_iconst (v := 1) dX3_release_35 (by decide) ?_
        refine go_isub dX3_release_36 ?_
        obtain ⟨hi, h⟩ := h
        refine go_iald dX3_release_37 rfl hi ?_
        refine go_istore_n dX3_release_38 (Nat.le_of_ble_eq_true rfl) rfl ?_
        have h := h _ rfl
        refine go_iload_n dX3_release_39 rfl ?_
        refine go_callS0 (μ := mX3_release) [.int _] dX3_release_40 YX3_bindingOf lX3_154 rfl (Nat.le_of_ble_eq_true rfl) (Nat.le_of_ble_eq_true rfl) rfl (k_X3_bindingOf hR ?_)
        refine go_iload_n dX3_release_43 rfl ?_
        refine go_icmp_ge 48 dX3_release_44 (by decide) (fun c => ?_) (fun c => ?_)
        · have h := h.1 c
          refine go_aload_n dX3_release_48 rfl ?_
          obtain ⟨y_2, hry_2, hy_2, h⟩ := h
          refine go_getR dX3_release_49 fX3_37 rfl rfl hry_2 ?_
          refine go_sipush (v := 10000) dX3_release_52 (by decide) ?_
          refine go_iload_n dX3_release_55 rfl ?_
          refine go_iadd dX3_release_56 ?_
          refine go_callV0 (μ := mX3_release) [.int _] dX3_release_57 YX2_emit lX3_163 (La_s0 hy_2) ⟨_, rfl, rfl⟩ rfl (Nat.le_of_ble_eq_true rfl) (Nat.le_of_ble_eq_true rfl) rfl (k_X2_emit hR hy_2 ?_)
          have h := h _ rfl
          refine go_aload_n dX3_release_60 rfl ?_
          refine go_callV0 (μ := mX3_release) [] dX3_release_61 YX3_dropWaiting lX3_182 rfl ⟨_, rfl, rfl⟩ rfl (Nat.le_of_ble_eq_true rfl) (Nat.le_of_ble_eq_true rfl) rfl (k_X3_dropWaiting hR ?_)
          have h := h _ rfl
          refine go_iinc dX3_release_64 rfl (Nat.le_of_ble_eq_true rfl) rfl ?_
          have h := h _ rfl
          refine go_goto 2 dX3_release_67 (by decide) ?_
          refine go_drop 3 ?_
          exact h
        · have h := h.2 c
          exact go_vret dX3_release_47 rfl rfl h
/-! the class's stack of what waits, and what it has put out -/
def stN (f : Nat → Int32) : List Nat → Prop
  | [] => True
  | x :: W => f W.length = nI x ∧ stN f W
def lsN (f : Nat → Int32) (l : List Nat) : Prop := ∀ k, k < l.length → f k = nI (l.getD k 0)
theorem stN_of {f g : Nat → Int32} : ∀ {W : List Nat}, (∀ j, j < W.length → g j = f j) → stN f W → stN g W
  | [], _, _ => trivial
  | x :: W, h, hs => ⟨(h W.length (by simp)).trans hs.1, stN_of (fun j hj => h j (by simp; omega)) hs.2⟩
theorem lsN_of {f g : Nat → Int32} {l : List Nat} (h : ∀ j, j < l.length → g j = f j) (hs : lsN f l) : lsN g l := fun k hk => (h k hk).trans (hs k hk)
theorem lsN_snoc {f g : Nat → Int32} {l : List Nat} {x : Nat} (h : ∀ j, j < l.length → g j = f j) (hx : g l.length = nI x) (hs : lsN f l) : lsN g (l ++ [x]) := by
  intro k hk
  rw [List.length_append, List.length_singleton] at hk
  rcases Nat.lt_or_ge k l.length with c | c
  · rw [h k c, hs k c]
    simp [List.getD, List.getElem?_append_left c]
  · rw [show k = l.length by omega, hx]
    simp [List.getD]
def cK (I : gI) (y : Nat) (W out : List Nat) : Prop := I 306 10 = nI W.length ∧ stN (I 308) W ∧ I 306 11 = nI (opN W) ∧ I y 1 = nI out.length ∧ lsN (I (y + 1)) out
def frT (I I' : gI) (y : Nat) : Prop := ∀ c j, ¬ (c = 306 ∧ (j = 10 ∨ j = 11)) → c ≠ 308 → ¬ (c = y ∧ j = 1) → c ≠ y + 1 → I' c j = I c j
theorem frT.refl (I : gI) (y : Nat) : frT I I y := fun _ _ _ _ _ _ => rfl
theorem frT.trans {I J K : gI} {y : Nat} (h : frT I J y) (g : frT J K y) : frT I K y := fun c j a b d e => (g c j a b d e).trans (h c j a b d e)
theorem La_all : ∀ y, y < 340 → SH[y]? = some (0, 2) → 136 ≤ y ∧ y + 7 ≤ 164 := by decide +kernel
theorem La_rng {y : Nat} (h : g_La y) : 136 ≤ y ∧ y + 7 ≤ 164 := by
  have h1 := La_s0 h
  have h2 : y < SH.length := (List.getElem?_eq_some_iff.mp h1).1
  exact La_all y (by have : SH.length = 340 := by decide +kernel
                     omega) h1
theorem bnd_N : ∀ x, x < 41 → bnd (nI x) = nI (bdN x) := by decide +kernel
theorem cK_em {I : gI} {y x : Nat} {W out : List Nat} (hy : g_La y) (h : cK I y W out) (ho : out.length < 300) : cK (emI I y (nI x)) y W (out ++ [x]) ∧ frT I (emI I y (nI x)) y := by
  obtain ⟨h1, h2, h3, h4, h5⟩ := h
  have hr := La_rng hy
  have e : emI I y (nI x) = up (up I (y + 1) out.length (nI x)) y 1 (nI (out.length + 1)) := by
    unfold emI
    rw [h4, if_neg (nI_pos (by omega)), if_neg (show ¬ (300 : Int32) ≤ nI out.length from nI_ge (b := 300) ho (by decide)), nI_clamp (by omega)]
    simp only
    rw [up_nc (by omega), h4, nI_1]
  rw [e]
  refine ⟨⟨?_, ?_, ?_, ?_, ?_⟩, fun c j a b d f => ?_⟩
  · rw [up_nc (by omega), up_nc (by omega)]; exact h1
  · refine stN_of (fun j _ => ?_) h2
    rw [up_nc (by omega), up_nc (by omega)]
  · rw [up_nc (by omega), up_nc (by omega)]; exact h3
  · rw [up_eq]; simp
  · refine lsN_snoc (fun j hj => ?_) ?_ h5
    · rw [up_nc (by omega), up_ni (by omega)]
    · rw [up_nc (by omega), up_eq]
  · rw [up_ne (by omega), up_nc (by omega)]
theorem cK_dr {I : gI} {y x : Nat} {W out : List Nat} (hy : g_La y) (h : cK I y (x :: W) out) (hW : W.length < 64) (hx : x < 41) : cK (drW I) y W out ∧ frT I (drW I) y := by
  obtain ⟨h1, h2, h3, h4, h5⟩ := h
  have hr := La_rng hy
  have ol : opN W ≤ W.length := List.countP_le_length
  rw [List.length_cons] at h1
  have e : drW I = up (up I 306 10 (nI W.length)) 306 11 (nI (opN W)) := by
    unfold drW
    rw [h1, if_neg (nI_nle (by omega) (by omega)), if_neg (show ¬ (64 : Int32) < nI (W.length + 1) from nI_nlt (b := W.length + 1) (a := 64) (by omega) (by decide)), nI_pred]
    simp only
    rw [up_eq, nI_clamp (by omega), up_nc (by decide), h2.1, up_ni (by decide), h3]
    have c32 : nI x = 32 ↔ x = 32 := nI_eq (b := 32) (by omega) (by decide)
    have c11 : nI x = 11 ↔ x = 11 := nI_eq (b := 11) (by omega) (by decide)
    have c40 : nI x = 40 ↔ x = 40 := nI_eq (b := 40) (by omega) (by decide)
    simp only [c32, c11, c40]
    by_cases c : x = 32 ∨ x = 11 ∨ x = 40
    · rw [if_pos c]
      have : opN (x :: W) = opN W + 1 := by
        have hu : unN x = true := by rcases c with c | c | c <;> subst c <;> rfl
        simp [opN, hu]
      rw [this, nI_pred]
    · rw [if_neg c]
      have : opN (x :: W) = opN W := by
        have hu : unN x = false := by unfold unN; simp; omega
        simp [opN, hu]
      rw [this, show (0 : Int32) = nI 0 from rfl, nI_sub (by omega) (by omega), Nat.sub_zero]
  rw [e]
  refine ⟨⟨?_, ?_, ?_, ?_, ?_⟩, fun c j a b d f => ?_⟩
  · rw [up_ni (by decide), up_eq]
  · refine stN_of (fun j _ => ?_) h2.2
    rw [up_nc (by decide), up_nc (by decide)]
  · rw [up_eq]
  · rw [up_nc (by omega), up_nc (by omega)]; exact h4
  · refine lsN_of (fun j hj => ?_) h5
    rw [up_nc (by omega), up_nc (by omega)]
  · rw [up_ne (by omega), up_ne (by omega)]
theorem cK_pu {I : gI} {y x : Nat} {W out : List Nat} (hy : g_La y) (h : cK I y W out) (hW : W.length < 64) (hx : unN x = false) : cK (puW I (nI x)) y (x :: W) out ∧ frT I (puW I (nI x)) y := by
  obtain ⟨h1, h2, h3, h4, h5⟩ := h
  have hr := La_rng hy
  have e : puW I (nI x) = up (up I 308 W.length (nI x)) 306 10 (nI (W.length + 1)) := by
    unfold puW
    rw [h1, if_neg (nI_pos (by omega)), if_neg (show ¬ (64 : Int32) ≤ nI W.length from nI_ge (b := 64) hW (by decide)), nI_clamp (by omega)]
    simp only
    rw [up_nc (by decide), h1, nI_1]
  rw [e]
  refine ⟨⟨?_, ⟨?_, ?_⟩, ?_, ?_, ?_⟩, fun c j a b d f => ?_⟩
  · rw [up_eq]; rfl
  · rw [up_nc (by decide), up_eq]
  · refine stN_of (fun j hj => ?_) h2
    rw [up_nc (by decide), up_ni (by omega)]
  · rw [up_ni (by decide), up_nc (by decide), h3]
    simp [opN, hx]
  · rw [up_nc (by omega), up_nc (by omega)]; exact h4
  · refine lsN_of (fun j hj => ?_) h5
    rw [up_nc (by omega), up_nc (by omega)]
  · rw [up_ne (by omega), up_nc (by omega)]
/-- one is opened -/
theorem cK_op {I : gI} {y x : Nat} {W out : List Nat} (hy : g_La y) (h : cK I y W out) (hW : W.length < 64) (hx : unN x = true) : cK (puW (up I 306 11 (I 306 11 + 1)) (nI x)) y (x :: W) out ∧ frT I (puW (up I 306 11 (I 306 11 + 1)) (nI x)) y := by
  obtain ⟨h1, h2, h3, h4, h5⟩ := h
  have hr := La_rng hy
  have e : puW (up I 306 11 (I 306 11 + 1)) (nI x) = up (up (up I 306 11 (nI (opN W + 1))) 308 W.length (nI x)) 306 10 (nI (W.length + 1)) := by
    unfold puW
    rw [up_ni (by decide), h1, if_neg (nI_pos (by omega)), if_neg (show ¬ (64 : Int32) ≤ nI W.length from nI_ge (b := 64) hW (by decide)), nI_clamp (by omega)]
    simp only
    rw [up_nc (by decide), up_ni (by decide), h1, nI_1, h3, nI_1]
  rw [e]
  refine ⟨⟨?_, ⟨?_, ?_⟩, ?_, ?_, ?_⟩, fun c j a b d f => ?_⟩
  · rw [up_eq]; rfl
  · rw [up_nc (by decide), up_eq]
  · refine stN_of (fun j hj => ?_) h2
    rw [up_nc (by decide), up_ni (by omega), up_nc (by decide)]
  · rw [up_ni (by decide), up_nc (by decide), up_eq]
    simp [opN, hx]
  · rw [up_nc (by omega), up_nc (by omega), up_nc (by omega)]; exact h4
  · refine lsN_of (fun j hj => ?_) h5
    rw [up_nc (by omega), up_nc (by omega), up_nc (by omega)]
  · rw [up_ne (by omega), up_nc (by omega), up_ne (by omega)]
theorem k_X3_release {G : gG} {I : gI} {R : gR} {L : gL} {Q : gQ} {y b : Nat} {W out : List Nat} (hR : g_Fx R) (hr : R 306 6 = some y) (hy : g_La y) (h : cK I y W out) (hW : W.length ≤ 62) (hx : ∀ x ∈ W, x < 41) (ho : out.length + W.length ≤ 300) (hb : b < 2 ^ 31)
    (hq : ∀ I', cK I' y (rsN b W) (out ++ cd (ppN b W)) → frT I I' y → Q none SH I' R L) : Mt G mX3_release 3 0 0 [.ref 306, .int (nI b)] SH I R L Q := by
  refine e_X3_release hR ?_
  have main : ∀ (W : List Nat) (i : Nat) (J : gI) (o : List Nat), cK J y W o → i + W.length ≤ 62 → (∀ x ∈ W, x < 41) → o.length + W.length ≤ 300 → (∀ I', cK I' y (rsN b W) (o ++ cd (ppN b W)) → frT J I' y → Q none SH I' R L) → Go G mX3_release 3 0 0 2 [some (.ref 306), some (.int (nI b)), some (.int (nI i)), none] [] SH J R L Q := by
    intro W
    induction W with
    | nil =>
      intro i J o h hi hx ho hq
      have hz := hq J (by simpa [rsN, ppN, cd] using h) (frT.refl _ _)
      refine b_X3_release_2 hR ⟨fun c => absurd c (nI_ge (b := 64) (by omega) (by decide)), fun _ => ?_⟩
      rw [h.1]
      exact ⟨fun _ => hz, fun c => absurd (by decide) c⟩
    | cons x W ih =>
      intro i J o h hi hx ho hq
      rw [List.length_cons] at hi ho
      have hx1 := hx x (by simp)
      refine b_X3_release_2 hR ⟨fun c => absurd c (nI_ge (b := 64) (by omega) (by decide)), fun _ => ?_⟩
      rw [h.1, List.length_cons]
      refine ⟨fun c => absurd c (nI_nle (by omega) (by omega)), fun _ => ⟨fun c => absurd c (nI_nlt (b := W.length + 1) (a := 64) (by omega) (by decide)), fun _ => ?_⟩⟩
      rw [nI_pred, nI_clamp (by omega), h.2.1.1]
      refine ⟨vp_in_nI (by omega) (by decide), ?_⟩
      rintro _ rfl
      have hbx : bdN x ≤ 7 := by unfold bdN; repeat' split <;> first | omega | skip
      rw [bnd_N x hx1, nleI hb (by omega)]
      refine ⟨fun c => ⟨y, hr, hy, ?_⟩, fun c => ?_⟩
      · rintro _ rfl _ rfl _ rfl
        rw [show (10000 : Int32) + nI x = nI (10000 + x) from nI_add 10000 x, nI_1]
        have k1 := cK_em (x := 10000 + x) hy h (by omega)
        have k2 := cK_dr hy k1.1 (by omega) hx1
        refine ih (i + 1) _ _ k2.1 (by omega) (fun z hz => hx z (by simp [hz])) (by simp; omega) (fun I' g1 g2 => hq I' ?_ ((k1.2.trans k2.2).trans g2))
        have e1 : rsN b (x :: W) = rsN b W := by simp [rsN, c]
        have e2 : ppN b (x :: W) = x :: ppN b W := by simp [ppN, c]
        rw [e1, e2]
        simpa [cd] using g1
      · refine hq J ?_ (frT.refl _ _)
        have e1 : rsN b (x :: W) = x :: W := by simp [rsN, c]
        have e2 : ppN b (x :: W) = [] := by simp [ppN, c]
        rw [e1, e2]
        simpa [cd] using h
  exact main W 0 I out h (by omega) hx ho hq
