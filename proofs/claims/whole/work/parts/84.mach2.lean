theorem brN_rs {b : Nat} (hb : 0 < b) : ∀ A : List Nat, brN (rsN b A) = brN A
  | [] => rfl
  | x :: A => by
    unfold rsN
    rw [List.dropWhile_cons]
    by_cases hx : b ≤ bdN x
    · simp only [hx, decide_true, if_true]
      have h32 : x ≠ 32 := fun e => by
        rw [e, show bdN 32 = 0 from rfl] at hx
        omega
      have ih := brN_rs hb A
      unfold rsN at ih
      rw [ih]
      simp [brN, h32]
    · simp [hx]
theorem spl32 : ∀ A : List Nat, brN A ≠ 0 → ∃ P B, A = P ++ 32 :: B ∧ brN P = 0
  | [], h => absurd rfl h
  | x :: A, h => by
    by_cases hx : x = 32
    · exact ⟨[], A, by rw [hx]; rfl, rfl⟩
    · obtain ⟨P, B, e1, e2⟩ := spl32 A (by simpa [brN, hx] using h)
      exact ⟨x :: P, B, by rw [e1]; rfl, by simpa [brN, hx] using e2⟩
theorem br_len (A : List Nat) : brN A ≤ A.length := List.count_le_length
theorem k_X3_readBetween {G : gG} {I : gI} {R : gR} {L : gL} {Q : gQ} {y vb n pl tk v a : Nat} {pre A C Lg o : List Nat} (hR : g_Fx R) (hr : R 306 6 = some y) (hy : g_La y) (h : cL I y pre (A, C, Lg, o, false)) (hlx : lxR I n pl tk v a) (hok : okLS vb (A, C, Lg, o, false)) (hvb : vb < 3) (htk : tk < 41) (hlen : pre.length + o.length + (wt (A, C, Lg, o, false)).length ≤ 300) (hns : ¬ (tk = 34 ∧ brN A = 0 ∧ (C ≠ [] ↔ vb = 2)))
    (hq : ∀ I', stO I I' y vb pl tk v pre (A, C, Lg, o, false) → Q none SH I' R L) : Mt G mX3_readBetween 5 0 0 [.ref 306, .int (nI vb)] SH I R L Q := by
  have hr2 := La_rng hy
  have hl := wt_len hok
  have hx := wt_rng hok
  have hh := h
  obtain ⟨hk, h12, h13, h14, h7⟩ := h
  obtain ⟨l1, l2, l3, l4, l5⟩ := hlx
  obtain ⟨oA, oC, oL, ov, oW, oo⟩ := hok
  simp only at oA oC oL ov
  have hbA : brN A ≤ 62 := by
    have := br_len A
    have : A.length ≤ (wt (A, C, Lg, o, false)).length := by unfold wt; simp
    omega
  have hl2 : (pre ++ o).length + (wt (A, C, Lg, o, false)).length ≤ 300 := by rw [List.length_append]; omega
  have flt : FL vb tk v (A, C, Lg, o, false) 1 → Q none SH (failI I 1) R L := fun hf => by
    have := fail_fr (y := y) (k := 1) h7 l4
    exact hq _ ⟨this.1, Or.inr ⟨1, hf, this.2.1, this.2.2, _, _, fail_ok hy hk h7 l4, hl, hx, hl2⟩⟩
  have e28 : nI tk < 28 ↔ tk < 28 := tkL (k := 28) htk (by decide)
  have e31 : (31 : Int32) < nI tk ↔ 31 < tk := nltI (a := 31) (by decide) (by omega)
  have e24 : (24 : Int32) ≤ nI tk ↔ 24 ≤ tk := tkG (k := 24) htk (by decide)
  have e27 : nI tk ≤ 27 ↔ tk ≤ 27 := nleI (b := 27) (by omega) (by decide)
  have e35 : nI tk = 35 ↔ tk = 35 := tkE (k := 35) htk (by decide)
  have e36 : nI tk = 36 ↔ tk = 36 := tkE (k := 36) htk (by decide)
  have e10 : nI tk = 10 ↔ tk = 10 := tkE (k := 10) htk (by decide)
  have e9 : nI tk = 9 ↔ tk = 9 := tkE (k := 9) htk (by decide)
  have e33 : nI tk = 33 ↔ tk = 33 := tkE (k := 33) htk (by decide)
  have ev2 : nI vb = 2 ↔ vb = 2 := nI_eq (b := 2) (by omega) (by decide)
  have e14 : I 306 14 = 0 ↔ C = [] := by
    rw [h14]
    by_cases c : C = []
    · simp [c]
    · simp [c]
  have e12 : I 306 12 = 0 ↔ brN A = 0 := by
    rw [h12]
    exact nI_eq (a := brN A) (b := 0) (by omega) (by decide)
  -- the bracket, or a fault
  have b117 : ∀ s0 : Int32, (s0 = 0 ↔ brN A ≠ 0) → ¬ (28 ≤ tk ∧ tk ≤ 31) → ¬ (inC tk ∧ vb = 2 ∧ brN A = 0 ∧ C = []) → ¬ ((tk = 9 ∨ tk = 10) ∧ brN A = 0 ∧ C ≠ []) → Go G mX3_readBetween 5 0 0 117 [some (.ref 306), none, some (.int s0)] [] SH I R L Q := by
    intro s0 hs0 n1 n2 n3
    refine b_X3_readBetween_117 hR ?_
    rw [l3, e33, hs0]
    refine ⟨fun c => ?_, fun c => ⟨fun c2 => ?_, fun c2 => ?_⟩⟩
    · rintro _ rfl
      exact flt (FL_btw n1 n2 n3 (fun q => c q.1) hns)
    · rintro _ rfl
      exact flt (FL_btw n1 n2 n3 (fun q => c2 q.2) hns)
    · obtain ⟨P, B, eA, eP⟩ := spl32 A c2
      subst eA
      have hP := br0 (A := P) (fun x hx => oA x (by simp [hx])) eP
      have eW : wt (P ++ 32 :: B, C, Lg, o, false) = P ++ (32 :: (B ++ C ++ Lg)) := by unfold wt; simp
      have r1 := rs_app (b := 1) (A := P) (W := 32 :: (B ++ C ++ Lg)) (fun x hx => by have := hP x hx; omega)
      have r2 : rsN 1 (32 :: (B ++ C ++ Lg)) = 32 :: (B ++ C ++ Lg) := by simp [rsN, bdN]
      have r3 : ppN 1 (32 :: (B ++ C ++ Lg)) = [] := by simp [ppN, bdN]
      refine k_X3_release (b := 1) hR hr hy hk hl hx hl2 (by decide) (fun I' g1 g2 => b_X3_readBetween_139 hR ?_)
      rw [eW, r1.1, r1.2, r2, r3, List.append_nil] at g1
      have hl3 : (B ++ C ++ Lg).length < 64 := by rw [eW] at hl; simp at hl ⊢; omega
      have k2 := cK_dr hy g1 hl3 (by decide)
      obtain ⟨z1, z2, z3, z4, z5, z6⟩ := cL_k hy hh (g2.trans k2.2)
      rintro _ rfl _ rfl
      have hb1 : brN (P ++ 32 :: B) = brN B + 1 := by
        have : brN (P ++ 32 :: B) = brN P + (brN B + 1) := by simp [brN]
        omega
      refine hq _ ⟨frU_up ((g2.trans k2.2).u hy) (by decide), Or.inl ⟨_, SL_cls c eP, by rw [up_ni (by decide)]; exact z6, ?_, ?_, ?_, ?_, ?_⟩⟩
      · have := cK_up (j := 12) (x := drW I' 306 12 - 1) hy k2.1 (by decide) (by decide)
        simpa [wt] using this
      · rw [up_eq, z1]
        show nI (brN (P ++ 32 :: B)) - 1 = nI (brN B)
        rw [hb1, nI_pred]
      · rw [up_ni (by decide)]; exact z2
      · rw [up_ni (by decide)]; exact z3
      · rw [up_ni (by decide)]; exact z4
  have b76 : ∀ s0 : Int32, (s0 = 0 ↔ brN A ≠ 0) → ¬ (28 ≤ tk ∧ tk ≤ 31) → ¬ (inC tk ∧ vb = 2 ∧ brN A = 0 ∧ C = []) → Go G mX3_readBetween 5 0 0 76 [some (.ref 306), none, some (.int s0)] [] SH I R L Q := by
    intro s0 hs0 n1 n2
    have b94 : tk = 9 ∨ tk = 10 → Go G mX3_readBetween 5 0 0 94 [some (.ref 306), none, some (.int s0)] [] SH I R L Q := by
      intro ct
      refine b_X3_readBetween_94 hR ?_
      rw [hs0, e14]
      refine ⟨fun c => b117 s0 hs0 n1 n2 (fun q => c q.2.1), fun c => ⟨fun c2 => b117 s0 hs0 n1 n2 (fun q => q.2.2 c2), fun c2 => ?_⟩⟩
      have hb0 : brN A = 0 := Classical.not_not.mp c
      obtain ⟨q, hqc, eC, e2⟩ : ∃ q, inC q ∧ C = [q] ∧ vb = 2 := by
        rcases oC with e | e
        · exact absurd e c2
        · exact e
      subst eC
      have hu : unN tk = false ∧ bdN tk ≤ 2 := by rcases ct with rfl | rfl <;> decide
      have b4 := bdC hqc
      have r := rs_app (b := bdN tk) (A := A ++ [q]) (W := Lg) (fun x hx => by
        rcases List.mem_append.mp hx with z | z
        · have := br0 oA hb0 x z; omega
        · simp at z; subst z; omega)
      refine k_X3_hold hR hr hy hk l3 htk hu.1 hl hx hl2 (fun I' g1 g2 => b_X3_readBetween_109 hR ?_)
      rintro _ rfl
      have g1 : cK I' y (tk :: rsN (bdN tk) (A ++ [q] ++ Lg)) ((pre ++ o) ++ cd (ppN (bdN tk) (A ++ [q] ++ Lg))) := g1
      rw [r.1, r.2] at g1
      obtain ⟨z1, z2, z3, z4, z5, z6⟩ := cL_k hy hh g2
      refine hq _ ⟨frU_up (frU_up (g2.u hy) (by decide)) (by decide), Or.inl ⟨_, SL_lgc ct hb0, by rw [up_ni (by decide), up_ni (by decide)]; exact z6, ?_, ?_, ?_, ?_, ?_⟩⟩
      · have := cK_up (j := 14) (x := 0) hy (cK_up (j := 13) (x := 1) hy g1 (by decide) (by decide)) (by decide) (by decide)
        simpa [wt] using this
      · rw [up_ni (by decide), up_ni (by decide), z1]; show nI (brN A) = nI (brN []); rw [hb0]; rfl
      · rw [up_ni (by decide), up_eq]; rfl
      · rw [up_eq]; rfl
      · rw [up_ni (by decide), up_ni (by decide)]; exact z4
    refine b_X3_readBetween_76 hR ?_
    rw [l3, e10, e9]
    exact ⟨fun c => b94 (Or.inr c), fun c => ⟨fun c2 => b117 s0 hs0 n1 n2 (fun q => q.1.elim c2 c), fun c2 => b94 (Or.inl c2)⟩⟩
  have b38 : ∀ s0 : Int32, (s0 = 0 ↔ brN A ≠ 0) → ¬ (28 ≤ tk ∧ tk ≤ 31) → Go G mX3_readBetween 5 0 0 38 [some (.ref 306), some (.int (nI vb)), some (.int s0)] [] SH I R L Q := by
    intro s0 hs0 n1
    refine b_X3_readBetween_38 hR ?_
    rw [l3, e24, e27, e35, e36, ev2, hs0, e14]
    refine ⟨fun c => b76 s0 hs0 n1 (fun q => c q.1), fun c => ⟨fun c2 => b76 s0 hs0 n1 (fun q => c2 q.2.1), fun c2 => ⟨fun c3 => b76 s0 hs0 n1 (fun q => c3 q.2.2.1), fun c3 => ⟨fun c4 => b76 s0 hs0 n1 (fun q => c4 q.2.2.2), fun c4 => ?_⟩⟩⟩⟩
    have hb0 : brN A = 0 := Classical.not_not.mp c3
    subst c4
    have b4 := bdC (x := tk) c
    have r := rs_app (b := bdN tk) (A := A) (W := Lg) (fun x hx => by have := br0 oA hb0 x hx; omega)
    have r5 := rs_low (b := bdN tk) (A := []) (W := Lg) (fun x hx => by have := bdLx (oL x hx); omega)
    refine k_X3_hold hR hr hy hk l3 htk b4.2 hl hx hl2 (fun I' g1 g2 => b_X3_readBetween_68 hR ?_)
    rintro _ rfl
    have g1 : cK I' y (tk :: rsN (bdN tk) (A ++ [] ++ Lg)) ((pre ++ o) ++ cd (ppN (bdN tk) (A ++ [] ++ Lg))) := g1
    rw [List.append_nil, r.1, r.2, show rsN (bdN tk) Lg = Lg from r5.1, show ppN (bdN tk) Lg = [] from r5.2, List.append_nil] at g1
    obtain ⟨z1, z2, z3, z4, z5, z6⟩ := cL_k hy hh g2
    refine hq _ ⟨frU_up (frU_up (g2.u hy) (by decide)) (by decide), Or.inl ⟨_, SL_cmp c c2 hb0, by rw [up_ni (by decide), up_ni (by decide)]; exact z6, ?_, ?_, ?_, ?_, ?_⟩⟩
    · have := cK_up (j := 14) (x := 1) hy (cK_up (j := 13) (x := 1) hy g1 (by decide) (by decide)) (by decide) (by decide)
      simpa [wt] using this
    · rw [up_ni (by decide), up_ni (by decide), z1]; show nI (brN A) = nI (brN []); rw [hb0]; rfl
    · rw [up_ni (by decide), up_eq]; rfl
    · rw [up_eq]; rfl
    · rw [up_ni (by decide), up_ni (by decide)]; exact z4
  have b12 : ∀ s0 : Int32, (s0 = 0 ↔ brN A ≠ 0) → Go G mX3_readBetween 5 0 0 12 [some (.ref 306), some (.int (nI vb)), none] [.int s0] SH I R L Q := by
    intro s0 hs0
    refine b_X3_readBetween_12 hR ?_
    rw [l3, e28, e31]
    refine ⟨fun c => b38 s0 hs0 (by omega), fun c => ⟨fun c2 => b38 s0 hs0 (by omega), fun c2 => ?_⟩⟩
    have hu : unN tk = false := by unfold unN; simp; omega
    have b5 : 5 ≤ bdN tk := bdA (by unfold inA; omega) (by omega)
    have low := okLS_low (vb := vb) (s := (A, C, Lg, o, false)) ⟨oA, oC, oL, ov, oW, oo⟩
    have r := rs_low (b := bdN tk) (A := A) (W := C ++ Lg) (fun x hx => Nat.lt_of_lt_of_le (low x hx) b5)
    refine k_X3_hold hR hr hy hk l3 htk hu hl hx hl2 (fun I' g1 g2 => b_X3_readBetween_35 hR ?_)
    have g1 : cK I' y (tk :: rsN (bdN tk) (A ++ C ++ Lg)) ((pre ++ o) ++ cd (ppN (bdN tk) (A ++ C ++ Lg))) := g1
    rw [List.append_assoc A C Lg, r.1, r.2] at g1
    obtain ⟨z1, z2, z3, z4, z5, z6⟩ := cL_k hy hh g2
    refine hq _ ⟨frU_up (g2.u hy) (by decide), Or.inl ⟨_, SL_ari (by omega) (by omega), by rw [up_ni (by decide)]; exact z6, ?_, ?_, ?_, ?_, ?_⟩⟩
    · have := cK_up (j := 13) (x := 1) hy g1 (by decide) (by decide)
      simpa [wt] using this
    · rw [up_ni (by decide), z1]
      show nI (brN A) = nI (brN (tk :: rsN (bdN tk) A))
      rw [show brN (tk :: rsN (bdN tk) A) = brN (rsN (bdN tk) A) by unfold brN; exact List.count_cons_of_ne (by omega), brN_rs (by omega)]
    · rw [up_eq]; rfl
    · rw [up_ni (by decide)]; exact z3
    · rw [up_ni (by decide)]; exact z4
  refine e_X3_readBetween hR ?_
  rw [e12]
  exact ⟨fun c => b12 0 ⟨fun _ => c, fun _ => rfl⟩, fun c => b12 1 ⟨fun q => absurd q (by decide), fun q => absurd c q⟩⟩
