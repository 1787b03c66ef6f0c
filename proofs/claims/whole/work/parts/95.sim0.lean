theorem spl40 : ∀ A : List Nat, ∃ j A', A = List.replicate j 40 ++ A' ∧ ∀ y B, A' = y :: B → y ≠ 40
  | [] => ⟨0, [], rfl, fun y B h => by cases h⟩
  | x :: A => by
    by_cases c : x = 40
    · obtain ⟨j, A', e, h⟩ := spl40 A
      exact ⟨j + 1, A', by rw [c, e]; simp [List.replicate_succ], h⟩
    · exact ⟨0, x :: A, rfl, fun y B h => by cases h; exact c⟩
theorem fm_rep (j : Nat) (A : List Nat) : fmA (List.replicate j 40 ++ A) = List.replicate j 7 ++ fmA A := by
  induction j with
  | zero => rfl
  | succ j ih => simp [List.replicate_succ, fmA, ih]
theorem wt_rep (b j : Nat) (A : List Nat) : wtA b (List.replicate j 40 ++ A) = wtA b A := by
  induction j with
  | zero => rfl
  | succ j ih => simp [List.replicate_succ, wtA, ih]
theorem op_rep (j : Nat) (A : List Nat) : opN (List.replicate j 40 ++ A) = opN A + j := by
  induction j with
  | zero => rfl
  | succ j ih => rw [List.replicate_succ, List.cons_append, show opN (40 :: (List.replicate j 40 ++ A)) = opN (List.replicate j 40 ++ A) + 1 by simp [opN, unN], ih]; omega
theorem fm_head : ∀ A : List Nat, (∀ x ∈ A, inA x) → okW A → (∀ y B, A = y :: B → y ≠ 40) → fmA A = [] ∨ ∃ F, fmA A = 6 :: F
  | [], _, _, _ => Or.inl rfl
  | x :: A, hA, hW, h => by
    have hx := hA x (by simp)
    have hx40 := h x A rfl
    by_cases c : x = 32
    · exact Or.inr ⟨fmA A, by simp [fmA, c]⟩
    · have hun : unN x = false := by unfold inA at hx; unfold unN; simp; omega
      have e : fmA (x :: A) = fmA A := by simp [fmA, c, hx40]
      rw [e]
      refine fm_head A (fun y hy => hA y (by simp [hy])) hW.1 (fun y B e q => ?_)
      subst e; subst q
      have := hW.2
      rw [hun] at this
      have b6 := bdN_6 hun
      rcases this with q | q
      · cases q
      · have : hbN (40 :: B) = 7 := rfl
        omega
def nsF (vb : Nat) (Lg : List Nat) : List Nat := List.replicate (Lg.count 11) 3 ++ [if vb = 2 then 2 else 1]
def asF (ask : Bool) (C : List Nat) : List Nat := if ask = true then (if C = [] then [4] else [5]) else []
def bsF (vb : Nat) (ask : Bool) (C Lg : List Nat) : List Nat := asF ask C ++ nsF vb Lg
theorem bs_head (vb : Nat) (ask : Bool) (C Lg : List Nat) : ∃ f F, bsF vb ask C Lg = f :: F ∧ f ≠ 7 ∧ f ≠ 6 ∧ f < 6 := by
  unfold bsF asF nsF
  by_cases h : ask = true
  · by_cases c : C = []
    · exact ⟨4, _, by simp [h, c]; rfl, by decide, by decide, by decide⟩
    · exact ⟨5, _, by simp [h, c]; rfl, by decide, by decide, by decide⟩
  · cases hc : Lg.count 11 with
    | zero =>
      by_cases v : vb = 2
      · exact ⟨2, [], by simp [h, v], by decide, by decide, by decide⟩
      · exact ⟨1, [], by simp [h, v], by decide, by decide, by decide⟩
    | succ k => exact ⟨3, _, by simp [h, List.replicate_succ]; rfl, by decide, by decide, by decide⟩
theorem bs_len (vb : Nat) (ask : Bool) (C Lg : List Nat) : (bsF vb ask C Lg).length = (if ask = true then 1 else 0) + Lg.count 11 + 1 := by
  unfold bsF asF nsF
  by_cases h : ask = true
  · by_cases c : C = []
    · simp [h, c]; omega
    · simp [h, c]; omega
  · simp [h]
/-- an order as the plain form puts it out -/
def tkc (c : Nat) : Nat × Nat := if c < 10000 then (400, c) else if 10012 ≤ c ∧ c < 10024 then (401, c - 10012) else if c = 10040 then (402, 0) else if c = 10011 then (405, 0) else if c = 10009 ∨ c = 10010 then (lgO (c - 10000), 0) else (chO (c - 10000), 0)
theorem fm_len : ∀ A : List Nat, (fmA A).length ≤ opN A
  | [] => by simp [fmA]
  | x :: A => by
    have ih := fm_len A
    by_cases c : x = 32
    · have : opN (x :: A) = opN A + 1 := by simp [opN, unN, c]
      simp [fmA, c]; rw [c] at this; omega
    · by_cases c2 : x = 40
      · have : opN (x :: A) = opN A + 1 := by simp [opN, unN, c2]
        simp [fmA, c2]; rw [c2] at this; omega
      · have : opN A ≤ opN (x :: A) := by
          rw [show x :: A = [x] ++ A from rfl, opN_app]; omega
        simp [fmA, c, c2]; omega
theorem cnt_op (L : List Nat) : L.count 11 ≤ opN L := by
  induction L with
  | nil => simp
  | cons x L ih =>
    by_cases c : x = 11
    · have : opN (x :: L) = opN L + 1 := by simp [opN, unN, c]
      rw [c] at this ⊢; rw [List.count_cons_self]; omega
    · have : opN L ≤ opN (x :: L) := by
        rw [show x :: L = [x] ++ L from rfl, opN_app]; omega
      rw [List.count_cons_of_ne c]; omega
/-- the plain form's memory for what waits; ask: whether a comparison's frame stands -/
def mV (I : gI) (vb : Nat) (pre : List (Nat × Nat)) (A C Lg : List Nat) (o : List (Nat × Nat)) (ask : Bool) : Prop := mK I (fmA A ++ bsF vb ask C Lg) (wtA (bsF vb ask C Lg).length A ++ wtL Lg) (pre ++ o) (opN (A ++ C ++ Lg)) ∧ (∀ c, C = [c] → I 322 (bsF vb ask C Lg).length = nI (chO c)) ∧ I 310 29 = nI vb ∧ I 310 18 = 0
theorem mV_x {I I' : gI} {vb : Nat} {pre : List (Nat × Nat)} {A C Lg A' C' Lg' : List Nat} {o o' : List (Nat × Nat)} {ask ask' : Bool} (h : mV I vb pre A C Lg o ask) (g : frX I I') (k : mK I' (fmA A' ++ bsF vb ask' C' Lg') (wtA (bsF vb ask' C' Lg').length A' ++ wtL Lg') (pre ++ o') (opN (A' ++ C' ++ Lg'))) (hc : ∀ c, C' = [c] → C = [c] ∧ (bsF vb ask' C' Lg').length = (bsF vb ask C Lg).length) : mV I' vb pre A' C' Lg' o' ask' := by
  refine ⟨k, fun c e => ?_, ?_, ?_⟩
  · obtain ⟨e1, e2⟩ := hc c e
    rw [e2, g.1 322 (by decide) (by decide) (by decide) (by decide) (by decide) (by decide)]
    exact h.2.1 c e1
  · rw [g.2 29 (by omega)]; exact h.2.2.1
  · rw [g.2 18 (by omega)]; exact h.2.2.2
theorem tx1 {G : gG} {I : gI} {R : gR} {L : gL} {Q : gQ} (hR : g_Fx R) (h18 : I 310 18 = 0) (h27 : I 310 27 = 1) (k : Mt G mX7_begins 5 0 0 [.ref 310] SH I R L (fun r S' I' R' L' => Go G mX7_text 6 0 0 143 [some (.ref 310), none, none] (r.toList ++ []) S' I' R' L' Q)) : Go G mX7_text 6 0 0 74 [some (.ref 310), none, none] [] SH I R L Q := by
  have g : Go G mX7_text 6 0 0 96 [some (.ref 310), none, none] [] SH I R L Q := by
    refine b_X7_text_96 hR ?_
    rw [h27]
    exact ⟨fun c => absurd c (by decide), fun _ => k, fun c => absurd c (by decide), fun c => absurd c (by decide), fun c => absurd rfl c.2.1⟩
  refine b_X7_text_74 hR ⟨fun c => absurd h18 c, fun _ => ⟨fun _ => g, fun c => ?_⟩⟩
  rw [h27] at c; exact absurd c (by decide)
theorem tx0 {G : gG} {I : gI} {R : gR} {L : gL} {Q : gQ} (hR : g_Fx R) (h18 : I 310 18 = 0) (h27 : I 310 27 = 0) (k : Mt G mX7_asks 5 0 0 [.ref 310] SH I R L (fun r S' I' R' L' => Go G mX7_text 6 0 0 136 [some (.ref 310), none, none] (r.toList ++ []) S' I' R' L' Q)) : Go G mX7_text 6 0 0 74 [some (.ref 310), none, none] [] SH I R L Q := by
  have g : Go G mX7_text 6 0 0 96 [some (.ref 310), none, none] [] SH I R L Q := by
    refine b_X7_text_96 hR ?_
    rw [h27]
    exact ⟨fun _ => k, fun c => absurd c (by decide), fun c => absurd c (by decide), fun c => absurd c (by decide), fun c => absurd rfl c.1⟩
  refine b_X7_text_74 hR ⟨fun c => absurd h18 c, fun _ => ⟨fun _ => g, fun c => ?_⟩⟩
  rw [h27] at c; exact absurd c (by decide)
theorem tx2 {G : gG} {I : gI} {R : gR} {L : gL} {Q : gQ} (hR : g_Fx R) (h18 : I 310 18 = 0) (h27 : I 310 27 = 2) (k : Mt G mX7_goesOn 5 0 0 [.ref 310] SH I R L (fun r S' I' R' L' => Go G mX7_text 6 0 0 150 [some (.ref 310), none, none] (r.toList ++ []) S' I' R' L' Q)) : Go G mX7_text 6 0 0 74 [some (.ref 310), none, none] [] SH I R L Q := by
  have g : Go G mX7_text 6 0 0 96 [some (.ref 310), none, none] [] SH I R L Q := by
    refine b_X7_text_96 hR ?_
    rw [h27]
    exact ⟨fun c => absurd c (by decide), fun c => absurd c (by decide), fun _ => k, fun c => absurd c (by decide), fun c => absurd rfl c.2.2.1⟩
  refine b_X7_text_74 hR ⟨fun c => absurd h18 c, fun _ => ⟨fun _ => g, fun c => ?_⟩⟩
  rw [h27] at c; exact absurd c (by decide)
theorem tx3 {G : gG} {I : gI} {R : gR} {L : gL} {Q : gQ} (hR : g_Fx R) (h18 : I 310 18 = 0) (h27 : I 310 27 = 3) (k : Mt G mX7_asksOn 5 0 0 [.ref 310] SH I R L (fun r S' I' R' L' => Go G mX7_text 6 0 0 157 [some (.ref 310), none, none] (r.toList ++ []) S' I' R' L' Q)) : Go G mX7_text 6 0 0 74 [some (.ref 310), none, none] [] SH I R L Q := by
  have g : Go G mX7_text 6 0 0 96 [some (.ref 310), none, none] [] SH I R L Q := by
    refine b_X7_text_96 hR ?_
    rw [h27]
    exact ⟨fun c => absurd c (by decide), fun c => absurd c (by decide), fun c => absurd c (by decide), fun _ => k, fun c => absurd rfl c.2.2.2⟩
  refine b_X7_text_74 hR ⟨fun c => absurd h18 c, fun _ => ⟨fun _ => g, fun c => ?_⟩⟩
  rw [h27] at c; exact absurd c (by decide)
theorem err_eq {I : gI} {pl k : Nat} (h18 : I 310 18 = 0) (h15 : I 310 15 = nI pl) : errI I (nI k) = up (up I 310 18 (nI k)) 310 19 (nI pl) := by
  unfold errI
  rw [if_neg (by rw [h18]; simp)]
  simp only
  rw [up_ni (by decide), h15]
/-- what a ONE leaves behind it -/
theorem one_over {G : gG} {I : gI} {R : gR} {L : gL} {Q : gQ} {vb : Nat} {pre o : List (Nat × Nat)} {A C Lg : List Nat} {ask : Bool} (hR : g_Fx R) (h : mV I vb pre A C Lg o ask) (hA : ∀ x ∈ A, inA x) (hW : okW A) (hop : opN (A ++ C ++ Lg) ≤ 8) (hlen : (pre ++ o).length + 8 ≤ 400)
    (hq : ∀ I' j A', A = List.replicate j 40 ++ A' → (∀ y B, A' = y :: B → y ≠ 40) → mV I' vb pre A' C Lg (o ++ List.replicate j (402, 0)) ask → frX I I' → (∀ c, c = 14 ∨ c = 15 ∨ c = 16 ∨ c = 17 → I' 310 c = I 310 c) → I' 310 27 = 2 → Q none SH I' R L) : Mt G mX7_oneIsOver 2 0 0 [.ref 310] SH I R L Q := by
  obtain ⟨j, A', e, h40⟩ := spl40 A
  have hh := h
  obtain ⟨hk, -⟩ := h
  subst e
  have hA' : ∀ x ∈ A', inA x := fun x hx => hA x (by simp [hx])
  have hW' := okW_tail _ _ hW
  rw [fm_rep, wt_rep, List.append_assoc] at hk
  have eop : opN (List.replicate j 40 ++ A' ++ C ++ Lg) = opN (A' ++ C ++ Lg) + j := by
    rw [List.append_assoc, List.append_assoc, op_rep, List.append_assoc]
  rw [eop] at hk hop
  have hl1 := fm_len A'
  have hl2 := cnt_op Lg
  have hl3 := bs_len vb ask C Lg
  have hl4 : opN (A' ++ C ++ Lg) = opN A' + opN C + opN Lg := by rw [opN_app, opN_app]
  refine k_X7_oneIsOver (j := j) hR hk ?_ ?_ (by omega) (fun I' g1 g2 => ?_)
  · rw [List.length_append, hl3]; split <;> omega
  · obtain ⟨f, F, e1, e2, e3, e4⟩ := bs_head vb ask C Lg
    rcases fm_head A' hA' hW' h40 with q | ⟨F', q⟩
    · exact ⟨f, F, by rw [q, e1]; rfl, e2, by omega⟩
    · exact ⟨6, F' ++ bsF vb ask C Lg, by rw [q]; rfl, by decide, by decide⟩
  · rw [List.append_assoc] at g1
    have f1 : frX I (up I' 310 27 2) := frX_up g2.x (by omega)
    refine hq _ j A' rfl h40 (mV_x hh f1 (mK_up g1 (by decide) (by decide) (by decide) (by decide)) (fun c e => ⟨e, rfl⟩)) f1 (fun c hc => ?_) (up_eq _ _ _ _)
    rw [up_ni (by omega)]
    exact g2.2 c (by omega) (by omega) (by omega) (by omega) (by omega)
