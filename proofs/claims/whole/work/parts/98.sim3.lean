/-- a ONE that can't be -/
theorem simFlt {G : gG} {I : gI} {R : gR} {L : gL} {Q : gQ} {vb n pl tk v a k : Nat} {pre o : List (Nat × Nat)} {A C Lg : List Nat} {ask : Bool} (hR : g_Fx R) (h : mV I vb pre A C Lg o ask) (h27 : I 310 27 = 1) (hx : lxM I n pl tk v a) (hvb : vb < 3) (htk : tk < 40)
    (hc : (tk = 37 ∧ 9999 < v ∧ k = 2) ∨ (12 ≤ tk ∧ tk < 24 ∧ ¬ mayN vb (tk - 12) ∧ k = 5) ∨ (tk ≠ 37 ∧ ¬ (12 ≤ tk ∧ tk < 24) ∧ tk ≠ 32 ∧ tk ≠ 29 ∧ k = 1))
    (hq : Go G mX7_text 6 0 0 74 [some (.ref 310), none, none] [] SH (errI I (nI k)) R L Q) : Go G mX7_text 6 0 0 74 [some (.ref 310), none, none] [] SH I R L Q := by
  obtain ⟨x13, x14, x15, xt⟩ := hx
  have ti := tkR_i xt
  refine tx1 hR h.2.2.2 h27 (e_X7_begins hR ?_)
  rcases hc with ⟨c1, c2, rfl⟩ | ⟨c1, c2, c3, rfl⟩ | ⟨c1, c2, c3, c4, rfl⟩
  · obtain ⟨s2, u, t1, t2, t3⟩ := ti.1 c1
    clear ti
    rw [s2, t1]
    refine ⟨fun c => absurd rfl c, fun _ => ⟨fun c => absurd c (nI_ge (b := u) (a := 9999) (by omega) (by omega)), fun _ => ?_⟩⟩
    rintro _ rfl
    exact b_X7_text_143 hR hq
  · obtain ⟨s1, t1⟩ := ti.2.1 c2
    clear ti
    rw [s1, t1]
    refine ⟨fun _ => ⟨fun c => absurd rfl c, fun _ => ⟨fun c => absurd c (nI_ge (b := tk) (a := 11) (by omega) (by omega)), fun _ => ?_⟩⟩, fun c => absurd c (by decide)⟩
    rw [show nI tk - 11 - 1 = nI (tk - 12) by rw [show (11 : Int32) = nI 11 from rfl, nI_sub (by omega) (by omega), show (1 : Int32) = nI 1 from rfl, nI_sub (by omega) (by omega), show tk - 11 - 1 = tk - 12 by omega]]
    rintro _ rfl
    rw [h.2.2.1]
    have e0 : nI vb = 0 ↔ vb = 0 := nI_eq (b := 0) (by omega) (by decide)
    have e1 : nI vb = 1 ↔ vb = 1 := nI_eq (b := 1) (by omega) (by decide)
    have e8 : nI (tk - 12) < 8 ↔ tk - 12 < 8 := nltI (b := 8) (by omega) (by decide)
    have e4 : nI (tk - 12) < 4 ↔ tk - 12 < 4 := nltI (b := 4) (by omega) (by decide)
    have e6 : (6 : Int32) < nI (tk - 12) ↔ 6 < tk - 12 := nltI (a := 6) (by decide) (by omega)
    rw [e0, e1, e8, e4, e6]
    refine ⟨fun c => absurd (by unfold mayN; omega) c3, fun _ => ?_⟩
    rintro _ rfl
    exact b_X7_text_143 hR hq
  · have g109 : ¬ (I 310 16 = 3 ∧ I 310 17 = 40) → ¬ (I 310 16 = 3 ∧ I 310 17 = 45) → Go G mX7_begins 5 0 0 109 [some (.ref 310), none] [] SH I R L (fun r S' I' R' L' => Go G mX7_text 6 0 0 143 [some (.ref 310), none, none] (r.toList ++ []) S' I' R' L' Q) := by
      intro n1 n2
      refine b_X7_begins_109 hR ⟨fun _ => ⟨fun _ => ?_, fun c => absurd c n2⟩, fun c => absurd c n1⟩
      rintro _ rfl
      exact b_X7_text_143 hR hq
    rcases Nat.lt_or_ge tk 24 with q | q
    · obtain ⟨s1, t1⟩ := ti.2.1 q
      have g := g109 (fun c => by rw [s1] at c; exact absurd c.1 (by decide)) (fun c => by rw [s1] at c; exact absurd c.1 (by decide))
      rw [s1, t1]
      refine ⟨fun _ => ⟨fun c => absurd rfl c, fun _ => ⟨fun _ => g, fun c => absurd (nI_le (b := 11) (by clear ti; omega) (by decide)) c⟩⟩, fun c => absurd c (by decide)⟩
    · have fin : ∀ z : Int32, I 310 16 = z → z ≠ 1 → z ≠ 2 → (z = 3 → I 310 17 ≠ 40 ∧ I 310 17 ≠ 45) → (¬ (I 310 16) = 2 → (¬ (I 310 16) = 1 → Go G mX7_begins 5 0 0 109 [some (.ref 310), none] [] SH I R L (fun r S' I' R' L' => Go G mX7_text 6 0 0 143 [some (.ref 310), none, none] (r.toList ++ []) S' I' R' L' Q))) := fun z e n1 n2 n3 _ _ => g109 (fun c => (n3 (e.symm.trans c.1)).1 c.2) (fun c => (n3 (e.symm.trans c.1)).2 c.2)
      have hz : ∃ z : Int32, I 310 16 = z ∧ z ≠ 1 ∧ z ≠ 2 ∧ (z = 3 → I 310 17 ≠ 40 ∧ I 310 17 ≠ 45) := by
        rcases Nat.lt_or_ge tk 37 with q2 | q2
        · obtain ⟨s3, t3⟩ := ti.2.2.1 q (by clear ti; omega)
          refine ⟨3, s3, by decide, by decide, fun _ => ?_⟩
          rw [t3]
          have h2 : tk < 37 ∧ tk ≠ 32 ∧ tk ≠ 29 ∧ 24 ≤ tk := ⟨q2, c3, c4, q⟩
          clear ti fin g109 hq
          have key : ∀ t, t < 37 → 24 ≤ t → t ≠ 32 → t ≠ 29 → nI (chO t) ≠ 40 ∧ nI (chO t) ≠ 45 := by decide +kernel
          exact key tk h2.1 h2.2.2.2 h2.2.1 h2.2.2.1
        · have : tk = 38 ∨ tk = 39 := by clear ti; omega
          rcases this with q3 | q3
          · exact ⟨0, ti.2.2.2.1 q3, by decide, by decide, fun c => absurd c (by decide)⟩
          · rcases ti.2.2.2.2 q3 with q4 | ⟨q4, q5⟩
            · exact ⟨4, q4, by decide, by decide, fun c => absurd c (by decide)⟩
            · exact ⟨3, q4, by decide, by decide, fun _ => by rw [q5]; exact ⟨by decide, by decide⟩⟩
      obtain ⟨z, e, n1, n2, n3⟩ := hz
      refine ⟨fun c => ⟨fun c2 => fin z e n1 n2 n3 c c2, fun c2 => absurd (e.symm.trans c2) n1⟩, fun c => absurd (e.symm.trans c) n2⟩
