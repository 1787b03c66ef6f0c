theorem tkR_i {tk v : Nat} {s t : Int32} (h : tkR tk v s t) : (tk = 37 → s = 2 ∧ ∃ u, t = nI u ∧ u ≤ 999999 ∧ v = min 10000 u) ∧ (tk < 24 → s = 1 ∧ t = nI tk) ∧ (24 ≤ tk → tk ≤ 36 → s = 3 ∧ t = nI (chO tk)) ∧ (tk = 38 → s = 0) ∧ (tk = 39 → s = 4 ∨ (s = 3 ∧ t = 44)) := by
  rcases h with ⟨h1, h2⟩ | ⟨h1, h2, h3⟩ | ⟨h1, h2, h3⟩ | ⟨h1, h2, h3, h4⟩ | ⟨h1, h2⟩
  · exact ⟨fun q => by omega, fun q => by omega, fun q r => by omega, fun _ => h2, fun q => by omega⟩
  · exact ⟨fun q => by omega, fun _ => ⟨h2, h3⟩, fun q r => by omega, fun q => by omega, fun q => by omega⟩
  · exact ⟨fun _ => ⟨h2, h3⟩, fun q => by omega, fun q r => by omega, fun q => by omega, fun q => by omega⟩
  · exact ⟨fun q => by omega, fun q => by omega, fun _ _ => ⟨h3, h4⟩, fun q => by omega, fun q => by omega⟩
  · exact ⟨fun q => by omega, fun q => by omega, fun q r => by omega, fun q => by omega, fun _ => h2⟩
/-- a ONE that is a number or a name -/
theorem simOne {G : gG} {I : gI} {R : gR} {L : gL} {Q : gQ} {T : Nat → Nat} {vb n pl tk v a pl' tk' v' a' : Nat} {pre o : List (Nat × Nat)} {A C Lg : List Nat} {ask : Bool} (hR : g_Fx R) (hT : tpM I T n) (h : mV I vb pre A C Lg o ask) (h27 : I 310 27 = 1) (hx : lxM I n pl tk v a) (hA : ∀ x ∈ A, inA x) (hW : okW A) (hop : opN (A ++ C ++ Lg) ≤ 8) (hlen : (pre ++ o).length + 9 ≤ 400) (hvb : vb < 3) (hL : Lx T n a pl' tk' v' a')
    (hc : (tk = 37 ∧ v ≤ 9999) ∨ (12 ≤ tk ∧ tk < 24 ∧ mayN vb (tk - 12)))
    (hq : ∀ I' j A', A = List.replicate j 40 ++ A' → (∀ y B, A' = y :: B → y ≠ 40) → mV I' vb pre A' C Lg (o ++ [tkc (if tk = 37 then v else 10000 + tk)] ++ List.replicate j (402, 0)) ask → lxM I' n pl' tk' v' a' → frX I I' → I' 310 27 = 2 → Go G mX7_text 6 0 0 74 [some (.ref 310), none, none] [] SH I' R L Q) : Go G mX7_text 6 0 0 74 [some (.ref 310), none, none] [] SH I R L Q := by
  obtain ⟨x13, x14, x15, xt⟩ := hx
  have ti := tkR_i xt
  have core : ∀ (q1 q2 : Nat) (Q2 : gQ), (∀ J, (∀ (Q' : gQ), (∀ I2 j A', A = List.replicate j 40 ++ A' → (∀ y B, A' = y :: B → y ≠ 40) → mV I2 vb pre A' C Lg (o ++ [(q1, q2)] ++ List.replicate j (402, 0)) ask → lxM I2 n pl' tk' v' a' → frX I I2 → I2 310 27 = 2 → Q' none SH I2 R L) → Mt G mX7_oneIsOver 2 0 0 [.ref 310] SH J R L Q') → Q2 none SH J R L) → Mt G mX7_nextToken 3 0 0 [.ref 310] SH (emM I (nI q1) (nI q2)) R L Q2 := by
    intro q1 q2 Q2 hk
    have k1 := mK_em (o := q1) (v := q2) h.1 (by omega)
    have f1 : frN I (emM I (nI q1) (nI q2)) := k1.2
    refine k_X7_nextToken hR (tpM_x hT f1.x) (by rw [f1.2 13 (by decide) (by decide) (by decide) (by decide) (by decide)]; exact x13) (by rw [f1.2 14 (by decide) (by decide) (by decide) (by decide) (by decide)]; exact x14) hL (fun s t ht => hk _ (fun Q' hq' => ?_))
    have k2 := mK_mv (pl := pl') (a := a') (s := s) (t := t) k1.1
    have f2 : frX I (mvT (emM I (nI q1) (nI q2)) pl' a' s t) := frX_mv f1.x
    rw [List.append_assoc] at k2
    have hv2 : mV (mvT (emM I (nI q1) (nI q2)) pl' a' s t) vb pre A C Lg (o ++ [(q1, q2)]) ask := mV_x h f2 k2 (fun c e => ⟨e, rfl⟩)
    have lx := lxM_mv (J := emM I (nI q1) (nI q2)) (pl := pl') (a := a') (by rw [f1.2 13 (by decide) (by decide) (by decide) (by decide) (by decide)]; exact x13) ht
    refine one_over hR hv2 hA hW hop (by simp at hlen ⊢; omega) (fun I' j A' e1 e2 g1 g2 g3 g4 => hq' I' j A' e1 e2 g1 ⟨?_, ?_, ?_, ?_⟩ (f2.trans g2) g4)
    · rw [g2.2 13 (by omega)]; exact lx.1
    · rw [g3 14 (by omega)]; exact lx.2.1
    · rw [g3 15 (by omega)]; exact lx.2.2.1
    · rw [g3 16 (by omega), g3 17 (by omega)]; exact lx.2.2.2
  refine tx1 hR h.2.2.2 h27 (e_X7_begins hR ?_)
  rcases hc with ⟨c1, c2⟩ | ⟨c1, c2, c3⟩
  · obtain ⟨s2, u, t1, t2, t3⟩ := ti.1 c1
    have eu : u = v := by omega
    subst eu
    rw [s2, t1]
    refine ⟨fun c => absurd rfl c, fun _ => ⟨fun _ => ⟨by rw [h.1.2.2.2.1]; exact vp_in_nI (by omega) (by decide), ?_⟩, fun c => absurd (nI_le (b := 9999) c2 (by decide)) c⟩⟩
    rintro _ rfl
    refine core 400 u _ (fun J hJ => b_X7_begins_39 hR (hJ _ (fun I2 j A' e1 e2 g1 g2 g3 g4 => b_X7_begins_43 hR (b_X7_text_143 hR (hq I2 j A' e1 e2 ?_ g2 g3 g4)))))
    rw [if_pos c1, show tkc u = (400, u) by unfold tkc; rw [if_pos (by omega)]]
    exact g1
  · obtain ⟨s1, t1⟩ := ti.2.1 c2
    rw [s1, t1]
    refine ⟨fun _ => ⟨fun c => absurd rfl c, fun _ => ⟨fun c => absurd c (nI_ge (b := tk) (a := 11) (by omega) (by omega)), fun _ => ?_⟩⟩, fun c => absurd c (by decide)⟩
    rw [show nI tk - 11 - 1 = nI (tk - 12) by rw [show (11 : Int32) = nI 11 from rfl, nI_sub (by omega) (by omega), show (1 : Int32) = nI 1 from rfl, nI_sub (by omega) (by omega), show tk - 11 - 1 = tk - 12 by omega]]
    rintro _ rfl
    rw [h.2.2.1]
    have e0 : nI vb = 0 ↔ vb = 0 := nI_eq (b := 0) (by omega) (by decide)
    have e1 : nI vb = 1 ↔ vb = 1 := nI_eq (b := 1) (by omega) (by decide)
    have e8 : nI (tk - 12) < 8 ↔ tk - 12 < 8 := nltI (b := 8) (by omega) (by decide)
    have e4 : nI (tk - 12) < 4 ↔ tk - 12 < 4 := nltI (b := 4) (by omega) (by decide)
    have e6 : (6 : Int32) < nI (tk - 12) ↔ 6 < tk - 12 := nltI (a := 6) (by decide) (by omega)
    rw [e0, e1, e8, e4, e6]
    refine ⟨fun _ => ⟨by rw [h.1.2.2.2.1]; exact vp_in_nI (by omega) (by decide), ?_⟩, fun c => absurd (by unfold mayN at c3; omega) c⟩
    rintro _ rfl
    refine core 401 (tk - 12) _ (fun J hJ => b_X7_begins_102 hR (hJ _ (fun I2 j A' e1 e2 g1 g2 g3 g4 => b_X7_begins_106 hR (b_X7_text_143 hR (hq I2 j A' e1 e2 ?_ g2 g3 g4)))))
    rw [if_neg (by omega), show tkc (10000 + tk) = (401, tk - 12) by unfold tkc; rw [if_neg (by omega), if_pos (by omega), show 10000 + tk - 10012 = tk - 12 by omega]]
    exact g1
