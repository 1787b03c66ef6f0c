/-- a bracket or a minus is opened -/
theorem simOpn {G : gG} {I : gI} {R : gR} {L : gL} {Q : gQ} {T : Nat → Nat} {vb n pl tk v a x f : Nat} {pre o : List (Nat × Nat)} {A C Lg : List Nat} {ask : Bool} (hR : g_Fx R) (hT : tpM I T n) (h : mV I vb pre A C Lg o ask) (h27 : I 310 27 = 1) (hx : lxM I n pl tk v a) (hop : opN (A ++ C ++ Lg) ≤ 8) (hxf : (tk = 32 ∧ x = 32 ∧ f = 6) ∨ (tk = 29 ∧ x = 40 ∧ f = 7))
    (hq : opN (A ++ C ++ Lg) < 8 → ∃ pl' tk' v' a', Lx T n a pl' tk' v' a' ∧ ∀ I', mV I' vb pre (x :: A) C Lg o ask → lxM I' n pl' tk' v' a' → frX I I' → I' 310 27 = 1 → Go G mX7_text 6 0 0 74 [some (.ref 310), none, none] [] SH I' R L Q)
    (hf : 8 ≤ opN (A ++ C ++ Lg) → Go G mX7_text 6 0 0 74 [some (.ref 310), none, none] [] SH (errI I 3) R L Q) : Go G mX7_text 6 0 0 74 [some (.ref 310), none, none] [] SH I R L Q := by
  have htk : 24 ≤ tk ∧ tk ≤ 36 := by rcases hxf with ⟨q, -⟩ | ⟨q, -⟩ <;> omega
  obtain ⟨x13, x14, x15, xt⟩ := hx
  have ti := tkR_i xt
  obtain ⟨s3, t3⟩ := ti.2.2.1 htk.1 htk.2
  clear ti
  have hl1 := fm_len A
  have hl2 := cnt_op Lg
  have hl3 := bs_len vb ask C Lg
  have hl4 : opN (A ++ C ++ Lg) = opN A + opN C + opN Lg := by rw [opN_app, opN_app]
  have hF : (fmA A ++ bsF vb ask C Lg).length < 40 := by rw [List.length_append, hl3]; split <;> omega
  have opn : ∀ Q' : gQ, (∀ I', Go G mX7_text 6 0 0 74 [some (.ref 310), none, none] [] SH I' R L Q → ∀ z, Q' (some (.int z)) SH I' R L) → Mt G mX7_opensSign 4 0 0 [.ref 310, .int (nI f)] SH I R L Q' := by
    intro Q' hQ'
    refine k_X7_opensSign (pl' := 0) (tk' := 0) (v' := 0) (a' := 0) hR hT h.1 x13 x14 hF hop (fun c => ?_) (fun c => hQ' _ (hf c) _)
    obtain ⟨pl', tk', v', a', hL, hk⟩ := hq c
    refine ⟨pl', tk', v', a', hL, fun I' g1 g2 g3 g4 => hQ' _ (hk I' (mV_x h g3 ?_ (fun c e => ⟨e, rfl⟩)) g2 g3 (g4.trans h27)) _⟩
    have e1 : fmA (x :: A) = f :: fmA A := by rcases hxf with ⟨-, rfl, rfl⟩ | ⟨-, rfl, rfl⟩ <;> simp [fmA]
    have e2 : wtA (bsF vb ask C Lg).length (x :: A) = wtA (bsF vb ask C Lg).length A := by rcases hxf with ⟨-, rfl, -⟩ | ⟨-, rfl, -⟩ <;> simp [wtA]
    have e3 : opN (x :: A ++ C ++ Lg) = opN (A ++ C ++ Lg) + 1 := by rcases hxf with ⟨-, rfl, -⟩ | ⟨-, rfl, -⟩ <;> simp [opN, unN] <;> omega
    rw [e1, e2, e3]
    exact g1
  refine tx1 hR h.2.2.2 h27 (e_X7_begins hR ?_)
  rw [s3]
  refine ⟨fun _ => ⟨fun _ => b_X7_begins_109 hR ?_, fun c => absurd c (by decide)⟩, fun c => absurd c (by decide)⟩
  rw [s3, t3]
  rcases hxf with ⟨rfl, rfl, rfl⟩ | ⟨rfl, rfl, rfl⟩
  · refine ⟨fun c => absurd ⟨rfl, by decide⟩ c, fun _ => opn _ (fun I' k z => b_X7_begins_124 hR (b_X7_text_143 hR k))⟩
  · refine ⟨fun _ => ⟨fun c => absurd ⟨rfl, by decide⟩ c, fun _ => opn _ (fun I' k z => b_X7_begins_143 hR (b_X7_text_143 hR k))⟩, fun c => absurd c.2 (by decide)⟩
/-- a not ahead of an ASK -/
theorem simNay {G : gG} {I : gI} {R : gR} {L : gL} {Q : gQ} {T : Nat → Nat} {vb n pl tk v a : Nat} {pre o : List (Nat × Nat)} {Lg : List Nat} (hR : g_Fx R) (hT : tpM I T n) (h : mV I vb pre [] [] Lg o false) (h27 : I 310 27 = 0) (hx : lxM I n pl tk v a) (hop : opN Lg ≤ 8) (htk : tk = 11)
    (hq : opN Lg < 8 → ∃ pl' tk' v' a', Lx T n a pl' tk' v' a' ∧ ∀ I', mV I' vb pre [] [] (11 :: Lg) o false → lxM I' n pl' tk' v' a' → frX I I' → I' 310 27 = 0 → Go G mX7_text 6 0 0 74 [some (.ref 310), none, none] [] SH I' R L Q)
    (hf : 8 ≤ opN Lg → Go G mX7_text 6 0 0 74 [some (.ref 310), none, none] [] SH (errI I 3) R L Q) : Go G mX7_text 6 0 0 74 [some (.ref 310), none, none] [] SH I R L Q := by
  obtain ⟨x13, x14, x15, xt⟩ := hx
  have ti := tkR_i xt
  obtain ⟨s1, t1⟩ := ti.2.1 (by omega)
  have hl2 := cnt_op Lg
  have hl3 := bs_len vb false [] Lg
  refine tx0 hR h.2.2.2 h27 (e_X7_asks hR ?_)
  rw [s1, t1, htk]
  refine ⟨fun c => absurd ⟨rfl, rfl⟩ c, fun _ => ?_⟩
  refine k_X7_opensSign (f := 3) (pl' := 0) (tk' := 0) (v' := 0) (a' := 0) hR hT h.1 x13 x14 ?_ (by simpa using hop) (fun c => ?_) (fun c => b_X7_asks_14 hR (b_X7_text_136 hR (hf (by simpa using c))))
  · rw [show fmA [] ++ bsF vb false [] Lg = bsF vb false [] Lg from rfl, hl3]; simp; omega
  · obtain ⟨pl', tk', v', a', hL, hk⟩ := hq (by simpa using c)
    refine ⟨pl', tk', v', a', hL, fun I' g1 g2 g3 g4 => b_X7_asks_14 hR (b_X7_text_136 hR (hk I' (mV_x h g3 ?_ (fun c e => by cases e)) g2 g3 (g4.trans h27)))⟩
    have e1 : fmA [] ++ bsF vb false [] (11 :: Lg) = 3 :: (fmA [] ++ bsF vb false [] Lg) := by simp [fmA, bsF, asF, nsF, List.replicate_succ]
    have e2 : wtL (11 :: Lg) = wtL Lg := by simp [wtL]
    have e3 : opN ([] ++ [] ++ 11 :: Lg) = opN ([] ++ [] ++ Lg) + 1 := by simp [opN, unN]
    rw [e1, e2, e3]
    exact g1
/-- an ASK begins -/
theorem simAsk {G : gG} {I : gI} {R : gR} {L : gL} {Q : gQ} {vb n pl tk v a : Nat} {pre o : List (Nat × Nat)} {Lg : List Nat} (hR : g_Fx R) (h : mV I vb pre [] [] Lg o false) (h27 : I 310 27 = 0) (hx : lxM I n pl tk v a) (hop : opN Lg ≤ 8) (htk : tk ≠ 11) (htk2 : tk < 40)
    (hq : ∀ I', mV I' vb pre [] [] Lg o true → lxM I' n pl tk v a → frX I I' → I' 310 27 = 1 → Go G mX7_text 6 0 0 74 [some (.ref 310), none, none] [] SH I' R L Q) : Go G mX7_text 6 0 0 74 [some (.ref 310), none, none] [] SH I R L Q := by
  obtain ⟨x13, x14, x15, xt⟩ := hx
  have ti := tkR_i xt
  have hl2 := cnt_op Lg
  have hl3 := bs_len vb false [] Lg
  have hF : (fmA [] ++ bsF vb false [] Lg).length < 40 := by rw [show fmA [] ++ bsF vb false [] Lg = bsF vb false [] Lg from rfl, hl3]; simp; omega
  refine tx0 hR h.2.2.2 h27 (e_X7_asks hR ⟨fun _ => ⟨by rw [h.1.1.1]; exact vp_in_nI hF (by decide), ?_⟩, fun c => ?_⟩)
  · rintro _ rfl _ rfl
    have k1 := mK_opF (f := 4) h.1 hF
    have f1 : frX I (up (opF I 4) 310 27 1) := frX_up (frN.x k1.2) (by omega)
    have e : ∀ j, j = 14 ∨ j = 15 ∨ j = 16 ∨ j = 17 → up (opF I 4) 310 27 1 310 j = I 310 j := fun j hj => by
      rw [up_ni (by omega)]; exact k1.2.2 j (by omega) (by omega) (by omega) (by omega) (by omega)
    refine b_X7_text_136 hR (hq _ (mV_x h f1 ?_ (fun c e => by cases e)) ⟨by rw [f1.2 13 (by omega)]; exact x13, by rw [e 14 (by omega)]; exact x14, by rw [e 15 (by omega)]; exact x15, by rw [e 16 (by omega), e 17 (by omega)]; exact xt⟩ f1 (up_eq _ _ _ _))
    have e1 : fmA [] ++ bsF vb true [] Lg = 4 :: (fmA [] ++ bsF vb false [] Lg) := by simp [fmA, bsF, asF]
    rw [e1]
    exact mK_up k1.1 (by decide) (by decide) (by decide) (by decide)
  · exfalso
    obtain ⟨c1, c2⟩ := c
    rcases Nat.lt_or_ge tk 24 with q | q
    · rw [(ti.2.1 q).2] at c2
      exact htk ((nI_eq (b := 11) (by omega) (by decide)).mp c2)
    · rcases Nat.lt_or_ge tk 37 with q2 | q2
      · rw [(ti.2.2.1 q (by omega)).1] at c1; exact absurd c1 (by decide)
      · have : tk = 37 ∨ tk = 38 ∨ tk = 39 := by omega
        rcases this with q3 | q3 | q3
        · rw [(ti.1 q3).1] at c1; exact absurd c1 (by decide)
        · rw [ti.2.2.2.1 q3] at c1; exact absurd c1 (by decide)
        · rcases ti.2.2.2.2 q3 with q4 | ⟨q4, -⟩
          · rw [q4] at c1; exact absurd c1 (by decide)
          · rw [q4] at c1; exact absurd c1 (by decide)
