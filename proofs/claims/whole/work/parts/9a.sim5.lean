/-- a sign of a sum -/
theorem simAri {G : gG} {I : gI} {R : gR} {L : gL} {Q : gQ} {T : Nat → Nat} {vb n pl tk v a pl' tk' v' a' : Nat} {pre o : List (Nat × Nat)} {A C Lg : List Nat} {ask : Bool} (hR : g_Fx R) (hT : tpM I T n) (h : mV I vb pre A C Lg o ask) (h27 : I 310 27 = 2) (hx : lxM I n pl tk v a) (hA : ∀ x ∈ A, inA x) (hW : okW A) (h40 : ∀ y B, A = y :: B → y ≠ 40) (hop : opN (A ++ C ++ Lg) ≤ 8) (hAl : (wtA (bsF vb ask C Lg).length A ++ wtL Lg).length < 80) (hlen : (pre ++ o).length + 80 ≤ 400) (hM : ∀ w ∈ wtL Lg, w.2 < (bsF vb ask C Lg).length) (t1 : 28 ≤ tk) (t2 : tk ≤ 31) (hL : Lx T n a pl' tk' v' a')
    (hq : ∀ I', mV I' vb pre (tk :: rsN (bdN tk) A) C Lg (o ++ (cd (ppN (bdN tk) A)).map tkc) ask → lxM I' n pl' tk' v' a' → frX I I' → I' 310 27 = 1 → Go G mX7_text 6 0 0 74 [some (.ref 310), none, none] [] SH I' R L Q) : Go G mX7_text 6 0 0 74 [some (.ref 310), none, none] [] SH I R L Q := by
  obtain ⟨x13, x14, x15, xt⟩ := hx
  have ti := tkR_i xt
  obtain ⟨s3, t3⟩ := ti.2.2.1 (by clear ti; omega) (by clear ti; omega)
  clear ti
  have hl1 := fm_len A
  have hl2 := cnt_op Lg
  have hl3 := bs_len vb ask C Lg
  have hl4 : opN (A ++ C ++ Lg) = opN A + opN C + opN Lg := by rw [opN_app, opN_app]
  have hb : (bsF vb ask C Lg).length ≤ 10 := by rw [hl3]; split <;> omega
  have b5 : 5 ≤ bdN tk := bdA (by unfold inA; omega) (by omega)
  have w := wp_A (b := (bsF vb ask C Lg).length) b5 (wtL Lg) A hA hW h40 hM
  have eF : (fmA A ++ bsF vb ask C Lg).length = (bsF vb ask C Lg).length + (fmA A).length := by rw [List.length_append]; omega
  have rk := rk_ch t1 t2
  have g49 : Go G mX7_goesOn 5 0 0 49 [some (.ref 310), none, none] [] SH I R L (fun r S' I' R' L' => Go G mX7_text 6 0 0 150 [some (.ref 310), none, none] (r.toList ++ []) S' I' R' L' Q) := by
    refine b_X7_goesOn_49 hR ?_
    rw [t3]
    refine k_X7_waitsFor (o := chO tk) hR hT h.1 x13 x14 rk.2 hL hAl (wt_rng2 hA hop) (by rw [eF]; omega) (by omega) (fun I' g1 g2 g3 => b_X7_goesOn_57 hR ?_)
    rintro _ rfl
    rw [eF, show rkO (chO tk) = bdN tk - 2 by omega, w.1, w.2.1] at g1
    have e1 : (ppN (bdN tk) A).map (fun x => (chO x, (bsF vb ask C Lg).length + (fmA A).length)) = (ppN (bdN tk) A).map (fun x => (chO x, (bsF vb ask C Lg).length + (fmA A).length)) := rfl
    have f1 : frX I (up I' 310 27 1) := frX_up g3 (by omega)
    refine b_X7_text_150 hR (hq _ (mV_x h f1 (mK_up ?_ (by decide) (by decide) (by decide) (by decide)) (fun c e => ⟨e, rfl⟩)) ⟨by rw [up_ni (by decide)]; exact g2.1, by rw [up_ni (by decide)]; exact g2.2.1, by rw [up_ni (by decide)]; exact g2.2.2.1, by rw [up_ni (by decide), up_ni (by decide)]; exact g2.2.2.2⟩ f1 (up_eq _ _ _ _))
    have e2 : fmA (tk :: rsN (bdN tk) A) = fmA A := by rw [show fmA (tk :: rsN (bdN tk) A) = fmA (rsN (bdN tk) A) by rw [fmA, if_neg (by omega), if_neg (by omega)], w.2.2.1]
    have e3 : wtA (bsF vb ask C Lg).length (tk :: rsN (bdN tk) A) = (chO tk, (bsF vb ask C Lg).length + (fmA A).length) :: wtA (bsF vb ask C Lg).length (rsN (bdN tk) A) := by rw [wtA, if_neg (by omega), w.2.2.1]
    have hun : unN tk = false := by unfold unN; simp; omega
    have e4 : opN (tk :: rsN (bdN tk) A ++ C ++ Lg) = opN (A ++ C ++ Lg) := by
      rw [hl4, opN_app, opN_app, ← w.2.2.2.2.1]
      simp [opN, hun]
    rw [e2, e3, e4, cd_ar _ w.2.2.2.2.2, ← List.append_assoc pre o]
    simpa [List.map_map, Function.comp_def] using g1
  obtain ⟨f, F, ef⟩ : ∃ f F, fmA A ++ bsF vb ask C Lg = f :: F := by
    obtain ⟨f, F, e, -⟩ := bs_head vb ask C Lg
    cases hq2 : fmA A with
    | nil => exact ⟨f, F, by rw [e]; rfl⟩
    | cons y Y => exact ⟨y, _, rfl⟩
  have hFl : F.length + 1 = (bsF vb ask C Lg).length + (fmA A).length := by rw [← eF, ef]; rfl
  refine tx2 hR h.2.2.2 h27 (e_X7_goesOn hR ?_)
  refine ⟨by rw [h.1.1.1, ef, List.length_cons, nI_pred]; exact vp_in_nI (by omega) (by decide), ?_⟩
  rintro _ rfl
  rw [s3, t3]
  refine ⟨fun c => absurd rfl c, fun _ => ⟨fun _ => g49, fun c1 => ⟨fun _ => g49, fun c2 => ⟨fun _ => g49, fun c3 => ⟨fun c4 => ?_, fun _ => g49⟩⟩⟩⟩⟩
  exfalso
  have : tk = 28 ∨ tk = 29 ∨ tk = 30 ∨ tk = 31 := by omega
  rcases this with rfl | rfl | rfl | rfl
  · exact c1 rfl
  · exact c2 rfl
  · exact c3 rfl
  · exact c4 rfl
