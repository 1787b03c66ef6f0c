theorem wtL_1 : ∀ (Lg : List Nat), ∀ w ∈ wtL Lg, w.1 < 500 ∧ w.2 = 1
  | [], w, h => by simp [wtL] at h
  | x :: L, w, h => by
    rw [wtL] at h
    split at h
    · exact wtL_1 L w h
    · rcases List.mem_cons.mp h with q | q
      · subst q; refine ⟨?_, rfl⟩; show lgO x < 500; unfold lgO; split <;> omega
      · exact wtL_1 L w q
theorem wtL_lg : ∀ P : List Nat, (∀ x ∈ P, x = 9 ∨ x = 10) → wtL P = P.map (fun x => (lgO x, 1))
  | [], _ => rfl
  | x :: P, h => by
    have hx := h x (by simp)
    rw [wtL, if_neg (by omega), wtL_lg P (fun y hy => h y (by simp [hy]))]; rfl
/-- and, or -/
theorem simLgc {G : gG} {I : gI} {R : gR} {L : gL} {Q : gQ} {T : Nat → Nat} {n pl tk v a pl' tk' v' a' : Nat} {pre o : List (Nat × Nat)} {L' : List Nat} (hR : g_Fx R) (hT : tpM I T n) (h : mV I 2 pre [] [] L' o false) (h27 : I 310 27 = 3) (hx : lxM I n pl tk v a) (hL' : ∀ x ∈ L', x = 9 ∨ x = 10) (hl : L'.length < 80) (hlen : (pre ++ o).length + 80 ≤ 400) (ht : tk = 9 ∨ tk = 10) (hL : Lx T n a pl' tk' v' a')
    (hq : ∀ I', mV I' 2 pre [] [] (tk :: rsN (bdN tk) L') (o ++ (cd (ppN (bdN tk) L')).map tkc) false → lxM I' n pl' tk' v' a' → frX I I' → I' 310 27 = 0 → Go G mX7_text 6 0 0 74 [some (.ref 310), none, none] [] SH I' R L Q) : Go G mX7_text 6 0 0 74 [some (.ref 310), none, none] [] SH I R L Q := by
  have htk2 : tk < 40 := by omega
  have hct := ct_lg hL'
  have e1 : fmA [] ++ bsF 2 false [] L' = [2] := by simp [fmA, bsF, asF, nsF, hct.1]
  have hk := h.1
  rw [e1, show wtA (bsF 2 false [] L').length [] ++ wtL L' = wtL L' from rfl] at hk
  have hlw : (wtL L').length < 80 := by rw [wtL_lg L' hL', List.length_map]; exact hl
  have w := wp_L ht L' hL'
  have hr' : ∀ x ∈ rsN (bdN tk) L', x = 9 ∨ x = 10 := fun x hx => hL' x (mem_rs hx)
  have hp' : ∀ x ∈ ppN (bdN tk) L', x = 9 ∨ x = 10 := fun x hx => hL' x (by rw [← pp_rs (bdN tk) L']; exact List.mem_append.mpr (Or.inl hx))
  have hr2 : ∀ x ∈ tk :: rsN (bdN tk) L', x = 9 ∨ x = 10 := fun x hx => by
    rcases List.mem_cons.mp hx with q | q
    · subst q; exact ht
    · exact hr' x q
  have hct2 := ct_lg hr2
  have core : Mt G mX7_waitsFor 4 0 0 [.ref 310, .int (nI (lgO tk))] SH I R L (fun r S' I' R' L' => Go G mX7_asksOn 5 0 0 40 [some (.ref 310)] (r.toList ++ []) S' I' R' L' (fun r S' I' R' L' => Go G mX7_text 6 0 0 157 [some (.ref 310), none, none] (r.toList ++ []) S' I' R' L' Q)) := by
    refine k_X7_waitsFor (o := lgO tk) hR hT hk hx.1 hx.2.1 (by unfold lgO; split <;> omega) hL hlw (fun w hw => ⟨(wtL_1 _ w hw).1, by rw [(wtL_1 _ w hw).2]; omega⟩) (by simp) (by omega) (fun I' g1 g2 g3 => b_X7_asksOn_40 hR ?_)
    rintro _ rfl
    rw [show ([2] : List Nat).length = 1 from rfl, w.1, w.2] at g1
    have f1 : frX I (up I' 310 27 0) := frX_up g3 (by omega)
    refine b_X7_text_157 hR (hq _ (mV_x h f1 (mK_up ?_ (by decide) (by decide) (by decide) (by decide)) (fun c e => by cases e)) ⟨by rw [up_ni (by decide)]; exact g2.1, by rw [up_ni (by decide)]; exact g2.2.1, by rw [up_ni (by decide)]; exact g2.2.2.1, by rw [up_ni (by decide), up_ni (by decide)]; exact g2.2.2.2⟩ f1 (up_eq _ _ _ _))
    have e2 : fmA [] ++ bsF 2 false [] (tk :: rsN (bdN tk) L') = [2] := by simp only [fmA, bsF, asF, nsF, hct2.1]; rfl
    have e3 : wtA (bsF 2 false [] (tk :: rsN (bdN tk) L')).length [] ++ wtL (tk :: rsN (bdN tk) L') = (lgO tk, 1) :: wtL (rsN (bdN tk) L') := by
      show wtL (tk :: rsN (bdN tk) L') = _
      rw [wtL, if_neg (by omega)]
    have e4 : opN ([] ++ [] ++ tk :: rsN (bdN tk) L') = opN ([] ++ [] ++ L') := by
      show opN (tk :: rsN (bdN tk) L') = opN L'
      rw [hct2.2, hct.2]
    rw [e2, e3, e4, cd_lg _ hp', ← List.append_assoc pre o]
    simpa [List.map_map, Function.comp_def] using g1
  have g18 : Go G mX7_asksOn 5 0 0 18 [some (.ref 310)] [] SH I R L (fun r S' I' R' L' => Go G mX7_text 6 0 0 157 [some (.ref 310), none, none] (r.toList ++ []) S' I' R' L' Q) := by
    have i9 := tk_s1 hx htk2 (t := 9) (by omega)
    refine b_X7_asksOn_18 hR ⟨fun c => ?_, fun c => ?_⟩
    · have : tk = 10 := by have := mt i9.mpr c; omega
      subst this; exact core
    · have : tk = 9 := i9.mp c
      subst this; exact core
  refine tx3 hR h.2.2.2 h27 (e_X7_asksOn hR ⟨fun _ => g18, fun c => ⟨fun c2 => ?_, fun _ => g18⟩⟩)
  exfalso
  have i9 := tk_s1 hx htk2 (t := 9) (by omega)
  have i10 := tk_s1 hx htk2 (t := 10) (by omega)
  have := mt i9.mpr c
  have := mt i10.mpr c2
  omega
/-- a law of an ASK ends -/
theorem simEndB {G : gG} {I : gI} {R : gR} {L : gL} {Q : gQ} {T : Nat → Nat} {n pl v a nc pl' tk' v' a' : Nat} {pre o : List (Nat × Nat)} {L' : List Nat} (hR : g_Fx R) (hT : tpM I T n) (h : mV I 2 pre [] [] L' o false) (h27 : I 310 27 = 3) (h28 : I 310 28 = nI nc) (hx : lxM I n pl 34 v a) (hL' : ∀ x ∈ L', x = 9 ∨ x = 10) (hl : L'.length < 80) (hlen : (pre ++ o).length + 80 ≤ 400) (hL : Lx T n a pl' tk' v' a')
    (hq : ∀ I', mK I' [] [] (pre ++ (o ++ (cd L').map tkc) ++ [(408, 0)]) 0 → lxM I' n pl' tk' v' a' → frZ I I' → I' 310 27 = 4 → I' 310 28 = nI (nc + 1) → Go G mX7_text 6 0 0 74 [some (.ref 310), none, none] [] SH I' R L Q) : Go G mX7_text 6 0 0 74 [some (.ref 310), none, none] [] SH I R L Q := by
  have hct := ct_lg hL'
  have e1 : fmA [] ++ bsF 2 false [] L' = [2] := by simp [fmA, bsF, asF, nsF, hct.1]
  have hk := h.1
  rw [e1, show wtA (bsF 2 false [] L').length [] ++ wtL L' = wtL L' from rfl, show opN ([] ++ [] ++ L') = 0 from hct.2] at hk
  have hlw : (wtL L').length < 80 := by rw [wtL_lg L' hL', List.length_map]; exact hl
  have i9 := tk_s1 hx (by omega) (t := 9) (by omega)
  have i10 := tk_s1 hx (by omega) (t := 10) (by omega)
  have i34 := tk_s3 hx (by omega) (t := 34) (by omega) (by omega)
  refine tx3 hR h.2.2.2 h27 (e_X7_asksOn hR ⟨fun c => absurd (i9.mp c) (by decide), fun _ => ⟨fun _ => ⟨?_, fun c => ?_, fun _ => ⟨fun c => absurd (i34.mpr rfl) c, fun _ => ?_⟩⟩, fun c => absurd (i10.mp c) (by decide)⟩⟩)
  · rw [hk.1.1]; exact vp_in_nI (n := 0) (by omega) (by decide)
  · exfalso; apply c; rw [hk.1.1]; exact hk.1.2.1
  · refine k_X7_clauseIsOver hR hT hk hx.1 hx.2.1 h28 hL (by omega) (fun w hw => wtL_1 _ w hw) (by simp) (by omega) (fun I' g1 g2 g3 g4 g5 => b_X7_asksOn_69 hR (b_X7_text_157 hR (hq I' ?_ g2 g3 g4 g5)))
    rw [cd_lg _ hL']
    rw [wtL_lg _ hL'] at g1
    simpa [List.map_map, Function.comp_def] using g1
theorem wtA_ar (b : Nat) : ∀ A : List Nat, (∀ x ∈ A, 28 ≤ x ∧ x ≤ 31) → wtA b A = A.map (fun x => (chO x, b))
  | [], _ => rfl
  | x :: A, h => by
    have hx := h x (by simp)
    have hf : ∀ A : List Nat, (∀ x ∈ A, 28 ≤ x ∧ x ≤ 31) → fmA A = [] := by
      intro A
      induction A with
      | nil => intro _; rfl
      | cons y A ih => intro h; have hy := h y (by simp); rw [fmA, if_neg (by omega), if_neg (by omega)]; exact ih (fun z hz => h z (by simp [hz]))
    rw [wtA, if_neg (by omega), wtA_ar b A (fun y hy => h y (by simp [hy])), hf A (fun y hy => h y (by simp [hy]))]; rfl
theorem ar_of {A : List Nat} (hA : ∀ x ∈ A, inA x) (hf : fmA A = []) : ∀ x ∈ A, 28 ≤ x ∧ x ≤ 31 := by
  induction A with
  | nil => intro x hx; simp at hx
  | cons y A ih =>
    have hy := hA y (by simp)
    have h32 : y ≠ 32 := by rintro rfl; simp [fmA] at hf
    have h40 : y ≠ 40 := by rintro rfl; simp [fmA] at hf
    rw [fmA, if_neg h32, if_neg h40] at hf
    intro x hx
    rcases List.mem_cons.mp hx with q | q
    · subst q; unfold inA at hy; omega
    · exact ih (fun z hz => hA z (by simp [hz])) hf x q
/-- a law of a SUM ends -/
theorem simEndA {G : gG} {I : gI} {R : gR} {L : gL} {Q : gQ} {T : Nat → Nat} {vb n pl v a nc pl' tk' v' a' : Nat} {pre o : List (Nat × Nat)} {A : List Nat} (hR : g_Fx R) (hT : tpM I T n) (hvb : vb < 2) (h : mV I vb pre A [] [] o false) (h27 : I 310 27 = 2) (h28 : I 310 28 = nI nc) (hx : lxM I n pl 34 v a) (hA : ∀ x ∈ A, inA x) (hW : okW A) (h40 : ∀ y B, A = y :: B → y ≠ 40) (hb : brN A = 0) (hl : A.length < 80) (hlen : (pre ++ o).length + 80 ≤ 400) (hL : Lx T n a pl' tk' v' a')
    (hq : ∀ I', mK I' [] [] (pre ++ (o ++ (cd A).map tkc) ++ [(408, 0)]) 0 → lxM I' n pl' tk' v' a' → frZ I I' → I' 310 27 = 4 → I' 310 28 = nI (nc + 1) → Go G mX7_text 6 0 0 74 [some (.ref 310), none, none] [] SH I' R L Q) : Go G mX7_text 6 0 0 74 [some (.ref 310), none, none] [] SH I R L Q := by
  have hfm := fm_br0 hA hW h40 hb
  have har := ar_of hA hfm
  have hopA := op_fm A hA
  rw [hfm] at hopA
  have e1 : bsF vb false [] [] = [1] := by simp [bsF, asF, nsF]; omega
  have hk := h.1
  rw [hfm, e1, show wtA [1].length A ++ wtL [] = A.map (fun x => (chO x, 1)) by rw [wtA_ar _ A har]; simp [wtL], List.append_nil, List.append_nil, ← hopA] at hk
  have hk : mK I (1 :: []) (A.map (fun x => (chO x, 1))) (pre ++ o) 0 := hk
  have i34 := tk_s3 hx (by omega) (t := 34) (by omega) (by omega)
  refine tx2 hR h.2.2.2 h27 (goOn hR hk (by simp) hx (by omega) (by omega) (b_X7_goesOn_65 hR ⟨fun _ => b_X7_goesOn_116 hR ⟨fun _ => b_X7_goesOn_181 hR ⟨fun _ => ⟨fun q => absurd rfl q, fun _ => ⟨fun q => absurd (i34.mpr rfl) q, fun _ => ?_⟩⟩, fun q => absurd q (by decide)⟩, fun q => absurd q (by decide)⟩, fun q => absurd q (by decide)⟩))
  refine k_X7_clauseIsOver hR hT hk hx.1 hx.2.1 h28 hL (by simp; omega) (fun w hw => ?_) (by simp) (by simp at hlen ⊢; omega) (fun I' g1 g2 g3 g4 g5 => b_X7_goesOn_242 hR (b_X7_text_150 hR (hq I' ?_ g2 g3 g4 g5)))
  · obtain ⟨x, hx, rfl⟩ := List.mem_map.mp hw
    exact ⟨chO_lt x, rfl⟩
  · rw [cd_ar _ har]
    simpa [List.map_map, Function.comp_def] using g1
/-- what can't stand behind a ONE -/
theorem simBtw {G : gG} {I : gI} {R : gR} {L : gL} {Q : gQ} {vb n pl tk v a : Nat} {pre o : List (Nat × Nat)} {A C Lg : List Nat} (hR : g_Fx R) (hvb : vb < 3) (h : mV I vb pre A C Lg o (vb == 2)) (h27 : I 310 27 = 2) (hx : lxM I n pl tk v a) (hA : ∀ x ∈ A, inA x) (hC : C = [] ∨ ∃ c, inC c ∧ C = [c] ∧ vb = 2) (hLg : ∀ x ∈ Lg, inL x) (hv : vb ≠ 2 → Lg = []) (hW : okW A) (hWL : okW Lg) (h40 : ∀ y B, A = y :: B → y ≠ 40) (hop : opN (A ++ C ++ Lg) ≤ 8) (hAl : (wtA (bsF vb (vb == 2) C Lg).length A ++ wtL Lg).length < 80) (hA2 : A.length < 80) (hlen : (pre ++ o).length + 100 ≤ 400) (hM : ∀ w ∈ wtL Lg, w.2 < (bsF vb (vb == 2) C Lg).length) (htk2 : tk < 40)
    (n1 : ¬ (28 ≤ tk ∧ tk ≤ 31)) (n2 : ¬ (inC tk ∧ vb = 2 ∧ brN A = 0 ∧ C = [])) (n3 : ¬ ((tk = 9 ∨ tk = 10) ∧ brN A = 0 ∧ C ≠ [])) (n4 : ¬ (tk = 33 ∧ brN A ≠ 0)) (n5 : ¬ (tk = 34 ∧ brN A = 0 ∧ (C ≠ [] ↔ vb = 2)))
    (hq : ∀ I', frX I I' → I' 310 15 = nI pl → Go G mX7_text 6 0 0 74 [some (.ref 310), none, none] [] SH (errI I' 1) R L Q) : Go G mX7_text 6 0 0 74 [some (.ref 310), none, none] [] SH I R L Q := by
  have hl1 := fm_len A
  have hl2 := cnt_op Lg
  have hl3 := bs_len vb (vb == 2) C Lg
  have hl4 : opN (A ++ C ++ Lg) = opN A + opN C + opN Lg := by rw [opN_app, opN_app]
  have hb10 : (bsF vb (vb == 2) C Lg).length ≤ 10 := by rw [hl3]; split <;> omega
  have err : Go G mX7_text 6 0 0 74 [some (.ref 310), none, none] [] SH (errI I 1) R L Q := hq I (frX.refl _) hx.2.2.1
  rcases fm_head A hA hW h40 with hfm | ⟨F, hfm⟩
  · have hb : brN A = 0 := Decidable.byContradiction fun q => fm_br A q hfm
    have hk := h.1
    rw [hfm, List.nil_append] at hk
    by_cases v2 : vb = 2
    · subst v2
      rcases hC with rfl | ⟨c, hc, rfl, -⟩
      · have eb : bsF 2 ((2 : Nat) == 2) [] Lg = 4 :: nsF 2 Lg := by simp [bsF, asF]
        rw [eb] at hk hb10
        refine tx2 hR h.2.2.2 h27 (goOn hR hk (by simp at hb10; omega) hx n1 htk2 (b_X7_goesOn_65 hR ⟨fun _ => b_X7_goesOn_116 hR ⟨fun q => absurd rfl q, fun _ => ?_⟩, fun q => absurd q (by decide)⟩))
        have g181 : Go G mX7_goesOn 5 0 0 181 [some (.ref 310), some (.int 4), none] [] SH I R L (fun r S' I' R' L' => Go G mX7_text 6 0 0 150 [some (.ref 310), none, none] (r.toList ++ []) S' I' R' L' Q) := by
          refine b_X7_goesOn_181 hR ⟨fun _ => ⟨fun _ => ?_, fun q => absurd q (by decide)⟩, fun q => absurd q (by decide)⟩
          rintro _ rfl
          exact b_X7_text_150 hR err
        refine ⟨fun _ => g181, fun h3 => ⟨fun _ => g181, fun q => ?_⟩⟩
        exfalso
        have hi : ∀ t, 24 ≤ t → t ≤ 36 → I 310 17 = nI (chO t) → tk = t := fun t a b e => (tk_s3 hx htk2 a b).mp ⟨h3, e⟩
        refine n2 ⟨?_, rfl, hb, rfl⟩
        unfold inC
        rcases q with q | q | q | q | q | q
        · have := hi 24 (by omega) (by omega) q; omega
        · have := hi 25 (by omega) (by omega) q; omega
        · have := hi 26 (by omega) (by omega) q; omega
        · have := hi 27 (by omega) (by omega) q; omega
        · have e : (300 : Int32) = nI (chO 35) ∨ (300 : Int32) = nI (chO 36) := by decide
          rcases e with e | e
          · have := hi 35 (by omega) (by omega) (q.trans e); omega
          · have := hi 36 (by omega) (by omega) (q.trans e); omega
        · have e : (301 : Int32) = nI (chO 35) ∨ (301 : Int32) = nI (chO 36) := by decide
          rcases e with e | e
          · have := hi 35 (by omega) (by omega) (q.trans e); omega
          · have := hi 36 (by omega) (by omega) (q.trans e); omega
      · refine simRight hR h h27 hx hA hW hWL h40 hop hAl hA2 hlen hM hc hLg hb n1 htk2 (fun I' k L' e1 e2 g1 g2 g3 g4 => ?_)
        have hct := ct_lg e2
        have e1 : fmA [] ++ bsF 2 false [] L' = [2] := by simp [fmA, bsF, asF, nsF, hct.1]
        have hk := g1.1
        rw [e1] at hk
        have i9 := tk_s1 g2 htk2 (t := 9) (by omega)
        have i10 := tk_s1 g2 htk2 (t := 10) (by omega)
        have i34 := tk_s3 g2 htk2 (t := 34) (by omega) (by omega)
        refine tx3 hR g1.2.2.2 g4 (e_X7_asksOn hR ⟨fun c => absurd ⟨Or.inl (i9.mp c), hb, by simp⟩ n3, fun _ => ⟨fun _ => ⟨?_, fun c => ?_, fun _ => ⟨fun c => ?_, fun c => absurd ⟨i34.mp c, hb, by simp⟩ n5⟩⟩, fun c => absurd ⟨Or.inr (i10.mp c), hb, by simp⟩ n3⟩⟩)
        · rw [hk.1.1]; exact vp_in_nI (n := 0) (by omega) (by decide)
        · rintro _ rfl; exact b_X7_text_157 hR (hq I' g3 g2.2.2.1)
        · rintro _ rfl; exact b_X7_text_157 hR (hq I' g3 g2.2.2.1)
    · have hC0 : C = [] := by
        rcases hC with q | ⟨c, -, -, q⟩
        · exact q
        · exact absurd q v2
      have hL0 := hv v2
      subst hC0; subst hL0
      have eb : bsF vb (vb == 2) [] [] = [1] := by
        have : (vb == 2) = false := by simp [v2]
        rw [this]; simp [bsF, asF, nsF]; omega
      rw [eb] at hk
      have hk : mK I (1 :: []) _ _ _ := hk
      have i34 := tk_s3 hx htk2 (t := 34) (by omega) (by omega)
      refine tx2 hR h.2.2.2 h27 (goOn hR hk (by simp) hx n1 htk2 (b_X7_goesOn_65 hR ⟨fun _ => b_X7_goesOn_116 hR ⟨fun _ => b_X7_goesOn_181 hR ⟨fun _ => ⟨fun q => absurd rfl q, fun _ => ⟨fun q => ?_, fun q => absurd ⟨i34.mp q, hb, by simp [v2]⟩ n5⟩⟩, fun q => absurd q (by decide)⟩, fun q => absurd q (by decide)⟩, fun q => absurd q (by decide)⟩))
      rintro _ rfl
      exact b_X7_text_150 hR err
  · have hb : brN A ≠ 0 := fun q => by rw [fm_br0 hA hW h40 q] at hfm; cases hfm
    have hk := h.1
    rw [hfm, List.cons_append] at hk
    have i33 := tk_s3 hx htk2 (t := 33) (by omega) (by omega)
    have hFl : F.length + 1 ≤ 8 := by rw [hfm] at hl1; simp at hl1; omega
    refine tx2 hR h.2.2.2 h27 (goOn hR hk (by rw [List.length_append]; omega) hx n1 htk2 (b_X7_goesOn_65 hR ⟨fun q => absurd rfl q, fun _ => ⟨fun _ => b_X7_goesOn_116 hR ⟨fun _ => b_X7_goesOn_181 hR ⟨fun _ => ⟨fun _ => ?_, fun q => absurd q (by decide)⟩, fun q => absurd q (by decide)⟩, fun q => absurd q (by decide)⟩, fun q => absurd ⟨i33.mp q, hb⟩ n4⟩⟩))
    rintro _ rfl
    exact b_X7_text_150 hR err
