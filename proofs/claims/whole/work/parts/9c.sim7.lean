/-- a sign of comparison -/
theorem simCmp {G : gG} {I : gI} {R : gR} {L : gL} {Q : gQ} {T : Nat → Nat} {vb n pl tk v a pl' tk' v' a' : Nat} {pre o : List (Nat × Nat)} {A Lg : List Nat} (hR : g_Fx R) (hT : tpM I T n) (h : mV I vb pre A [] Lg o true) (h27 : I 310 27 = 2) (hx : lxM I n pl tk v a) (hA : ∀ x ∈ A, inA x) (hW : okW A) (h40 : ∀ y B, A = y :: B → y ≠ 40) (hop : opN (A ++ [] ++ Lg) ≤ 8) (hAl : (wtA (bsF vb true [] Lg).length A ++ wtL Lg).length < 80) (hlen : (pre ++ o).length + 80 ≤ 400) (hM : ∀ w ∈ wtL Lg, w.2 < (bsF vb true [] Lg).length) (hc : inC tk) (hb : brN A = 0) (hL : Lx T n a pl' tk' v' a')
    (hq : ∀ I', mV I' vb pre [] [tk] Lg (o ++ (cd A).map tkc) true → lxM I' n pl' tk' v' a' → frV I I' → I' 310 27 = 1 → Go G mX7_text 6 0 0 74 [some (.ref 310), none, none] [] SH I' R L Q) : Go G mX7_text 6 0 0 74 [some (.ref 310), none, none] [] SH I R L Q := by
  have hx0 := hx
  obtain ⟨x13, x14, x15, xt⟩ := hx
  have ti := tkR_i xt
  have htk : 24 ≤ tk ∧ tk ≤ 36 ∧ ¬ (28 ≤ tk ∧ tk ≤ 31) := by clear ti; unfold inC at hc; omega
  obtain ⟨s3, t3⟩ := ti.2.2.1 htk.1 htk.2.1
  clear ti
  have hfm := fm_br0 hA hW h40 hb
  have hl2 := cnt_op Lg
  have hl3 := bs_len vb true [] Lg
  have hl4 : opN (A ++ [] ++ Lg) = opN A + opN [] + opN Lg := by rw [opN_app, opN_app]
  have eb : bsF vb true [] Lg = 4 :: nsF vb Lg := by simp [bsF, asF]
  have eb2 : bsF vb true [tk] Lg = 5 :: nsF vb Lg := by simp [bsF, asF]
  have hns : (nsF vb Lg).length ≤ 9 := by unfold nsF; simp; omega
  have hk0 := h.1
  rw [hfm, List.nil_append, eb] at hk0
  refine tx2 hR h.2.2.2 h27 (goOn hR hk0 (by omega) hx0 htk.2.2 (by omega) (b_X7_goesOn_65 hR ⟨fun _ => b_X7_goesOn_116 hR ⟨fun c => absurd rfl c, fun _ => ?_⟩, fun c => absurd c (by decide)⟩))
  rw [s3, t3]
  have hch : nI (chO tk) = 60 ∨ nI (chO tk) = 62 ∨ nI (chO tk) = 61 ∨ nI (chO tk) = 35 ∨ nI (chO tk) = 300 ∨ nI (chO tk) = 301 := by
    have : tk = 24 ∨ tk = 25 ∨ tk = 26 ∨ tk = 27 ∨ tk = 35 ∨ tk = 36 := by unfold inC at hc; omega
    rcases this with rfl | rfl | rfl | rfl | rfl | rfl <;> decide
  refine ⟨fun c => absurd rfl c, fun _ => ⟨fun c => absurd hch c, fun _ => ?_⟩⟩
  refine worksA hR h hA hW h40 hop hAl hlen hM (fun I1 g1 g2 => b_X7_goesOn_144 hR ?_)
  have e5 := rs5 hA hb
  rw [e5.1, e5.2] at g1
  have k1 := g1.1
  rw [show fmA [] = [] from rfl, List.nil_append, eb] at k1
  have k1l : I1 310 21 = nI ((nsF vb Lg).length + 1) := k1.1.1
  have e17 : I1 310 17 = nI (chO tk) := (g2.2 17 (by decide) (by decide) (by decide) (by decide) (by decide)).trans t3
  rw [k1l, nI_clamp (by omega), e17]
  refine ⟨vp_in_nI (by omega) (by decide), ?_⟩
  rintro _ rfl
  rw [up_nc (by decide), k1l, nI_pred, nI_clamp (by omega)]
  refine ⟨vp_in_nI (by omega) (by decide), ?_⟩
  rintro _ rfl
  have f1 : frV I (up (up I1 322 ((nsF vb Lg).length + 1) (nI (chO tk))) 321 (nsF vb Lg).length 5) := frV_up (frV_up g2.x.v (by omega)) (by omega)
  have eo : ∀ j, up (up I1 322 ((nsF vb Lg).length + 1) (nI (chO tk))) 321 (nsF vb Lg).length 5 310 j = I1 310 j := fun j => by rw [up_nc (by decide), up_nc (by decide)]
  have k2 : mK (up (up I1 322 ((nsF vb Lg).length + 1) (nI (chO tk))) 321 (nsF vb Lg).length 5) (5 :: nsF vb Lg) (wtA (bsF vb true [tk] Lg).length [] ++ wtL Lg) (pre ++ (o ++ (cd A).map tkc)) (opN ([] ++ [tk] ++ Lg)) := by
    have e6 : opN ([] ++ [tk] ++ Lg) = opN ([] ++ [] ++ Lg) := by
      rw [List.nil_append, opN_app]; simp [opN, (bdC hc).2]
    rw [e6]
    obtain ⟨⟨a1, a2⟩, ⟨b1, b2, b3⟩, c1, d1, d2, d3⟩ := k1
    refine ⟨⟨(eo 21).trans a1, ?_, stN_of (fun k hk => ?_) a2.2⟩, ⟨(eo 24).trans b1, stN_of (fun k _ => ?_) b2, stN_of (fun k _ => ?_) b3⟩, (eo 20).trans c1, (eo 34).trans d1, lsN_of (fun k _ => ?_) d2, lsN_of (fun k _ => ?_) d3⟩
    · rw [up_eq]; rfl
    · rw [up_ni (by omega), up_nc (by decide)]
    · rw [up_nc (by decide), up_nc (by decide)]
    · rw [up_nc (by decide), up_nc (by decide)]
    · rw [up_nc (by decide), up_nc (by decide)]
    · rw [up_nc (by decide), up_nc (by decide)]
  have e13 : I1 310 13 = nI n := (g2.2 13 (by decide) (by decide) (by decide) (by decide) (by decide)).trans x13
  have e14 : I1 310 14 = nI a := (g2.2 14 (by decide) (by decide) (by decide) (by decide) (by decide)).trans x14
  refine k_X7_nextToken hR (tpM_v hT f1) ((eo 13).trans e13) ((eo 14).trans e14) hL (fun s t ht => b_X7_goesOn_173 hR ?_)
  rintro _ rfl
  have lx := lxM_mv (pl := pl') (a := a') ((eo 13).trans e13) ht
  have f2 : frV I (up (mvT (up (up I1 322 ((nsF vb Lg).length + 1) (nI (chO tk))) 321 (nsF vb Lg).length 5) pl' a' s t) 310 27 1) := frV_up (f1.trans (frX_mv (frX.refl _)).v) (by omega)
  refine b_X7_text_150 hR (hq _ ⟨?_, fun c e => ?_, ?_, ?_⟩ ⟨by rw [up_ni (by decide)]; exact lx.1, by rw [up_ni (by decide)]; exact lx.2.1, by rw [up_ni (by decide)]; exact lx.2.2.1, by rw [up_ni (by decide), up_ni (by decide)]; exact lx.2.2.2⟩ f2 (up_eq _ _ _ _))
  · rw [show fmA [] = [] from rfl, List.nil_append, show bsF vb true [tk] Lg = 5 :: nsF vb Lg from eb2]
    rw [eb2] at k2
    exact mK_up (mK_mv k2) (by decide) (by decide) (by decide) (by decide)
  · cases e
    rw [eb2, List.length_cons, up_nc (by decide), mv_o (Or.inl (by decide)), up_nc (by decide), up_eq]
  · rw [f2.2 29 (by omega)]; exact h.2.2.1
  · rw [f2.2 18 (by omega)]; exact h.2.2.2
/-- a bracket is closed -/
theorem simCls {G : gG} {I : gI} {R : gR} {L : gL} {Q : gQ} {T : Nat → Nat} {vb n pl v a pl' tk' v' a' : Nat} {pre o : List (Nat × Nat)} {P A C Lg : List Nat} {ask : Bool} (hR : g_Fx R) (hT : tpM I T n) (h : mV I vb pre (P ++ 32 :: A) C Lg o ask) (h27 : I 310 27 = 2) (hx : lxM I n pl 33 v a) (hA : ∀ x ∈ P ++ 32 :: A, inA x) (hW : okW (P ++ 32 :: A)) (h40 : ∀ y B, P ++ 32 :: A = y :: B → y ≠ 40) (hop : opN (P ++ 32 :: A ++ C ++ Lg) ≤ 8) (hAl : (wtA (bsF vb ask C Lg).length (P ++ 32 :: A) ++ wtL Lg).length < 80) (hlen : (pre ++ o).length + 90 ≤ 400) (hP : P.length < 80) (hM : ∀ w ∈ wtL Lg, w.2 < (bsF vb ask C Lg).length) (hb : brN P = 0) (hL : Lx T n a pl' tk' v' a')
    (hq : ∀ I' j A', A = List.replicate j 40 ++ A' → (∀ y B, A' = y :: B → y ≠ 40) → mV I' vb pre A' C Lg (o ++ (cd P).map tkc ++ List.replicate j (402, 0)) ask → lxM I' n pl' tk' v' a' → frX I I' → I' 310 27 = 2 → Go G mX7_text 6 0 0 74 [some (.ref 310), none, none] [] SH I' R L Q) : Go G mX7_text 6 0 0 74 [some (.ref 310), none, none] [] SH I R L Q := by
  have hx0 := hx
  obtain ⟨x13, x14, x15, xt⟩ := hx
  have ti := tkR_i xt
  obtain ⟨s3, t3⟩ := ti.2.2.1 (by decide) (by decide)
  clear ti
  have hl1 := fm_len (P ++ 32 :: A)
  have hl2 := cnt_op Lg
  have hl3 := bs_len vb ask C Lg
  have hl4 : opN (P ++ 32 :: A ++ C ++ Lg) = opN (P ++ 32 :: A) + opN C + opN Lg := by rw [opN_app, opN_app]
  have hb10 : (bsF vb ask C Lg).length ≤ 10 := by rw [hl3]; split <;> omega
  obtain ⟨F, hF⟩ : ∃ F, fmA (P ++ 32 :: A) = 6 :: F := by
    rcases fm_head _ hA hW h40 with q | q
    · exact absurd q (fm_br _ (by unfold brN; rw [List.count_append, List.count_cons_self]; omega))
    · exact q
  have hFl : F.length + 1 ≤ 8 := by rw [hF] at hl1; simp at hl1; omega
  have hk0 := h.1
  rw [hF, List.cons_append] at hk0
  refine tx2 hR h.2.2.2 h27 (goOn hR hk0 (by rw [List.length_append]; omega) hx0 (by omega) (by omega) (b_X7_goesOn_65 hR ⟨fun c => absurd rfl c, fun _ => ?_⟩))
  rw [s3, t3]
  refine ⟨fun c => absurd ⟨rfl, by decide⟩ c, fun _ => ?_⟩
  refine worksA hR h hA hW h40 hop hAl (by omega) hM (fun I1 g1 g2 => b_X7_goesOn_85 hR ?_)
  have e5 := rs5b hA hb
  rw [e5.1, e5.2] at g1
  have k1 := g1.1
  have ef : fmA (32 :: A) ++ bsF vb ask C Lg = 6 :: (fmA A ++ bsF vb ask C Lg) := by simp [fmA]
  have ew : wtA (bsF vb ask C Lg).length (32 :: A) = wtA (bsF vb ask C Lg).length A := by simp [wtA]
  have eo : opN (32 :: A ++ C ++ Lg) = opN (A ++ C ++ Lg) + 1 := by simp [opN, unN]
  rw [ef, ew, eo] at k1
  have k2 := mK_cl k1
  rintro _ rfl _ rfl
  have f1 := g2.trans k2.2
  have hv2 := mV_x (A' := A) (C' := C) (Lg' := Lg) (ask' := ask) g1 k2.2.x k2.1 (fun c e => ⟨e, rfl⟩)
  refine k_X7_nextToken hR (tpM_x hT f1.x) (by rw [f1.2 13 (by decide) (by decide) (by decide) (by decide) (by decide)]; exact x13) (by rw [f1.2 14 (by decide) (by decide) (by decide) (by decide) (by decide)]; exact x14) hL (fun s t ht => b_X7_goesOn_109 hR ?_)
  have k3 := mK_mv (pl := pl') (a := a') (s := s) (t := t) k2.1
  have lx := lxM_mv (pl := pl') (a := a') ((f1.2 13 (by decide) (by decide) (by decide) (by decide) (by decide)).trans x13) ht
  have hv3 := mV_x (A' := A) (C' := C) (Lg' := Lg) (ask' := ask) hv2 (frX_mv (pl := pl') (a := a') (s := s) (t := t) (frX.refl _)) k3 (fun c e => ⟨e, rfl⟩)
  have hopA : opN (A ++ C ++ Lg) ≤ 8 := by
    have : opN (P ++ 32 :: A ++ C ++ Lg) = opN P + opN (32 :: A ++ C ++ Lg) := by rw [← opN_app]; simp
    omega
  refine one_over hR hv3 (fun x hx => hA x (by simp [hx])) (okW_tail (P ++ [32]) A (by simpa using hW)) hopA (by simp [cd] at hlen ⊢; omega) (fun I' j A' e1 e2 g1 g2 g3 g4 => b_X7_goesOn_113 hR (b_X7_text_150 hR (hq I' j A' e1 e2 g1 ⟨?_, ?_, ?_, ?_⟩ ((frX_mv f1.x).trans g2) g4)))
  · rw [g2.2 13 (by omega)]; exact lx.1
  · rw [g3 14 (by omega)]; exact lx.2.1
  · rw [g3 15 (by omega)]; exact lx.2.2.1
  · rw [g3 16 (by omega), g3 17 (by omega)]; exact lx.2.2.2
