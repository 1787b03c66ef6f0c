def lxM (I : gI) (n pl tk v a : Nat) : Prop := I 310 13 = nI n ∧ I 310 14 = nI a ∧ I 310 15 = nI pl ∧ tkR tk v (I 310 16) (I 310 17)
/-- all but the parser's own is as it was -/
def frX (I I' : gI) : Prop := (∀ c, c ≠ 310 → c ≠ 321 → c ≠ 323 → c ≠ 324 → c ≠ 329 → c ≠ 330 → I' c = I c) ∧ ∀ j, (j ≤ 13 ∨ j = 18 ∨ j = 19 ∨ j = 28 ∨ j = 29) → I' 310 j = I 310 j
theorem frX.refl (I : gI) : frX I I := ⟨fun _ _ _ _ _ _ _ => rfl, fun _ _ => rfl⟩
theorem frX.trans {I J K : gI} (h : frX I J) (g : frX J K) : frX I K := ⟨fun c a b d e f i => (g.1 c a b d e f i).trans (h.1 c a b d e f i), fun j a => (g.2 j a).trans (h.2 j a)⟩
theorem frN.x {I J : gI} (h : frN I J) : frX I J := ⟨h.1, fun j hj => h.2 j (by omega) (by omega) (by omega) (by omega) (by omega)⟩
theorem frX_up {I J : gI} {c j : Nat} {x : Int32} (h : frX I J) (hc : (c = 310 ∧ ¬ (j ≤ 13 ∨ j = 18 ∨ j = 19 ∨ j = 28 ∨ j = 29)) ∨ c = 321 ∨ c = 323 ∨ c = 324 ∨ c = 329 ∨ c = 330) : frX I (up J c j x) := by
  refine ⟨fun a b d e f g i => ?_, fun k hk => ?_⟩
  · rw [up_off a (by omega)]; exact h.1 a b d e f g i
  · rw [up_ne (by rintro ⟨q1, q2⟩; subst q2; omega)]; exact h.2 k hk
theorem mv_o {J : gI} {pl a c j : Nat} {s t : Int32} (h : c ≠ 310 ∨ (j ≠ 14 ∧ j ≠ 15 ∧ j ≠ 16 ∧ j ≠ 17)) : mvT J pl a s t c j = J c j := by
  unfold mvT
  rw [up_ne (by omega), up_ne (by omega), up_ne (by omega), up_ne (by omega)]
theorem frX_mv {I J : gI} {pl a : Nat} {s t : Int32} (h : frX I J) : frX I (mvT J pl a s t) := frX_up (frX_up (frX_up (frX_up h (by omega)) (by omega)) (by omega)) (by omega)
theorem mK_mv {J : gI} {F : List Nat} {Wt out : List (Nat × Nat)} {op pl a : Nat} {s t : Int32} (h : mK J F Wt out op) : mK (mvT J pl a s t) F Wt out op := mK_up (mK_up (mK_up (mK_up h (by decide) (by decide) (by decide) (by decide)) (by decide) (by decide) (by decide) (by decide)) (by decide) (by decide) (by decide) (by decide)) (by decide) (by decide) (by decide) (by decide)
theorem lxM_mv {J : gI} {n pl tk v a : Nat} {s t : Int32} (h : J 310 13 = nI n) (ht : tkR tk v s t) : lxM (mvT J pl a s t) n pl tk v a := by
  refine ⟨by rw [mv_o (by omega)]; exact h, ?_, ?_, ?_⟩
  · unfold mvT; rw [up_ni (by decide), up_ni (by decide), up_ni (by decide), up_eq]
  · unfold mvT; rw [up_ni (by decide), up_ni (by decide), up_eq]
  · have e1 : mvT J pl a s t 310 16 = s := by unfold mvT; rw [up_ni (by decide), up_eq]
    have e2 : mvT J pl a s t 310 17 = t := by unfold mvT; rw [up_eq]
    rw [e1, e2]; exact ht
theorem tpM_x {I J : gI} {T : Nat → Nat} {n : Nat} (h : tpM I T n) (g : frX I J) : tpM J T n := ⟨h.1, fun j hj => by rw [g.1 313 (by decide) (by decide) (by decide) (by decide) (by decide) (by decide)]; exact h.2 j hj⟩
theorem k_X7_opensSign {G : gG} {I : gI} {R : gR} {L : gL} {Q : gQ} {T : Nat → Nat} {F : List Nat} {Wt out : List (Nat × Nat)} {op f n a pl' tk' v' a' : Nat} (hR : g_Fx R) (hT : tpM I T n) (h : mK I F Wt out op) (h13 : I 310 13 = nI n) (h14 : I 310 14 = nI a) (hF : F.length < 40) (hop : op ≤ 8)
    (hq : op < 8 → ∃ pl' tk' v' a', Lx T n a pl' tk' v' a' ∧ ∀ I', mK I' (f :: F) Wt out (op + 1) → lxM I' n pl' tk' v' a' → frX I I' → I' 310 27 = I 310 27 → Q (some (.int 1)) SH I' R L) (hf : 8 ≤ op → Q (some (.int 0)) SH (errI I 3) R L) : Mt G mX7_opensSign 4 0 0 [.ref 310, .int (nI f)] SH I R L Q := by
  refine e_X7_opensSign hR ?_
  have e8 : nI op = 8 ↔ op = 8 := nI_eq (b := 8) (by omega) (by decide)
  rw [h.2.2.1, e8]
  refine ⟨fun c => ?_, fun c => ?_⟩
  · rintro _ rfl
    obtain ⟨pl', tk', v', a', hL, hq⟩ := hq (by omega)
    rw [nI_1]
    have k0 : mK (up I 310 20 (nI (op + 1))) F Wt out (op + 1) := by
      obtain ⟨⟨a1, a2⟩, ⟨b1, b2, b3⟩, c1, d1, d2, d3⟩ := h
      exact ⟨⟨by rw [up_ni (by decide)]; exact a1, stN_of (fun k _ => up_nc (by decide)) a2⟩, ⟨by rw [up_ni (by decide)]; exact b1, stN_of (fun k _ => up_nc (by decide)) b2, stN_of (fun k _ => up_nc (by decide)) b3⟩, up_eq _ _ _ _, by rw [up_ni (by decide)]; exact d1, lsN_of (fun k _ => up_nc (by decide)) d2, lsN_of (fun k _ => up_nc (by decide)) d3⟩
    refine ⟨by rw [k0.1.1]; exact vp_in_nI hF (by decide), ?_⟩
    rintro _ rfl
    have k1 := mK_opF (f := f) k0 hF
    have f1 : frN I (opF (up I 310 20 (nI (op + 1))) (nI f)) := (frN_up (frN.refl _) (by omega)).trans k1.2
    have e27 : opF (up I 310 20 (nI (op + 1))) (nI f) 310 27 = I 310 27 := by
      unfold opF
      rw [up_ni (by decide), up_nc (by decide), up_ni (by decide)]
    refine k_X7_nextToken hR (tpM_x hT f1.x) (by rw [f1.2 13 (by decide) (by decide) (by decide) (by decide) (by decide)]; exact h13) (by rw [f1.2 14 (by decide) (by decide) (by decide) (by decide) (by decide)]; exact h14) hL (fun s t ht => b_X7_opensSign_35 hR ?_)
    exact hq _ (mK_mv k1.1) (lxM_mv (by rw [f1.2 13 (by decide) (by decide) (by decide) (by decide) (by decide)]; exact h13) ht) (frX_mv f1.x) (by rw [mv_o (by omega)]; exact e27)
  · rintro _ rfl
    exact hf (by omega)
theorem k_X7_waitsFor {G : gG} {I : gI} {R : gR} {L : gL} {Q : gQ} {T : Nat → Nat} {F : List Nat} {Wt out : List (Nat × Nat)} {op o n a pl' tk' v' a' : Nat} (hR : g_Fx R) (hT : tpM I T n) (h : mK I F Wt out op) (h13 : I 310 13 = nI n) (h14 : I 310 14 = nI a) (ho : o < 500) (hL : Lx T n a pl' tk' v' a')
    (hW : Wt.length < 80) (hw : ∀ w ∈ Wt, w.1 < 500 ∧ w.2 < 100) (hF : F.length < 100) (hlen : out.length + Wt.length ≤ 400)
    (hq : ∀ I', mK I' F ((o, F.length) :: Wt.dropWhile (wpP (rkO o) F.length)) (out ++ (Wt.takeWhile (wpP (rkO o) F.length)).map (fun w => (w.1, 0))) op → lxM I' n pl' tk' v' a' → frX I I' → Q none SH I' R L) : Mt G mX7_waitsFor 4 0 0 [.ref 310, .int (nI o)] SH I R L Q := by
  refine e_X7_waitsFor hR ?_
  have hrk : rkO o ≤ 4 := by unfold rkO; repeat' split <;> first | omega | skip
  show Mt G mX7_works 2 0 0 [.ref 310, .int (rkI (nI o))] SH I R L _
  rw [rk_i ho]
  refine k_X7_works hR h (by omega) hw hF hlen (by omega) (fun I1 g1 g2 => b_X7_waitsFor_8 hR ?_)
  have hl : (Wt.dropWhile (wpP (rkO o) F.length)).length ≤ Wt.length := (List.dropWhile_suffix _).length_le
  generalize Wt.dropWhile (wpP (rkO o) F.length) = W2 at g1 hl hq
  generalize out ++ (Wt.takeWhile (wpP (rkO o) F.length)).map (fun w => (w.1, 0)) = o2 at g1 hq
  obtain ⟨⟨a1, a2⟩, ⟨b1, b2, b3⟩, c1, d1, d2, d3⟩ := g1
  rw [b1, nI_clamp (by omega)]
  refine ⟨vp_in_nI (by omega) (by decide), ?_⟩
  rintro _ rfl
  rw [up_nc (by decide), b1, nI_clamp (by omega), up_nc (by decide), a1]
  refine ⟨vp_in_nI (by omega) (by decide), ?_⟩
  rintro _ rfl _ rfl
  rw [up_nc (by decide), up_nc (by decide), b1, nI_1]
  have k1 : mK (up (up (up I1 323 W2.length (nI o)) 324 W2.length (nI F.length)) 310 24 (nI (W2.length + 1))) F ((o, F.length) :: W2) o2 op := by
    refine ⟨⟨?_, stN_of (fun k _ => ?_) a2⟩, ⟨?_, ⟨?_, stN_of (fun k hk => ?_) b2⟩, ⟨?_, stN_of (fun k hk => ?_) b3⟩⟩, ?_, ?_, lsN_of (fun k _ => ?_) d2, lsN_of (fun k _ => ?_) d3⟩
    · rw [up_ni (by decide), up_nc (by decide), up_nc (by decide)]; exact a1
    · rw [up_nc (by decide), up_nc (by decide), up_nc (by decide)]
    · rw [up_eq]; rfl
    · rw [up_nc (by decide), up_nc (by decide), List.length_map, up_eq]
    · rw [List.length_map] at hk; rw [up_nc (by decide), up_nc (by decide), up_ni (by omega)]
    · rw [up_nc (by decide), List.length_map, up_eq]
    · rw [List.length_map] at hk; rw [up_nc (by decide), up_ni (by omega), up_nc (by decide)]
    · rw [up_ni (by decide), up_nc (by decide), up_nc (by decide)]; exact c1
    · rw [up_ni (by decide), up_nc (by decide), up_nc (by decide)]; exact d1
    · rw [up_nc (by decide), up_nc (by decide), up_nc (by decide)]
    · rw [up_nc (by decide), up_nc (by decide), up_nc (by decide)]
  have f1 : frN I (up (up (up I1 323 W2.length (nI o)) 324 W2.length (nI F.length)) 310 24 (nI (W2.length + 1))) := frN_up (frN_up (frN_up g2 (by omega)) (by omega)) (by omega)
  refine k_X7_nextToken hR (tpM_x hT f1.x) (by rw [f1.2 13 (by decide) (by decide) (by decide) (by decide) (by decide)]; exact h13) (by rw [f1.2 14 (by decide) (by decide) (by decide) (by decide) (by decide)]; exact h14) hL (fun s t ht => b_X7_waitsFor_45 hR ?_)
  exact hq _ (mK_mv k1) (lxM_mv (by rw [f1.2 13 (by decide) (by decide) (by decide) (by decide) (by decide)]; exact h13) ht) (frX_mv f1.x)
theorem tw_all {p : Nat × Nat → Bool} : ∀ l : List (Nat × Nat), (∀ x ∈ l, p x = true) → l.takeWhile p = l ∧ l.dropWhile p = []
  | [], _ => ⟨rfl, rfl⟩
  | x :: l, h => by
    have ih := tw_all l (fun y hy => h y (by simp [hy]))
    have hx := h x (by simp)
    simp only [List.takeWhile_cons, List.dropWhile_cons, hx, if_true]
    exact ⟨by rw [ih.1], ih.2⟩
/-- but for the number of clauses -/
def frZ (I I' : gI) : Prop := (∀ c, c ≠ 310 → c ≠ 321 → c ≠ 323 → c ≠ 324 → c ≠ 329 → c ≠ 330 → I' c = I c) ∧ ∀ j, (j ≤ 13 ∨ j = 18 ∨ j = 19 ∨ j = 29) → I' 310 j = I 310 j
theorem k_X7_clauseIsOver {G : gG} {I : gI} {R : gR} {L : gL} {Q : gQ} {T : Nat → Nat} {F : List Nat} {Wt out : List (Nat × Nat)} {op n a nc pl' tk' v' a' : Nat} (hR : g_Fx R) (hT : tpM I T n) (h : mK I F Wt out op) (h13 : I 310 13 = nI n) (h14 : I 310 14 = nI a) (h28 : I 310 28 = nI nc) (hL : Lx T n a pl' tk' v' a')
    (hW : Wt.length ≤ 80) (hw : ∀ w ∈ Wt, w.1 < 500 ∧ w.2 = F.length) (hF : F.length < 100) (hlen : out.length + Wt.length < 400)
    (hq : ∀ I', mK I' [] [] (out ++ Wt.map (fun w => (w.1, 0)) ++ [(408, 0)]) op → lxM I' n pl' tk' v' a' → frZ I I' → I' 310 27 = 4 → I' 310 28 = nI (nc + 1) → Q none SH I' R L) : Mt G mX7_clauseIsOver 4 0 0 [.ref 310] SH I R L Q := by
  refine e_X7_clauseIsOver hR ?_
  have hrk : ∀ o, 1 ≤ rkO o := fun o => by unfold rkO; repeat' split <;> first | omega | skip
  have hall : ∀ w ∈ Wt, wpP 1 F.length w = true := fun w hw2 => by simp [wpP, (hw w hw2).2, hrk]
  have t1 : Wt.takeWhile (wpP 1 F.length) = Wt := (tw_all Wt hall).1
  have t2 : Wt.dropWhile (wpP 1 F.length) = [] := (tw_all Wt hall).2
  refine k_X7_works (r := 1) hR h hW (fun w hw2 => ⟨(hw w hw2).1, by rw [(hw w hw2).2]; exact hF⟩) hF (by omega) (by decide) (fun I1 g1 g2 => b_X7_clauseIsOver_5 hR ?_)
  rw [t1, t2] at g1
  rintro _ rfl
  have k0 : mK (up I1 310 21 0) [] [] (out ++ Wt.map (fun w => (w.1, 0))) op := by
    obtain ⟨⟨a1, a2⟩, ⟨b1, b2, b3⟩, c1, d1, d2, d3⟩ := g1
    exact ⟨⟨up_eq _ _ _ _, trivial⟩, ⟨by rw [up_ni (by decide)]; exact b1, trivial, trivial⟩, by rw [up_ni (by decide)]; exact c1, by rw [up_ni (by decide)]; exact d1, lsN_of (fun k _ => up_nc (by decide)) d2, lsN_of (fun k _ => up_nc (by decide)) d3⟩
  have hol : (out ++ Wt.map (fun w : Nat × Nat => (w.1, 0))).length < 400 := by simp; omega
  refine ⟨by rw [k0.2.2.2.1]; exact vp_in_nI hol (by decide), ?_⟩
  rintro _ rfl
  have k1 := mK_em (o := 408) (v := 0) k0 hol
  have f1 : frN I (emM (up I1 310 21 0) (nI 408) (nI 0)) := (g2.trans (frN_up (frN.refl _) (by omega))).trans k1.2
  rintro _ rfl
  have e28 : emM (up I1 310 21 0) 408 0 310 28 = nI nc := (f1.2 28 (by decide) (by decide) (by decide) (by decide) (by decide)).trans h28
  rw [e28, nI_1]
  have k2 : mK (up (emM (up I1 310 21 0) (nI 408) (nI 0)) 310 28 (nI (nc + 1))) [] [] (out ++ Wt.map (fun w => (w.1, 0)) ++ [(408, 0)]) op := mK_up k1.1 (by decide) (by decide) (by decide) (by decide)
  have q13 : ∀ j, j ≠ 20 → j ≠ 21 → j ≠ 24 → j ≠ 27 → j ≠ 34 → j ≠ 28 → up (emM (up I1 310 21 0) (nI 408) (nI 0)) 310 28 (nI (nc + 1)) 310 j = I 310 j := fun j a b c d e f => by rw [up_ni f]; exact f1.2 j a b c d e
  have qo : ∀ c, c ≠ 310 → c ≠ 321 → c ≠ 323 → c ≠ 324 → c ≠ 329 → c ≠ 330 → up (emM (up I1 310 21 0) (nI 408) (nI 0)) 310 28 (nI (nc + 1)) c = I c := fun c a b d e f g => by rw [up_off c a]; exact f1.1 c a b d e f g
  refine k_X7_nextToken (I := up (emM (up I1 310 21 0) (nI 408) (nI 0)) 310 28 (nI (nc + 1))) hR ⟨hT.1, fun j hj => by rw [qo 313 (by decide) (by decide) (by decide) (by decide) (by decide) (by decide)]; exact hT.2 j hj⟩ ((q13 13 (by decide) (by decide) (by decide) (by decide) (by decide) (by decide)).trans h13) ((q13 14 (by decide) (by decide) (by decide) (by decide) (by decide) (by decide)).trans h14) hL (fun s t ht => b_X7_clauseIsOver_32 hR ?_)
  rintro _ rfl
  have k3 := mK_mv (pl := pl') (a := a') (s := s) (t := t) k2
  have lx := lxM_mv (pl := pl') (a := a') ((q13 13 (by decide) (by decide) (by decide) (by decide) (by decide) (by decide)).trans h13) ht
  refine hq _ (mK_up k3 (by decide) (by decide) (by decide) (by decide)) ⟨by rw [up_ni (by decide)]; exact lx.1, by rw [up_ni (by decide)]; exact lx.2.1, by rw [up_ni (by decide)]; exact lx.2.2.1, by rw [up_ni (by decide), up_ni (by decide)]; exact lx.2.2.2⟩ ⟨fun c a b d e f g => ?_, fun j hj => ?_⟩ (up_eq _ _ _ _) ?_
  · rw [up_off c a]; funext k; rw [mv_o (Or.inl a), qo c a b d e f g]
  · rw [up_ni (by omega), mv_o (by omega)]; exact q13 j (by omega) (by omega) (by omega) (by omega) (by omega) (by omega)
  · rw [up_ni (by decide), mv_o (by omega), up_eq]
