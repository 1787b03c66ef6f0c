theorem DR_pl2 {T : Nat → Nat} {n vb pl tk v a p : Nat} {σ' : rds} {z w : Int32} (h : DR T n vb (.inr (pl, tk, v, a)) σ' z w) (hL : Lx T n p pl tk v a) : ∀ q, σ' = .inr q → pl ≤ q.1 := fun q e => by
  subst e; obtain ⟨a1, a2, a3, a4⟩ := q; exact DR_pl h hL
set_option maxHeartbeats 1000000 in
theorem simC {G : gG} {I : gI} {R : gR} {L : gL} {Q : gQ} {T : Nat → Nat} {n pl tk v a : Nat} {cl cl' : List cls} {σ' : rds} (hR : g_Fx R) (hT : tpM I T n) (hs : stC I T n (.inr (pl, tk, v, a)) cl) (h38 : tk ≠ 38) (hC : CW T n pl tk v a cl σ' cl')
    (hq : ∀ I', stC I' T n σ' cl' → fM2 I I' → Go G mX7_text 6 0 0 74 [some (.ref 310), none, none] [] SH I' R L Q) : Go G mX7_text 6 0 0 74 [some (.ref 310), none, none] [] SH I R L Q := by
  rcases hs with ⟨k, p, e, -⟩ | ⟨pl0, tk0, v0, a0, e, h18, h19, h27, hm, hrp, hx, ⟨p, hp⟩, hol, hcl⟩
  · cases e
  cases e
  obtain ⟨x1, x2, x3, x4, x5, x6, x7, x8⟩ := Lx_adv hp
  have y2 := x5 h38
  have hn := hT.1
  have hx0 := hx
  obtain ⟨l13, l14, l15, lt⟩ := hx
  have ti := tkR_i lt
  have h16 : ¬ I 310 16 = 0 := by
    intro c
    rcases Nat.lt_or_ge tk 24 with q | q
    · rw [(ti.2.1 q).1] at c; exact absurd c (by decide)
    · rcases Nat.lt_or_ge tk 37 with q2 | q2
      · rw [(ti.2.2.1 q (by clear ti; omega)).1] at c; exact absurd c (by decide)
      · have : tk = 37 ∨ tk = 39 := by clear ti; omega
        rcases this with q3 | q3
        · rw [(ti.1 q3).1] at c; exact absurd c (by decide)
        · rcases ti.2.2.2.2 q3 with q4 | ⟨q4, -⟩
          · rw [q4] at c; exact absurd c (by decide)
          · rw [q4] at c; exact absurd c (by decide)
  refine tx4 hR h18 h27 h16 (e_X7_clause hR ?_)
  have flt : ∀ (J : gI) (k : Nat), fM2 I J → J 310 18 = 0 → J 310 15 = nI pl → σ' = .inl (k, pl) → Go G mX7_text 6 0 0 164 [some (.ref 310), none, none] [] SH (errI J (nI k)) R L Q := fun J k f1 f2 f3 f4 => b_X7_text_164 hR (hq _ (Or.inl ⟨k, pl, f4, (frD3_err f2 f3).2.1, (frD3_err f2 f3).2.2⟩) (fM2_err f1))
  -- behind the verb
  have fU : fM2 I (up I 310 29 (nI tk)) := fM2_up (fM2.refl _) (by omega)
  have uo : ∀ j, j ≠ 29 → up I 310 29 (nI tk) 310 j = I 310 j := fun j hj => up_ni hj
  have u29 : up I 310 29 (nI tk) 310 29 = nI tk := up_eq _ _ _ _
  have rU : rpM (up I 310 29 (nI tk)) cl := ⟨(uo 28 (by decide)).trans hrp.1, fun k c hc => by
    rw [up_nc (by decide), up_nc (by decide), up_nc (by decide), up_nc (by decide)]; exact hrp.2 k c hc⟩
  have err73 : ∀ (k : Nat), k ≠ 0 → k ≤ 6 → σ' = .inl (k, pl) → Go G mX7_clause 5 0 0 73 [some (.ref 310)] [] SH (errI (up I 310 29 (nI tk)) (nI k)) R L (fun r S' I' R' L' => Go G mX7_text 6 0 0 164 [some (.ref 310), none, none] (r.toList ++ []) S' I' R' L' Q) := fun k hk hk6 e => by
    have f := frD3_err (I := up I 310 29 (nI tk)) (k := k) (pl := pl) ((uo 18 (by decide)).trans h18) ((uo 15 (by decide)).trans l15)
    refine b_X7_clause_73 hR ⟨fun c => absurd c ?_, fun _ => flt _ k fU ((uo 18 (by decide)).trans h18) ((uo 15 (by decide)).trans l15) e⟩
    rw [f.2.1]; exact nI_ge (b := k) (a := 0) (by omega) (by omega)
  rcases hC with ⟨k, hF, e⟩ | hC
  · rcases hF with ⟨c6, rfl⟩ | ⟨c2, ct, rfl⟩ | ⟨c6, ct, cl24, rfl⟩
    · refine ⟨fun _ => ?_, fun c => ?_⟩
      · rintro _ rfl
        exact flt I 1 (fM2.refl _) h18 l15 e
      · have : tk < 24 := by
          rcases Nat.lt_or_ge tk 24 with q | q
          · exact q
          · exfalso
            rcases Nat.lt_or_ge tk 37 with q2 | q2
            · rw [(ti.2.2.1 q (by clear ti; omega)).1] at c; exact absurd c (by decide)
            · have : tk = 37 ∨ tk = 39 := by clear ti; omega
              rcases this with q3 | q3
              · rw [(ti.1 q3).1] at c; exact absurd c (by decide)
              · rcases ti.2.2.2.2 q3 with q4 | ⟨q4, -⟩
                · rw [q4] at c; exact absurd c (by decide)
                · rw [q4] at c; exact absurd c (by decide)
        have t1 := (ti.2.1 this).2
        clear ti
        rw [t1]
        refine ⟨fun c2 => absurd c2 (nI_ge (b := tk) (a := 6) (by omega) (by omega)), fun _ => ?_⟩
        rintro _ rfl
        exact flt I 1 (fM2.refl _) h18 l15 e
    · obtain ⟨s1, t1⟩ := ti.2.1 (by clear ti; omega)
      clear ti
      rw [s1, t1]
      refine ⟨fun c => absurd rfl c, fun _ => ⟨fun _ => ?_, fun c => absurd (nI_le (b := 6) (by omega) (by decide)) c⟩⟩
      rintro _ rfl
      rw [u29]
      refine ⟨fun c => absurd c (nI_nlt (a := 2) (by omega) (by decide)), fun _ => ?_⟩
      refine k_X7_wasTold hR rU hcl (by omega) (fun _ => b_X7_clause_47 hR ⟨fun c => absurd c (by decide), fun _ => ?_⟩) (fun c => absurd ct c)
      rintro _ rfl
      exact err73 4 (by decide) (by decide) e
    · obtain ⟨s1, t1⟩ := ti.2.1 (by clear ti; omega)
      clear ti
      rw [s1, t1]
      refine ⟨fun c => absurd rfl c, fun _ => ⟨fun _ => ?_, fun c => absurd (nI_le (b := 6) (by omega) (by decide)) c⟩⟩
      rintro _ rfl
      have e28 : up I 310 29 (nI tk) 310 28 = 24 := by rw [rU.1, show cl.length = 24 by omega]; rfl
      have g58 : Go G mX7_clause 5 0 0 58 [some (.ref 310)] [] SH (up I 310 29 (nI tk)) R L (fun r S' I' R' L' => Go G mX7_text 6 0 0 164 [some (.ref 310), none, none] (r.toList ++ []) S' I' R' L' Q) := by
        refine b_X7_clause_58 hR ⟨fun c => absurd e28 c, fun _ => ?_⟩
        rintro _ rfl
        exact err73 6 (by decide) (by decide) e
      refine ⟨fun _ => g58, fun c => ?_⟩
      have ht2 : tk ≤ 2 := Nat.le_of_not_lt fun q => c (by rw [u29]; exact nI_lt (a := 2) q (by omega))
      rw [u29]
      exact k_X7_wasTold hR rU hcl (by omega) (fun c => absurd ⟨ht2, c⟩ ct) (fun _ => b_X7_clause_47 hR ⟨fun _ => g58, fun c => absurd rfl c⟩)
  · -- a clause that can be
    have htk6 : tk ≤ 6 := by rcases hC with ⟨q, -⟩ | ⟨-, q, -⟩ <;> omega
    have hcl24 : cl.length < 24 := by rcases hC with ⟨-, -, q, -⟩ | ⟨-, -, q, -⟩ <;> exact q
    have hnt : tk ≤ 2 → ¬ tldN tk cl := fun q => by
      rcases hC with ⟨-, q2, -⟩ | ⟨q2, -⟩
      · exact q2
      · omega
    obtain ⟨pl1, tk1, v1, a1, hL1, hC2⟩ : ∃ pl1 tk1 v1 a1, Lx T n a pl1 tk1 v1 a1 ∧ ((tk ≤ 2 ∧ ∃ m, ((∃ f, RLw T n tk m pl1 tk1 v1 a1 s0L (.inl f) ∧ σ' = .inl f) ∨ ∃ pl' tk' v' a' code, RLw T n tk m pl1 tk1 v1 a1 s0L (.inr (pl', tk', v', a', code)) ∧ σ' = .inr (pl', tk', v', a') ∧ cl' = cl ++ [(tk, 0, 0, code)])) ∨ (3 ≤ tk ∧ ∃ z w, DR T n tk (.inr (pl1, tk1, v1, a1)) σ' z w ∧ cl' = cl ++ [(tk, z, w, [])])) := by
      rcases hC with ⟨q1, -, -, pl1, tk1, v1, a1, m, hL, q⟩ | ⟨q1, -, -, pl1, tk1, v1, a1, z, w, hL, q⟩
      · exact ⟨pl1, tk1, v1, a1, hL, Or.inl ⟨q1, m, q⟩⟩
      · exact ⟨pl1, tk1, v1, a1, hL, Or.inr ⟨q1, z, w, q⟩⟩
    have z1 := Lx_adv hL1
    obtain ⟨s1, t1⟩ := ti.2.1 (by clear ti; omega)
    clear ti hC
    rw [s1, t1]
    refine ⟨fun c => absurd rfl c, fun _ => ⟨fun _ => ?_, fun c => absurd (nI_le (b := 6) (by omega) (by decide)) c⟩⟩
    rintro _ rfl
    have e28 : up I 310 29 (nI tk) 310 28 = nI cl.length := rU.1
    have n24 : nI cl.length = 24 ↔ cl.length = 24 := nI_eq (b := 24) (by omega) (by decide)
    have g73 : Go G mX7_clause 5 0 0 73 [some (.ref 310)] [] SH (up I 310 29 (nI tk)) R L (fun r S' I' R' L' => Go G mX7_text 6 0 0 164 [some (.ref 310), none, none] (r.toList ++ []) S' I' R' L' Q) := by
      refine b_X7_clause_73 hR ⟨fun _ => ?_, fun c => absurd (by rw [uo 18 (by decide), h18]; decide) c⟩
      rw [e28, u29, nI_clamp (by omega)]
      refine ⟨vp_in_nI hcl24 (by decide), ?_⟩
      rintro _ rfl
      rw [up_nc (by decide), e28, up_nc (by decide), nI_clamp (by omega), uo 34 (by decide), hm.2.2.2.1]
      refine ⟨vp_in_nI hcl24 (by decide), ?_⟩
      rintro _ rfl
      rw [up_nc (by decide), up_nc (by decide), e28, nI_clamp (by omega)]
      refine ⟨vp_in_nI hcl24 (by decide), ?_⟩
      rintro _ rfl
      rw [up_nc (by decide), up_nc (by decide), up_nc (by decide), e28, nI_clamp (by omega)]
      refine ⟨vp_in_nI hcl24 (by decide), ?_⟩
      intro K hK
      have K310 : ∀ j, K 310 j = up I 310 29 (nI tk) 310 j := fun j => by rw [hK, up_nc (by decide), up_nc (by decide), up_nc (by decide), up_nc (by decide)]
      have Kf : fM2 I K := by rw [hK]; exact fM2_up (fM2_up (fM2_up (fM2_up fU (by omega)) (by omega)) (by omega)) (by omega)
      have Km : mK K [] [] (otM cl) 0 := by rw [hK]; exact mK_upo (mK_upo (mK_upo (mK_upo (mK_up hm (by decide) (by decide) (by decide) (by decide)) (by omega)) (by omega)) (by omega)) (by omega)
      have K325 : ∀ k, K 325 k = if k = cl.length then nI tk else I 325 k := fun k => by
        rw [hK, up_nc (by decide), up_nc (by decide), up_nc (by decide)]
        by_cases q : k = cl.length
        · subst q; rw [up_eq, if_pos rfl]
        · rw [up_ni q, if_neg q, up_nc (by decide)]
      have K326 : ∀ k, K 326 k = if k = cl.length then nI (otM cl).length else I 326 k := fun k => by
        rw [hK, up_nc (by decide), up_nc (by decide)]
        by_cases q : k = cl.length
        · subst q; rw [up_eq, if_pos rfl]
        · rw [up_ni q, if_neg q, up_nc (by decide), up_nc (by decide)]
      have K327 : ∀ k, k ≠ cl.length → K 327 k = I 327 k := fun k q => by
        rw [hK, up_nc (by decide), up_ni q, up_nc (by decide), up_nc (by decide), up_nc (by decide)]
      have K328 : ∀ k, k ≠ cl.length → K 328 k = I 328 k := fun k q => by
        rw [hK, up_ni q, up_nc (by decide), up_nc (by decide), up_nc (by decide), up_nc (by decide)]
      clear hK
      have KT : tpM K T n := ⟨hT.1, fun j hj => by rw [Kf.1 313 (by decide) (by omega)]; exact hT.2 j hj⟩
      refine k_X7_nextToken hR KT ((K310 13).trans ((uo 13 (by decide)).trans l13)) ((K310 14).trans ((uo 14 (by decide)).trans l14)) hL1 (fun s t ht => ?_)
      have M310 : ∀ j, j ≠ 14 → j ≠ 15 → j ≠ 16 → j ≠ 17 → mvT K pl1 a1 s t 310 j = up I 310 29 (nI tk) 310 j := fun j a b c d => by rw [mv_o (by omega)]; exact K310 j
      have Mo : ∀ c, c ≠ 310 → mvT K pl1 a1 s t c = K c := fun c hc => by funext j; exact mv_o (Or.inl hc)
      have Mf : fM2 I (mvT K pl1 a1 s t) := fM2_mv Kf
      have Mm : mK (mvT K pl1 a1 s t) [] [] (otM cl) 0 := mK_mv Km
      have Mx : lxM (mvT K pl1 a1 s t) n pl1 tk1 v1 a1 := lxM_mv ((K310 13).trans ((uo 13 (by decide)).trans l13)) ht
      have MT : tpM (mvT K pl1 a1 s t) T n := ⟨hT.1, fun j hj => by rw [Mf.1 313 (by decide) (by omega)]; exact hT.2 j hj⟩
      have M18 : mvT K pl1 a1 s t 310 18 = 0 := (M310 18 (by decide) (by decide) (by decide) (by decide)).trans ((uo 18 (by decide)).trans h18)
      have M19 : mvT K pl1 a1 s t 310 19 = -1 := (M310 19 (by decide) (by decide) (by decide) (by decide)).trans ((uo 19 (by decide)).trans h19)
      have M28 : mvT K pl1 a1 s t 310 28 = nI cl.length := (M310 28 (by decide) (by decide) (by decide) (by decide)).trans e28
      have M29 : mvT K pl1 a1 s t 310 29 = nI tk := (M310 29 (by decide) (by decide) (by decide) (by decide)).trans u29
      have M325 : ∀ k, mvT K pl1 a1 s t 325 k = if k = cl.length then nI tk else I 325 k := fun k => by rw [Mo 325 (by decide)]; exact K325 k
      have M326 : ∀ k, mvT K pl1 a1 s t 326 k = if k = cl.length then nI (otM cl).length else I 326 k := fun k => by rw [Mo 326 (by decide)]; exact K326 k
      have M327 : ∀ k, k ≠ cl.length → mvT K pl1 a1 s t 327 k = I 327 k := fun k q => by rw [Mo 327 (by decide)]; exact K327 k q
      have M328 : ∀ k, k ≠ cl.length → mvT K pl1 a1 s t 328 k = I 328 k := fun k q => by rw [Mo 328 (by decide)]; exact K328 k q
      generalize mvT K pl1 a1 s t = M at *
      clear KT K325 K326 K327 K328 Km Kf K310 Mo M310 ht
      rcases hC2 with ⟨ht2, m, hlaw⟩ | ⟨ht3, z, w, hD, ecl⟩
      · -- a law
        have hvb : tk < 3 := by omega
        have hF0 : vp_in (M 310 21) 40 := by rw [Mm.1.1]; exact vp_in_nI (n := 0) (by omega) (by decide)
        have start : ∀ (f st : Nat), (f = if tk = 2 then 2 else 1) → (st = if tk = 2 then 0 else 1) → Go G mX7_text 6 0 0 74 [some (.ref 310), none, none] [] SH (up (opF M (nI f)) 310 27 (nI st)) R L Q := by
          intro f st ef est
          have k1 := mK_opF (f := f) Mm (by simp)
          have k2 : mK (up (opF M (nI f)) 310 27 (nI st)) [f] [] (otM cl) 0 := mK_up k1.1 (by decide) (by decide) (by decide) (by decide)
          have fo : ∀ j, j ≠ 20 → j ≠ 21 → j ≠ 24 → j ≠ 27 → j ≠ 34 → up (opF M (nI f)) 310 27 (nI st) 310 j = M 310 j := fun j a b c d e => by rw [up_ni d]; exact k1.2.2 j a b c d e
          have fx : frX M (up (opF M (nI f)) 310 27 (nI st)) := frX_up k1.2.x (by omega)
          have e27 : up (opF M (nI f)) 310 27 (nI st) 310 27 = nI st := up_eq _ _ _ _
          have e29 : up (opF M (nI f)) 310 27 (nI st) 310 29 = nI tk := (fo 29 (by decide) (by decide) (by decide) (by decide) (by decide)).trans M29
          have e18 : up (opF M (nI f)) 310 27 (nI st) 310 18 = 0 := (fo 18 (by decide) (by decide) (by decide) (by decide) (by decide)).trans M18
          have hst : stW (up (opF M (nI f)) 310 27 (nI st)) tk (otM cl) s0L := by
            by_cases v2 : tk = 2
            · subst v2
              rw [if_pos rfl] at ef est
              subst ef; subst est
              exact Or.inl ⟨rfl, rfl, rfl, rfl, ⟨by simpa [s0L, fmA, bsF, asF, nsF, wtA, wtL, opN] using k2, (fun c e => by cases e), e29, e18⟩, e27⟩
            · rw [if_neg v2] at ef est
              subst ef; subst est
              refine Or.inr (Or.inl ⟨rfl, fun q => v2 q.2.2, ⟨?_, fun c e => (by cases e), e29, e18⟩, e27⟩)
              have ev : (tk == 2) = false := by simp [v2]
              rw [ev]
              simpa [s0L, fmA, bsF, asF, nsF, wtA, wtL, opN, v2] using k2
          have lx : lxM (up (opF M (nI f)) 310 27 (nI st)) n pl1 tk1 v1 a1 := by
            obtain ⟨q1, q2, q3, q4⟩ := Mx
            exact ⟨(fo 13 (by decide) (by decide) (by decide) (by decide) (by decide)).trans q1, (fo 14 (by decide) (by decide) (by decide) (by decide) (by decide)).trans q2, (fo 15 (by decide) (by decide) (by decide) (by decide) (by decide)).trans q3, by rw [fo 16 (by decide) (by decide) (by decide) (by decide) (by decide), fo 17 (by decide) (by decide) (by decide) (by decide) (by decide)]; exact q4⟩
          have ok0 : okLS tk s0L := ⟨fun x hx => by simp [s0L] at hx, Or.inl rfl, fun x hx => by simp [s0L] at hx, fun _ => rfl, trivial, by simp [s0L, wt, opN]⟩
          have gen : ∀ r, RLw T n tk m pl1 tk1 v1 a1 s0L r → ((∃ f, r = .inl f ∧ σ' = .inl f) ∨ ∃ pl' tk' v' a' code, r = .inr (pl', tk', v', a', code) ∧ σ' = .inr (pl', tk', v', a') ∧ cl' = cl ++ [(tk, 0, 0, code)]) → Go G mX7_text 6 0 0 74 [some (.ref 310), none, none] [] SH (up (opF M (nI f)) 310 27 (nI st)) R L Q := by
            intro r hr hσ
            refine simL (nc := cl.length) (pre := otM cl) hR hvb r m s0L _ pl1 tk1 v1 a1 (tpM_x MT fx) ok0 hst lx ⟨_, hL1⟩ ((fo 28 (by decide) (by decide) (by decide) (by decide) (by decide)).trans M28) (by simp [s0L, wt]; omega) hr (fun I' k p e q1 q2 q3 => ?_) (fun I' pl' tk' v' a' code e q1 q2 q3 q4 q5 q6 q7 q8 => ?_)
            · rcases hσ with ⟨f, e1, e2⟩ | ⟨pl', tk', v', a', code, e1, -⟩
              · rw [e] at e1; cases e1
                have f18 : I' 310 18 = 0 := (q1.2 18 (by omega)).trans e18
                exact hq _ (Or.inl ⟨k, p, e2, (frD3_err f18 q2).2.1, (frD3_err f18 q2).2.2⟩) (fM2_err ((Mf.trans fx.v.m).trans q1.m))
              · rw [e] at e1; cases e1
            · rcases hσ with ⟨f, e1, e2⟩ | ⟨pl2, tk2, v2, a2, code2, e1, e2, e3⟩
              · rw [e] at e1; cases e1
              · rw [e] at e1; cases e1
                have c325 : ∀ c, c = 325 ∨ c = 326 ∨ c = 327 ∨ c = 328 → I' c = M c := fun c hc => (q5 c (by omega) (by omega) (by omega) (by omega) (by omega) (by omega) (by omega)).trans (fx.1 c (by omega) (by omega) (by omega) (by omega) (by omega) (by omega))
                have hfm : fM2 I I' := Mf.trans ⟨fun c a b => (q5 c a (by omega) (by omega) (by omega) (by omega) (by omega) (by omega)).trans (fx.1 c a (by omega) (by omega) (by omega) (by omega) (by omega)), fun j hj => (q6 j (by omega)).trans (fx.2 j (by omega))⟩
                refine hq _ (Or.inr ⟨pl', tk', v', a', e2, (q6 18 (by omega)).trans e18, (q6 19 (by omega)).trans ((fx.2 19 (by omega)).trans M19), q7, ?_, ?_, q2, q3, ?_, ?_⟩) hfm
                · rw [e3, otM_snoc]; rw [← List.append_assoc]; exact q1
                · rw [e3]
                  refine rpM_snoc hrp q8 (fun k hk => ⟨?_, ?_, ?_, ?_⟩) ?_ htk6 ?_ (fun q => absurd q (by show ¬ 3 ≤ tk; omega)) (fun q => absurd q (by show ¬ (tk = 3 ∨ tk = 4); omega))
                  · rw [c325 325 (by omega), M325, if_neg (by omega)]
                  · rw [c325 326 (by omega), M326, if_neg (by omega)]
                  · rw [c325 327 (by omega), M327 _ (by omega)]
                  · rw [c325 328 (by omega), M328 _ (by omega)]
                  · rw [c325 325 (by omega), M325, if_pos rfl]
                  · rw [c325 326 (by omega), M326, if_pos rfl]
                · rw [e3, otM_snoc]; simp; omega
                · rw [e3]; simp; omega
          rcases hlaw with ⟨f', hr, e⟩ | ⟨pl', tk', v', a', code, hr, e1, e2⟩
          · exact gen _ hr (Or.inl ⟨f', rfl, e⟩)
          · exact gen _ hr (Or.inr ⟨pl', tk', v', a', code, rfl, e1, e2⟩)
        refine b_X7_clause_131 hR ?_
        rw [M29]
        have n2 : nI tk = 2 ↔ tk = 2 := nI_eq (b := 2) (by omega) (by decide)
        have o29 : ∀ f : Int32, opF M f 310 29 = nI tk := fun f => by unfold opF; rw [up_ni (by decide), up_nc (by decide)]; exact M29
        refine ⟨fun c => absurd c (nI_nlt (a := 2) (by omega) (by decide)), fun _ => ⟨fun c => b_X7_clause_153 hR ⟨hF0, ?_⟩, fun c => b_X7_clause_153 hR ⟨hF0, ?_⟩⟩⟩
        · have v2 : tk ≠ 2 := fun q => c (n2.mpr q)
          rintro _ rfl
          rw [o29]
          refine ⟨fun _ => ?_, fun q => absurd q c⟩
          rintro _ rfl
          exact b_X7_text_164 hR (start 1 1 (by rw [if_neg v2]) (by rw [if_neg v2]))
        · have v2 : tk = 2 := n2.mp c
          rintro _ rfl
          rw [o29]
          refine ⟨fun q => absurd c q, fun _ => ?_⟩
          rintro _ rfl
          exact b_X7_text_164 hR (start 2 0 (by rw [if_pos v2]) (by rw [if_pos v2]))
      · -- a deed
        refine simD (σ := .inr (pl1, tk1, v1, a1)) hR MT (Or.inr ⟨pl1, tk1, v1, a1, rfl, M18, M19, Mx, _, hL1⟩) hD Mm M28 hcl24 M29 (by omega) (fun I' q1 q2 q3 => b_X7_text_164 hR ?_)
        have hpl2 := DR_pl2 hD hL1
        refine hq I' ?_ (Mf.trans q2.m)
        rcases q1 with ⟨k, p, e, -, -, -, u1, u2⟩ | ⟨pl', tk', v', a', e, u1, u2, u3, u4, u5, u6, u7⟩
        · exact Or.inl ⟨k, p, e, u1, u2⟩
        · have hple := hpl2 _ e
          simp only at hple
          obtain ⟨w1, w2⟩ := q3 ⟨_, e⟩
          refine Or.inr ⟨pl', tk', v', a', e, u1, u2, u3, ?_, ?_, u6, u7, ?_, ?_⟩
          · rw [ecl, otM_snoc]; simpa using u5
          · rw [ecl]
            refine rpM_snoc hrp u4 (fun k hk => ⟨?_, ?_, ?_, ?_⟩) ?_ htk6 ?_ (fun _ => w1) (fun q => w2 (by have : tk = 3 ∨ tk = 4 := q; omega))
            · rw [q2.1 325 (by decide) (by omega) (by omega), M325, if_neg (by omega)]
            · rw [q2.1 326 (by decide) (by omega) (by omega), M326, if_neg (by omega)]
            · rw [(q2.2.1 k (by omega)).1, M327 _ (by omega)]
            · rw [(q2.2.1 k (by omega)).2, M328 _ (by omega)]
            · rw [q2.1 325 (by decide) (by omega) (by omega), M325, if_pos rfl]
            · rw [q2.1 326 (by decide) (by omega) (by omega), M326, if_pos rfl]
          · rw [ecl, otM_snoc]; simp; omega
          · rw [ecl]; simp; omega
    have g58 : Go G mX7_clause 5 0 0 58 [some (.ref 310)] [] SH (up I 310 29 (nI tk)) R L (fun r S' I' R' L' => Go G mX7_text 6 0 0 164 [some (.ref 310), none, none] (r.toList ++ []) S' I' R' L' Q) := b_X7_clause_58 hR ⟨fun _ => g73, fun c => absurd (n24.mp (e28.symm.trans c)) (by omega)⟩
    refine ⟨fun _ => g58, fun c => ?_⟩
    have ht2 : tk ≤ 2 := Nat.le_of_not_lt fun q => c (by rw [u29]; exact nI_lt (a := 2) q (by omega))
    rw [u29]
    exact k_X7_wasTold hR rU hcl (by omega) (fun c => absurd c (hnt ht2)) (fun _ => b_X7_clause_47 hR ⟨fun _ => g58, fun c => absurd rfl c⟩)
/-- a whole text, read by the plain form -/
theorem simT {G : gG} {R : gR} {L : gL} {Q : gQ} {T : Nat → Nat} {n : Nat} {r : Nat × Nat ⊕ List cls} (hR : g_Fx R) : ∀ (m : Nat) (σ : rds) (cl : List cls) (I : gI), tpM I T n → stC I T n σ cl → TRw T n m σ cl r →
    (∀ I' k p, r = .inl (k, p) → fM2 I I' → I' 310 18 = nI k → I' 310 19 = nI p → Go G mX7_text 6 0 0 74 [some (.ref 310), none, none] [] SH I' R L Q) →
    (∀ I' cl', r = .inr cl' → fM2 I I' → I' 310 18 = 0 → I' 310 19 = -1 → I' 310 27 = 4 → I' 310 16 = 0 → mK I' [] [] (otM cl') 0 → rpM I' cl' → cl'.length ≤ 24 → (otM cl').length ≤ n → Go G mX7_text 6 0 0 74 [some (.ref 310), none, none] [] SH I' R L Q) →
    Go G mX7_text 6 0 0 74 [some (.ref 310), none, none] [] SH I R L Q := by
  intro m
  induction m with
  | zero =>
    intro σ cl I hT hs hr hf hk
    rcases hr with ⟨f, e1, e2⟩ | ⟨pl, v, a, e1, e2⟩
    · subst e1
      rcases hs with ⟨k, p, e, h1, h2⟩ | ⟨_, _, _, _, e, -⟩
      · cases e; exact hf I k p e2 (fM2.refl _) h1 h2
      · cases e
    · subst e1
      rcases hs with ⟨k, p, e, h1, h2⟩ | ⟨pl0, tk0, v0, a0, e, h18, h19, h27, hm, hrp, hx, ⟨p, hp⟩, hol, hcl⟩
      · cases e
      · cases e
        have := Lx_adv hp
        exact hk I cl e2 (fM2.refl _) h18 h19 h27 ((tkR_i hx.2.2.2).2.2.2.1 rfl) hm hrp hcl (by omega)
  | succ m ih =>
    intro σ cl I hT hs hr hf hk
    obtain ⟨pl, tk, v, a, σ', cl', e, h38, hC, hr'⟩ := hr
    subst e
    refine simC hR hT hs h38 hC (fun I' g1 g2 => ih σ' cl' I' ⟨hT.1, fun j hj => by rw [g2.1 313 (by decide) (by omega)]; exact hT.2 j hj⟩ g1 hr' (fun I2 k p e q1 q2 q3 => hf I2 k p e (g2.trans q1) q2 q3) (fun I2 cl2 e q1 => hk I2 cl2 e (g2.trans q1)))
