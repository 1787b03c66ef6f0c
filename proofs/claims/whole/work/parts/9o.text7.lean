/-- a text is kept -/
theorem copyT {G : gG} {I : gI} {R : gR} {L : gL} {Q : gQ} {t : Nat} {cl : List cls} (hR : g_Fx R) (ht : t < 4) (h11 : I 311 1 = nI t) (hr : rpM I cl) (hm : mK I [] [] (otM cl) 0) (hl : cl.length ≤ 24) (ho : (otM cl).length ≤ 300)
    (hq : ∀ I', mrpT I' t cl → (∀ c, c ≠ 311 → ¬ (314 ≤ c ∧ c ≤ 320) → I' c = I c) → I' 311 = upd (I 311) 1 (nI (t + 1)) → (∀ s, s ≠ t → I' 314 s = I 314 s) → (∀ c s, 315 ≤ c → c ≤ 318 → s < 24 * t ∨ 24 * t + 24 ≤ s → I' c s = I c s) → (∀ c s, c = 319 ∨ c = 320 → s < 400 * t ∨ 400 * t + 400 ≤ s → I' c s = I c s) → Q (some (.int (nI t))) SH I' R L) :
    Go G mX7_text 6 0 0 211 [some (.ref 310), some (.int (nI t)), some (.int 0)] [] SH (up I 314 t (nI cl.length)) R L Q := by
  have two : ∀ (m k : Nat) (J : gI), k + m = (otM cl).length → J 310 34 = nI (otM cl).length → J 329 = I 329 → J 330 = I 330 → J 311 1 = nI t → (∀ j, j < k → J 319 (400 * t + j) = nI ((otM cl).getD j (0, 0)).1 ∧ J 320 (400 * t + j) = nI ((otM cl).getD j (0, 0)).2) → (∀ I', (∀ c, c ≠ 311 → c ≠ 319 → c ≠ 320 → I' c = J c) → I' 311 = upd (J 311) 1 (nI (t + 1)) → (∀ c s, c = 319 ∨ c = 320 → s < 400 * t ∨ 400 * t + 400 ≤ s → I' c s = J c s) → (∀ j, j < (otM cl).length → I' 319 (400 * t + j) = nI ((otM cl).getD j (0, 0)).1 ∧ I' 320 (400 * t + j) = nI ((otM cl).getD j (0, 0)).2) → Q (some (.int (nI t))) SH I' R L) → Go G mX7_text 6 0 0 301 [some (.ref 310), some (.int (nI t)), some (.int (nI k))] [] SH J R L Q := by
    intro m
    induction m with
    | zero =>
      intro k J hk h34 h29 h30 h1 hd hq
      refine b_X7_text_301 hR ⟨fun _ => ?_, fun c => absurd (by rw [h34]; exact nI_le (by omega) (by omega)) c⟩
      rintro _ rfl
      rw [h1, nI_1]
      refine hq _ (fun c a _ _ => by rw [up_off c a]) (by rw [up_row]) (fun c s hc _ => by rw [up_nc (by omega)]) (fun j hj => ?_)
      rw [up_nc (by decide), up_nc (by decide)]; exact hd j (by omega)
    | succ m ih =>
      intro k J hk h34 h29 h30 h1 hd hq
      have e4 : (400 : Int32) * nI t + nI k = nI (400 * t + k) := by rw [show (400 : Int32) = nI 400 from rfl, nI_mul, nI_add]
      have k29 : J 329 k = nI ((otM cl).getD k (0, 0)).1 := by
        rw [h29]
        have := hm.2.2.2.2.1 k (by simp; omega)
        rw [this, List.getD_eq_getElem?_getD, List.getD_eq_getElem?_getD, List.getElem?_map]
        have hlt : k < (otM cl).length := by omega
        rw [List.getElem?_eq_getElem hlt]; rfl
      have k30 : J 330 k = nI ((otM cl).getD k (0, 0)).2 := by
        rw [h30]
        have := hm.2.2.2.2.2 k (by simp; omega)
        rw [this, List.getD_eq_getElem?_getD, List.getD_eq_getElem?_getD, List.getElem?_map]
        have hlt : k < (otM cl).length := by omega
        rw [List.getElem?_eq_getElem hlt]; rfl
      refine b_X7_text_301 hR ⟨fun c => absurd c (by rw [h34]; exact nI_ge (by omega) (by omega)), fun _ => ⟨vp_in_nI (by omega) (by decide), ?_⟩⟩
      rw [e4, nI_clamp (by omega), nI_clamp (by omega), k29]
      refine ⟨vp_in_nI (by omega) (by decide), ?_⟩
      rintro _ rfl
      refine ⟨vp_in_nI (by omega) (by decide), vp_in_nI (by omega) (by decide), ?_⟩
      rw [up_nc (by decide), k30]
      rintro _ rfl _ rfl
      rw [nI_1]
      refine ih (k + 1) _ (by omega) ?_ ?_ ?_ ?_ (fun j hj => ?_) (fun I' q1 q2 q3 q4 => hq I' (fun c a b d => ?_) ?_ (fun c s hc hs => ?_) q4)
      · rw [up_nc (by decide), up_nc (by decide)]; exact h34
      · rw [up_off _ (by decide), up_off _ (by decide)]; exact h29
      · rw [up_off _ (by decide), up_off _ (by decide)]; exact h30
      · rw [up_nc (by decide), up_nc (by decide)]; exact h1
      · by_cases e : j = k
        · subst e
          rw [up_nc (by decide), up_eq, up_eq]; exact ⟨rfl, rfl⟩
        · rw [up_nc (by decide), up_ni (by omega), up_ni (by omega), up_nc (by decide)]; exact hd j (by omega)
      · rw [q1 c a b d, up_off c d, up_off c b]
      · rw [q2, up_off _ (by decide), up_off _ (by decide)]
      · rw [q3 c s hc hs]
        rcases hc with rfl | rfl
        · rw [up_nc (by decide), up_ni (by omega)]
        · rw [up_ni (by omega), up_nc (by decide)]
  have one : ∀ (m k : Nat) (J : gI), k + m = cl.length → (∀ c, ¬ (315 ≤ c ∧ c ≤ 318) → J c = up I 314 t (nI cl.length) c) → (∀ c s, 315 ≤ c → c ≤ 318 → s < 24 * t ∨ 24 * t + 24 ≤ s → J c s = I c s) → (∀ j, j < k → J 315 (24 * t + j) = I 325 j ∧ J 316 (24 * t + j) = nI (400 * t) + I 326 j ∧ J 317 (24 * t + j) = I 327 j ∧ J 318 (24 * t + j) = I 328 j) → Go G mX7_text 6 0 0 211 [some (.ref 310), some (.int (nI t)), some (.int (nI k))] [] SH J R L Q := by
    intro m
    induction m with
    | zero =>
      intro k J hk hf hs hd
      have f310 : J 310 = I 310 := by rw [hf 310 (by omega), up_off _ (by decide)]
      refine b_X7_text_211 hR ⟨fun _ => ?_, fun c => absurd (by rw [f310, hr.1]; exact nI_le (by omega) (by omega)) c⟩
      refine two (otM cl).length 0 J (by omega) (by rw [f310]; exact hm.2.2.2.1) (by rw [hf 329 (by omega), up_off _ (by decide)]) (by rw [hf 330 (by omega), up_off _ (by decide)]) (by rw [hf 311 (by omega), up_nc (by decide)]; exact h11) (fun j hj => by omega) (fun I' q1 q2 q3 q4 => hq I' ⟨?_, fun i c hc => ?_, q4⟩ (fun c a b => ?_) ?_ (fun s hs2 => ?_) (fun c s a b d => ?_) (fun c s a b => ?_))
      · rw [q1 314 (by decide) (by decide) (by decide), hf 314 (by omega), up_eq]
      · have hi := (List.getElem?_eq_some_iff.mp hc).1
        obtain ⟨d1, d2, d3, d4⟩ := hd i (by omega)
        obtain ⟨r1, r2, r3, r4, r5⟩ := hr.2 i c hc
        rw [q1 315 (by decide) (by decide) (by decide), q1 316 (by decide) (by decide) (by decide), q1 317 (by decide) (by decide) (by decide), q1 318 (by decide) (by decide) (by decide), d1, d2, d3, d4]
        refine ⟨r1, r2, ?_, r4, r5⟩
        rw [r3, nI_add]
      · rw [q1 c a (by omega) (by omega), hf c (by omega), up_off c (by omega)]
      · rw [q2, hf 311 (by omega), up_off _ (by decide)]
      · rw [q1 314 (by decide) (by decide) (by decide), hf 314 (by omega), up_ni hs2]
      · rw [q1 c (by omega) (by omega) (by omega)]; exact hs c s a b d
      · rw [q3 c s a b, hf c (by omega), up_nc (by omega)]
    | succ m ih =>
      intro k J hk hf hs hd
      have f310 : J 310 = I 310 := by rw [hf 310 (by omega), up_off _ (by decide)]
      have e24 : (24 : Int32) * nI t + nI k = nI (24 * t + k) := by rw [show (24 : Int32) = nI 24 from rfl, nI_mul, nI_add]
      have e40 : (400 : Int32) * nI t = nI (400 * t) := by rw [show (400 : Int32) = nI 400 from rfl, nI_mul]
      have g : ∀ c, c = 325 ∨ c = 326 ∨ c = 327 ∨ c = 328 → J c = I c := fun c hc => by rw [hf c (by omega), up_off c (by omega)]
      refine b_X7_text_211 hR ⟨fun c => absurd c (by rw [f310, hr.1]; exact nI_ge (by omega) (by omega)), fun _ => ⟨vp_in_nI (by omega) (by decide), ?_⟩⟩
      rw [e24, nI_clamp (by omega), nI_clamp (by omega), e40, g 325 (by omega)]
      refine ⟨vp_in_nI (by omega) (by decide), ?_⟩
      rintro _ rfl
      rw [up_nc (by decide), g 326 (by omega)]
      refine ⟨vp_in_nI (by omega) (by decide), vp_in_nI (by omega) (by decide), ?_⟩
      rintro _ rfl
      rw [up_nc (by decide), up_nc (by decide), g 327 (by omega)]
      refine ⟨vp_in_nI (by omega) (by decide), vp_in_nI (by omega) (by decide), ?_⟩
      rintro _ rfl
      rw [up_nc (by decide), up_nc (by decide), up_nc (by decide), g 328 (by omega)]
      refine ⟨vp_in_nI (by omega) (by decide), vp_in_nI (by omega) (by decide), ?_⟩
      rintro _ rfl _ rfl
      rw [nI_1]
      refine ih (k + 1) _ (by omega) (fun c hc => ?_) (fun c s a b d => ?_) (fun j hj => ?_)
      · rw [up_off c (by omega), up_off c (by omega), up_off c (by omega), up_off c (by omega)]; exact hf c hc
      · rw [up_ne (by omega), up_ne (by omega), up_ne (by omega), up_ne (by omega)]; exact hs c s a b d
      · by_cases e : j = k
        · subst e
          refine ⟨?_, ?_, ?_, ?_⟩
          · rw [up_nc (by decide), up_nc (by decide), up_nc (by decide), up_eq]
          · rw [up_nc (by decide), up_nc (by decide), up_eq]
          · rw [up_nc (by decide), up_eq]
          · rw [up_eq]
        · obtain ⟨d1, d2, d3, d4⟩ := hd j (by omega)
          refine ⟨?_, ?_, ?_, ?_⟩
          · rw [up_ne (by omega), up_ne (by omega), up_ne (by omega), up_ne (by omega)]; exact d1
          · rw [up_ne (by omega), up_ne (by omega), up_ne (by omega), up_ne (by omega)]; exact d2
          · rw [up_ne (by omega), up_ne (by omega), up_ne (by omega), up_ne (by omega)]; exact d3
          · rw [up_ne (by omega), up_ne (by omega), up_ne (by omega), up_ne (by omega)]; exact d4
  exact one cl.length 0 _ (by omega) (fun c _ => rfl) (fun c s a b _ => by rw [up_nc (by omega)]) (fun j hj => by omega)
/-- the plain form reads its tape -/
theorem k_X7_text {G : gG} {I : gI} {R : gR} {L : gL} {Q : gQ} {T : Nat → Nat} {n t pl tk v a m : Nat} {r : Nat × Nat ⊕ List cls} (hR : g_Fx R) (hT : tpM I T n) (ht : t < 4) (h11 : I 311 1 = nI t) (h3 : I 310 3 = nI n) (hL : Lx T n 0 pl tk v a) (hTR : TRw T n m (.inr (pl, tk, v, a)) [] r)
    (hf : ∀ I' k p, r = .inl (k, p) → (∀ c, c ≠ 310 → ¬ (321 ≤ c ∧ c ≤ 330) → I' c = I c) → (∀ j, j ≤ 13 → j ≠ 3 → j ≠ 4 → j ≠ 5 → j ≠ 13 → I' 310 j = I 310 j) → I' 310 3 = 0 → I' 310 4 = nI k → I' 310 5 = nI p → (k ≠ 0 → k ≤ 6 → Q (some (.int (-1))) SH I' R L))
    (hk : ∀ I' cl, r = .inr cl → mrpT I' t cl → (∀ c, c ≠ 310 → c ≠ 311 → ¬ (314 ≤ c ∧ c ≤ 330) → I' c = I c) → I' 311 = upd (I 311) 1 (nI (t + 1)) → (∀ s, s ≠ t → I' 314 s = I 314 s) → (∀ c s, 315 ≤ c → c ≤ 318 → s < 24 * t ∨ 24 * t + 24 ≤ s → I' c s = I c s) → (∀ c s, c = 319 ∨ c = 320 → s < 400 * t ∨ 400 * t + 400 ≤ s → I' c s = I c s) → (∀ j, j ≤ 13 → j ≠ 3 → j ≠ 4 → j ≠ 5 → j ≠ 13 → I' 310 j = I 310 j) → I' 310 3 = 0 → I' 310 4 = 0 → I' 310 5 = -1 → cl.length ≤ 24 → (otM cl).length ≤ 300 → Q (some (.int (nI t))) SH I' R L)
    (hkf : ∀ k p, r = .inl (k, p) → k ≠ 0 ∧ k ≤ 6) : Mt G mX7_text 6 0 0 [.ref 310] SH I R L Q := by
  have hn := hT.1
  refine e_X7_text hR ⟨fun _ => ?_, fun c => absurd c (by rw [h11]; exact fun q => by have := (nI_eq (b := 4) (by omega) (by decide)).mp q; omega)⟩
  rintro _ rfl _ rfl _ rfl _ rfl _ rfl _ rfl _ rfl _ rfl _ rfl _ rfl K hK
  have Ko : ∀ c, c ≠ 310 → K c = I c := fun c hc => by
    rw [hK, up_off c hc, up_off c hc, up_off c hc, up_off c hc, up_off c hc, up_off c hc, up_off c hc, up_off c hc, up_off c hc, up_off c hc, up_off c hc]
  have K3 : K 310 3 = 0 := by
    rw [hK, up_ni (by decide), up_ni (by decide), up_ni (by decide), up_ni (by decide), up_ni (by decide), up_ni (by decide), up_ni (by decide), up_ni (by decide), up_ni (by decide), up_eq]
  have K13 : K 310 13 = nI n := by
    rw [hK, up_ni (by decide), up_ni (by decide), up_ni (by decide), up_ni (by decide), up_ni (by decide), up_ni (by decide), up_ni (by decide), up_ni (by decide), up_ni (by decide), up_ni (by decide), up_eq]; exact h3
  have K14 : K 310 14 = nI 0 := by
    rw [hK, up_ni (by decide), up_ni (by decide), up_ni (by decide), up_ni (by decide), up_ni (by decide), up_ni (by decide), up_ni (by decide), up_ni (by decide), up_eq]; rfl
  have K18 : K 310 18 = 0 := by
    rw [hK, up_ni (by decide), up_ni (by decide), up_ni (by decide), up_ni (by decide), up_ni (by decide), up_ni (by decide), up_ni (by decide), up_eq]
  have K19 : K 310 19 = -1 := by
    rw [hK, up_ni (by decide), up_ni (by decide), up_ni (by decide), up_ni (by decide), up_ni (by decide), up_ni (by decide), up_eq]
  have K20 : K 310 20 = nI 0 := by
    rw [hK, up_ni (by decide), up_ni (by decide), up_ni (by decide), up_ni (by decide), up_ni (by decide), up_eq]; rfl
  have K21 : K 310 21 = nI 0 := by
    rw [hK, up_ni (by decide), up_ni (by decide), up_ni (by decide), up_ni (by decide), up_eq]; rfl
  have K24 : K 310 24 = nI 0 := by
    rw [hK, up_ni (by decide), up_ni (by decide), up_ni (by decide), up_eq]; rfl
  have K27 : K 310 27 = 4 := by
    rw [hK, up_ni (by decide), up_ni (by decide), up_eq]
  have K28 : K 310 28 = nI 0 := by
    rw [hK, up_ni (by decide), up_eq]; rfl
  have K34 : K 310 34 = nI 0 := by
    rw [hK, up_eq]; rfl
  have Kr : ∀ j, j ≤ 13 → j ≠ 3 → j ≠ 13 → K 310 j = I 310 j := fun j a b c => by
    rw [hK, up_ni (by omega), up_ni (by omega), up_ni (by omega), up_ni (by omega), up_ni (by omega), up_ni (by omega), up_ni (by omega), up_ni (by omega), up_ni (by omega), up_ni b, up_ni c]
  clear hK
  have KT : tpM K T n := ⟨hT.1, fun j hj => by rw [Ko 313 (by decide)]; exact hT.2 j hj⟩
  have Km : mK K [] [] (otM []) 0 := ⟨⟨K21, trivial⟩, ⟨K24, trivial, trivial⟩, K20, K34, fun k hk => by simp [otM] at hk, fun k hk => by simp [otM] at hk⟩
  refine k_X7_nextToken hR KT K13 K14 hL (fun s t' ht' => ?_)
  have xa := Lx_adv hL
  have M310 : ∀ j, j ≠ 14 → j ≠ 15 → j ≠ 16 → j ≠ 17 → mvT K pl a s t' 310 j = K 310 j := fun j a b c d => mv_o (by omega)
  have Mo : ∀ c, c ≠ 310 → mvT K pl a s t' c = K c := fun c hc => by funext j; exact mv_o (Or.inl hc)
  refine simT (r := r) hR m (.inr (pl, tk, v, a)) [] _ ⟨hT.1, fun j hj => by rw [Mo 313 (by decide)]; exact KT.2 j hj⟩ (Or.inr ⟨pl, tk, v, a, rfl, ?_, ?_, ?_, mK_mv Km, ⟨?_, fun k c hc => by simp at hc⟩, lxM_mv K13 ht', ⟨_, hL⟩, by simp [otM], by simp⟩) hTR (fun I' k p e q1 q2 q3 => ?_) (fun I' cl e q1 q2 q3 q4 q5 q6 q7 q8 q9 => ?_)
  · rw [M310 18 (by decide) (by decide) (by decide) (by decide)]; exact K18
  · rw [M310 19 (by decide) (by decide) (by decide) (by decide)]; exact K19
  · rw [M310 27 (by decide) (by decide) (by decide) (by decide)]; exact K27
  · rw [M310 28 (by decide) (by decide) (by decide) (by decide)]; exact K28
  · obtain ⟨k0, k6⟩ := hkf k p e
    refine b_X7_text_74 hR ⟨fun _ => b_X7_text_167 hR ?_, fun c => absurd (q2.symm.trans c) (nI_ne0 (by omega) (by omega))⟩
    rintro _ rfl _ rfl
    have w19 : up I' 310 4 (nI k) 310 19 = nI p := (up_ni (by decide)).trans q3
    have w18 : up (up I' 310 4 (nI k)) 310 5 (nI p) 310 18 = nI k := by rw [up_ni (by decide), up_ni (by decide)]; exact q2
    rw [q2, w19, w18]
    refine ⟨fun c => absurd c (nI_ge (b := k) (a := 0) (by omega) (by omega)), fun _ => ?_⟩
    refine hf _ k p e (fun c a b => ?_) (fun j a b c d e => ?_) ?_ ?_ ?_ k0 k6
    · rw [up_off c a, up_off c a, q1.1 c a b, Mo c a, Ko c a]
    · rw [up_ni d, up_ni c, q1.2 j a, M310 j (by omega) (by omega) (by omega) (by omega)]; exact Kr j a b e
    · rw [up_ni (by decide), up_ni (by decide), q1.2 3 (by decide), M310 3 (by decide) (by decide) (by decide) (by decide)]; exact K3
    · rw [up_ni (by decide), up_eq]
    · rw [up_eq]
  · refine b_X7_text_74 hR ⟨fun c => absurd q2 c, fun _ => ⟨fun c => absurd q4 c, fun _ => ⟨fun _ => b_X7_text_167 hR ?_, fun c => absurd q5 c⟩⟩⟩
    have e11 : I' 311 = I 311 := by rw [q1.1 311 (by decide) (by omega), Mo 311 (by decide), Ko 311 (by decide)]
    rintro _ rfl _ rfl
    have w19 : up I' 310 4 0 310 19 = -1 := (up_ni (by decide)).trans q3
    have w18 : up (up I' 310 4 0) 310 5 (-1) 310 18 = 0 := by rw [up_ni (by decide), up_ni (by decide)]; exact q2
    have w11 : up (up I' 310 4 0) 310 5 (-1) 311 1 = nI t := by rw [up_nc (by decide), up_nc (by decide), e11]; exact h11
    have w28 : up (up I' 310 4 0) 310 5 (-1) 310 28 = nI cl.length := by rw [up_ni (by decide), up_ni (by decide)]; exact q7.1
    rw [q2, w19, w18, w11, w28]
    refine ⟨fun _ => ?_, fun c => absurd (by decide) c⟩
    rintro _ rfl
    rw [nI_clamp (by omega)]
    refine ⟨vp_in_nI ht (by decide), ?_⟩
    rintro _ rfl
    have m2 : mK (up (up I' 310 4 0) 310 5 (-1)) [] [] (otM cl) 0 := mK_up (mK_up q6 (by decide) (by decide) (by decide) (by decide)) (by decide) (by decide) (by decide) (by decide)
    have r2 : rpM (up (up I' 310 4 0) 310 5 (-1)) cl := ⟨by rw [up_ni (by decide), up_ni (by decide)]; exact q7.1, fun k c hc => by
      rw [up_nc (by decide), up_nc (by decide), up_nc (by decide), up_nc (by decide), up_nc (by decide), up_nc (by decide), up_nc (by decide), up_nc (by decide)]; exact q7.2 k c hc⟩
    have o2 : ∀ c, c ≠ 310 → up (up I' 310 4 0) 310 5 (-1) c = I' c := fun c hc => by rw [up_off c hc, up_off c hc]
    have o3 : ∀ c, c ≠ 310 → ¬ (321 ≤ c ∧ c ≤ 330) → up (up I' 310 4 0) 310 5 (-1) c = I c := fun c hc hd => by rw [o2 c hc, q1.1 c hc hd, Mo c hc, Ko c hc]
    refine copyT hR ht (by rw [o2 311 (by decide), e11]; exact h11) r2 m2 q8 (by omega) (fun J g1 g2 g3 g4 g5 g6 => hk J cl e g1 (fun c a b d => ?_) ?_ (fun s hs => ?_) (fun c s a b d => ?_) (fun c s a b => ?_) (fun j a b c d e => ?_) ?_ ?_ ?_ q8 (by omega))
    · rw [g2 c b (by omega), o3 c a (by omega)]
    · rw [g3, o2 311 (by decide), e11]
    · rw [g4 s hs, o3 314 (by decide) (by omega)]
    · rw [g5 c s a b d, o3 c (by omega) (by omega)]
    · rw [g6 c s a b, o3 c (by omega) (by omega)]
    · rw [g2 310 (by decide) (by omega), up_ni d, up_ni c, q1.2 j a, M310 j (by omega) (by omega) (by omega) (by omega)]; exact Kr j a b e
    · rw [g2 310 (by decide) (by omega), up_ni (by decide), up_ni (by decide), q1.2 3 (by decide), M310 3 (by decide) (by decide) (by decide) (by decide)]; exact K3
    · rw [g2 310 (by decide) (by omega), up_ni (by decide), up_eq]
    · rw [g2 310 (by decide) (by omega), up_eq]
