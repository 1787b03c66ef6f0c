theorem ordF_cg {cw ca cw' ca' : Nat → Int32} {w : Int32} {t : Nat} : ∀ n, n ≤ 24 → (∀ k, k < 24 → cw' (24 * t + k) = cw (24 * t + k) ∧ ca' (24 * t + k) = ca (24 * t + k)) → ordF cw' ca' w t n = ordF cw ca w t n
  | 0, _, _ => rfl
  | n + 1, hn, h => by rw [ordF, ordF, (h n (by omega)).1, (h n (by omega)).2, ordF_cg n (by omega) h]
theorem tksM_cg {o v o' v' : Nat → Int32} : ∀ (n i : Nat), (∀ j, j < n → o' (i + j) = o (i + j) ∧ v' (i + j) = v (i + j)) → tksM o' v' i n = tksM o v i n
  | 0, _, _ => rfl
  | n + 1, i, h => by
    have h0 := h 0 (by omega)
    rw [Nat.add_zero] at h0
    rw [tksM, tksM, h0.1, h0.2, tksM_cg n (i + 1) (fun j hj => by have := h (j + 1) (by omega); rwa [show i + 1 + j = i + (j + 1) by omega])]
theorem lwR_congr2 {I I' : gI} {s : Nat} (hs : s < 4) (h1 : ∀ k, k ≤ 6 → I' (136 + 7 * s + k) = I (136 + 7 * s + k)) (h2 : I' 314 s = I 314 s) (h3 : ∀ c k, 315 ≤ c → c ≤ 318 → k < 24 → I' c (24 * s + k) = I c (24 * s + k)) (h4 : ∀ c k, c = 319 ∨ c = 320 → k < 400 → I' c (400 * s + k) = I c (400 * s + k)) (h : lwR I s) : lwR I' s := by
  obtain ⟨⟨a1, a2, a3⟩, b, d⟩ := h
  have cn := ci a2
  have e0 := h1 0 (by decide)
  rw [Nat.add_zero] at e0
  have ek : ∀ w, tkl I' (136 + 7 * s) w = tkl I (136 + 7 * s) w := fun w => tkl_congr (h1 1 (by decide)) (h1 2 (by decide)) (h1 3 (by decide))
  have eo : ∀ w, ordF (I' 315) (I' 316) w s (I 314 s).toNatClampNeg = ordF (I 315) (I 316) w s (I 314 s).toNatClampNeg := fun w => ordF_cg _ (by omega) (fun k hk => ⟨h3 315 k (by decide) (by decide) hk, h3 316 k (by decide) (by decide) hk⟩)
  unfold lwR
  rw [h2, e0]
  refine ⟨⟨a1, a2, a3⟩, fun k hk => ?_, fun w hw => ?_⟩
  · rw [h1 4 (by decide), h1 5 (by decide), h1 6 (by decide), h3 315 k (by decide) (by decide) (by omega), h3 317 k (by decide) (by decide) (by omega), h3 318 k (by decide) (by decide) (by omega)]
    exact b k hk
  · rw [h1 2 (by decide), h1 3 (by decide), eo, ek]
    rcases d w hw with q | ⟨d1, d2, d3, ⟨q1, n, q2, q3, q4⟩, d5, d6⟩
    · exact Or.inl q
    · have cs := ci (x := ordF (I 315) (I 316) (nI w) s (I 314 s).toNatClampNeg) (by omega)
      generalize (ordF (I 315) (I 316) (nI w) s (I 314 s).toNatClampNeg) = g at *
      have ge : ∀ c j, c = 319 ∨ c = 320 → j ≤ n → I' c (g.toNatClampNeg + j) = I c (g.toNatClampNeg + j) := fun c j hc hj => by
        have := h4 c (g.toNatClampNeg + j - 400 * s) hc (by omega)
        rwa [show 400 * s + (g.toNatClampNeg + j - 400 * s) = g.toNatClampNeg + j by omega] at this
      have q4' : endM (I' 319) g.toNatClampNeg n := ⟨by rw [ge 319 n (Or.inl rfl) (by omega)]; exact q4.1, fun j hj => by rw [ge 319 j (Or.inl rfl) (by omega)]; exact q4.2 j hj⟩
      refine Or.inr ⟨d1, d2, d3, ⟨q1, n, q2, q3, q4'⟩, ?_, d6⟩
      rw [d5]
      unfold tkM
      rw [lenF_eq q4 q3, lenF_eq q4' q3]
      exact (tksM_cg n _ (fun j hj => ⟨ge 319 j (Or.inl rfl) (by omega), ge 320 j (Or.inr rfl) (by omega)⟩)).symm
theorem thC_of3 {I I' : gI} {t : Nat} (ht : t ≤ 4) (h10 : I' 3 10 = I 3 10) (hr : I 3 10 = -1 ∨ (0 ≤ (I 3 10).toInt ∧ (I 3 10).toInt < t)) (h1 : I' 129 = I 129) (h2 : I' 130 = I 130) (h : ∀ a, 136 ≤ a → a < 136 + 7 * t → I' a = I a) : thC I' = thC I := by
  unfold thC
  rw [h1, h2]
  refine Prod.ext rfl (Prod.ext rfl ?_)
  funext w
  show lwC I' w = lwC I w
  unfold lwC
  rw [h10]
  rcases hr with hr | hr
  · rw [hr, if_pos (by decide), if_pos (by decide)]
  · by_cases c : I 3 10 < 0 ∨ 4 ≤ I 3 10
    · rw [if_pos c, if_pos c]
    · rw [if_neg c, if_neg c]
      have := ci hr.1
      rw [h (136 + 7 * (I 3 10).toNatClampNeg + 2) (by omega) (by omega), tkl_congr (h _ (by omega) (by omega)) (h _ (by omega) (by omega)) (h _ (by omega) (by omega))]
theorem RelT {I I' : gI} {R R' : gR} {t : Nat} (h : Rel I R) (ht : t < 4) (e11 : I 311 1 = nI t) (hF : g_Fx R') (h8 : R' 8 = R 8)
    (hc : ∀ c, c ≠ 0 → c ≠ 3 → c ≠ 306 → c ≠ 308 → ¬ (136 + 7 * t ≤ c ∧ c ≤ 136 + 7 * t + 6) → c ≠ 310 → c ≠ 311 → ¬ (314 ≤ c ∧ c ≤ 330) → I' c = I c)
    (h0 : ∀ j, j ≠ 6 → j ≠ 7 → j ≠ 8 → I' 0 j = I 0 j) (h3 : ∀ j, j ≠ 9 → I' 3 j = I 3 j) (h11 : ∀ j, j ≠ 1 → I' 311 j = I 311 j) (h39 : I' 3 9 = I' 311 1)
    (h314 : ∀ s, s < t → I' 314 s = I 314 s) (h315 : ∀ c s, 315 ≤ c → c ≤ 318 → s < 24 * t → I' c s = I c s) (h319 : ∀ c s, c = 319 ∨ c = 320 → s < 400 * t → I' c s = I c s)
    (htp : tpR I') (hnew : I' 311 1 = nI t ∨ (I' 311 1 = nI (t + 1) ∧ lwR I' t)) : Rel I' R' := by
  obtain ⟨⟨f1, ⟨π, f2, f3⟩, f4, f5, f6, f7, f8, f9⟩, hs⟩ := id h
  obtain ⟨⟨c0, c1, c2, c3, c4, c5, c6, c7, c8⟩, -, oh, -⟩ := R_co h
  have tn : (nI t).toInt = t := nI_toInt (by omega)
  have tn1 : (nI (t + 1)).toInt = ((t + 1 : Nat) : Int) := nI_toInt (by omega)
  have e312 : I' 312 = I 312 := hc 312 (by omega) (by omega) (by omega) (by omega) (by omega) (by omega) (by omega) (by omega)
  have cs : ∀ a, (4 ≤ a ∧ a ≤ 135) ∨ (174 ≤ a ∧ a ≤ 305) ∨ a = 1 ∨ a = 173 → I' a = I a := fun a ha => hc a (by omega) (by omega) (by omega) (by omega) (by omega) (by omega) (by omega) (by omega)
  have hle : (t : Int) ≤ (I' 311 1).toInt ∧ (I' 311 1).toInt ≤ 4 := by
    rcases hnew with q | ⟨q, -⟩
    · rw [q, tn]; omega
    · rw [q, tn1]; omega
  have o1 := oh.2.1
  have o2 := oh.2.2.1
  have ohn : okh (I' 311) := by
    obtain ⟨q0, q1, q2, q3, q4, q5, q6, q7⟩ := oh
    unfold okh
    rw [h11 0 (by decide), h11 2 (by decide), h11 3 (by decide), h11 4 (by decide), h11 5 (by decide)]
    rw [e11, tn] at q2
    refine ⟨q0, ⟨by omega, hle.2⟩, ?_, q3, q4, q5, fun e he => ?_, fun k hk => ?_⟩
    · rcases q2 with q2 | q2
      · exact Or.inl q2
      · exact Or.inr ⟨q2.1, by omega⟩
    · rw [h11 _ (by omega), h11 _ (by omega), h11 _ (by omega)]; exact q6 e he
    · rw [h11 _ (by omega), h11 _ (by omega)]; exact q7 k hk
  have d4 := ci oh.2.2.2.2.1.1
  have d5 := ci oh.2.2.2.2.2.1.1
  have e4 := oh.2.2.2.2.1.2
  have e5 := oh.2.2.2.2.2.1.2
  refine ⟨⟨hF, ⟨π, ⟨fun i hi => by rw [h8]; exact f2.1 i hi, f2.2⟩, ?_⟩, ?_, ?_, by rw [e312]; exact f6, ?_, fun s hs' => ?_, htp⟩, ?_⟩
  · refine CR_hd f3 f5 (p9 f2) (fun k hk => h11 k (by omega)) (h11 3 (by decide)) ?_ (fun x hx => cs x (by omega))
    unfold coR
    rw [h3 6 (by decide), h3 10 (by decide), h3 2 (by decide), h3 12 (by decide), h3 14 (by decide), h3 11 (by decide), h11 0 (by decide), h11 2 (by decide), h11 3 (by decide), h11 4 (by decide), h11 5 (by decide), cs (3 + 126) (by omega), cs (3 + 127) (by omega), cs (3 + 128) (by omega), cs (3 + 131) (by omega), fitF_congr (fun k hk _ => h11 k (by omega)) _ (by omega)]
    refine ⟨c0, h39, c2, c3, c4, c5, fun e he => ?_, c7, fun e he => ?_⟩
    · rw [h11 _ (by omega), h11 _ (by omega), h11 _ (by omega)]; exact c6 e he
    · rw [tolF_congr (fun k hk _ => h11 k (by omega)) _ (by omega)]; exact c8 e he
  · rw [e312]
    exact CR_congr (fun a a1 a2 => cs a (by omega)) (fun i hi => by omega) f6 f4
  · exact okf_hd f5 ohn (fun k hk => h11 k (by omega)) (h11 3 (by decide)) (by rw [h11 0 (by decide)]; exact Nat.le_refl _)
  · rw [e312]; rw [e11, tn] at f7; omega
  · have ct := ci (x := I 311 1) (by rw [e11, tn]; omega)
    rw [e11, tn] at ct
    have old : s < t → lwR I' s := fun q => by
      refine lwR_congr2 (by omega) (fun k hk => hc _ (by omega) (by omega) (by omega) (by omega) (by omega) (by omega) (by omega) (by omega)) (h314 s q) (fun c k a b d => h315 c _ a b (by omega)) (fun c k a b => h319 c _ a (by omega)) (f8 s ?_)
      rw [e11, nI_clamp (by omega)]; exact q
    rcases hnew with q | ⟨q, q2⟩
    · rw [q, nI_clamp (by omega)] at hs'; exact old hs'
    · rw [q, nI_clamp (by omega)] at hs'
      by_cases e : s = t
      · subst e; exact q2
      · exact old (by omega)
  · have hr : I 3 10 = -1 ∨ (0 ≤ (I 3 10).toInt ∧ (I 3 10).toInt < t) := by
      rw [c2]
      rcases o2 with q | q
      · exact Or.inl q
      · rw [e11, tn] at q; exact Or.inr q
    exact sgt_keep hs (h0 9 (by decide) (by decide) (by decide)) (by rw [cs 1 (by omega)]) (by rw [cs 1 (by omega)]) (cs 173 (by omega)) (thC_of3 (by omega) (h3 10 (by decide)) hr (cs 129 (by omega)) (cs 130 (by omega)) (fun a a1 a2 => hc a (by omega) (by omega) (by omega) (by omega) (by omega) (by omega) (by omega) (by omega))) (cs 5 (by omega)) (cs 6 (by omega)) (cs 7 (by omega)) (by rw [cs 4 (by omega)]) (by rw [cs 4 (by omega)]) (h3 6 (by decide))
theorem p_text {G : gG} {I : gI} {R : gR} {L : gL} {Q : gQ} (h : Rel I R) (hq : ∀ v I1 R1 L1, promD 6 G mX7_text [.ref 310] (some (.int v)) I1 R1 L1 → Q (some (.int v)) SH I1 R1 L1) : Mt G mX6_text 14 0 0 [.ref 0] SH I R L Q := by
  have hF := h.1.1
  obtain ⟨t6, t3, tj, t7, t8⟩ := h.1.2.2.2.2.2.2.2
  obtain ⟨⟨c0, c1, -⟩, -, oh, -⟩ := R_co h
  have o1 := oh.2.1
  have z0 : (0 : Int32).toInt = 0 := rfl
  have z4 : (4 : Int32).toInt = 4 := rfl
  refine e_X6_text hF ?_
  rintro _ rfl
  rw [c1]
  refine ⟨fun d => absurd (ti_lt.mp d) (by rw [z0]; omega), fun _ => ⟨fun d => ?_, fun d => hq _ _ _ _ (fun Q2 h2 => e_X7_text hF ⟨fun c => absurd ?_ c, fun _ => h2 _ _ _ h⟩)⟩⟩
  · rw [ti_lt, z4] at d
    have c11 := ci o1.1
    have e11 : I 311 1 = nI (I 311 1).toNatClampNeg := nI_of_toInt o1.1
    generalize (I 311 1).toNatClampNeg = t at e11 c11
    have ht : t < 4 := by omega
    have cn := ci t3.1
    have en : I 310 3 = nI (I 310 3).toNatClampNeg := nI_of_toInt t3.1
    generalize hN : (I 310 3).toNatClampNeg = n at en cn tj
    have hTc : tpT I (fun j => (I 307 j).toNatClampNeg) n := ⟨by omega, fun j hj => by
      have := (tj j hj).1
      have cj := ci this.1
      exact ⟨nI_of_toInt this.1, by show (I 307 j).toNatClampNeg ≤ 255; omega⟩⟩
    rw [e11, t6, en]
    refine ⟨vp_in_nI ht (by decide), 136 + 7 * t, hF 135 t (136 + 7 * t) ((by decide +kernel : ∀ j, j < 4 → RF 135 j = some (136 + 7 * j)) t ht), La_136 ht, ?_⟩
    have hF2 : g_Fx (upR R 306 6 (some (136 + 7 * t))) := g_Fx_up (c := 306) (i := 6) (x := some (136 + 7 * t)) rfl hF
    have R8 : upR R 306 6 (some (136 + 7 * t)) 8 = R 8 := by funext k; exact upR_ne (by omega)
    refine k_X3_read hF (La_136 ht) hTc (fun I1 ro fr => b_X6_text_39 hF2 ?_)
    have i0 : I1 0 = I 0 := fr 0 (by decide) (by decide) (by omega)
    rintro _ rfl _ rfl _ rfl
    have a7 : up I1 0 6 0 306 7 = I1 306 7 := up_nc (by decide)
    have a8 : up (up I1 0 6 0) 0 7 (I1 306 7) 306 8 = I1 306 8 := by rw [up_nc (by decide), up_nc (by decide)]
    rw [a7, a8]
    have a9 : up (up (up I1 0 6 0) 0 7 (I1 306 7)) 0 8 (I1 306 8) 0 7 = I1 306 7 := by rw [up_ni (by decide), up_eq]
    rw [a9]
    obtain ⟨pl, tk, v, a, m, hL, ro⟩ := ro
    -- the cells behind the class's reading
    have wo : ∀ c, c ≠ 0 → up (up (up I1 0 6 0) 0 7 (I1 306 7)) 0 8 (I1 306 8) c = I1 c := fun c hc => by rw [up_off c hc, up_off c hc, up_off c hc]
    have w6 : up (up (up I1 0 6 0) 0 7 (I1 306 7)) 0 8 (I1 306 8) 0 6 = 0 := by rw [up_ni (by decide), up_ni (by decide), up_eq]
    have w8 : up (up (up I1 0 6 0) 0 7 (I1 306 7)) 0 8 (I1 306 8) 0 8 = I1 306 8 := up_eq _ _ _ _
    have wj : ∀ j, j ≠ 6 → j ≠ 7 → j ≠ 8 → up (up (up I1 0 6 0) 0 7 (I1 306 7)) 0 8 (I1 306 8) 0 j = I 0 j := fun j q1 q2 q3 => by rw [up_ni q3, up_ni q2, up_ni q1, i0]
    have wf : ∀ c, c ≠ 0 → c ≠ 306 → c ≠ 308 → ¬ (136 + 7 * t ≤ c ∧ c ≤ 136 + 7 * t + 6) → up (up (up I1 0 6 0) 0 7 (I1 306 7)) 0 8 (I1 306 8) c = I c := fun c q0 q1 q2 q3 => by rw [wo c q0, fr c q1 q2 q3]
    generalize hW : up (up (up I1 0 6 0) 0 7 (I1 306 7)) 0 8 (I1 306 8) = W at *
    have tpm : ∀ J : gI, J 313 = W 313 → tpM J (fun j => (I 307 j).toNatClampNeg) n := fun J hJ => ⟨by omega, fun j hj => by
      have := tj j hj
      have cj := ci this.1.1
      rw [hJ, wf 313 (by decide) (by decide) (by decide) (by omega)]
      refine ⟨?_, by show (I 307 j).toNatClampNeg ≤ 255; omega⟩
      rw [this.2]
      show (I 307 j).toInt8.toInt32 = (nI (I 307 j).toNatClampNeg).toInt8.toInt32
      rw [← nI_of_toInt this.1.1]⟩
    rcases ro with ⟨k, p, hTR, k0, k6, hp, e7, e8⟩ | ⟨cl, hTR, e7, e8, hrp, hcl, hcat⟩
    · rw [e7]
      rw [e7] at a9
      rw [e8] at w8
      refine ⟨fun c => absurd c (nI_ne0 (by omega) (by omega)), fun _ => hq _ _ _ _ (fun Q2 h2 => ?_)⟩
      refine k_X7_text (I := W) hF2 (tpm W rfl) ht (by rw [wf 311 (by decide) (by decide) (by decide) (by omega)]; exact e11) (by rw [wf 310 (by decide) (by decide) (by decide) (by omega)]; exact en) hL hTR (fun I' k' p' er f1 f2 f3 f4 f5 _ _ => ?_) (fun I' cl er => by cases er) (fun k' p' er => by cases er; exact ⟨k0, k6⟩)
      cases er
      refine h2 _ _ _ (RelT h ht e11 hF2 R8 (fun c q0 q1 q2 q3 q4 q5 q6 q7 => by rw [f1 c q5 (by omega)]; exact wf c q0 q2 q3 q4) (fun j q1 q2 q3 => by rw [f1 0 (by decide) (by omega)]; exact wj j q1 q2 q3) (fun j _ => by rw [f1 3 (by decide) (by omega), wf 3 (by decide) (by decide) (by decide) (by omega)]) (fun j _ => by rw [f1 311 (by decide) (by omega), wf 311 (by decide) (by decide) (by decide) (by omega)]) ?_ (fun s _ => by rw [f1 314 (by decide) (by omega), wf 314 (by decide) (by decide) (by decide) (by omega)]) (fun c s q1 q2 _ => by rw [f1 c (by omega) (by omega), wf c (by omega) (by omega) (by omega) (by omega)]) (fun c s q1 _ => by rw [f1 c (by omega) (by omega), wf c (by omega) (by omega) (by omega) (by omega)]) ?_ (Or.inl (by rw [f1 311 (by decide) (by omega), wf 311 (by decide) (by decide) (by decide) (by omega)]; exact e11)))
      · rw [f1 3 (by decide) (by omega), f1 311 (by decide) (by omega), wf 3 (by decide) (by decide) (by decide) (by omega), wf 311 (by decide) (by decide) (by decide) (by omega)]; exact c1
      · unfold tpR
        rw [f3, f4, f5, f1 0 (by decide) (by omega), w6, a9, w8]
        exact ⟨rfl, ⟨by decide, by decide⟩, fun j hj => absurd hj (by simp), rfl, rfl⟩
    · rw [e7]
      rw [e7] at a9
      rw [e8] at w8
      refine ⟨fun _ => ?_, fun c => absurd rfl c⟩
      rintro _ rfl
      refine hq _ _ _ _ (fun Q2 h2 => ?_)
      have yo : ∀ c, c ≠ 3 → up W 3 9 (nI t + 1) c = W c := fun c hc => up_off c hc
      refine k_X7_text (I := up W 3 9 (nI t + 1)) hF2 (tpm _ (yo 313 (by decide))) ht (by rw [yo 311 (by decide), wf 311 (by decide) (by decide) (by decide) (by omega)]; exact e11) (by rw [yo 310 (by decide), wf 310 (by decide) (by decide) (by decide) (by omega)]; exact en) hL hTR (fun I' k' p' er => by cases er) (fun I' cl' er g1 g2 g3 g4 g5 g6 g7 g8 g9 g10 g11 g12 => ?_) (fun k' p' er => by cases er)
      cases er
      have go : ∀ c, c ≠ 0 → c ≠ 3 → c ≠ 310 → c ≠ 311 → ¬ (314 ≤ c ∧ c ≤ 330) → I' c = I1 c := fun c q0 q3 q1 q2 q4 => by rw [g2 c q1 q2 q4, yo c q3, wo c q0]
      have okc' := TRw_ok m _ _ okCl_nil hTR
      refine h2 _ _ _ (RelT h ht e11 hF2 R8 (fun c q0 q1 q2 q3 q4 q5 q6 q7 => by rw [go c q0 q1 q5 q6 q7, fr c q2 q3 q4]) (fun j q1 q2 q3 => by rw [g2 0 (by decide) (by decide) (by omega), yo 0 (by decide)]; exact wj j q1 q2 q3) (fun j q => by rw [g2 3 (by decide) (by decide) (by omega), up_ni q, wf 3 (by decide) (by decide) (by decide) (by omega)]) (fun j q => by rw [g3, ud_ne q, yo 311 (by decide), wf 311 (by decide) (by decide) (by decide) (by omega)]) ?_ (fun s q => by rw [g4 s (by omega), yo 314 (by decide), wf 314 (by decide) (by decide) (by decide) (by omega)]) (fun c s q1 q2 q => by rw [g5 c s q1 q2 (by omega), yo c (by omega), wf c (by omega) (by omega) (by omega) (by omega)]) (fun c s q1 q => by rw [g6 c s q1 (by omega), yo c (by omega), wf c (by omega) (by omega) (by omega) (by omega)]) ?_ (Or.inr ⟨by rw [g3, ud_eq], ?_⟩))
      · rw [g2 3 (by decide) (by decide) (by omega), up_eq, g3, ud_eq, nI_1]
      · unfold tpR
        rw [g8, g9, g10, g2 0 (by decide) (by decide) (by omega), yo 0 (by decide), w6, a9, w8]
        exact ⟨rfl, ⟨by decide, by decide⟩, fun j hj => absurd hj (by simp), rfl, rfl⟩
      · refine lwR_new ht ?_ g1 okc' hcl hcat g12
        have gl : ∀ k, k ≤ 6 → I' (136 + 7 * t + k) = I1 (136 + 7 * t + k) := fun k hk => go _ (by omega) (by omega) (by omega) (by omega) (by omega)
        have gl0 := gl 0 (by decide)
        rw [Nat.add_zero] at gl0
        obtain ⟨r1, r2, r3, r4, r5⟩ := hrp
        unfold rpL
        rw [gl0, gl 1 (by decide), gl 2 (by decide), gl 3 (by decide), gl 4 (by decide), gl 5 (by decide), gl 6 (by decide)]
        exact ⟨r1, r2, r3, r4, r5⟩
  · rw [ti_lt, z4] at d
    exact ti_eq.mpr (by rw [z4]; omega)
